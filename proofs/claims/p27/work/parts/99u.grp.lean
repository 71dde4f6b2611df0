section
-- 99u.refsnow.lean.txt
theorem okMr.mono {cs : Nat → ClassId} {ad : Nat → Nat} {g : Nat → va_E} {i : Nat} {x y : Int} {F r st op ai fa mu tb tp : Nat → Int} (h : okMr cs ad g i x F r st op ai fa mu tb tp) (hxy : x ≤ y) : okMr cs ad g i y F r st op ai fa mu tb tp := ⟨h.1, h.2.1, h.2.2.1, h.2.2.2.1, h.2.2.2.2.1.mono hxy, h.2.2.2.2.2⟩

set_option maxRecDepth 100000 in
set_option maxHeartbeats 4000000 in
theorem c_yRight (l : Launch) (D : va_G) (A : Nat → Prop) (cs : Nat → ClassId) (tt : Nat) (N : Nat) (ad : Nat → Nat) (g : Nat → va_E) (i : Nat) (hN : i + 30 ≤ N) (F : Nat → Int) (hg : g i = mC ad i F) (h12 : F 12 = 0) (z : Int) (hz : 0 ≤ z ∧ z ≤ 1) (z1 : Int) (hz1 : 1 ≤ z1 ∧ z1 ≤ 2) : zM l yX10_right cX10_right 3 (some .boolean) ({ frames := 1, cells := 0, slots := 0, locals := 60 } : Room) D A cs tt N ad g [.ref (ad i), .int (zI (z)), .int (zI (z1))] (rI0 N ad fun r g' => (∃ F' : Nat → Int, g' i = mC ad i F' ∧ ((z = 1 ∧ r = 1 ∧ F' 12 = 0) ∨ (z = 0 ∧ r = 0 ∧ F' 12 = z1)) ∧ (∀ f, f ≠ 12 → F' f = F f)) ∧ ∀ j, j ≠ i → g' j = g j) := by
  have hay1 : zAt ad (i) (ad i) := rfl
  refine z_of (by decide) (Nat.le_of_ble_eq_true rfl) ?_
  intro pZ eZ sZ mZ below meth cZ C hr hlk hnm
  refine z_lv (lv' := [(0, .ref (ad i)), (1, .int (zI (z))), (2, .int (zI (z1)))]) [0, 1, 2] rfl ?_
  refine z_aload_n C 0 dX10_right_0 rfl ?_
  refine z_get (v := .int (zI (0))) C (lt_A0 hN rfl) hay1 hg rfl inA_X10 12 (by decide) q_1471 rfl (fv (F := F) (f := 12) h12) dX10_right_1 ?_
  refine z_if_ne (tgt := 16) C dX10_right_4 (by decide) (by omega) (fun h => absurd h (by omega)) (fun _ => ?_)
  refine z_iload_n C 1 dX10_right_7 rfl ?_
  refine z_if_ne (tgt := 16) C dX10_right_8 (by decide) (by omega) (fun hby2 => ?_) (fun hby2 => ?_)
  · refine z_aload_n C 0 dX10_right_16 rfl ?_
    refine z_get (v := .int (zI (0))) C (lt_A0 hN rfl) hay1 hg rfl inA_X10 12 (by decide) q_1471 rfl (fv (F := F) (f := 12) h12) dX10_right_17 ?_
    refine z_if_ne (tgt := 27) C dX10_right_20 (by decide) (by omega) (fun h => absurd h (by omega)) (fun _ => ?_)
    refine z_iconst (z := 1) C dX10_right_23 rfl ?_
    refine z_goto (tgt := 28) C dX10_right_24 (by decide) ?_
    have hFy3 : ∀ f, f ≠ 12 → F f = F f := fun f n12 => rfl
    have hey4 : F 12 = 0 := h12
    exact z_zret C hr hlk dX10_right_28 (by decide) (by decide) (by decide) ⟨1, rfl, rfl, rfl, ⟨_, hg, by omega, hFy3⟩, fun j j1 => by rfl⟩
  · refine z_aload_n C 0 dX10_right_11 rfl ?_
    refine z_iload_n C 2 dX10_right_12 rfl ?_
    refine z_put (fs' := mF ad (i) (uZ F 12 (z1))) C (lt_A0 hN rfl) hay1 hg tyX10 tyX10_ok nmX10 rfl inA_X10 12 (by decide) q_1471 rfl rfl rfl rfl (Nat.le_of_ble_eq_true rfl) rfl dX10_right_13 (fun gy5 egy6 => ?_)
    have hgy7 := up_s egy6
    refine z_aload_n C 0 dX10_right_16 rfl ?_
    refine z_get (v := .int (zI (z1))) C (lt_A0 hN rfl) hay1 hgy7 rfl inA_X10 12 (by decide) q_1471 rfl (fv (F := (uZ F 12 (z1))) (f := 12) (uZ_s _ _ _)) dX10_right_17 ?_
    refine z_if_ne (tgt := 27) C dX10_right_20 (by decide) (by omega) (fun hby8 => ?_) (fun hby8 => ?_)
    · refine z_iconst (z := 0) C dX10_right_27 rfl ?_
      have hFy9 : ∀ f, f ≠ 12 → (uZ F 12 (z1)) f = F f := fun f n12 => ((uZ_n _ _ n12).trans rfl)
      have hey10 : (uZ F 12 (z1)) 12 = z1 := (uZ_s _ _ _)
      exact z_zret C hr hlk dX10_right_28 (by decide) (by decide) (by decide) ⟨0, rfl, rfl, rfl, ⟨_, hgy7, by omega, hFy9⟩, fun j j1 => by rw [egy6, va_up_ne _ _ (by omega)]⟩
    · refine z_iconst (z := 1) C dX10_right_23 rfl ?_
      refine z_goto (tgt := 28) C dX10_right_24 (by decide) ?_
      have hFy11 : ∀ f, f ≠ 12 → (uZ F 12 (z1)) f = F f := fun f n12 => ((uZ_n _ _ n12).trans rfl)
      have hey12 : (uZ F 12 (z1)) 12 = z1 := (uZ_s _ _ _)
      exact z_zret C hr hlk dX10_right_28 (by decide) (by decide) (by decide) ⟨1, rfl, rfl, rfl, ⟨_, hgy7, by omega, hFy11⟩, fun j j1 => by rw [egy6, va_up_ne _ _ (by omega)]⟩

set_option maxRecDepth 100000 in
set_option maxHeartbeats 4000000 in
theorem c_ySnow0 (l : Launch) (D : va_G) (A : Nat → Prop) (cs : Nat → ClassId) (tt : Nat) (N : Nat) (ad : Nat → Nat) (g : Nat → va_E) (i : Nat) (hN : i + 30 ≤ N) (x : Int) (hx : 0 ≤ x ∧ x ≤ 512) (F r : Nat → Int) {st op ai fa mu tb tp : Nat → Int} (hM : okMr cs ad g i x F r st op ai fa mu tb tp) (z : Int) (hz : -2147483648 ≤ z ∧ z ≤ 2147483647) (hzo : z < 0 ∨ F 23 < z) : zM l yX10_snow cX10_snow 3 (some .int) ({ frames := 8, cells := 0, slots := 0, locals := 480 } : Room) D A cs tt N ad g [.ref (ad i), .int (zI (z))] (rI0 N ad fun q g' => q = 0 ∧ (∃ F' r' : Nat → Int, okMr cs ad g' i (x + 1) F' r' st op ai fa mu tb tp ∧ F' 12 = 1 ∧ (F' 13 = F 13 ∧ F' 14 = F 14 ∧ F' 17 = F 17 ∧ F' 20 = F 20 ∧ F' 21 = F 21 ∧ F' 23 = F 23 ∧ F' 24 = F 24)) ∧ ∀ j, j < i ∨ i + 30 ≤ j → g' j = g j) := by
  obtain ⟨hg, ⟨⟨e13, e14, e25, e27, e29⟩, k15, k16, k17, k18, k19, k20, k23, k21⟩, hRD, hTx, hA, ns, nh, nd, rf, pi, te, ki, li, ok1, ok2, fo, dd, dps, ⟨ha1, ha2, ha3, ha4, ha5, ha6, ha7, ha8, ha9, ha10, ha11, ha12, ha13, ha14, ha15, ha24, ha25, ha26, ha27, ha28, ha29⟩, hEv, hPt, hns, htp⟩ := id hM
  obtain ⟨-, hop, hai, hfa, hT, hT1⟩ := id hEv
  have hay1 : zAt ad (i) (ad i) := rfl
  have hay2 : zAt ad (i + 1) (ad (i + 1)) := rfl
  have hay3 : zAt ad (i + 2) (ad (i + 2)) := rfl
  have hay4 : zAt ad (i + 3) (ad (i + 3)) := rfl
  have hay5 : zAt ad (i + 4) (ad (i + 4)) := rfl
  have hay6 : zAt ad (i + 5) (ad (i + 5)) := rfl
  have hay7 : zAt ad (i + 6) (ad (i + 6)) := rfl
  have hay8 : zAt ad (i + 7) (ad (i + 7)) := rfl
  have hay9 : zAt ad (i + 8) (ad (i + 8)) := rfl
  have hay10 : zAt ad (i + 9) (ad (i + 9)) := rfl
  have hay11 : zAt ad (i + 10) (ad (i + 10)) := rfl
  have hay12 : zAt ad (i + 11) (ad (i + 11)) := rfl
  have hay13 : zAt ad (i + 12) (ad (i + 12)) := rfl
  have hay14 : zAt ad (i + 13) (ad (i + 13)) := rfl
  have hay15 : zAt ad (i + 14) (ad (i + 14)) := rfl
  have hay16 : zAt ad (i + 15) (ad (i + 15)) := rfl
  have hay17 : zAt ad (i + 24) (ad (i + 24)) := rfl
  have hay18 : zAt ad (i + 25) (ad (i + 25)) := rfl
  have hay19 : zAt ad (i + 26) (ad (i + 26)) := rfl
  have hay20 : zAt ad (i + 27) (ad (i + 27)) := rfl
  have hay21 : zAt ad (i + 28) (ad (i + 28)) := rfl
  have hay22 : zAt ad (i + 29) (ad (i + 29)) := rfl
  obtain ⟨⟨hsyy23, htyy23, hnyy23, hpyy23⟩, hlyy23⟩ := okA.at0 hA
  simp only [Nat.zero_add] at hsyy23 hnyy23 hpyy23
  have hmn : ∀ s, s < 4 → 0 ≤ r (6 + 86 * s) ∧ r (6 + 86 * s) ≤ 12 := fun s hs => (hsyy23 s hs).1
  have h5 : 0 ≤ r 5 ∧ r 5 ≤ 6 := hpyy23
  refine z_of (by decide) (Nat.le_of_ble_eq_true rfl) ?_
  intro pZ eZ sZ mZ below meth cZ C hr hlk hnm
  refine z_lv (lv' := [(0, .ref (ad i)), (1, .int (zI (z)))]) [0, 1] rfl ?_
  refine z_aload_n C 0 dX10_snow_0 rfl ?_
  refine z_iconst (z := 0) C dX10_snow_1 rfl ?_
  refine z_put (fs' := mF ad (i) (uZ F 12 (0))) C (lt_A0 hN rfl) hay1 hg tyX10 tyX10_ok nmX10 rfl inA_X10 12 (by decide) q_1471 rfl rfl rfl rfl (Nat.le_of_ble_eq_true rfl) rfl dX10_snow_2 (fun gy24 egy25 => ?_)
  have hgy26 := up_s egy25
  refine z_aload_n C 0 dX10_snow_5 rfl ?_
  refine z_iload_n C 1 dX10_snow_6 rfl ?_
  refine z_if_lt (tgt := 22) C dX10_snow_7 (by decide) (by omega) (fun hby27 => ?_) (fun hby27 => ?_)
  · refine z_iconst (z := 0) C dX10_snow_22 rfl ?_
    refine z_iconst (z := 1) C dX10_snow_23 rfl ?_
    refine z_cV (As := [.int (zI (0)), .int (zI (1))]) (rest := []) (ci := 12) C (c_yRight l D A cs tt N ad _ i hN _ hgy26 (uZ_s _ _ _) (0) (by omega) (1) (by omega)) (lt_A0 hN rfl) hay1 hgy26 rfl rfl mv_yX10_right q_1648 hd_yX10_right (by decide) (Nat.le_of_ble_eq_true rfl) (by decide) dX10_snow_24 rfl (kI0 fun vy28 gvy28 hvy28 => ?_)
    obtain ⟨⟨Fvy28, hcvy28, hqvy28, hFvy28⟩, hfvy28⟩ := hvy28
    obtain ⟨rfl, hevy28⟩ : vy28 = 0 ∧ Fvy28 12 = 1 := by omega
    clear hqvy28
    refine z_if_ne (tgt := 32) C dX10_snow_27 (by decide) (by omega) (fun h => absurd h (by omega)) (fun _ => ?_)
    refine z_iconst (z := 0) C dX10_snow_30 rfl ?_
    have hgy29 := up_n egy25 ha1 (ne_o (i := i) (c := 1) (d := 0) rfl)
    have hgy30 := (hfvy28 (i + 1) (ne_o (i := i) (c := 1) (d := 0) rfl)).trans hgy29
    have hFy31 : ∀ f, f ≠ 12 → Fvy28 f = F f := fun f n12 => ((hFvy28 f n12).trans ((uZ_n _ _ n12).trans rfl))
    have hey32 : Fvy28 13 = F 13 := ((hFvy28 13 (by decide)).trans (fn rfl (by decide)))
    have hey33 : Fvy28 14 = F 14 := ((hFvy28 14 (by decide)).trans (fn rfl (by decide)))
    have hey34 : Fvy28 15 = F 15 := ((hFvy28 15 (by decide)).trans (fn rfl (by decide)))
    have hey35 : Fvy28 16 = F 16 := ((hFvy28 16 (by decide)).trans (fn rfl (by decide)))
    have hey36 : Fvy28 17 = F 17 := ((hFvy28 17 (by decide)).trans (fn rfl (by decide)))
    have hey37 : Fvy28 18 = F 18 := ((hFvy28 18 (by decide)).trans (fn rfl (by decide)))
    have hey38 : Fvy28 19 = F 19 := ((hFvy28 19 (by decide)).trans (fn rfl (by decide)))
    have hey39 : Fvy28 20 = F 20 := ((hFvy28 20 (by decide)).trans (fn rfl (by decide)))
    have hey40 : Fvy28 21 = F 21 := ((hFvy28 21 (by decide)).trans (fn rfl (by decide)))
    have hey41 : Fvy28 23 = F 23 := ((hFvy28 23 (by decide)).trans (fn rfl (by decide)))
    have hey42 : Fvy28 25 = F 25 := ((hFvy28 25 (by decide)).trans (fn rfl (by decide)))
    have hey43 : Fvy28 27 = F 27 := ((hFvy28 27 (by decide)).trans (fn rfl (by decide)))
    have hey44 : Fvy28 28 = F 28 := ((hFvy28 28 (by decide)).trans (fn rfl (by decide)))
    have hey45 : Fvy28 29 = F 29 := ((hFvy28 29 (by decide)).trans (fn rfl (by decide)))
    have hKy46 : okF Fvy28 := okF.mv hM.2.1 hey32 hey33 hey34 hey35 hey36 hey37 hey38 hey39 hey40 hey41 hey42 hey43 hey44 hey45
    have hMy47 : okMr cs ad gvy28 i (x + 1) Fvy28 r st op ai fa mu tb tp := okMr.upd hM hcvy28 hKy46 (fun f a => hFy31 f (by omega)) hgy30 (hA.mono (by omega)) (fun j a b => by
        exact Or.inl (by rw [hfvy28 _ (by omega)]; rw [egy25, va_up_ne _ _ (by omega)]))
    have hkpy48 : Fvy28 13 = F 13 := ((hFvy28 13 (by decide)).trans (fn rfl (by decide)))
    have hkpy49 : Fvy28 14 = F 14 := ((hFvy28 14 (by decide)).trans (fn rfl (by decide)))
    have hkpy50 : Fvy28 17 = F 17 := ((hFvy28 17 (by decide)).trans (fn rfl (by decide)))
    have hkpy51 : Fvy28 20 = F 20 := ((hFvy28 20 (by decide)).trans (fn rfl (by decide)))
    have hkpy52 : Fvy28 21 = F 21 := ((hFvy28 21 (by decide)).trans (fn rfl (by decide)))
    have hkpy53 : Fvy28 23 = F 23 := ((hFvy28 23 (by decide)).trans (fn rfl (by decide)))
    have hkpy54 : Fvy28 24 = F 24 := ((hFvy28 24 (by decide)).trans (fn rfl (by decide)))
    have h12 : Fvy28 12 = 1 := hevy28
    exact z_iret C hr hlk dX10_snow_31 (by decide) (by decide) ⟨0, rfl, rfl, rfl, by omega, ⟨_, _, hMy47, by omega, ⟨hkpy48, hkpy49, hkpy50, hkpy51, hkpy52, hkpy53, hkpy54⟩⟩, fun j j1 => by rw [hfvy28 _ (by omega)]; rw [egy25, va_up_ne _ _ (by omega)]⟩
  · refine z_iload_n C 1 dX10_snow_10 rfl ?_
    refine z_aload_n C 0 dX10_snow_11 rfl ?_
    refine z_get (v := .int (zI (F 23))) C (lt_A0 hN rfl) hay1 hgy26 rfl inA_X10 23 (by decide) q_1482 rfl (fv (F := (uZ F 12 (0))) (f := 23) (fn rfl (by decide))) dX10_snow_12 ?_
    refine z_icmp_gt (tgt := 22) C dX10_snow_15 (by decide) (by omega) (by omega) (fun hby55 => ?_) (fun hby55 => ?_)
    · refine z_iconst (z := 0) C dX10_snow_22 rfl ?_
      refine z_iconst (z := 1) C dX10_snow_23 rfl ?_
      refine z_cV (As := [.int (zI (0)), .int (zI (1))]) (rest := []) (ci := 12) C (c_yRight l D A cs tt N ad _ i hN _ hgy26 (uZ_s _ _ _) (0) (by omega) (1) (by omega)) (lt_A0 hN rfl) hay1 hgy26 rfl rfl mv_yX10_right q_1648 hd_yX10_right (by decide) (Nat.le_of_ble_eq_true rfl) (by decide) dX10_snow_24 rfl (kI0 fun vy56 gvy56 hvy56 => ?_)
      obtain ⟨⟨Fvy56, hcvy56, hqvy56, hFvy56⟩, hfvy56⟩ := hvy56
      obtain ⟨rfl, hevy56⟩ : vy56 = 0 ∧ Fvy56 12 = 1 := by omega
      clear hqvy56
      refine z_if_ne (tgt := 32) C dX10_snow_27 (by decide) (by omega) (fun h => absurd h (by omega)) (fun _ => ?_)
      refine z_iconst (z := 0) C dX10_snow_30 rfl ?_
      have hgy57 := up_n egy25 ha1 (ne_o (i := i) (c := 1) (d := 0) rfl)
      have hgy58 := (hfvy56 (i + 1) (ne_o (i := i) (c := 1) (d := 0) rfl)).trans hgy57
      have hFy59 : ∀ f, f ≠ 12 → Fvy56 f = F f := fun f n12 => ((hFvy56 f n12).trans ((uZ_n _ _ n12).trans rfl))
      have hey60 : Fvy56 13 = F 13 := ((hFvy56 13 (by decide)).trans (fn rfl (by decide)))
      have hey61 : Fvy56 14 = F 14 := ((hFvy56 14 (by decide)).trans (fn rfl (by decide)))
      have hey62 : Fvy56 15 = F 15 := ((hFvy56 15 (by decide)).trans (fn rfl (by decide)))
      have hey63 : Fvy56 16 = F 16 := ((hFvy56 16 (by decide)).trans (fn rfl (by decide)))
      have hey64 : Fvy56 17 = F 17 := ((hFvy56 17 (by decide)).trans (fn rfl (by decide)))
      have hey65 : Fvy56 18 = F 18 := ((hFvy56 18 (by decide)).trans (fn rfl (by decide)))
      have hey66 : Fvy56 19 = F 19 := ((hFvy56 19 (by decide)).trans (fn rfl (by decide)))
      have hey67 : Fvy56 20 = F 20 := ((hFvy56 20 (by decide)).trans (fn rfl (by decide)))
      have hey68 : Fvy56 21 = F 21 := ((hFvy56 21 (by decide)).trans (fn rfl (by decide)))
      have hey69 : Fvy56 23 = F 23 := ((hFvy56 23 (by decide)).trans (fn rfl (by decide)))
      have hey70 : Fvy56 25 = F 25 := ((hFvy56 25 (by decide)).trans (fn rfl (by decide)))
      have hey71 : Fvy56 27 = F 27 := ((hFvy56 27 (by decide)).trans (fn rfl (by decide)))
      have hey72 : Fvy56 28 = F 28 := ((hFvy56 28 (by decide)).trans (fn rfl (by decide)))
      have hey73 : Fvy56 29 = F 29 := ((hFvy56 29 (by decide)).trans (fn rfl (by decide)))
      have hKy74 : okF Fvy56 := okF.mv hM.2.1 hey60 hey61 hey62 hey63 hey64 hey65 hey66 hey67 hey68 hey69 hey70 hey71 hey72 hey73
      have hMy75 : okMr cs ad gvy56 i (x + 1) Fvy56 r st op ai fa mu tb tp := okMr.upd hM hcvy56 hKy74 (fun f a => hFy59 f (by omega)) hgy58 (hA.mono (by omega)) (fun j a b => by
          exact Or.inl (by rw [hfvy56 _ (by omega)]; rw [egy25, va_up_ne _ _ (by omega)]))
      have hkpy76 : Fvy56 13 = F 13 := ((hFvy56 13 (by decide)).trans (fn rfl (by decide)))
      have hkpy77 : Fvy56 14 = F 14 := ((hFvy56 14 (by decide)).trans (fn rfl (by decide)))
      have hkpy78 : Fvy56 17 = F 17 := ((hFvy56 17 (by decide)).trans (fn rfl (by decide)))
      have hkpy79 : Fvy56 20 = F 20 := ((hFvy56 20 (by decide)).trans (fn rfl (by decide)))
      have hkpy80 : Fvy56 21 = F 21 := ((hFvy56 21 (by decide)).trans (fn rfl (by decide)))
      have hkpy81 : Fvy56 23 = F 23 := ((hFvy56 23 (by decide)).trans (fn rfl (by decide)))
      have hkpy82 : Fvy56 24 = F 24 := ((hFvy56 24 (by decide)).trans (fn rfl (by decide)))
      have h12 : Fvy56 12 = 1 := hevy56
      exact z_iret C hr hlk dX10_snow_31 (by decide) (by decide) ⟨0, rfl, rfl, rfl, by omega, ⟨_, _, hMy75, by omega, ⟨hkpy76, hkpy77, hkpy78, hkpy79, hkpy80, hkpy81, hkpy82⟩⟩, fun j j1 => by rw [hfvy56 _ (by omega)]; rw [egy25, va_up_ne _ _ (by omega)]⟩
    · exfalso; omega

set_option maxRecDepth 100000 in
set_option maxHeartbeats 4000000 in
theorem c_ySnow1 (l : Launch) (D : va_G) (A : Nat → Prop) (cs : Nat → ClassId) (tt : Nat) (N : Nat) (ad : Nat → Nat) (g : Nat → va_E) (i : Nat) (hN : i + 30 ≤ N) (x : Int) (hx : 0 ≤ x ∧ x ≤ 512) (F r : Nat → Int) {st op ai fa mu tb tp : Nat → Int} (hM : okMr cs ad g i x F r st op ai fa mu tb tp) (T : Nat → Int) (n : Nat) (hTb : ∀ k, k < n → 0 ≤ T k ∧ T k ≤ 255) (hTt : ∀ k, k < n → tp k = T k) (st0 op0 ai0 fa0 mu0 : Nat → Int) (L0 : Nat → Nat → Int) (z : Int) (hzn : z = (n : Int)) (hzt : z ≤ F 23) : zM l yX10_snow cX10_snow 3 (some .int) ({ frames := 8, cells := 0, slots := 0, locals := 480 } : Room) D A cs tt N ad g [.ref (ad i), .int (zI (z))] (rI0 N ad fun q g' => (0 ≤ q ∧ q ≤ 5) ∧ (∃ (k9 : Nat) (pl9 : Int) (s9 : Int × Int × Int × (Nat → Int) × (Nat → Int) × (Nat → Int) × (Nat → Int) × (Nat → Int) × (Nat → Int) × (Nat → Int) × (Nat → Int) × (Nat → Nat → Int)), ps_run T n k9 (0, 0, 0, (fun _ => 0), st0, op0, ai0, fa0, mu0, tabZ, (fun _ => 0), L0) (tk_at T n 0) = some ((q, pl9), s9) ∧ ((q = 0 ∧ (∃ F' r' st' op' ai' fa' mu' tb' : Nat → Int, okMr cs ad g' i (x + 1) F' r' st' op' ai' fa' mu' tb' tp ∧ F' 12 = 0 ∧ (F' 13 = s9.1 ∧ F' 14 = s9.2.1 ∧ F' 17 = 0 ∧ F' 20 = F 20 ∧ F' 21 = 0 ∧ F' 23 = 0 ∧ F' 24 = pl9) ∧ dT s9 st' op' ai' fa' mu' tb')) ∨ (q ≠ 0 ∧ (∃ F' r' : Nat → Int, okMr cs ad g' i (x + 1) F' r' st op ai fa mu tb tp ∧ F' 12 = 0 ∧ (F' 13 = F 13 ∧ F' 14 = F 14 ∧ F' 17 = F 17 ∧ F' 20 = F 20 ∧ F' 21 = F 21 ∧ F' 23 = 0 ∧ F' 24 = pl9))))) ∧ ∀ j, j < i ∨ i + 30 ≤ j → g' j = g j) := by
  subst hzn
  obtain ⟨hg, ⟨⟨e13, e14, e25, e27, e29⟩, k15, k16, k17, k18, k19, k20, k23, k21⟩, hRD, hTx, hA, ns, nh, nd, rf, pi, te, ki, li, ok1, ok2, fo, dd, dps, ⟨ha1, ha2, ha3, ha4, ha5, ha6, ha7, ha8, ha9, ha10, ha11, ha12, ha13, ha14, ha15, ha24, ha25, ha26, ha27, ha28, ha29⟩, hEv, hPt, hns, htp⟩ := id hM
  obtain ⟨-, hop, hai, hfa, hT, hT1⟩ := id hEv
  have hay1 : zAt ad (i) (ad i) := rfl
  have hay2 : zAt ad (i + 1) (ad (i + 1)) := rfl
  have hay3 : zAt ad (i + 2) (ad (i + 2)) := rfl
  have hay4 : zAt ad (i + 3) (ad (i + 3)) := rfl
  have hay5 : zAt ad (i + 4) (ad (i + 4)) := rfl
  have hay6 : zAt ad (i + 5) (ad (i + 5)) := rfl
  have hay7 : zAt ad (i + 6) (ad (i + 6)) := rfl
  have hay8 : zAt ad (i + 7) (ad (i + 7)) := rfl
  have hay9 : zAt ad (i + 8) (ad (i + 8)) := rfl
  have hay10 : zAt ad (i + 9) (ad (i + 9)) := rfl
  have hay11 : zAt ad (i + 10) (ad (i + 10)) := rfl
  have hay12 : zAt ad (i + 11) (ad (i + 11)) := rfl
  have hay13 : zAt ad (i + 12) (ad (i + 12)) := rfl
  have hay14 : zAt ad (i + 13) (ad (i + 13)) := rfl
  have hay15 : zAt ad (i + 14) (ad (i + 14)) := rfl
  have hay16 : zAt ad (i + 15) (ad (i + 15)) := rfl
  have hay17 : zAt ad (i + 24) (ad (i + 24)) := rfl
  have hay18 : zAt ad (i + 25) (ad (i + 25)) := rfl
  have hay19 : zAt ad (i + 26) (ad (i + 26)) := rfl
  have hay20 : zAt ad (i + 27) (ad (i + 27)) := rfl
  have hay21 : zAt ad (i + 28) (ad (i + 28)) := rfl
  have hay22 : zAt ad (i + 29) (ad (i + 29)) := rfl
  obtain ⟨⟨hsyy23, htyy23, hnyy23, hpyy23⟩, hlyy23⟩ := okA.at0 hA
  simp only [Nat.zero_add] at hsyy23 hnyy23 hpyy23
  have hmn : ∀ s, s < 4 → 0 ≤ r (6 + 86 * s) ∧ r (6 + 86 * s) ≤ 12 := fun s hs => (hsyy23 s hs).1
  have h5 : 0 ≤ r 5 ∧ r 5 ≤ 6 := hpyy23
  obtain ⟨st1, op1, mn1, ai1, fa1, mu1, tb1, ly1, ⟨ha16, ha17, ha18, ha19, ha20, ha21, ha22, ha23⟩, ⟨⟨t47, t48, t49⟩, hop1, hmn1, hai1, hfa1, hly1⟩⟩ := id hTx
  have hay24 : zAt ad (i + 16) (ad (i + 16)) := rfl
  have hay25 : zAt ad (i + 17) (ad (i + 17)) := rfl
  have hay26 : zAt ad (i + 18) (ad (i + 18)) := rfl
  have hay27 : zAt ad (i + 19) (ad (i + 19)) := rfl
  have hay28 : zAt ad (i + 20) (ad (i + 20)) := rfl
  have hay29 : zAt ad (i + 21) (ad (i + 21)) := rfl
  have hay30 : zAt ad (i + 22) (ad (i + 22)) := rfl
  have hay31 : zAt ad (i + 23) (ad (i + 23)) := rfl
  have hn : n ≤ 900 := by omega
  refine z_of (by decide) (Nat.le_of_ble_eq_true rfl) ?_
  intro pZ eZ sZ mZ below meth cZ C hr hlk hnm
  refine z_lv (lv' := [(0, .ref (ad i)), (1, .int (zI ((n : Int))))]) [0, 1] rfl ?_
  refine z_aload_n C 0 dX10_snow_0 rfl ?_
  refine z_iconst (z := 0) C dX10_snow_1 rfl ?_
  refine z_put (fs' := mF ad (i) (uZ F 12 (0))) C (lt_A0 hN rfl) hay1 hg tyX10 tyX10_ok nmX10 rfl inA_X10 12 (by decide) q_1471 rfl rfl rfl rfl (Nat.le_of_ble_eq_true rfl) rfl dX10_snow_2 (fun gy32 egy33 => ?_)
  have hgy34 := up_s egy33
  refine z_aload_n C 0 dX10_snow_5 rfl ?_
  refine z_iload_n C 1 dX10_snow_6 rfl ?_
  refine z_if_lt (tgt := 22) C dX10_snow_7 (by decide) (by omega) (fun h => absurd h (by omega)) (fun _ => ?_)
  refine z_iload_n C 1 dX10_snow_10 rfl ?_
  refine z_aload_n C 0 dX10_snow_11 rfl ?_
  refine z_get (v := .int (zI (F 23))) C (lt_A0 hN rfl) hay1 hgy34 rfl inA_X10 23 (by decide) q_1482 rfl (fv (F := (uZ F 12 (0))) (f := 23) (fn rfl (by decide))) dX10_snow_12 ?_
  refine z_icmp_gt (tgt := 22) C dX10_snow_15 (by decide) (by omega) (by omega) (fun h => absurd h (by omega)) (fun _ => ?_)
  refine z_iconst (z := 1) C dX10_snow_18 rfl ?_
  refine z_goto (tgt := 23) C dX10_snow_19 (by decide) ?_
  refine z_iconst (z := 1) C dX10_snow_23 rfl ?_
  refine z_cV (As := [.int (zI (1)), .int (zI (1))]) (rest := []) (ci := 12) C (c_yRight l D A cs tt N ad _ i hN _ hgy34 (uZ_s _ _ _) (1) (by omega) (1) (by omega)) (lt_A0 hN rfl) hay1 hgy34 rfl rfl mv_yX10_right q_1648 hd_yX10_right (by decide) (Nat.le_of_ble_eq_true rfl) (by decide) dX10_snow_24 rfl (kI0 fun vy35 gvy35 hvy35 => ?_)
  obtain ⟨⟨Fvy35, hcvy35, hqvy35, hFvy35⟩, hfvy35⟩ := hvy35
  obtain ⟨rfl, hevy35⟩ : vy35 = 1 ∧ Fvy35 12 = 0 := by omega
  clear hqvy35
  refine z_if_ne (tgt := 32) C dX10_snow_27 (by decide) (by omega) (fun _ => ?_) (fun h => absurd h (by omega))
  refine z_aload_n C 0 dX10_snow_32 rfl ?_
  refine z_iconst (z := 0) C dX10_snow_33 rfl ?_
  refine z_put (fs' := mF ad (i) (uZ Fvy35 23 (0))) C (lt_A0 hN rfl) hay1 hcvy35 tyX10 tyX10_ok nmX10 rfl inA_X10 23 (by decide) q_1482 rfl rfl rfl rfl (Nat.le_of_ble_eq_true rfl) rfl dX10_snow_34 (fun gy36 egy37 => ?_)
  have hgy38 := up_s egy37
  refine z_aload_n C 0 dX10_snow_37 rfl ?_
  refine z_iload_n C 1 dX10_snow_38 rfl ?_
  refine z_put (fs' := mF ad (i) (uZ (uZ Fvy35 23 (0)) 34 ((n : Int)))) C (lt_A0 hN rfl) hay1 hgy38 tyX10 tyX10_ok nmX10 rfl inA_X10 34 (by decide) q_1493 rfl rfl rfl rfl (Nat.le_of_ble_eq_true rfl) rfl dX10_snow_39 (fun gy39 egy40 => ?_)
  have hgy41 := up_s egy40
  refine z_aload_n C 0 dX10_snow_42 rfl ?_
  refine z_iconst (z := 0) C dX10_snow_43 rfl ?_
  refine z_put (fs' := mF ad (i) (uZ (uZ (uZ Fvy35 23 (0)) 34 ((n : Int))) 32 (0))) C (lt_A0 hN rfl) hay1 hgy41 tyX10 tyX10_ok nmX10 rfl inA_X10 32 (by decide) q_1491 rfl rfl rfl rfl (Nat.le_of_ble_eq_true rfl) rfl dX10_snow_44 (fun gy42 egy43 => ?_)
  have hgy44 := up_s egy43
  refine z_aload_n C 0 dX10_snow_47 rfl ?_
  refine z_iconst (z := 0) C dX10_snow_48 rfl ?_
  refine z_put (fs' := mF ad (i) (uZ (uZ (uZ (uZ Fvy35 23 (0)) 34 ((n : Int))) 32 (0)) 38 (0))) C (lt_A0 hN rfl) hay1 hgy44 tyX10 tyX10_ok nmX10 rfl inA_X10 38 (by decide) q_1497 rfl rfl rfl rfl (Nat.le_of_ble_eq_true rfl) rfl dX10_snow_49 (fun gy45 egy46 => ?_)
  have hgy47 := up_s egy46
  refine z_aload_n C 0 dX10_snow_52 rfl ?_
  refine z_iconst (z := -1) C dX10_snow_53 rfl ?_
  refine z_put (fs' := mF ad (i) (uZ (uZ (uZ (uZ (uZ Fvy35 23 (0)) 34 ((n : Int))) 32 (0)) 38 (0)) 24 (-1))) C (lt_A0 hN rfl) hay1 hgy47 tyX10 tyX10_ok nmX10 rfl inA_X10 24 (by decide) q_1483 rfl rfl rfl rfl (Nat.le_of_ble_eq_true rfl) rfl dX10_snow_54 (fun gy48 egy49 => ?_)
  have hgy50 := up_s egy49
  refine z_aload_n C 0 dX10_snow_57 rfl ?_
  refine z_aload_n C 0 dX10_snow_58 rfl ?_
  refine z_aload_n C 0 dX10_snow_59 rfl ?_
  refine z_iconst (z := 0) C dX10_snow_60 rfl ?_
  refine z_dup_x1 C dX10_snow_61 rfl rfl ?_
  refine z_put (fs' := mF ad (i) (uZ (uZ (uZ (uZ (uZ (uZ Fvy35 23 (0)) 34 ((n : Int))) 32 (0)) 38 (0)) 24 (-1)) 49 (0))) C (lt_A0 hN rfl) hay1 hgy50 tyX10 tyX10_ok nmX10 rfl inA_X10 49 (by decide) q_1508 rfl rfl rfl rfl (Nat.le_of_ble_eq_true rfl) rfl dX10_snow_62 (fun gy51 egy52 => ?_)
  have hgy53 := up_s egy52
  refine z_dup_x1 C dX10_snow_65 rfl rfl ?_
  refine z_put (fs' := mF ad (i) (uZ (uZ (uZ (uZ (uZ (uZ (uZ Fvy35 23 (0)) 34 ((n : Int))) 32 (0)) 38 (0)) 24 (-1)) 49 (0)) 48 (0))) C (lt_A0 hN rfl) hay1 hgy53 tyX10 tyX10_ok nmX10 rfl inA_X10 48 (by decide) q_1507 rfl rfl rfl rfl (Nat.le_of_ble_eq_true rfl) rfl dX10_snow_66 (fun gy54 egy55 => ?_)
  have hgy56 := up_s egy55
  refine z_put (fs' := mF ad (i) (uZ (uZ (uZ (uZ (uZ (uZ (uZ (uZ Fvy35 23 (0)) 34 ((n : Int))) 32 (0)) 38 (0)) 24 (-1)) 49 (0)) 48 (0)) 47 (0))) C (lt_A0 hN rfl) hay1 hgy56 tyX10 tyX10_ok nmX10 rfl inA_X10 47 (by decide) q_1506 rfl rfl rfl rfl (Nat.le_of_ble_eq_true rfl) rfl dX10_snow_69 (fun gy57 egy58 => ?_)
  have hgy59 := up_s egy58
  refine z_iconst (z := 0) C dX10_snow_72 rfl ?_
  refine z_istore_n (lv' := [(2, .int (zI (0))), (0, .ref (ad i)), (1, .int (zI ((n : Int))))]) C dX10_snow_73 rfl (by decide) rfl ?_
  have A : ∀ (n9 : Nat) (ka : Int) (t9 : Nat → Int) (g1 : Nat → va_E), (16 - ka).toNat = n9 → (g1 (i + 22) = iA cs 15 t9) → (∀ j, j ≠ i + 22 → g1 j = gy57 j) → (∀ k : Nat, (k : Int) < ka → t9 k = -1) → (0 ≤ ka ∧ ka ≤ 15) → zV pZ l eZ ({ frames := 8, cells := 0, slots := 0, locals := 480 } : Room) sZ mZ ([.ref (ad i), .int (zI (n : Int))] : List Value).toArray below meth cZ (MQ below (zPost D A (rI0 N ad fun q g' => (0 ≤ q ∧ q ≤ 5) ∧ (∃ (k9 : Nat) (pl9 : Int) (s9 : Int × Int × Int × (Nat → Int) × (Nat → Int) × (Nat → Int) × (Nat → Int) × (Nat → Int) × (Nat → Int) × (Nat → Int) × (Nat → Int) × (Nat → Nat → Int)), ps_run T n k9 (0, 0, 0, (fun _ => 0), st0, op0, ai0, fa0, mu0, tabZ, (fun _ => 0), L0) (tk_at T n 0) = some ((q, pl9), s9) ∧ ((q = 0 ∧ (∃ F' r' st' op' ai' fa' mu' tb' : Nat → Int, okMr cs ad g' i (x + 1) F' r' st' op' ai' fa' mu' tb' tp ∧ F' 12 = 0 ∧ (F' 13 = s9.1 ∧ F' 14 = s9.2.1 ∧ F' 17 = 0 ∧ F' 20 = F 20 ∧ F' 21 = 0 ∧ F' 23 = 0 ∧ F' 24 = pl9) ∧ dT s9 st' op' ai' fa' mu' tb')) ∨ (q ≠ 0 ∧ (∃ F' r' : Nat → Int, okMr cs ad g' i (x + 1) F' r' st op ai fa mu tb tp ∧ F' 12 = 0 ∧ (F' 13 = F 13 ∧ F' 14 = F 14 ∧ F' 17 = F 17 ∧ F' 20 = F 20 ∧ F' 21 = F 21 ∧ F' 23 = 0 ∧ F' 24 = pl9))))) ∧ ∀ j, j < i ∨ i + 30 ≤ j → g' j = g j)) ([.ref (ad i), .int (zI (n : Int))] : List Value).toArray sZ ({ frames := 8, cells := 0, slots := 0, locals := 480 } : Room).cells ({ frames := 8, cells := 0, slots := 0, locals := 480 } : Room).slots A) D A 3 (N) ad g1 (0) (0) 74 [(0, .ref (ad i)), (1, .int (zI ((n : Int)))), (2, .int (zI (ka)))] [] := by
    intro n9
    induction n9 using Nat.strongRecOn with
    | ind n9 ih_A =>
      intro ka t9 g1 hm9 f2A_t9 f3A fTa hvkA
      obtain ⟨nkA, hnkA⟩ : ∃ n9 : Nat, ka = (n9 : Int) := ⟨ka.toNat, by omega⟩
      refine z_iload_n C 2 dX10_snow_74 rfl ?_
      refine z_bipush (z := 15) C dX10_snow_75 (by decide) ?_
      refine z_icmp_ge (tgt := 93) C dX10_snow_77 (by decide) (by omega) (by omega) (fun hby60 => ?_) (fun hby60 => ?_)
      · refine z_aload_n C 0 dX10_snow_93 rfl ?_
        have hgy61 := (f3A (i) (ne_o (i := i) (c := 0) (d := 22) rfl)).trans hgy59
        have hgy62 := up_n egy33 ha13 (ne_o (i := i) (c := 13) (d := 0) rfl)
        have hgy63 := (hfvy35 (i + 13) (ne_o (i := i) (c := 13) (d := 0) rfl)).trans hgy62
        have hgy64 := up_n egy37 hgy63 (ne_o (i := i) (c := 13) (d := 0) rfl)
        have hgy65 := up_n egy40 hgy64 (ne_o (i := i) (c := 13) (d := 0) rfl)
        have hgy66 := up_n egy43 hgy65 (ne_o (i := i) (c := 13) (d := 0) rfl)
        have hgy67 := up_n egy46 hgy66 (ne_o (i := i) (c := 13) (d := 0) rfl)
        have hgy68 := up_n egy49 hgy67 (ne_o (i := i) (c := 13) (d := 0) rfl)
        have hgy69 := up_n egy52 hgy68 (ne_o (i := i) (c := 13) (d := 0) rfl)
        have hgy70 := up_n egy55 hgy69 (ne_o (i := i) (c := 13) (d := 0) rfl)
        have hgy71 := up_n egy58 hgy70 (ne_o (i := i) (c := 13) (d := 0) rfl)
        have hgy72 := (f3A (i + 13) (ne_o (i := i) (c := 13) (d := 22) rfl)).trans hgy71
        have h32vy73 : (uZ (uZ (uZ (uZ (uZ (uZ (uZ (uZ Fvy35 23 (0)) 34 ((n : Int))) 32 (0)) 38 (0)) 24 (-1)) 49 (0)) 48 (0)) 47 (0)) 32 = 0 := (fn (fn (fn (fn (fn (uZ_s _ _ _) (by decide)) (by decide)) (by decide)) (by decide)) (by decide))
        have h34vy73 : (uZ (uZ (uZ (uZ (uZ (uZ (uZ (uZ Fvy35 23 (0)) 34 ((n : Int))) 32 (0)) 38 (0)) 24 (-1)) 49 (0)) 48 (0)) 47 (0)) 34 = (n : Int) := (fn (fn (fn (fn (fn (fn (uZ_s _ _ _) (by decide)) (by decide)) (by decide)) (by decide)) (by decide)) (by decide))
        have h38vy73 : (uZ (uZ (uZ (uZ (uZ (uZ (uZ (uZ Fvy35 23 (0)) 34 ((n : Int))) 32 (0)) 38 (0)) 24 (-1)) 49 (0)) 48 (0)) 47 (0)) 38 = 0 := (fn (fn (fn (fn (uZ_s _ _ _) (by decide)) (by decide)) (by decide)) (by decide))
        refine z_cV (As := []) (rest := []) (ci := 12) C (c_yGo l D A cs tt N ad _ i hN _ hgy61 _ hgy72 T n hn hTb hTt htp 0 (by omega) (by omega) (by omega) (by omega)) (lt_A0 hN rfl) hay1 hgy61 rfl rfl mv_yX10_go q_1652 hd_yX10_go (by decide) (Nat.le_of_ble_eq_true rfl) (by decide) dX10_snow_94 rfl (kV0 fun gvy73 hvy73 => ?_)
        obtain ⟨⟨Fvy73, hcvy73, hkvy73, hFvy73⟩, hfvy73⟩ := hvy73
        have hsry74 := srt_b T n (tk_at T n 0)
        have hvly75 := vlu_b hTb (tk_at T n 0)
        have hwby76 := tk_w_b T n (tk_at T n 0)
        have hfny77 := hkvy73.1
        have hat0 := tk_at_b (T := T) (n := n) (p := 0) (by omega)
        have L : ∀ (n9 : Nat) (f : Nat) (s9 : Int × Int × Int × (Nat → Int) × (Nat → Int) × (Nat → Int) × (Nat → Int) × (Nat → Int) × (Nat → Int) × (Nat → Int) × (Nat → Int) × (Nat → Nat → Int)) (F9 : Nat → Int) (g1 : Nat → va_E), n - f = n9 → (g1 i = mC ad i F9) → (tkR T n F9 f) → (xTx cs g1 i F9 s9) → (∀ r9, (∃ k9, ps_run T n k9 s9 f = some r9) → ∃ k9, ps_run T n k9 (0, 0, 0, (fun _ => 0), st0, op0, ai0, fa0, mu0, tabZ, (fun _ => 0), L0) (tk_at T n 0) = some r9) → ((∀ f, f ≠ 12 → f ≠ 23 → f ≠ 24 → f ≠ 32 → f ≠ 33 → f ≠ 34 → f ≠ 35 → f ≠ 36 → f ≠ 37 → f ≠ 38 → f ≠ 47 → f ≠ 48 → f ≠ 49 → F9 f = F f)) → (∀ j, j ≠ i → j < i + 16 ∨ i + 23 < j → g1 j = g j) → (F9 38 = 0 ∧ F9 24 = -1 ∧ F9 23 = 0 ∧ F9 12 = 0) → zV pZ l eZ ({ frames := 8, cells := 0, slots := 0, locals := 480 } : Room) sZ mZ ([.ref (ad i), .int (zI (n : Int))] : List Value).toArray below meth cZ (MQ below (zPost D A (rI0 N ad fun q g' => (0 ≤ q ∧ q ≤ 5) ∧ (∃ (k9 : Nat) (pl9 : Int) (s9 : Int × Int × Int × (Nat → Int) × (Nat → Int) × (Nat → Int) × (Nat → Int) × (Nat → Int) × (Nat → Int) × (Nat → Int) × (Nat → Int) × (Nat → Nat → Int)), ps_run T n k9 (0, 0, 0, (fun _ => 0), st0, op0, ai0, fa0, mu0, tabZ, (fun _ => 0), L0) (tk_at T n 0) = some ((q, pl9), s9) ∧ ((q = 0 ∧ (∃ F' r' st' op' ai' fa' mu' tb' : Nat → Int, okMr cs ad g' i (x + 1) F' r' st' op' ai' fa' mu' tb' tp ∧ F' 12 = 0 ∧ (F' 13 = s9.1 ∧ F' 14 = s9.2.1 ∧ F' 17 = 0 ∧ F' 20 = F 20 ∧ F' 21 = 0 ∧ F' 23 = 0 ∧ F' 24 = pl9) ∧ dT s9 st' op' ai' fa' mu' tb')) ∨ (q ≠ 0 ∧ (∃ F' r' : Nat → Int, okMr cs ad g' i (x + 1) F' r' st op ai fa mu tb tp ∧ F' 12 = 0 ∧ (F' 13 = F 13 ∧ F' 14 = F 14 ∧ F' 17 = F 17 ∧ F' 20 = F 20 ∧ F' 21 = F 21 ∧ F' 23 = 0 ∧ F' 24 = pl9))))) ∧ ∀ j, j < i ∨ i + 30 ≤ j → g' j = g j)) ([.ref (ad i), .int (zI (n : Int))] : List Value).toArray sZ ({ frames := 8, cells := 0, slots := 0, locals := 480 } : Room).cells ({ frames := 8, cells := 0, slots := 0, locals := 480 } : Room).slots A) D A 3 (N) ad g1 (0) (0) 97 [(0, .ref (ad i)), (1, .int (zI ((n : Int))))] [] := by
          intro n9
          induction n9 using Nat.strongRecOn with
          | ind n9 ih_L =>
            intro f s9 F9 g1 hm9 f2L hkL hXL hf9 fF f3L hsL
            have hay78 : zAt ad (i) (ad i) := rfl
            have hay79 : zAt ad (i + 1) (ad (i + 1)) := rfl
            have hay80 : zAt ad (i + 2) (ad (i + 2)) := rfl
            have hay81 : zAt ad (i + 3) (ad (i + 3)) := rfl
            have hay82 : zAt ad (i + 4) (ad (i + 4)) := rfl
            have hay83 : zAt ad (i + 5) (ad (i + 5)) := rfl
            have hay84 : zAt ad (i + 6) (ad (i + 6)) := rfl
            have hay85 : zAt ad (i + 7) (ad (i + 7)) := rfl
            have hay86 : zAt ad (i + 8) (ad (i + 8)) := rfl
            have hay87 : zAt ad (i + 9) (ad (i + 9)) := rfl
            have hay88 : zAt ad (i + 10) (ad (i + 10)) := rfl
            have hay89 : zAt ad (i + 11) (ad (i + 11)) := rfl
            have hay90 : zAt ad (i + 12) (ad (i + 12)) := rfl
            have hay91 : zAt ad (i + 13) (ad (i + 13)) := rfl
            have hay92 : zAt ad (i + 14) (ad (i + 14)) := rfl
            have hay93 : zAt ad (i + 15) (ad (i + 15)) := rfl
            have hay94 : zAt ad (i + 24) (ad (i + 24)) := rfl
            have hay95 : zAt ad (i + 25) (ad (i + 25)) := rfl
            have hay96 : zAt ad (i + 26) (ad (i + 26)) := rfl
            have hay97 : zAt ad (i + 27) (ad (i + 27)) := rfl
            have hay98 : zAt ad (i + 28) (ad (i + 28)) := rfl
            have hay99 : zAt ad (i + 29) (ad (i + 29)) := rfl
            have hsry100 := srt_b T n f
            have hvly101 := vlu_b hTb f
            have hwby102 := tk_w_b T n f
            have hfny103 := hkL.1
            have r32 : F9 32 = ((tk_to T n f : Nat) : Int) := hkL.2.1
            have hto0 := tk_to_nx (T := T) (n := n) (f := f) hkL.1.1
            refine z_aload_n C 0 dX10_snow_97 rfl ?_
            refine z_get (v := .int (zI (0))) C (lt_A0 hN rfl) hay78 f2L rfl inA_X10 38 (by decide) q_1497 rfl (fv (F := F9) (f := 38) hsL.1) dX10_snow_98 ?_
            refine z_if_ne (tgt := 159) C dX10_snow_101 (by decide) (by omega) (fun h => absurd h (by omega)) (fun _ => ?_)
            refine z_aload_n C 0 dX10_snow_104 rfl ?_
            refine z_get (v := .int (zI (srt (tk_so T n f)))) C (lt_A0 hN rfl) hay78 f2L rfl inA_X10 35 (by decide) q_1494 rfl (fv (F := F9) (f := 35) hkL.2.2.2.2.1) dX10_snow_105 ?_
            refine z_if_eq (tgt := 159) C dX10_snow_108 (by decide) (by omega) (fun hby104 => ?_) (fun hby104 => ?_)
            · have hso : tk_so T n f = 0 := srt0.mp (by omega)
              refine z_aload_n C 0 dX10_snow_159 rfl ?_
              refine z_get (v := .int (zI (0))) C (lt_A0 hN rfl) hay78 f2L rfl inA_X10 38 (by decide) q_1497 rfl (fv (F := F9) (f := 38) hsL.1) dX10_snow_160 ?_
              refine z_if_eq (tgt := 181) C dX10_snow_163 (by decide) (by omega) (fun _ => ?_) (fun h => absurd h (by omega))
              refine z_aload_n C 0 dX10_snow_181 rfl ?_
              have hey105 : F9 13 = F 13 := (fF 13 (by decide) (by decide) (by decide) (by decide) (by decide) (by decide) (by decide) (by decide) (by decide) (by decide) (by decide) (by decide) (by decide))
              have hey106 : F9 14 = F 14 := (fF 14 (by decide) (by decide) (by decide) (by decide) (by decide) (by decide) (by decide) (by decide) (by decide) (by decide) (by decide) (by decide) (by decide))
              have hey107 : F9 15 = F 15 := (fF 15 (by decide) (by decide) (by decide) (by decide) (by decide) (by decide) (by decide) (by decide) (by decide) (by decide) (by decide) (by decide) (by decide))
              have hey108 : F9 16 = F 16 := (fF 16 (by decide) (by decide) (by decide) (by decide) (by decide) (by decide) (by decide) (by decide) (by decide) (by decide) (by decide) (by decide) (by decide))
              have hey109 : F9 17 = F 17 := (fF 17 (by decide) (by decide) (by decide) (by decide) (by decide) (by decide) (by decide) (by decide) (by decide) (by decide) (by decide) (by decide) (by decide))
              have hey110 : F9 18 = F 18 := (fF 18 (by decide) (by decide) (by decide) (by decide) (by decide) (by decide) (by decide) (by decide) (by decide) (by decide) (by decide) (by decide) (by decide))
              have hey111 : F9 19 = F 19 := (fF 19 (by decide) (by decide) (by decide) (by decide) (by decide) (by decide) (by decide) (by decide) (by decide) (by decide) (by decide) (by decide) (by decide))
              have hey112 : F9 20 = F 20 := (fF 20 (by decide) (by decide) (by decide) (by decide) (by decide) (by decide) (by decide) (by decide) (by decide) (by decide) (by decide) (by decide) (by decide))
              have hey113 : F9 21 = F 21 := (fF 21 (by decide) (by decide) (by decide) (by decide) (by decide) (by decide) (by decide) (by decide) (by decide) (by decide) (by decide) (by decide) (by decide))
              have hey114 : F9 23 = 0 := hsL.2.2.1
              have hey115 : F9 25 = F 25 := (fF 25 (by decide) (by decide) (by decide) (by decide) (by decide) (by decide) (by decide) (by decide) (by decide) (by decide) (by decide) (by decide) (by decide))
              have hey116 : F9 27 = F 27 := (fF 27 (by decide) (by decide) (by decide) (by decide) (by decide) (by decide) (by decide) (by decide) (by decide) (by decide) (by decide) (by decide) (by decide))
              have hey117 : F9 28 = F 28 := (fF 28 (by decide) (by decide) (by decide) (by decide) (by decide) (by decide) (by decide) (by decide) (by decide) (by decide) (by decide) (by decide) (by decide))
              have hey118 : F9 29 = F 29 := (fF 29 (by decide) (by decide) (by decide) (by decide) (by decide) (by decide) (by decide) (by decide) (by decide) (by decide) (by decide) (by decide) (by decide))
              have hey119 : F9 24 = (-1) := hsL.2.1
              have hey120 : F9 12 = 0 := hsL.2.2.2
              have hey121 : F9 32 = ((tk_to T n f : Nat) : Int) := hkL.2.1
              have hey122 : F9 38 = 0 := hsL.1
              have hey123 : F9 47 = F9 47 := rfl
              have hey124 : F9 48 = F9 48 := rfl
              have hey125 : F9 49 = F9 49 := rfl
              have hKy126 : okF F9 := by unfold okF; omega
              have htky127 : tkR T n F9 f := hkL
              have hMy128 : okMr cs ad g1 i x F9 r st op ai fa mu tb tp := okMr.upd2 hM f2L hKy126 (htky127.rd hTb) hXL.ok ((f3L _ (by omega) (by omega)).trans ha1) hA (fun j a b c => by
                  exact Or.inl (by rw [f3L _ (by omega) (by omega)]))
              refine z_cV (As := []) (rest := []) (ci := 12) C (c_X10_becomes l D A cs tt N ad _ i hN x hx _ _ hMy128 s9 hXL) (lt_A0 hN rfl) hay78 f2L rfl rfl mv_yX10_becomes q_1713 hd_yX10_becomes (by decide) (Nat.le_of_ble_eq_true rfl) (by decide) dX10_snow_182 rfl (kV0 fun gvy129 hvy129 => ?_)
              obtain ⟨⟨Fvy129, rvy129, stvy129, opvy129, aivy129, favy129, muvy129, tbvy129, hMvy129, hKvy129, h12vy129, hDvy129⟩, hfvy129⟩ := hvy129
              refine z_iconst (z := 0) C dX10_snow_185 rfl ?_
              obtain ⟨k9, hk9⟩ := hf9 ((0, -1), s9) ⟨1, by simp only [ps_run]; rw [if_pos hso]⟩
              have hMx := okMr.mono (y := x + 1) hMvy129 (by omega)
              exact z_iret C hr hlk dX10_snow_186 (by decide) (by decide) ⟨0, rfl, rfl, rfl, by omega, ⟨k9, -1, s9, hk9, Or.inl ⟨rfl, _, _, _, _, _, _, _, _, hMx, by omega, by omega, hDvy129⟩⟩, fun j j1 => by rw [hfvy129 _ (by omega)]; rw [f3L _ (by omega) (by omega)]⟩
            · have hso : ¬ (tk_so T n f = 0) := fun e9 => by have := srt0.mpr e9; omega
              refine z_aload_n C 0 dX10_snow_111 rfl ?_
              have hfl : f < n := (so_ty (T := T) (n := n) (f := f) hso).1
              refine z_cV (As := []) (rest := []) (ci := 12) C (c_yClause1 l D A cs tt N ad _ i hN _ f2L _ ((f3L _ (by omega) (by omega)).trans ha13) T n hn hTb hTt htp f hkL hsL.1 hfl (s9.1) (s9.2.1) (s9.2.2.1) (s9.2.2.2.1) (s9.2.2.2.2.1) (s9.2.2.2.2.2.1) (s9.2.2.2.2.2.2.1) (s9.2.2.2.2.2.2.2.1) (s9.2.2.2.2.2.2.2.2.1) (s9.2.2.2.2.2.2.2.2.2.1) (s9.2.2.2.2.2.2.2.2.2.2.1) (s9.2.2.2.2.2.2.2.2.2.2.2) hXL) (lt_A0 hN rfl) hay78 f2L rfl rfl mv_yX10_clause1 q_1670 hd_yX10_clause1 (by decide) (Nat.le_of_ble_eq_true rfl) (by decide) dX10_snow_112 rfl (kV0 fun gvy130 hvy130 => ?_)
              obtain ⟨⟨Fvy130, hcvy130, hFvy130, hqvy130⟩, hfvy130⟩ := hvy130
              rcases hqvy130 with hqvy130 | hqvy130
              · obtain ⟨vvy130, hv0vy130, havy130, hb0vy130, hlvy130, hkvy130, hxvy130⟩ := hqvy130
                have hvvy130 : ps_cl T n s9 f = .ok vvy130 := hv0vy130
                have hbvy130 : Fvy130 24 = -1 := hb0vy130.trans hsL.2.1
                have hsry131 := srt_b T n vvy130.2
                have hvly132 := vlu_b hTb vvy130.2
                have hwby133 := tk_w_b T n vvy130.2
                have hfny134 := hkvy130.1
                have hzvy130 := hkvy130.2.1
                have hwvy130 := tk_to_nx (T := T) (n := n) (f := vvy130.2) hkvy130.1.1
                refine z_aload_n C 0 dX10_snow_115 rfl ?_
                refine z_get (v := .int (zI (0))) C (lt_A0 hN rfl) hay78 hcvy130 rfl inA_X10 38 (by decide) q_1497 rfl (fv (F := Fvy130) (f := 38) havy130) dX10_snow_116 ?_
                refine z_if_ne (tgt := 97) C dX10_snow_119 (by decide) (by omega) (fun h => absurd h (by omega)) (fun _ => ?_)
                by_cases h3 : tk_so T n vvy130.2 = 3
                · have hs3 : srt (tk_so T n vvy130.2) = 3 := by rw [h3]; rfl
                  have hv59 : vlu T n vvy130.2 = 59 := (vlu3 hs3 59 3 (by omega)).mpr h3
                  refine z_aload_n C 0 dX10_snow_122 rfl ?_
                  refine z_aload_n C 0 dX10_snow_123 rfl ?_
                  refine z_get (v := .int (zI (srt (tk_so T n vvy130.2)))) C (lt_A0 hN rfl) hay78 hcvy130 rfl inA_X10 35 (by decide) q_1494 rfl (fv (F := Fvy130) (f := 35) hkvy130.2.2.2.2.1) dX10_snow_124 ?_
                  refine z_iconst (z := 3) C dX10_snow_127 rfl ?_
                  refine z_icmp_ne (tgt := 144) C dX10_snow_128 (by decide) (by omega) (by omega) (fun h => absurd h (by omega)) (fun _ => ?_)
                  refine z_aload_n C 0 dX10_snow_131 rfl ?_
                  refine z_get (v := .int (zI (vlu T n vvy130.2))) C (lt_A0 hN rfl) hay78 hcvy130 rfl inA_X10 36 (by decide) q_1495 rfl (fv (F := Fvy130) (f := 36) hkvy130.2.2.2.2.2.1) dX10_snow_132 ?_
                  refine z_bipush (z := 59) C dX10_snow_135 (by decide) ?_
                  refine z_icmp_ne (tgt := 144) C dX10_snow_137 (by decide) (by omega) (by omega) (fun h => absurd h (by omega)) (fun _ => ?_)
                  refine z_iconst (z := 1) C dX10_snow_140 rfl ?_
                  refine z_goto (tgt := 145) C dX10_snow_141 (by decide) ?_
                  refine z_iconst (z := 1) C dX10_snow_145 rfl ?_
                  have h33vy135 : Fvy130 33 = (vvy130.2 : Int) := hkvy130.2.2.1
                  have h24vy135 : Fvy130 24 = (-1) := hbvy130
                  have htvy135 : tkR T n Fvy130 vvy130.2 := hkvy130
                  refine z_cV (As := [.int (zI (1)), .int (zI (1))]) (rest := []) (ci := 12) C (c_yWants l D A cs tt N ad _ i hN _ hcvy130 havy130 (1) (by omega) (1) (by omega)) (lt_A0 hN rfl) hay78 hcvy130 rfl rfl mv_yX10_wants q_1678 hd_yX10_wants (by decide) (Nat.le_of_ble_eq_true rfl) (by decide) dX10_snow_146 rfl (kI0 fun vy135 gvy135 hvy135 => ?_)
                  obtain ⟨⟨Fvy135, hcvy135, hqvy135, hFvy135⟩, hfvy135⟩ := hvy135
                  obtain ⟨rfl, hevy135, hbvy135⟩ : vy135 = 1 ∧ Fvy135 38 = 0 ∧ Fvy135 24 = (-1) := by omega
                  clear hqvy135 h33vy135 h24vy135
                  have hkvy135 : tkR T n Fvy135 vvy130.2 := tkR.w htvy135 hFvy135 (by omega)
                  refine z_if_eq (tgt := 97) C dX10_snow_149 (by decide) (by omega) (fun h => absurd h (by omega)) (fun _ => ?_)
                  refine z_aload_n C 0 dX10_snow_152 rfl ?_
                  have hgy136 := (hfvy130 (i + 13) (ne_o (i := i) (c := 13) (d := 0) rfl) (by omega)).trans ((f3L _ (by omega) (by omega)).trans ha13)
                  have hgy137 := (hfvy135 (i + 13) (ne_o (i := i) (c := 13) (d := 0) rfl)).trans hgy136
                  have htvy138 : tkR T n Fvy135 vvy130.2 := hkvy135
                  refine z_cV (As := []) (rest := []) (ci := 12) C (c_yGo l D A cs tt N ad _ i hN _ hcvy135 _ hgy137 T n hn hTb hTt htp (tk_to T n vvy130.2) (tk_to_b htvy138.1.1).2.1 htvy138.2.1 htvy138.2.2.2.1 htvy138.2.2.2.2.2.2.2) (lt_A0 hN rfl) hay78 hcvy135 rfl rfl mv_yX10_go q_1652 hd_yX10_go (by decide) (Nat.le_of_ble_eq_true rfl) (by decide) dX10_snow_153 rfl (kV0 fun gvy138 hvy138 => ?_)
                  obtain ⟨⟨Fvy138, hcvy138, hjvy138, hFvy138⟩, hfvy138⟩ := hvy138
                  have hkvy138 : tkR T n Fvy138 (tk_nx T n vvy130.2) := hjvy138
                  have hnbvy138 := tk_nx_s (T := T) (n := n) (f := vvy130.2) (so_ty (T := T) (n := n) (f := vvy130.2) (by omega)).1
                  clear hjvy138
                  have hsry139 := srt_b T n (tk_nx T n vvy130.2)
                  have hvly140 := vlu_b hTb (tk_nx T n vvy130.2)
                  have hwby141 := tk_w_b T n (tk_nx T n vvy130.2)
                  have hfny142 := hkvy138.1
                  have hstvy130 := ps_step_ok hvvy130 h3
                  have hf2vy130 : ∀ r9, (∃ k9, ps_run T n k9 vvy130.1 (tk_nx T n vvy130.2) = some r9) → ∃ k9, ps_run T n k9 (0, 0, 0, (fun _ => 0), st0, op0, ai0, fa0, mu0, tabZ, (fun _ => 0), L0) (tk_at T n 0) = some r9 := fun r9 ⟨k9, hk9⟩ => hf9 r9 ⟨k9 + 1, by simp only [ps_run]; rw [if_neg hso, hstvy130]; exact hk9⟩
                  refine z_goto (tgt := 97) C dX10_snow_156 (by decide) ?_
                  have hey143 : Fvy138 12 = 0 := ((hFvy138 12 (by decide) (by decide) (by decide) (by decide) (by decide)).trans ((hFvy135 12 (by decide) (by decide)).trans ((hFvy130 12 (by decide) (by decide) (by decide) (by decide) (by decide) (by decide) (by decide) (by decide) (by decide) (by decide)).trans hsL.2.2.2)))
                  have hey144 : Fvy138 23 = 0 := ((hFvy138 23 (by decide) (by decide) (by decide) (by decide) (by decide)).trans ((hFvy135 23 (by decide) (by decide)).trans ((hFvy130 23 (by decide) (by decide) (by decide) (by decide) (by decide) (by decide) (by decide) (by decide) (by decide) (by decide)).trans hsL.2.2.1)))
                  have hey145 : Fvy138 24 = (-1) := ((hFvy138 24 (by decide) (by decide) (by decide) (by decide) (by decide)).trans hbvy135)
                  have hey146 : Fvy138 32 = ((tk_to T n (tk_nx T n vvy130.2) : Nat) : Int) := hkvy138.2.1
                  have hey147 : Fvy138 38 = 0 := ((hFvy138 38 (by decide) (by decide) (by decide) (by decide) (by decide)).trans hevy135)
                  have hey148 : Fvy138 47 = Fvy130 47 := ((hFvy138 47 (by decide) (by decide) (by decide) (by decide) (by decide)).trans (hFvy135 47 (by decide) (by decide)))
                  have hey149 : Fvy138 48 = Fvy130 48 := ((hFvy138 48 (by decide) (by decide) (by decide) (by decide) (by decide)).trans (hFvy135 48 (by decide) (by decide)))
                  have hey150 : Fvy138 49 = Fvy130 49 := ((hFvy138 49 (by decide) (by decide) (by decide) (by decide) (by decide)).trans (hFvy135 49 (by decide) (by decide)))
                  have htky151 : tkR T n Fvy138 (tk_nx T n vvy130.2) := hkvy138
                  have htoy153 := tk_to_w (T := T) (n := n) (f := (tk_nx T n vvy130.2)) htky151.1.1
                  have h32y154 := htky151.2.1
                  have hxty152 : xTx cs gvy138 i Fvy138 vvy130.1 := hxvy130.mv (fun j a b => by rw [hfvy138 _ (by omega)]; rw [hfvy135 _ (by omega)]) ⟨by omega, by omega, by omega, by omega⟩
                  have hFy155 : ∀ f, f ≠ 24 → f ≠ 32 → f ≠ 33 → f ≠ 35 → f ≠ 36 → f ≠ 37 → f ≠ 38 → f ≠ 47 → f ≠ 48 → f ≠ 49 → Fvy138 f = F9 f := fun f n24 n32 n33 n35 n36 n37 n38 n47 n48 n49 => ((hFvy138 f n32 n33 n35 n36 n37).trans ((hFvy135 f n24 n38).trans (hFvy130 f n24 n32 n33 n35 n36 n37 n38 n47 n48 n49)))
                  have hFFy156 : (∀ f, f ≠ 12 → f ≠ 23 → f ≠ 24 → f ≠ 32 → f ≠ 33 → f ≠ 34 → f ≠ 35 → f ≠ 36 → f ≠ 37 → f ≠ 38 → f ≠ 47 → f ≠ 48 → f ≠ 49 → Fvy138 f = F f) := fun f n12 n23 n24 n32 n33 n34 n35 n36 n37 n38 n47 n48 n49 => (hFy155 f n24 n32 n33 n35 n36 n37 n38 n47 n48 n49).trans (fF f n12 n23 n24 n32 n33 n34 n35 n36 n37 n38 n47 n48 n49)
                  refine z_lv (lv' := [(0, .ref (ad i)), (1, .int (zI ((n : Int))))]) [0, 1] rfl ?_
                  exact ih_L _ (by omega) (tk_nx T n vvy130.2) vvy130.1 _ gvy138 rfl hcvy138 htky151 hxty152 hf2vy130 hFFy156 (fun j j1 j2 => by rw [hfvy138 _ (by omega)]; rw [hfvy135 _ (by omega)]; rw [hfvy130 _ (by omega) (by omega)]; rw [f3L _ (by omega) (by omega)]) (by omega)
                · refine z_aload_n C 0 dX10_snow_122 rfl ?_
                  refine z_aload_n C 0 dX10_snow_123 rfl ?_
                  refine z_get (v := .int (zI (srt (tk_so T n vvy130.2)))) C (lt_A0 hN rfl) hay78 hcvy130 rfl inA_X10 35 (by decide) q_1494 rfl (fv (F := Fvy130) (f := 35) hkvy130.2.2.2.2.1) dX10_snow_124 ?_
                  refine z_iconst (z := 3) C dX10_snow_127 rfl ?_
                  refine z_icmp_ne (tgt := 144) C dX10_snow_128 (by decide) (by omega) (by omega) (fun hby157 => ?_) (fun hby157 => ?_)
                  · refine z_iconst (z := 0) C dX10_snow_144 rfl ?_
                    refine z_iconst (z := 1) C dX10_snow_145 rfl ?_
                    have h33vy158 : Fvy130 33 = (vvy130.2 : Int) := hkvy130.2.2.1
                    have h24vy158 : Fvy130 24 = (-1) := hbvy130
                    have htvy158 : tkR T n Fvy130 vvy130.2 := hkvy130
                    refine z_cV (As := [.int (zI (0)), .int (zI (1))]) (rest := []) (ci := 12) C (c_yWants l D A cs tt N ad _ i hN _ hcvy130 havy130 (0) (by omega) (1) (by omega)) (lt_A0 hN rfl) hay78 hcvy130 rfl rfl mv_yX10_wants q_1678 hd_yX10_wants (by decide) (Nat.le_of_ble_eq_true rfl) (by decide) dX10_snow_146 rfl (kI0 fun vy158 gvy158 hvy158 => ?_)
                    obtain ⟨⟨Fvy158, hcvy158, hqvy158, hFvy158⟩, hfvy158⟩ := hvy158
                    obtain ⟨rfl, hevy158, hbvy158⟩ : vy158 = 0 ∧ Fvy158 38 = 1 ∧ Fvy158 24 = (vvy130.2 : Int) := by omega
                    clear hqvy158 h33vy158 h24vy158
                    have hkvy158 : tkR T n Fvy158 vvy130.2 := tkR.w htvy158 hFvy158 (by omega)
                    refine z_if_eq (tgt := 97) C dX10_snow_149 (by decide) (by omega) (fun _ => ?_) (fun h => absurd h (by omega))
                    refine z_aload_n C 0 dX10_snow_97 rfl ?_
                    refine z_get (v := .int (zI (1))) C (lt_A0 hN rfl) hay78 hcvy158 rfl inA_X10 38 (by decide) q_1497 rfl (fv (F := Fvy158) (f := 38) hevy158) dX10_snow_98 ?_
                    refine z_if_ne (tgt := 159) C dX10_snow_101 (by decide) (by omega) (fun _ => ?_) (fun h => absurd h (by omega))
                    refine z_aload_n C 0 dX10_snow_159 rfl ?_
                    refine z_get (v := .int (zI (1))) C (lt_A0 hN rfl) hay78 hcvy158 rfl inA_X10 38 (by decide) q_1497 rfl (fv (F := Fvy158) (f := 38) hevy158) dX10_snow_160 ?_
                    refine z_if_eq (tgt := 181) C dX10_snow_163 (by decide) (by omega) (fun h => absurd h (by omega)) (fun _ => ?_)
                    refine z_aload_n C 0 dX10_snow_166 rfl ?_
                    refine z_get (v := .ref (ad (i + 11))) C (lt_A0 hN rfl) hay78 hcvy158 rfl inA_X10 10 (by decide) q_1469 rfl rfl dX10_snow_167 ?_
                    refine z_iconst (z := 0) C dX10_snow_170 rfl ?_
                    refine z_dup2 C dX10_snow_171 rfl rfl ?_
                    have hgy159 := (hfvy130 (i + 11) (ne_o (i := i) (c := 11) (d := 0) rfl) (by omega)).trans ((f3L _ (by omega) (by omega)).trans ha11)
                    have hgy160 := (hfvy158 (i + 11) (ne_o (i := i) (c := 11) (d := 0) rfl)).trans hgy159
                    refine z_iald C (lt_A (c := 11) hN rfl) hay89 hgy160 (0) (by omega) (by omega) (by decide) dX10_snow_172 ?_
                    refine z_iconst (z := 1) C dX10_snow_173 rfl ?_
                    refine z_iadd C dX10_snow_174 ?_
                    refine z_iast C (lt_A (c := 11) hN rfl) hay89 hgy160 (0) (by omega) (by omega) (by decide) dX10_snow_175 (fun gy161 egy162 => ?_)
                    have hgy163 := up_s egy162
                    refine z_aload_n C 0 dX10_snow_176 rfl ?_
                    have hgy164 := up_n egy162 hcvy158 (ne_o (i := i) (c := 0) (d := 11) rfl)
                    refine z_get (v := .int (zI (1))) C (lt_A0 hN rfl) hay78 hgy164 rfl inA_X10 38 (by decide) q_1497 rfl (fv (F := Fvy158) (f := 38) hevy158) dX10_snow_177 ?_
                    have hey165 : Fvy158 13 = F 13 := ((hFvy158 13 (by decide) (by decide)).trans ((hFvy130 13 (by decide) (by decide) (by decide) (by decide) (by decide) (by decide) (by decide) (by decide) (by decide) (by decide)).trans (fF 13 (by decide) (by decide) (by decide) (by decide) (by decide) (by decide) (by decide) (by decide) (by decide) (by decide) (by decide) (by decide) (by decide))))
                    have hey166 : Fvy158 14 = F 14 := ((hFvy158 14 (by decide) (by decide)).trans ((hFvy130 14 (by decide) (by decide) (by decide) (by decide) (by decide) (by decide) (by decide) (by decide) (by decide) (by decide)).trans (fF 14 (by decide) (by decide) (by decide) (by decide) (by decide) (by decide) (by decide) (by decide) (by decide) (by decide) (by decide) (by decide) (by decide))))
                    have hey167 : Fvy158 15 = F 15 := ((hFvy158 15 (by decide) (by decide)).trans ((hFvy130 15 (by decide) (by decide) (by decide) (by decide) (by decide) (by decide) (by decide) (by decide) (by decide) (by decide)).trans (fF 15 (by decide) (by decide) (by decide) (by decide) (by decide) (by decide) (by decide) (by decide) (by decide) (by decide) (by decide) (by decide) (by decide))))
                    have hey168 : Fvy158 16 = F 16 := ((hFvy158 16 (by decide) (by decide)).trans ((hFvy130 16 (by decide) (by decide) (by decide) (by decide) (by decide) (by decide) (by decide) (by decide) (by decide) (by decide)).trans (fF 16 (by decide) (by decide) (by decide) (by decide) (by decide) (by decide) (by decide) (by decide) (by decide) (by decide) (by decide) (by decide) (by decide))))
                    have hey169 : Fvy158 17 = F 17 := ((hFvy158 17 (by decide) (by decide)).trans ((hFvy130 17 (by decide) (by decide) (by decide) (by decide) (by decide) (by decide) (by decide) (by decide) (by decide) (by decide)).trans (fF 17 (by decide) (by decide) (by decide) (by decide) (by decide) (by decide) (by decide) (by decide) (by decide) (by decide) (by decide) (by decide) (by decide))))
                    have hey170 : Fvy158 18 = F 18 := ((hFvy158 18 (by decide) (by decide)).trans ((hFvy130 18 (by decide) (by decide) (by decide) (by decide) (by decide) (by decide) (by decide) (by decide) (by decide) (by decide)).trans (fF 18 (by decide) (by decide) (by decide) (by decide) (by decide) (by decide) (by decide) (by decide) (by decide) (by decide) (by decide) (by decide) (by decide))))
                    have hey171 : Fvy158 19 = F 19 := ((hFvy158 19 (by decide) (by decide)).trans ((hFvy130 19 (by decide) (by decide) (by decide) (by decide) (by decide) (by decide) (by decide) (by decide) (by decide) (by decide)).trans (fF 19 (by decide) (by decide) (by decide) (by decide) (by decide) (by decide) (by decide) (by decide) (by decide) (by decide) (by decide) (by decide) (by decide))))
                    have hey172 : Fvy158 20 = F 20 := ((hFvy158 20 (by decide) (by decide)).trans ((hFvy130 20 (by decide) (by decide) (by decide) (by decide) (by decide) (by decide) (by decide) (by decide) (by decide) (by decide)).trans (fF 20 (by decide) (by decide) (by decide) (by decide) (by decide) (by decide) (by decide) (by decide) (by decide) (by decide) (by decide) (by decide) (by decide))))
                    have hey173 : Fvy158 21 = F 21 := ((hFvy158 21 (by decide) (by decide)).trans ((hFvy130 21 (by decide) (by decide) (by decide) (by decide) (by decide) (by decide) (by decide) (by decide) (by decide) (by decide)).trans (fF 21 (by decide) (by decide) (by decide) (by decide) (by decide) (by decide) (by decide) (by decide) (by decide) (by decide) (by decide) (by decide) (by decide))))
                    have hey174 : Fvy158 23 = 0 := ((hFvy158 23 (by decide) (by decide)).trans ((hFvy130 23 (by decide) (by decide) (by decide) (by decide) (by decide) (by decide) (by decide) (by decide) (by decide) (by decide)).trans hsL.2.2.1))
                    have hey175 : Fvy158 25 = F 25 := ((hFvy158 25 (by decide) (by decide)).trans ((hFvy130 25 (by decide) (by decide) (by decide) (by decide) (by decide) (by decide) (by decide) (by decide) (by decide) (by decide)).trans (fF 25 (by decide) (by decide) (by decide) (by decide) (by decide) (by decide) (by decide) (by decide) (by decide) (by decide) (by decide) (by decide) (by decide))))
                    have hey176 : Fvy158 27 = F 27 := ((hFvy158 27 (by decide) (by decide)).trans ((hFvy130 27 (by decide) (by decide) (by decide) (by decide) (by decide) (by decide) (by decide) (by decide) (by decide) (by decide)).trans (fF 27 (by decide) (by decide) (by decide) (by decide) (by decide) (by decide) (by decide) (by decide) (by decide) (by decide) (by decide) (by decide) (by decide))))
                    have hey177 : Fvy158 28 = F 28 := ((hFvy158 28 (by decide) (by decide)).trans ((hFvy130 28 (by decide) (by decide) (by decide) (by decide) (by decide) (by decide) (by decide) (by decide) (by decide) (by decide)).trans (fF 28 (by decide) (by decide) (by decide) (by decide) (by decide) (by decide) (by decide) (by decide) (by decide) (by decide) (by decide) (by decide) (by decide))))
                    have hey178 : Fvy158 29 = F 29 := ((hFvy158 29 (by decide) (by decide)).trans ((hFvy130 29 (by decide) (by decide) (by decide) (by decide) (by decide) (by decide) (by decide) (by decide) (by decide) (by decide)).trans (fF 29 (by decide) (by decide) (by decide) (by decide) (by decide) (by decide) (by decide) (by decide) (by decide) (by decide) (by decide) (by decide) (by decide))))
                    have hey179 : Fvy158 24 = (vvy130.2 : Int) := hbvy158
                    have hey180 : Fvy158 12 = 0 := ((hFvy158 12 (by decide) (by decide)).trans ((hFvy130 12 (by decide) (by decide) (by decide) (by decide) (by decide) (by decide) (by decide) (by decide) (by decide) (by decide)).trans hsL.2.2.2))
                    have hey181 : Fvy158 32 = ((tk_to T n vvy130.2 : Nat) : Int) := ((hFvy158 32 (by decide) (by decide)).trans hkvy130.2.1)
                    have hey182 : Fvy158 38 = 1 := hevy158
                    have hey183 : Fvy158 47 = Fvy130 47 := (hFvy158 47 (by decide) (by decide))
                    have hey184 : Fvy158 48 = Fvy130 48 := (hFvy158 48 (by decide) (by decide))
                    have hey185 : Fvy158 49 = Fvy130 49 := (hFvy158 49 (by decide) (by decide))
                    have hKy186 : okF Fvy158 := by unfold okF; omega
                    have htky187 : tkR T n Fvy158 vvy130.2 := hkvy158
                    have htxy188 : okTx cs gy161 i Fvy158 := hxvy130.ok.mv (fun j a b => by rw [egy162, va_up_ne _ _ (by omega)]; rw [hfvy158 _ (by omega)]) ⟨by omega, by omega, by omega, by omega⟩
                    have hgy189 := (hfvy130 (i + 1) (ne_o (i := i) (c := 1) (d := 0) rfl) (by omega)).trans ((f3L _ (by omega) (by omega)).trans ha1)
                    have hgy190 := (hfvy158 (i + 1) (ne_o (i := i) (c := 1) (d := 0) rfl)).trans hgy189
                    have hgy191 := up_n egy162 hgy190 (ne_o (i := i) (c := 1) (d := 11) rfl)
                    have hMy192 : okMr cs ad gy161 i x Fvy158 r st op ai fa mu tb tp := okMr.upd2 hM hgy164 hKy186 (htky187.rd hTb) htxy188 hgy191 hA (fun j a b c => by
                        by_cases e0 : j = i + 11
                        · exact Or.inr ⟨11, _, e0, lsP.l (by decide), by rw [e0]; exact hgy163⟩
                        exact Or.inl (by rw [egy162, va_up_ne _ _ (by omega)]; rw [hfvy158 _ (by omega)]; rw [hfvy130 _ (by omega) (by omega)]; rw [f3L _ (by omega) (by omega)]))
                    have hMx := okMr.mono (y := x + 1) hMy192 (by omega)
                    obtain ⟨k9, hk9⟩ := hf9 ((1, ((vvy130.2 : Nat) : Int)), s9) ⟨1, by simp only [ps_run]; rw [if_neg hso, ps_step_ns hvvy130 h3]⟩
                    have hkpy193 : Fvy158 13 = F 13 := ((hFvy158 13 (by decide) (by decide)).trans ((hFvy130 13 (by decide) (by decide) (by decide) (by decide) (by decide) (by decide) (by decide) (by decide) (by decide) (by decide)).trans (fF 13 (by decide) (by decide) (by decide) (by decide) (by decide) (by decide) (by decide) (by decide) (by decide) (by decide) (by decide) (by decide) (by decide))))
                    have hkpy194 : Fvy158 14 = F 14 := ((hFvy158 14 (by decide) (by decide)).trans ((hFvy130 14 (by decide) (by decide) (by decide) (by decide) (by decide) (by decide) (by decide) (by decide) (by decide) (by decide)).trans (fF 14 (by decide) (by decide) (by decide) (by decide) (by decide) (by decide) (by decide) (by decide) (by decide) (by decide) (by decide) (by decide) (by decide))))
                    have hkpy195 : Fvy158 17 = F 17 := ((hFvy158 17 (by decide) (by decide)).trans ((hFvy130 17 (by decide) (by decide) (by decide) (by decide) (by decide) (by decide) (by decide) (by decide) (by decide) (by decide)).trans (fF 17 (by decide) (by decide) (by decide) (by decide) (by decide) (by decide) (by decide) (by decide) (by decide) (by decide) (by decide) (by decide) (by decide))))
                    have hkpy196 : Fvy158 20 = F 20 := ((hFvy158 20 (by decide) (by decide)).trans ((hFvy130 20 (by decide) (by decide) (by decide) (by decide) (by decide) (by decide) (by decide) (by decide) (by decide) (by decide)).trans (fF 20 (by decide) (by decide) (by decide) (by decide) (by decide) (by decide) (by decide) (by decide) (by decide) (by decide) (by decide) (by decide) (by decide))))
                    have hkpy197 : Fvy158 21 = F 21 := ((hFvy158 21 (by decide) (by decide)).trans ((hFvy130 21 (by decide) (by decide) (by decide) (by decide) (by decide) (by decide) (by decide) (by decide) (by decide) (by decide)).trans (fF 21 (by decide) (by decide) (by decide) (by decide) (by decide) (by decide) (by decide) (by decide) (by decide) (by decide) (by decide) (by decide) (by decide))))
                    have hkpy198 : Fvy158 23 = 0 := ((hFvy158 23 (by decide) (by decide)).trans ((hFvy130 23 (by decide) (by decide) (by decide) (by decide) (by decide) (by decide) (by decide) (by decide) (by decide) (by decide)).trans hsL.2.2.1))
                    have hkpy199 : Fvy158 24 = (vvy130.2 : Int) := hbvy158
                    exact z_iret C hr hlk dX10_snow_180 (by decide) (by decide) ⟨1, rfl, rfl, rfl, by omega, ⟨k9, _, s9, hk9, Or.inr ⟨by omega, _, _, hMx, by omega, by omega⟩⟩, fun j j1 => by rw [egy162, va_up_ne _ _ (by omega)]; rw [hfvy158 _ (by omega)]; rw [hfvy130 _ (by omega) (by omega)]; rw [f3L _ (by omega) (by omega)]⟩
                  · refine z_aload_n C 0 dX10_snow_131 rfl ?_
                    refine z_get (v := .int (zI (vlu T n vvy130.2))) C (lt_A0 hN rfl) hay78 hcvy130 rfl inA_X10 36 (by decide) q_1495 rfl (fv (F := Fvy130) (f := 36) hkvy130.2.2.2.2.2.1) dX10_snow_132 ?_
                    refine z_bipush (z := 59) C dX10_snow_135 (by decide) ?_
                    refine z_icmp_ne (tgt := 144) C dX10_snow_137 (by decide) (by omega) (by omega) (fun hby200 => ?_) (fun hby200 => ?_)
                    · refine z_iconst (z := 0) C dX10_snow_144 rfl ?_
                      refine z_iconst (z := 1) C dX10_snow_145 rfl ?_
                      have h33vy201 : Fvy130 33 = (vvy130.2 : Int) := hkvy130.2.2.1
                      have h24vy201 : Fvy130 24 = (-1) := hbvy130
                      have htvy201 : tkR T n Fvy130 vvy130.2 := hkvy130
                      refine z_cV (As := [.int (zI (0)), .int (zI (1))]) (rest := []) (ci := 12) C (c_yWants l D A cs tt N ad _ i hN _ hcvy130 havy130 (0) (by omega) (1) (by omega)) (lt_A0 hN rfl) hay78 hcvy130 rfl rfl mv_yX10_wants q_1678 hd_yX10_wants (by decide) (Nat.le_of_ble_eq_true rfl) (by decide) dX10_snow_146 rfl (kI0 fun vy201 gvy201 hvy201 => ?_)
                      obtain ⟨⟨Fvy201, hcvy201, hqvy201, hFvy201⟩, hfvy201⟩ := hvy201
                      obtain ⟨rfl, hevy201, hbvy201⟩ : vy201 = 0 ∧ Fvy201 38 = 1 ∧ Fvy201 24 = (vvy130.2 : Int) := by omega
                      clear hqvy201 h33vy201 h24vy201
                      have hkvy201 : tkR T n Fvy201 vvy130.2 := tkR.w htvy201 hFvy201 (by omega)
                      refine z_if_eq (tgt := 97) C dX10_snow_149 (by decide) (by omega) (fun _ => ?_) (fun h => absurd h (by omega))
                      refine z_aload_n C 0 dX10_snow_97 rfl ?_
                      refine z_get (v := .int (zI (1))) C (lt_A0 hN rfl) hay78 hcvy201 rfl inA_X10 38 (by decide) q_1497 rfl (fv (F := Fvy201) (f := 38) hevy201) dX10_snow_98 ?_
                      refine z_if_ne (tgt := 159) C dX10_snow_101 (by decide) (by omega) (fun _ => ?_) (fun h => absurd h (by omega))
                      refine z_aload_n C 0 dX10_snow_159 rfl ?_
                      refine z_get (v := .int (zI (1))) C (lt_A0 hN rfl) hay78 hcvy201 rfl inA_X10 38 (by decide) q_1497 rfl (fv (F := Fvy201) (f := 38) hevy201) dX10_snow_160 ?_
                      refine z_if_eq (tgt := 181) C dX10_snow_163 (by decide) (by omega) (fun h => absurd h (by omega)) (fun _ => ?_)
                      refine z_aload_n C 0 dX10_snow_166 rfl ?_
                      refine z_get (v := .ref (ad (i + 11))) C (lt_A0 hN rfl) hay78 hcvy201 rfl inA_X10 10 (by decide) q_1469 rfl rfl dX10_snow_167 ?_
                      refine z_iconst (z := 0) C dX10_snow_170 rfl ?_
                      refine z_dup2 C dX10_snow_171 rfl rfl ?_
                      have hgy202 := (hfvy130 (i + 11) (ne_o (i := i) (c := 11) (d := 0) rfl) (by omega)).trans ((f3L _ (by omega) (by omega)).trans ha11)
                      have hgy203 := (hfvy201 (i + 11) (ne_o (i := i) (c := 11) (d := 0) rfl)).trans hgy202
                      refine z_iald C (lt_A (c := 11) hN rfl) hay89 hgy203 (0) (by omega) (by omega) (by decide) dX10_snow_172 ?_
                      refine z_iconst (z := 1) C dX10_snow_173 rfl ?_
                      refine z_iadd C dX10_snow_174 ?_
                      refine z_iast C (lt_A (c := 11) hN rfl) hay89 hgy203 (0) (by omega) (by omega) (by decide) dX10_snow_175 (fun gy204 egy205 => ?_)
                      have hgy206 := up_s egy205
                      refine z_aload_n C 0 dX10_snow_176 rfl ?_
                      have hgy207 := up_n egy205 hcvy201 (ne_o (i := i) (c := 0) (d := 11) rfl)
                      refine z_get (v := .int (zI (1))) C (lt_A0 hN rfl) hay78 hgy207 rfl inA_X10 38 (by decide) q_1497 rfl (fv (F := Fvy201) (f := 38) hevy201) dX10_snow_177 ?_
                      have hey208 : Fvy201 13 = F 13 := ((hFvy201 13 (by decide) (by decide)).trans ((hFvy130 13 (by decide) (by decide) (by decide) (by decide) (by decide) (by decide) (by decide) (by decide) (by decide) (by decide)).trans (fF 13 (by decide) (by decide) (by decide) (by decide) (by decide) (by decide) (by decide) (by decide) (by decide) (by decide) (by decide) (by decide) (by decide))))
                      have hey209 : Fvy201 14 = F 14 := ((hFvy201 14 (by decide) (by decide)).trans ((hFvy130 14 (by decide) (by decide) (by decide) (by decide) (by decide) (by decide) (by decide) (by decide) (by decide) (by decide)).trans (fF 14 (by decide) (by decide) (by decide) (by decide) (by decide) (by decide) (by decide) (by decide) (by decide) (by decide) (by decide) (by decide) (by decide))))
                      have hey210 : Fvy201 15 = F 15 := ((hFvy201 15 (by decide) (by decide)).trans ((hFvy130 15 (by decide) (by decide) (by decide) (by decide) (by decide) (by decide) (by decide) (by decide) (by decide) (by decide)).trans (fF 15 (by decide) (by decide) (by decide) (by decide) (by decide) (by decide) (by decide) (by decide) (by decide) (by decide) (by decide) (by decide) (by decide))))
                      have hey211 : Fvy201 16 = F 16 := ((hFvy201 16 (by decide) (by decide)).trans ((hFvy130 16 (by decide) (by decide) (by decide) (by decide) (by decide) (by decide) (by decide) (by decide) (by decide) (by decide)).trans (fF 16 (by decide) (by decide) (by decide) (by decide) (by decide) (by decide) (by decide) (by decide) (by decide) (by decide) (by decide) (by decide) (by decide))))
                      have hey212 : Fvy201 17 = F 17 := ((hFvy201 17 (by decide) (by decide)).trans ((hFvy130 17 (by decide) (by decide) (by decide) (by decide) (by decide) (by decide) (by decide) (by decide) (by decide) (by decide)).trans (fF 17 (by decide) (by decide) (by decide) (by decide) (by decide) (by decide) (by decide) (by decide) (by decide) (by decide) (by decide) (by decide) (by decide))))
                      have hey213 : Fvy201 18 = F 18 := ((hFvy201 18 (by decide) (by decide)).trans ((hFvy130 18 (by decide) (by decide) (by decide) (by decide) (by decide) (by decide) (by decide) (by decide) (by decide) (by decide)).trans (fF 18 (by decide) (by decide) (by decide) (by decide) (by decide) (by decide) (by decide) (by decide) (by decide) (by decide) (by decide) (by decide) (by decide))))
                      have hey214 : Fvy201 19 = F 19 := ((hFvy201 19 (by decide) (by decide)).trans ((hFvy130 19 (by decide) (by decide) (by decide) (by decide) (by decide) (by decide) (by decide) (by decide) (by decide) (by decide)).trans (fF 19 (by decide) (by decide) (by decide) (by decide) (by decide) (by decide) (by decide) (by decide) (by decide) (by decide) (by decide) (by decide) (by decide))))
                      have hey215 : Fvy201 20 = F 20 := ((hFvy201 20 (by decide) (by decide)).trans ((hFvy130 20 (by decide) (by decide) (by decide) (by decide) (by decide) (by decide) (by decide) (by decide) (by decide) (by decide)).trans (fF 20 (by decide) (by decide) (by decide) (by decide) (by decide) (by decide) (by decide) (by decide) (by decide) (by decide) (by decide) (by decide) (by decide))))
                      have hey216 : Fvy201 21 = F 21 := ((hFvy201 21 (by decide) (by decide)).trans ((hFvy130 21 (by decide) (by decide) (by decide) (by decide) (by decide) (by decide) (by decide) (by decide) (by decide) (by decide)).trans (fF 21 (by decide) (by decide) (by decide) (by decide) (by decide) (by decide) (by decide) (by decide) (by decide) (by decide) (by decide) (by decide) (by decide))))
                      have hey217 : Fvy201 23 = 0 := ((hFvy201 23 (by decide) (by decide)).trans ((hFvy130 23 (by decide) (by decide) (by decide) (by decide) (by decide) (by decide) (by decide) (by decide) (by decide) (by decide)).trans hsL.2.2.1))
                      have hey218 : Fvy201 25 = F 25 := ((hFvy201 25 (by decide) (by decide)).trans ((hFvy130 25 (by decide) (by decide) (by decide) (by decide) (by decide) (by decide) (by decide) (by decide) (by decide) (by decide)).trans (fF 25 (by decide) (by decide) (by decide) (by decide) (by decide) (by decide) (by decide) (by decide) (by decide) (by decide) (by decide) (by decide) (by decide))))
                      have hey219 : Fvy201 27 = F 27 := ((hFvy201 27 (by decide) (by decide)).trans ((hFvy130 27 (by decide) (by decide) (by decide) (by decide) (by decide) (by decide) (by decide) (by decide) (by decide) (by decide)).trans (fF 27 (by decide) (by decide) (by decide) (by decide) (by decide) (by decide) (by decide) (by decide) (by decide) (by decide) (by decide) (by decide) (by decide))))
                      have hey220 : Fvy201 28 = F 28 := ((hFvy201 28 (by decide) (by decide)).trans ((hFvy130 28 (by decide) (by decide) (by decide) (by decide) (by decide) (by decide) (by decide) (by decide) (by decide) (by decide)).trans (fF 28 (by decide) (by decide) (by decide) (by decide) (by decide) (by decide) (by decide) (by decide) (by decide) (by decide) (by decide) (by decide) (by decide))))
                      have hey221 : Fvy201 29 = F 29 := ((hFvy201 29 (by decide) (by decide)).trans ((hFvy130 29 (by decide) (by decide) (by decide) (by decide) (by decide) (by decide) (by decide) (by decide) (by decide) (by decide)).trans (fF 29 (by decide) (by decide) (by decide) (by decide) (by decide) (by decide) (by decide) (by decide) (by decide) (by decide) (by decide) (by decide) (by decide))))
                      have hey222 : Fvy201 24 = (vvy130.2 : Int) := hbvy201
                      have hey223 : Fvy201 12 = 0 := ((hFvy201 12 (by decide) (by decide)).trans ((hFvy130 12 (by decide) (by decide) (by decide) (by decide) (by decide) (by decide) (by decide) (by decide) (by decide) (by decide)).trans hsL.2.2.2))
                      have hey224 : Fvy201 32 = ((tk_to T n vvy130.2 : Nat) : Int) := ((hFvy201 32 (by decide) (by decide)).trans hkvy130.2.1)
                      have hey225 : Fvy201 38 = 1 := hevy201
                      have hey226 : Fvy201 47 = Fvy130 47 := (hFvy201 47 (by decide) (by decide))
                      have hey227 : Fvy201 48 = Fvy130 48 := (hFvy201 48 (by decide) (by decide))
                      have hey228 : Fvy201 49 = Fvy130 49 := (hFvy201 49 (by decide) (by decide))
                      have hKy229 : okF Fvy201 := by unfold okF; omega
                      have htky230 : tkR T n Fvy201 vvy130.2 := hkvy201
                      have htxy231 : okTx cs gy204 i Fvy201 := hxvy130.ok.mv (fun j a b => by rw [egy205, va_up_ne _ _ (by omega)]; rw [hfvy201 _ (by omega)]) ⟨by omega, by omega, by omega, by omega⟩
                      have hgy232 := (hfvy130 (i + 1) (ne_o (i := i) (c := 1) (d := 0) rfl) (by omega)).trans ((f3L _ (by omega) (by omega)).trans ha1)
                      have hgy233 := (hfvy201 (i + 1) (ne_o (i := i) (c := 1) (d := 0) rfl)).trans hgy232
                      have hgy234 := up_n egy205 hgy233 (ne_o (i := i) (c := 1) (d := 11) rfl)
                      have hMy235 : okMr cs ad gy204 i x Fvy201 r st op ai fa mu tb tp := okMr.upd2 hM hgy207 hKy229 (htky230.rd hTb) htxy231 hgy234 hA (fun j a b c => by
                          by_cases e0 : j = i + 11
                          · exact Or.inr ⟨11, _, e0, lsP.l (by decide), by rw [e0]; exact hgy206⟩
                          exact Or.inl (by rw [egy205, va_up_ne _ _ (by omega)]; rw [hfvy201 _ (by omega)]; rw [hfvy130 _ (by omega) (by omega)]; rw [f3L _ (by omega) (by omega)]))
                      have hMx := okMr.mono (y := x + 1) hMy235 (by omega)
                      obtain ⟨k9, hk9⟩ := hf9 ((1, ((vvy130.2 : Nat) : Int)), s9) ⟨1, by simp only [ps_run]; rw [if_neg hso, ps_step_ns hvvy130 h3]⟩
                      have hkpy236 : Fvy201 13 = F 13 := ((hFvy201 13 (by decide) (by decide)).trans ((hFvy130 13 (by decide) (by decide) (by decide) (by decide) (by decide) (by decide) (by decide) (by decide) (by decide) (by decide)).trans (fF 13 (by decide) (by decide) (by decide) (by decide) (by decide) (by decide) (by decide) (by decide) (by decide) (by decide) (by decide) (by decide) (by decide))))
                      have hkpy237 : Fvy201 14 = F 14 := ((hFvy201 14 (by decide) (by decide)).trans ((hFvy130 14 (by decide) (by decide) (by decide) (by decide) (by decide) (by decide) (by decide) (by decide) (by decide) (by decide)).trans (fF 14 (by decide) (by decide) (by decide) (by decide) (by decide) (by decide) (by decide) (by decide) (by decide) (by decide) (by decide) (by decide) (by decide))))
                      have hkpy238 : Fvy201 17 = F 17 := ((hFvy201 17 (by decide) (by decide)).trans ((hFvy130 17 (by decide) (by decide) (by decide) (by decide) (by decide) (by decide) (by decide) (by decide) (by decide) (by decide)).trans (fF 17 (by decide) (by decide) (by decide) (by decide) (by decide) (by decide) (by decide) (by decide) (by decide) (by decide) (by decide) (by decide) (by decide))))
                      have hkpy239 : Fvy201 20 = F 20 := ((hFvy201 20 (by decide) (by decide)).trans ((hFvy130 20 (by decide) (by decide) (by decide) (by decide) (by decide) (by decide) (by decide) (by decide) (by decide) (by decide)).trans (fF 20 (by decide) (by decide) (by decide) (by decide) (by decide) (by decide) (by decide) (by decide) (by decide) (by decide) (by decide) (by decide) (by decide))))
                      have hkpy240 : Fvy201 21 = F 21 := ((hFvy201 21 (by decide) (by decide)).trans ((hFvy130 21 (by decide) (by decide) (by decide) (by decide) (by decide) (by decide) (by decide) (by decide) (by decide) (by decide)).trans (fF 21 (by decide) (by decide) (by decide) (by decide) (by decide) (by decide) (by decide) (by decide) (by decide) (by decide) (by decide) (by decide) (by decide))))
                      have hkpy241 : Fvy201 23 = 0 := ((hFvy201 23 (by decide) (by decide)).trans ((hFvy130 23 (by decide) (by decide) (by decide) (by decide) (by decide) (by decide) (by decide) (by decide) (by decide) (by decide)).trans hsL.2.2.1))
                      have hkpy242 : Fvy201 24 = (vvy130.2 : Int) := hbvy201
                      exact z_iret C hr hlk dX10_snow_180 (by decide) (by decide) ⟨1, rfl, rfl, rfl, by omega, ⟨k9, _, s9, hk9, Or.inr ⟨by omega, _, _, hMx, by omega, by omega⟩⟩, fun j j1 => by rw [egy205, va_up_ne _ _ (by omega)]; rw [hfvy201 _ (by omega)]; rw [hfvy130 _ (by omega) (by omega)]; rw [f3L _ (by omega) (by omega)]⟩
                    · exact absurd ((vlu3 (T := T) (n := n) (f := vvy130.2) (by omega) 59 3 (by omega)).mp (by omega)) h3
              · obtain ⟨evy130, hv0vy130, havy130, hbvy130, hlvy130, ⟨f9vy130, hkvy130⟩, hxvy130⟩ := hqvy130
                have hvvy130 : ps_cl T n s9 f = .error evy130 := hv0vy130
                have hsry243 := srt_b T n f9vy130
                have hvly244 := vlu_b hTb f9vy130
                have hwby245 := tk_w_b T n f9vy130
                have hfny246 := hkvy130.1
                have hzvy130 := hkvy130.2.1
                refine z_aload_n C 0 dX10_snow_115 rfl ?_
                refine z_get (v := .int (zI (evy130.1))) C (lt_A0 hN rfl) hay78 hcvy130 rfl inA_X10 38 (by decide) q_1497 rfl (fv (F := Fvy130) (f := 38) havy130) dX10_snow_116 ?_
                refine z_if_ne (tgt := 97) C dX10_snow_119 (by decide) (by omega) (fun _ => ?_) (fun h => absurd h (by omega))
                refine z_aload_n C 0 dX10_snow_97 rfl ?_
                refine z_get (v := .int (zI (evy130.1))) C (lt_A0 hN rfl) hay78 hcvy130 rfl inA_X10 38 (by decide) q_1497 rfl (fv (F := Fvy130) (f := 38) havy130) dX10_snow_98 ?_
                refine z_if_ne (tgt := 159) C dX10_snow_101 (by decide) (by omega) (fun _ => ?_) (fun h => absurd h (by omega))
                refine z_aload_n C 0 dX10_snow_159 rfl ?_
                refine z_get (v := .int (zI (evy130.1))) C (lt_A0 hN rfl) hay78 hcvy130 rfl inA_X10 38 (by decide) q_1497 rfl (fv (F := Fvy130) (f := 38) havy130) dX10_snow_160 ?_
                refine z_if_eq (tgt := 181) C dX10_snow_163 (by decide) (by omega) (fun h => absurd h (by omega)) (fun _ => ?_)
                refine z_aload_n C 0 dX10_snow_166 rfl ?_
                refine z_get (v := .ref (ad (i + 11))) C (lt_A0 hN rfl) hay78 hcvy130 rfl inA_X10 10 (by decide) q_1469 rfl rfl dX10_snow_167 ?_
                refine z_iconst (z := 0) C dX10_snow_170 rfl ?_
                refine z_dup2 C dX10_snow_171 rfl rfl ?_
                have hgy247 := (hfvy130 (i + 11) (ne_o (i := i) (c := 11) (d := 0) rfl) (by omega)).trans ((f3L _ (by omega) (by omega)).trans ha11)
                refine z_iald C (lt_A (c := 11) hN rfl) hay89 hgy247 (0) (by omega) (by omega) (by decide) dX10_snow_172 ?_
                refine z_iconst (z := 1) C dX10_snow_173 rfl ?_
                refine z_iadd C dX10_snow_174 ?_
                refine z_iast C (lt_A (c := 11) hN rfl) hay89 hgy247 (0) (by omega) (by omega) (by decide) dX10_snow_175 (fun gy248 egy249 => ?_)
                have hgy250 := up_s egy249
                refine z_aload_n C 0 dX10_snow_176 rfl ?_
                have hgy251 := up_n egy249 hcvy130 (ne_o (i := i) (c := 0) (d := 11) rfl)
                refine z_get (v := .int (zI (evy130.1))) C (lt_A0 hN rfl) hay78 hgy251 rfl inA_X10 38 (by decide) q_1497 rfl (fv (F := Fvy130) (f := 38) havy130) dX10_snow_177 ?_
                have hey252 : Fvy130 13 = F 13 := ((hFvy130 13 (by decide) (by decide) (by decide) (by decide) (by decide) (by decide) (by decide) (by decide) (by decide) (by decide)).trans (fF 13 (by decide) (by decide) (by decide) (by decide) (by decide) (by decide) (by decide) (by decide) (by decide) (by decide) (by decide) (by decide) (by decide)))
                have hey253 : Fvy130 14 = F 14 := ((hFvy130 14 (by decide) (by decide) (by decide) (by decide) (by decide) (by decide) (by decide) (by decide) (by decide) (by decide)).trans (fF 14 (by decide) (by decide) (by decide) (by decide) (by decide) (by decide) (by decide) (by decide) (by decide) (by decide) (by decide) (by decide) (by decide)))
                have hey254 : Fvy130 15 = F 15 := ((hFvy130 15 (by decide) (by decide) (by decide) (by decide) (by decide) (by decide) (by decide) (by decide) (by decide) (by decide)).trans (fF 15 (by decide) (by decide) (by decide) (by decide) (by decide) (by decide) (by decide) (by decide) (by decide) (by decide) (by decide) (by decide) (by decide)))
                have hey255 : Fvy130 16 = F 16 := ((hFvy130 16 (by decide) (by decide) (by decide) (by decide) (by decide) (by decide) (by decide) (by decide) (by decide) (by decide)).trans (fF 16 (by decide) (by decide) (by decide) (by decide) (by decide) (by decide) (by decide) (by decide) (by decide) (by decide) (by decide) (by decide) (by decide)))
                have hey256 : Fvy130 17 = F 17 := ((hFvy130 17 (by decide) (by decide) (by decide) (by decide) (by decide) (by decide) (by decide) (by decide) (by decide) (by decide)).trans (fF 17 (by decide) (by decide) (by decide) (by decide) (by decide) (by decide) (by decide) (by decide) (by decide) (by decide) (by decide) (by decide) (by decide)))
                have hey257 : Fvy130 18 = F 18 := ((hFvy130 18 (by decide) (by decide) (by decide) (by decide) (by decide) (by decide) (by decide) (by decide) (by decide) (by decide)).trans (fF 18 (by decide) (by decide) (by decide) (by decide) (by decide) (by decide) (by decide) (by decide) (by decide) (by decide) (by decide) (by decide) (by decide)))
                have hey258 : Fvy130 19 = F 19 := ((hFvy130 19 (by decide) (by decide) (by decide) (by decide) (by decide) (by decide) (by decide) (by decide) (by decide) (by decide)).trans (fF 19 (by decide) (by decide) (by decide) (by decide) (by decide) (by decide) (by decide) (by decide) (by decide) (by decide) (by decide) (by decide) (by decide)))
                have hey259 : Fvy130 20 = F 20 := ((hFvy130 20 (by decide) (by decide) (by decide) (by decide) (by decide) (by decide) (by decide) (by decide) (by decide) (by decide)).trans (fF 20 (by decide) (by decide) (by decide) (by decide) (by decide) (by decide) (by decide) (by decide) (by decide) (by decide) (by decide) (by decide) (by decide)))
                have hey260 : Fvy130 21 = F 21 := ((hFvy130 21 (by decide) (by decide) (by decide) (by decide) (by decide) (by decide) (by decide) (by decide) (by decide) (by decide)).trans (fF 21 (by decide) (by decide) (by decide) (by decide) (by decide) (by decide) (by decide) (by decide) (by decide) (by decide) (by decide) (by decide) (by decide)))
                have hey261 : Fvy130 23 = 0 := ((hFvy130 23 (by decide) (by decide) (by decide) (by decide) (by decide) (by decide) (by decide) (by decide) (by decide) (by decide)).trans hsL.2.2.1)
                have hey262 : Fvy130 25 = F 25 := ((hFvy130 25 (by decide) (by decide) (by decide) (by decide) (by decide) (by decide) (by decide) (by decide) (by decide) (by decide)).trans (fF 25 (by decide) (by decide) (by decide) (by decide) (by decide) (by decide) (by decide) (by decide) (by decide) (by decide) (by decide) (by decide) (by decide)))
                have hey263 : Fvy130 27 = F 27 := ((hFvy130 27 (by decide) (by decide) (by decide) (by decide) (by decide) (by decide) (by decide) (by decide) (by decide) (by decide)).trans (fF 27 (by decide) (by decide) (by decide) (by decide) (by decide) (by decide) (by decide) (by decide) (by decide) (by decide) (by decide) (by decide) (by decide)))
                have hey264 : Fvy130 28 = F 28 := ((hFvy130 28 (by decide) (by decide) (by decide) (by decide) (by decide) (by decide) (by decide) (by decide) (by decide) (by decide)).trans (fF 28 (by decide) (by decide) (by decide) (by decide) (by decide) (by decide) (by decide) (by decide) (by decide) (by decide) (by decide) (by decide) (by decide)))
                have hey265 : Fvy130 29 = F 29 := ((hFvy130 29 (by decide) (by decide) (by decide) (by decide) (by decide) (by decide) (by decide) (by decide) (by decide) (by decide)).trans (fF 29 (by decide) (by decide) (by decide) (by decide) (by decide) (by decide) (by decide) (by decide) (by decide) (by decide) (by decide) (by decide) (by decide)))
                have hey266 : Fvy130 24 = (evy130.2 : Int) := hbvy130
                have hey267 : Fvy130 12 = 0 := ((hFvy130 12 (by decide) (by decide) (by decide) (by decide) (by decide) (by decide) (by decide) (by decide) (by decide) (by decide)).trans hsL.2.2.2)
                have hey268 : Fvy130 32 = ((tk_to T n f9vy130 : Nat) : Int) := hkvy130.2.1
                have hey269 : Fvy130 38 = evy130.1 := havy130
                have hey270 : Fvy130 47 = Fvy130 47 := rfl
                have hey271 : Fvy130 48 = Fvy130 48 := rfl
                have hey272 : Fvy130 49 = Fvy130 49 := rfl
                have hKy273 : okF Fvy130 := by unfold okF; omega
                have htky274 : tkR T n Fvy130 f9vy130 := hkvy130
                have htxy275 : okTx cs gy248 i Fvy130 := hxvy130.mv (fun j a b => by rw [egy249, va_up_ne _ _ (by omega)]) ⟨by omega, by omega, by omega, by omega⟩
                have hgy276 := (hfvy130 (i + 1) (ne_o (i := i) (c := 1) (d := 0) rfl) (by omega)).trans ((f3L _ (by omega) (by omega)).trans ha1)
                have hgy277 := up_n egy249 hgy276 (ne_o (i := i) (c := 1) (d := 11) rfl)
                have hMy278 : okMr cs ad gy248 i x Fvy130 r st op ai fa mu tb tp := okMr.upd2 hM hgy251 hKy273 (htky274.rd hTb) htxy275 hgy277 hA (fun j a b c => by
                    by_cases e0 : j = i + 11
                    · exact Or.inr ⟨11, _, e0, lsP.l (by decide), by rw [e0]; exact hgy250⟩
                    exact Or.inl (by rw [egy249, va_up_ne _ _ (by omega)]; rw [hfvy130 _ (by omega) (by omega)]; rw [f3L _ (by omega) (by omega)]))
                have hMx := okMr.mono (y := x + 1) hMy278 (by omega)
                obtain ⟨k9, hk9⟩ := hf9 ((evy130.1, (evy130.2 : Int)), s9) ⟨1, by simp only [ps_run]; rw [if_neg hso, ps_step_er hvvy130]⟩
                have hkpy279 : Fvy130 13 = F 13 := ((hFvy130 13 (by decide) (by decide) (by decide) (by decide) (by decide) (by decide) (by decide) (by decide) (by decide) (by decide)).trans (fF 13 (by decide) (by decide) (by decide) (by decide) (by decide) (by decide) (by decide) (by decide) (by decide) (by decide) (by decide) (by decide) (by decide)))
                have hkpy280 : Fvy130 14 = F 14 := ((hFvy130 14 (by decide) (by decide) (by decide) (by decide) (by decide) (by decide) (by decide) (by decide) (by decide) (by decide)).trans (fF 14 (by decide) (by decide) (by decide) (by decide) (by decide) (by decide) (by decide) (by decide) (by decide) (by decide) (by decide) (by decide) (by decide)))
                have hkpy281 : Fvy130 17 = F 17 := ((hFvy130 17 (by decide) (by decide) (by decide) (by decide) (by decide) (by decide) (by decide) (by decide) (by decide) (by decide)).trans (fF 17 (by decide) (by decide) (by decide) (by decide) (by decide) (by decide) (by decide) (by decide) (by decide) (by decide) (by decide) (by decide) (by decide)))
                have hkpy282 : Fvy130 20 = F 20 := ((hFvy130 20 (by decide) (by decide) (by decide) (by decide) (by decide) (by decide) (by decide) (by decide) (by decide) (by decide)).trans (fF 20 (by decide) (by decide) (by decide) (by decide) (by decide) (by decide) (by decide) (by decide) (by decide) (by decide) (by decide) (by decide) (by decide)))
                have hkpy283 : Fvy130 21 = F 21 := ((hFvy130 21 (by decide) (by decide) (by decide) (by decide) (by decide) (by decide) (by decide) (by decide) (by decide) (by decide)).trans (fF 21 (by decide) (by decide) (by decide) (by decide) (by decide) (by decide) (by decide) (by decide) (by decide) (by decide) (by decide) (by decide) (by decide)))
                have hkpy284 : Fvy130 23 = 0 := ((hFvy130 23 (by decide) (by decide) (by decide) (by decide) (by decide) (by decide) (by decide) (by decide) (by decide) (by decide)).trans hsL.2.2.1)
                have hkpy285 : Fvy130 24 = (evy130.2 : Int) := hbvy130
                exact z_iret C hr hlk dX10_snow_180 (by decide) (by decide) ⟨evy130.1, rfl, rfl, rfl, by omega, ⟨k9, _, s9, hk9, Or.inr ⟨by omega, _, _, hMx, by omega, by omega⟩⟩, fun j j1 => by rw [egy249, va_up_ne _ _ (by omega)]; rw [hfvy130 _ (by omega) (by omega)]; rw [f3L _ (by omega) (by omega)]⟩
        have hey286 : Fvy73 12 = 0 := ((hFvy73 12 (by decide) (by decide) (by decide) (by decide) (by decide)).trans (fn (fn (fn (fn (fn (fn (fn (fn hevy35 (by decide)) (by decide)) (by decide)) (by decide)) (by decide)) (by decide)) (by decide)) (by decide)))
        have hey287 : Fvy73 23 = 0 := ((hFvy73 23 (by decide) (by decide) (by decide) (by decide) (by decide)).trans (fn (fn (fn (fn (fn (fn (fn (uZ_s _ _ _) (by decide)) (by decide)) (by decide)) (by decide)) (by decide)) (by decide)) (by decide)))
        have hey288 : Fvy73 24 = -1 := ((hFvy73 24 (by decide) (by decide) (by decide) (by decide) (by decide)).trans (fn (fn (fn (uZ_s _ _ _) (by decide)) (by decide)) (by decide)))
        have hey289 : Fvy73 32 = ((tk_to T n (tk_at T n 0) : Nat) : Int) := hkvy73.2.1
        have hey290 : Fvy73 38 = 0 := ((hFvy73 38 (by decide) (by decide) (by decide) (by decide) (by decide)).trans (fn (fn (fn (fn (uZ_s _ _ _) (by decide)) (by decide)) (by decide)) (by decide)))
        have hey291 : Fvy73 47 = 0 := ((hFvy73 47 (by decide) (by decide) (by decide) (by decide) (by decide)).trans (uZ_s _ _ _))
        have hey292 : Fvy73 48 = 0 := ((hFvy73 48 (by decide) (by decide) (by decide) (by decide) (by decide)).trans (fn (uZ_s _ _ _) (by decide)))
        have hey293 : Fvy73 49 = 0 := ((hFvy73 49 (by decide) (by decide) (by decide) (by decide) (by decide)).trans (fn (fn (uZ_s _ _ _) (by decide)) (by decide)))
        have htky294 : tkR T n Fvy73 (tk_at T n 0) := hkvy73
        have hgy296 := up_n egy33 ha16 (ne_o (i := i) (c := 16) (d := 0) rfl)
        have hgy297 := (hfvy35 (i + 16) (ne_o (i := i) (c := 16) (d := 0) rfl)).trans hgy296
        have hgy298 := up_n egy37 hgy297 (ne_o (i := i) (c := 16) (d := 0) rfl)
        have hgy299 := up_n egy40 hgy298 (ne_o (i := i) (c := 16) (d := 0) rfl)
        have hgy300 := up_n egy43 hgy299 (ne_o (i := i) (c := 16) (d := 0) rfl)
        have hgy301 := up_n egy46 hgy300 (ne_o (i := i) (c := 16) (d := 0) rfl)
        have hgy302 := up_n egy49 hgy301 (ne_o (i := i) (c := 16) (d := 0) rfl)
        have hgy303 := up_n egy52 hgy302 (ne_o (i := i) (c := 16) (d := 0) rfl)
        have hgy304 := up_n egy55 hgy303 (ne_o (i := i) (c := 16) (d := 0) rfl)
        have hgy305 := up_n egy58 hgy304 (ne_o (i := i) (c := 16) (d := 0) rfl)
        have hgy306 := (f3A (i + 16) (ne_o (i := i) (c := 16) (d := 22) rfl)).trans hgy305
        have hgy307 := (hfvy73 (i + 16) (ne_o (i := i) (c := 16) (d := 0) rfl)).trans hgy306
        have hgy308 := up_n egy33 ha17 (ne_o (i := i) (c := 17) (d := 0) rfl)
        have hgy309 := (hfvy35 (i + 17) (ne_o (i := i) (c := 17) (d := 0) rfl)).trans hgy308
        have hgy310 := up_n egy37 hgy309 (ne_o (i := i) (c := 17) (d := 0) rfl)
        have hgy311 := up_n egy40 hgy310 (ne_o (i := i) (c := 17) (d := 0) rfl)
        have hgy312 := up_n egy43 hgy311 (ne_o (i := i) (c := 17) (d := 0) rfl)
        have hgy313 := up_n egy46 hgy312 (ne_o (i := i) (c := 17) (d := 0) rfl)
        have hgy314 := up_n egy49 hgy313 (ne_o (i := i) (c := 17) (d := 0) rfl)
        have hgy315 := up_n egy52 hgy314 (ne_o (i := i) (c := 17) (d := 0) rfl)
        have hgy316 := up_n egy55 hgy315 (ne_o (i := i) (c := 17) (d := 0) rfl)
        have hgy317 := up_n egy58 hgy316 (ne_o (i := i) (c := 17) (d := 0) rfl)
        have hgy318 := (f3A (i + 17) (ne_o (i := i) (c := 17) (d := 22) rfl)).trans hgy317
        have hgy319 := (hfvy73 (i + 17) (ne_o (i := i) (c := 17) (d := 0) rfl)).trans hgy318
        have hgy320 := up_n egy33 ha18 (ne_o (i := i) (c := 18) (d := 0) rfl)
        have hgy321 := (hfvy35 (i + 18) (ne_o (i := i) (c := 18) (d := 0) rfl)).trans hgy320
        have hgy322 := up_n egy37 hgy321 (ne_o (i := i) (c := 18) (d := 0) rfl)
        have hgy323 := up_n egy40 hgy322 (ne_o (i := i) (c := 18) (d := 0) rfl)
        have hgy324 := up_n egy43 hgy323 (ne_o (i := i) (c := 18) (d := 0) rfl)
        have hgy325 := up_n egy46 hgy324 (ne_o (i := i) (c := 18) (d := 0) rfl)
        have hgy326 := up_n egy49 hgy325 (ne_o (i := i) (c := 18) (d := 0) rfl)
        have hgy327 := up_n egy52 hgy326 (ne_o (i := i) (c := 18) (d := 0) rfl)
        have hgy328 := up_n egy55 hgy327 (ne_o (i := i) (c := 18) (d := 0) rfl)
        have hgy329 := up_n egy58 hgy328 (ne_o (i := i) (c := 18) (d := 0) rfl)
        have hgy330 := (f3A (i + 18) (ne_o (i := i) (c := 18) (d := 22) rfl)).trans hgy329
        have hgy331 := (hfvy73 (i + 18) (ne_o (i := i) (c := 18) (d := 0) rfl)).trans hgy330
        have hgy332 := up_n egy33 ha19 (ne_o (i := i) (c := 19) (d := 0) rfl)
        have hgy333 := (hfvy35 (i + 19) (ne_o (i := i) (c := 19) (d := 0) rfl)).trans hgy332
        have hgy334 := up_n egy37 hgy333 (ne_o (i := i) (c := 19) (d := 0) rfl)
        have hgy335 := up_n egy40 hgy334 (ne_o (i := i) (c := 19) (d := 0) rfl)
        have hgy336 := up_n egy43 hgy335 (ne_o (i := i) (c := 19) (d := 0) rfl)
        have hgy337 := up_n egy46 hgy336 (ne_o (i := i) (c := 19) (d := 0) rfl)
        have hgy338 := up_n egy49 hgy337 (ne_o (i := i) (c := 19) (d := 0) rfl)
        have hgy339 := up_n egy52 hgy338 (ne_o (i := i) (c := 19) (d := 0) rfl)
        have hgy340 := up_n egy55 hgy339 (ne_o (i := i) (c := 19) (d := 0) rfl)
        have hgy341 := up_n egy58 hgy340 (ne_o (i := i) (c := 19) (d := 0) rfl)
        have hgy342 := (f3A (i + 19) (ne_o (i := i) (c := 19) (d := 22) rfl)).trans hgy341
        have hgy343 := (hfvy73 (i + 19) (ne_o (i := i) (c := 19) (d := 0) rfl)).trans hgy342
        have hgy344 := up_n egy33 ha20 (ne_o (i := i) (c := 20) (d := 0) rfl)
        have hgy345 := (hfvy35 (i + 20) (ne_o (i := i) (c := 20) (d := 0) rfl)).trans hgy344
        have hgy346 := up_n egy37 hgy345 (ne_o (i := i) (c := 20) (d := 0) rfl)
        have hgy347 := up_n egy40 hgy346 (ne_o (i := i) (c := 20) (d := 0) rfl)
        have hgy348 := up_n egy43 hgy347 (ne_o (i := i) (c := 20) (d := 0) rfl)
        have hgy349 := up_n egy46 hgy348 (ne_o (i := i) (c := 20) (d := 0) rfl)
        have hgy350 := up_n egy49 hgy349 (ne_o (i := i) (c := 20) (d := 0) rfl)
        have hgy351 := up_n egy52 hgy350 (ne_o (i := i) (c := 20) (d := 0) rfl)
        have hgy352 := up_n egy55 hgy351 (ne_o (i := i) (c := 20) (d := 0) rfl)
        have hgy353 := up_n egy58 hgy352 (ne_o (i := i) (c := 20) (d := 0) rfl)
        have hgy354 := (f3A (i + 20) (ne_o (i := i) (c := 20) (d := 22) rfl)).trans hgy353
        have hgy355 := (hfvy73 (i + 20) (ne_o (i := i) (c := 20) (d := 0) rfl)).trans hgy354
        have hgy356 := up_n egy33 ha21 (ne_o (i := i) (c := 21) (d := 0) rfl)
        have hgy357 := (hfvy35 (i + 21) (ne_o (i := i) (c := 21) (d := 0) rfl)).trans hgy356
        have hgy358 := up_n egy37 hgy357 (ne_o (i := i) (c := 21) (d := 0) rfl)
        have hgy359 := up_n egy40 hgy358 (ne_o (i := i) (c := 21) (d := 0) rfl)
        have hgy360 := up_n egy43 hgy359 (ne_o (i := i) (c := 21) (d := 0) rfl)
        have hgy361 := up_n egy46 hgy360 (ne_o (i := i) (c := 21) (d := 0) rfl)
        have hgy362 := up_n egy49 hgy361 (ne_o (i := i) (c := 21) (d := 0) rfl)
        have hgy363 := up_n egy52 hgy362 (ne_o (i := i) (c := 21) (d := 0) rfl)
        have hgy364 := up_n egy55 hgy363 (ne_o (i := i) (c := 21) (d := 0) rfl)
        have hgy365 := up_n egy58 hgy364 (ne_o (i := i) (c := 21) (d := 0) rfl)
        have hgy366 := (f3A (i + 21) (ne_o (i := i) (c := 21) (d := 22) rfl)).trans hgy365
        have hgy367 := (hfvy73 (i + 21) (ne_o (i := i) (c := 21) (d := 0) rfl)).trans hgy366
        have hgy368 := (hfvy73 (i + 22) (ne_o (i := i) (c := 22) (d := 0) rfl)).trans f2A_t9
        have hgy369 := up_n egy33 ha23 (ne_o (i := i) (c := 23) (d := 0) rfl)
        have hgy370 := (hfvy35 (i + 23) (ne_o (i := i) (c := 23) (d := 0) rfl)).trans hgy369
        have hgy371 := up_n egy37 hgy370 (ne_o (i := i) (c := 23) (d := 0) rfl)
        have hgy372 := up_n egy40 hgy371 (ne_o (i := i) (c := 23) (d := 0) rfl)
        have hgy373 := up_n egy43 hgy372 (ne_o (i := i) (c := 23) (d := 0) rfl)
        have hgy374 := up_n egy46 hgy373 (ne_o (i := i) (c := 23) (d := 0) rfl)
        have hgy375 := up_n egy49 hgy374 (ne_o (i := i) (c := 23) (d := 0) rfl)
        have hgy376 := up_n egy52 hgy375 (ne_o (i := i) (c := 23) (d := 0) rfl)
        have hgy377 := up_n egy55 hgy376 (ne_o (i := i) (c := 23) (d := 0) rfl)
        have hgy378 := up_n egy58 hgy377 (ne_o (i := i) (c := 23) (d := 0) rfl)
        have hgy379 := (f3A (i + 23) (ne_o (i := i) (c := 23) (d := 22) rfl)).trans hgy378
        have hgy380 := (hfvy73 (i + 23) (ne_o (i := i) (c := 23) (d := 0) rfl)).trans hgy379
        have htoy381 := tk_to_w (T := T) (n := n) (f := (tk_at T n 0)) htky294.1.1
        have h32y382 := htky294.2.1
        have hxty295 : xTx cs gvy73 i Fvy73 (0, 0, 0, (fun _ => 0), st0, op0, ai0, fa0, mu0, tabZ, (fun _ => 0), L0) := ⟨_, _, _, _, _, _, _, _, ⟨hgy307, hgy319, hgy331, hgy343, hgy355, hgy367, hgy368, hgy380⟩, ⟨⟨by omega, by omega, by omega⟩, hop1, hmn1, hai1, hfa1, (fun k hk => Or.inl (fTa k (by omega))), fun s l h1 h2 => absurd h1 (by omega)⟩, ⟨⟨by show Fvy73 47 = 0; omega, by show Fvy73 48 = 0; omega, by show Fvy73 49 = 0; omega⟩, fun k hk => absurd (show (k : Int) < 0 from hk) (by omega), fun k hk => absurd (show (k : Int) < 0 from hk) (by omega), fun k hk => Or.inl ⟨fTa k (by omega), rfl, rfl⟩, fun j l hj _ _ _ => absurd (show (j : Int) < 0 from hj) (by omega), fun _ _ => rfl⟩⟩
        have hFy383 : ∀ f, f ≠ 12 → f ≠ 23 → f ≠ 24 → f ≠ 32 → f ≠ 33 → f ≠ 34 → f ≠ 35 → f ≠ 36 → f ≠ 37 → f ≠ 38 → f ≠ 47 → f ≠ 48 → f ≠ 49 → Fvy73 f = F f := fun f n12 n23 n24 n32 n33 n34 n35 n36 n37 n38 n47 n48 n49 => ((hFvy73 f n32 n33 n35 n36 n37).trans ((uZ_n _ _ n47).trans ((uZ_n _ _ n48).trans ((uZ_n _ _ n49).trans ((uZ_n _ _ n24).trans ((uZ_n _ _ n38).trans ((uZ_n _ _ n32).trans ((uZ_n _ _ n34).trans ((uZ_n _ _ n23).trans ((hFvy35 f n12).trans ((uZ_n _ _ n12).trans rfl)))))))))))
        refine z_lv (lv' := [(0, .ref (ad i)), (1, .int (zI ((n : Int))))]) [0, 1] rfl ?_
        exact L _ (tk_at T n 0) (0, 0, 0, (fun _ => 0), st0, op0, ai0, fa0, mu0, tabZ, (fun _ => 0), L0) _ gvy73 rfl hcvy73 htky294 hxty295 (fun r9 h9 => h9) hFy383 (fun j j1 j2 => by rw [hfvy73 _ (by omega)]; rw [f3A _ (by omega)]; rw [egy58, va_up_ne _ _ (by omega)]; rw [egy55, va_up_ne _ _ (by omega)]; rw [egy52, va_up_ne _ _ (by omega)]; rw [egy49, va_up_ne _ _ (by omega)]; rw [egy46, va_up_ne _ _ (by omega)]; rw [egy43, va_up_ne _ _ (by omega)]; rw [egy40, va_up_ne _ _ (by omega)]; rw [egy37, va_up_ne _ _ (by omega)]; rw [hfvy35 _ (by omega)]; rw [egy33, va_up_ne _ _ (by omega)]) (by omega)
      · refine z_aload_n C 0 dX10_snow_80 rfl ?_
        have hgy384 := (f3A (i) (ne_o (i := i) (c := 0) (d := 22) rfl)).trans hgy59
        refine z_get (v := .ref (ad (i + 22))) C (lt_A0 hN rfl) hay1 hgy384 rfl inA_X10 45 (by decide) q_1504 rfl rfl dX10_snow_81 ?_
        refine z_iload_n C 2 dX10_snow_84 rfl ?_
        refine z_iconst (z := -1) C dX10_snow_85 rfl ?_
        refine z_iast C (lt_A (c := 22) hN rfl) hay30 f2A_t9 (nkA) (by omega) (by omega) (by decide) dX10_snow_86 (fun gy385 egy386 => ?_)
        have hgy387 := up_s egy386
        obtain ⟨ry388, hvy389⟩ : ∃ rZ9 : Nat → Int, rZ9 = uZ t9 (nkA) (-1) := ⟨_, rfl⟩
        rw [← hvy389] at hgy387
        refine z_iinc (z := ka + 1) (lv' := [(2, .int (zI (ka + 1))), (0, .ref (ad i)), (1, .int (zI ((n : Int))))]) (j := 2) C dX10_snow_87 rfl rfl (by decide) rfl ?_
        refine z_goto (tgt := 74) C dX10_snow_90 (by decide) ?_
        refine z_lv (lv' := [(0, .ref (ad i)), (1, .int (zI ((n : Int)))), (2, .int (zI (ka + 1)))]) [1, 2, 0] rfl ?_
        exact ih_A _ (by omega) (ka + 1) ry388 gy385 rfl hgy387 (fun j j1 => by rw [egy386, va_up_ne _ _ (by omega)]; exact f3A j j1) (fun j hj => by rw [hvy389]; by_cases e : j = nkA; (rw [e, uZ_s]); (rw [uZ_n _ _ e]; exact fTa j (by omega))) (by omega)
  have hgy390 := up_n egy33 ha22 (ne_o (i := i) (c := 22) (d := 0) rfl)
  have hgy391 := (hfvy35 (i + 22) (ne_o (i := i) (c := 22) (d := 0) rfl)).trans hgy390
  have hgy392 := up_n egy37 hgy391 (ne_o (i := i) (c := 22) (d := 0) rfl)
  have hgy393 := up_n egy40 hgy392 (ne_o (i := i) (c := 22) (d := 0) rfl)
  have hgy394 := up_n egy43 hgy393 (ne_o (i := i) (c := 22) (d := 0) rfl)
  have hgy395 := up_n egy46 hgy394 (ne_o (i := i) (c := 22) (d := 0) rfl)
  have hgy396 := up_n egy49 hgy395 (ne_o (i := i) (c := 22) (d := 0) rfl)
  have hgy397 := up_n egy52 hgy396 (ne_o (i := i) (c := 22) (d := 0) rfl)
  have hgy398 := up_n egy55 hgy397 (ne_o (i := i) (c := 22) (d := 0) rfl)
  have hgy399 := up_n egy58 hgy398 (ne_o (i := i) (c := 22) (d := 0) rfl)
  refine z_lv (lv' := [(0, .ref (ad i)), (1, .int (zI ((n : Int)))), (2, .int (zI (0)))]) [1, 2, 0] rfl ?_
  exact A _ (0) tb1 gy57 rfl hgy399 (fun j _ => rfl) (fun k a => absurd a (by omega)) (by omega)
end
section
-- 99v.words.lean.txt
-- words of refcast
end
section
-- 99w.dec.lean.txt
-- decode rows of refcast
end
section
-- 99x.refcast.lean.txt
set_option maxRecDepth 100000 in
set_option maxHeartbeats 4000000 in
theorem c_yForecast (l : Launch) (D : va_G) (A : Nat → Prop) (cs : Nat → ClassId) (tt : Nat) (N : Nat) (ad : Nat → Nat) (g : Nat → va_E) (i : Nat) (hN : i + 30 ≤ N) (x : Int) (hx : 0 ≤ x ∧ x ≤ 512) (F r : Nat → Int) {st op ai fa mu tb tp : Nat → Int} (hM : okMr cs ad g i x F r st op ai fa mu tb tp) (z : Int) (hz : -2147483648 ≤ z ∧ z ≤ 2147483647) (z1 : Int) (hz1 : -2147483648 ≤ z1 ∧ z1 ≤ 2147483647) : zM l yX10_forecast cX10_forecast 3 (some .int) ({ frames := 2, cells := 0, slots := 0, locals := 120 } : Room) D A cs tt N ad g [.ref (ad i), .int (zI (z)), .int (zI (z1))] (rI0 N ad fun q g' => (∃ F' r' : Nat → Int, okMr cs ad g' i (x + 1) F' r' st op ai fa mu tb tp ∧ ((((0 ≤ z ∧ z < F 14) ∧ 0 ≤ z1 ∧ z1 ≤ 2) ∧ F' 12 = 0 ∧ (-2147483648 ≤ q ∧ q ≤ 2147483647) ∧ ((z1 = 0 ∧ zI (ai (z).toNat) = zI q) ∨ (z1 = 1 ∧ zI (fa (z).toNat) = zI q) ∨ (z1 = 2 ∧ zI (mu (z).toNat) = zI q))) ∨ (¬ ((0 ≤ z ∧ z < F 14) ∧ 0 ≤ z1 ∧ z1 ≤ 2) ∧ F' 12 = 1)) ∧ (F' 13 = F 13 ∧ F' 14 = F 14 ∧ F' 17 = F 17 ∧ F' 20 = F 20 ∧ F' 21 = F 21 ∧ F' 23 = F 23 ∧ F' 24 = F 24)) ∧ ∀ j, j < i ∨ i + 30 ≤ j → g' j = g j) := by
  obtain ⟨hg, ⟨⟨e13, e14, e25, e27, e29⟩, k15, k16, k17, k18, k19, k20, k23, k21⟩, hRD, hTx, hA, ns, nh, nd, rf, pi, te, ki, li, ok1, ok2, fo, dd, dps, ⟨ha1, ha2, ha3, ha4, ha5, ha6, ha7, ha8, ha9, ha10, ha11, ha12, ha13, ha14, ha15, ha24, ha25, ha26, ha27, ha28, ha29⟩, hEv, hPt, hns, htp⟩ := id hM
  obtain ⟨-, hop, hai, hfa, hT, hT1⟩ := id hEv
  have hay1 : zAt ad (i) (ad i) := rfl
  have hay2 : zAt ad (i + 1) (ad (i + 1)) := rfl
  have hay3 : zAt ad (i + 2) (ad (i + 2)) := rfl
  have hay4 : zAt ad (i + 3) (ad (i + 3)) := rfl
  have hay5 : zAt ad (i + 4) (ad (i + 4)) := rfl
  have hay6 : zAt ad (i + 5) (ad (i + 5)) := rfl
  have hay7 : zAt ad (i + 6) (ad (i + 6)) := rfl
  have hay8 : zAt ad (i + 7) (ad (i + 7)) := rfl
  have hay9 : zAt ad (i + 8) (ad (i + 8)) := rfl
  have hay10 : zAt ad (i + 9) (ad (i + 9)) := rfl
  have hay11 : zAt ad (i + 10) (ad (i + 10)) := rfl
  have hay12 : zAt ad (i + 11) (ad (i + 11)) := rfl
  have hay13 : zAt ad (i + 12) (ad (i + 12)) := rfl
  have hay14 : zAt ad (i + 13) (ad (i + 13)) := rfl
  have hay15 : zAt ad (i + 14) (ad (i + 14)) := rfl
  have hay16 : zAt ad (i + 15) (ad (i + 15)) := rfl
  have hay17 : zAt ad (i + 24) (ad (i + 24)) := rfl
  have hay18 : zAt ad (i + 25) (ad (i + 25)) := rfl
  have hay19 : zAt ad (i + 26) (ad (i + 26)) := rfl
  have hay20 : zAt ad (i + 27) (ad (i + 27)) := rfl
  have hay21 : zAt ad (i + 28) (ad (i + 28)) := rfl
  have hay22 : zAt ad (i + 29) (ad (i + 29)) := rfl
  obtain ⟨⟨hsyy23, htyy23, hnyy23, hpyy23⟩, hlyy23⟩ := okA.at0 hA
  simp only [Nat.zero_add] at hsyy23 hnyy23 hpyy23
  have hmn : ∀ s, s < 4 → 0 ≤ r (6 + 86 * s) ∧ r (6 + 86 * s) ≤ 12 := fun s hs => (hsyy23 s hs).1
  have h5 : 0 ≤ r 5 ∧ r 5 ≤ 6 := hpyy23
  refine z_of (by decide) (Nat.le_of_ble_eq_true rfl) ?_
  intro pZ eZ sZ mZ below meth cZ C hr hlk hnm
  refine z_lv (lv' := [(0, .ref (ad i)), (1, .int (zI (z))), (2, .int (zI (z1)))]) [0, 1, 2] rfl ?_
  refine z_aload_n C 0 dX10_forecast_0 rfl ?_
  refine z_iconst (z := 0) C dX10_forecast_1 rfl ?_
  refine z_put (fs' := mF ad (i) (uZ F 12 (0))) C (lt_A0 hN rfl) hay1 hg tyX10 tyX10_ok nmX10 rfl inA_X10 12 (by decide) q_1471 rfl rfl rfl rfl (Nat.le_of_ble_eq_true rfl) rfl dX10_forecast_2 (fun gy24 egy25 => ?_)
  have hgy26 := up_s egy25
  refine z_aload_n C 0 dX10_forecast_5 rfl ?_
  refine z_iload_n C 1 dX10_forecast_6 rfl ?_
  refine z_iconst (z := 0) C dX10_forecast_7 rfl ?_
  refine z_aload_n C 0 dX10_forecast_8 rfl ?_
  refine z_get (v := .int (zI (F 14))) C (lt_A0 hN rfl) hay1 hgy26 rfl inA_X10 14 (by decide) q_1473 rfl (fv (F := (uZ F 12 (0))) (f := 14) (fn rfl (by decide))) dX10_forecast_9 ?_
  refine z_iconst (z := 1) C dX10_forecast_12 rfl ?_
  refine z_isub C dX10_forecast_13 ?_
  refine z_cS (As := [.int (zI (z)), .int (zI (0)), .int (zI ((F 14) - 1))]) (rest := [.ref (ad i)]) C (c_X10_within l D A cs tt N ad _ (z) (by omega) (0) (by omega) ((F 14) - 1) (by omega)) ms_yX10_within q_1686 hd_yX10_within (by decide) (Nat.le_of_ble_eq_true rfl) (by decide) dX10_forecast_14 rfl (kI0 fun vy27 gvy27 hvy27 => ?_)
  obtain ⟨hvy27, rfl⟩ := hvy27
  rcases hvy27 with ⟨rfl, hxvy27⟩ | ⟨rfl, hxvy27⟩
  · refine z_if_eq (tgt := 33) C dX10_forecast_17 (by decide) (by omega) (fun h => absurd h (by omega)) (fun _ => ?_)
    refine z_iload_n C 2 dX10_forecast_20 rfl ?_
    refine z_iconst (z := 0) C dX10_forecast_21 rfl ?_
    refine z_iconst (z := 2) C dX10_forecast_22 rfl ?_
    refine z_cS (As := [.int (zI (z1)), .int (zI (0)), .int (zI (2))]) (rest := [.ref (ad i)]) C (c_X10_within l D A cs tt N ad _ (z1) (by omega) (0) (by omega) (2) (by omega)) ms_yX10_within q_1686 hd_yX10_within (by decide) (Nat.le_of_ble_eq_true rfl) (by decide) dX10_forecast_23 rfl (kI0 fun vy28 gvy28 hvy28 => ?_)
    obtain ⟨hvy28, rfl⟩ := hvy28
    rcases hvy28 with ⟨rfl, hxvy28⟩ | ⟨rfl, hxvy28⟩
    · refine z_if_eq (tgt := 33) C dX10_forecast_26 (by decide) (by omega) (fun h => absurd h (by omega)) (fun _ => ?_)
      refine z_iconst (z := 1) C dX10_forecast_29 rfl ?_
      refine z_goto (tgt := 34) C dX10_forecast_30 (by decide) ?_
      refine z_iconst (z := 1) C dX10_forecast_34 rfl ?_
      refine z_cV (As := [.int (zI (1)), .int (zI (1))]) (rest := []) (ci := 12) C (c_yRight l D A cs tt N ad _ i hN _ hgy26 (uZ_s _ _ _) (1) (by omega) (1) (by omega)) (lt_A0 hN rfl) hay1 hgy26 rfl rfl mv_yX10_right q_1648 hd_yX10_right (by decide) (Nat.le_of_ble_eq_true rfl) (by decide) dX10_forecast_35 rfl (kI0 fun vy29 gvy29 hvy29 => ?_)
      obtain ⟨⟨Fvy29, hcvy29, hqvy29, hFvy29⟩, hfvy29⟩ := hvy29
      obtain ⟨rfl, hevy29⟩ : vy29 = 1 ∧ Fvy29 12 = 0 := by omega
      clear hqvy29
      refine z_if_ne (tgt := 43) C dX10_forecast_38 (by decide) (by omega) (fun _ => ?_) (fun h => absurd h (by omega))
      refine z_iload_n C 2 dX10_forecast_43 rfl ?_
      refine z_if_ne (tgt := 56) C dX10_forecast_44 (by decide) (by omega) (fun hby30 => ?_) (fun hby30 => ?_)
      · refine z_iload_n C 2 dX10_forecast_56 rfl ?_
        refine z_iconst (z := 1) C dX10_forecast_57 rfl ?_
        refine z_icmp_ne (tgt := 70) C dX10_forecast_58 (by decide) (by omega) (by omega) (fun hby31 => ?_) (fun hby31 => ?_)
        · refine z_aload_n C 0 dX10_forecast_70 rfl ?_
          refine z_get (v := .ref (ad (i + 6))) C (lt_A0 hN rfl) hay1 hcvy29 rfl inA_X10 5 (by decide) q_1464 rfl rfl dX10_forecast_71 ?_
          refine z_iload_n C 1 dX10_forecast_74 rfl ?_
          have hgy32 := up_n egy25 ha6 (ne_o (i := i) (c := 6) (d := 0) rfl)
          have hgy33 := (hfvy29 (i + 6) (ne_o (i := i) (c := 6) (d := 0) rfl)).trans hgy32
          refine z_iald C (lt_A (c := 6) hN rfl) hay7 hgy33 ((z).toNat) (by omega) (by omega) (by decide) dX10_forecast_75 ?_
          obtain ⟨r9, e9, h9⟩ := zI_of (zI (mu ((z).toNat)))
          rw [e9]
          have hgy34 := up_n egy25 ha1 (ne_o (i := i) (c := 1) (d := 0) rfl)
          have hgy35 := (hfvy29 (i + 1) (ne_o (i := i) (c := 1) (d := 0) rfl)).trans hgy34
          have hFy36 : ∀ f, f ≠ 12 → Fvy29 f = F f := fun f n12 => ((hFvy29 f n12).trans ((uZ_n _ _ n12).trans rfl))
          have hey37 : Fvy29 13 = F 13 := ((hFvy29 13 (by decide)).trans (fn rfl (by decide)))
          have hey38 : Fvy29 14 = F 14 := ((hFvy29 14 (by decide)).trans (fn rfl (by decide)))
          have hey39 : Fvy29 15 = F 15 := ((hFvy29 15 (by decide)).trans (fn rfl (by decide)))
          have hey40 : Fvy29 16 = F 16 := ((hFvy29 16 (by decide)).trans (fn rfl (by decide)))
          have hey41 : Fvy29 17 = F 17 := ((hFvy29 17 (by decide)).trans (fn rfl (by decide)))
          have hey42 : Fvy29 18 = F 18 := ((hFvy29 18 (by decide)).trans (fn rfl (by decide)))
          have hey43 : Fvy29 19 = F 19 := ((hFvy29 19 (by decide)).trans (fn rfl (by decide)))
          have hey44 : Fvy29 20 = F 20 := ((hFvy29 20 (by decide)).trans (fn rfl (by decide)))
          have hey45 : Fvy29 21 = F 21 := ((hFvy29 21 (by decide)).trans (fn rfl (by decide)))
          have hey46 : Fvy29 23 = F 23 := ((hFvy29 23 (by decide)).trans (fn rfl (by decide)))
          have hey47 : Fvy29 25 = F 25 := ((hFvy29 25 (by decide)).trans (fn rfl (by decide)))
          have hey48 : Fvy29 27 = F 27 := ((hFvy29 27 (by decide)).trans (fn rfl (by decide)))
          have hey49 : Fvy29 28 = F 28 := ((hFvy29 28 (by decide)).trans (fn rfl (by decide)))
          have hey50 : Fvy29 29 = F 29 := ((hFvy29 29 (by decide)).trans (fn rfl (by decide)))
          have hKy51 : okF Fvy29 := okF.mv hM.2.1 hey37 hey38 hey39 hey40 hey41 hey42 hey43 hey44 hey45 hey46 hey47 hey48 hey49 hey50
          have hMy52 : okMr cs ad gvy29 i (x + 1) Fvy29 r st op ai fa mu tb tp := okMr.upd hM hcvy29 hKy51 (fun f a => hFy36 f (by omega)) hgy35 (hA.mono (by omega)) (fun j a b => by
              exact Or.inl (by rw [hfvy29 _ (by omega)]; rw [egy25, va_up_ne _ _ (by omega)]))
          have hkpy53 : Fvy29 13 = F 13 := ((hFvy29 13 (by decide)).trans (fn rfl (by decide)))
          have hkpy54 : Fvy29 14 = F 14 := ((hFvy29 14 (by decide)).trans (fn rfl (by decide)))
          have hkpy55 : Fvy29 17 = F 17 := ((hFvy29 17 (by decide)).trans (fn rfl (by decide)))
          have hkpy56 : Fvy29 20 = F 20 := ((hFvy29 20 (by decide)).trans (fn rfl (by decide)))
          have hkpy57 : Fvy29 21 = F 21 := ((hFvy29 21 (by decide)).trans (fn rfl (by decide)))
          have hkpy58 : Fvy29 23 = F 23 := ((hFvy29 23 (by decide)).trans (fn rfl (by decide)))
          have hkpy59 : Fvy29 24 = F 24 := ((hFvy29 24 (by decide)).trans (fn rfl (by decide)))
          have h12 : Fvy29 12 = 0 := hevy29
          exact z_iret C hr hlk dX10_forecast_76 (by decide) (by decide) ⟨r9, rfl, rfl, rfl, ⟨_, _, hMy52, Or.inl ⟨by omega, by omega, by omega, Or.inr (Or.inr ⟨by omega, (by first | rfl | exact e9)⟩)⟩, ⟨hkpy53, hkpy54, hkpy55, hkpy56, hkpy57, hkpy58, hkpy59⟩⟩, fun j j1 => by rw [hfvy29 _ (by omega)]; rw [egy25, va_up_ne _ _ (by omega)]⟩
        · refine z_aload_n C 0 dX10_forecast_61 rfl ?_
          refine z_get (v := .ref (ad (i + 5))) C (lt_A0 hN rfl) hay1 hcvy29 rfl inA_X10 4 (by decide) q_1463 rfl rfl dX10_forecast_62 ?_
          refine z_iload_n C 1 dX10_forecast_65 rfl ?_
          have hgy60 := up_n egy25 ha5 (ne_o (i := i) (c := 5) (d := 0) rfl)
          have hgy61 := (hfvy29 (i + 5) (ne_o (i := i) (c := 5) (d := 0) rfl)).trans hgy60
          refine z_iald C (lt_A (c := 5) hN rfl) hay6 hgy61 ((z).toNat) (by omega) (by omega) (by decide) dX10_forecast_66 ?_
          refine z_goto (tgt := 76) C dX10_forecast_67 (by decide) ?_
          obtain ⟨r9, e9, h9⟩ := zI_of (zI (fa ((z).toNat)))
          rw [e9]
          have hgy62 := up_n egy25 ha1 (ne_o (i := i) (c := 1) (d := 0) rfl)
          have hgy63 := (hfvy29 (i + 1) (ne_o (i := i) (c := 1) (d := 0) rfl)).trans hgy62
          have hFy64 : ∀ f, f ≠ 12 → Fvy29 f = F f := fun f n12 => ((hFvy29 f n12).trans ((uZ_n _ _ n12).trans rfl))
          have hey65 : Fvy29 13 = F 13 := ((hFvy29 13 (by decide)).trans (fn rfl (by decide)))
          have hey66 : Fvy29 14 = F 14 := ((hFvy29 14 (by decide)).trans (fn rfl (by decide)))
          have hey67 : Fvy29 15 = F 15 := ((hFvy29 15 (by decide)).trans (fn rfl (by decide)))
          have hey68 : Fvy29 16 = F 16 := ((hFvy29 16 (by decide)).trans (fn rfl (by decide)))
          have hey69 : Fvy29 17 = F 17 := ((hFvy29 17 (by decide)).trans (fn rfl (by decide)))
          have hey70 : Fvy29 18 = F 18 := ((hFvy29 18 (by decide)).trans (fn rfl (by decide)))
          have hey71 : Fvy29 19 = F 19 := ((hFvy29 19 (by decide)).trans (fn rfl (by decide)))
          have hey72 : Fvy29 20 = F 20 := ((hFvy29 20 (by decide)).trans (fn rfl (by decide)))
          have hey73 : Fvy29 21 = F 21 := ((hFvy29 21 (by decide)).trans (fn rfl (by decide)))
          have hey74 : Fvy29 23 = F 23 := ((hFvy29 23 (by decide)).trans (fn rfl (by decide)))
          have hey75 : Fvy29 25 = F 25 := ((hFvy29 25 (by decide)).trans (fn rfl (by decide)))
          have hey76 : Fvy29 27 = F 27 := ((hFvy29 27 (by decide)).trans (fn rfl (by decide)))
          have hey77 : Fvy29 28 = F 28 := ((hFvy29 28 (by decide)).trans (fn rfl (by decide)))
          have hey78 : Fvy29 29 = F 29 := ((hFvy29 29 (by decide)).trans (fn rfl (by decide)))
          have hKy79 : okF Fvy29 := okF.mv hM.2.1 hey65 hey66 hey67 hey68 hey69 hey70 hey71 hey72 hey73 hey74 hey75 hey76 hey77 hey78
          have hMy80 : okMr cs ad gvy29 i (x + 1) Fvy29 r st op ai fa mu tb tp := okMr.upd hM hcvy29 hKy79 (fun f a => hFy64 f (by omega)) hgy63 (hA.mono (by omega)) (fun j a b => by
              exact Or.inl (by rw [hfvy29 _ (by omega)]; rw [egy25, va_up_ne _ _ (by omega)]))
          have hkpy81 : Fvy29 13 = F 13 := ((hFvy29 13 (by decide)).trans (fn rfl (by decide)))
          have hkpy82 : Fvy29 14 = F 14 := ((hFvy29 14 (by decide)).trans (fn rfl (by decide)))
          have hkpy83 : Fvy29 17 = F 17 := ((hFvy29 17 (by decide)).trans (fn rfl (by decide)))
          have hkpy84 : Fvy29 20 = F 20 := ((hFvy29 20 (by decide)).trans (fn rfl (by decide)))
          have hkpy85 : Fvy29 21 = F 21 := ((hFvy29 21 (by decide)).trans (fn rfl (by decide)))
          have hkpy86 : Fvy29 23 = F 23 := ((hFvy29 23 (by decide)).trans (fn rfl (by decide)))
          have hkpy87 : Fvy29 24 = F 24 := ((hFvy29 24 (by decide)).trans (fn rfl (by decide)))
          have h12 : Fvy29 12 = 0 := hevy29
          exact z_iret C hr hlk dX10_forecast_76 (by decide) (by decide) ⟨r9, rfl, rfl, rfl, ⟨_, _, hMy80, Or.inl ⟨by omega, by omega, by omega, Or.inr (Or.inl ⟨by omega, (by first | rfl | exact e9)⟩)⟩, ⟨hkpy81, hkpy82, hkpy83, hkpy84, hkpy85, hkpy86, hkpy87⟩⟩, fun j j1 => by rw [hfvy29 _ (by omega)]; rw [egy25, va_up_ne _ _ (by omega)]⟩
      · refine z_aload_n C 0 dX10_forecast_47 rfl ?_
        refine z_get (v := .ref (ad (i + 4))) C (lt_A0 hN rfl) hay1 hcvy29 rfl inA_X10 3 (by decide) q_1462 rfl rfl dX10_forecast_48 ?_
        refine z_iload_n C 1 dX10_forecast_51 rfl ?_
        have hgy88 := up_n egy25 ha4 (ne_o (i := i) (c := 4) (d := 0) rfl)
        have hgy89 := (hfvy29 (i + 4) (ne_o (i := i) (c := 4) (d := 0) rfl)).trans hgy88
        refine z_iald C (lt_A (c := 4) hN rfl) hay5 hgy89 ((z).toNat) (by omega) (by omega) (by decide) dX10_forecast_52 ?_
        have hrfy90 := hai ((z).toNat) (by omega)
        refine z_goto (tgt := 76) C dX10_forecast_53 (by decide) ?_
        obtain ⟨r9, e9, h9⟩ := zI_of (zI (ai ((z).toNat)))
        rw [e9]
        have hgy91 := up_n egy25 ha1 (ne_o (i := i) (c := 1) (d := 0) rfl)
        have hgy92 := (hfvy29 (i + 1) (ne_o (i := i) (c := 1) (d := 0) rfl)).trans hgy91
        have hFy93 : ∀ f, f ≠ 12 → Fvy29 f = F f := fun f n12 => ((hFvy29 f n12).trans ((uZ_n _ _ n12).trans rfl))
        have hey94 : Fvy29 13 = F 13 := ((hFvy29 13 (by decide)).trans (fn rfl (by decide)))
        have hey95 : Fvy29 14 = F 14 := ((hFvy29 14 (by decide)).trans (fn rfl (by decide)))
        have hey96 : Fvy29 15 = F 15 := ((hFvy29 15 (by decide)).trans (fn rfl (by decide)))
        have hey97 : Fvy29 16 = F 16 := ((hFvy29 16 (by decide)).trans (fn rfl (by decide)))
        have hey98 : Fvy29 17 = F 17 := ((hFvy29 17 (by decide)).trans (fn rfl (by decide)))
        have hey99 : Fvy29 18 = F 18 := ((hFvy29 18 (by decide)).trans (fn rfl (by decide)))
        have hey100 : Fvy29 19 = F 19 := ((hFvy29 19 (by decide)).trans (fn rfl (by decide)))
        have hey101 : Fvy29 20 = F 20 := ((hFvy29 20 (by decide)).trans (fn rfl (by decide)))
        have hey102 : Fvy29 21 = F 21 := ((hFvy29 21 (by decide)).trans (fn rfl (by decide)))
        have hey103 : Fvy29 23 = F 23 := ((hFvy29 23 (by decide)).trans (fn rfl (by decide)))
        have hey104 : Fvy29 25 = F 25 := ((hFvy29 25 (by decide)).trans (fn rfl (by decide)))
        have hey105 : Fvy29 27 = F 27 := ((hFvy29 27 (by decide)).trans (fn rfl (by decide)))
        have hey106 : Fvy29 28 = F 28 := ((hFvy29 28 (by decide)).trans (fn rfl (by decide)))
        have hey107 : Fvy29 29 = F 29 := ((hFvy29 29 (by decide)).trans (fn rfl (by decide)))
        have hKy108 : okF Fvy29 := okF.mv hM.2.1 hey94 hey95 hey96 hey97 hey98 hey99 hey100 hey101 hey102 hey103 hey104 hey105 hey106 hey107
        have hMy109 : okMr cs ad gvy29 i (x + 1) Fvy29 r st op ai fa mu tb tp := okMr.upd hM hcvy29 hKy108 (fun f a => hFy93 f (by omega)) hgy92 (hA.mono (by omega)) (fun j a b => by
            exact Or.inl (by rw [hfvy29 _ (by omega)]; rw [egy25, va_up_ne _ _ (by omega)]))
        have hkpy110 : Fvy29 13 = F 13 := ((hFvy29 13 (by decide)).trans (fn rfl (by decide)))
        have hkpy111 : Fvy29 14 = F 14 := ((hFvy29 14 (by decide)).trans (fn rfl (by decide)))
        have hkpy112 : Fvy29 17 = F 17 := ((hFvy29 17 (by decide)).trans (fn rfl (by decide)))
        have hkpy113 : Fvy29 20 = F 20 := ((hFvy29 20 (by decide)).trans (fn rfl (by decide)))
        have hkpy114 : Fvy29 21 = F 21 := ((hFvy29 21 (by decide)).trans (fn rfl (by decide)))
        have hkpy115 : Fvy29 23 = F 23 := ((hFvy29 23 (by decide)).trans (fn rfl (by decide)))
        have hkpy116 : Fvy29 24 = F 24 := ((hFvy29 24 (by decide)).trans (fn rfl (by decide)))
        have h12 : Fvy29 12 = 0 := hevy29
        exact z_iret C hr hlk dX10_forecast_76 (by decide) (by decide) ⟨r9, rfl, rfl, rfl, ⟨_, _, hMy109, Or.inl ⟨by omega, by omega, by omega, Or.inl ⟨by omega, (by first | rfl | exact e9)⟩⟩, ⟨hkpy110, hkpy111, hkpy112, hkpy113, hkpy114, hkpy115, hkpy116⟩⟩, fun j j1 => by rw [hfvy29 _ (by omega)]; rw [egy25, va_up_ne _ _ (by omega)]⟩
    · refine z_if_eq (tgt := 33) C dX10_forecast_26 (by decide) (by omega) (fun _ => ?_) (fun h => absurd h (by omega))
      refine z_iconst (z := 0) C dX10_forecast_33 rfl ?_
      refine z_iconst (z := 1) C dX10_forecast_34 rfl ?_
      refine z_cV (As := [.int (zI (0)), .int (zI (1))]) (rest := []) (ci := 12) C (c_yRight l D A cs tt N ad _ i hN _ hgy26 (uZ_s _ _ _) (0) (by omega) (1) (by omega)) (lt_A0 hN rfl) hay1 hgy26 rfl rfl mv_yX10_right q_1648 hd_yX10_right (by decide) (Nat.le_of_ble_eq_true rfl) (by decide) dX10_forecast_35 rfl (kI0 fun vy117 gvy117 hvy117 => ?_)
      obtain ⟨⟨Fvy117, hcvy117, hqvy117, hFvy117⟩, hfvy117⟩ := hvy117
      obtain ⟨rfl, hevy117⟩ : vy117 = 0 ∧ Fvy117 12 = 1 := by omega
      clear hqvy117
      refine z_if_ne (tgt := 43) C dX10_forecast_38 (by decide) (by omega) (fun h => absurd h (by omega)) (fun _ => ?_)
      refine z_iconst (z := 0) C dX10_forecast_41 rfl ?_
      have hgy118 := up_n egy25 ha1 (ne_o (i := i) (c := 1) (d := 0) rfl)
      have hgy119 := (hfvy117 (i + 1) (ne_o (i := i) (c := 1) (d := 0) rfl)).trans hgy118
      have hFy120 : ∀ f, f ≠ 12 → Fvy117 f = F f := fun f n12 => ((hFvy117 f n12).trans ((uZ_n _ _ n12).trans rfl))
      have hey121 : Fvy117 13 = F 13 := ((hFvy117 13 (by decide)).trans (fn rfl (by decide)))
      have hey122 : Fvy117 14 = F 14 := ((hFvy117 14 (by decide)).trans (fn rfl (by decide)))
      have hey123 : Fvy117 15 = F 15 := ((hFvy117 15 (by decide)).trans (fn rfl (by decide)))
      have hey124 : Fvy117 16 = F 16 := ((hFvy117 16 (by decide)).trans (fn rfl (by decide)))
      have hey125 : Fvy117 17 = F 17 := ((hFvy117 17 (by decide)).trans (fn rfl (by decide)))
      have hey126 : Fvy117 18 = F 18 := ((hFvy117 18 (by decide)).trans (fn rfl (by decide)))
      have hey127 : Fvy117 19 = F 19 := ((hFvy117 19 (by decide)).trans (fn rfl (by decide)))
      have hey128 : Fvy117 20 = F 20 := ((hFvy117 20 (by decide)).trans (fn rfl (by decide)))
      have hey129 : Fvy117 21 = F 21 := ((hFvy117 21 (by decide)).trans (fn rfl (by decide)))
      have hey130 : Fvy117 23 = F 23 := ((hFvy117 23 (by decide)).trans (fn rfl (by decide)))
      have hey131 : Fvy117 25 = F 25 := ((hFvy117 25 (by decide)).trans (fn rfl (by decide)))
      have hey132 : Fvy117 27 = F 27 := ((hFvy117 27 (by decide)).trans (fn rfl (by decide)))
      have hey133 : Fvy117 28 = F 28 := ((hFvy117 28 (by decide)).trans (fn rfl (by decide)))
      have hey134 : Fvy117 29 = F 29 := ((hFvy117 29 (by decide)).trans (fn rfl (by decide)))
      have hKy135 : okF Fvy117 := okF.mv hM.2.1 hey121 hey122 hey123 hey124 hey125 hey126 hey127 hey128 hey129 hey130 hey131 hey132 hey133 hey134
      have hMy136 : okMr cs ad gvy117 i (x + 1) Fvy117 r st op ai fa mu tb tp := okMr.upd hM hcvy117 hKy135 (fun f a => hFy120 f (by omega)) hgy119 (hA.mono (by omega)) (fun j a b => by
          exact Or.inl (by rw [hfvy117 _ (by omega)]; rw [egy25, va_up_ne _ _ (by omega)]))
      have hkpy137 : Fvy117 13 = F 13 := ((hFvy117 13 (by decide)).trans (fn rfl (by decide)))
      have hkpy138 : Fvy117 14 = F 14 := ((hFvy117 14 (by decide)).trans (fn rfl (by decide)))
      have hkpy139 : Fvy117 17 = F 17 := ((hFvy117 17 (by decide)).trans (fn rfl (by decide)))
      have hkpy140 : Fvy117 20 = F 20 := ((hFvy117 20 (by decide)).trans (fn rfl (by decide)))
      have hkpy141 : Fvy117 21 = F 21 := ((hFvy117 21 (by decide)).trans (fn rfl (by decide)))
      have hkpy142 : Fvy117 23 = F 23 := ((hFvy117 23 (by decide)).trans (fn rfl (by decide)))
      have hkpy143 : Fvy117 24 = F 24 := ((hFvy117 24 (by decide)).trans (fn rfl (by decide)))
      have h12 : Fvy117 12 = 1 := hevy117
      exact z_iret C hr hlk dX10_forecast_42 (by decide) (by decide) ⟨0, rfl, rfl, rfl, ⟨_, _, hMy136, Or.inr ⟨by omega, by omega⟩, ⟨hkpy137, hkpy138, hkpy139, hkpy140, hkpy141, hkpy142, hkpy143⟩⟩, fun j j1 => by rw [hfvy117 _ (by omega)]; rw [egy25, va_up_ne _ _ (by omega)]⟩
  · refine z_if_eq (tgt := 33) C dX10_forecast_17 (by decide) (by omega) (fun _ => ?_) (fun h => absurd h (by omega))
    refine z_iconst (z := 0) C dX10_forecast_33 rfl ?_
    refine z_iconst (z := 1) C dX10_forecast_34 rfl ?_
    refine z_cV (As := [.int (zI (0)), .int (zI (1))]) (rest := []) (ci := 12) C (c_yRight l D A cs tt N ad _ i hN _ hgy26 (uZ_s _ _ _) (0) (by omega) (1) (by omega)) (lt_A0 hN rfl) hay1 hgy26 rfl rfl mv_yX10_right q_1648 hd_yX10_right (by decide) (Nat.le_of_ble_eq_true rfl) (by decide) dX10_forecast_35 rfl (kI0 fun vy144 gvy144 hvy144 => ?_)
    obtain ⟨⟨Fvy144, hcvy144, hqvy144, hFvy144⟩, hfvy144⟩ := hvy144
    obtain ⟨rfl, hevy144⟩ : vy144 = 0 ∧ Fvy144 12 = 1 := by omega
    clear hqvy144
    refine z_if_ne (tgt := 43) C dX10_forecast_38 (by decide) (by omega) (fun h => absurd h (by omega)) (fun _ => ?_)
    refine z_iconst (z := 0) C dX10_forecast_41 rfl ?_
    have hgy145 := up_n egy25 ha1 (ne_o (i := i) (c := 1) (d := 0) rfl)
    have hgy146 := (hfvy144 (i + 1) (ne_o (i := i) (c := 1) (d := 0) rfl)).trans hgy145
    have hFy147 : ∀ f, f ≠ 12 → Fvy144 f = F f := fun f n12 => ((hFvy144 f n12).trans ((uZ_n _ _ n12).trans rfl))
    have hey148 : Fvy144 13 = F 13 := ((hFvy144 13 (by decide)).trans (fn rfl (by decide)))
    have hey149 : Fvy144 14 = F 14 := ((hFvy144 14 (by decide)).trans (fn rfl (by decide)))
    have hey150 : Fvy144 15 = F 15 := ((hFvy144 15 (by decide)).trans (fn rfl (by decide)))
    have hey151 : Fvy144 16 = F 16 := ((hFvy144 16 (by decide)).trans (fn rfl (by decide)))
    have hey152 : Fvy144 17 = F 17 := ((hFvy144 17 (by decide)).trans (fn rfl (by decide)))
    have hey153 : Fvy144 18 = F 18 := ((hFvy144 18 (by decide)).trans (fn rfl (by decide)))
    have hey154 : Fvy144 19 = F 19 := ((hFvy144 19 (by decide)).trans (fn rfl (by decide)))
    have hey155 : Fvy144 20 = F 20 := ((hFvy144 20 (by decide)).trans (fn rfl (by decide)))
    have hey156 : Fvy144 21 = F 21 := ((hFvy144 21 (by decide)).trans (fn rfl (by decide)))
    have hey157 : Fvy144 23 = F 23 := ((hFvy144 23 (by decide)).trans (fn rfl (by decide)))
    have hey158 : Fvy144 25 = F 25 := ((hFvy144 25 (by decide)).trans (fn rfl (by decide)))
    have hey159 : Fvy144 27 = F 27 := ((hFvy144 27 (by decide)).trans (fn rfl (by decide)))
    have hey160 : Fvy144 28 = F 28 := ((hFvy144 28 (by decide)).trans (fn rfl (by decide)))
    have hey161 : Fvy144 29 = F 29 := ((hFvy144 29 (by decide)).trans (fn rfl (by decide)))
    have hKy162 : okF Fvy144 := okF.mv hM.2.1 hey148 hey149 hey150 hey151 hey152 hey153 hey154 hey155 hey156 hey157 hey158 hey159 hey160 hey161
    have hMy163 : okMr cs ad gvy144 i (x + 1) Fvy144 r st op ai fa mu tb tp := okMr.upd hM hcvy144 hKy162 (fun f a => hFy147 f (by omega)) hgy146 (hA.mono (by omega)) (fun j a b => by
        exact Or.inl (by rw [hfvy144 _ (by omega)]; rw [egy25, va_up_ne _ _ (by omega)]))
    have hkpy164 : Fvy144 13 = F 13 := ((hFvy144 13 (by decide)).trans (fn rfl (by decide)))
    have hkpy165 : Fvy144 14 = F 14 := ((hFvy144 14 (by decide)).trans (fn rfl (by decide)))
    have hkpy166 : Fvy144 17 = F 17 := ((hFvy144 17 (by decide)).trans (fn rfl (by decide)))
    have hkpy167 : Fvy144 20 = F 20 := ((hFvy144 20 (by decide)).trans (fn rfl (by decide)))
    have hkpy168 : Fvy144 21 = F 21 := ((hFvy144 21 (by decide)).trans (fn rfl (by decide)))
    have hkpy169 : Fvy144 23 = F 23 := ((hFvy144 23 (by decide)).trans (fn rfl (by decide)))
    have hkpy170 : Fvy144 24 = F 24 := ((hFvy144 24 (by decide)).trans (fn rfl (by decide)))
    have h12 : Fvy144 12 = 1 := hevy144
    exact z_iret C hr hlk dX10_forecast_42 (by decide) (by decide) ⟨0, rfl, rfl, rfl, ⟨_, _, hMy163, Or.inr ⟨by omega, by omega⟩, ⟨hkpy164, hkpy165, hkpy166, hkpy167, hkpy168, hkpy169, hkpy170⟩⟩, fun j j1 => by rw [hfvy144 _ (by omega)]; rw [egy25, va_up_ne _ _ (by omega)]⟩
end
section
-- 99z.reftold.lean.txt
def posF (n : Nat) : Int := ([0, 6, 12, 17, 22, 27, 32, 39, 45, 51, 58, 65, 72] : List Int).getD n 0
def endF (n : Nat) : Int := ([5, 11, 16, 21, 26, 31, 38, 44, 50, 57, 64, 71, 77] : List Int).getD n 0
theorem knP0 : ∀ i : Fin 13, 0 ≤ posF i.val ∧ posF i.val ≤ endF i.val ∧ endF i.val ≤ 77 ∧ endF i.val ≤ posF i.val + 6 ∧ (i.val < 12 → posF (i.val + 1) = endF i.val + 1) := by decide +kernel
theorem knP {i : Nat} (h : i < 13) : 0 ≤ posF i ∧ posF i ≤ endF i ∧ endF i ≤ 77 ∧ endF i ≤ posF i + 6 := by
  have h0 := knP0 ⟨i, h⟩
  exact ⟨h0.1, h0.2.1, h0.2.2.1, h0.2.2.2.1⟩
theorem knN {i : Nat} (h : i < 12) : posF (i + 1) = endF i + 1 := (knP0 ⟨i, by omega⟩).2.2.2.2 h
theorem knQ0 : ∀ (i : Fin 13) (j : Fin 78), posF i.val ≤ (j.val : Int) → (j.val : Int) ≤ endF i.val → ((sq0.2.2.2.getD j.val 0 = 32) ↔ (j.val : Int) = endF i.val) := by decide +kernel
theorem knQ {i : Nat} {a y : Int} (hi : i < 13) (h1 : posF i ≤ a ∧ a ≤ endF i) (e : sq0.2.2.2.getD a.toNat 0 = zI y) (hy : -2147483648 ≤ y ∧ y ≤ 2147483647) : (y = 32 ∧ a = endF i) ∨ (y ≠ 32 ∧ a < endF i) := by
  have hp := knP hi
  have h := knQ0 ⟨i, hi⟩ ⟨a.toNat, by omega⟩ (by show posF i ≤ ((a.toNat : Nat) : Int); omega) (by show ((a.toNat : Nat) : Int) ≤ endF i; omega)
  have ha : ((a.toNat : Nat) : Int) = a := by omega
  rw [ha] at h
  by_cases e9 : y = 32
  · subst e9
    exact Or.inl ⟨rfl, h.mp e⟩
  · refine Or.inr ⟨e9, ?_⟩
    by_cases e8 : a = endF i
    · have e7 : zI y = zI 32 := e.symm.trans (h.mpr e8)
      exact absurd ((zI_eq hy (by omega)).mp e7) e9
    · omega

set_option maxRecDepth 100000 in
set_option maxHeartbeats 4000000 in
theorem c_X10_saysKind (l : Launch) (D : va_G) (A : Nat → Prop) (cs : Nat → ClassId) (tt : Nat) (N : Nat) (ad : Nat → Nat) (g : Nat → va_E) (i : Nat) (hN : i + 30 ≤ N) (F : Nat → Int) (hg : g i = mC ad i F) (li : Nat → Int) (ha24 : g (i + 24) = iA cs 64 li) (h51 : 0 ≤ F 51 ∧ F 51 + 6 ≤ 64) (z : Int) (hz : 0 ≤ z ∧ z ≤ 4) : zM l yX10_saysKind cX10_saysKind 5 none ({ frames := 2, cells := 0, slots := 0, locals := 120 } : Room) D A cs tt N ad g [.ref (ad i), .int (zI (z))] (rV0 N ad fun g' => (∃ F' : Nat → Int, g' i = mC ad i F' ∧ (F 51 ≤ F' 51 ∧ F' 51 ≤ F 51 + 6) ∧ (∀ f, f ≠ 51 → F' f = F f)) ∧ (∃ t' : Nat → Int, g' (i + 24) = iA cs 64 t') ∧ ∀ j, j ≠ i → j ≠ i + 24 → g' j = g j) := by
  have hay1 : zAt ad (i) (ad i) := rfl
  have hay2 : zAt ad (i + 24) (ad (i + 24)) := rfl
  refine z_of (by decide) (Nat.le_of_ble_eq_true rfl) ?_
  intro pZ eZ sZ mZ below meth cZ C hr hlk hnm
  refine z_lv (lv' := [(0, .ref (ad i)), (1, .int (zI (z)))]) [0, 1] rfl ?_
  have lpL : ∀ (n9 : Nat) (at9 : Int) (ww : Int) (nw : Nat) (nl : Int) (F9 : Nat → Int) (t9 : Nat → Int) (g1 : Nat → va_E), (78 - at9).toNat = n9 → (g1 i = mC ad i F9) → (g1 (i + 24) = iA cs 64 t9) → (∀ j, j ≠ i → j ≠ i + 24 → g1 j = g j) → (F9 51 = nl) → (∀ f, f ≠ 51 → F9 f = F f) → (nw < 13 ∧ ww = (nw : Int)) → (posF nw ≤ at9 ∧ at9 ≤ endF nw ∧ nl = F 51 + at9 - posF nw) → zV pZ l eZ ({ frames := 2, cells := 0, slots := 0, locals := 120 } : Room) sZ mZ ([.ref (ad i), .int (zI (z))] : List Value).toArray below meth cZ (MQ below (zPost D A (rV0 N ad fun g' => (∃ F' : Nat → Int, g' i = mC ad i F' ∧ (F 51 ≤ F' 51 ∧ F' 51 ≤ F 51 + 6) ∧ (∀ f, f ≠ 51 → F' f = F f)) ∧ (∃ t' : Nat → Int, g' (i + 24) = iA cs 64 t') ∧ ∀ j, j ≠ i → j ≠ i + 24 → g' j = g j)) ([.ref (ad i), .int (zI (z))] : List Value).toArray sZ ({ frames := 2, cells := 0, slots := 0, locals := 120 } : Room).cells ({ frames := 2, cells := 0, slots := 0, locals := 120 } : Room).slots A) D A 5 (N) ad g1 (0) (0) 50 [(0, .ref (ad i)), (3, .int (zI (at9))), (2, .int (zI (ww)))] [] := by
    intro n9
    induction n9 using Nat.strongRecOn with
    | ind n9 ih_lpL =>
      intro at9 ww nw nl F9 t9 g1 hm9 f2 f2t f3 fx0 f4 hnw hv
      have hay3 : zAt ad (i) (ad i) := rfl
      have hay4 : zAt ad (i + 24) (ad (i + 24)) := rfl
      have hkp := knP (i := nw) (by omega)
      refine z_getSt C stm0 q_1667 dX10_saysKind_50 ?_
      refine z_iload_n C 1 dX10_saysKind_53 rfl ?_
      obtain ⟨yy5, eyy5, hyy5⟩ := zI_of (sq0.2.2.2.getD ((at9).toNat) 0)
      have hkyy5 := knQ (i := nw) (by omega) (a := at9) (by omega) eyy5 hyy5
      refine z_stbald (y := yy5) C stm0 ((at9).toNat) (by omega) (by rw [stl0]; omega) (by rw [stl0]; decide) eyy5 dX10_saysKind_54 ?_
      refine z_bipush (z := 32) C dX10_saysKind_55 (by decide) ?_
      refine z_icmp_eq (tgt := 75) C dX10_saysKind_57 (by decide) (by omega) (by omega) (fun hby6 => ?_) (fun hby6 => ?_)
      · have hFy7 : ∀ f, f ≠ 51 → F9 f = F f := fun f n51 => (f4 f n51)
        have hey8 : F9 51 = nl := fx0
        exact z_vret C hr hlk dX10_saysKind_75 (by decide) (by decide) ⟨rfl, rfl, rfl, ⟨_, f2, by omega, hFy7⟩, ⟨_, f2t⟩, fun j j1 j2 => by exact f3 j j1 j2⟩
      · refine z_aload_n C 0 dX10_saysKind_60 rfl ?_
        refine z_getSt C stm0 q_1667 dX10_saysKind_61 ?_
        refine z_iload_n C 1 dX10_saysKind_64 rfl ?_
        obtain ⟨yy9, eyy9, hyy9⟩ := zI_of (sq0.2.2.2.getD ((at9).toNat) 0)
        have hkyy9 := knQ (i := nw) (by omega) (a := at9) (by omega) eyy9 hyy9
        refine z_stbald (y := yy9) C stm0 ((at9).toNat) (by omega) (by rw [stl0]; omega) (by rw [stl0]; decide) eyy9 dX10_saysKind_65 ?_
        have hey11 : F9 51 = nl := fx0
        refine z_cV (As := [.int (zI (yy9))]) (rest := []) (ci := 12) C (c_X10_says l D A cs tt N ad _ i hN _ f2 _ f2t (by omega) (yy9)) (lt_A0 hN rfl) hay3 f2 rfl rfl mv_yX10_says q_1850 hd_yX10_says (by decide) (Nat.le_of_ble_eq_true rfl) (by decide) dX10_saysKind_66 rfl (kV0 fun gvy10 hvy10 => ?_)
        obtain ⟨⟨Fvy10, hcvy10, hnvy10, hFvy10⟩, ⟨tvy10, htvy10⟩, hfvy10⟩ := hvy10
        have hovy10 : F9 51 = nl := fx0
        have hqvy10 : Fvy10 51 = nl + 1 := by omega
        clear hnvy10 hovy10
        refine z_iinc (z := at9 + 1) (lv' := [(3, .int (zI (at9 + 1))), (0, .ref (ad i)), (2, .int (zI (ww)))]) (j := 1) C dX10_saysKind_69 rfl rfl (by decide) rfl ?_
        refine z_goto (tgt := 50) C dX10_saysKind_72 (by decide) ?_
        have hFy12 : ∀ f, f ≠ 51 → Fvy10 f = F f := fun f n51 => ((hFvy10 f n51).trans (f4 f n51))
        have hey13 : Fvy10 51 = nl + 1 := hqvy10
        refine z_lv (lv' := [(0, .ref (ad i)), (3, .int (zI (at9 + 1))), (2, .int (zI (ww)))]) [1, 0, 2] rfl ?_
        exact ih_lpL _ (by omega) (at9 + 1) (ww) nw (nl + 1) _ _ gvy10 rfl hcvy10 htvy10 (fun j j1 j2 => by rw [hfvy10 _ (by omega) (by omega)]; exact f3 j j1 j2) hqvy10 hFy12 (by omega) (by omega)
  have lpO : ∀ (n9 : Nat) (ww : Int) (at9 : Int) (ii : Int) (ni : Nat) (nw : Nat) (g1 : Nat → va_E), (13 - ii).toNat = n9 → (g = g1) → (nw < 13 ∧ ww = (nw : Int) ∧ ii = (ni : Int) ∧ ni ≤ nw) → (at9 = posF ni) → zV pZ l eZ ({ frames := 2, cells := 0, slots := 0, locals := 120 } : Room) sZ mZ ([.ref (ad i), .int (zI (z))] : List Value).toArray below meth cZ (MQ below (zPost D A (rV0 N ad fun g' => (∃ F' : Nat → Int, g' i = mC ad i F' ∧ (F 51 ≤ F' 51 ∧ F' 51 ≤ F 51 + 6) ∧ (∀ f, f ≠ 51 → F' f = F f)) ∧ (∃ t' : Nat → Int, g' (i + 24) = iA cs 64 t') ∧ ∀ j, j ≠ i → j ≠ i + 24 → g' j = g j)) ([.ref (ad i), .int (zI (z))] : List Value).toArray sZ ({ frames := 2, cells := 0, slots := 0, locals := 120 } : Room).cells ({ frames := 2, cells := 0, slots := 0, locals := 120 } : Room).slots A) D A 5 (N) ad g1 (0) (0) 19 [(0, .ref (ad i)), (2, .int (zI (ww))), (3, .int (zI (at9))), (4, .int (zI (ii)))] [] := by
    intro n9
    induction n9 using Nat.strongRecOn with
    | ind n9 ih_lpO =>
      intro ww at9 ii ni nw g1 hm9 hg1 hw hs
      subst hg1
      have hkp := knP (i := ni) (by omega)
      refine z_iload C 3 dX10_saysKind_19 rfl ?_
      refine z_iload_n C 1 dX10_saysKind_21 rfl ?_
      refine z_icmp_ge (tgt := 50) C dX10_saysKind_22 (by decide) (by omega) (by omega) (fun hby14 => ?_) (fun hby14 => ?_)
      · obtain rfl : ni = nw := by omega
        have hFy15 : ∀ f, f ≠ 51 → F f = F f := fun f n51 => rfl
        have hey16 : F 51 = F 51 := rfl
        refine z_lv (lv' := [(0, .ref (ad i)), (3, .int (zI (at9))), (2, .int (zI (ww)))]) [0, 2, 1] rfl ?_
        exact lpL _ (at9) (ww) ni (F 51) _ _ g rfl hg ha24 (fun j j1 j2 => by rfl) rfl hFy15 (by omega) (by omega)
      · have lpI : ∀ (n9 : Nat) (at9 : Int) (g1 : Nat → va_E), (78 - at9).toNat = n9 → (g = g1) → (posF ni ≤ at9 ∧ at9 ≤ endF ni) → zV pZ l eZ ({ frames := 2, cells := 0, slots := 0, locals := 120 } : Room) sZ mZ ([.ref (ad i), .int (zI (z))] : List Value).toArray below meth cZ (MQ below (zPost D A (rV0 N ad fun g' => (∃ F' : Nat → Int, g' i = mC ad i F' ∧ (F 51 ≤ F' 51 ∧ F' 51 ≤ F 51 + 6) ∧ (∀ f, f ≠ 51 → F' f = F f)) ∧ (∃ t' : Nat → Int, g' (i + 24) = iA cs 64 t') ∧ ∀ j, j ≠ i → j ≠ i + 24 → g' j = g j)) ([.ref (ad i), .int (zI (z))] : List Value).toArray sZ ({ frames := 2, cells := 0, slots := 0, locals := 120 } : Room).cells ({ frames := 2, cells := 0, slots := 0, locals := 120 } : Room).slots A) D A 5 (N) ad g1 (0) (0) 25 [(0, .ref (ad i)), (2, .int (zI (ww))), (3, .int (zI (at9))), (4, .int (zI (ii)))] [] := by
          intro n9
          induction n9 using Nat.strongRecOn with
          | ind n9 ih_lpI =>
            intro at9 g1 hm9 hg2 hw2
            subst hg2
            refine z_getSt C stm0 q_1667 dX10_saysKind_25 ?_
            refine z_iload_n C 2 dX10_saysKind_28 rfl ?_
            obtain ⟨yy17, eyy17, hyy17⟩ := zI_of (sq0.2.2.2.getD ((at9).toNat) 0)
            have hkyy17 := knQ (i := ni) (by omega) (a := at9) (by omega) eyy17 hyy17
            refine z_stbald (y := yy17) C stm0 ((at9).toNat) (by omega) (by rw [stl0]; omega) (by rw [stl0]; decide) eyy17 dX10_saysKind_29 ?_
            refine z_bipush (z := 32) C dX10_saysKind_30 (by decide) ?_
            refine z_icmp_eq (tgt := 41) C dX10_saysKind_32 (by decide) (by omega) (by omega) (fun hby18 => ?_) (fun hby18 => ?_)
            · refine z_iinc (z := at9 + 1) (lv' := [(3, .int (zI (at9 + 1))), (0, .ref (ad i)), (2, .int (zI (ww))), (4, .int (zI (ii)))]) (j := 2) C dX10_saysKind_41 rfl rfl (by decide) rfl ?_
              refine z_iinc (z := ii + 1) (lv' := [(4, .int (zI (ii + 1))), (3, .int (zI (at9 + 1))), (0, .ref (ad i)), (2, .int (zI (ww)))]) (j := 3) C dX10_saysKind_44 rfl rfl (by decide) rfl ?_
              refine z_goto (tgt := 19) C dX10_saysKind_47 (by decide) ?_
              have hkn := knN (i := ni) (by omega)
              refine z_lv (lv' := [(0, .ref (ad i)), (2, .int (zI (ww))), (3, .int (zI (at9 + 1))), (4, .int (zI (ii + 1)))]) [2, 3, 1, 0] rfl ?_
              exact ih_lpO _ (by omega) (ww) (at9 + 1) (ii + 1) (ni + 1) nw _ rfl rfl (by omega) (by omega)
            · refine z_iinc (z := at9 + 1) (lv' := [(3, .int (zI (at9 + 1))), (0, .ref (ad i)), (2, .int (zI (ww))), (4, .int (zI (ii)))]) (j := 2) C dX10_saysKind_35 rfl rfl (by decide) rfl ?_
              refine z_goto (tgt := 25) C dX10_saysKind_38 (by decide) ?_
              refine z_lv (lv' := [(0, .ref (ad i)), (2, .int (zI (ww))), (3, .int (zI (at9 + 1))), (4, .int (zI (ii)))]) [1, 2, 0, 3] rfl ?_
              exact ih_lpI _ (by omega) (at9 + 1) _ rfl rfl (by omega)
        refine z_lv (lv' := [(0, .ref (ad i)), (2, .int (zI (ww))), (3, .int (zI (at9))), (4, .int (zI (ii)))]) [0, 1, 2, 3] rfl ?_
        exact lpI _ (at9) _ rfl rfl (by omega)
  refine z_iload_n C 1 dX10_saysKind_0 rfl ?_
  refine z_iconst (z := 4) C dX10_saysKind_1 rfl ?_
  refine z_icmp_ne (tgt := 9) C dX10_saysKind_2 (by decide) (by omega) (by omega) (fun hby19 => ?_) (fun hby19 => ?_)
  · refine z_bipush (z := 9) C dX10_saysKind_9 (by decide) ?_
    refine z_iload_n C 1 dX10_saysKind_11 rfl ?_
    refine z_iadd C dX10_saysKind_12 ?_
    refine z_istore_n (lv' := [(2, .int (zI (9 + z))), (0, .ref (ad i)), (1, .int (zI (z)))]) C dX10_saysKind_13 rfl (by decide) rfl ?_
    refine z_iconst (z := 0) C dX10_saysKind_14 rfl ?_
    refine z_istore_n (lv' := [(3, .int (zI (0))), (2, .int (zI (9 + z))), (0, .ref (ad i)), (1, .int (zI (z)))]) C dX10_saysKind_15 rfl (by decide) rfl ?_
    refine z_iconst (z := 0) C dX10_saysKind_16 rfl ?_
    refine z_istore (lv' := [(4, .int (zI (0))), (3, .int (zI (0))), (2, .int (zI (9 + z))), (0, .ref (ad i)), (1, .int (zI (z)))]) C dX10_saysKind_17 (by decide) rfl ?_
    have hp00 : posF 0 = 0 := rfl
    obtain ⟨nw, hnw⟩ : ∃ n9 : Nat, 9 + z = (n9 : Int) := ⟨(9 + z : Int).toNat, by omega⟩
    refine z_lv (lv' := [(0, .ref (ad i)), (2, .int (zI (9 + z))), (3, .int (zI (0))), (4, .int (zI (0)))]) [3, 2, 1, 0] rfl ?_
    exact lpO _ (9 + z) (0) (0) 0 nw _ rfl rfl (by omega) (by omega)
  · refine z_iconst (z := 5) C dX10_saysKind_5 rfl ?_
    refine z_goto (tgt := 13) C dX10_saysKind_6 (by decide) ?_
    refine z_istore_n (lv' := [(2, .int (zI (5))), (0, .ref (ad i)), (1, .int (zI (z)))]) C dX10_saysKind_13 rfl (by decide) rfl ?_
    refine z_iconst (z := 0) C dX10_saysKind_14 rfl ?_
    refine z_istore_n (lv' := [(3, .int (zI (0))), (2, .int (zI (5))), (0, .ref (ad i)), (1, .int (zI (z)))]) C dX10_saysKind_15 rfl (by decide) rfl ?_
    refine z_iconst (z := 0) C dX10_saysKind_16 rfl ?_
    refine z_istore (lv' := [(4, .int (zI (0))), (3, .int (zI (0))), (2, .int (zI (5))), (0, .ref (ad i)), (1, .int (zI (z)))]) C dX10_saysKind_17 (by decide) rfl ?_
    have hp00 : posF 0 = 0 := rfl
    obtain ⟨nw, hnw⟩ : ∃ n9 : Nat, 5 = (n9 : Int) := ⟨(5 : Int).toNat, by omega⟩
    refine z_lv (lv' := [(0, .ref (ad i)), (2, .int (zI (5))), (3, .int (zI (0))), (4, .int (zI (0)))]) [3, 2, 1, 0] rfl ?_
    exact lpO _ (5) (0) (0) 0 nw _ rfl rfl (by omega) (by omega)

set_option maxRecDepth 100000 in
set_option maxHeartbeats 4000000 in
theorem c_X10_told_a (l : Launch) (D : va_G) (A : Nat → Prop) (cs : Nat → ClassId) (tt : Nat) (N : Nat) (ad : Nat → Nat) (g : Nat → va_E) (i : Nat) (hN : i + 30 ≤ N) (x : Int) (hx : 0 ≤ x ∧ x ≤ 512) (F r : Nat → Int) {st op ai fa mu tb tp : Nat → Int} (hM : okMr cs ad g i x F r st op ai fa mu tb tp) (n : Nat) (hn4 : n < 4) (z1 : Int) (hz1 : -2147483648 ≤ z1 ∧ z1 ≤ 2147483647) (z2 : Int) (hz2 : -2147483648 ≤ z2 ∧ z2 ≤ 2147483647) : zM l yX10_told cX10_told 4 (some .int) ({ frames := 4, cells := 0, slots := 0, locals := 240 } : Room) D A cs tt N ad g [.ref (ad i), .int (zI ((n : Int))), .int (zI (z1)), .int (zI (z2))] (rI0 N ad fun q g' => (-2147483648 ≤ q ∧ q ≤ 2147483647) ∧ (∃ F' r' : Nat → Int, okMr cs ad g' i (x + 1) F' r' st op ai fa mu tb tp ∧ (F' 13 = F 13 ∧ F' 14 = F 14 ∧ F' 17 = F 17 ∧ F' 20 = F 20 ∧ F' 21 = F 21 ∧ F' 23 = F 23 ∧ F' 24 = F 24)) ∧ ∀ j, j < i ∨ i + 30 ≤ j → g' j = g j) := by
  obtain ⟨hg, ⟨⟨e13, e14, e25, e27, e29⟩, k15, k16, k17, k18, k19, k20, k23, k21⟩, hRD, hTx, hA, ns, nh, nd, rf, pi, te, ki, li, ok1, ok2, fo, dd, dps, ⟨ha1, ha2, ha3, ha4, ha5, ha6, ha7, ha8, ha9, ha10, ha11, ha12, ha13, ha14, ha15, ha24, ha25, ha26, ha27, ha28, ha29⟩, hEv, hPt, hns, htp⟩ := id hM
  obtain ⟨-, hop, hai, hfa, hT, hT1⟩ := id hEv
  have hay1 : zAt ad (i) (ad i) := rfl
  have hay2 : zAt ad (i + 1) (ad (i + 1)) := rfl
  have hay3 : zAt ad (i + 2) (ad (i + 2)) := rfl
  have hay4 : zAt ad (i + 3) (ad (i + 3)) := rfl
  have hay5 : zAt ad (i + 4) (ad (i + 4)) := rfl
  have hay6 : zAt ad (i + 5) (ad (i + 5)) := rfl
  have hay7 : zAt ad (i + 6) (ad (i + 6)) := rfl
  have hay8 : zAt ad (i + 7) (ad (i + 7)) := rfl
  have hay9 : zAt ad (i + 8) (ad (i + 8)) := rfl
  have hay10 : zAt ad (i + 9) (ad (i + 9)) := rfl
  have hay11 : zAt ad (i + 10) (ad (i + 10)) := rfl
  have hay12 : zAt ad (i + 11) (ad (i + 11)) := rfl
  have hay13 : zAt ad (i + 12) (ad (i + 12)) := rfl
  have hay14 : zAt ad (i + 13) (ad (i + 13)) := rfl
  have hay15 : zAt ad (i + 14) (ad (i + 14)) := rfl
  have hay16 : zAt ad (i + 15) (ad (i + 15)) := rfl
  have hay17 : zAt ad (i + 24) (ad (i + 24)) := rfl
  have hay18 : zAt ad (i + 25) (ad (i + 25)) := rfl
  have hay19 : zAt ad (i + 26) (ad (i + 26)) := rfl
  have hay20 : zAt ad (i + 27) (ad (i + 27)) := rfl
  have hay21 : zAt ad (i + 28) (ad (i + 28)) := rfl
  have hay22 : zAt ad (i + 29) (ad (i + 29)) := rfl
  obtain ⟨⟨hsyy23, htyy23, hnyy23, hpyy23⟩, hlyy23⟩ := okA.at0 hA
  simp only [Nat.zero_add] at hsyy23 hnyy23 hpyy23
  have hmn : ∀ s, s < 4 → 0 ≤ r (6 + 86 * s) ∧ r (6 + 86 * s) ≤ 12 := fun s hs => (hsyy23 s hs).1
  have h5 : 0 ≤ r 5 ∧ r 5 ≤ 6 := hpyy23
  refine z_of (by decide) (Nat.le_of_ble_eq_true rfl) ?_
  intro pZ eZ sZ mZ below meth cZ C hr hlk hnm
  refine z_lv (lv' := [(0, .ref (ad i)), (1, .int (zI ((n : Int)))), (2, .int (zI (z1))), (3, .int (zI (z2)))]) [0, 1, 2, 3] rfl ?_
  refine z_aload_n C 0 dX10_told_0 rfl ?_
  refine z_iconst (z := 0) C dX10_told_1 rfl ?_
  refine z_put (fs' := mF ad (i) (uZ F 12 (0))) C (lt_A0 hN rfl) hay1 hg tyX10 tyX10_ok nmX10 rfl inA_X10 12 (by decide) q_1471 rfl rfl rfl rfl (Nat.le_of_ble_eq_true rfl) rfl dX10_told_2 (fun gy24 egy25 => ?_)
  have hgy26 := up_s egy25
  refine z_aload_n C 0 dX10_told_5 rfl ?_
  refine z_iload_n C 1 dX10_told_6 rfl ?_
  refine z_iload_n C 2 dX10_told_7 rfl ?_
  have hgy27 := up_n egy25 ha1 (ne_o (i := i) (c := 1) (d := 0) rfl)
  have h13vy28 : (uZ F 12 (0)) 13 = F 13 := (fn rfl (by decide))
  have hey29 : (uZ F 12 (0)) 12 = 0 := (uZ_s _ _ _)
  obtain ⟨py30, hpy30⟩ : ∃ p9 : Nat, 0 + 6 + 86 * n = p9 := ⟨_, rfl⟩
  refine z_cV (As := [.int (zI ((n : Int))), .int (zI (z1))]) (rest := []) (ci := 12) C (c_X10_isLayer_a l D A cs tt N ad _ i hN _ hgy26 _ hgy27 hmn (by omega) (by omega) n py30 (by omega) (by omega) (z1) (by omega)) (lt_A0 hN rfl) hay1 hgy26 rfl rfl mv_yX10_isLayer q_1819 hd_yX10_isLayer (by decide) (Nat.le_of_ble_eq_true rfl) (by decide) dX10_told_8 rfl (kI0 fun vy28 gvy28 hvy28 => ?_)
  rw [h13vy28] at hvy28
  obtain ⟨hrvy28, ⟨Fvy28, hcvy28, htvy28, hFvy28⟩, hfvy28⟩ := hvy28
  rcases (show vy28 = 1 ∨ vy28 = 0 by omega) with rfl | rfl
  · have hxvy28 := hrvy28.2 rfl
    have hmpy30 := hmn n (by omega)
    rw [show 6 + 86 * n = py30 by omega] at hmpy30
    refine z_if_ne (tgt := 16) C dX10_told_11 (by decide) (by omega) (fun _ => ?_) (fun h => absurd h (by omega))
    refine z_aload_n C 0 dX10_told_16 rfl ?_
    refine z_iconst (z := 0) C dX10_told_17 rfl ?_
    refine z_put (fs' := mF ad (i) (uZ Fvy28 51 (0))) C (lt_A0 hN rfl) hay1 hcvy28 tyX10 tyX10_ok nmX10 rfl inA_X10 51 (by decide) q_1510 rfl rfl rfl rfl (Nat.le_of_ble_eq_true rfl) rfl dX10_told_18 (fun gy31 egy32 => ?_)
    have hgy33 := up_s egy32
    refine z_aload_n C 0 dX10_told_21 rfl ?_
    refine z_aload_n C 0 dX10_told_22 rfl ?_
    refine z_iconst (z := 0) C dX10_told_23 rfl ?_
    refine z_iload_n C 1 dX10_told_24 rfl ?_
    refine z_iload_n C 2 dX10_told_25 rfl ?_
    refine z_bipush (z := 6) C dX10_told_26 (by decide) ?_
    have hSy34 := ((okA.at0 hA).1.1 n (by omega)).of (p2 := py30) (by omega)
    obtain ⟨b1hSy34, b2hSy34, b3hSy34, b4hSy34⟩ := mBb (t := r 0 + x) (by omega)
    have hmky35 := hSy34.1
    obtain ⟨ky36, hky36⟩ : ∃ k9 : Nat, (z1) = (k9 : Int) := ⟨((z1) : Int).toNat, by omega⟩
    obtain ⟨qy37, hqy37⟩ : ∃ q9 : Nat, py30 + 2 + 7 * ky36 = q9 := ⟨_, rfl⟩
    obtain ⟨⟨hKzy38, hIzy38, hWzy38, hDzy38, hTzy38, hnzy38⟩, hmzy38, hdzy38⟩ := okS.layer hSy34 (k := ky36) (by omega) hqy37
    have hgy39 := (hfvy28 (i + 1) (ne_o (i := i) (c := 1) (d := 0) rfl)).trans hgy27
    have hgy40 := up_n egy32 hgy39 (ne_o (i := i) (c := 1) (d := 0) rfl)
    refine z_cV (As := [.int (zI (0)), .int (zI ((n : Int))), .int (zI (z1)), .int (zI (6))]) (rest := [.ref (ad i)]) (ci := 12) C (c_X10_of l D A cs tt N ad _ i hN _ hgy33 _ hgy40 0 n py30 hpy30 (by omega) (by omega) (z1) (6) (qy37 + 6) (by omega) (by omega) (by omega)) (lt_A0 hN rfl) hay1 hgy33 rfl rfl mv_yX10_of q_1749 hd_yX10_of (by decide) (Nat.le_of_ble_eq_true rfl) (by decide) dX10_told_28 rfl (kI0 fun vy41 gvy41 hvy41 => ?_)
    obtain ⟨rfl, rfl⟩ := hvy41
    have hgy42 := up_n egy25 ha24 (ne_o (i := i) (c := 24) (d := 0) rfl)
    have hgy43 := (hfvy28 (i + 24) (ne_o (i := i) (c := 24) (d := 0) rfl)).trans hgy42
    have hgy44 := up_n egy32 hgy43 (ne_o (i := i) (c := 24) (d := 0) rfl)
    have hey46 : (uZ Fvy28 51 (0)) 51 = 0 := (uZ_s _ _ _)
    refine z_cV (As := [.int (zI (r (qy37 + 6)))]) (rest := []) (ci := 12) C (c_X10_saysNumber5 l D A cs tt N ad _ i hN _ hgy33 _ hgy44 (by omega) (r (qy37 + 6)) (by omega)) (lt_A0 hN rfl) hay1 hgy33 rfl rfl mv_yX10_saysNumber q_1846 hd_yX10_saysNumber (by decide) (Nat.le_of_ble_eq_true rfl) (by decide) dX10_told_31 rfl (kV0 fun gvy45 hvy45 => ?_)
    obtain ⟨⟨Fvy45, hcvy45, hnvy45, hFvy45⟩, ⟨tvy45, htvy45⟩, hfvy45⟩ := hvy45
    have hovy45 : (uZ Fvy28 51 (0)) 51 = 0 := (uZ_s _ _ _)
    refine z_aload_n C 0 dX10_told_34 rfl ?_
    refine z_bipush (z := 32) C dX10_told_35 (by decide) ?_
    have hey48 : Fvy45 51 = Fvy45 51 := rfl
    refine z_cV (As := [.int (zI (32))]) (rest := []) (ci := 12) C (c_X10_says l D A cs tt N ad _ i hN _ hcvy45 _ htvy45 (by omega) (32)) (lt_A0 hN rfl) hay1 hcvy45 rfl rfl mv_yX10_says q_1850 hd_yX10_says (by decide) (Nat.le_of_ble_eq_true rfl) (by decide) dX10_told_37 rfl (kV0 fun gvy47 hvy47 => ?_)
    obtain ⟨⟨Fvy47, hcvy47, hnvy47, hFvy47⟩, ⟨tvy47, htvy47⟩, hfvy47⟩ := hvy47
    have hovy47 : Fvy45 51 = Fvy45 51 := rfl
    have hqvy47 : Fvy47 51 = Fvy45 51 + 1 := by omega
    clear hnvy47 hovy47
    refine z_aload_n C 0 dX10_told_40 rfl ?_
    refine z_aload_n C 0 dX10_told_41 rfl ?_
    refine z_iconst (z := 0) C dX10_told_42 rfl ?_
    refine z_iload_n C 1 dX10_told_43 rfl ?_
    refine z_iload_n C 2 dX10_told_44 rfl ?_
    refine z_iconst (z := 0) C dX10_told_45 rfl ?_
    have hgy49 := (hfvy45 (i + 1) (ne_o (i := i) (c := 1) (d := 0) rfl) (ne_o (i := i) (c := 1) (d := 24) rfl)).trans hgy40
    have hgy50 := (hfvy47 (i + 1) (ne_o (i := i) (c := 1) (d := 0) rfl) (ne_o (i := i) (c := 1) (d := 24) rfl)).trans hgy49
    refine z_cV (As := [.int (zI (0)), .int (zI ((n : Int))), .int (zI (z1)), .int (zI (0))]) (rest := [.ref (ad i)]) (ci := 12) C (c_X10_of l D A cs tt N ad _ i hN _ hcvy47 _ hgy50 0 n py30 hpy30 (by omega) (by omega) (z1) (0) (qy37) (by omega) (by omega) (by omega)) (lt_A0 hN rfl) hay1 hcvy47 rfl rfl mv_yX10_of q_1749 hd_yX10_of (by decide) (Nat.le_of_ble_eq_true rfl) (by decide) dX10_told_46 rfl (kI0 fun vy51 gvy51 hvy51 => ?_)
    obtain ⟨rfl, rfl⟩ := hvy51
    have hey53 : Fvy47 51 = Fvy45 51 + 1 := hqvy47
    refine z_cV (As := [.int (zI (r (qy37)))]) (rest := []) (ci := 12) C (c_X10_saysKind l D A cs tt N ad _ i hN _ hcvy47 _ htvy47 (by omega) (r (qy37)) (by omega)) (lt_A0 hN rfl) hay1 hcvy47 rfl rfl mv_yX10_saysKind q_1854 hd_yX10_saysKind (by decide) (Nat.le_of_ble_eq_true rfl) (by decide) dX10_told_49 rfl (kV0 fun gvy52 hvy52 => ?_)
    obtain ⟨⟨Fvy52, hcvy52, hnvy52, hFvy52⟩, ⟨tvy52, htvy52⟩, hfvy52⟩ := hvy52
    have hovy52 : Fvy47 51 = Fvy45 51 + 1 := hqvy47
    refine z_aload_n C 0 dX10_told_52 rfl ?_
    refine z_bipush (z := 111) C dX10_told_53 (by decide) ?_
    refine z_bipush (z := 102) C dX10_told_55 (by decide) ?_
    have hey55 : Fvy52 51 = Fvy52 51 := rfl
    refine z_cV (As := [.int (zI (111)), .int (zI (102))]) (rest := []) (ci := 12) C (c_X10_saysWord l D A cs tt N ad _ i hN _ hcvy52 _ htvy52 (by omega) (111) (102)) (lt_A0 hN rfl) hay1 hcvy52 rfl rfl mv_yX10_saysWord q_1858 hd_yX10_saysWord (by decide) (Nat.le_of_ble_eq_true rfl) (by decide) dX10_told_57 rfl (kV0 fun gvy54 hvy54 => ?_)
    obtain ⟨⟨Fvy54, hcvy54, hnvy54, hFvy54⟩, ⟨tvy54, htvy54⟩, hfvy54⟩ := hvy54
    have hovy54 : Fvy52 51 = Fvy52 51 := rfl
    have hqvy54 : Fvy54 51 = Fvy52 51 + 4 := by omega
    clear hnvy54 hovy54
    refine z_aload_n C 0 dX10_told_60 rfl ?_
    refine z_aload_n C 0 dX10_told_61 rfl ?_
    refine z_iconst (z := 0) C dX10_told_62 rfl ?_
    refine z_iload_n C 1 dX10_told_63 rfl ?_
    refine z_iload_n C 2 dX10_told_64 rfl ?_
    refine z_iconst (z := 1) C dX10_told_65 rfl ?_
    have hgy56 := (hfvy52 (i + 1) (ne_o (i := i) (c := 1) (d := 0) rfl) (ne_o (i := i) (c := 1) (d := 24) rfl)).trans hgy50
    have hgy57 := (hfvy54 (i + 1) (ne_o (i := i) (c := 1) (d := 0) rfl) (ne_o (i := i) (c := 1) (d := 24) rfl)).trans hgy56
    refine z_cV (As := [.int (zI (0)), .int (zI ((n : Int))), .int (zI (z1)), .int (zI (1))]) (rest := [.ref (ad i)]) (ci := 12) C (c_X10_of l D A cs tt N ad _ i hN _ hcvy54 _ hgy57 0 n py30 hpy30 (by omega) (by omega) (z1) (1) (qy37 + 1) (by omega) (by omega) (by omega)) (lt_A0 hN rfl) hay1 hcvy54 rfl rfl mv_yX10_of q_1749 hd_yX10_of (by decide) (Nat.le_of_ble_eq_true rfl) (by decide) dX10_told_66 rfl (kI0 fun vy58 gvy58 hvy58 => ?_)
    obtain ⟨rfl, rfl⟩ := hvy58
    have hey60 : Fvy54 51 = Fvy52 51 + 4 := hqvy54
    refine z_cV (As := [.int (zI (r (qy37 + 1)))]) (rest := []) (ci := 12) C (c_X10_saysNumber9 l D A cs tt N ad _ i hN _ hcvy54 _ htvy54 (by omega) (r (qy37 + 1)) (by omega)) (lt_A0 hN rfl) hay1 hcvy54 rfl rfl mv_yX10_saysNumber q_1846 hd_yX10_saysNumber (by decide) (Nat.le_of_ble_eq_true rfl) (by decide) dX10_told_69 rfl (kV0 fun gvy59 hvy59 => ?_)
    obtain ⟨⟨Fvy59, hcvy59, hnvy59, hFvy59⟩, ⟨tvy59, htvy59⟩, hfvy59⟩ := hvy59
    have hovy59 : Fvy54 51 = Fvy52 51 + 4 := hqvy54
    refine z_aload_n C 0 dX10_told_72 rfl ?_
    refine z_iconst (z := 0) C dX10_told_73 rfl ?_
    refine z_iload_n C 1 dX10_told_74 rfl ?_
    refine z_iload_n C 2 dX10_told_75 rfl ?_
    refine z_iconst (z := 2) C dX10_told_76 rfl ?_
    have hgy61 := (hfvy59 (i + 1) (ne_o (i := i) (c := 1) (d := 0) rfl) (ne_o (i := i) (c := 1) (d := 24) rfl)).trans hgy57
    refine z_cV (As := [.int (zI (0)), .int (zI ((n : Int))), .int (zI (z1)), .int (zI (2))]) (rest := []) (ci := 12) C (c_X10_of l D A cs tt N ad _ i hN _ hcvy59 _ hgy61 0 n py30 hpy30 (by omega) (by omega) (z1) (2) (qy37 + 2) (by omega) (by omega) (by omega)) (lt_A0 hN rfl) hay1 hcvy59 rfl rfl mv_yX10_of q_1749 hd_yX10_of (by decide) (Nat.le_of_ble_eq_true rfl) (by decide) dX10_told_77 rfl (kI0 fun vy62 gvy62 hvy62 => ?_)
    obtain ⟨rfl, rfl⟩ := hvy62
    refine z_if_le (tgt := 125) C dX10_told_80 (by decide) (by omega) (fun hby63 => ?_) (fun hby63 => ?_)
    · refine z_aload_n C 0 dX10_told_125 rfl ?_
      refine z_bipush (z := 105) C dX10_told_126 (by decide) ?_
      refine z_bipush (z := 110) C dX10_told_128 (by decide) ?_
      have hey65 : Fvy59 51 = Fvy59 51 := rfl
      refine z_cV (As := [.int (zI (105)), .int (zI (110))]) (rest := []) (ci := 12) C (c_X10_saysWord l D A cs tt N ad _ i hN _ hcvy59 _ htvy59 (by omega) (105) (110)) (lt_A0 hN rfl) hay1 hcvy59 rfl rfl mv_yX10_saysWord q_1858 hd_yX10_saysWord (by decide) (Nat.le_of_ble_eq_true rfl) (by decide) dX10_told_130 rfl (kV0 fun gvy64 hvy64 => ?_)
      obtain ⟨⟨Fvy64, hcvy64, hnvy64, hFvy64⟩, ⟨tvy64, htvy64⟩, hfvy64⟩ := hvy64
      have hovy64 : Fvy59 51 = Fvy59 51 := rfl
      have hqvy64 : Fvy64 51 = Fvy59 51 + 4 := by omega
      clear hnvy64 hovy64
      refine z_aload_n C 0 dX10_told_133 rfl ?_
      refine z_aload_n C 0 dX10_told_134 rfl ?_
      refine z_iconst (z := 0) C dX10_told_135 rfl ?_
      refine z_iload_n C 1 dX10_told_136 rfl ?_
      refine z_iload_n C 2 dX10_told_137 rfl ?_
      refine z_iconst (z := 3) C dX10_told_138 rfl ?_
      have hgy66 := (hfvy64 (i + 1) (ne_o (i := i) (c := 1) (d := 0) rfl) (ne_o (i := i) (c := 1) (d := 24) rfl)).trans hgy61
      refine z_cV (As := [.int (zI (0)), .int (zI ((n : Int))), .int (zI (z1)), .int (zI (3))]) (rest := [.ref (ad i)]) (ci := 12) C (c_X10_of l D A cs tt N ad _ i hN _ hcvy64 _ hgy66 0 n py30 hpy30 (by omega) (by omega) (z1) (3) (qy37 + 3) (by omega) (by omega) (by omega)) (lt_A0 hN rfl) hay1 hcvy64 rfl rfl mv_yX10_of q_1749 hd_yX10_of (by decide) (Nat.le_of_ble_eq_true rfl) (by decide) dX10_told_139 rfl (kI0 fun vy67 gvy67 hvy67 => ?_)
      obtain ⟨rfl, rfl⟩ := hvy67
      have hey69 : Fvy64 51 = Fvy59 51 + 4 := hqvy64
      refine z_cV (As := [.int (zI (r (qy37 + 3)))]) (rest := []) (ci := 12) C (c_X10_saysNumber9 l D A cs tt N ad _ i hN _ hcvy64 _ htvy64 (by omega) (r (qy37 + 3)) (by omega)) (lt_A0 hN rfl) hay1 hcvy64 rfl rfl mv_yX10_saysNumber q_1846 hd_yX10_saysNumber (by decide) (Nat.le_of_ble_eq_true rfl) (by decide) dX10_told_142 rfl (kV0 fun gvy68 hvy68 => ?_)
      obtain ⟨⟨Fvy68, hcvy68, hnvy68, hFvy68⟩, ⟨tvy68, htvy68⟩, hfvy68⟩ := hvy68
      have hovy68 : Fvy64 51 = Fvy59 51 + 4 := hqvy64
      refine z_aload_n C 0 dX10_told_145 rfl ?_
      refine z_bipush (z := 97) C dX10_told_146 (by decide) ?_
      refine z_bipush (z := 116) C dX10_told_148 (by decide) ?_
      have hey71 : Fvy68 51 = Fvy68 51 := rfl
      refine z_cV (As := [.int (zI (97)), .int (zI (116))]) (rest := []) (ci := 12) C (c_X10_saysWord l D A cs tt N ad _ i hN _ hcvy68 _ htvy68 (by omega) (97) (116)) (lt_A0 hN rfl) hay1 hcvy68 rfl rfl mv_yX10_saysWord q_1858 hd_yX10_saysWord (by decide) (Nat.le_of_ble_eq_true rfl) (by decide) dX10_told_150 rfl (kV0 fun gvy70 hvy70 => ?_)
      obtain ⟨⟨Fvy70, hcvy70, hnvy70, hFvy70⟩, ⟨tvy70, htvy70⟩, hfvy70⟩ := hvy70
      have hovy70 : Fvy68 51 = Fvy68 51 := rfl
      have hqvy70 : Fvy70 51 = Fvy68 51 + 4 := by omega
      clear hnvy70 hovy70
      refine z_aload_n C 0 dX10_told_153 rfl ?_
      refine z_aload_n C 0 dX10_told_154 rfl ?_
      refine z_iconst (z := 0) C dX10_told_155 rfl ?_
      refine z_iload_n C 1 dX10_told_156 rfl ?_
      refine z_iload_n C 2 dX10_told_157 rfl ?_
      refine z_iconst (z := 4) C dX10_told_158 rfl ?_
      have hgy72 := (hfvy68 (i + 1) (ne_o (i := i) (c := 1) (d := 0) rfl) (ne_o (i := i) (c := 1) (d := 24) rfl)).trans hgy66
      have hgy73 := (hfvy70 (i + 1) (ne_o (i := i) (c := 1) (d := 0) rfl) (ne_o (i := i) (c := 1) (d := 24) rfl)).trans hgy72
      refine z_cV (As := [.int (zI (0)), .int (zI ((n : Int))), .int (zI (z1)), .int (zI (4))]) (rest := [.ref (ad i)]) (ci := 12) C (c_X10_of l D A cs tt N ad _ i hN _ hcvy70 _ hgy73 0 n py30 hpy30 (by omega) (by omega) (z1) (4) (qy37 + 4) (by omega) (by omega) (by omega)) (lt_A0 hN rfl) hay1 hcvy70 rfl rfl mv_yX10_of q_1749 hd_yX10_of (by decide) (Nat.le_of_ble_eq_true rfl) (by decide) dX10_told_159 rfl (kI0 fun vy74 gvy74 hvy74 => ?_)
      obtain ⟨rfl, rfl⟩ := hvy74
      have hey76 : Fvy70 51 = Fvy68 51 + 4 := hqvy70
      refine z_cV (As := [.int (zI (r (qy37 + 4)))]) (rest := []) (ci := 12) C (c_X10_saysNumber5 l D A cs tt N ad _ i hN _ hcvy70 _ htvy70 (by omega) (r (qy37 + 4)) (by omega)) (lt_A0 hN rfl) hay1 hcvy70 rfl rfl mv_yX10_saysNumber q_1846 hd_yX10_saysNumber (by decide) (Nat.le_of_ble_eq_true rfl) (by decide) dX10_told_162 rfl (kV0 fun gvy75 hvy75 => ?_)
      obtain ⟨⟨Fvy75, hcvy75, hnvy75, hFvy75⟩, ⟨tvy75, htvy75⟩, hfvy75⟩ := hvy75
      have hovy75 : Fvy70 51 = Fvy68 51 + 4 := hqvy70
      refine z_aload_n C 0 dX10_told_165 rfl ?_
      refine z_bipush (z := 59) C dX10_told_166 (by decide) ?_
      have hey78 : Fvy75 51 = Fvy75 51 := rfl
      refine z_cV (As := [.int (zI (59))]) (rest := []) (ci := 12) C (c_X10_says l D A cs tt N ad _ i hN _ hcvy75 _ htvy75 (by omega) (59)) (lt_A0 hN rfl) hay1 hcvy75 rfl rfl mv_yX10_says q_1850 hd_yX10_says (by decide) (Nat.le_of_ble_eq_true rfl) (by decide) dX10_told_168 rfl (kV0 fun gvy77 hvy77 => ?_)
      obtain ⟨⟨Fvy77, hcvy77, hnvy77, hFvy77⟩, ⟨tvy77, htvy77⟩, hfvy77⟩ := hvy77
      have hovy77 : Fvy75 51 = Fvy75 51 := rfl
      have hqvy77 : Fvy77 51 = Fvy75 51 + 1 := by omega
      clear hnvy77 hovy77
      refine z_iload_n C 3 dX10_told_171 rfl ?_
      refine z_iconst (z := -1) C dX10_told_172 rfl ?_
      refine z_icmp_ne (tgt := 181) C dX10_told_173 (by decide) (by omega) (by omega) (fun hby79 => ?_) (fun hby79 => ?_)
      · refine z_aload_n C 0 dX10_told_181 rfl ?_
        refine z_iload_n C 3 dX10_told_182 rfl ?_
        refine z_iconst (z := 0) C dX10_told_183 rfl ?_
        refine z_aload_n C 0 dX10_told_184 rfl ?_
        refine z_get (v := .int (zI (Fvy75 51 + 1))) C (lt_A0 hN rfl) hay1 hcvy77 rfl inA_X10 51 (by decide) q_1510 rfl (fv (F := Fvy77) (f := 51) hqvy77) dX10_told_185 ?_
        refine z_iconst (z := 1) C dX10_told_188 rfl ?_
        refine z_isub C dX10_told_189 ?_
        refine z_cS (As := [.int (zI (z2)), .int (zI (0)), .int (zI ((Fvy75 51 + 1) - 1))]) (rest := [.ref (ad i)]) C (c_X10_within l D A cs tt N ad _ (z2) (by omega) (0) (by omega) ((Fvy75 51 + 1) - 1) (by omega)) ms_yX10_within q_1686 hd_yX10_within (by decide) (Nat.le_of_ble_eq_true rfl) (by decide) dX10_told_190 rfl (kI0 fun vy80 gvy80 hvy80 => ?_)
        obtain ⟨hvy80, rfl⟩ := hvy80
        rcases hvy80 with ⟨rfl, hxvy80⟩ | ⟨rfl, hxvy80⟩
        · refine z_iconst (z := 1) C dX10_told_193 rfl ?_
          have hey82 : Fvy77 12 = Fvy28 12 := ((hFvy77 12 (by decide)).trans ((hFvy75 12 (by decide)).trans ((hFvy70 12 (by decide)).trans ((hFvy68 12 (by decide)).trans ((hFvy64 12 (by decide)).trans ((hFvy59 12 (by decide)).trans ((hFvy54 12 (by decide)).trans ((hFvy52 12 (by decide)).trans ((hFvy47 12 (by decide)).trans ((hFvy45 12 (by decide)).trans (fn rfl (by decide))))))))))))
          refine z_cV (As := [.int (zI (1)), .int (zI (1))]) (rest := []) (ci := 12) C (c_X10_right l D A cs tt N ad _ i hN _ hcvy77 (by omega) (1) (by omega) (1) (by omega)) (lt_A0 hN rfl) hay1 hcvy77 rfl rfl mv_yX10_right q_1648 hd_yX10_right (by decide) (Nat.le_of_ble_eq_true rfl) (by decide) dX10_told_194 rfl (kI0 fun vy81 gvy81 hvy81 => ?_)
          obtain ⟨hrvy81, ⟨Fvy81, hcvy81, htvy81, hFvy81⟩, hfvy81⟩ := hvy81
          rcases (show vy81 = 1 ∨ vy81 = 0 by omega) with rfl | rfl
          · refine z_if_eq (tgt := 209) C dX10_told_197 (by decide) (by omega) (fun h => absurd h (by omega)) (fun _ => ?_)
            refine z_aload_n C 0 dX10_told_200 rfl ?_
            refine z_get (v := .ref (ad (i + 24))) C (lt_A0 hN rfl) hay1 hcvy81 rfl inA_X10 50 (by decide) q_1509 rfl rfl dX10_told_201 ?_
            refine z_iload_n C 3 dX10_told_204 rfl ?_
            have hgy83 := (hfvy81 (i + 24) (ne_o (i := i) (c := 24) (d := 0) rfl)).trans htvy77
            refine z_iald C (lt_A (c := 24) hN rfl) hay17 hgy83 ((z2).toNat) (by omega) (by omega) (by decide) dX10_told_205 ?_
            refine z_goto (tgt := 210) C dX10_told_206 (by decide) ?_
            obtain ⟨xy84, exy85, hxy86⟩ := zI_of (zI (tvy77 ((z2).toNat)))
            rw [exy85]
            have hgy87 := (hfvy75 (i + 1) (ne_o (i := i) (c := 1) (d := 0) rfl) (ne_o (i := i) (c := 1) (d := 24) rfl)).trans hgy73
            have hgy88 := (hfvy77 (i + 1) (ne_o (i := i) (c := 1) (d := 0) rfl) (ne_o (i := i) (c := 1) (d := 24) rfl)).trans hgy87
            have hgy89 := (hfvy81 (i + 1) (ne_o (i := i) (c := 1) (d := 0) rfl)).trans hgy88
            have hFy90 : ∀ f, f ≠ 12 → f ≠ 51 → Fvy81 f = F f := fun f n12 n51 => ((hFvy81 f n12).trans ((hFvy77 f n51).trans ((hFvy75 f n51).trans ((hFvy70 f n51).trans ((hFvy68 f n51).trans ((hFvy64 f n51).trans ((hFvy59 f n51).trans ((hFvy54 f n51).trans ((hFvy52 f n51).trans ((hFvy47 f n51).trans ((hFvy45 f n51).trans ((uZ_n _ _ n51).trans ((hFvy28 f n12).trans ((uZ_n _ _ n12).trans rfl))))))))))))))
            have hey91 : Fvy81 13 = F 13 := ((hFvy81 13 (by decide)).trans ((hFvy77 13 (by decide)).trans ((hFvy75 13 (by decide)).trans ((hFvy70 13 (by decide)).trans ((hFvy68 13 (by decide)).trans ((hFvy64 13 (by decide)).trans ((hFvy59 13 (by decide)).trans ((hFvy54 13 (by decide)).trans ((hFvy52 13 (by decide)).trans ((hFvy47 13 (by decide)).trans ((hFvy45 13 (by decide)).trans (fn ((hFvy28 13 (by decide)).trans (fn rfl (by decide))) (by decide)))))))))))))
            have hey92 : Fvy81 14 = F 14 := ((hFvy81 14 (by decide)).trans ((hFvy77 14 (by decide)).trans ((hFvy75 14 (by decide)).trans ((hFvy70 14 (by decide)).trans ((hFvy68 14 (by decide)).trans ((hFvy64 14 (by decide)).trans ((hFvy59 14 (by decide)).trans ((hFvy54 14 (by decide)).trans ((hFvy52 14 (by decide)).trans ((hFvy47 14 (by decide)).trans ((hFvy45 14 (by decide)).trans (fn ((hFvy28 14 (by decide)).trans (fn rfl (by decide))) (by decide)))))))))))))
            have hey93 : Fvy81 15 = F 15 := ((hFvy81 15 (by decide)).trans ((hFvy77 15 (by decide)).trans ((hFvy75 15 (by decide)).trans ((hFvy70 15 (by decide)).trans ((hFvy68 15 (by decide)).trans ((hFvy64 15 (by decide)).trans ((hFvy59 15 (by decide)).trans ((hFvy54 15 (by decide)).trans ((hFvy52 15 (by decide)).trans ((hFvy47 15 (by decide)).trans ((hFvy45 15 (by decide)).trans (fn ((hFvy28 15 (by decide)).trans (fn rfl (by decide))) (by decide)))))))))))))
            have hey94 : Fvy81 16 = F 16 := ((hFvy81 16 (by decide)).trans ((hFvy77 16 (by decide)).trans ((hFvy75 16 (by decide)).trans ((hFvy70 16 (by decide)).trans ((hFvy68 16 (by decide)).trans ((hFvy64 16 (by decide)).trans ((hFvy59 16 (by decide)).trans ((hFvy54 16 (by decide)).trans ((hFvy52 16 (by decide)).trans ((hFvy47 16 (by decide)).trans ((hFvy45 16 (by decide)).trans (fn ((hFvy28 16 (by decide)).trans (fn rfl (by decide))) (by decide)))))))))))))
            have hey95 : Fvy81 17 = F 17 := ((hFvy81 17 (by decide)).trans ((hFvy77 17 (by decide)).trans ((hFvy75 17 (by decide)).trans ((hFvy70 17 (by decide)).trans ((hFvy68 17 (by decide)).trans ((hFvy64 17 (by decide)).trans ((hFvy59 17 (by decide)).trans ((hFvy54 17 (by decide)).trans ((hFvy52 17 (by decide)).trans ((hFvy47 17 (by decide)).trans ((hFvy45 17 (by decide)).trans (fn ((hFvy28 17 (by decide)).trans (fn rfl (by decide))) (by decide)))))))))))))
            have hey96 : Fvy81 18 = F 18 := ((hFvy81 18 (by decide)).trans ((hFvy77 18 (by decide)).trans ((hFvy75 18 (by decide)).trans ((hFvy70 18 (by decide)).trans ((hFvy68 18 (by decide)).trans ((hFvy64 18 (by decide)).trans ((hFvy59 18 (by decide)).trans ((hFvy54 18 (by decide)).trans ((hFvy52 18 (by decide)).trans ((hFvy47 18 (by decide)).trans ((hFvy45 18 (by decide)).trans (fn ((hFvy28 18 (by decide)).trans (fn rfl (by decide))) (by decide)))))))))))))
            have hey97 : Fvy81 19 = F 19 := ((hFvy81 19 (by decide)).trans ((hFvy77 19 (by decide)).trans ((hFvy75 19 (by decide)).trans ((hFvy70 19 (by decide)).trans ((hFvy68 19 (by decide)).trans ((hFvy64 19 (by decide)).trans ((hFvy59 19 (by decide)).trans ((hFvy54 19 (by decide)).trans ((hFvy52 19 (by decide)).trans ((hFvy47 19 (by decide)).trans ((hFvy45 19 (by decide)).trans (fn ((hFvy28 19 (by decide)).trans (fn rfl (by decide))) (by decide)))))))))))))
            have hey98 : Fvy81 20 = F 20 := ((hFvy81 20 (by decide)).trans ((hFvy77 20 (by decide)).trans ((hFvy75 20 (by decide)).trans ((hFvy70 20 (by decide)).trans ((hFvy68 20 (by decide)).trans ((hFvy64 20 (by decide)).trans ((hFvy59 20 (by decide)).trans ((hFvy54 20 (by decide)).trans ((hFvy52 20 (by decide)).trans ((hFvy47 20 (by decide)).trans ((hFvy45 20 (by decide)).trans (fn ((hFvy28 20 (by decide)).trans (fn rfl (by decide))) (by decide)))))))))))))
            have hey99 : Fvy81 21 = F 21 := ((hFvy81 21 (by decide)).trans ((hFvy77 21 (by decide)).trans ((hFvy75 21 (by decide)).trans ((hFvy70 21 (by decide)).trans ((hFvy68 21 (by decide)).trans ((hFvy64 21 (by decide)).trans ((hFvy59 21 (by decide)).trans ((hFvy54 21 (by decide)).trans ((hFvy52 21 (by decide)).trans ((hFvy47 21 (by decide)).trans ((hFvy45 21 (by decide)).trans (fn ((hFvy28 21 (by decide)).trans (fn rfl (by decide))) (by decide)))))))))))))
            have hey100 : Fvy81 23 = F 23 := ((hFvy81 23 (by decide)).trans ((hFvy77 23 (by decide)).trans ((hFvy75 23 (by decide)).trans ((hFvy70 23 (by decide)).trans ((hFvy68 23 (by decide)).trans ((hFvy64 23 (by decide)).trans ((hFvy59 23 (by decide)).trans ((hFvy54 23 (by decide)).trans ((hFvy52 23 (by decide)).trans ((hFvy47 23 (by decide)).trans ((hFvy45 23 (by decide)).trans (fn ((hFvy28 23 (by decide)).trans (fn rfl (by decide))) (by decide)))))))))))))
            have hey101 : Fvy81 25 = F 25 := ((hFvy81 25 (by decide)).trans ((hFvy77 25 (by decide)).trans ((hFvy75 25 (by decide)).trans ((hFvy70 25 (by decide)).trans ((hFvy68 25 (by decide)).trans ((hFvy64 25 (by decide)).trans ((hFvy59 25 (by decide)).trans ((hFvy54 25 (by decide)).trans ((hFvy52 25 (by decide)).trans ((hFvy47 25 (by decide)).trans ((hFvy45 25 (by decide)).trans (fn ((hFvy28 25 (by decide)).trans (fn rfl (by decide))) (by decide)))))))))))))
            have hey102 : Fvy81 27 = F 27 := ((hFvy81 27 (by decide)).trans ((hFvy77 27 (by decide)).trans ((hFvy75 27 (by decide)).trans ((hFvy70 27 (by decide)).trans ((hFvy68 27 (by decide)).trans ((hFvy64 27 (by decide)).trans ((hFvy59 27 (by decide)).trans ((hFvy54 27 (by decide)).trans ((hFvy52 27 (by decide)).trans ((hFvy47 27 (by decide)).trans ((hFvy45 27 (by decide)).trans (fn ((hFvy28 27 (by decide)).trans (fn rfl (by decide))) (by decide)))))))))))))
            have hey103 : Fvy81 28 = F 28 := ((hFvy81 28 (by decide)).trans ((hFvy77 28 (by decide)).trans ((hFvy75 28 (by decide)).trans ((hFvy70 28 (by decide)).trans ((hFvy68 28 (by decide)).trans ((hFvy64 28 (by decide)).trans ((hFvy59 28 (by decide)).trans ((hFvy54 28 (by decide)).trans ((hFvy52 28 (by decide)).trans ((hFvy47 28 (by decide)).trans ((hFvy45 28 (by decide)).trans (fn ((hFvy28 28 (by decide)).trans (fn rfl (by decide))) (by decide)))))))))))))
            have hey104 : Fvy81 29 = F 29 := ((hFvy81 29 (by decide)).trans ((hFvy77 29 (by decide)).trans ((hFvy75 29 (by decide)).trans ((hFvy70 29 (by decide)).trans ((hFvy68 29 (by decide)).trans ((hFvy64 29 (by decide)).trans ((hFvy59 29 (by decide)).trans ((hFvy54 29 (by decide)).trans ((hFvy52 29 (by decide)).trans ((hFvy47 29 (by decide)).trans ((hFvy45 29 (by decide)).trans (fn ((hFvy28 29 (by decide)).trans (fn rfl (by decide))) (by decide)))))))))))))
            have hKy105 : okF Fvy81 := okF.mv hM.2.1 hey91 hey92 hey93 hey94 hey95 hey96 hey97 hey98 hey99 hey100 hey101 hey102 hey103 hey104
            have hMy106 : okMr cs ad gvy81 i (x + 1) Fvy81 r st op ai fa mu tb tp := okMr.upd hM hcvy81 hKy105 (fun f a => hFy90 f (by omega) (by omega)) hgy89 (hA.mono (by omega)) (fun j a b => by
                by_cases e0 : j = i + 24
                · exact Or.inr ⟨24, _, e0, lsP.l (by decide), by rw [e0]; exact hgy83⟩
                exact Or.inl (by rw [hfvy81 _ (by omega)]; rw [hfvy77 _ (by omega) (by omega)]; rw [hfvy75 _ (by omega) (by omega)]; rw [hfvy70 _ (by omega) (by omega)]; rw [hfvy68 _ (by omega) (by omega)]; rw [hfvy64 _ (by omega) (by omega)]; rw [hfvy59 _ (by omega) (by omega)]; rw [hfvy54 _ (by omega) (by omega)]; rw [hfvy52 _ (by omega) (by omega)]; rw [hfvy47 _ (by omega) (by omega)]; rw [hfvy45 _ (by omega) (by omega)]; rw [egy32, va_up_ne _ _ (by omega)]; rw [hfvy28 _ (by omega)]; rw [egy25, va_up_ne _ _ (by omega)]))
            have hkpy107 : Fvy81 13 = F 13 := ((hFvy81 13 (by decide)).trans ((hFvy77 13 (by decide)).trans ((hFvy75 13 (by decide)).trans ((hFvy70 13 (by decide)).trans ((hFvy68 13 (by decide)).trans ((hFvy64 13 (by decide)).trans ((hFvy59 13 (by decide)).trans ((hFvy54 13 (by decide)).trans ((hFvy52 13 (by decide)).trans ((hFvy47 13 (by decide)).trans ((hFvy45 13 (by decide)).trans (fn ((hFvy28 13 (by decide)).trans (fn rfl (by decide))) (by decide)))))))))))))
            have hkpy108 : Fvy81 14 = F 14 := ((hFvy81 14 (by decide)).trans ((hFvy77 14 (by decide)).trans ((hFvy75 14 (by decide)).trans ((hFvy70 14 (by decide)).trans ((hFvy68 14 (by decide)).trans ((hFvy64 14 (by decide)).trans ((hFvy59 14 (by decide)).trans ((hFvy54 14 (by decide)).trans ((hFvy52 14 (by decide)).trans ((hFvy47 14 (by decide)).trans ((hFvy45 14 (by decide)).trans (fn ((hFvy28 14 (by decide)).trans (fn rfl (by decide))) (by decide)))))))))))))
            have hkpy109 : Fvy81 17 = F 17 := ((hFvy81 17 (by decide)).trans ((hFvy77 17 (by decide)).trans ((hFvy75 17 (by decide)).trans ((hFvy70 17 (by decide)).trans ((hFvy68 17 (by decide)).trans ((hFvy64 17 (by decide)).trans ((hFvy59 17 (by decide)).trans ((hFvy54 17 (by decide)).trans ((hFvy52 17 (by decide)).trans ((hFvy47 17 (by decide)).trans ((hFvy45 17 (by decide)).trans (fn ((hFvy28 17 (by decide)).trans (fn rfl (by decide))) (by decide)))))))))))))
            have hkpy110 : Fvy81 20 = F 20 := ((hFvy81 20 (by decide)).trans ((hFvy77 20 (by decide)).trans ((hFvy75 20 (by decide)).trans ((hFvy70 20 (by decide)).trans ((hFvy68 20 (by decide)).trans ((hFvy64 20 (by decide)).trans ((hFvy59 20 (by decide)).trans ((hFvy54 20 (by decide)).trans ((hFvy52 20 (by decide)).trans ((hFvy47 20 (by decide)).trans ((hFvy45 20 (by decide)).trans (fn ((hFvy28 20 (by decide)).trans (fn rfl (by decide))) (by decide)))))))))))))
            have hkpy111 : Fvy81 21 = F 21 := ((hFvy81 21 (by decide)).trans ((hFvy77 21 (by decide)).trans ((hFvy75 21 (by decide)).trans ((hFvy70 21 (by decide)).trans ((hFvy68 21 (by decide)).trans ((hFvy64 21 (by decide)).trans ((hFvy59 21 (by decide)).trans ((hFvy54 21 (by decide)).trans ((hFvy52 21 (by decide)).trans ((hFvy47 21 (by decide)).trans ((hFvy45 21 (by decide)).trans (fn ((hFvy28 21 (by decide)).trans (fn rfl (by decide))) (by decide)))))))))))))
            have hkpy112 : Fvy81 23 = F 23 := ((hFvy81 23 (by decide)).trans ((hFvy77 23 (by decide)).trans ((hFvy75 23 (by decide)).trans ((hFvy70 23 (by decide)).trans ((hFvy68 23 (by decide)).trans ((hFvy64 23 (by decide)).trans ((hFvy59 23 (by decide)).trans ((hFvy54 23 (by decide)).trans ((hFvy52 23 (by decide)).trans ((hFvy47 23 (by decide)).trans ((hFvy45 23 (by decide)).trans (fn ((hFvy28 23 (by decide)).trans (fn rfl (by decide))) (by decide)))))))))))))
            have hkpy113 : Fvy81 24 = F 24 := ((hFvy81 24 (by decide)).trans ((hFvy77 24 (by decide)).trans ((hFvy75 24 (by decide)).trans ((hFvy70 24 (by decide)).trans ((hFvy68 24 (by decide)).trans ((hFvy64 24 (by decide)).trans ((hFvy59 24 (by decide)).trans ((hFvy54 24 (by decide)).trans ((hFvy52 24 (by decide)).trans ((hFvy47 24 (by decide)).trans ((hFvy45 24 (by decide)).trans (fn ((hFvy28 24 (by decide)).trans (fn rfl (by decide))) (by decide)))))))))))))
            exact z_iret C hr hlk dX10_told_210 (by decide) (by decide) ⟨xy84, rfl, rfl, rfl, by omega, ⟨_, _, hMy106, ⟨hkpy107, hkpy108, hkpy109, hkpy110, hkpy111, hkpy112, hkpy113⟩⟩, fun j j1 => by rw [hfvy81 _ (by omega)]; rw [hfvy77 _ (by omega) (by omega)]; rw [hfvy75 _ (by omega) (by omega)]; rw [hfvy70 _ (by omega) (by omega)]; rw [hfvy68 _ (by omega) (by omega)]; rw [hfvy64 _ (by omega) (by omega)]; rw [hfvy59 _ (by omega) (by omega)]; rw [hfvy54 _ (by omega) (by omega)]; rw [hfvy52 _ (by omega) (by omega)]; rw [hfvy47 _ (by omega) (by omega)]; rw [hfvy45 _ (by omega) (by omega)]; rw [egy32, va_up_ne _ _ (by omega)]; rw [hfvy28 _ (by omega)]; rw [egy25, va_up_ne _ _ (by omega)]⟩
          · refine z_if_eq (tgt := 209) C dX10_told_197 (by decide) (by omega) (fun _ => ?_) (fun h => absurd h (by omega))
            refine z_iconst (z := 0) C dX10_told_209 rfl ?_
            have hgy114 := (hfvy75 (i + 1) (ne_o (i := i) (c := 1) (d := 0) rfl) (ne_o (i := i) (c := 1) (d := 24) rfl)).trans hgy73
            have hgy115 := (hfvy77 (i + 1) (ne_o (i := i) (c := 1) (d := 0) rfl) (ne_o (i := i) (c := 1) (d := 24) rfl)).trans hgy114
            have hgy116 := (hfvy81 (i + 1) (ne_o (i := i) (c := 1) (d := 0) rfl)).trans hgy115
            have hFy117 : ∀ f, f ≠ 12 → f ≠ 51 → Fvy81 f = F f := fun f n12 n51 => ((hFvy81 f n12).trans ((hFvy77 f n51).trans ((hFvy75 f n51).trans ((hFvy70 f n51).trans ((hFvy68 f n51).trans ((hFvy64 f n51).trans ((hFvy59 f n51).trans ((hFvy54 f n51).trans ((hFvy52 f n51).trans ((hFvy47 f n51).trans ((hFvy45 f n51).trans ((uZ_n _ _ n51).trans ((hFvy28 f n12).trans ((uZ_n _ _ n12).trans rfl))))))))))))))
            have hey118 : Fvy81 13 = F 13 := ((hFvy81 13 (by decide)).trans ((hFvy77 13 (by decide)).trans ((hFvy75 13 (by decide)).trans ((hFvy70 13 (by decide)).trans ((hFvy68 13 (by decide)).trans ((hFvy64 13 (by decide)).trans ((hFvy59 13 (by decide)).trans ((hFvy54 13 (by decide)).trans ((hFvy52 13 (by decide)).trans ((hFvy47 13 (by decide)).trans ((hFvy45 13 (by decide)).trans (fn ((hFvy28 13 (by decide)).trans (fn rfl (by decide))) (by decide)))))))))))))
            have hey119 : Fvy81 14 = F 14 := ((hFvy81 14 (by decide)).trans ((hFvy77 14 (by decide)).trans ((hFvy75 14 (by decide)).trans ((hFvy70 14 (by decide)).trans ((hFvy68 14 (by decide)).trans ((hFvy64 14 (by decide)).trans ((hFvy59 14 (by decide)).trans ((hFvy54 14 (by decide)).trans ((hFvy52 14 (by decide)).trans ((hFvy47 14 (by decide)).trans ((hFvy45 14 (by decide)).trans (fn ((hFvy28 14 (by decide)).trans (fn rfl (by decide))) (by decide)))))))))))))
            have hey120 : Fvy81 15 = F 15 := ((hFvy81 15 (by decide)).trans ((hFvy77 15 (by decide)).trans ((hFvy75 15 (by decide)).trans ((hFvy70 15 (by decide)).trans ((hFvy68 15 (by decide)).trans ((hFvy64 15 (by decide)).trans ((hFvy59 15 (by decide)).trans ((hFvy54 15 (by decide)).trans ((hFvy52 15 (by decide)).trans ((hFvy47 15 (by decide)).trans ((hFvy45 15 (by decide)).trans (fn ((hFvy28 15 (by decide)).trans (fn rfl (by decide))) (by decide)))))))))))))
            have hey121 : Fvy81 16 = F 16 := ((hFvy81 16 (by decide)).trans ((hFvy77 16 (by decide)).trans ((hFvy75 16 (by decide)).trans ((hFvy70 16 (by decide)).trans ((hFvy68 16 (by decide)).trans ((hFvy64 16 (by decide)).trans ((hFvy59 16 (by decide)).trans ((hFvy54 16 (by decide)).trans ((hFvy52 16 (by decide)).trans ((hFvy47 16 (by decide)).trans ((hFvy45 16 (by decide)).trans (fn ((hFvy28 16 (by decide)).trans (fn rfl (by decide))) (by decide)))))))))))))
            have hey122 : Fvy81 17 = F 17 := ((hFvy81 17 (by decide)).trans ((hFvy77 17 (by decide)).trans ((hFvy75 17 (by decide)).trans ((hFvy70 17 (by decide)).trans ((hFvy68 17 (by decide)).trans ((hFvy64 17 (by decide)).trans ((hFvy59 17 (by decide)).trans ((hFvy54 17 (by decide)).trans ((hFvy52 17 (by decide)).trans ((hFvy47 17 (by decide)).trans ((hFvy45 17 (by decide)).trans (fn ((hFvy28 17 (by decide)).trans (fn rfl (by decide))) (by decide)))))))))))))
            have hey123 : Fvy81 18 = F 18 := ((hFvy81 18 (by decide)).trans ((hFvy77 18 (by decide)).trans ((hFvy75 18 (by decide)).trans ((hFvy70 18 (by decide)).trans ((hFvy68 18 (by decide)).trans ((hFvy64 18 (by decide)).trans ((hFvy59 18 (by decide)).trans ((hFvy54 18 (by decide)).trans ((hFvy52 18 (by decide)).trans ((hFvy47 18 (by decide)).trans ((hFvy45 18 (by decide)).trans (fn ((hFvy28 18 (by decide)).trans (fn rfl (by decide))) (by decide)))))))))))))
            have hey124 : Fvy81 19 = F 19 := ((hFvy81 19 (by decide)).trans ((hFvy77 19 (by decide)).trans ((hFvy75 19 (by decide)).trans ((hFvy70 19 (by decide)).trans ((hFvy68 19 (by decide)).trans ((hFvy64 19 (by decide)).trans ((hFvy59 19 (by decide)).trans ((hFvy54 19 (by decide)).trans ((hFvy52 19 (by decide)).trans ((hFvy47 19 (by decide)).trans ((hFvy45 19 (by decide)).trans (fn ((hFvy28 19 (by decide)).trans (fn rfl (by decide))) (by decide)))))))))))))
            have hey125 : Fvy81 20 = F 20 := ((hFvy81 20 (by decide)).trans ((hFvy77 20 (by decide)).trans ((hFvy75 20 (by decide)).trans ((hFvy70 20 (by decide)).trans ((hFvy68 20 (by decide)).trans ((hFvy64 20 (by decide)).trans ((hFvy59 20 (by decide)).trans ((hFvy54 20 (by decide)).trans ((hFvy52 20 (by decide)).trans ((hFvy47 20 (by decide)).trans ((hFvy45 20 (by decide)).trans (fn ((hFvy28 20 (by decide)).trans (fn rfl (by decide))) (by decide)))))))))))))
            have hey126 : Fvy81 21 = F 21 := ((hFvy81 21 (by decide)).trans ((hFvy77 21 (by decide)).trans ((hFvy75 21 (by decide)).trans ((hFvy70 21 (by decide)).trans ((hFvy68 21 (by decide)).trans ((hFvy64 21 (by decide)).trans ((hFvy59 21 (by decide)).trans ((hFvy54 21 (by decide)).trans ((hFvy52 21 (by decide)).trans ((hFvy47 21 (by decide)).trans ((hFvy45 21 (by decide)).trans (fn ((hFvy28 21 (by decide)).trans (fn rfl (by decide))) (by decide)))))))))))))
            have hey127 : Fvy81 23 = F 23 := ((hFvy81 23 (by decide)).trans ((hFvy77 23 (by decide)).trans ((hFvy75 23 (by decide)).trans ((hFvy70 23 (by decide)).trans ((hFvy68 23 (by decide)).trans ((hFvy64 23 (by decide)).trans ((hFvy59 23 (by decide)).trans ((hFvy54 23 (by decide)).trans ((hFvy52 23 (by decide)).trans ((hFvy47 23 (by decide)).trans ((hFvy45 23 (by decide)).trans (fn ((hFvy28 23 (by decide)).trans (fn rfl (by decide))) (by decide)))))))))))))
            have hey128 : Fvy81 25 = F 25 := ((hFvy81 25 (by decide)).trans ((hFvy77 25 (by decide)).trans ((hFvy75 25 (by decide)).trans ((hFvy70 25 (by decide)).trans ((hFvy68 25 (by decide)).trans ((hFvy64 25 (by decide)).trans ((hFvy59 25 (by decide)).trans ((hFvy54 25 (by decide)).trans ((hFvy52 25 (by decide)).trans ((hFvy47 25 (by decide)).trans ((hFvy45 25 (by decide)).trans (fn ((hFvy28 25 (by decide)).trans (fn rfl (by decide))) (by decide)))))))))))))
            have hey129 : Fvy81 27 = F 27 := ((hFvy81 27 (by decide)).trans ((hFvy77 27 (by decide)).trans ((hFvy75 27 (by decide)).trans ((hFvy70 27 (by decide)).trans ((hFvy68 27 (by decide)).trans ((hFvy64 27 (by decide)).trans ((hFvy59 27 (by decide)).trans ((hFvy54 27 (by decide)).trans ((hFvy52 27 (by decide)).trans ((hFvy47 27 (by decide)).trans ((hFvy45 27 (by decide)).trans (fn ((hFvy28 27 (by decide)).trans (fn rfl (by decide))) (by decide)))))))))))))
            have hey130 : Fvy81 28 = F 28 := ((hFvy81 28 (by decide)).trans ((hFvy77 28 (by decide)).trans ((hFvy75 28 (by decide)).trans ((hFvy70 28 (by decide)).trans ((hFvy68 28 (by decide)).trans ((hFvy64 28 (by decide)).trans ((hFvy59 28 (by decide)).trans ((hFvy54 28 (by decide)).trans ((hFvy52 28 (by decide)).trans ((hFvy47 28 (by decide)).trans ((hFvy45 28 (by decide)).trans (fn ((hFvy28 28 (by decide)).trans (fn rfl (by decide))) (by decide)))))))))))))
            have hey131 : Fvy81 29 = F 29 := ((hFvy81 29 (by decide)).trans ((hFvy77 29 (by decide)).trans ((hFvy75 29 (by decide)).trans ((hFvy70 29 (by decide)).trans ((hFvy68 29 (by decide)).trans ((hFvy64 29 (by decide)).trans ((hFvy59 29 (by decide)).trans ((hFvy54 29 (by decide)).trans ((hFvy52 29 (by decide)).trans ((hFvy47 29 (by decide)).trans ((hFvy45 29 (by decide)).trans (fn ((hFvy28 29 (by decide)).trans (fn rfl (by decide))) (by decide)))))))))))))
            have hKy132 : okF Fvy81 := okF.mv hM.2.1 hey118 hey119 hey120 hey121 hey122 hey123 hey124 hey125 hey126 hey127 hey128 hey129 hey130 hey131
            have hgy134 := (hfvy81 (i + 24) (ne_o (i := i) (c := 24) (d := 0) rfl)).trans htvy77
            have hMy133 : okMr cs ad gvy81 i (x + 1) Fvy81 r st op ai fa mu tb tp := okMr.upd hM hcvy81 hKy132 (fun f a => hFy117 f (by omega) (by omega)) hgy116 (hA.mono (by omega)) (fun j a b => by
                by_cases e0 : j = i + 24
                · exact Or.inr ⟨24, _, e0, lsP.l (by decide), by rw [e0]; exact hgy134⟩
                exact Or.inl (by rw [hfvy81 _ (by omega)]; rw [hfvy77 _ (by omega) (by omega)]; rw [hfvy75 _ (by omega) (by omega)]; rw [hfvy70 _ (by omega) (by omega)]; rw [hfvy68 _ (by omega) (by omega)]; rw [hfvy64 _ (by omega) (by omega)]; rw [hfvy59 _ (by omega) (by omega)]; rw [hfvy54 _ (by omega) (by omega)]; rw [hfvy52 _ (by omega) (by omega)]; rw [hfvy47 _ (by omega) (by omega)]; rw [hfvy45 _ (by omega) (by omega)]; rw [egy32, va_up_ne _ _ (by omega)]; rw [hfvy28 _ (by omega)]; rw [egy25, va_up_ne _ _ (by omega)]))
            have hkpy135 : Fvy81 13 = F 13 := ((hFvy81 13 (by decide)).trans ((hFvy77 13 (by decide)).trans ((hFvy75 13 (by decide)).trans ((hFvy70 13 (by decide)).trans ((hFvy68 13 (by decide)).trans ((hFvy64 13 (by decide)).trans ((hFvy59 13 (by decide)).trans ((hFvy54 13 (by decide)).trans ((hFvy52 13 (by decide)).trans ((hFvy47 13 (by decide)).trans ((hFvy45 13 (by decide)).trans (fn ((hFvy28 13 (by decide)).trans (fn rfl (by decide))) (by decide)))))))))))))
            have hkpy136 : Fvy81 14 = F 14 := ((hFvy81 14 (by decide)).trans ((hFvy77 14 (by decide)).trans ((hFvy75 14 (by decide)).trans ((hFvy70 14 (by decide)).trans ((hFvy68 14 (by decide)).trans ((hFvy64 14 (by decide)).trans ((hFvy59 14 (by decide)).trans ((hFvy54 14 (by decide)).trans ((hFvy52 14 (by decide)).trans ((hFvy47 14 (by decide)).trans ((hFvy45 14 (by decide)).trans (fn ((hFvy28 14 (by decide)).trans (fn rfl (by decide))) (by decide)))))))))))))
            have hkpy137 : Fvy81 17 = F 17 := ((hFvy81 17 (by decide)).trans ((hFvy77 17 (by decide)).trans ((hFvy75 17 (by decide)).trans ((hFvy70 17 (by decide)).trans ((hFvy68 17 (by decide)).trans ((hFvy64 17 (by decide)).trans ((hFvy59 17 (by decide)).trans ((hFvy54 17 (by decide)).trans ((hFvy52 17 (by decide)).trans ((hFvy47 17 (by decide)).trans ((hFvy45 17 (by decide)).trans (fn ((hFvy28 17 (by decide)).trans (fn rfl (by decide))) (by decide)))))))))))))
            have hkpy138 : Fvy81 20 = F 20 := ((hFvy81 20 (by decide)).trans ((hFvy77 20 (by decide)).trans ((hFvy75 20 (by decide)).trans ((hFvy70 20 (by decide)).trans ((hFvy68 20 (by decide)).trans ((hFvy64 20 (by decide)).trans ((hFvy59 20 (by decide)).trans ((hFvy54 20 (by decide)).trans ((hFvy52 20 (by decide)).trans ((hFvy47 20 (by decide)).trans ((hFvy45 20 (by decide)).trans (fn ((hFvy28 20 (by decide)).trans (fn rfl (by decide))) (by decide)))))))))))))
            have hkpy139 : Fvy81 21 = F 21 := ((hFvy81 21 (by decide)).trans ((hFvy77 21 (by decide)).trans ((hFvy75 21 (by decide)).trans ((hFvy70 21 (by decide)).trans ((hFvy68 21 (by decide)).trans ((hFvy64 21 (by decide)).trans ((hFvy59 21 (by decide)).trans ((hFvy54 21 (by decide)).trans ((hFvy52 21 (by decide)).trans ((hFvy47 21 (by decide)).trans ((hFvy45 21 (by decide)).trans (fn ((hFvy28 21 (by decide)).trans (fn rfl (by decide))) (by decide)))))))))))))
            have hkpy140 : Fvy81 23 = F 23 := ((hFvy81 23 (by decide)).trans ((hFvy77 23 (by decide)).trans ((hFvy75 23 (by decide)).trans ((hFvy70 23 (by decide)).trans ((hFvy68 23 (by decide)).trans ((hFvy64 23 (by decide)).trans ((hFvy59 23 (by decide)).trans ((hFvy54 23 (by decide)).trans ((hFvy52 23 (by decide)).trans ((hFvy47 23 (by decide)).trans ((hFvy45 23 (by decide)).trans (fn ((hFvy28 23 (by decide)).trans (fn rfl (by decide))) (by decide)))))))))))))
            have hkpy141 : Fvy81 24 = F 24 := ((hFvy81 24 (by decide)).trans ((hFvy77 24 (by decide)).trans ((hFvy75 24 (by decide)).trans ((hFvy70 24 (by decide)).trans ((hFvy68 24 (by decide)).trans ((hFvy64 24 (by decide)).trans ((hFvy59 24 (by decide)).trans ((hFvy54 24 (by decide)).trans ((hFvy52 24 (by decide)).trans ((hFvy47 24 (by decide)).trans ((hFvy45 24 (by decide)).trans (fn ((hFvy28 24 (by decide)).trans (fn rfl (by decide))) (by decide)))))))))))))
            exact z_iret C hr hlk dX10_told_210 (by decide) (by decide) ⟨0, rfl, rfl, rfl, by omega, ⟨_, _, hMy133, ⟨hkpy135, hkpy136, hkpy137, hkpy138, hkpy139, hkpy140, hkpy141⟩⟩, fun j j1 => by rw [hfvy81 _ (by omega)]; rw [hfvy77 _ (by omega) (by omega)]; rw [hfvy75 _ (by omega) (by omega)]; rw [hfvy70 _ (by omega) (by omega)]; rw [hfvy68 _ (by omega) (by omega)]; rw [hfvy64 _ (by omega) (by omega)]; rw [hfvy59 _ (by omega) (by omega)]; rw [hfvy54 _ (by omega) (by omega)]; rw [hfvy52 _ (by omega) (by omega)]; rw [hfvy47 _ (by omega) (by omega)]; rw [hfvy45 _ (by omega) (by omega)]; rw [egy32, va_up_ne _ _ (by omega)]; rw [hfvy28 _ (by omega)]; rw [egy25, va_up_ne _ _ (by omega)]⟩
        · refine z_iconst (z := 1) C dX10_told_193 rfl ?_
          have hey143 : Fvy77 12 = Fvy28 12 := ((hFvy77 12 (by decide)).trans ((hFvy75 12 (by decide)).trans ((hFvy70 12 (by decide)).trans ((hFvy68 12 (by decide)).trans ((hFvy64 12 (by decide)).trans ((hFvy59 12 (by decide)).trans ((hFvy54 12 (by decide)).trans ((hFvy52 12 (by decide)).trans ((hFvy47 12 (by decide)).trans ((hFvy45 12 (by decide)).trans (fn rfl (by decide))))))))))))
          refine z_cV (As := [.int (zI (0)), .int (zI (1))]) (rest := []) (ci := 12) C (c_X10_right l D A cs tt N ad _ i hN _ hcvy77 (by omega) (0) (by omega) (1) (by omega)) (lt_A0 hN rfl) hay1 hcvy77 rfl rfl mv_yX10_right q_1648 hd_yX10_right (by decide) (Nat.le_of_ble_eq_true rfl) (by decide) dX10_told_194 rfl (kI0 fun vy142 gvy142 hvy142 => ?_)
          obtain ⟨hrvy142, ⟨Fvy142, hcvy142, htvy142, hFvy142⟩, hfvy142⟩ := hvy142
          obtain rfl : vy142 = 0 := by omega
          refine z_if_eq (tgt := 209) C dX10_told_197 (by decide) (by omega) (fun _ => ?_) (fun h => absurd h (by omega))
          refine z_iconst (z := 0) C dX10_told_209 rfl ?_
          have hgy144 := (hfvy75 (i + 1) (ne_o (i := i) (c := 1) (d := 0) rfl) (ne_o (i := i) (c := 1) (d := 24) rfl)).trans hgy73
          have hgy145 := (hfvy77 (i + 1) (ne_o (i := i) (c := 1) (d := 0) rfl) (ne_o (i := i) (c := 1) (d := 24) rfl)).trans hgy144
          have hgy146 := (hfvy142 (i + 1) (ne_o (i := i) (c := 1) (d := 0) rfl)).trans hgy145
          have hFy147 : ∀ f, f ≠ 12 → f ≠ 51 → Fvy142 f = F f := fun f n12 n51 => ((hFvy142 f n12).trans ((hFvy77 f n51).trans ((hFvy75 f n51).trans ((hFvy70 f n51).trans ((hFvy68 f n51).trans ((hFvy64 f n51).trans ((hFvy59 f n51).trans ((hFvy54 f n51).trans ((hFvy52 f n51).trans ((hFvy47 f n51).trans ((hFvy45 f n51).trans ((uZ_n _ _ n51).trans ((hFvy28 f n12).trans ((uZ_n _ _ n12).trans rfl))))))))))))))
          have hey148 : Fvy142 13 = F 13 := ((hFvy142 13 (by decide)).trans ((hFvy77 13 (by decide)).trans ((hFvy75 13 (by decide)).trans ((hFvy70 13 (by decide)).trans ((hFvy68 13 (by decide)).trans ((hFvy64 13 (by decide)).trans ((hFvy59 13 (by decide)).trans ((hFvy54 13 (by decide)).trans ((hFvy52 13 (by decide)).trans ((hFvy47 13 (by decide)).trans ((hFvy45 13 (by decide)).trans (fn ((hFvy28 13 (by decide)).trans (fn rfl (by decide))) (by decide)))))))))))))
          have hey149 : Fvy142 14 = F 14 := ((hFvy142 14 (by decide)).trans ((hFvy77 14 (by decide)).trans ((hFvy75 14 (by decide)).trans ((hFvy70 14 (by decide)).trans ((hFvy68 14 (by decide)).trans ((hFvy64 14 (by decide)).trans ((hFvy59 14 (by decide)).trans ((hFvy54 14 (by decide)).trans ((hFvy52 14 (by decide)).trans ((hFvy47 14 (by decide)).trans ((hFvy45 14 (by decide)).trans (fn ((hFvy28 14 (by decide)).trans (fn rfl (by decide))) (by decide)))))))))))))
          have hey150 : Fvy142 15 = F 15 := ((hFvy142 15 (by decide)).trans ((hFvy77 15 (by decide)).trans ((hFvy75 15 (by decide)).trans ((hFvy70 15 (by decide)).trans ((hFvy68 15 (by decide)).trans ((hFvy64 15 (by decide)).trans ((hFvy59 15 (by decide)).trans ((hFvy54 15 (by decide)).trans ((hFvy52 15 (by decide)).trans ((hFvy47 15 (by decide)).trans ((hFvy45 15 (by decide)).trans (fn ((hFvy28 15 (by decide)).trans (fn rfl (by decide))) (by decide)))))))))))))
          have hey151 : Fvy142 16 = F 16 := ((hFvy142 16 (by decide)).trans ((hFvy77 16 (by decide)).trans ((hFvy75 16 (by decide)).trans ((hFvy70 16 (by decide)).trans ((hFvy68 16 (by decide)).trans ((hFvy64 16 (by decide)).trans ((hFvy59 16 (by decide)).trans ((hFvy54 16 (by decide)).trans ((hFvy52 16 (by decide)).trans ((hFvy47 16 (by decide)).trans ((hFvy45 16 (by decide)).trans (fn ((hFvy28 16 (by decide)).trans (fn rfl (by decide))) (by decide)))))))))))))
          have hey152 : Fvy142 17 = F 17 := ((hFvy142 17 (by decide)).trans ((hFvy77 17 (by decide)).trans ((hFvy75 17 (by decide)).trans ((hFvy70 17 (by decide)).trans ((hFvy68 17 (by decide)).trans ((hFvy64 17 (by decide)).trans ((hFvy59 17 (by decide)).trans ((hFvy54 17 (by decide)).trans ((hFvy52 17 (by decide)).trans ((hFvy47 17 (by decide)).trans ((hFvy45 17 (by decide)).trans (fn ((hFvy28 17 (by decide)).trans (fn rfl (by decide))) (by decide)))))))))))))
          have hey153 : Fvy142 18 = F 18 := ((hFvy142 18 (by decide)).trans ((hFvy77 18 (by decide)).trans ((hFvy75 18 (by decide)).trans ((hFvy70 18 (by decide)).trans ((hFvy68 18 (by decide)).trans ((hFvy64 18 (by decide)).trans ((hFvy59 18 (by decide)).trans ((hFvy54 18 (by decide)).trans ((hFvy52 18 (by decide)).trans ((hFvy47 18 (by decide)).trans ((hFvy45 18 (by decide)).trans (fn ((hFvy28 18 (by decide)).trans (fn rfl (by decide))) (by decide)))))))))))))
          have hey154 : Fvy142 19 = F 19 := ((hFvy142 19 (by decide)).trans ((hFvy77 19 (by decide)).trans ((hFvy75 19 (by decide)).trans ((hFvy70 19 (by decide)).trans ((hFvy68 19 (by decide)).trans ((hFvy64 19 (by decide)).trans ((hFvy59 19 (by decide)).trans ((hFvy54 19 (by decide)).trans ((hFvy52 19 (by decide)).trans ((hFvy47 19 (by decide)).trans ((hFvy45 19 (by decide)).trans (fn ((hFvy28 19 (by decide)).trans (fn rfl (by decide))) (by decide)))))))))))))
          have hey155 : Fvy142 20 = F 20 := ((hFvy142 20 (by decide)).trans ((hFvy77 20 (by decide)).trans ((hFvy75 20 (by decide)).trans ((hFvy70 20 (by decide)).trans ((hFvy68 20 (by decide)).trans ((hFvy64 20 (by decide)).trans ((hFvy59 20 (by decide)).trans ((hFvy54 20 (by decide)).trans ((hFvy52 20 (by decide)).trans ((hFvy47 20 (by decide)).trans ((hFvy45 20 (by decide)).trans (fn ((hFvy28 20 (by decide)).trans (fn rfl (by decide))) (by decide)))))))))))))
          have hey156 : Fvy142 21 = F 21 := ((hFvy142 21 (by decide)).trans ((hFvy77 21 (by decide)).trans ((hFvy75 21 (by decide)).trans ((hFvy70 21 (by decide)).trans ((hFvy68 21 (by decide)).trans ((hFvy64 21 (by decide)).trans ((hFvy59 21 (by decide)).trans ((hFvy54 21 (by decide)).trans ((hFvy52 21 (by decide)).trans ((hFvy47 21 (by decide)).trans ((hFvy45 21 (by decide)).trans (fn ((hFvy28 21 (by decide)).trans (fn rfl (by decide))) (by decide)))))))))))))
          have hey157 : Fvy142 23 = F 23 := ((hFvy142 23 (by decide)).trans ((hFvy77 23 (by decide)).trans ((hFvy75 23 (by decide)).trans ((hFvy70 23 (by decide)).trans ((hFvy68 23 (by decide)).trans ((hFvy64 23 (by decide)).trans ((hFvy59 23 (by decide)).trans ((hFvy54 23 (by decide)).trans ((hFvy52 23 (by decide)).trans ((hFvy47 23 (by decide)).trans ((hFvy45 23 (by decide)).trans (fn ((hFvy28 23 (by decide)).trans (fn rfl (by decide))) (by decide)))))))))))))
          have hey158 : Fvy142 25 = F 25 := ((hFvy142 25 (by decide)).trans ((hFvy77 25 (by decide)).trans ((hFvy75 25 (by decide)).trans ((hFvy70 25 (by decide)).trans ((hFvy68 25 (by decide)).trans ((hFvy64 25 (by decide)).trans ((hFvy59 25 (by decide)).trans ((hFvy54 25 (by decide)).trans ((hFvy52 25 (by decide)).trans ((hFvy47 25 (by decide)).trans ((hFvy45 25 (by decide)).trans (fn ((hFvy28 25 (by decide)).trans (fn rfl (by decide))) (by decide)))))))))))))
          have hey159 : Fvy142 27 = F 27 := ((hFvy142 27 (by decide)).trans ((hFvy77 27 (by decide)).trans ((hFvy75 27 (by decide)).trans ((hFvy70 27 (by decide)).trans ((hFvy68 27 (by decide)).trans ((hFvy64 27 (by decide)).trans ((hFvy59 27 (by decide)).trans ((hFvy54 27 (by decide)).trans ((hFvy52 27 (by decide)).trans ((hFvy47 27 (by decide)).trans ((hFvy45 27 (by decide)).trans (fn ((hFvy28 27 (by decide)).trans (fn rfl (by decide))) (by decide)))))))))))))
          have hey160 : Fvy142 28 = F 28 := ((hFvy142 28 (by decide)).trans ((hFvy77 28 (by decide)).trans ((hFvy75 28 (by decide)).trans ((hFvy70 28 (by decide)).trans ((hFvy68 28 (by decide)).trans ((hFvy64 28 (by decide)).trans ((hFvy59 28 (by decide)).trans ((hFvy54 28 (by decide)).trans ((hFvy52 28 (by decide)).trans ((hFvy47 28 (by decide)).trans ((hFvy45 28 (by decide)).trans (fn ((hFvy28 28 (by decide)).trans (fn rfl (by decide))) (by decide)))))))))))))
          have hey161 : Fvy142 29 = F 29 := ((hFvy142 29 (by decide)).trans ((hFvy77 29 (by decide)).trans ((hFvy75 29 (by decide)).trans ((hFvy70 29 (by decide)).trans ((hFvy68 29 (by decide)).trans ((hFvy64 29 (by decide)).trans ((hFvy59 29 (by decide)).trans ((hFvy54 29 (by decide)).trans ((hFvy52 29 (by decide)).trans ((hFvy47 29 (by decide)).trans ((hFvy45 29 (by decide)).trans (fn ((hFvy28 29 (by decide)).trans (fn rfl (by decide))) (by decide)))))))))))))
          have hKy162 : okF Fvy142 := okF.mv hM.2.1 hey148 hey149 hey150 hey151 hey152 hey153 hey154 hey155 hey156 hey157 hey158 hey159 hey160 hey161
          have hgy164 := (hfvy142 (i + 24) (ne_o (i := i) (c := 24) (d := 0) rfl)).trans htvy77
          have hMy163 : okMr cs ad gvy142 i (x + 1) Fvy142 r st op ai fa mu tb tp := okMr.upd hM hcvy142 hKy162 (fun f a => hFy147 f (by omega) (by omega)) hgy146 (hA.mono (by omega)) (fun j a b => by
              by_cases e0 : j = i + 24
              · exact Or.inr ⟨24, _, e0, lsP.l (by decide), by rw [e0]; exact hgy164⟩
              exact Or.inl (by rw [hfvy142 _ (by omega)]; rw [hfvy77 _ (by omega) (by omega)]; rw [hfvy75 _ (by omega) (by omega)]; rw [hfvy70 _ (by omega) (by omega)]; rw [hfvy68 _ (by omega) (by omega)]; rw [hfvy64 _ (by omega) (by omega)]; rw [hfvy59 _ (by omega) (by omega)]; rw [hfvy54 _ (by omega) (by omega)]; rw [hfvy52 _ (by omega) (by omega)]; rw [hfvy47 _ (by omega) (by omega)]; rw [hfvy45 _ (by omega) (by omega)]; rw [egy32, va_up_ne _ _ (by omega)]; rw [hfvy28 _ (by omega)]; rw [egy25, va_up_ne _ _ (by omega)]))
          have hkpy165 : Fvy142 13 = F 13 := ((hFvy142 13 (by decide)).trans ((hFvy77 13 (by decide)).trans ((hFvy75 13 (by decide)).trans ((hFvy70 13 (by decide)).trans ((hFvy68 13 (by decide)).trans ((hFvy64 13 (by decide)).trans ((hFvy59 13 (by decide)).trans ((hFvy54 13 (by decide)).trans ((hFvy52 13 (by decide)).trans ((hFvy47 13 (by decide)).trans ((hFvy45 13 (by decide)).trans (fn ((hFvy28 13 (by decide)).trans (fn rfl (by decide))) (by decide)))))))))))))
          have hkpy166 : Fvy142 14 = F 14 := ((hFvy142 14 (by decide)).trans ((hFvy77 14 (by decide)).trans ((hFvy75 14 (by decide)).trans ((hFvy70 14 (by decide)).trans ((hFvy68 14 (by decide)).trans ((hFvy64 14 (by decide)).trans ((hFvy59 14 (by decide)).trans ((hFvy54 14 (by decide)).trans ((hFvy52 14 (by decide)).trans ((hFvy47 14 (by decide)).trans ((hFvy45 14 (by decide)).trans (fn ((hFvy28 14 (by decide)).trans (fn rfl (by decide))) (by decide)))))))))))))
          have hkpy167 : Fvy142 17 = F 17 := ((hFvy142 17 (by decide)).trans ((hFvy77 17 (by decide)).trans ((hFvy75 17 (by decide)).trans ((hFvy70 17 (by decide)).trans ((hFvy68 17 (by decide)).trans ((hFvy64 17 (by decide)).trans ((hFvy59 17 (by decide)).trans ((hFvy54 17 (by decide)).trans ((hFvy52 17 (by decide)).trans ((hFvy47 17 (by decide)).trans ((hFvy45 17 (by decide)).trans (fn ((hFvy28 17 (by decide)).trans (fn rfl (by decide))) (by decide)))))))))))))
          have hkpy168 : Fvy142 20 = F 20 := ((hFvy142 20 (by decide)).trans ((hFvy77 20 (by decide)).trans ((hFvy75 20 (by decide)).trans ((hFvy70 20 (by decide)).trans ((hFvy68 20 (by decide)).trans ((hFvy64 20 (by decide)).trans ((hFvy59 20 (by decide)).trans ((hFvy54 20 (by decide)).trans ((hFvy52 20 (by decide)).trans ((hFvy47 20 (by decide)).trans ((hFvy45 20 (by decide)).trans (fn ((hFvy28 20 (by decide)).trans (fn rfl (by decide))) (by decide)))))))))))))
          have hkpy169 : Fvy142 21 = F 21 := ((hFvy142 21 (by decide)).trans ((hFvy77 21 (by decide)).trans ((hFvy75 21 (by decide)).trans ((hFvy70 21 (by decide)).trans ((hFvy68 21 (by decide)).trans ((hFvy64 21 (by decide)).trans ((hFvy59 21 (by decide)).trans ((hFvy54 21 (by decide)).trans ((hFvy52 21 (by decide)).trans ((hFvy47 21 (by decide)).trans ((hFvy45 21 (by decide)).trans (fn ((hFvy28 21 (by decide)).trans (fn rfl (by decide))) (by decide)))))))))))))
          have hkpy170 : Fvy142 23 = F 23 := ((hFvy142 23 (by decide)).trans ((hFvy77 23 (by decide)).trans ((hFvy75 23 (by decide)).trans ((hFvy70 23 (by decide)).trans ((hFvy68 23 (by decide)).trans ((hFvy64 23 (by decide)).trans ((hFvy59 23 (by decide)).trans ((hFvy54 23 (by decide)).trans ((hFvy52 23 (by decide)).trans ((hFvy47 23 (by decide)).trans ((hFvy45 23 (by decide)).trans (fn ((hFvy28 23 (by decide)).trans (fn rfl (by decide))) (by decide)))))))))))))
          have hkpy171 : Fvy142 24 = F 24 := ((hFvy142 24 (by decide)).trans ((hFvy77 24 (by decide)).trans ((hFvy75 24 (by decide)).trans ((hFvy70 24 (by decide)).trans ((hFvy68 24 (by decide)).trans ((hFvy64 24 (by decide)).trans ((hFvy59 24 (by decide)).trans ((hFvy54 24 (by decide)).trans ((hFvy52 24 (by decide)).trans ((hFvy47 24 (by decide)).trans ((hFvy45 24 (by decide)).trans (fn ((hFvy28 24 (by decide)).trans (fn rfl (by decide))) (by decide)))))))))))))
          exact z_iret C hr hlk dX10_told_210 (by decide) (by decide) ⟨0, rfl, rfl, rfl, by omega, ⟨_, _, hMy163, ⟨hkpy165, hkpy166, hkpy167, hkpy168, hkpy169, hkpy170, hkpy171⟩⟩, fun j j1 => by rw [hfvy142 _ (by omega)]; rw [hfvy77 _ (by omega) (by omega)]; rw [hfvy75 _ (by omega) (by omega)]; rw [hfvy70 _ (by omega) (by omega)]; rw [hfvy68 _ (by omega) (by omega)]; rw [hfvy64 _ (by omega) (by omega)]; rw [hfvy59 _ (by omega) (by omega)]; rw [hfvy54 _ (by omega) (by omega)]; rw [hfvy52 _ (by omega) (by omega)]; rw [hfvy47 _ (by omega) (by omega)]; rw [hfvy45 _ (by omega) (by omega)]; rw [egy32, va_up_ne _ _ (by omega)]; rw [hfvy28 _ (by omega)]; rw [egy25, va_up_ne _ _ (by omega)]⟩
      · refine z_aload_n C 0 dX10_told_176 rfl ?_
        refine z_get (v := .int (zI (Fvy75 51 + 1))) C (lt_A0 hN rfl) hay1 hcvy77 rfl inA_X10 51 (by decide) q_1510 rfl (fv (F := Fvy77) (f := 51) hqvy77) dX10_told_177 ?_
        have hgy172 := (hfvy75 (i + 1) (ne_o (i := i) (c := 1) (d := 0) rfl) (ne_o (i := i) (c := 1) (d := 24) rfl)).trans hgy73
        have hgy173 := (hfvy77 (i + 1) (ne_o (i := i) (c := 1) (d := 0) rfl) (ne_o (i := i) (c := 1) (d := 24) rfl)).trans hgy172
        have hFy174 : ∀ f, f ≠ 12 → f ≠ 51 → Fvy77 f = F f := fun f n12 n51 => ((hFvy77 f n51).trans ((hFvy75 f n51).trans ((hFvy70 f n51).trans ((hFvy68 f n51).trans ((hFvy64 f n51).trans ((hFvy59 f n51).trans ((hFvy54 f n51).trans ((hFvy52 f n51).trans ((hFvy47 f n51).trans ((hFvy45 f n51).trans ((uZ_n _ _ n51).trans ((hFvy28 f n12).trans ((uZ_n _ _ n12).trans rfl)))))))))))))
        have hey175 : Fvy77 13 = F 13 := ((hFvy77 13 (by decide)).trans ((hFvy75 13 (by decide)).trans ((hFvy70 13 (by decide)).trans ((hFvy68 13 (by decide)).trans ((hFvy64 13 (by decide)).trans ((hFvy59 13 (by decide)).trans ((hFvy54 13 (by decide)).trans ((hFvy52 13 (by decide)).trans ((hFvy47 13 (by decide)).trans ((hFvy45 13 (by decide)).trans (fn ((hFvy28 13 (by decide)).trans (fn rfl (by decide))) (by decide))))))))))))
        have hey176 : Fvy77 14 = F 14 := ((hFvy77 14 (by decide)).trans ((hFvy75 14 (by decide)).trans ((hFvy70 14 (by decide)).trans ((hFvy68 14 (by decide)).trans ((hFvy64 14 (by decide)).trans ((hFvy59 14 (by decide)).trans ((hFvy54 14 (by decide)).trans ((hFvy52 14 (by decide)).trans ((hFvy47 14 (by decide)).trans ((hFvy45 14 (by decide)).trans (fn ((hFvy28 14 (by decide)).trans (fn rfl (by decide))) (by decide))))))))))))
        have hey177 : Fvy77 15 = F 15 := ((hFvy77 15 (by decide)).trans ((hFvy75 15 (by decide)).trans ((hFvy70 15 (by decide)).trans ((hFvy68 15 (by decide)).trans ((hFvy64 15 (by decide)).trans ((hFvy59 15 (by decide)).trans ((hFvy54 15 (by decide)).trans ((hFvy52 15 (by decide)).trans ((hFvy47 15 (by decide)).trans ((hFvy45 15 (by decide)).trans (fn ((hFvy28 15 (by decide)).trans (fn rfl (by decide))) (by decide))))))))))))
        have hey178 : Fvy77 16 = F 16 := ((hFvy77 16 (by decide)).trans ((hFvy75 16 (by decide)).trans ((hFvy70 16 (by decide)).trans ((hFvy68 16 (by decide)).trans ((hFvy64 16 (by decide)).trans ((hFvy59 16 (by decide)).trans ((hFvy54 16 (by decide)).trans ((hFvy52 16 (by decide)).trans ((hFvy47 16 (by decide)).trans ((hFvy45 16 (by decide)).trans (fn ((hFvy28 16 (by decide)).trans (fn rfl (by decide))) (by decide))))))))))))
        have hey179 : Fvy77 17 = F 17 := ((hFvy77 17 (by decide)).trans ((hFvy75 17 (by decide)).trans ((hFvy70 17 (by decide)).trans ((hFvy68 17 (by decide)).trans ((hFvy64 17 (by decide)).trans ((hFvy59 17 (by decide)).trans ((hFvy54 17 (by decide)).trans ((hFvy52 17 (by decide)).trans ((hFvy47 17 (by decide)).trans ((hFvy45 17 (by decide)).trans (fn ((hFvy28 17 (by decide)).trans (fn rfl (by decide))) (by decide))))))))))))
        have hey180 : Fvy77 18 = F 18 := ((hFvy77 18 (by decide)).trans ((hFvy75 18 (by decide)).trans ((hFvy70 18 (by decide)).trans ((hFvy68 18 (by decide)).trans ((hFvy64 18 (by decide)).trans ((hFvy59 18 (by decide)).trans ((hFvy54 18 (by decide)).trans ((hFvy52 18 (by decide)).trans ((hFvy47 18 (by decide)).trans ((hFvy45 18 (by decide)).trans (fn ((hFvy28 18 (by decide)).trans (fn rfl (by decide))) (by decide))))))))))))
        have hey181 : Fvy77 19 = F 19 := ((hFvy77 19 (by decide)).trans ((hFvy75 19 (by decide)).trans ((hFvy70 19 (by decide)).trans ((hFvy68 19 (by decide)).trans ((hFvy64 19 (by decide)).trans ((hFvy59 19 (by decide)).trans ((hFvy54 19 (by decide)).trans ((hFvy52 19 (by decide)).trans ((hFvy47 19 (by decide)).trans ((hFvy45 19 (by decide)).trans (fn ((hFvy28 19 (by decide)).trans (fn rfl (by decide))) (by decide))))))))))))
        have hey182 : Fvy77 20 = F 20 := ((hFvy77 20 (by decide)).trans ((hFvy75 20 (by decide)).trans ((hFvy70 20 (by decide)).trans ((hFvy68 20 (by decide)).trans ((hFvy64 20 (by decide)).trans ((hFvy59 20 (by decide)).trans ((hFvy54 20 (by decide)).trans ((hFvy52 20 (by decide)).trans ((hFvy47 20 (by decide)).trans ((hFvy45 20 (by decide)).trans (fn ((hFvy28 20 (by decide)).trans (fn rfl (by decide))) (by decide))))))))))))
        have hey183 : Fvy77 21 = F 21 := ((hFvy77 21 (by decide)).trans ((hFvy75 21 (by decide)).trans ((hFvy70 21 (by decide)).trans ((hFvy68 21 (by decide)).trans ((hFvy64 21 (by decide)).trans ((hFvy59 21 (by decide)).trans ((hFvy54 21 (by decide)).trans ((hFvy52 21 (by decide)).trans ((hFvy47 21 (by decide)).trans ((hFvy45 21 (by decide)).trans (fn ((hFvy28 21 (by decide)).trans (fn rfl (by decide))) (by decide))))))))))))
        have hey184 : Fvy77 23 = F 23 := ((hFvy77 23 (by decide)).trans ((hFvy75 23 (by decide)).trans ((hFvy70 23 (by decide)).trans ((hFvy68 23 (by decide)).trans ((hFvy64 23 (by decide)).trans ((hFvy59 23 (by decide)).trans ((hFvy54 23 (by decide)).trans ((hFvy52 23 (by decide)).trans ((hFvy47 23 (by decide)).trans ((hFvy45 23 (by decide)).trans (fn ((hFvy28 23 (by decide)).trans (fn rfl (by decide))) (by decide))))))))))))
        have hey185 : Fvy77 25 = F 25 := ((hFvy77 25 (by decide)).trans ((hFvy75 25 (by decide)).trans ((hFvy70 25 (by decide)).trans ((hFvy68 25 (by decide)).trans ((hFvy64 25 (by decide)).trans ((hFvy59 25 (by decide)).trans ((hFvy54 25 (by decide)).trans ((hFvy52 25 (by decide)).trans ((hFvy47 25 (by decide)).trans ((hFvy45 25 (by decide)).trans (fn ((hFvy28 25 (by decide)).trans (fn rfl (by decide))) (by decide))))))))))))
        have hey186 : Fvy77 27 = F 27 := ((hFvy77 27 (by decide)).trans ((hFvy75 27 (by decide)).trans ((hFvy70 27 (by decide)).trans ((hFvy68 27 (by decide)).trans ((hFvy64 27 (by decide)).trans ((hFvy59 27 (by decide)).trans ((hFvy54 27 (by decide)).trans ((hFvy52 27 (by decide)).trans ((hFvy47 27 (by decide)).trans ((hFvy45 27 (by decide)).trans (fn ((hFvy28 27 (by decide)).trans (fn rfl (by decide))) (by decide))))))))))))
        have hey187 : Fvy77 28 = F 28 := ((hFvy77 28 (by decide)).trans ((hFvy75 28 (by decide)).trans ((hFvy70 28 (by decide)).trans ((hFvy68 28 (by decide)).trans ((hFvy64 28 (by decide)).trans ((hFvy59 28 (by decide)).trans ((hFvy54 28 (by decide)).trans ((hFvy52 28 (by decide)).trans ((hFvy47 28 (by decide)).trans ((hFvy45 28 (by decide)).trans (fn ((hFvy28 28 (by decide)).trans (fn rfl (by decide))) (by decide))))))))))))
        have hey188 : Fvy77 29 = F 29 := ((hFvy77 29 (by decide)).trans ((hFvy75 29 (by decide)).trans ((hFvy70 29 (by decide)).trans ((hFvy68 29 (by decide)).trans ((hFvy64 29 (by decide)).trans ((hFvy59 29 (by decide)).trans ((hFvy54 29 (by decide)).trans ((hFvy52 29 (by decide)).trans ((hFvy47 29 (by decide)).trans ((hFvy45 29 (by decide)).trans (fn ((hFvy28 29 (by decide)).trans (fn rfl (by decide))) (by decide))))))))))))
        have hKy189 : okF Fvy77 := okF.mv hM.2.1 hey175 hey176 hey177 hey178 hey179 hey180 hey181 hey182 hey183 hey184 hey185 hey186 hey187 hey188
        have hMy190 : okMr cs ad gvy77 i (x + 1) Fvy77 r st op ai fa mu tb tp := okMr.upd hM hcvy77 hKy189 (fun f a => hFy174 f (by omega) (by omega)) hgy173 (hA.mono (by omega)) (fun j a b => by
            by_cases e0 : j = i + 24
            · exact Or.inr ⟨24, _, e0, lsP.l (by decide), by rw [e0]; exact htvy77⟩
            exact Or.inl (by rw [hfvy77 _ (by omega) (by omega)]; rw [hfvy75 _ (by omega) (by omega)]; rw [hfvy70 _ (by omega) (by omega)]; rw [hfvy68 _ (by omega) (by omega)]; rw [hfvy64 _ (by omega) (by omega)]; rw [hfvy59 _ (by omega) (by omega)]; rw [hfvy54 _ (by omega) (by omega)]; rw [hfvy52 _ (by omega) (by omega)]; rw [hfvy47 _ (by omega) (by omega)]; rw [hfvy45 _ (by omega) (by omega)]; rw [egy32, va_up_ne _ _ (by omega)]; rw [hfvy28 _ (by omega)]; rw [egy25, va_up_ne _ _ (by omega)]))
        have hkpy191 : Fvy77 13 = F 13 := ((hFvy77 13 (by decide)).trans ((hFvy75 13 (by decide)).trans ((hFvy70 13 (by decide)).trans ((hFvy68 13 (by decide)).trans ((hFvy64 13 (by decide)).trans ((hFvy59 13 (by decide)).trans ((hFvy54 13 (by decide)).trans ((hFvy52 13 (by decide)).trans ((hFvy47 13 (by decide)).trans ((hFvy45 13 (by decide)).trans (fn ((hFvy28 13 (by decide)).trans (fn rfl (by decide))) (by decide))))))))))))
        have hkpy192 : Fvy77 14 = F 14 := ((hFvy77 14 (by decide)).trans ((hFvy75 14 (by decide)).trans ((hFvy70 14 (by decide)).trans ((hFvy68 14 (by decide)).trans ((hFvy64 14 (by decide)).trans ((hFvy59 14 (by decide)).trans ((hFvy54 14 (by decide)).trans ((hFvy52 14 (by decide)).trans ((hFvy47 14 (by decide)).trans ((hFvy45 14 (by decide)).trans (fn ((hFvy28 14 (by decide)).trans (fn rfl (by decide))) (by decide))))))))))))
        have hkpy193 : Fvy77 17 = F 17 := ((hFvy77 17 (by decide)).trans ((hFvy75 17 (by decide)).trans ((hFvy70 17 (by decide)).trans ((hFvy68 17 (by decide)).trans ((hFvy64 17 (by decide)).trans ((hFvy59 17 (by decide)).trans ((hFvy54 17 (by decide)).trans ((hFvy52 17 (by decide)).trans ((hFvy47 17 (by decide)).trans ((hFvy45 17 (by decide)).trans (fn ((hFvy28 17 (by decide)).trans (fn rfl (by decide))) (by decide))))))))))))
        have hkpy194 : Fvy77 20 = F 20 := ((hFvy77 20 (by decide)).trans ((hFvy75 20 (by decide)).trans ((hFvy70 20 (by decide)).trans ((hFvy68 20 (by decide)).trans ((hFvy64 20 (by decide)).trans ((hFvy59 20 (by decide)).trans ((hFvy54 20 (by decide)).trans ((hFvy52 20 (by decide)).trans ((hFvy47 20 (by decide)).trans ((hFvy45 20 (by decide)).trans (fn ((hFvy28 20 (by decide)).trans (fn rfl (by decide))) (by decide))))))))))))
        have hkpy195 : Fvy77 21 = F 21 := ((hFvy77 21 (by decide)).trans ((hFvy75 21 (by decide)).trans ((hFvy70 21 (by decide)).trans ((hFvy68 21 (by decide)).trans ((hFvy64 21 (by decide)).trans ((hFvy59 21 (by decide)).trans ((hFvy54 21 (by decide)).trans ((hFvy52 21 (by decide)).trans ((hFvy47 21 (by decide)).trans ((hFvy45 21 (by decide)).trans (fn ((hFvy28 21 (by decide)).trans (fn rfl (by decide))) (by decide))))))))))))
        have hkpy196 : Fvy77 23 = F 23 := ((hFvy77 23 (by decide)).trans ((hFvy75 23 (by decide)).trans ((hFvy70 23 (by decide)).trans ((hFvy68 23 (by decide)).trans ((hFvy64 23 (by decide)).trans ((hFvy59 23 (by decide)).trans ((hFvy54 23 (by decide)).trans ((hFvy52 23 (by decide)).trans ((hFvy47 23 (by decide)).trans ((hFvy45 23 (by decide)).trans (fn ((hFvy28 23 (by decide)).trans (fn rfl (by decide))) (by decide))))))))))))
        have hkpy197 : Fvy77 24 = F 24 := ((hFvy77 24 (by decide)).trans ((hFvy75 24 (by decide)).trans ((hFvy70 24 (by decide)).trans ((hFvy68 24 (by decide)).trans ((hFvy64 24 (by decide)).trans ((hFvy59 24 (by decide)).trans ((hFvy54 24 (by decide)).trans ((hFvy52 24 (by decide)).trans ((hFvy47 24 (by decide)).trans ((hFvy45 24 (by decide)).trans (fn ((hFvy28 24 (by decide)).trans (fn rfl (by decide))) (by decide))))))))))))
        exact z_iret C hr hlk dX10_told_180 (by decide) (by decide) ⟨Fvy75 51 + 1, rfl, rfl, rfl, by omega, ⟨_, _, hMy190, ⟨hkpy191, hkpy192, hkpy193, hkpy194, hkpy195, hkpy196, hkpy197⟩⟩, fun j j1 => by rw [hfvy77 _ (by omega) (by omega)]; rw [hfvy75 _ (by omega) (by omega)]; rw [hfvy70 _ (by omega) (by omega)]; rw [hfvy68 _ (by omega) (by omega)]; rw [hfvy64 _ (by omega) (by omega)]; rw [hfvy59 _ (by omega) (by omega)]; rw [hfvy54 _ (by omega) (by omega)]; rw [hfvy52 _ (by omega) (by omega)]; rw [hfvy47 _ (by omega) (by omega)]; rw [hfvy45 _ (by omega) (by omega)]; rw [egy32, va_up_ne _ _ (by omega)]; rw [hfvy28 _ (by omega)]; rw [egy25, va_up_ne _ _ (by omega)]⟩
    · refine z_aload_n C 0 dX10_told_83 rfl ?_
      refine z_bipush (z := 32) C dX10_told_84 (by decide) ?_
      have hey199 : Fvy59 51 = Fvy59 51 := rfl
      refine z_cV (As := [.int (zI (32))]) (rest := []) (ci := 12) C (c_X10_says l D A cs tt N ad _ i hN _ hcvy59 _ htvy59 (by omega) (32)) (lt_A0 hN rfl) hay1 hcvy59 rfl rfl mv_yX10_says q_1850 hd_yX10_says (by decide) (Nat.le_of_ble_eq_true rfl) (by decide) dX10_told_86 rfl (kV0 fun gvy198 hvy198 => ?_)
      obtain ⟨⟨Fvy198, hcvy198, hnvy198, hFvy198⟩, ⟨tvy198, htvy198⟩, hfvy198⟩ := hvy198
      have hovy198 : Fvy59 51 = Fvy59 51 := rfl
      have hqvy198 : Fvy198 51 = Fvy59 51 + 1 := by omega
      clear hnvy198 hovy198
      refine z_aload_n C 0 dX10_told_89 rfl ?_
      refine z_bipush (z := 119) C dX10_told_90 (by decide) ?_
      have hey201 : Fvy198 51 = Fvy59 51 + 1 := hqvy198
      refine z_cV (As := [.int (zI (119))]) (rest := []) (ci := 12) C (c_X10_says l D A cs tt N ad _ i hN _ hcvy198 _ htvy198 (by omega) (119)) (lt_A0 hN rfl) hay1 hcvy198 rfl rfl mv_yX10_says q_1850 hd_yX10_says (by decide) (Nat.le_of_ble_eq_true rfl) (by decide) dX10_told_92 rfl (kV0 fun gvy200 hvy200 => ?_)
      obtain ⟨⟨Fvy200, hcvy200, hnvy200, hFvy200⟩, ⟨tvy200, htvy200⟩, hfvy200⟩ := hvy200
      have hovy200 : Fvy198 51 = Fvy59 51 + 1 := hqvy198
      have hqvy200 : Fvy200 51 = Fvy59 51 + 2 := by omega
      clear hnvy200 hovy200
      refine z_aload_n C 0 dX10_told_95 rfl ?_
      refine z_bipush (z := 101) C dX10_told_96 (by decide) ?_
      have hey203 : Fvy200 51 = Fvy59 51 + 2 := hqvy200
      refine z_cV (As := [.int (zI (101))]) (rest := []) (ci := 12) C (c_X10_says l D A cs tt N ad _ i hN _ hcvy200 _ htvy200 (by omega) (101)) (lt_A0 hN rfl) hay1 hcvy200 rfl rfl mv_yX10_says q_1850 hd_yX10_says (by decide) (Nat.le_of_ble_eq_true rfl) (by decide) dX10_told_98 rfl (kV0 fun gvy202 hvy202 => ?_)
      obtain ⟨⟨Fvy202, hcvy202, hnvy202, hFvy202⟩, ⟨tvy202, htvy202⟩, hfvy202⟩ := hvy202
      have hovy202 : Fvy200 51 = Fvy59 51 + 2 := hqvy200
      have hqvy202 : Fvy202 51 = Fvy59 51 + 3 := by omega
      clear hnvy202 hovy202
      refine z_aload_n C 0 dX10_told_101 rfl ?_
      refine z_bipush (z := 116) C dX10_told_102 (by decide) ?_
      have hey205 : Fvy202 51 = Fvy59 51 + 3 := hqvy202
      refine z_cV (As := [.int (zI (116))]) (rest := []) (ci := 12) C (c_X10_says l D A cs tt N ad _ i hN _ hcvy202 _ htvy202 (by omega) (116)) (lt_A0 hN rfl) hay1 hcvy202 rfl rfl mv_yX10_says q_1850 hd_yX10_says (by decide) (Nat.le_of_ble_eq_true rfl) (by decide) dX10_told_104 rfl (kV0 fun gvy204 hvy204 => ?_)
      obtain ⟨⟨Fvy204, hcvy204, hnvy204, hFvy204⟩, ⟨tvy204, htvy204⟩, hfvy204⟩ := hvy204
      have hovy204 : Fvy202 51 = Fvy59 51 + 3 := hqvy202
      have hqvy204 : Fvy204 51 = Fvy59 51 + 4 := by omega
      clear hnvy204 hovy204
      refine z_aload_n C 0 dX10_told_107 rfl ?_
      refine z_bipush (z := 32) C dX10_told_108 (by decide) ?_
      have hey207 : Fvy204 51 = Fvy59 51 + 4 := hqvy204
      refine z_cV (As := [.int (zI (32))]) (rest := []) (ci := 12) C (c_X10_says l D A cs tt N ad _ i hN _ hcvy204 _ htvy204 (by omega) (32)) (lt_A0 hN rfl) hay1 hcvy204 rfl rfl mv_yX10_says q_1850 hd_yX10_says (by decide) (Nat.le_of_ble_eq_true rfl) (by decide) dX10_told_110 rfl (kV0 fun gvy206 hvy206 => ?_)
      obtain ⟨⟨Fvy206, hcvy206, hnvy206, hFvy206⟩, ⟨tvy206, htvy206⟩, hfvy206⟩ := hvy206
      have hovy206 : Fvy204 51 = Fvy59 51 + 4 := hqvy204
      have hqvy206 : Fvy206 51 = Fvy59 51 + 5 := by omega
      clear hnvy206 hovy206
      refine z_aload_n C 0 dX10_told_113 rfl ?_
      refine z_aload_n C 0 dX10_told_114 rfl ?_
      refine z_iconst (z := 0) C dX10_told_115 rfl ?_
      refine z_iload_n C 1 dX10_told_116 rfl ?_
      refine z_iload_n C 2 dX10_told_117 rfl ?_
      refine z_iconst (z := 2) C dX10_told_118 rfl ?_
      have hgy208 := (hfvy198 (i + 1) (ne_o (i := i) (c := 1) (d := 0) rfl) (ne_o (i := i) (c := 1) (d := 24) rfl)).trans hgy61
      have hgy209 := (hfvy200 (i + 1) (ne_o (i := i) (c := 1) (d := 0) rfl) (ne_o (i := i) (c := 1) (d := 24) rfl)).trans hgy208
      have hgy210 := (hfvy202 (i + 1) (ne_o (i := i) (c := 1) (d := 0) rfl) (ne_o (i := i) (c := 1) (d := 24) rfl)).trans hgy209
      have hgy211 := (hfvy204 (i + 1) (ne_o (i := i) (c := 1) (d := 0) rfl) (ne_o (i := i) (c := 1) (d := 24) rfl)).trans hgy210
      have hgy212 := (hfvy206 (i + 1) (ne_o (i := i) (c := 1) (d := 0) rfl) (ne_o (i := i) (c := 1) (d := 24) rfl)).trans hgy211
      refine z_cV (As := [.int (zI (0)), .int (zI ((n : Int))), .int (zI (z1)), .int (zI (2))]) (rest := [.ref (ad i)]) (ci := 12) C (c_X10_of l D A cs tt N ad _ i hN _ hcvy206 _ hgy212 0 n py30 hpy30 (by omega) (by omega) (z1) (2) (qy37 + 2) (by omega) (by omega) (by omega)) (lt_A0 hN rfl) hay1 hcvy206 rfl rfl mv_yX10_of q_1749 hd_yX10_of (by decide) (Nat.le_of_ble_eq_true rfl) (by decide) dX10_told_119 rfl (kI0 fun vy213 gvy213 hvy213 => ?_)
      obtain ⟨rfl, rfl⟩ := hvy213
      have hey215 : Fvy206 51 = Fvy59 51 + 5 := hqvy206
      refine z_cV (As := [.int (zI (r (qy37 + 2)))]) (rest := []) (ci := 12) C (c_X10_saysNumber9 l D A cs tt N ad _ i hN _ hcvy206 _ htvy206 (by omega) (r (qy37 + 2)) (by omega)) (lt_A0 hN rfl) hay1 hcvy206 rfl rfl mv_yX10_saysNumber q_1846 hd_yX10_saysNumber (by decide) (Nat.le_of_ble_eq_true rfl) (by decide) dX10_told_122 rfl (kV0 fun gvy214 hvy214 => ?_)
      obtain ⟨⟨Fvy214, hcvy214, hnvy214, hFvy214⟩, ⟨tvy214, htvy214⟩, hfvy214⟩ := hvy214
      have hovy214 : Fvy206 51 = Fvy59 51 + 5 := hqvy206
      refine z_aload_n C 0 dX10_told_125 rfl ?_
      refine z_bipush (z := 105) C dX10_told_126 (by decide) ?_
      refine z_bipush (z := 110) C dX10_told_128 (by decide) ?_
      have hey217 : Fvy214 51 = Fvy214 51 := rfl
      refine z_cV (As := [.int (zI (105)), .int (zI (110))]) (rest := []) (ci := 12) C (c_X10_saysWord l D A cs tt N ad _ i hN _ hcvy214 _ htvy214 (by omega) (105) (110)) (lt_A0 hN rfl) hay1 hcvy214 rfl rfl mv_yX10_saysWord q_1858 hd_yX10_saysWord (by decide) (Nat.le_of_ble_eq_true rfl) (by decide) dX10_told_130 rfl (kV0 fun gvy216 hvy216 => ?_)
      obtain ⟨⟨Fvy216, hcvy216, hnvy216, hFvy216⟩, ⟨tvy216, htvy216⟩, hfvy216⟩ := hvy216
      have hovy216 : Fvy214 51 = Fvy214 51 := rfl
      have hqvy216 : Fvy216 51 = Fvy214 51 + 4 := by omega
      clear hnvy216 hovy216
      refine z_aload_n C 0 dX10_told_133 rfl ?_
      refine z_aload_n C 0 dX10_told_134 rfl ?_
      refine z_iconst (z := 0) C dX10_told_135 rfl ?_
      refine z_iload_n C 1 dX10_told_136 rfl ?_
      refine z_iload_n C 2 dX10_told_137 rfl ?_
      refine z_iconst (z := 3) C dX10_told_138 rfl ?_
      have hgy218 := (hfvy214 (i + 1) (ne_o (i := i) (c := 1) (d := 0) rfl) (ne_o (i := i) (c := 1) (d := 24) rfl)).trans hgy212
      have hgy219 := (hfvy216 (i + 1) (ne_o (i := i) (c := 1) (d := 0) rfl) (ne_o (i := i) (c := 1) (d := 24) rfl)).trans hgy218
      refine z_cV (As := [.int (zI (0)), .int (zI ((n : Int))), .int (zI (z1)), .int (zI (3))]) (rest := [.ref (ad i)]) (ci := 12) C (c_X10_of l D A cs tt N ad _ i hN _ hcvy216 _ hgy219 0 n py30 hpy30 (by omega) (by omega) (z1) (3) (qy37 + 3) (by omega) (by omega) (by omega)) (lt_A0 hN rfl) hay1 hcvy216 rfl rfl mv_yX10_of q_1749 hd_yX10_of (by decide) (Nat.le_of_ble_eq_true rfl) (by decide) dX10_told_139 rfl (kI0 fun vy220 gvy220 hvy220 => ?_)
      obtain ⟨rfl, rfl⟩ := hvy220
      have hey222 : Fvy216 51 = Fvy214 51 + 4 := hqvy216
      refine z_cV (As := [.int (zI (r (qy37 + 3)))]) (rest := []) (ci := 12) C (c_X10_saysNumber9 l D A cs tt N ad _ i hN _ hcvy216 _ htvy216 (by omega) (r (qy37 + 3)) (by omega)) (lt_A0 hN rfl) hay1 hcvy216 rfl rfl mv_yX10_saysNumber q_1846 hd_yX10_saysNumber (by decide) (Nat.le_of_ble_eq_true rfl) (by decide) dX10_told_142 rfl (kV0 fun gvy221 hvy221 => ?_)
      obtain ⟨⟨Fvy221, hcvy221, hnvy221, hFvy221⟩, ⟨tvy221, htvy221⟩, hfvy221⟩ := hvy221
      have hovy221 : Fvy216 51 = Fvy214 51 + 4 := hqvy216
      refine z_aload_n C 0 dX10_told_145 rfl ?_
      refine z_bipush (z := 97) C dX10_told_146 (by decide) ?_
      refine z_bipush (z := 116) C dX10_told_148 (by decide) ?_
      have hey224 : Fvy221 51 = Fvy221 51 := rfl
      refine z_cV (As := [.int (zI (97)), .int (zI (116))]) (rest := []) (ci := 12) C (c_X10_saysWord l D A cs tt N ad _ i hN _ hcvy221 _ htvy221 (by omega) (97) (116)) (lt_A0 hN rfl) hay1 hcvy221 rfl rfl mv_yX10_saysWord q_1858 hd_yX10_saysWord (by decide) (Nat.le_of_ble_eq_true rfl) (by decide) dX10_told_150 rfl (kV0 fun gvy223 hvy223 => ?_)
      obtain ⟨⟨Fvy223, hcvy223, hnvy223, hFvy223⟩, ⟨tvy223, htvy223⟩, hfvy223⟩ := hvy223
      have hovy223 : Fvy221 51 = Fvy221 51 := rfl
      have hqvy223 : Fvy223 51 = Fvy221 51 + 4 := by omega
      clear hnvy223 hovy223
      refine z_aload_n C 0 dX10_told_153 rfl ?_
      refine z_aload_n C 0 dX10_told_154 rfl ?_
      refine z_iconst (z := 0) C dX10_told_155 rfl ?_
      refine z_iload_n C 1 dX10_told_156 rfl ?_
      refine z_iload_n C 2 dX10_told_157 rfl ?_
      refine z_iconst (z := 4) C dX10_told_158 rfl ?_
      have hgy225 := (hfvy221 (i + 1) (ne_o (i := i) (c := 1) (d := 0) rfl) (ne_o (i := i) (c := 1) (d := 24) rfl)).trans hgy219
      have hgy226 := (hfvy223 (i + 1) (ne_o (i := i) (c := 1) (d := 0) rfl) (ne_o (i := i) (c := 1) (d := 24) rfl)).trans hgy225
      refine z_cV (As := [.int (zI (0)), .int (zI ((n : Int))), .int (zI (z1)), .int (zI (4))]) (rest := [.ref (ad i)]) (ci := 12) C (c_X10_of l D A cs tt N ad _ i hN _ hcvy223 _ hgy226 0 n py30 hpy30 (by omega) (by omega) (z1) (4) (qy37 + 4) (by omega) (by omega) (by omega)) (lt_A0 hN rfl) hay1 hcvy223 rfl rfl mv_yX10_of q_1749 hd_yX10_of (by decide) (Nat.le_of_ble_eq_true rfl) (by decide) dX10_told_159 rfl (kI0 fun vy227 gvy227 hvy227 => ?_)
      obtain ⟨rfl, rfl⟩ := hvy227
      have hey229 : Fvy223 51 = Fvy221 51 + 4 := hqvy223
      refine z_cV (As := [.int (zI (r (qy37 + 4)))]) (rest := []) (ci := 12) C (c_X10_saysNumber5 l D A cs tt N ad _ i hN _ hcvy223 _ htvy223 (by omega) (r (qy37 + 4)) (by omega)) (lt_A0 hN rfl) hay1 hcvy223 rfl rfl mv_yX10_saysNumber q_1846 hd_yX10_saysNumber (by decide) (Nat.le_of_ble_eq_true rfl) (by decide) dX10_told_162 rfl (kV0 fun gvy228 hvy228 => ?_)
      obtain ⟨⟨Fvy228, hcvy228, hnvy228, hFvy228⟩, ⟨tvy228, htvy228⟩, hfvy228⟩ := hvy228
      have hovy228 : Fvy223 51 = Fvy221 51 + 4 := hqvy223
      refine z_aload_n C 0 dX10_told_165 rfl ?_
      refine z_bipush (z := 59) C dX10_told_166 (by decide) ?_
      have hey231 : Fvy228 51 = Fvy228 51 := rfl
      refine z_cV (As := [.int (zI (59))]) (rest := []) (ci := 12) C (c_X10_says l D A cs tt N ad _ i hN _ hcvy228 _ htvy228 (by omega) (59)) (lt_A0 hN rfl) hay1 hcvy228 rfl rfl mv_yX10_says q_1850 hd_yX10_says (by decide) (Nat.le_of_ble_eq_true rfl) (by decide) dX10_told_168 rfl (kV0 fun gvy230 hvy230 => ?_)
      obtain ⟨⟨Fvy230, hcvy230, hnvy230, hFvy230⟩, ⟨tvy230, htvy230⟩, hfvy230⟩ := hvy230
      have hovy230 : Fvy228 51 = Fvy228 51 := rfl
      have hqvy230 : Fvy230 51 = Fvy228 51 + 1 := by omega
      clear hnvy230 hovy230
      refine z_iload_n C 3 dX10_told_171 rfl ?_
      refine z_iconst (z := -1) C dX10_told_172 rfl ?_
      refine z_icmp_ne (tgt := 181) C dX10_told_173 (by decide) (by omega) (by omega) (fun hby232 => ?_) (fun hby232 => ?_)
      · refine z_aload_n C 0 dX10_told_181 rfl ?_
        refine z_iload_n C 3 dX10_told_182 rfl ?_
        refine z_iconst (z := 0) C dX10_told_183 rfl ?_
        refine z_aload_n C 0 dX10_told_184 rfl ?_
        refine z_get (v := .int (zI (Fvy228 51 + 1))) C (lt_A0 hN rfl) hay1 hcvy230 rfl inA_X10 51 (by decide) q_1510 rfl (fv (F := Fvy230) (f := 51) hqvy230) dX10_told_185 ?_
        refine z_iconst (z := 1) C dX10_told_188 rfl ?_
        refine z_isub C dX10_told_189 ?_
        refine z_cS (As := [.int (zI (z2)), .int (zI (0)), .int (zI ((Fvy228 51 + 1) - 1))]) (rest := [.ref (ad i)]) C (c_X10_within l D A cs tt N ad _ (z2) (by omega) (0) (by omega) ((Fvy228 51 + 1) - 1) (by omega)) ms_yX10_within q_1686 hd_yX10_within (by decide) (Nat.le_of_ble_eq_true rfl) (by decide) dX10_told_190 rfl (kI0 fun vy233 gvy233 hvy233 => ?_)
        obtain ⟨hvy233, rfl⟩ := hvy233
        rcases hvy233 with ⟨rfl, hxvy233⟩ | ⟨rfl, hxvy233⟩
        · refine z_iconst (z := 1) C dX10_told_193 rfl ?_
          have hey235 : Fvy230 12 = Fvy28 12 := ((hFvy230 12 (by decide)).trans ((hFvy228 12 (by decide)).trans ((hFvy223 12 (by decide)).trans ((hFvy221 12 (by decide)).trans ((hFvy216 12 (by decide)).trans ((hFvy214 12 (by decide)).trans ((hFvy206 12 (by decide)).trans ((hFvy204 12 (by decide)).trans ((hFvy202 12 (by decide)).trans ((hFvy200 12 (by decide)).trans ((hFvy198 12 (by decide)).trans ((hFvy59 12 (by decide)).trans ((hFvy54 12 (by decide)).trans ((hFvy52 12 (by decide)).trans ((hFvy47 12 (by decide)).trans ((hFvy45 12 (by decide)).trans (fn rfl (by decide))))))))))))))))))
          refine z_cV (As := [.int (zI (1)), .int (zI (1))]) (rest := []) (ci := 12) C (c_X10_right l D A cs tt N ad _ i hN _ hcvy230 (by omega) (1) (by omega) (1) (by omega)) (lt_A0 hN rfl) hay1 hcvy230 rfl rfl mv_yX10_right q_1648 hd_yX10_right (by decide) (Nat.le_of_ble_eq_true rfl) (by decide) dX10_told_194 rfl (kI0 fun vy234 gvy234 hvy234 => ?_)
          obtain ⟨hrvy234, ⟨Fvy234, hcvy234, htvy234, hFvy234⟩, hfvy234⟩ := hvy234
          rcases (show vy234 = 1 ∨ vy234 = 0 by omega) with rfl | rfl
          · refine z_if_eq (tgt := 209) C dX10_told_197 (by decide) (by omega) (fun h => absurd h (by omega)) (fun _ => ?_)
            refine z_aload_n C 0 dX10_told_200 rfl ?_
            refine z_get (v := .ref (ad (i + 24))) C (lt_A0 hN rfl) hay1 hcvy234 rfl inA_X10 50 (by decide) q_1509 rfl rfl dX10_told_201 ?_
            refine z_iload_n C 3 dX10_told_204 rfl ?_
            have hgy236 := (hfvy234 (i + 24) (ne_o (i := i) (c := 24) (d := 0) rfl)).trans htvy230
            refine z_iald C (lt_A (c := 24) hN rfl) hay17 hgy236 ((z2).toNat) (by omega) (by omega) (by decide) dX10_told_205 ?_
            refine z_goto (tgt := 210) C dX10_told_206 (by decide) ?_
            obtain ⟨xy237, exy238, hxy239⟩ := zI_of (zI (tvy230 ((z2).toNat)))
            rw [exy238]
            have hgy240 := (hfvy228 (i + 1) (ne_o (i := i) (c := 1) (d := 0) rfl) (ne_o (i := i) (c := 1) (d := 24) rfl)).trans hgy226
            have hgy241 := (hfvy230 (i + 1) (ne_o (i := i) (c := 1) (d := 0) rfl) (ne_o (i := i) (c := 1) (d := 24) rfl)).trans hgy240
            have hgy242 := (hfvy234 (i + 1) (ne_o (i := i) (c := 1) (d := 0) rfl)).trans hgy241
            have hFy243 : ∀ f, f ≠ 12 → f ≠ 51 → Fvy234 f = F f := fun f n12 n51 => ((hFvy234 f n12).trans ((hFvy230 f n51).trans ((hFvy228 f n51).trans ((hFvy223 f n51).trans ((hFvy221 f n51).trans ((hFvy216 f n51).trans ((hFvy214 f n51).trans ((hFvy206 f n51).trans ((hFvy204 f n51).trans ((hFvy202 f n51).trans ((hFvy200 f n51).trans ((hFvy198 f n51).trans ((hFvy59 f n51).trans ((hFvy54 f n51).trans ((hFvy52 f n51).trans ((hFvy47 f n51).trans ((hFvy45 f n51).trans ((uZ_n _ _ n51).trans ((hFvy28 f n12).trans ((uZ_n _ _ n12).trans rfl))))))))))))))))))))
            have hey244 : Fvy234 13 = F 13 := ((hFvy234 13 (by decide)).trans ((hFvy230 13 (by decide)).trans ((hFvy228 13 (by decide)).trans ((hFvy223 13 (by decide)).trans ((hFvy221 13 (by decide)).trans ((hFvy216 13 (by decide)).trans ((hFvy214 13 (by decide)).trans ((hFvy206 13 (by decide)).trans ((hFvy204 13 (by decide)).trans ((hFvy202 13 (by decide)).trans ((hFvy200 13 (by decide)).trans ((hFvy198 13 (by decide)).trans ((hFvy59 13 (by decide)).trans ((hFvy54 13 (by decide)).trans ((hFvy52 13 (by decide)).trans ((hFvy47 13 (by decide)).trans ((hFvy45 13 (by decide)).trans (fn ((hFvy28 13 (by decide)).trans (fn rfl (by decide))) (by decide)))))))))))))))))))
            have hey245 : Fvy234 14 = F 14 := ((hFvy234 14 (by decide)).trans ((hFvy230 14 (by decide)).trans ((hFvy228 14 (by decide)).trans ((hFvy223 14 (by decide)).trans ((hFvy221 14 (by decide)).trans ((hFvy216 14 (by decide)).trans ((hFvy214 14 (by decide)).trans ((hFvy206 14 (by decide)).trans ((hFvy204 14 (by decide)).trans ((hFvy202 14 (by decide)).trans ((hFvy200 14 (by decide)).trans ((hFvy198 14 (by decide)).trans ((hFvy59 14 (by decide)).trans ((hFvy54 14 (by decide)).trans ((hFvy52 14 (by decide)).trans ((hFvy47 14 (by decide)).trans ((hFvy45 14 (by decide)).trans (fn ((hFvy28 14 (by decide)).trans (fn rfl (by decide))) (by decide)))))))))))))))))))
            have hey246 : Fvy234 15 = F 15 := ((hFvy234 15 (by decide)).trans ((hFvy230 15 (by decide)).trans ((hFvy228 15 (by decide)).trans ((hFvy223 15 (by decide)).trans ((hFvy221 15 (by decide)).trans ((hFvy216 15 (by decide)).trans ((hFvy214 15 (by decide)).trans ((hFvy206 15 (by decide)).trans ((hFvy204 15 (by decide)).trans ((hFvy202 15 (by decide)).trans ((hFvy200 15 (by decide)).trans ((hFvy198 15 (by decide)).trans ((hFvy59 15 (by decide)).trans ((hFvy54 15 (by decide)).trans ((hFvy52 15 (by decide)).trans ((hFvy47 15 (by decide)).trans ((hFvy45 15 (by decide)).trans (fn ((hFvy28 15 (by decide)).trans (fn rfl (by decide))) (by decide)))))))))))))))))))
            have hey247 : Fvy234 16 = F 16 := ((hFvy234 16 (by decide)).trans ((hFvy230 16 (by decide)).trans ((hFvy228 16 (by decide)).trans ((hFvy223 16 (by decide)).trans ((hFvy221 16 (by decide)).trans ((hFvy216 16 (by decide)).trans ((hFvy214 16 (by decide)).trans ((hFvy206 16 (by decide)).trans ((hFvy204 16 (by decide)).trans ((hFvy202 16 (by decide)).trans ((hFvy200 16 (by decide)).trans ((hFvy198 16 (by decide)).trans ((hFvy59 16 (by decide)).trans ((hFvy54 16 (by decide)).trans ((hFvy52 16 (by decide)).trans ((hFvy47 16 (by decide)).trans ((hFvy45 16 (by decide)).trans (fn ((hFvy28 16 (by decide)).trans (fn rfl (by decide))) (by decide)))))))))))))))))))
            have hey248 : Fvy234 17 = F 17 := ((hFvy234 17 (by decide)).trans ((hFvy230 17 (by decide)).trans ((hFvy228 17 (by decide)).trans ((hFvy223 17 (by decide)).trans ((hFvy221 17 (by decide)).trans ((hFvy216 17 (by decide)).trans ((hFvy214 17 (by decide)).trans ((hFvy206 17 (by decide)).trans ((hFvy204 17 (by decide)).trans ((hFvy202 17 (by decide)).trans ((hFvy200 17 (by decide)).trans ((hFvy198 17 (by decide)).trans ((hFvy59 17 (by decide)).trans ((hFvy54 17 (by decide)).trans ((hFvy52 17 (by decide)).trans ((hFvy47 17 (by decide)).trans ((hFvy45 17 (by decide)).trans (fn ((hFvy28 17 (by decide)).trans (fn rfl (by decide))) (by decide)))))))))))))))))))
            have hey249 : Fvy234 18 = F 18 := ((hFvy234 18 (by decide)).trans ((hFvy230 18 (by decide)).trans ((hFvy228 18 (by decide)).trans ((hFvy223 18 (by decide)).trans ((hFvy221 18 (by decide)).trans ((hFvy216 18 (by decide)).trans ((hFvy214 18 (by decide)).trans ((hFvy206 18 (by decide)).trans ((hFvy204 18 (by decide)).trans ((hFvy202 18 (by decide)).trans ((hFvy200 18 (by decide)).trans ((hFvy198 18 (by decide)).trans ((hFvy59 18 (by decide)).trans ((hFvy54 18 (by decide)).trans ((hFvy52 18 (by decide)).trans ((hFvy47 18 (by decide)).trans ((hFvy45 18 (by decide)).trans (fn ((hFvy28 18 (by decide)).trans (fn rfl (by decide))) (by decide)))))))))))))))))))
            have hey250 : Fvy234 19 = F 19 := ((hFvy234 19 (by decide)).trans ((hFvy230 19 (by decide)).trans ((hFvy228 19 (by decide)).trans ((hFvy223 19 (by decide)).trans ((hFvy221 19 (by decide)).trans ((hFvy216 19 (by decide)).trans ((hFvy214 19 (by decide)).trans ((hFvy206 19 (by decide)).trans ((hFvy204 19 (by decide)).trans ((hFvy202 19 (by decide)).trans ((hFvy200 19 (by decide)).trans ((hFvy198 19 (by decide)).trans ((hFvy59 19 (by decide)).trans ((hFvy54 19 (by decide)).trans ((hFvy52 19 (by decide)).trans ((hFvy47 19 (by decide)).trans ((hFvy45 19 (by decide)).trans (fn ((hFvy28 19 (by decide)).trans (fn rfl (by decide))) (by decide)))))))))))))))))))
            have hey251 : Fvy234 20 = F 20 := ((hFvy234 20 (by decide)).trans ((hFvy230 20 (by decide)).trans ((hFvy228 20 (by decide)).trans ((hFvy223 20 (by decide)).trans ((hFvy221 20 (by decide)).trans ((hFvy216 20 (by decide)).trans ((hFvy214 20 (by decide)).trans ((hFvy206 20 (by decide)).trans ((hFvy204 20 (by decide)).trans ((hFvy202 20 (by decide)).trans ((hFvy200 20 (by decide)).trans ((hFvy198 20 (by decide)).trans ((hFvy59 20 (by decide)).trans ((hFvy54 20 (by decide)).trans ((hFvy52 20 (by decide)).trans ((hFvy47 20 (by decide)).trans ((hFvy45 20 (by decide)).trans (fn ((hFvy28 20 (by decide)).trans (fn rfl (by decide))) (by decide)))))))))))))))))))
            have hey252 : Fvy234 21 = F 21 := ((hFvy234 21 (by decide)).trans ((hFvy230 21 (by decide)).trans ((hFvy228 21 (by decide)).trans ((hFvy223 21 (by decide)).trans ((hFvy221 21 (by decide)).trans ((hFvy216 21 (by decide)).trans ((hFvy214 21 (by decide)).trans ((hFvy206 21 (by decide)).trans ((hFvy204 21 (by decide)).trans ((hFvy202 21 (by decide)).trans ((hFvy200 21 (by decide)).trans ((hFvy198 21 (by decide)).trans ((hFvy59 21 (by decide)).trans ((hFvy54 21 (by decide)).trans ((hFvy52 21 (by decide)).trans ((hFvy47 21 (by decide)).trans ((hFvy45 21 (by decide)).trans (fn ((hFvy28 21 (by decide)).trans (fn rfl (by decide))) (by decide)))))))))))))))))))
            have hey253 : Fvy234 23 = F 23 := ((hFvy234 23 (by decide)).trans ((hFvy230 23 (by decide)).trans ((hFvy228 23 (by decide)).trans ((hFvy223 23 (by decide)).trans ((hFvy221 23 (by decide)).trans ((hFvy216 23 (by decide)).trans ((hFvy214 23 (by decide)).trans ((hFvy206 23 (by decide)).trans ((hFvy204 23 (by decide)).trans ((hFvy202 23 (by decide)).trans ((hFvy200 23 (by decide)).trans ((hFvy198 23 (by decide)).trans ((hFvy59 23 (by decide)).trans ((hFvy54 23 (by decide)).trans ((hFvy52 23 (by decide)).trans ((hFvy47 23 (by decide)).trans ((hFvy45 23 (by decide)).trans (fn ((hFvy28 23 (by decide)).trans (fn rfl (by decide))) (by decide)))))))))))))))))))
            have hey254 : Fvy234 25 = F 25 := ((hFvy234 25 (by decide)).trans ((hFvy230 25 (by decide)).trans ((hFvy228 25 (by decide)).trans ((hFvy223 25 (by decide)).trans ((hFvy221 25 (by decide)).trans ((hFvy216 25 (by decide)).trans ((hFvy214 25 (by decide)).trans ((hFvy206 25 (by decide)).trans ((hFvy204 25 (by decide)).trans ((hFvy202 25 (by decide)).trans ((hFvy200 25 (by decide)).trans ((hFvy198 25 (by decide)).trans ((hFvy59 25 (by decide)).trans ((hFvy54 25 (by decide)).trans ((hFvy52 25 (by decide)).trans ((hFvy47 25 (by decide)).trans ((hFvy45 25 (by decide)).trans (fn ((hFvy28 25 (by decide)).trans (fn rfl (by decide))) (by decide)))))))))))))))))))
            have hey255 : Fvy234 27 = F 27 := ((hFvy234 27 (by decide)).trans ((hFvy230 27 (by decide)).trans ((hFvy228 27 (by decide)).trans ((hFvy223 27 (by decide)).trans ((hFvy221 27 (by decide)).trans ((hFvy216 27 (by decide)).trans ((hFvy214 27 (by decide)).trans ((hFvy206 27 (by decide)).trans ((hFvy204 27 (by decide)).trans ((hFvy202 27 (by decide)).trans ((hFvy200 27 (by decide)).trans ((hFvy198 27 (by decide)).trans ((hFvy59 27 (by decide)).trans ((hFvy54 27 (by decide)).trans ((hFvy52 27 (by decide)).trans ((hFvy47 27 (by decide)).trans ((hFvy45 27 (by decide)).trans (fn ((hFvy28 27 (by decide)).trans (fn rfl (by decide))) (by decide)))))))))))))))))))
            have hey256 : Fvy234 28 = F 28 := ((hFvy234 28 (by decide)).trans ((hFvy230 28 (by decide)).trans ((hFvy228 28 (by decide)).trans ((hFvy223 28 (by decide)).trans ((hFvy221 28 (by decide)).trans ((hFvy216 28 (by decide)).trans ((hFvy214 28 (by decide)).trans ((hFvy206 28 (by decide)).trans ((hFvy204 28 (by decide)).trans ((hFvy202 28 (by decide)).trans ((hFvy200 28 (by decide)).trans ((hFvy198 28 (by decide)).trans ((hFvy59 28 (by decide)).trans ((hFvy54 28 (by decide)).trans ((hFvy52 28 (by decide)).trans ((hFvy47 28 (by decide)).trans ((hFvy45 28 (by decide)).trans (fn ((hFvy28 28 (by decide)).trans (fn rfl (by decide))) (by decide)))))))))))))))))))
            have hey257 : Fvy234 29 = F 29 := ((hFvy234 29 (by decide)).trans ((hFvy230 29 (by decide)).trans ((hFvy228 29 (by decide)).trans ((hFvy223 29 (by decide)).trans ((hFvy221 29 (by decide)).trans ((hFvy216 29 (by decide)).trans ((hFvy214 29 (by decide)).trans ((hFvy206 29 (by decide)).trans ((hFvy204 29 (by decide)).trans ((hFvy202 29 (by decide)).trans ((hFvy200 29 (by decide)).trans ((hFvy198 29 (by decide)).trans ((hFvy59 29 (by decide)).trans ((hFvy54 29 (by decide)).trans ((hFvy52 29 (by decide)).trans ((hFvy47 29 (by decide)).trans ((hFvy45 29 (by decide)).trans (fn ((hFvy28 29 (by decide)).trans (fn rfl (by decide))) (by decide)))))))))))))))))))
            have hKy258 : okF Fvy234 := okF.mv hM.2.1 hey244 hey245 hey246 hey247 hey248 hey249 hey250 hey251 hey252 hey253 hey254 hey255 hey256 hey257
            have hMy259 : okMr cs ad gvy234 i (x + 1) Fvy234 r st op ai fa mu tb tp := okMr.upd hM hcvy234 hKy258 (fun f a => hFy243 f (by omega) (by omega)) hgy242 (hA.mono (by omega)) (fun j a b => by
                by_cases e0 : j = i + 24
                · exact Or.inr ⟨24, _, e0, lsP.l (by decide), by rw [e0]; exact hgy236⟩
                exact Or.inl (by rw [hfvy234 _ (by omega)]; rw [hfvy230 _ (by omega) (by omega)]; rw [hfvy228 _ (by omega) (by omega)]; rw [hfvy223 _ (by omega) (by omega)]; rw [hfvy221 _ (by omega) (by omega)]; rw [hfvy216 _ (by omega) (by omega)]; rw [hfvy214 _ (by omega) (by omega)]; rw [hfvy206 _ (by omega) (by omega)]; rw [hfvy204 _ (by omega) (by omega)]; rw [hfvy202 _ (by omega) (by omega)]; rw [hfvy200 _ (by omega) (by omega)]; rw [hfvy198 _ (by omega) (by omega)]; rw [hfvy59 _ (by omega) (by omega)]; rw [hfvy54 _ (by omega) (by omega)]; rw [hfvy52 _ (by omega) (by omega)]; rw [hfvy47 _ (by omega) (by omega)]; rw [hfvy45 _ (by omega) (by omega)]; rw [egy32, va_up_ne _ _ (by omega)]; rw [hfvy28 _ (by omega)]; rw [egy25, va_up_ne _ _ (by omega)]))
            have hkpy260 : Fvy234 13 = F 13 := ((hFvy234 13 (by decide)).trans ((hFvy230 13 (by decide)).trans ((hFvy228 13 (by decide)).trans ((hFvy223 13 (by decide)).trans ((hFvy221 13 (by decide)).trans ((hFvy216 13 (by decide)).trans ((hFvy214 13 (by decide)).trans ((hFvy206 13 (by decide)).trans ((hFvy204 13 (by decide)).trans ((hFvy202 13 (by decide)).trans ((hFvy200 13 (by decide)).trans ((hFvy198 13 (by decide)).trans ((hFvy59 13 (by decide)).trans ((hFvy54 13 (by decide)).trans ((hFvy52 13 (by decide)).trans ((hFvy47 13 (by decide)).trans ((hFvy45 13 (by decide)).trans (fn ((hFvy28 13 (by decide)).trans (fn rfl (by decide))) (by decide)))))))))))))))))))
            have hkpy261 : Fvy234 14 = F 14 := ((hFvy234 14 (by decide)).trans ((hFvy230 14 (by decide)).trans ((hFvy228 14 (by decide)).trans ((hFvy223 14 (by decide)).trans ((hFvy221 14 (by decide)).trans ((hFvy216 14 (by decide)).trans ((hFvy214 14 (by decide)).trans ((hFvy206 14 (by decide)).trans ((hFvy204 14 (by decide)).trans ((hFvy202 14 (by decide)).trans ((hFvy200 14 (by decide)).trans ((hFvy198 14 (by decide)).trans ((hFvy59 14 (by decide)).trans ((hFvy54 14 (by decide)).trans ((hFvy52 14 (by decide)).trans ((hFvy47 14 (by decide)).trans ((hFvy45 14 (by decide)).trans (fn ((hFvy28 14 (by decide)).trans (fn rfl (by decide))) (by decide)))))))))))))))))))
            have hkpy262 : Fvy234 17 = F 17 := ((hFvy234 17 (by decide)).trans ((hFvy230 17 (by decide)).trans ((hFvy228 17 (by decide)).trans ((hFvy223 17 (by decide)).trans ((hFvy221 17 (by decide)).trans ((hFvy216 17 (by decide)).trans ((hFvy214 17 (by decide)).trans ((hFvy206 17 (by decide)).trans ((hFvy204 17 (by decide)).trans ((hFvy202 17 (by decide)).trans ((hFvy200 17 (by decide)).trans ((hFvy198 17 (by decide)).trans ((hFvy59 17 (by decide)).trans ((hFvy54 17 (by decide)).trans ((hFvy52 17 (by decide)).trans ((hFvy47 17 (by decide)).trans ((hFvy45 17 (by decide)).trans (fn ((hFvy28 17 (by decide)).trans (fn rfl (by decide))) (by decide)))))))))))))))))))
            have hkpy263 : Fvy234 20 = F 20 := ((hFvy234 20 (by decide)).trans ((hFvy230 20 (by decide)).trans ((hFvy228 20 (by decide)).trans ((hFvy223 20 (by decide)).trans ((hFvy221 20 (by decide)).trans ((hFvy216 20 (by decide)).trans ((hFvy214 20 (by decide)).trans ((hFvy206 20 (by decide)).trans ((hFvy204 20 (by decide)).trans ((hFvy202 20 (by decide)).trans ((hFvy200 20 (by decide)).trans ((hFvy198 20 (by decide)).trans ((hFvy59 20 (by decide)).trans ((hFvy54 20 (by decide)).trans ((hFvy52 20 (by decide)).trans ((hFvy47 20 (by decide)).trans ((hFvy45 20 (by decide)).trans (fn ((hFvy28 20 (by decide)).trans (fn rfl (by decide))) (by decide)))))))))))))))))))
            have hkpy264 : Fvy234 21 = F 21 := ((hFvy234 21 (by decide)).trans ((hFvy230 21 (by decide)).trans ((hFvy228 21 (by decide)).trans ((hFvy223 21 (by decide)).trans ((hFvy221 21 (by decide)).trans ((hFvy216 21 (by decide)).trans ((hFvy214 21 (by decide)).trans ((hFvy206 21 (by decide)).trans ((hFvy204 21 (by decide)).trans ((hFvy202 21 (by decide)).trans ((hFvy200 21 (by decide)).trans ((hFvy198 21 (by decide)).trans ((hFvy59 21 (by decide)).trans ((hFvy54 21 (by decide)).trans ((hFvy52 21 (by decide)).trans ((hFvy47 21 (by decide)).trans ((hFvy45 21 (by decide)).trans (fn ((hFvy28 21 (by decide)).trans (fn rfl (by decide))) (by decide)))))))))))))))))))
            have hkpy265 : Fvy234 23 = F 23 := ((hFvy234 23 (by decide)).trans ((hFvy230 23 (by decide)).trans ((hFvy228 23 (by decide)).trans ((hFvy223 23 (by decide)).trans ((hFvy221 23 (by decide)).trans ((hFvy216 23 (by decide)).trans ((hFvy214 23 (by decide)).trans ((hFvy206 23 (by decide)).trans ((hFvy204 23 (by decide)).trans ((hFvy202 23 (by decide)).trans ((hFvy200 23 (by decide)).trans ((hFvy198 23 (by decide)).trans ((hFvy59 23 (by decide)).trans ((hFvy54 23 (by decide)).trans ((hFvy52 23 (by decide)).trans ((hFvy47 23 (by decide)).trans ((hFvy45 23 (by decide)).trans (fn ((hFvy28 23 (by decide)).trans (fn rfl (by decide))) (by decide)))))))))))))))))))
            have hkpy266 : Fvy234 24 = F 24 := ((hFvy234 24 (by decide)).trans ((hFvy230 24 (by decide)).trans ((hFvy228 24 (by decide)).trans ((hFvy223 24 (by decide)).trans ((hFvy221 24 (by decide)).trans ((hFvy216 24 (by decide)).trans ((hFvy214 24 (by decide)).trans ((hFvy206 24 (by decide)).trans ((hFvy204 24 (by decide)).trans ((hFvy202 24 (by decide)).trans ((hFvy200 24 (by decide)).trans ((hFvy198 24 (by decide)).trans ((hFvy59 24 (by decide)).trans ((hFvy54 24 (by decide)).trans ((hFvy52 24 (by decide)).trans ((hFvy47 24 (by decide)).trans ((hFvy45 24 (by decide)).trans (fn ((hFvy28 24 (by decide)).trans (fn rfl (by decide))) (by decide)))))))))))))))))))
            exact z_iret C hr hlk dX10_told_210 (by decide) (by decide) ⟨xy237, rfl, rfl, rfl, by omega, ⟨_, _, hMy259, ⟨hkpy260, hkpy261, hkpy262, hkpy263, hkpy264, hkpy265, hkpy266⟩⟩, fun j j1 => by rw [hfvy234 _ (by omega)]; rw [hfvy230 _ (by omega) (by omega)]; rw [hfvy228 _ (by omega) (by omega)]; rw [hfvy223 _ (by omega) (by omega)]; rw [hfvy221 _ (by omega) (by omega)]; rw [hfvy216 _ (by omega) (by omega)]; rw [hfvy214 _ (by omega) (by omega)]; rw [hfvy206 _ (by omega) (by omega)]; rw [hfvy204 _ (by omega) (by omega)]; rw [hfvy202 _ (by omega) (by omega)]; rw [hfvy200 _ (by omega) (by omega)]; rw [hfvy198 _ (by omega) (by omega)]; rw [hfvy59 _ (by omega) (by omega)]; rw [hfvy54 _ (by omega) (by omega)]; rw [hfvy52 _ (by omega) (by omega)]; rw [hfvy47 _ (by omega) (by omega)]; rw [hfvy45 _ (by omega) (by omega)]; rw [egy32, va_up_ne _ _ (by omega)]; rw [hfvy28 _ (by omega)]; rw [egy25, va_up_ne _ _ (by omega)]⟩
          · refine z_if_eq (tgt := 209) C dX10_told_197 (by decide) (by omega) (fun _ => ?_) (fun h => absurd h (by omega))
            refine z_iconst (z := 0) C dX10_told_209 rfl ?_
            have hgy267 := (hfvy228 (i + 1) (ne_o (i := i) (c := 1) (d := 0) rfl) (ne_o (i := i) (c := 1) (d := 24) rfl)).trans hgy226
            have hgy268 := (hfvy230 (i + 1) (ne_o (i := i) (c := 1) (d := 0) rfl) (ne_o (i := i) (c := 1) (d := 24) rfl)).trans hgy267
            have hgy269 := (hfvy234 (i + 1) (ne_o (i := i) (c := 1) (d := 0) rfl)).trans hgy268
            have hFy270 : ∀ f, f ≠ 12 → f ≠ 51 → Fvy234 f = F f := fun f n12 n51 => ((hFvy234 f n12).trans ((hFvy230 f n51).trans ((hFvy228 f n51).trans ((hFvy223 f n51).trans ((hFvy221 f n51).trans ((hFvy216 f n51).trans ((hFvy214 f n51).trans ((hFvy206 f n51).trans ((hFvy204 f n51).trans ((hFvy202 f n51).trans ((hFvy200 f n51).trans ((hFvy198 f n51).trans ((hFvy59 f n51).trans ((hFvy54 f n51).trans ((hFvy52 f n51).trans ((hFvy47 f n51).trans ((hFvy45 f n51).trans ((uZ_n _ _ n51).trans ((hFvy28 f n12).trans ((uZ_n _ _ n12).trans rfl))))))))))))))))))))
            have hey271 : Fvy234 13 = F 13 := ((hFvy234 13 (by decide)).trans ((hFvy230 13 (by decide)).trans ((hFvy228 13 (by decide)).trans ((hFvy223 13 (by decide)).trans ((hFvy221 13 (by decide)).trans ((hFvy216 13 (by decide)).trans ((hFvy214 13 (by decide)).trans ((hFvy206 13 (by decide)).trans ((hFvy204 13 (by decide)).trans ((hFvy202 13 (by decide)).trans ((hFvy200 13 (by decide)).trans ((hFvy198 13 (by decide)).trans ((hFvy59 13 (by decide)).trans ((hFvy54 13 (by decide)).trans ((hFvy52 13 (by decide)).trans ((hFvy47 13 (by decide)).trans ((hFvy45 13 (by decide)).trans (fn ((hFvy28 13 (by decide)).trans (fn rfl (by decide))) (by decide)))))))))))))))))))
            have hey272 : Fvy234 14 = F 14 := ((hFvy234 14 (by decide)).trans ((hFvy230 14 (by decide)).trans ((hFvy228 14 (by decide)).trans ((hFvy223 14 (by decide)).trans ((hFvy221 14 (by decide)).trans ((hFvy216 14 (by decide)).trans ((hFvy214 14 (by decide)).trans ((hFvy206 14 (by decide)).trans ((hFvy204 14 (by decide)).trans ((hFvy202 14 (by decide)).trans ((hFvy200 14 (by decide)).trans ((hFvy198 14 (by decide)).trans ((hFvy59 14 (by decide)).trans ((hFvy54 14 (by decide)).trans ((hFvy52 14 (by decide)).trans ((hFvy47 14 (by decide)).trans ((hFvy45 14 (by decide)).trans (fn ((hFvy28 14 (by decide)).trans (fn rfl (by decide))) (by decide)))))))))))))))))))
            have hey273 : Fvy234 15 = F 15 := ((hFvy234 15 (by decide)).trans ((hFvy230 15 (by decide)).trans ((hFvy228 15 (by decide)).trans ((hFvy223 15 (by decide)).trans ((hFvy221 15 (by decide)).trans ((hFvy216 15 (by decide)).trans ((hFvy214 15 (by decide)).trans ((hFvy206 15 (by decide)).trans ((hFvy204 15 (by decide)).trans ((hFvy202 15 (by decide)).trans ((hFvy200 15 (by decide)).trans ((hFvy198 15 (by decide)).trans ((hFvy59 15 (by decide)).trans ((hFvy54 15 (by decide)).trans ((hFvy52 15 (by decide)).trans ((hFvy47 15 (by decide)).trans ((hFvy45 15 (by decide)).trans (fn ((hFvy28 15 (by decide)).trans (fn rfl (by decide))) (by decide)))))))))))))))))))
            have hey274 : Fvy234 16 = F 16 := ((hFvy234 16 (by decide)).trans ((hFvy230 16 (by decide)).trans ((hFvy228 16 (by decide)).trans ((hFvy223 16 (by decide)).trans ((hFvy221 16 (by decide)).trans ((hFvy216 16 (by decide)).trans ((hFvy214 16 (by decide)).trans ((hFvy206 16 (by decide)).trans ((hFvy204 16 (by decide)).trans ((hFvy202 16 (by decide)).trans ((hFvy200 16 (by decide)).trans ((hFvy198 16 (by decide)).trans ((hFvy59 16 (by decide)).trans ((hFvy54 16 (by decide)).trans ((hFvy52 16 (by decide)).trans ((hFvy47 16 (by decide)).trans ((hFvy45 16 (by decide)).trans (fn ((hFvy28 16 (by decide)).trans (fn rfl (by decide))) (by decide)))))))))))))))))))
            have hey275 : Fvy234 17 = F 17 := ((hFvy234 17 (by decide)).trans ((hFvy230 17 (by decide)).trans ((hFvy228 17 (by decide)).trans ((hFvy223 17 (by decide)).trans ((hFvy221 17 (by decide)).trans ((hFvy216 17 (by decide)).trans ((hFvy214 17 (by decide)).trans ((hFvy206 17 (by decide)).trans ((hFvy204 17 (by decide)).trans ((hFvy202 17 (by decide)).trans ((hFvy200 17 (by decide)).trans ((hFvy198 17 (by decide)).trans ((hFvy59 17 (by decide)).trans ((hFvy54 17 (by decide)).trans ((hFvy52 17 (by decide)).trans ((hFvy47 17 (by decide)).trans ((hFvy45 17 (by decide)).trans (fn ((hFvy28 17 (by decide)).trans (fn rfl (by decide))) (by decide)))))))))))))))))))
            have hey276 : Fvy234 18 = F 18 := ((hFvy234 18 (by decide)).trans ((hFvy230 18 (by decide)).trans ((hFvy228 18 (by decide)).trans ((hFvy223 18 (by decide)).trans ((hFvy221 18 (by decide)).trans ((hFvy216 18 (by decide)).trans ((hFvy214 18 (by decide)).trans ((hFvy206 18 (by decide)).trans ((hFvy204 18 (by decide)).trans ((hFvy202 18 (by decide)).trans ((hFvy200 18 (by decide)).trans ((hFvy198 18 (by decide)).trans ((hFvy59 18 (by decide)).trans ((hFvy54 18 (by decide)).trans ((hFvy52 18 (by decide)).trans ((hFvy47 18 (by decide)).trans ((hFvy45 18 (by decide)).trans (fn ((hFvy28 18 (by decide)).trans (fn rfl (by decide))) (by decide)))))))))))))))))))
            have hey277 : Fvy234 19 = F 19 := ((hFvy234 19 (by decide)).trans ((hFvy230 19 (by decide)).trans ((hFvy228 19 (by decide)).trans ((hFvy223 19 (by decide)).trans ((hFvy221 19 (by decide)).trans ((hFvy216 19 (by decide)).trans ((hFvy214 19 (by decide)).trans ((hFvy206 19 (by decide)).trans ((hFvy204 19 (by decide)).trans ((hFvy202 19 (by decide)).trans ((hFvy200 19 (by decide)).trans ((hFvy198 19 (by decide)).trans ((hFvy59 19 (by decide)).trans ((hFvy54 19 (by decide)).trans ((hFvy52 19 (by decide)).trans ((hFvy47 19 (by decide)).trans ((hFvy45 19 (by decide)).trans (fn ((hFvy28 19 (by decide)).trans (fn rfl (by decide))) (by decide)))))))))))))))))))
            have hey278 : Fvy234 20 = F 20 := ((hFvy234 20 (by decide)).trans ((hFvy230 20 (by decide)).trans ((hFvy228 20 (by decide)).trans ((hFvy223 20 (by decide)).trans ((hFvy221 20 (by decide)).trans ((hFvy216 20 (by decide)).trans ((hFvy214 20 (by decide)).trans ((hFvy206 20 (by decide)).trans ((hFvy204 20 (by decide)).trans ((hFvy202 20 (by decide)).trans ((hFvy200 20 (by decide)).trans ((hFvy198 20 (by decide)).trans ((hFvy59 20 (by decide)).trans ((hFvy54 20 (by decide)).trans ((hFvy52 20 (by decide)).trans ((hFvy47 20 (by decide)).trans ((hFvy45 20 (by decide)).trans (fn ((hFvy28 20 (by decide)).trans (fn rfl (by decide))) (by decide)))))))))))))))))))
            have hey279 : Fvy234 21 = F 21 := ((hFvy234 21 (by decide)).trans ((hFvy230 21 (by decide)).trans ((hFvy228 21 (by decide)).trans ((hFvy223 21 (by decide)).trans ((hFvy221 21 (by decide)).trans ((hFvy216 21 (by decide)).trans ((hFvy214 21 (by decide)).trans ((hFvy206 21 (by decide)).trans ((hFvy204 21 (by decide)).trans ((hFvy202 21 (by decide)).trans ((hFvy200 21 (by decide)).trans ((hFvy198 21 (by decide)).trans ((hFvy59 21 (by decide)).trans ((hFvy54 21 (by decide)).trans ((hFvy52 21 (by decide)).trans ((hFvy47 21 (by decide)).trans ((hFvy45 21 (by decide)).trans (fn ((hFvy28 21 (by decide)).trans (fn rfl (by decide))) (by decide)))))))))))))))))))
            have hey280 : Fvy234 23 = F 23 := ((hFvy234 23 (by decide)).trans ((hFvy230 23 (by decide)).trans ((hFvy228 23 (by decide)).trans ((hFvy223 23 (by decide)).trans ((hFvy221 23 (by decide)).trans ((hFvy216 23 (by decide)).trans ((hFvy214 23 (by decide)).trans ((hFvy206 23 (by decide)).trans ((hFvy204 23 (by decide)).trans ((hFvy202 23 (by decide)).trans ((hFvy200 23 (by decide)).trans ((hFvy198 23 (by decide)).trans ((hFvy59 23 (by decide)).trans ((hFvy54 23 (by decide)).trans ((hFvy52 23 (by decide)).trans ((hFvy47 23 (by decide)).trans ((hFvy45 23 (by decide)).trans (fn ((hFvy28 23 (by decide)).trans (fn rfl (by decide))) (by decide)))))))))))))))))))
            have hey281 : Fvy234 25 = F 25 := ((hFvy234 25 (by decide)).trans ((hFvy230 25 (by decide)).trans ((hFvy228 25 (by decide)).trans ((hFvy223 25 (by decide)).trans ((hFvy221 25 (by decide)).trans ((hFvy216 25 (by decide)).trans ((hFvy214 25 (by decide)).trans ((hFvy206 25 (by decide)).trans ((hFvy204 25 (by decide)).trans ((hFvy202 25 (by decide)).trans ((hFvy200 25 (by decide)).trans ((hFvy198 25 (by decide)).trans ((hFvy59 25 (by decide)).trans ((hFvy54 25 (by decide)).trans ((hFvy52 25 (by decide)).trans ((hFvy47 25 (by decide)).trans ((hFvy45 25 (by decide)).trans (fn ((hFvy28 25 (by decide)).trans (fn rfl (by decide))) (by decide)))))))))))))))))))
            have hey282 : Fvy234 27 = F 27 := ((hFvy234 27 (by decide)).trans ((hFvy230 27 (by decide)).trans ((hFvy228 27 (by decide)).trans ((hFvy223 27 (by decide)).trans ((hFvy221 27 (by decide)).trans ((hFvy216 27 (by decide)).trans ((hFvy214 27 (by decide)).trans ((hFvy206 27 (by decide)).trans ((hFvy204 27 (by decide)).trans ((hFvy202 27 (by decide)).trans ((hFvy200 27 (by decide)).trans ((hFvy198 27 (by decide)).trans ((hFvy59 27 (by decide)).trans ((hFvy54 27 (by decide)).trans ((hFvy52 27 (by decide)).trans ((hFvy47 27 (by decide)).trans ((hFvy45 27 (by decide)).trans (fn ((hFvy28 27 (by decide)).trans (fn rfl (by decide))) (by decide)))))))))))))))))))
            have hey283 : Fvy234 28 = F 28 := ((hFvy234 28 (by decide)).trans ((hFvy230 28 (by decide)).trans ((hFvy228 28 (by decide)).trans ((hFvy223 28 (by decide)).trans ((hFvy221 28 (by decide)).trans ((hFvy216 28 (by decide)).trans ((hFvy214 28 (by decide)).trans ((hFvy206 28 (by decide)).trans ((hFvy204 28 (by decide)).trans ((hFvy202 28 (by decide)).trans ((hFvy200 28 (by decide)).trans ((hFvy198 28 (by decide)).trans ((hFvy59 28 (by decide)).trans ((hFvy54 28 (by decide)).trans ((hFvy52 28 (by decide)).trans ((hFvy47 28 (by decide)).trans ((hFvy45 28 (by decide)).trans (fn ((hFvy28 28 (by decide)).trans (fn rfl (by decide))) (by decide)))))))))))))))))))
            have hey284 : Fvy234 29 = F 29 := ((hFvy234 29 (by decide)).trans ((hFvy230 29 (by decide)).trans ((hFvy228 29 (by decide)).trans ((hFvy223 29 (by decide)).trans ((hFvy221 29 (by decide)).trans ((hFvy216 29 (by decide)).trans ((hFvy214 29 (by decide)).trans ((hFvy206 29 (by decide)).trans ((hFvy204 29 (by decide)).trans ((hFvy202 29 (by decide)).trans ((hFvy200 29 (by decide)).trans ((hFvy198 29 (by decide)).trans ((hFvy59 29 (by decide)).trans ((hFvy54 29 (by decide)).trans ((hFvy52 29 (by decide)).trans ((hFvy47 29 (by decide)).trans ((hFvy45 29 (by decide)).trans (fn ((hFvy28 29 (by decide)).trans (fn rfl (by decide))) (by decide)))))))))))))))))))
            have hKy285 : okF Fvy234 := okF.mv hM.2.1 hey271 hey272 hey273 hey274 hey275 hey276 hey277 hey278 hey279 hey280 hey281 hey282 hey283 hey284
            have hgy287 := (hfvy234 (i + 24) (ne_o (i := i) (c := 24) (d := 0) rfl)).trans htvy230
            have hMy286 : okMr cs ad gvy234 i (x + 1) Fvy234 r st op ai fa mu tb tp := okMr.upd hM hcvy234 hKy285 (fun f a => hFy270 f (by omega) (by omega)) hgy269 (hA.mono (by omega)) (fun j a b => by
                by_cases e0 : j = i + 24
                · exact Or.inr ⟨24, _, e0, lsP.l (by decide), by rw [e0]; exact hgy287⟩
                exact Or.inl (by rw [hfvy234 _ (by omega)]; rw [hfvy230 _ (by omega) (by omega)]; rw [hfvy228 _ (by omega) (by omega)]; rw [hfvy223 _ (by omega) (by omega)]; rw [hfvy221 _ (by omega) (by omega)]; rw [hfvy216 _ (by omega) (by omega)]; rw [hfvy214 _ (by omega) (by omega)]; rw [hfvy206 _ (by omega) (by omega)]; rw [hfvy204 _ (by omega) (by omega)]; rw [hfvy202 _ (by omega) (by omega)]; rw [hfvy200 _ (by omega) (by omega)]; rw [hfvy198 _ (by omega) (by omega)]; rw [hfvy59 _ (by omega) (by omega)]; rw [hfvy54 _ (by omega) (by omega)]; rw [hfvy52 _ (by omega) (by omega)]; rw [hfvy47 _ (by omega) (by omega)]; rw [hfvy45 _ (by omega) (by omega)]; rw [egy32, va_up_ne _ _ (by omega)]; rw [hfvy28 _ (by omega)]; rw [egy25, va_up_ne _ _ (by omega)]))
            have hkpy288 : Fvy234 13 = F 13 := ((hFvy234 13 (by decide)).trans ((hFvy230 13 (by decide)).trans ((hFvy228 13 (by decide)).trans ((hFvy223 13 (by decide)).trans ((hFvy221 13 (by decide)).trans ((hFvy216 13 (by decide)).trans ((hFvy214 13 (by decide)).trans ((hFvy206 13 (by decide)).trans ((hFvy204 13 (by decide)).trans ((hFvy202 13 (by decide)).trans ((hFvy200 13 (by decide)).trans ((hFvy198 13 (by decide)).trans ((hFvy59 13 (by decide)).trans ((hFvy54 13 (by decide)).trans ((hFvy52 13 (by decide)).trans ((hFvy47 13 (by decide)).trans ((hFvy45 13 (by decide)).trans (fn ((hFvy28 13 (by decide)).trans (fn rfl (by decide))) (by decide)))))))))))))))))))
            have hkpy289 : Fvy234 14 = F 14 := ((hFvy234 14 (by decide)).trans ((hFvy230 14 (by decide)).trans ((hFvy228 14 (by decide)).trans ((hFvy223 14 (by decide)).trans ((hFvy221 14 (by decide)).trans ((hFvy216 14 (by decide)).trans ((hFvy214 14 (by decide)).trans ((hFvy206 14 (by decide)).trans ((hFvy204 14 (by decide)).trans ((hFvy202 14 (by decide)).trans ((hFvy200 14 (by decide)).trans ((hFvy198 14 (by decide)).trans ((hFvy59 14 (by decide)).trans ((hFvy54 14 (by decide)).trans ((hFvy52 14 (by decide)).trans ((hFvy47 14 (by decide)).trans ((hFvy45 14 (by decide)).trans (fn ((hFvy28 14 (by decide)).trans (fn rfl (by decide))) (by decide)))))))))))))))))))
            have hkpy290 : Fvy234 17 = F 17 := ((hFvy234 17 (by decide)).trans ((hFvy230 17 (by decide)).trans ((hFvy228 17 (by decide)).trans ((hFvy223 17 (by decide)).trans ((hFvy221 17 (by decide)).trans ((hFvy216 17 (by decide)).trans ((hFvy214 17 (by decide)).trans ((hFvy206 17 (by decide)).trans ((hFvy204 17 (by decide)).trans ((hFvy202 17 (by decide)).trans ((hFvy200 17 (by decide)).trans ((hFvy198 17 (by decide)).trans ((hFvy59 17 (by decide)).trans ((hFvy54 17 (by decide)).trans ((hFvy52 17 (by decide)).trans ((hFvy47 17 (by decide)).trans ((hFvy45 17 (by decide)).trans (fn ((hFvy28 17 (by decide)).trans (fn rfl (by decide))) (by decide)))))))))))))))))))
            have hkpy291 : Fvy234 20 = F 20 := ((hFvy234 20 (by decide)).trans ((hFvy230 20 (by decide)).trans ((hFvy228 20 (by decide)).trans ((hFvy223 20 (by decide)).trans ((hFvy221 20 (by decide)).trans ((hFvy216 20 (by decide)).trans ((hFvy214 20 (by decide)).trans ((hFvy206 20 (by decide)).trans ((hFvy204 20 (by decide)).trans ((hFvy202 20 (by decide)).trans ((hFvy200 20 (by decide)).trans ((hFvy198 20 (by decide)).trans ((hFvy59 20 (by decide)).trans ((hFvy54 20 (by decide)).trans ((hFvy52 20 (by decide)).trans ((hFvy47 20 (by decide)).trans ((hFvy45 20 (by decide)).trans (fn ((hFvy28 20 (by decide)).trans (fn rfl (by decide))) (by decide)))))))))))))))))))
            have hkpy292 : Fvy234 21 = F 21 := ((hFvy234 21 (by decide)).trans ((hFvy230 21 (by decide)).trans ((hFvy228 21 (by decide)).trans ((hFvy223 21 (by decide)).trans ((hFvy221 21 (by decide)).trans ((hFvy216 21 (by decide)).trans ((hFvy214 21 (by decide)).trans ((hFvy206 21 (by decide)).trans ((hFvy204 21 (by decide)).trans ((hFvy202 21 (by decide)).trans ((hFvy200 21 (by decide)).trans ((hFvy198 21 (by decide)).trans ((hFvy59 21 (by decide)).trans ((hFvy54 21 (by decide)).trans ((hFvy52 21 (by decide)).trans ((hFvy47 21 (by decide)).trans ((hFvy45 21 (by decide)).trans (fn ((hFvy28 21 (by decide)).trans (fn rfl (by decide))) (by decide)))))))))))))))))))
            have hkpy293 : Fvy234 23 = F 23 := ((hFvy234 23 (by decide)).trans ((hFvy230 23 (by decide)).trans ((hFvy228 23 (by decide)).trans ((hFvy223 23 (by decide)).trans ((hFvy221 23 (by decide)).trans ((hFvy216 23 (by decide)).trans ((hFvy214 23 (by decide)).trans ((hFvy206 23 (by decide)).trans ((hFvy204 23 (by decide)).trans ((hFvy202 23 (by decide)).trans ((hFvy200 23 (by decide)).trans ((hFvy198 23 (by decide)).trans ((hFvy59 23 (by decide)).trans ((hFvy54 23 (by decide)).trans ((hFvy52 23 (by decide)).trans ((hFvy47 23 (by decide)).trans ((hFvy45 23 (by decide)).trans (fn ((hFvy28 23 (by decide)).trans (fn rfl (by decide))) (by decide)))))))))))))))))))
            have hkpy294 : Fvy234 24 = F 24 := ((hFvy234 24 (by decide)).trans ((hFvy230 24 (by decide)).trans ((hFvy228 24 (by decide)).trans ((hFvy223 24 (by decide)).trans ((hFvy221 24 (by decide)).trans ((hFvy216 24 (by decide)).trans ((hFvy214 24 (by decide)).trans ((hFvy206 24 (by decide)).trans ((hFvy204 24 (by decide)).trans ((hFvy202 24 (by decide)).trans ((hFvy200 24 (by decide)).trans ((hFvy198 24 (by decide)).trans ((hFvy59 24 (by decide)).trans ((hFvy54 24 (by decide)).trans ((hFvy52 24 (by decide)).trans ((hFvy47 24 (by decide)).trans ((hFvy45 24 (by decide)).trans (fn ((hFvy28 24 (by decide)).trans (fn rfl (by decide))) (by decide)))))))))))))))))))
            exact z_iret C hr hlk dX10_told_210 (by decide) (by decide) ⟨0, rfl, rfl, rfl, by omega, ⟨_, _, hMy286, ⟨hkpy288, hkpy289, hkpy290, hkpy291, hkpy292, hkpy293, hkpy294⟩⟩, fun j j1 => by rw [hfvy234 _ (by omega)]; rw [hfvy230 _ (by omega) (by omega)]; rw [hfvy228 _ (by omega) (by omega)]; rw [hfvy223 _ (by omega) (by omega)]; rw [hfvy221 _ (by omega) (by omega)]; rw [hfvy216 _ (by omega) (by omega)]; rw [hfvy214 _ (by omega) (by omega)]; rw [hfvy206 _ (by omega) (by omega)]; rw [hfvy204 _ (by omega) (by omega)]; rw [hfvy202 _ (by omega) (by omega)]; rw [hfvy200 _ (by omega) (by omega)]; rw [hfvy198 _ (by omega) (by omega)]; rw [hfvy59 _ (by omega) (by omega)]; rw [hfvy54 _ (by omega) (by omega)]; rw [hfvy52 _ (by omega) (by omega)]; rw [hfvy47 _ (by omega) (by omega)]; rw [hfvy45 _ (by omega) (by omega)]; rw [egy32, va_up_ne _ _ (by omega)]; rw [hfvy28 _ (by omega)]; rw [egy25, va_up_ne _ _ (by omega)]⟩
        · refine z_iconst (z := 1) C dX10_told_193 rfl ?_
          have hey296 : Fvy230 12 = Fvy28 12 := ((hFvy230 12 (by decide)).trans ((hFvy228 12 (by decide)).trans ((hFvy223 12 (by decide)).trans ((hFvy221 12 (by decide)).trans ((hFvy216 12 (by decide)).trans ((hFvy214 12 (by decide)).trans ((hFvy206 12 (by decide)).trans ((hFvy204 12 (by decide)).trans ((hFvy202 12 (by decide)).trans ((hFvy200 12 (by decide)).trans ((hFvy198 12 (by decide)).trans ((hFvy59 12 (by decide)).trans ((hFvy54 12 (by decide)).trans ((hFvy52 12 (by decide)).trans ((hFvy47 12 (by decide)).trans ((hFvy45 12 (by decide)).trans (fn rfl (by decide))))))))))))))))))
          refine z_cV (As := [.int (zI (0)), .int (zI (1))]) (rest := []) (ci := 12) C (c_X10_right l D A cs tt N ad _ i hN _ hcvy230 (by omega) (0) (by omega) (1) (by omega)) (lt_A0 hN rfl) hay1 hcvy230 rfl rfl mv_yX10_right q_1648 hd_yX10_right (by decide) (Nat.le_of_ble_eq_true rfl) (by decide) dX10_told_194 rfl (kI0 fun vy295 gvy295 hvy295 => ?_)
          obtain ⟨hrvy295, ⟨Fvy295, hcvy295, htvy295, hFvy295⟩, hfvy295⟩ := hvy295
          obtain rfl : vy295 = 0 := by omega
          refine z_if_eq (tgt := 209) C dX10_told_197 (by decide) (by omega) (fun _ => ?_) (fun h => absurd h (by omega))
          refine z_iconst (z := 0) C dX10_told_209 rfl ?_
          have hgy297 := (hfvy228 (i + 1) (ne_o (i := i) (c := 1) (d := 0) rfl) (ne_o (i := i) (c := 1) (d := 24) rfl)).trans hgy226
          have hgy298 := (hfvy230 (i + 1) (ne_o (i := i) (c := 1) (d := 0) rfl) (ne_o (i := i) (c := 1) (d := 24) rfl)).trans hgy297
          have hgy299 := (hfvy295 (i + 1) (ne_o (i := i) (c := 1) (d := 0) rfl)).trans hgy298
          have hFy300 : ∀ f, f ≠ 12 → f ≠ 51 → Fvy295 f = F f := fun f n12 n51 => ((hFvy295 f n12).trans ((hFvy230 f n51).trans ((hFvy228 f n51).trans ((hFvy223 f n51).trans ((hFvy221 f n51).trans ((hFvy216 f n51).trans ((hFvy214 f n51).trans ((hFvy206 f n51).trans ((hFvy204 f n51).trans ((hFvy202 f n51).trans ((hFvy200 f n51).trans ((hFvy198 f n51).trans ((hFvy59 f n51).trans ((hFvy54 f n51).trans ((hFvy52 f n51).trans ((hFvy47 f n51).trans ((hFvy45 f n51).trans ((uZ_n _ _ n51).trans ((hFvy28 f n12).trans ((uZ_n _ _ n12).trans rfl))))))))))))))))))))
          have hey301 : Fvy295 13 = F 13 := ((hFvy295 13 (by decide)).trans ((hFvy230 13 (by decide)).trans ((hFvy228 13 (by decide)).trans ((hFvy223 13 (by decide)).trans ((hFvy221 13 (by decide)).trans ((hFvy216 13 (by decide)).trans ((hFvy214 13 (by decide)).trans ((hFvy206 13 (by decide)).trans ((hFvy204 13 (by decide)).trans ((hFvy202 13 (by decide)).trans ((hFvy200 13 (by decide)).trans ((hFvy198 13 (by decide)).trans ((hFvy59 13 (by decide)).trans ((hFvy54 13 (by decide)).trans ((hFvy52 13 (by decide)).trans ((hFvy47 13 (by decide)).trans ((hFvy45 13 (by decide)).trans (fn ((hFvy28 13 (by decide)).trans (fn rfl (by decide))) (by decide)))))))))))))))))))
          have hey302 : Fvy295 14 = F 14 := ((hFvy295 14 (by decide)).trans ((hFvy230 14 (by decide)).trans ((hFvy228 14 (by decide)).trans ((hFvy223 14 (by decide)).trans ((hFvy221 14 (by decide)).trans ((hFvy216 14 (by decide)).trans ((hFvy214 14 (by decide)).trans ((hFvy206 14 (by decide)).trans ((hFvy204 14 (by decide)).trans ((hFvy202 14 (by decide)).trans ((hFvy200 14 (by decide)).trans ((hFvy198 14 (by decide)).trans ((hFvy59 14 (by decide)).trans ((hFvy54 14 (by decide)).trans ((hFvy52 14 (by decide)).trans ((hFvy47 14 (by decide)).trans ((hFvy45 14 (by decide)).trans (fn ((hFvy28 14 (by decide)).trans (fn rfl (by decide))) (by decide)))))))))))))))))))
          have hey303 : Fvy295 15 = F 15 := ((hFvy295 15 (by decide)).trans ((hFvy230 15 (by decide)).trans ((hFvy228 15 (by decide)).trans ((hFvy223 15 (by decide)).trans ((hFvy221 15 (by decide)).trans ((hFvy216 15 (by decide)).trans ((hFvy214 15 (by decide)).trans ((hFvy206 15 (by decide)).trans ((hFvy204 15 (by decide)).trans ((hFvy202 15 (by decide)).trans ((hFvy200 15 (by decide)).trans ((hFvy198 15 (by decide)).trans ((hFvy59 15 (by decide)).trans ((hFvy54 15 (by decide)).trans ((hFvy52 15 (by decide)).trans ((hFvy47 15 (by decide)).trans ((hFvy45 15 (by decide)).trans (fn ((hFvy28 15 (by decide)).trans (fn rfl (by decide))) (by decide)))))))))))))))))))
          have hey304 : Fvy295 16 = F 16 := ((hFvy295 16 (by decide)).trans ((hFvy230 16 (by decide)).trans ((hFvy228 16 (by decide)).trans ((hFvy223 16 (by decide)).trans ((hFvy221 16 (by decide)).trans ((hFvy216 16 (by decide)).trans ((hFvy214 16 (by decide)).trans ((hFvy206 16 (by decide)).trans ((hFvy204 16 (by decide)).trans ((hFvy202 16 (by decide)).trans ((hFvy200 16 (by decide)).trans ((hFvy198 16 (by decide)).trans ((hFvy59 16 (by decide)).trans ((hFvy54 16 (by decide)).trans ((hFvy52 16 (by decide)).trans ((hFvy47 16 (by decide)).trans ((hFvy45 16 (by decide)).trans (fn ((hFvy28 16 (by decide)).trans (fn rfl (by decide))) (by decide)))))))))))))))))))
          have hey305 : Fvy295 17 = F 17 := ((hFvy295 17 (by decide)).trans ((hFvy230 17 (by decide)).trans ((hFvy228 17 (by decide)).trans ((hFvy223 17 (by decide)).trans ((hFvy221 17 (by decide)).trans ((hFvy216 17 (by decide)).trans ((hFvy214 17 (by decide)).trans ((hFvy206 17 (by decide)).trans ((hFvy204 17 (by decide)).trans ((hFvy202 17 (by decide)).trans ((hFvy200 17 (by decide)).trans ((hFvy198 17 (by decide)).trans ((hFvy59 17 (by decide)).trans ((hFvy54 17 (by decide)).trans ((hFvy52 17 (by decide)).trans ((hFvy47 17 (by decide)).trans ((hFvy45 17 (by decide)).trans (fn ((hFvy28 17 (by decide)).trans (fn rfl (by decide))) (by decide)))))))))))))))))))
          have hey306 : Fvy295 18 = F 18 := ((hFvy295 18 (by decide)).trans ((hFvy230 18 (by decide)).trans ((hFvy228 18 (by decide)).trans ((hFvy223 18 (by decide)).trans ((hFvy221 18 (by decide)).trans ((hFvy216 18 (by decide)).trans ((hFvy214 18 (by decide)).trans ((hFvy206 18 (by decide)).trans ((hFvy204 18 (by decide)).trans ((hFvy202 18 (by decide)).trans ((hFvy200 18 (by decide)).trans ((hFvy198 18 (by decide)).trans ((hFvy59 18 (by decide)).trans ((hFvy54 18 (by decide)).trans ((hFvy52 18 (by decide)).trans ((hFvy47 18 (by decide)).trans ((hFvy45 18 (by decide)).trans (fn ((hFvy28 18 (by decide)).trans (fn rfl (by decide))) (by decide)))))))))))))))))))
          have hey307 : Fvy295 19 = F 19 := ((hFvy295 19 (by decide)).trans ((hFvy230 19 (by decide)).trans ((hFvy228 19 (by decide)).trans ((hFvy223 19 (by decide)).trans ((hFvy221 19 (by decide)).trans ((hFvy216 19 (by decide)).trans ((hFvy214 19 (by decide)).trans ((hFvy206 19 (by decide)).trans ((hFvy204 19 (by decide)).trans ((hFvy202 19 (by decide)).trans ((hFvy200 19 (by decide)).trans ((hFvy198 19 (by decide)).trans ((hFvy59 19 (by decide)).trans ((hFvy54 19 (by decide)).trans ((hFvy52 19 (by decide)).trans ((hFvy47 19 (by decide)).trans ((hFvy45 19 (by decide)).trans (fn ((hFvy28 19 (by decide)).trans (fn rfl (by decide))) (by decide)))))))))))))))))))
          have hey308 : Fvy295 20 = F 20 := ((hFvy295 20 (by decide)).trans ((hFvy230 20 (by decide)).trans ((hFvy228 20 (by decide)).trans ((hFvy223 20 (by decide)).trans ((hFvy221 20 (by decide)).trans ((hFvy216 20 (by decide)).trans ((hFvy214 20 (by decide)).trans ((hFvy206 20 (by decide)).trans ((hFvy204 20 (by decide)).trans ((hFvy202 20 (by decide)).trans ((hFvy200 20 (by decide)).trans ((hFvy198 20 (by decide)).trans ((hFvy59 20 (by decide)).trans ((hFvy54 20 (by decide)).trans ((hFvy52 20 (by decide)).trans ((hFvy47 20 (by decide)).trans ((hFvy45 20 (by decide)).trans (fn ((hFvy28 20 (by decide)).trans (fn rfl (by decide))) (by decide)))))))))))))))))))
          have hey309 : Fvy295 21 = F 21 := ((hFvy295 21 (by decide)).trans ((hFvy230 21 (by decide)).trans ((hFvy228 21 (by decide)).trans ((hFvy223 21 (by decide)).trans ((hFvy221 21 (by decide)).trans ((hFvy216 21 (by decide)).trans ((hFvy214 21 (by decide)).trans ((hFvy206 21 (by decide)).trans ((hFvy204 21 (by decide)).trans ((hFvy202 21 (by decide)).trans ((hFvy200 21 (by decide)).trans ((hFvy198 21 (by decide)).trans ((hFvy59 21 (by decide)).trans ((hFvy54 21 (by decide)).trans ((hFvy52 21 (by decide)).trans ((hFvy47 21 (by decide)).trans ((hFvy45 21 (by decide)).trans (fn ((hFvy28 21 (by decide)).trans (fn rfl (by decide))) (by decide)))))))))))))))))))
          have hey310 : Fvy295 23 = F 23 := ((hFvy295 23 (by decide)).trans ((hFvy230 23 (by decide)).trans ((hFvy228 23 (by decide)).trans ((hFvy223 23 (by decide)).trans ((hFvy221 23 (by decide)).trans ((hFvy216 23 (by decide)).trans ((hFvy214 23 (by decide)).trans ((hFvy206 23 (by decide)).trans ((hFvy204 23 (by decide)).trans ((hFvy202 23 (by decide)).trans ((hFvy200 23 (by decide)).trans ((hFvy198 23 (by decide)).trans ((hFvy59 23 (by decide)).trans ((hFvy54 23 (by decide)).trans ((hFvy52 23 (by decide)).trans ((hFvy47 23 (by decide)).trans ((hFvy45 23 (by decide)).trans (fn ((hFvy28 23 (by decide)).trans (fn rfl (by decide))) (by decide)))))))))))))))))))
          have hey311 : Fvy295 25 = F 25 := ((hFvy295 25 (by decide)).trans ((hFvy230 25 (by decide)).trans ((hFvy228 25 (by decide)).trans ((hFvy223 25 (by decide)).trans ((hFvy221 25 (by decide)).trans ((hFvy216 25 (by decide)).trans ((hFvy214 25 (by decide)).trans ((hFvy206 25 (by decide)).trans ((hFvy204 25 (by decide)).trans ((hFvy202 25 (by decide)).trans ((hFvy200 25 (by decide)).trans ((hFvy198 25 (by decide)).trans ((hFvy59 25 (by decide)).trans ((hFvy54 25 (by decide)).trans ((hFvy52 25 (by decide)).trans ((hFvy47 25 (by decide)).trans ((hFvy45 25 (by decide)).trans (fn ((hFvy28 25 (by decide)).trans (fn rfl (by decide))) (by decide)))))))))))))))))))
          have hey312 : Fvy295 27 = F 27 := ((hFvy295 27 (by decide)).trans ((hFvy230 27 (by decide)).trans ((hFvy228 27 (by decide)).trans ((hFvy223 27 (by decide)).trans ((hFvy221 27 (by decide)).trans ((hFvy216 27 (by decide)).trans ((hFvy214 27 (by decide)).trans ((hFvy206 27 (by decide)).trans ((hFvy204 27 (by decide)).trans ((hFvy202 27 (by decide)).trans ((hFvy200 27 (by decide)).trans ((hFvy198 27 (by decide)).trans ((hFvy59 27 (by decide)).trans ((hFvy54 27 (by decide)).trans ((hFvy52 27 (by decide)).trans ((hFvy47 27 (by decide)).trans ((hFvy45 27 (by decide)).trans (fn ((hFvy28 27 (by decide)).trans (fn rfl (by decide))) (by decide)))))))))))))))))))
          have hey313 : Fvy295 28 = F 28 := ((hFvy295 28 (by decide)).trans ((hFvy230 28 (by decide)).trans ((hFvy228 28 (by decide)).trans ((hFvy223 28 (by decide)).trans ((hFvy221 28 (by decide)).trans ((hFvy216 28 (by decide)).trans ((hFvy214 28 (by decide)).trans ((hFvy206 28 (by decide)).trans ((hFvy204 28 (by decide)).trans ((hFvy202 28 (by decide)).trans ((hFvy200 28 (by decide)).trans ((hFvy198 28 (by decide)).trans ((hFvy59 28 (by decide)).trans ((hFvy54 28 (by decide)).trans ((hFvy52 28 (by decide)).trans ((hFvy47 28 (by decide)).trans ((hFvy45 28 (by decide)).trans (fn ((hFvy28 28 (by decide)).trans (fn rfl (by decide))) (by decide)))))))))))))))))))
          have hey314 : Fvy295 29 = F 29 := ((hFvy295 29 (by decide)).trans ((hFvy230 29 (by decide)).trans ((hFvy228 29 (by decide)).trans ((hFvy223 29 (by decide)).trans ((hFvy221 29 (by decide)).trans ((hFvy216 29 (by decide)).trans ((hFvy214 29 (by decide)).trans ((hFvy206 29 (by decide)).trans ((hFvy204 29 (by decide)).trans ((hFvy202 29 (by decide)).trans ((hFvy200 29 (by decide)).trans ((hFvy198 29 (by decide)).trans ((hFvy59 29 (by decide)).trans ((hFvy54 29 (by decide)).trans ((hFvy52 29 (by decide)).trans ((hFvy47 29 (by decide)).trans ((hFvy45 29 (by decide)).trans (fn ((hFvy28 29 (by decide)).trans (fn rfl (by decide))) (by decide)))))))))))))))))))
          have hKy315 : okF Fvy295 := okF.mv hM.2.1 hey301 hey302 hey303 hey304 hey305 hey306 hey307 hey308 hey309 hey310 hey311 hey312 hey313 hey314
          have hgy317 := (hfvy295 (i + 24) (ne_o (i := i) (c := 24) (d := 0) rfl)).trans htvy230
          have hMy316 : okMr cs ad gvy295 i (x + 1) Fvy295 r st op ai fa mu tb tp := okMr.upd hM hcvy295 hKy315 (fun f a => hFy300 f (by omega) (by omega)) hgy299 (hA.mono (by omega)) (fun j a b => by
              by_cases e0 : j = i + 24
              · exact Or.inr ⟨24, _, e0, lsP.l (by decide), by rw [e0]; exact hgy317⟩
              exact Or.inl (by rw [hfvy295 _ (by omega)]; rw [hfvy230 _ (by omega) (by omega)]; rw [hfvy228 _ (by omega) (by omega)]; rw [hfvy223 _ (by omega) (by omega)]; rw [hfvy221 _ (by omega) (by omega)]; rw [hfvy216 _ (by omega) (by omega)]; rw [hfvy214 _ (by omega) (by omega)]; rw [hfvy206 _ (by omega) (by omega)]; rw [hfvy204 _ (by omega) (by omega)]; rw [hfvy202 _ (by omega) (by omega)]; rw [hfvy200 _ (by omega) (by omega)]; rw [hfvy198 _ (by omega) (by omega)]; rw [hfvy59 _ (by omega) (by omega)]; rw [hfvy54 _ (by omega) (by omega)]; rw [hfvy52 _ (by omega) (by omega)]; rw [hfvy47 _ (by omega) (by omega)]; rw [hfvy45 _ (by omega) (by omega)]; rw [egy32, va_up_ne _ _ (by omega)]; rw [hfvy28 _ (by omega)]; rw [egy25, va_up_ne _ _ (by omega)]))
          have hkpy318 : Fvy295 13 = F 13 := ((hFvy295 13 (by decide)).trans ((hFvy230 13 (by decide)).trans ((hFvy228 13 (by decide)).trans ((hFvy223 13 (by decide)).trans ((hFvy221 13 (by decide)).trans ((hFvy216 13 (by decide)).trans ((hFvy214 13 (by decide)).trans ((hFvy206 13 (by decide)).trans ((hFvy204 13 (by decide)).trans ((hFvy202 13 (by decide)).trans ((hFvy200 13 (by decide)).trans ((hFvy198 13 (by decide)).trans ((hFvy59 13 (by decide)).trans ((hFvy54 13 (by decide)).trans ((hFvy52 13 (by decide)).trans ((hFvy47 13 (by decide)).trans ((hFvy45 13 (by decide)).trans (fn ((hFvy28 13 (by decide)).trans (fn rfl (by decide))) (by decide)))))))))))))))))))
          have hkpy319 : Fvy295 14 = F 14 := ((hFvy295 14 (by decide)).trans ((hFvy230 14 (by decide)).trans ((hFvy228 14 (by decide)).trans ((hFvy223 14 (by decide)).trans ((hFvy221 14 (by decide)).trans ((hFvy216 14 (by decide)).trans ((hFvy214 14 (by decide)).trans ((hFvy206 14 (by decide)).trans ((hFvy204 14 (by decide)).trans ((hFvy202 14 (by decide)).trans ((hFvy200 14 (by decide)).trans ((hFvy198 14 (by decide)).trans ((hFvy59 14 (by decide)).trans ((hFvy54 14 (by decide)).trans ((hFvy52 14 (by decide)).trans ((hFvy47 14 (by decide)).trans ((hFvy45 14 (by decide)).trans (fn ((hFvy28 14 (by decide)).trans (fn rfl (by decide))) (by decide)))))))))))))))))))
          have hkpy320 : Fvy295 17 = F 17 := ((hFvy295 17 (by decide)).trans ((hFvy230 17 (by decide)).trans ((hFvy228 17 (by decide)).trans ((hFvy223 17 (by decide)).trans ((hFvy221 17 (by decide)).trans ((hFvy216 17 (by decide)).trans ((hFvy214 17 (by decide)).trans ((hFvy206 17 (by decide)).trans ((hFvy204 17 (by decide)).trans ((hFvy202 17 (by decide)).trans ((hFvy200 17 (by decide)).trans ((hFvy198 17 (by decide)).trans ((hFvy59 17 (by decide)).trans ((hFvy54 17 (by decide)).trans ((hFvy52 17 (by decide)).trans ((hFvy47 17 (by decide)).trans ((hFvy45 17 (by decide)).trans (fn ((hFvy28 17 (by decide)).trans (fn rfl (by decide))) (by decide)))))))))))))))))))
          have hkpy321 : Fvy295 20 = F 20 := ((hFvy295 20 (by decide)).trans ((hFvy230 20 (by decide)).trans ((hFvy228 20 (by decide)).trans ((hFvy223 20 (by decide)).trans ((hFvy221 20 (by decide)).trans ((hFvy216 20 (by decide)).trans ((hFvy214 20 (by decide)).trans ((hFvy206 20 (by decide)).trans ((hFvy204 20 (by decide)).trans ((hFvy202 20 (by decide)).trans ((hFvy200 20 (by decide)).trans ((hFvy198 20 (by decide)).trans ((hFvy59 20 (by decide)).trans ((hFvy54 20 (by decide)).trans ((hFvy52 20 (by decide)).trans ((hFvy47 20 (by decide)).trans ((hFvy45 20 (by decide)).trans (fn ((hFvy28 20 (by decide)).trans (fn rfl (by decide))) (by decide)))))))))))))))))))
          have hkpy322 : Fvy295 21 = F 21 := ((hFvy295 21 (by decide)).trans ((hFvy230 21 (by decide)).trans ((hFvy228 21 (by decide)).trans ((hFvy223 21 (by decide)).trans ((hFvy221 21 (by decide)).trans ((hFvy216 21 (by decide)).trans ((hFvy214 21 (by decide)).trans ((hFvy206 21 (by decide)).trans ((hFvy204 21 (by decide)).trans ((hFvy202 21 (by decide)).trans ((hFvy200 21 (by decide)).trans ((hFvy198 21 (by decide)).trans ((hFvy59 21 (by decide)).trans ((hFvy54 21 (by decide)).trans ((hFvy52 21 (by decide)).trans ((hFvy47 21 (by decide)).trans ((hFvy45 21 (by decide)).trans (fn ((hFvy28 21 (by decide)).trans (fn rfl (by decide))) (by decide)))))))))))))))))))
          have hkpy323 : Fvy295 23 = F 23 := ((hFvy295 23 (by decide)).trans ((hFvy230 23 (by decide)).trans ((hFvy228 23 (by decide)).trans ((hFvy223 23 (by decide)).trans ((hFvy221 23 (by decide)).trans ((hFvy216 23 (by decide)).trans ((hFvy214 23 (by decide)).trans ((hFvy206 23 (by decide)).trans ((hFvy204 23 (by decide)).trans ((hFvy202 23 (by decide)).trans ((hFvy200 23 (by decide)).trans ((hFvy198 23 (by decide)).trans ((hFvy59 23 (by decide)).trans ((hFvy54 23 (by decide)).trans ((hFvy52 23 (by decide)).trans ((hFvy47 23 (by decide)).trans ((hFvy45 23 (by decide)).trans (fn ((hFvy28 23 (by decide)).trans (fn rfl (by decide))) (by decide)))))))))))))))))))
          have hkpy324 : Fvy295 24 = F 24 := ((hFvy295 24 (by decide)).trans ((hFvy230 24 (by decide)).trans ((hFvy228 24 (by decide)).trans ((hFvy223 24 (by decide)).trans ((hFvy221 24 (by decide)).trans ((hFvy216 24 (by decide)).trans ((hFvy214 24 (by decide)).trans ((hFvy206 24 (by decide)).trans ((hFvy204 24 (by decide)).trans ((hFvy202 24 (by decide)).trans ((hFvy200 24 (by decide)).trans ((hFvy198 24 (by decide)).trans ((hFvy59 24 (by decide)).trans ((hFvy54 24 (by decide)).trans ((hFvy52 24 (by decide)).trans ((hFvy47 24 (by decide)).trans ((hFvy45 24 (by decide)).trans (fn ((hFvy28 24 (by decide)).trans (fn rfl (by decide))) (by decide)))))))))))))))))))
          exact z_iret C hr hlk dX10_told_210 (by decide) (by decide) ⟨0, rfl, rfl, rfl, by omega, ⟨_, _, hMy316, ⟨hkpy318, hkpy319, hkpy320, hkpy321, hkpy322, hkpy323, hkpy324⟩⟩, fun j j1 => by rw [hfvy295 _ (by omega)]; rw [hfvy230 _ (by omega) (by omega)]; rw [hfvy228 _ (by omega) (by omega)]; rw [hfvy223 _ (by omega) (by omega)]; rw [hfvy221 _ (by omega) (by omega)]; rw [hfvy216 _ (by omega) (by omega)]; rw [hfvy214 _ (by omega) (by omega)]; rw [hfvy206 _ (by omega) (by omega)]; rw [hfvy204 _ (by omega) (by omega)]; rw [hfvy202 _ (by omega) (by omega)]; rw [hfvy200 _ (by omega) (by omega)]; rw [hfvy198 _ (by omega) (by omega)]; rw [hfvy59 _ (by omega) (by omega)]; rw [hfvy54 _ (by omega) (by omega)]; rw [hfvy52 _ (by omega) (by omega)]; rw [hfvy47 _ (by omega) (by omega)]; rw [hfvy45 _ (by omega) (by omega)]; rw [egy32, va_up_ne _ _ (by omega)]; rw [hfvy28 _ (by omega)]; rw [egy25, va_up_ne _ _ (by omega)]⟩
      · refine z_aload_n C 0 dX10_told_176 rfl ?_
        refine z_get (v := .int (zI (Fvy228 51 + 1))) C (lt_A0 hN rfl) hay1 hcvy230 rfl inA_X10 51 (by decide) q_1510 rfl (fv (F := Fvy230) (f := 51) hqvy230) dX10_told_177 ?_
        have hgy325 := (hfvy228 (i + 1) (ne_o (i := i) (c := 1) (d := 0) rfl) (ne_o (i := i) (c := 1) (d := 24) rfl)).trans hgy226
        have hgy326 := (hfvy230 (i + 1) (ne_o (i := i) (c := 1) (d := 0) rfl) (ne_o (i := i) (c := 1) (d := 24) rfl)).trans hgy325
        have hFy327 : ∀ f, f ≠ 12 → f ≠ 51 → Fvy230 f = F f := fun f n12 n51 => ((hFvy230 f n51).trans ((hFvy228 f n51).trans ((hFvy223 f n51).trans ((hFvy221 f n51).trans ((hFvy216 f n51).trans ((hFvy214 f n51).trans ((hFvy206 f n51).trans ((hFvy204 f n51).trans ((hFvy202 f n51).trans ((hFvy200 f n51).trans ((hFvy198 f n51).trans ((hFvy59 f n51).trans ((hFvy54 f n51).trans ((hFvy52 f n51).trans ((hFvy47 f n51).trans ((hFvy45 f n51).trans ((uZ_n _ _ n51).trans ((hFvy28 f n12).trans ((uZ_n _ _ n12).trans rfl)))))))))))))))))))
        have hey328 : Fvy230 13 = F 13 := ((hFvy230 13 (by decide)).trans ((hFvy228 13 (by decide)).trans ((hFvy223 13 (by decide)).trans ((hFvy221 13 (by decide)).trans ((hFvy216 13 (by decide)).trans ((hFvy214 13 (by decide)).trans ((hFvy206 13 (by decide)).trans ((hFvy204 13 (by decide)).trans ((hFvy202 13 (by decide)).trans ((hFvy200 13 (by decide)).trans ((hFvy198 13 (by decide)).trans ((hFvy59 13 (by decide)).trans ((hFvy54 13 (by decide)).trans ((hFvy52 13 (by decide)).trans ((hFvy47 13 (by decide)).trans ((hFvy45 13 (by decide)).trans (fn ((hFvy28 13 (by decide)).trans (fn rfl (by decide))) (by decide))))))))))))))))))
        have hey329 : Fvy230 14 = F 14 := ((hFvy230 14 (by decide)).trans ((hFvy228 14 (by decide)).trans ((hFvy223 14 (by decide)).trans ((hFvy221 14 (by decide)).trans ((hFvy216 14 (by decide)).trans ((hFvy214 14 (by decide)).trans ((hFvy206 14 (by decide)).trans ((hFvy204 14 (by decide)).trans ((hFvy202 14 (by decide)).trans ((hFvy200 14 (by decide)).trans ((hFvy198 14 (by decide)).trans ((hFvy59 14 (by decide)).trans ((hFvy54 14 (by decide)).trans ((hFvy52 14 (by decide)).trans ((hFvy47 14 (by decide)).trans ((hFvy45 14 (by decide)).trans (fn ((hFvy28 14 (by decide)).trans (fn rfl (by decide))) (by decide))))))))))))))))))
        have hey330 : Fvy230 15 = F 15 := ((hFvy230 15 (by decide)).trans ((hFvy228 15 (by decide)).trans ((hFvy223 15 (by decide)).trans ((hFvy221 15 (by decide)).trans ((hFvy216 15 (by decide)).trans ((hFvy214 15 (by decide)).trans ((hFvy206 15 (by decide)).trans ((hFvy204 15 (by decide)).trans ((hFvy202 15 (by decide)).trans ((hFvy200 15 (by decide)).trans ((hFvy198 15 (by decide)).trans ((hFvy59 15 (by decide)).trans ((hFvy54 15 (by decide)).trans ((hFvy52 15 (by decide)).trans ((hFvy47 15 (by decide)).trans ((hFvy45 15 (by decide)).trans (fn ((hFvy28 15 (by decide)).trans (fn rfl (by decide))) (by decide))))))))))))))))))
        have hey331 : Fvy230 16 = F 16 := ((hFvy230 16 (by decide)).trans ((hFvy228 16 (by decide)).trans ((hFvy223 16 (by decide)).trans ((hFvy221 16 (by decide)).trans ((hFvy216 16 (by decide)).trans ((hFvy214 16 (by decide)).trans ((hFvy206 16 (by decide)).trans ((hFvy204 16 (by decide)).trans ((hFvy202 16 (by decide)).trans ((hFvy200 16 (by decide)).trans ((hFvy198 16 (by decide)).trans ((hFvy59 16 (by decide)).trans ((hFvy54 16 (by decide)).trans ((hFvy52 16 (by decide)).trans ((hFvy47 16 (by decide)).trans ((hFvy45 16 (by decide)).trans (fn ((hFvy28 16 (by decide)).trans (fn rfl (by decide))) (by decide))))))))))))))))))
        have hey332 : Fvy230 17 = F 17 := ((hFvy230 17 (by decide)).trans ((hFvy228 17 (by decide)).trans ((hFvy223 17 (by decide)).trans ((hFvy221 17 (by decide)).trans ((hFvy216 17 (by decide)).trans ((hFvy214 17 (by decide)).trans ((hFvy206 17 (by decide)).trans ((hFvy204 17 (by decide)).trans ((hFvy202 17 (by decide)).trans ((hFvy200 17 (by decide)).trans ((hFvy198 17 (by decide)).trans ((hFvy59 17 (by decide)).trans ((hFvy54 17 (by decide)).trans ((hFvy52 17 (by decide)).trans ((hFvy47 17 (by decide)).trans ((hFvy45 17 (by decide)).trans (fn ((hFvy28 17 (by decide)).trans (fn rfl (by decide))) (by decide))))))))))))))))))
        have hey333 : Fvy230 18 = F 18 := ((hFvy230 18 (by decide)).trans ((hFvy228 18 (by decide)).trans ((hFvy223 18 (by decide)).trans ((hFvy221 18 (by decide)).trans ((hFvy216 18 (by decide)).trans ((hFvy214 18 (by decide)).trans ((hFvy206 18 (by decide)).trans ((hFvy204 18 (by decide)).trans ((hFvy202 18 (by decide)).trans ((hFvy200 18 (by decide)).trans ((hFvy198 18 (by decide)).trans ((hFvy59 18 (by decide)).trans ((hFvy54 18 (by decide)).trans ((hFvy52 18 (by decide)).trans ((hFvy47 18 (by decide)).trans ((hFvy45 18 (by decide)).trans (fn ((hFvy28 18 (by decide)).trans (fn rfl (by decide))) (by decide))))))))))))))))))
        have hey334 : Fvy230 19 = F 19 := ((hFvy230 19 (by decide)).trans ((hFvy228 19 (by decide)).trans ((hFvy223 19 (by decide)).trans ((hFvy221 19 (by decide)).trans ((hFvy216 19 (by decide)).trans ((hFvy214 19 (by decide)).trans ((hFvy206 19 (by decide)).trans ((hFvy204 19 (by decide)).trans ((hFvy202 19 (by decide)).trans ((hFvy200 19 (by decide)).trans ((hFvy198 19 (by decide)).trans ((hFvy59 19 (by decide)).trans ((hFvy54 19 (by decide)).trans ((hFvy52 19 (by decide)).trans ((hFvy47 19 (by decide)).trans ((hFvy45 19 (by decide)).trans (fn ((hFvy28 19 (by decide)).trans (fn rfl (by decide))) (by decide))))))))))))))))))
        have hey335 : Fvy230 20 = F 20 := ((hFvy230 20 (by decide)).trans ((hFvy228 20 (by decide)).trans ((hFvy223 20 (by decide)).trans ((hFvy221 20 (by decide)).trans ((hFvy216 20 (by decide)).trans ((hFvy214 20 (by decide)).trans ((hFvy206 20 (by decide)).trans ((hFvy204 20 (by decide)).trans ((hFvy202 20 (by decide)).trans ((hFvy200 20 (by decide)).trans ((hFvy198 20 (by decide)).trans ((hFvy59 20 (by decide)).trans ((hFvy54 20 (by decide)).trans ((hFvy52 20 (by decide)).trans ((hFvy47 20 (by decide)).trans ((hFvy45 20 (by decide)).trans (fn ((hFvy28 20 (by decide)).trans (fn rfl (by decide))) (by decide))))))))))))))))))
        have hey336 : Fvy230 21 = F 21 := ((hFvy230 21 (by decide)).trans ((hFvy228 21 (by decide)).trans ((hFvy223 21 (by decide)).trans ((hFvy221 21 (by decide)).trans ((hFvy216 21 (by decide)).trans ((hFvy214 21 (by decide)).trans ((hFvy206 21 (by decide)).trans ((hFvy204 21 (by decide)).trans ((hFvy202 21 (by decide)).trans ((hFvy200 21 (by decide)).trans ((hFvy198 21 (by decide)).trans ((hFvy59 21 (by decide)).trans ((hFvy54 21 (by decide)).trans ((hFvy52 21 (by decide)).trans ((hFvy47 21 (by decide)).trans ((hFvy45 21 (by decide)).trans (fn ((hFvy28 21 (by decide)).trans (fn rfl (by decide))) (by decide))))))))))))))))))
        have hey337 : Fvy230 23 = F 23 := ((hFvy230 23 (by decide)).trans ((hFvy228 23 (by decide)).trans ((hFvy223 23 (by decide)).trans ((hFvy221 23 (by decide)).trans ((hFvy216 23 (by decide)).trans ((hFvy214 23 (by decide)).trans ((hFvy206 23 (by decide)).trans ((hFvy204 23 (by decide)).trans ((hFvy202 23 (by decide)).trans ((hFvy200 23 (by decide)).trans ((hFvy198 23 (by decide)).trans ((hFvy59 23 (by decide)).trans ((hFvy54 23 (by decide)).trans ((hFvy52 23 (by decide)).trans ((hFvy47 23 (by decide)).trans ((hFvy45 23 (by decide)).trans (fn ((hFvy28 23 (by decide)).trans (fn rfl (by decide))) (by decide))))))))))))))))))
        have hey338 : Fvy230 25 = F 25 := ((hFvy230 25 (by decide)).trans ((hFvy228 25 (by decide)).trans ((hFvy223 25 (by decide)).trans ((hFvy221 25 (by decide)).trans ((hFvy216 25 (by decide)).trans ((hFvy214 25 (by decide)).trans ((hFvy206 25 (by decide)).trans ((hFvy204 25 (by decide)).trans ((hFvy202 25 (by decide)).trans ((hFvy200 25 (by decide)).trans ((hFvy198 25 (by decide)).trans ((hFvy59 25 (by decide)).trans ((hFvy54 25 (by decide)).trans ((hFvy52 25 (by decide)).trans ((hFvy47 25 (by decide)).trans ((hFvy45 25 (by decide)).trans (fn ((hFvy28 25 (by decide)).trans (fn rfl (by decide))) (by decide))))))))))))))))))
        have hey339 : Fvy230 27 = F 27 := ((hFvy230 27 (by decide)).trans ((hFvy228 27 (by decide)).trans ((hFvy223 27 (by decide)).trans ((hFvy221 27 (by decide)).trans ((hFvy216 27 (by decide)).trans ((hFvy214 27 (by decide)).trans ((hFvy206 27 (by decide)).trans ((hFvy204 27 (by decide)).trans ((hFvy202 27 (by decide)).trans ((hFvy200 27 (by decide)).trans ((hFvy198 27 (by decide)).trans ((hFvy59 27 (by decide)).trans ((hFvy54 27 (by decide)).trans ((hFvy52 27 (by decide)).trans ((hFvy47 27 (by decide)).trans ((hFvy45 27 (by decide)).trans (fn ((hFvy28 27 (by decide)).trans (fn rfl (by decide))) (by decide))))))))))))))))))
        have hey340 : Fvy230 28 = F 28 := ((hFvy230 28 (by decide)).trans ((hFvy228 28 (by decide)).trans ((hFvy223 28 (by decide)).trans ((hFvy221 28 (by decide)).trans ((hFvy216 28 (by decide)).trans ((hFvy214 28 (by decide)).trans ((hFvy206 28 (by decide)).trans ((hFvy204 28 (by decide)).trans ((hFvy202 28 (by decide)).trans ((hFvy200 28 (by decide)).trans ((hFvy198 28 (by decide)).trans ((hFvy59 28 (by decide)).trans ((hFvy54 28 (by decide)).trans ((hFvy52 28 (by decide)).trans ((hFvy47 28 (by decide)).trans ((hFvy45 28 (by decide)).trans (fn ((hFvy28 28 (by decide)).trans (fn rfl (by decide))) (by decide))))))))))))))))))
        have hey341 : Fvy230 29 = F 29 := ((hFvy230 29 (by decide)).trans ((hFvy228 29 (by decide)).trans ((hFvy223 29 (by decide)).trans ((hFvy221 29 (by decide)).trans ((hFvy216 29 (by decide)).trans ((hFvy214 29 (by decide)).trans ((hFvy206 29 (by decide)).trans ((hFvy204 29 (by decide)).trans ((hFvy202 29 (by decide)).trans ((hFvy200 29 (by decide)).trans ((hFvy198 29 (by decide)).trans ((hFvy59 29 (by decide)).trans ((hFvy54 29 (by decide)).trans ((hFvy52 29 (by decide)).trans ((hFvy47 29 (by decide)).trans ((hFvy45 29 (by decide)).trans (fn ((hFvy28 29 (by decide)).trans (fn rfl (by decide))) (by decide))))))))))))))))))
        have hKy342 : okF Fvy230 := okF.mv hM.2.1 hey328 hey329 hey330 hey331 hey332 hey333 hey334 hey335 hey336 hey337 hey338 hey339 hey340 hey341
        have hMy343 : okMr cs ad gvy230 i (x + 1) Fvy230 r st op ai fa mu tb tp := okMr.upd hM hcvy230 hKy342 (fun f a => hFy327 f (by omega) (by omega)) hgy326 (hA.mono (by omega)) (fun j a b => by
            by_cases e0 : j = i + 24
            · exact Or.inr ⟨24, _, e0, lsP.l (by decide), by rw [e0]; exact htvy230⟩
            exact Or.inl (by rw [hfvy230 _ (by omega) (by omega)]; rw [hfvy228 _ (by omega) (by omega)]; rw [hfvy223 _ (by omega) (by omega)]; rw [hfvy221 _ (by omega) (by omega)]; rw [hfvy216 _ (by omega) (by omega)]; rw [hfvy214 _ (by omega) (by omega)]; rw [hfvy206 _ (by omega) (by omega)]; rw [hfvy204 _ (by omega) (by omega)]; rw [hfvy202 _ (by omega) (by omega)]; rw [hfvy200 _ (by omega) (by omega)]; rw [hfvy198 _ (by omega) (by omega)]; rw [hfvy59 _ (by omega) (by omega)]; rw [hfvy54 _ (by omega) (by omega)]; rw [hfvy52 _ (by omega) (by omega)]; rw [hfvy47 _ (by omega) (by omega)]; rw [hfvy45 _ (by omega) (by omega)]; rw [egy32, va_up_ne _ _ (by omega)]; rw [hfvy28 _ (by omega)]; rw [egy25, va_up_ne _ _ (by omega)]))
        have hkpy344 : Fvy230 13 = F 13 := ((hFvy230 13 (by decide)).trans ((hFvy228 13 (by decide)).trans ((hFvy223 13 (by decide)).trans ((hFvy221 13 (by decide)).trans ((hFvy216 13 (by decide)).trans ((hFvy214 13 (by decide)).trans ((hFvy206 13 (by decide)).trans ((hFvy204 13 (by decide)).trans ((hFvy202 13 (by decide)).trans ((hFvy200 13 (by decide)).trans ((hFvy198 13 (by decide)).trans ((hFvy59 13 (by decide)).trans ((hFvy54 13 (by decide)).trans ((hFvy52 13 (by decide)).trans ((hFvy47 13 (by decide)).trans ((hFvy45 13 (by decide)).trans (fn ((hFvy28 13 (by decide)).trans (fn rfl (by decide))) (by decide))))))))))))))))))
        have hkpy345 : Fvy230 14 = F 14 := ((hFvy230 14 (by decide)).trans ((hFvy228 14 (by decide)).trans ((hFvy223 14 (by decide)).trans ((hFvy221 14 (by decide)).trans ((hFvy216 14 (by decide)).trans ((hFvy214 14 (by decide)).trans ((hFvy206 14 (by decide)).trans ((hFvy204 14 (by decide)).trans ((hFvy202 14 (by decide)).trans ((hFvy200 14 (by decide)).trans ((hFvy198 14 (by decide)).trans ((hFvy59 14 (by decide)).trans ((hFvy54 14 (by decide)).trans ((hFvy52 14 (by decide)).trans ((hFvy47 14 (by decide)).trans ((hFvy45 14 (by decide)).trans (fn ((hFvy28 14 (by decide)).trans (fn rfl (by decide))) (by decide))))))))))))))))))
        have hkpy346 : Fvy230 17 = F 17 := ((hFvy230 17 (by decide)).trans ((hFvy228 17 (by decide)).trans ((hFvy223 17 (by decide)).trans ((hFvy221 17 (by decide)).trans ((hFvy216 17 (by decide)).trans ((hFvy214 17 (by decide)).trans ((hFvy206 17 (by decide)).trans ((hFvy204 17 (by decide)).trans ((hFvy202 17 (by decide)).trans ((hFvy200 17 (by decide)).trans ((hFvy198 17 (by decide)).trans ((hFvy59 17 (by decide)).trans ((hFvy54 17 (by decide)).trans ((hFvy52 17 (by decide)).trans ((hFvy47 17 (by decide)).trans ((hFvy45 17 (by decide)).trans (fn ((hFvy28 17 (by decide)).trans (fn rfl (by decide))) (by decide))))))))))))))))))
        have hkpy347 : Fvy230 20 = F 20 := ((hFvy230 20 (by decide)).trans ((hFvy228 20 (by decide)).trans ((hFvy223 20 (by decide)).trans ((hFvy221 20 (by decide)).trans ((hFvy216 20 (by decide)).trans ((hFvy214 20 (by decide)).trans ((hFvy206 20 (by decide)).trans ((hFvy204 20 (by decide)).trans ((hFvy202 20 (by decide)).trans ((hFvy200 20 (by decide)).trans ((hFvy198 20 (by decide)).trans ((hFvy59 20 (by decide)).trans ((hFvy54 20 (by decide)).trans ((hFvy52 20 (by decide)).trans ((hFvy47 20 (by decide)).trans ((hFvy45 20 (by decide)).trans (fn ((hFvy28 20 (by decide)).trans (fn rfl (by decide))) (by decide))))))))))))))))))
        have hkpy348 : Fvy230 21 = F 21 := ((hFvy230 21 (by decide)).trans ((hFvy228 21 (by decide)).trans ((hFvy223 21 (by decide)).trans ((hFvy221 21 (by decide)).trans ((hFvy216 21 (by decide)).trans ((hFvy214 21 (by decide)).trans ((hFvy206 21 (by decide)).trans ((hFvy204 21 (by decide)).trans ((hFvy202 21 (by decide)).trans ((hFvy200 21 (by decide)).trans ((hFvy198 21 (by decide)).trans ((hFvy59 21 (by decide)).trans ((hFvy54 21 (by decide)).trans ((hFvy52 21 (by decide)).trans ((hFvy47 21 (by decide)).trans ((hFvy45 21 (by decide)).trans (fn ((hFvy28 21 (by decide)).trans (fn rfl (by decide))) (by decide))))))))))))))))))
        have hkpy349 : Fvy230 23 = F 23 := ((hFvy230 23 (by decide)).trans ((hFvy228 23 (by decide)).trans ((hFvy223 23 (by decide)).trans ((hFvy221 23 (by decide)).trans ((hFvy216 23 (by decide)).trans ((hFvy214 23 (by decide)).trans ((hFvy206 23 (by decide)).trans ((hFvy204 23 (by decide)).trans ((hFvy202 23 (by decide)).trans ((hFvy200 23 (by decide)).trans ((hFvy198 23 (by decide)).trans ((hFvy59 23 (by decide)).trans ((hFvy54 23 (by decide)).trans ((hFvy52 23 (by decide)).trans ((hFvy47 23 (by decide)).trans ((hFvy45 23 (by decide)).trans (fn ((hFvy28 23 (by decide)).trans (fn rfl (by decide))) (by decide))))))))))))))))))
        have hkpy350 : Fvy230 24 = F 24 := ((hFvy230 24 (by decide)).trans ((hFvy228 24 (by decide)).trans ((hFvy223 24 (by decide)).trans ((hFvy221 24 (by decide)).trans ((hFvy216 24 (by decide)).trans ((hFvy214 24 (by decide)).trans ((hFvy206 24 (by decide)).trans ((hFvy204 24 (by decide)).trans ((hFvy202 24 (by decide)).trans ((hFvy200 24 (by decide)).trans ((hFvy198 24 (by decide)).trans ((hFvy59 24 (by decide)).trans ((hFvy54 24 (by decide)).trans ((hFvy52 24 (by decide)).trans ((hFvy47 24 (by decide)).trans ((hFvy45 24 (by decide)).trans (fn ((hFvy28 24 (by decide)).trans (fn rfl (by decide))) (by decide))))))))))))))))))
        exact z_iret C hr hlk dX10_told_180 (by decide) (by decide) ⟨Fvy228 51 + 1, rfl, rfl, rfl, by omega, ⟨_, _, hMy343, ⟨hkpy344, hkpy345, hkpy346, hkpy347, hkpy348, hkpy349, hkpy350⟩⟩, fun j j1 => by rw [hfvy230 _ (by omega) (by omega)]; rw [hfvy228 _ (by omega) (by omega)]; rw [hfvy223 _ (by omega) (by omega)]; rw [hfvy221 _ (by omega) (by omega)]; rw [hfvy216 _ (by omega) (by omega)]; rw [hfvy214 _ (by omega) (by omega)]; rw [hfvy206 _ (by omega) (by omega)]; rw [hfvy204 _ (by omega) (by omega)]; rw [hfvy202 _ (by omega) (by omega)]; rw [hfvy200 _ (by omega) (by omega)]; rw [hfvy198 _ (by omega) (by omega)]; rw [hfvy59 _ (by omega) (by omega)]; rw [hfvy54 _ (by omega) (by omega)]; rw [hfvy52 _ (by omega) (by omega)]; rw [hfvy47 _ (by omega) (by omega)]; rw [hfvy45 _ (by omega) (by omega)]; rw [egy32, va_up_ne _ _ (by omega)]; rw [hfvy28 _ (by omega)]; rw [egy25, va_up_ne _ _ (by omega)]⟩
  · refine z_if_ne (tgt := 16) C dX10_told_11 (by decide) (by omega) (fun h => absurd h (by omega)) (fun _ => ?_)
    refine z_iconst (z := 0) C dX10_told_14 rfl ?_
    have hgy351 := (hfvy28 (i + 1) (ne_o (i := i) (c := 1) (d := 0) rfl)).trans hgy27
    have hFy352 : ∀ f, f ≠ 12 → Fvy28 f = F f := fun f n12 => ((hFvy28 f n12).trans ((uZ_n _ _ n12).trans rfl))
    have hey353 : Fvy28 13 = F 13 := ((hFvy28 13 (by decide)).trans (fn rfl (by decide)))
    have hey354 : Fvy28 14 = F 14 := ((hFvy28 14 (by decide)).trans (fn rfl (by decide)))
    have hey355 : Fvy28 15 = F 15 := ((hFvy28 15 (by decide)).trans (fn rfl (by decide)))
    have hey356 : Fvy28 16 = F 16 := ((hFvy28 16 (by decide)).trans (fn rfl (by decide)))
    have hey357 : Fvy28 17 = F 17 := ((hFvy28 17 (by decide)).trans (fn rfl (by decide)))
    have hey358 : Fvy28 18 = F 18 := ((hFvy28 18 (by decide)).trans (fn rfl (by decide)))
    have hey359 : Fvy28 19 = F 19 := ((hFvy28 19 (by decide)).trans (fn rfl (by decide)))
    have hey360 : Fvy28 20 = F 20 := ((hFvy28 20 (by decide)).trans (fn rfl (by decide)))
    have hey361 : Fvy28 21 = F 21 := ((hFvy28 21 (by decide)).trans (fn rfl (by decide)))
    have hey362 : Fvy28 23 = F 23 := ((hFvy28 23 (by decide)).trans (fn rfl (by decide)))
    have hey363 : Fvy28 25 = F 25 := ((hFvy28 25 (by decide)).trans (fn rfl (by decide)))
    have hey364 : Fvy28 27 = F 27 := ((hFvy28 27 (by decide)).trans (fn rfl (by decide)))
    have hey365 : Fvy28 28 = F 28 := ((hFvy28 28 (by decide)).trans (fn rfl (by decide)))
    have hey366 : Fvy28 29 = F 29 := ((hFvy28 29 (by decide)).trans (fn rfl (by decide)))
    have hKy367 : okF Fvy28 := okF.mv hM.2.1 hey353 hey354 hey355 hey356 hey357 hey358 hey359 hey360 hey361 hey362 hey363 hey364 hey365 hey366
    have hMy368 : okMr cs ad gvy28 i (x + 1) Fvy28 r st op ai fa mu tb tp := okMr.upd hM hcvy28 hKy367 (fun f a => hFy352 f (by omega)) hgy351 (hA.mono (by omega)) (fun j a b => by
        exact Or.inl (by rw [hfvy28 _ (by omega)]; rw [egy25, va_up_ne _ _ (by omega)]))
    have hkpy369 : Fvy28 13 = F 13 := ((hFvy28 13 (by decide)).trans (fn rfl (by decide)))
    have hkpy370 : Fvy28 14 = F 14 := ((hFvy28 14 (by decide)).trans (fn rfl (by decide)))
    have hkpy371 : Fvy28 17 = F 17 := ((hFvy28 17 (by decide)).trans (fn rfl (by decide)))
    have hkpy372 : Fvy28 20 = F 20 := ((hFvy28 20 (by decide)).trans (fn rfl (by decide)))
    have hkpy373 : Fvy28 21 = F 21 := ((hFvy28 21 (by decide)).trans (fn rfl (by decide)))
    have hkpy374 : Fvy28 23 = F 23 := ((hFvy28 23 (by decide)).trans (fn rfl (by decide)))
    have hkpy375 : Fvy28 24 = F 24 := ((hFvy28 24 (by decide)).trans (fn rfl (by decide)))
    exact z_iret C hr hlk dX10_told_15 (by decide) (by decide) ⟨0, rfl, rfl, rfl, by omega, ⟨_, _, hMy368, ⟨hkpy369, hkpy370, hkpy371, hkpy372, hkpy373, hkpy374, hkpy375⟩⟩, fun j j1 => by rw [hfvy28 _ (by omega)]; rw [egy25, va_up_ne _ _ (by omega)]⟩

set_option maxRecDepth 100000 in
set_option maxHeartbeats 4000000 in
theorem c_X10_told_b (l : Launch) (D : va_G) (A : Nat → Prop) (cs : Nat → ClassId) (tt : Nat) (N : Nat) (ad : Nat → Nat) (g : Nat → va_E) (i : Nat) (hN : i + 30 ≤ N) (x : Int) (hx : 0 ≤ x ∧ x ≤ 512) (F r : Nat → Int) {st op ai fa mu tb tp : Nat → Int} (hM : okMr cs ad g i x F r st op ai fa mu tb tp) (z : Int) (hz : -2147483648 ≤ z ∧ z ≤ 2147483647) (hzo : z < 0 ∨ 3 < z) (z1 : Int) (hz1 : -2147483648 ≤ z1 ∧ z1 ≤ 2147483647) (z2 : Int) (hz2 : -2147483648 ≤ z2 ∧ z2 ≤ 2147483647) : zM l yX10_told cX10_told 4 (some .int) ({ frames := 4, cells := 0, slots := 0, locals := 240 } : Room) D A cs tt N ad g [.ref (ad i), .int (zI (z)), .int (zI (z1)), .int (zI (z2))] (rI0 N ad fun q g' => (-2147483648 ≤ q ∧ q ≤ 2147483647) ∧ (∃ F' r' : Nat → Int, okMr cs ad g' i (x + 1) F' r' st op ai fa mu tb tp ∧ (F' 13 = F 13 ∧ F' 14 = F 14 ∧ F' 17 = F 17 ∧ F' 20 = F 20 ∧ F' 21 = F 21 ∧ F' 23 = F 23 ∧ F' 24 = F 24)) ∧ ∀ j, j < i ∨ i + 30 ≤ j → g' j = g j) := by
  obtain ⟨hg, ⟨⟨e13, e14, e25, e27, e29⟩, k15, k16, k17, k18, k19, k20, k23, k21⟩, hRD, hTx, hA, ns, nh, nd, rf, pi, te, ki, li, ok1, ok2, fo, dd, dps, ⟨ha1, ha2, ha3, ha4, ha5, ha6, ha7, ha8, ha9, ha10, ha11, ha12, ha13, ha14, ha15, ha24, ha25, ha26, ha27, ha28, ha29⟩, hEv, hPt, hns, htp⟩ := id hM
  obtain ⟨-, hop, hai, hfa, hT, hT1⟩ := id hEv
  have hay1 : zAt ad (i) (ad i) := rfl
  have hay2 : zAt ad (i + 1) (ad (i + 1)) := rfl
  have hay3 : zAt ad (i + 2) (ad (i + 2)) := rfl
  have hay4 : zAt ad (i + 3) (ad (i + 3)) := rfl
  have hay5 : zAt ad (i + 4) (ad (i + 4)) := rfl
  have hay6 : zAt ad (i + 5) (ad (i + 5)) := rfl
  have hay7 : zAt ad (i + 6) (ad (i + 6)) := rfl
  have hay8 : zAt ad (i + 7) (ad (i + 7)) := rfl
  have hay9 : zAt ad (i + 8) (ad (i + 8)) := rfl
  have hay10 : zAt ad (i + 9) (ad (i + 9)) := rfl
  have hay11 : zAt ad (i + 10) (ad (i + 10)) := rfl
  have hay12 : zAt ad (i + 11) (ad (i + 11)) := rfl
  have hay13 : zAt ad (i + 12) (ad (i + 12)) := rfl
  have hay14 : zAt ad (i + 13) (ad (i + 13)) := rfl
  have hay15 : zAt ad (i + 14) (ad (i + 14)) := rfl
  have hay16 : zAt ad (i + 15) (ad (i + 15)) := rfl
  have hay17 : zAt ad (i + 24) (ad (i + 24)) := rfl
  have hay18 : zAt ad (i + 25) (ad (i + 25)) := rfl
  have hay19 : zAt ad (i + 26) (ad (i + 26)) := rfl
  have hay20 : zAt ad (i + 27) (ad (i + 27)) := rfl
  have hay21 : zAt ad (i + 28) (ad (i + 28)) := rfl
  have hay22 : zAt ad (i + 29) (ad (i + 29)) := rfl
  obtain ⟨⟨hsyy23, htyy23, hnyy23, hpyy23⟩, hlyy23⟩ := okA.at0 hA
  simp only [Nat.zero_add] at hsyy23 hnyy23 hpyy23
  have hmn : ∀ s, s < 4 → 0 ≤ r (6 + 86 * s) ∧ r (6 + 86 * s) ≤ 12 := fun s hs => (hsyy23 s hs).1
  have h5 : 0 ≤ r 5 ∧ r 5 ≤ 6 := hpyy23
  refine z_of (by decide) (Nat.le_of_ble_eq_true rfl) ?_
  intro pZ eZ sZ mZ below meth cZ C hr hlk hnm
  refine z_lv (lv' := [(0, .ref (ad i)), (1, .int (zI (z))), (2, .int (zI (z1))), (3, .int (zI (z2)))]) [0, 1, 2, 3] rfl ?_
  refine z_aload_n C 0 dX10_told_0 rfl ?_
  refine z_iconst (z := 0) C dX10_told_1 rfl ?_
  refine z_put (fs' := mF ad (i) (uZ F 12 (0))) C (lt_A0 hN rfl) hay1 hg tyX10 tyX10_ok nmX10 rfl inA_X10 12 (by decide) q_1471 rfl rfl rfl rfl (Nat.le_of_ble_eq_true rfl) rfl dX10_told_2 (fun gy24 egy25 => ?_)
  have hgy26 := up_s egy25
  refine z_aload_n C 0 dX10_told_5 rfl ?_
  refine z_iload_n C 1 dX10_told_6 rfl ?_
  refine z_iload_n C 2 dX10_told_7 rfl ?_
  have hgy27 := up_n egy25 ha1 (ne_o (i := i) (c := 1) (d := 0) rfl)
  have h13vy28 : (uZ F 12 (0)) 13 = F 13 := (fn rfl (by decide))
  have hey29 : (uZ F 12 (0)) 12 = 0 := (uZ_s _ _ _)
  refine z_cV (As := [.int (zI (z)), .int (zI (z1))]) (rest := []) (ci := 12) C (c_X10_isLayer_b l D A cs tt N ad _ i hN _ hgy26 (by omega) (by omega) (z) (by omega) (by omega) (z1)) (lt_A0 hN rfl) hay1 hgy26 rfl rfl mv_yX10_isLayer q_1819 hd_yX10_isLayer (by decide) (Nat.le_of_ble_eq_true rfl) (by decide) dX10_told_8 rfl (kI0 fun vy28 gvy28 hvy28 => ?_)
  obtain ⟨rfl, ⟨Fvy28, hcvy28, htvy28, hFvy28⟩, hfvy28⟩ := hvy28
  refine z_if_ne (tgt := 16) C dX10_told_11 (by decide) (by omega) (fun h => absurd h (by omega)) (fun _ => ?_)
  refine z_iconst (z := 0) C dX10_told_14 rfl ?_
  have hgy30 := (hfvy28 (i + 1) (ne_o (i := i) (c := 1) (d := 0) rfl)).trans hgy27
  have hFy31 : ∀ f, f ≠ 12 → Fvy28 f = F f := fun f n12 => ((hFvy28 f n12).trans ((uZ_n _ _ n12).trans rfl))
  have hey32 : Fvy28 13 = F 13 := ((hFvy28 13 (by decide)).trans (fn rfl (by decide)))
  have hey33 : Fvy28 14 = F 14 := ((hFvy28 14 (by decide)).trans (fn rfl (by decide)))
  have hey34 : Fvy28 15 = F 15 := ((hFvy28 15 (by decide)).trans (fn rfl (by decide)))
  have hey35 : Fvy28 16 = F 16 := ((hFvy28 16 (by decide)).trans (fn rfl (by decide)))
  have hey36 : Fvy28 17 = F 17 := ((hFvy28 17 (by decide)).trans (fn rfl (by decide)))
  have hey37 : Fvy28 18 = F 18 := ((hFvy28 18 (by decide)).trans (fn rfl (by decide)))
  have hey38 : Fvy28 19 = F 19 := ((hFvy28 19 (by decide)).trans (fn rfl (by decide)))
  have hey39 : Fvy28 20 = F 20 := ((hFvy28 20 (by decide)).trans (fn rfl (by decide)))
  have hey40 : Fvy28 21 = F 21 := ((hFvy28 21 (by decide)).trans (fn rfl (by decide)))
  have hey41 : Fvy28 23 = F 23 := ((hFvy28 23 (by decide)).trans (fn rfl (by decide)))
  have hey42 : Fvy28 25 = F 25 := ((hFvy28 25 (by decide)).trans (fn rfl (by decide)))
  have hey43 : Fvy28 27 = F 27 := ((hFvy28 27 (by decide)).trans (fn rfl (by decide)))
  have hey44 : Fvy28 28 = F 28 := ((hFvy28 28 (by decide)).trans (fn rfl (by decide)))
  have hey45 : Fvy28 29 = F 29 := ((hFvy28 29 (by decide)).trans (fn rfl (by decide)))
  have hKy46 : okF Fvy28 := okF.mv hM.2.1 hey32 hey33 hey34 hey35 hey36 hey37 hey38 hey39 hey40 hey41 hey42 hey43 hey44 hey45
  have hMy47 : okMr cs ad gvy28 i (x + 1) Fvy28 r st op ai fa mu tb tp := okMr.upd hM hcvy28 hKy46 (fun f a => hFy31 f (by omega)) hgy30 (hA.mono (by omega)) (fun j a b => by
      exact Or.inl (by rw [hfvy28 _ (by omega)]; rw [egy25, va_up_ne _ _ (by omega)]))
  have hkpy48 : Fvy28 13 = F 13 := ((hFvy28 13 (by decide)).trans (fn rfl (by decide)))
  have hkpy49 : Fvy28 14 = F 14 := ((hFvy28 14 (by decide)).trans (fn rfl (by decide)))
  have hkpy50 : Fvy28 17 = F 17 := ((hFvy28 17 (by decide)).trans (fn rfl (by decide)))
  have hkpy51 : Fvy28 20 = F 20 := ((hFvy28 20 (by decide)).trans (fn rfl (by decide)))
  have hkpy52 : Fvy28 21 = F 21 := ((hFvy28 21 (by decide)).trans (fn rfl (by decide)))
  have hkpy53 : Fvy28 23 = F 23 := ((hFvy28 23 (by decide)).trans (fn rfl (by decide)))
  have hkpy54 : Fvy28 24 = F 24 := ((hFvy28 24 (by decide)).trans (fn rfl (by decide)))
  exact z_iret C hr hlk dX10_told_15 (by decide) (by decide) ⟨0, rfl, rfl, rfl, by omega, ⟨_, _, hMy47, ⟨hkpy48, hkpy49, hkpy50, hkpy51, hkpy52, hkpy53, hkpy54⟩⟩, fun j j1 => by rw [hfvy28 _ (by omega)]; rw [egy25, va_up_ne _ _ (by omega)]⟩

set_option maxRecDepth 100000 in
set_option maxHeartbeats 4000000 in
theorem c_X10_told (l : Launch) (D : va_G) (A : Nat → Prop) (cs : Nat → ClassId) (tt : Nat) (N : Nat) (ad : Nat → Nat) (g : Nat → va_E) (i : Nat) (hN : i + 30 ≤ N) (x : Int) (hx : 0 ≤ x ∧ x ≤ 512) (F r : Nat → Int) {st op ai fa mu tb tp : Nat → Int} (hM : okMr cs ad g i x F r st op ai fa mu tb tp) (z : Int) (hz : -2147483648 ≤ z ∧ z ≤ 2147483647) (z1 : Int) (hz1 : -2147483648 ≤ z1 ∧ z1 ≤ 2147483647) (z2 : Int) (hz2 : -2147483648 ≤ z2 ∧ z2 ≤ 2147483647) : zM l yX10_told cX10_told 4 (some .int) ({ frames := 4, cells := 0, slots := 0, locals := 240 } : Room) D A cs tt N ad g [.ref (ad i), .int (zI (z)), .int (zI (z1)), .int (zI (z2))] (rI0 N ad fun q g' => (-2147483648 ≤ q ∧ q ≤ 2147483647) ∧ (∃ F' r' : Nat → Int, okMr cs ad g' i (x + 1) F' r' st op ai fa mu tb tp ∧ (F' 13 = F 13 ∧ F' 14 = F 14 ∧ F' 17 = F 17 ∧ F' 20 = F 20 ∧ F' 21 = F 21 ∧ F' 23 = F 23 ∧ F' 24 = F 24)) ∧ ∀ j, j < i ∨ i + 30 ≤ j → g' j = g j) := by
  by_cases h9 : 0 ≤ z ∧ z ≤ 3
  · obtain ⟨n, rfl⟩ : ∃ n : Nat, z = (n : Int) := ⟨z.toNat, by omega⟩
    exact c_X10_told_a l D A cs tt N ad g i hN x hx F r hM n (by omega) z1 hz1 z2 hz2
  · exact c_X10_told_b l D A cs tt N ad g i hN x hx F r hM z hz (by omega) z1 hz1 z2 hz2
end
section
-- 9A1.words.lean.txt
-- words of lhelp
theorem n_660 : (Jvm.Cond.castable "java/lang/IllegalArgumentException" "java/lang/IllegalArgumentException") ∈ NW := NW_m3 180 (by decide +kernel) (by decide +kernel)
theorem n_906 : (Jvm.Cond.castable "java/util/NoSuchElementException" "java/util/NoSuchElementException") ∈ NW := NW_m4 186 (by decide +kernel) (by decide +kernel)
theorem q_0 : (Jvm.Cond.initialized "SnowRecorderLaw") ∈ AW := AW_m1 0 (by decide +kernel) (by decide +kernel)
theorem q_1214 : (Jvm.Cond.static ({ cls := "SnowRecorderLaw", name := "then", desc := "(LSnowRecorder;III[J)I" } : Jvm.MethodName)) ∈ AW := AW_m6 14 (by decide +kernel) (by decide +kernel)
theorem q_1215 : (Jvm.Cond.codeWith ({ cls := "SnowRecorderLaw", name := "then", desc := "(LSnowRecorder;III[J)I" } : Jvm.MethodName) method_9_code (6 : Nat) (Option.some Jvm.ClassFile.FieldType.int) [((0 : Nat), (12 : Nat), (15 : Nat), (18 : Nat)), ((0 : Nat), (12 : Nat), (19 : Nat), (13 : Nat))]) ∈ AW := AW_m6 15 (by decide +kernel) (by decide +kernel)
theorem q_1216 : (Jvm.Cond.methodLink "SnowRecorderLaw" (34 : Nat) ({ cls := "SnowRecorder", name := "then", desc := "(III)I" } : Jvm.MethodName)) ∈ AW := AW_m6 16 (by decide +kernel) (by decide +kernel)
theorem q_1217 : (Jvm.Cond.instanceMethod ({ cls := "SnowRecorder", name := "then", desc := "(III)I" } : Jvm.MethodName)) ∈ AW := AW_m6 17 (by decide +kernel) (by decide +kernel)
theorem q_1218 : (Jvm.Cond.selects "SnowRecorder" ({ cls := "SnowRecorder", name := "then", desc := "(III)I" } : Jvm.MethodName) ({ cls := "SnowRecorder", name := "then", desc := "(III)I" } : Jvm.MethodName)) ∈ AW := AW_m6 18 (by decide +kernel) (by decide +kernel)
theorem q_1219 : (Jvm.Cond.code ({ cls := "SnowRecorder", name := "then", desc := "(III)I" } : Jvm.MethodName) prog_1_method_16_code (6 : Nat) (Option.some Jvm.ClassFile.FieldType.int)) ∈ AW := AW_m6 19 (by decide +kernel) (by decide +kernel)
theorem q_1234 : (Jvm.Cond.static ({ cls := "SnowRecorderLaw", name := "once", desc := "(LSnowRecorder;II[J)I" } : Jvm.MethodName)) ∈ AW := AW_m6 34 (by decide +kernel) (by decide +kernel)
theorem q_1235 : (Jvm.Cond.codeWith ({ cls := "SnowRecorderLaw", name := "once", desc := "(LSnowRecorder;II[J)I" } : Jvm.MethodName) method_10_code (5 : Nat) (Option.some Jvm.ClassFile.FieldType.int) [((0 : Nat), (10 : Nat), (13 : Nat), (18 : Nat))]) ∈ AW := AW_m6 35 (by decide +kernel) (by decide +kernel)
theorem q_1236 : (Jvm.Cond.methodLink "SnowRecorderLaw" (37 : Nat) ({ cls := "SnowRecorder", name := "once", desc := "(II)I" } : Jvm.MethodName)) ∈ AW := AW_m6 36 (by decide +kernel) (by decide +kernel)
theorem q_1237 : (Jvm.Cond.instanceMethod ({ cls := "SnowRecorder", name := "once", desc := "(II)I" } : Jvm.MethodName)) ∈ AW := AW_m6 37 (by decide +kernel) (by decide +kernel)
theorem q_1238 : (Jvm.Cond.selects "SnowRecorder" ({ cls := "SnowRecorder", name := "once", desc := "(II)I" } : Jvm.MethodName) ({ cls := "SnowRecorder", name := "once", desc := "(II)I" } : Jvm.MethodName)) ∈ AW := AW_m6 38 (by decide +kernel) (by decide +kernel)
theorem q_1239 : (Jvm.Cond.code ({ cls := "SnowRecorder", name := "once", desc := "(II)I" } : Jvm.MethodName) prog_1_method_17_code (5 : Nat) (Option.some Jvm.ClassFile.FieldType.int)) ∈ AW := AW_m6 39 (by decide +kernel) (by decide +kernel)
theorem q_1241 : (Jvm.Cond.static ({ cls := "SnowRecorderLaw", name := "gone", desc := "(LSnowRecorder;I[J)I" } : Jvm.MethodName)) ∈ AW := AW_m6 41 (by decide +kernel) (by decide +kernel)
theorem q_1242 : (Jvm.Cond.codeWith ({ cls := "SnowRecorderLaw", name := "gone", desc := "(LSnowRecorder;I[J)I" } : Jvm.MethodName) method_11_code (4 : Nat) (Option.some Jvm.ClassFile.FieldType.int) [((0 : Nat), (9 : Nat), (12 : Nat), (18 : Nat))]) ∈ AW := AW_m6 42 (by decide +kernel) (by decide +kernel)
theorem q_1243 : (Jvm.Cond.methodLink "SnowRecorderLaw" (40 : Nat) ({ cls := "SnowRecorder", name := "gone", desc := "(I)I" } : Jvm.MethodName)) ∈ AW := AW_m6 43 (by decide +kernel) (by decide +kernel)
theorem q_1244 : (Jvm.Cond.instanceMethod ({ cls := "SnowRecorder", name := "gone", desc := "(I)I" } : Jvm.MethodName)) ∈ AW := AW_m6 44 (by decide +kernel) (by decide +kernel)
theorem q_1245 : (Jvm.Cond.selects "SnowRecorder" ({ cls := "SnowRecorder", name := "gone", desc := "(I)I" } : Jvm.MethodName) ({ cls := "SnowRecorder", name := "gone", desc := "(I)I" } : Jvm.MethodName)) ∈ AW := AW_m6 45 (by decide +kernel) (by decide +kernel)
theorem q_1246 : (Jvm.Cond.code ({ cls := "SnowRecorder", name := "gone", desc := "(I)I" } : Jvm.MethodName) prog_1_method_18_code (3 : Nat) (Option.some Jvm.ClassFile.FieldType.int)) ∈ AW := AW_m6 46 (by decide +kernel) (by decide +kernel)
theorem q_1257 : (Jvm.Cond.static ({ cls := "SnowRecorderLaw", name := "stands", desc := "(LSnowRecorder;II[J)I" } : Jvm.MethodName)) ∈ AW := AW_m6 57 (by decide +kernel) (by decide +kernel)
theorem q_1258 : (Jvm.Cond.codeWith ({ cls := "SnowRecorderLaw", name := "stands", desc := "(LSnowRecorder;II[J)I" } : Jvm.MethodName) method_12_code (5 : Nat) (Option.some Jvm.ClassFile.FieldType.int) [((0 : Nat), (10 : Nat), (13 : Nat), (18 : Nat))]) ∈ AW := AW_m6 58 (by decide +kernel) (by decide +kernel)
theorem q_1259 : (Jvm.Cond.methodLink "SnowRecorderLaw" (43 : Nat) ({ cls := "SnowRecorder", name := "stands", desc := "(II)I" } : Jvm.MethodName)) ∈ AW := AW_m6 59 (by decide +kernel) (by decide +kernel)
theorem q_1260 : (Jvm.Cond.instanceMethod ({ cls := "SnowRecorder", name := "stands", desc := "(II)I" } : Jvm.MethodName)) ∈ AW := AW_m6 60 (by decide +kernel) (by decide +kernel)
theorem q_1261 : (Jvm.Cond.selects "SnowRecorder" ({ cls := "SnowRecorder", name := "stands", desc := "(II)I" } : Jvm.MethodName) ({ cls := "SnowRecorder", name := "stands", desc := "(II)I" } : Jvm.MethodName)) ∈ AW := AW_m6 61 (by decide +kernel) (by decide +kernel)
theorem q_1262 : (Jvm.Cond.code ({ cls := "SnowRecorder", name := "stands", desc := "(II)I" } : Jvm.MethodName) prog_1_method_19_code (6 : Nat) (Option.some Jvm.ClassFile.FieldType.int)) ∈ AW := AW_m6 62 (by decide +kernel) (by decide +kernel)
theorem q_1268 : (Jvm.Cond.static ({ cls := "SnowRecorderLaw", name := "toLoad", desc := "(LSnowRecorder;I[J)I" } : Jvm.MethodName)) ∈ AW := AW_m6 68 (by decide +kernel) (by decide +kernel)
theorem q_1269 : (Jvm.Cond.codeWith ({ cls := "SnowRecorderLaw", name := "toLoad", desc := "(LSnowRecorder;I[J)I" } : Jvm.MethodName) method_13_code (4 : Nat) (Option.some Jvm.ClassFile.FieldType.int) [((0 : Nat), (9 : Nat), (12 : Nat), (18 : Nat))]) ∈ AW := AW_m6 69 (by decide +kernel) (by decide +kernel)
theorem q_1270 : (Jvm.Cond.methodLink "SnowRecorderLaw" (46 : Nat) ({ cls := "SnowRecorder", name := "toLoad", desc := "(I)I" } : Jvm.MethodName)) ∈ AW := AW_m6 70 (by decide +kernel) (by decide +kernel)
theorem q_1271 : (Jvm.Cond.instanceMethod ({ cls := "SnowRecorder", name := "toLoad", desc := "(I)I" } : Jvm.MethodName)) ∈ AW := AW_m6 71 (by decide +kernel) (by decide +kernel)
theorem q_1272 : (Jvm.Cond.selects "SnowRecorder" ({ cls := "SnowRecorder", name := "toLoad", desc := "(I)I" } : Jvm.MethodName) ({ cls := "SnowRecorder", name := "toLoad", desc := "(I)I" } : Jvm.MethodName)) ∈ AW := AW_m6 72 (by decide +kernel) (by decide +kernel)
theorem q_1273 : (Jvm.Cond.code ({ cls := "SnowRecorder", name := "toLoad", desc := "(I)I" } : Jvm.MethodName) prog_1_method_20_code (4 : Nat) (Option.some Jvm.ClassFile.FieldType.int)) ∈ AW := AW_m6 73 (by decide +kernel) (by decide +kernel)
theorem q_1275 : (Jvm.Cond.static ({ cls := "SnowRecorderLaw", name := "steepest", desc := "(LSnowRecorder;I[J)I" } : Jvm.MethodName)) ∈ AW := AW_m6 75 (by decide +kernel) (by decide +kernel)
theorem q_1276 : (Jvm.Cond.codeWith ({ cls := "SnowRecorderLaw", name := "steepest", desc := "(LSnowRecorder;I[J)I" } : Jvm.MethodName) method_14_code (4 : Nat) (Option.some Jvm.ClassFile.FieldType.int) [((0 : Nat), (9 : Nat), (12 : Nat), (18 : Nat))]) ∈ AW := AW_m6 76 (by decide +kernel) (by decide +kernel)
theorem q_1277 : (Jvm.Cond.methodLink "SnowRecorderLaw" (49 : Nat) ({ cls := "SnowRecorder", name := "steepest", desc := "(I)I" } : Jvm.MethodName)) ∈ AW := AW_m6 77 (by decide +kernel) (by decide +kernel)
theorem q_1278 : (Jvm.Cond.instanceMethod ({ cls := "SnowRecorder", name := "steepest", desc := "(I)I" } : Jvm.MethodName)) ∈ AW := AW_m6 78 (by decide +kernel) (by decide +kernel)
theorem q_1279 : (Jvm.Cond.selects "SnowRecorder" ({ cls := "SnowRecorder", name := "steepest", desc := "(I)I" } : Jvm.MethodName) ({ cls := "SnowRecorder", name := "steepest", desc := "(I)I" } : Jvm.MethodName)) ∈ AW := AW_m6 79 (by decide +kernel) (by decide +kernel)
theorem q_1280 : (Jvm.Cond.code ({ cls := "SnowRecorder", name := "steepest", desc := "(I)I" } : Jvm.MethodName) prog_1_method_21_code (4 : Nat) (Option.some Jvm.ClassFile.FieldType.int)) ∈ AW := AW_m6 80 (by decide +kernel) (by decide +kernel)
theorem q_1282 : (Jvm.Cond.static ({ cls := "SnowRecorderLaw", name := "toWarm", desc := "(LSnowRecorder;II[J)I" } : Jvm.MethodName)) ∈ AW := AW_m6 82 (by decide +kernel) (by decide +kernel)
theorem q_1283 : (Jvm.Cond.codeWith ({ cls := "SnowRecorderLaw", name := "toWarm", desc := "(LSnowRecorder;II[J)I" } : Jvm.MethodName) method_15_code (5 : Nat) (Option.some Jvm.ClassFile.FieldType.int) [((0 : Nat), (10 : Nat), (13 : Nat), (18 : Nat)), ((0 : Nat), (10 : Nat), (17 : Nat), (13 : Nat))]) ∈ AW := AW_m6 83 (by decide +kernel) (by decide +kernel)
theorem q_1284 : (Jvm.Cond.methodLink "SnowRecorderLaw" (52 : Nat) ({ cls := "SnowRecorder", name := "toWarm", desc := "(II)I" } : Jvm.MethodName)) ∈ AW := AW_m6 84 (by decide +kernel) (by decide +kernel)
theorem q_1285 : (Jvm.Cond.instanceMethod ({ cls := "SnowRecorder", name := "toWarm", desc := "(II)I" } : Jvm.MethodName)) ∈ AW := AW_m6 85 (by decide +kernel) (by decide +kernel)
theorem q_1286 : (Jvm.Cond.selects "SnowRecorder" ({ cls := "SnowRecorder", name := "toWarm", desc := "(II)I" } : Jvm.MethodName) ({ cls := "SnowRecorder", name := "toWarm", desc := "(II)I" } : Jvm.MethodName)) ∈ AW := AW_m6 86 (by decide +kernel) (by decide +kernel)
theorem q_1287 : (Jvm.Cond.code ({ cls := "SnowRecorder", name := "toWarm", desc := "(II)I" } : Jvm.MethodName) prog_1_method_22_code (4 : Nat) (Option.some Jvm.ClassFile.FieldType.int)) ∈ AW := AW_m6 87 (by decide +kernel) (by decide +kernel)
theorem q_1298 : (Jvm.Cond.static ({ cls := "SnowRecorderLaw", name := "matters", desc := "(LSnowRecorder;III[J)I" } : Jvm.MethodName)) ∈ AW := AW_m6 98 (by decide +kernel) (by decide +kernel)
theorem q_1299 : (Jvm.Cond.codeWith ({ cls := "SnowRecorderLaw", name := "matters", desc := "(LSnowRecorder;III[J)I" } : Jvm.MethodName) method_16_code (6 : Nat) (Option.some Jvm.ClassFile.FieldType.int) [((0 : Nat), (12 : Nat), (15 : Nat), (18 : Nat)), ((0 : Nat), (12 : Nat), (19 : Nat), (13 : Nat))]) ∈ AW := AW_m6 99 (by decide +kernel) (by decide +kernel)
theorem q_1300 : (Jvm.Cond.methodLink "SnowRecorderLaw" (55 : Nat) ({ cls := "SnowRecorder", name := "matters", desc := "(III)I" } : Jvm.MethodName)) ∈ AW := AW_m6 100 (by decide +kernel) (by decide +kernel)
theorem q_1301 : (Jvm.Cond.instanceMethod ({ cls := "SnowRecorder", name := "matters", desc := "(III)I" } : Jvm.MethodName)) ∈ AW := AW_m6 101 (by decide +kernel) (by decide +kernel)
theorem q_1302 : (Jvm.Cond.selects "SnowRecorder" ({ cls := "SnowRecorder", name := "matters", desc := "(III)I" } : Jvm.MethodName) ({ cls := "SnowRecorder", name := "matters", desc := "(III)I" } : Jvm.MethodName)) ∈ AW := AW_m6 102 (by decide +kernel) (by decide +kernel)
theorem q_1303 : (Jvm.Cond.code ({ cls := "SnowRecorder", name := "matters", desc := "(III)I" } : Jvm.MethodName) prog_1_method_23_code (9 : Nat) (Option.some Jvm.ClassFile.FieldType.int)) ∈ AW := AW_m6 103 (by decide +kernel) (by decide +kernel)
theorem q_1310 : (Jvm.Cond.static ({ cls := "SnowRecorderLaw", name := "pitOf", desc := "(LSnowRecorder;II[J)I" } : Jvm.MethodName)) ∈ AW := AW_m6 110 (by decide +kernel) (by decide +kernel)
theorem q_1311 : (Jvm.Cond.codeWith ({ cls := "SnowRecorderLaw", name := "pitOf", desc := "(LSnowRecorder;II[J)I" } : Jvm.MethodName) method_17_code (5 : Nat) (Option.some Jvm.ClassFile.FieldType.int) [((0 : Nat), (10 : Nat), (13 : Nat), (18 : Nat))]) ∈ AW := AW_m6 111 (by decide +kernel) (by decide +kernel)
theorem q_1312 : (Jvm.Cond.methodLink "SnowRecorderLaw" (58 : Nat) ({ cls := "SnowRecorder", name := "pitOf", desc := "(II)I" } : Jvm.MethodName)) ∈ AW := AW_m6 112 (by decide +kernel) (by decide +kernel)
theorem q_1313 : (Jvm.Cond.instanceMethod ({ cls := "SnowRecorder", name := "pitOf", desc := "(II)I" } : Jvm.MethodName)) ∈ AW := AW_m6 113 (by decide +kernel) (by decide +kernel)
theorem q_1314 : (Jvm.Cond.selects "SnowRecorder" ({ cls := "SnowRecorder", name := "pitOf", desc := "(II)I" } : Jvm.MethodName) ({ cls := "SnowRecorder", name := "pitOf", desc := "(II)I" } : Jvm.MethodName)) ∈ AW := AW_m6 114 (by decide +kernel) (by decide +kernel)
theorem q_1315 : (Jvm.Cond.code ({ cls := "SnowRecorder", name := "pitOf", desc := "(II)I" } : Jvm.MethodName) prog_1_method_24_code (3 : Nat) (Option.some Jvm.ClassFile.FieldType.int)) ∈ AW := AW_m6 115 (by decide +kernel) (by decide +kernel)
theorem q_1323 : (Jvm.Cond.static ({ cls := "SnowRecorderLaw", name := "compare", desc := "(LSnowRecorder;III[J)I" } : Jvm.MethodName)) ∈ AW := AW_m6 123 (by decide +kernel) (by decide +kernel)
theorem q_1324 : (Jvm.Cond.codeWith ({ cls := "SnowRecorderLaw", name := "compare", desc := "(LSnowRecorder;III[J)I" } : Jvm.MethodName) method_18_code (6 : Nat) (Option.some Jvm.ClassFile.FieldType.int) [((0 : Nat), (12 : Nat), (15 : Nat), (18 : Nat))]) ∈ AW := AW_m6 124 (by decide +kernel) (by decide +kernel)
theorem q_1325 : (Jvm.Cond.methodLink "SnowRecorderLaw" (61 : Nat) ({ cls := "SnowRecorder", name := "compare", desc := "(III)I" } : Jvm.MethodName)) ∈ AW := AW_m6 125 (by decide +kernel) (by decide +kernel)
theorem q_1326 : (Jvm.Cond.instanceMethod ({ cls := "SnowRecorder", name := "compare", desc := "(III)I" } : Jvm.MethodName)) ∈ AW := AW_m6 126 (by decide +kernel) (by decide +kernel)
theorem q_1327 : (Jvm.Cond.selects "SnowRecorder" ({ cls := "SnowRecorder", name := "compare", desc := "(III)I" } : Jvm.MethodName) ({ cls := "SnowRecorder", name := "compare", desc := "(III)I" } : Jvm.MethodName)) ∈ AW := AW_m6 127 (by decide +kernel) (by decide +kernel)
theorem q_1328 : (Jvm.Cond.code ({ cls := "SnowRecorder", name := "compare", desc := "(III)I" } : Jvm.MethodName) prog_1_method_25_code (6 : Nat) (Option.some Jvm.ClassFile.FieldType.int)) ∈ AW := AW_m6 128 (by decide +kernel) (by decide +kernel)
theorem q_1350 : (Jvm.Cond.static ({ cls := "SnowRecorderLaw", name := "nearest", desc := "(LSnowRecorder;I[J)I" } : Jvm.MethodName)) ∈ AW := AW_m6 150 (by decide +kernel) (by decide +kernel)
theorem q_1351 : (Jvm.Cond.codeWith ({ cls := "SnowRecorderLaw", name := "nearest", desc := "(LSnowRecorder;I[J)I" } : Jvm.MethodName) method_19_code (4 : Nat) (Option.some Jvm.ClassFile.FieldType.int) [((0 : Nat), (9 : Nat), (12 : Nat), (18 : Nat))]) ∈ AW := AW_m6 151 (by decide +kernel) (by decide +kernel)
theorem q_1352 : (Jvm.Cond.methodLink "SnowRecorderLaw" (64 : Nat) ({ cls := "SnowRecorder", name := "nearest", desc := "(I)I" } : Jvm.MethodName)) ∈ AW := AW_m6 152 (by decide +kernel) (by decide +kernel)
theorem q_1353 : (Jvm.Cond.instanceMethod ({ cls := "SnowRecorder", name := "nearest", desc := "(I)I" } : Jvm.MethodName)) ∈ AW := AW_m6 153 (by decide +kernel) (by decide +kernel)
theorem q_1354 : (Jvm.Cond.selects "SnowRecorder" ({ cls := "SnowRecorder", name := "nearest", desc := "(I)I" } : Jvm.MethodName) ({ cls := "SnowRecorder", name := "nearest", desc := "(I)I" } : Jvm.MethodName)) ∈ AW := AW_m6 154 (by decide +kernel) (by decide +kernel)
theorem q_1355 : (Jvm.Cond.code ({ cls := "SnowRecorder", name := "nearest", desc := "(I)I" } : Jvm.MethodName) prog_1_method_26_code (6 : Nat) (Option.some Jvm.ClassFile.FieldType.int)) ∈ AW := AW_m6 155 (by decide +kernel) (by decide +kernel)
theorem q_1357 : (Jvm.Cond.static ({ cls := "SnowRecorderLaw", name := "falls", desc := "(LSnowRecorder;I[J)I" } : Jvm.MethodName)) ∈ AW := AW_m6 157 (by decide +kernel) (by decide +kernel)
theorem q_1358 : (Jvm.Cond.codeWith ({ cls := "SnowRecorderLaw", name := "falls", desc := "(LSnowRecorder;I[J)I" } : Jvm.MethodName) method_20_code (4 : Nat) (Option.some Jvm.ClassFile.FieldType.int) [((0 : Nat), (9 : Nat), (12 : Nat), (18 : Nat))]) ∈ AW := AW_m6 158 (by decide +kernel) (by decide +kernel)
theorem q_1359 : (Jvm.Cond.methodLink "SnowRecorderLaw" (67 : Nat) ({ cls := "SnowRecorder", name := "falls", desc := "(I)I" } : Jvm.MethodName)) ∈ AW := AW_m6 159 (by decide +kernel) (by decide +kernel)
theorem q_1360 : (Jvm.Cond.instanceMethod ({ cls := "SnowRecorder", name := "falls", desc := "(I)I" } : Jvm.MethodName)) ∈ AW := AW_m6 160 (by decide +kernel) (by decide +kernel)
theorem q_1361 : (Jvm.Cond.selects "SnowRecorder" ({ cls := "SnowRecorder", name := "falls", desc := "(I)I" } : Jvm.MethodName) ({ cls := "SnowRecorder", name := "falls", desc := "(I)I" } : Jvm.MethodName)) ∈ AW := AW_m6 161 (by decide +kernel) (by decide +kernel)
theorem q_1362 : (Jvm.Cond.code ({ cls := "SnowRecorder", name := "falls", desc := "(I)I" } : Jvm.MethodName) prog_1_method_28_code (3 : Nat) (Option.some Jvm.ClassFile.FieldType.int)) ∈ AW := AW_m6 162 (by decide +kernel) (by decide +kernel)
theorem q_1402 : (Jvm.Cond.static ({ cls := "SnowRecorderLaw", name := "look", desc := "(LSnowRecorder;I[J)I" } : Jvm.MethodName)) ∈ AW := AW_m6 202 (by decide +kernel) (by decide +kernel)
theorem q_1403 : (Jvm.Cond.codeWith ({ cls := "SnowRecorderLaw", name := "look", desc := "(LSnowRecorder;I[J)I" } : Jvm.MethodName) method_21_code (4 : Nat) (Option.some Jvm.ClassFile.FieldType.int) [((0 : Nat), (9 : Nat), (12 : Nat), (18 : Nat))]) ∈ AW := AW_m6 203 (by decide +kernel) (by decide +kernel)
theorem q_1404 : (Jvm.Cond.methodLink "SnowRecorderLaw" (70 : Nat) ({ cls := "SnowRecorder", name := "look", desc := "(I)I" } : Jvm.MethodName)) ∈ AW := AW_m6 204 (by decide +kernel) (by decide +kernel)
theorem q_1405 : (Jvm.Cond.instanceMethod ({ cls := "SnowRecorder", name := "look", desc := "(I)I" } : Jvm.MethodName)) ∈ AW := AW_m6 205 (by decide +kernel) (by decide +kernel)
theorem q_1406 : (Jvm.Cond.selects "SnowRecorder" ({ cls := "SnowRecorder", name := "look", desc := "(I)I" } : Jvm.MethodName) ({ cls := "SnowRecorder", name := "look", desc := "(I)I" } : Jvm.MethodName)) ∈ AW := AW_m6 206 (by decide +kernel) (by decide +kernel)
theorem q_1407 : (Jvm.Cond.code ({ cls := "SnowRecorder", name := "look", desc := "(I)I" } : Jvm.MethodName) prog_1_method_29_code (5 : Nat) (Option.some Jvm.ClassFile.FieldType.int)) ∈ AW := AW_m6 207 (by decide +kernel) (by decide +kernel)
theorem q_1409 : (Jvm.Cond.static ({ cls := "SnowRecorderLaw", name := "odds", desc := "(LSnowRecorder;III[J)I" } : Jvm.MethodName)) ∈ AW := AW_m6 209 (by decide +kernel) (by decide +kernel)
theorem q_1410 : (Jvm.Cond.codeWith ({ cls := "SnowRecorderLaw", name := "odds", desc := "(LSnowRecorder;III[J)I" } : Jvm.MethodName) method_22_code (6 : Nat) (Option.some Jvm.ClassFile.FieldType.int) [((0 : Nat), (12 : Nat), (15 : Nat), (18 : Nat)), ((0 : Nat), (12 : Nat), (19 : Nat), (13 : Nat))]) ∈ AW := AW_m6 210 (by decide +kernel) (by decide +kernel)
theorem q_1411 : (Jvm.Cond.methodLink "SnowRecorderLaw" (73 : Nat) ({ cls := "SnowRecorder", name := "odds", desc := "(III)I" } : Jvm.MethodName)) ∈ AW := AW_m6 211 (by decide +kernel) (by decide +kernel)
theorem q_1412 : (Jvm.Cond.instanceMethod ({ cls := "SnowRecorder", name := "odds", desc := "(III)I" } : Jvm.MethodName)) ∈ AW := AW_m6 212 (by decide +kernel) (by decide +kernel)
theorem q_1413 : (Jvm.Cond.selects "SnowRecorder" ({ cls := "SnowRecorder", name := "odds", desc := "(III)I" } : Jvm.MethodName) ({ cls := "SnowRecorder", name := "odds", desc := "(III)I" } : Jvm.MethodName)) ∈ AW := AW_m6 213 (by decide +kernel) (by decide +kernel)
theorem q_1414 : (Jvm.Cond.code ({ cls := "SnowRecorder", name := "odds", desc := "(III)I" } : Jvm.MethodName) prog_1_method_31_code (7 : Nat) (Option.some Jvm.ClassFile.FieldType.int)) ∈ AW := AW_m6 214 (by decide +kernel) (by decide +kernel)
theorem q_1426 : (Jvm.Cond.static ({ cls := "SnowRecorderLaw", name := "years", desc := "(LSnowRecorder;III[J)I" } : Jvm.MethodName)) ∈ AW := AW_m6 226 (by decide +kernel) (by decide +kernel)
theorem q_1427 : (Jvm.Cond.codeWith ({ cls := "SnowRecorderLaw", name := "years", desc := "(LSnowRecorder;III[J)I" } : Jvm.MethodName) method_23_code (6 : Nat) (Option.some Jvm.ClassFile.FieldType.int) [((0 : Nat), (12 : Nat), (15 : Nat), (18 : Nat)), ((0 : Nat), (12 : Nat), (19 : Nat), (13 : Nat))]) ∈ AW := AW_m6 227 (by decide +kernel) (by decide +kernel)
theorem q_1428 : (Jvm.Cond.methodLink "SnowRecorderLaw" (76 : Nat) ({ cls := "SnowRecorder", name := "years", desc := "(III)I" } : Jvm.MethodName)) ∈ AW := AW_m6 228 (by decide +kernel) (by decide +kernel)
theorem q_1429 : (Jvm.Cond.instanceMethod ({ cls := "SnowRecorder", name := "years", desc := "(III)I" } : Jvm.MethodName)) ∈ AW := AW_m6 229 (by decide +kernel) (by decide +kernel)
theorem q_1430 : (Jvm.Cond.selects "SnowRecorder" ({ cls := "SnowRecorder", name := "years", desc := "(III)I" } : Jvm.MethodName) ({ cls := "SnowRecorder", name := "years", desc := "(III)I" } : Jvm.MethodName)) ∈ AW := AW_m6 230 (by decide +kernel) (by decide +kernel)
theorem q_1431 : (Jvm.Cond.code ({ cls := "SnowRecorder", name := "years", desc := "(III)I" } : Jvm.MethodName) prog_1_method_32_code (6 : Nat) (Option.some Jvm.ClassFile.FieldType.int)) ∈ AW := AW_m6 231 (by decide +kernel) (by decide +kernel)
theorem q_651 : (Jvm.Cond.static ({ cls := "SnowRecorderLaw", name := "snow", desc := "(LSnowRecorder;I[J)I" } : Jvm.MethodName)) ∈ AW := AW_m3 171 (by decide +kernel) (by decide +kernel)
theorem q_652 : (Jvm.Cond.codeWith ({ cls := "SnowRecorderLaw", name := "snow", desc := "(LSnowRecorder;I[J)I" } : Jvm.MethodName) method_3_code (4 : Nat) (Option.some Jvm.ClassFile.FieldType.int) [((0 : Nat), (9 : Nat), (12 : Nat), (13 : Nat))]) ∈ AW := AW_m3 172 (by decide +kernel) (by decide +kernel)
theorem q_653 : (Jvm.Cond.classLink "SnowRecorderLaw" (13 : Nat) "java/lang/IllegalArgumentException") ∈ AW := AW_m3 173 (by decide +kernel) (by decide +kernel)
theorem q_654 : (Jvm.Cond.methodLink "SnowRecorderLaw" (7 : Nat) ({ cls := "SnowRecorder", name := "snow", desc := "(I)I" } : Jvm.MethodName)) ∈ AW := AW_m3 174 (by decide +kernel) (by decide +kernel)
theorem q_655 : (Jvm.Cond.instanceMethod ({ cls := "SnowRecorder", name := "snow", desc := "(I)I" } : Jvm.MethodName)) ∈ AW := AW_m3 175 (by decide +kernel) (by decide +kernel)
theorem q_656 : (Jvm.Cond.selects "SnowRecorder" ({ cls := "SnowRecorder", name := "snow", desc := "(I)I" } : Jvm.MethodName) ({ cls := "SnowRecorder", name := "snow", desc := "(I)I" } : Jvm.MethodName)) ∈ AW := AW_m3 176 (by decide +kernel) (by decide +kernel)
theorem q_657 : (Jvm.Cond.code ({ cls := "SnowRecorder", name := "snow", desc := "(I)I" } : Jvm.MethodName) prog_1_method_3_code (3 : Nat) (Option.some Jvm.ClassFile.FieldType.int)) ∈ AW := AW_m3 177 (by decide +kernel) (by decide +kernel)
theorem q_871 : (Jvm.Cond.static ({ cls := "SnowRecorderLaw", name := "count", desc := "(LSnowRecorder;I[J)I" } : Jvm.MethodName)) ∈ AW := AW_m4 151 (by decide +kernel) (by decide +kernel)
theorem q_872 : (Jvm.Cond.codeWith ({ cls := "SnowRecorderLaw", name := "count", desc := "(LSnowRecorder;I[J)I" } : Jvm.MethodName) method_4_code (4 : Nat) (Option.some Jvm.ClassFile.FieldType.int) [((0 : Nat), (9 : Nat), (12 : Nat), (18 : Nat))]) ∈ AW := AW_m4 152 (by decide +kernel) (by decide +kernel)
theorem q_873 : (Jvm.Cond.classLink "SnowRecorderLaw" (18 : Nat) "java/util/NoSuchElementException") ∈ AW := AW_m4 153 (by decide +kernel) (by decide +kernel)
theorem q_874 : (Jvm.Cond.methodLink "SnowRecorderLaw" (15 : Nat) ({ cls := "SnowRecorder", name := "count", desc := "(I)I" } : Jvm.MethodName)) ∈ AW := AW_m4 154 (by decide +kernel) (by decide +kernel)
theorem q_875 : (Jvm.Cond.instanceMethod ({ cls := "SnowRecorder", name := "count", desc := "(I)I" } : Jvm.MethodName)) ∈ AW := AW_m4 155 (by decide +kernel) (by decide +kernel)
theorem q_876 : (Jvm.Cond.selects "SnowRecorder" ({ cls := "SnowRecorder", name := "count", desc := "(I)I" } : Jvm.MethodName) ({ cls := "SnowRecorder", name := "count", desc := "(I)I" } : Jvm.MethodName)) ∈ AW := AW_m4 156 (by decide +kernel) (by decide +kernel)
theorem q_877 : (Jvm.Cond.code ({ cls := "SnowRecorder", name := "count", desc := "(I)I" } : Jvm.MethodName) prog_1_method_5_code (3 : Nat) (Option.some Jvm.ClassFile.FieldType.int)) ∈ AW := AW_m4 157 (by decide +kernel) (by decide +kernel)
theorem q_921 : (Jvm.Cond.static ({ cls := "SnowRecorderLaw", name := "forecast", desc := "(LSnowRecorder;II[J)I" } : Jvm.MethodName)) ∈ AW := AW_m4 201 (by decide +kernel) (by decide +kernel)
theorem q_922 : (Jvm.Cond.codeWith ({ cls := "SnowRecorderLaw", name := "forecast", desc := "(LSnowRecorder;II[J)I" } : Jvm.MethodName) method_5_code (5 : Nat) (Option.some Jvm.ClassFile.FieldType.int) [((0 : Nat), (10 : Nat), (13 : Nat), (18 : Nat))]) ∈ AW := AW_m4 202 (by decide +kernel) (by decide +kernel)
theorem q_923 : (Jvm.Cond.methodLink "SnowRecorderLaw" (20 : Nat) ({ cls := "SnowRecorder", name := "forecast", desc := "(II)I" } : Jvm.MethodName)) ∈ AW := AW_m4 203 (by decide +kernel) (by decide +kernel)
theorem q_924 : (Jvm.Cond.instanceMethod ({ cls := "SnowRecorder", name := "forecast", desc := "(II)I" } : Jvm.MethodName)) ∈ AW := AW_m4 204 (by decide +kernel) (by decide +kernel)
theorem q_925 : (Jvm.Cond.selects "SnowRecorder" ({ cls := "SnowRecorder", name := "forecast", desc := "(II)I" } : Jvm.MethodName) ({ cls := "SnowRecorder", name := "forecast", desc := "(II)I" } : Jvm.MethodName)) ∈ AW := AW_m4 205 (by decide +kernel) (by decide +kernel)
theorem q_926 : (Jvm.Cond.code ({ cls := "SnowRecorder", name := "forecast", desc := "(II)I" } : Jvm.MethodName) prog_1_method_6_code (3 : Nat) (Option.some Jvm.ClassFile.FieldType.int)) ∈ AW := AW_m4 206 (by decide +kernel) (by decide +kernel)
theorem q_930 : (Jvm.Cond.static ({ cls := "SnowRecorderLaw", name := "slope", desc := "(LSnowRecorder;II[J)I" } : Jvm.MethodName)) ∈ AW := AW_m4 210 (by decide +kernel) (by decide +kernel)
theorem q_931 : (Jvm.Cond.codeWith ({ cls := "SnowRecorderLaw", name := "slope", desc := "(LSnowRecorder;II[J)I" } : Jvm.MethodName) method_6_code (5 : Nat) (Option.some Jvm.ClassFile.FieldType.int) [((0 : Nat), (10 : Nat), (13 : Nat), (18 : Nat))]) ∈ AW := AW_m4 211 (by decide +kernel) (by decide +kernel)
theorem q_932 : (Jvm.Cond.methodLink "SnowRecorderLaw" (24 : Nat) ({ cls := "SnowRecorder", name := "slope", desc := "(II)I" } : Jvm.MethodName)) ∈ AW := AW_m4 212 (by decide +kernel) (by decide +kernel)
theorem q_933 : (Jvm.Cond.instanceMethod ({ cls := "SnowRecorder", name := "slope", desc := "(II)I" } : Jvm.MethodName)) ∈ AW := AW_m4 213 (by decide +kernel) (by decide +kernel)
theorem q_934 : (Jvm.Cond.selects "SnowRecorder" ({ cls := "SnowRecorder", name := "slope", desc := "(II)I" } : Jvm.MethodName) ({ cls := "SnowRecorder", name := "slope", desc := "(II)I" } : Jvm.MethodName)) ∈ AW := AW_m4 214 (by decide +kernel) (by decide +kernel)
theorem q_935 : (Jvm.Cond.code ({ cls := "SnowRecorder", name := "slope", desc := "(II)I" } : Jvm.MethodName) prog_1_method_7_code (5 : Nat) (Option.some Jvm.ClassFile.FieldType.int)) ∈ AW := AW_m4 215 (by decide +kernel) (by decide +kernel)
theorem q_949 : (Jvm.Cond.static ({ cls := "SnowRecorderLaw", name := "layer", desc := "(LSnowRecorder;III[J)I" } : Jvm.MethodName)) ∈ AW := AW_m4 229 (by decide +kernel) (by decide +kernel)
theorem q_950 : (Jvm.Cond.codeWith ({ cls := "SnowRecorderLaw", name := "layer", desc := "(LSnowRecorder;III[J)I" } : Jvm.MethodName) method_7_code (6 : Nat) (Option.some Jvm.ClassFile.FieldType.int) [((0 : Nat), (12 : Nat), (15 : Nat), (18 : Nat))]) ∈ AW := AW_m4 230 (by decide +kernel) (by decide +kernel)
theorem q_951 : (Jvm.Cond.methodLink "SnowRecorderLaw" (27 : Nat) ({ cls := "SnowRecorder", name := "layer", desc := "(III)I" } : Jvm.MethodName)) ∈ AW := AW_m4 231 (by decide +kernel) (by decide +kernel)
theorem q_952 : (Jvm.Cond.instanceMethod ({ cls := "SnowRecorder", name := "layer", desc := "(III)I" } : Jvm.MethodName)) ∈ AW := AW_m4 232 (by decide +kernel) (by decide +kernel)
theorem q_953 : (Jvm.Cond.selects "SnowRecorder" ({ cls := "SnowRecorder", name := "layer", desc := "(III)I" } : Jvm.MethodName) ({ cls := "SnowRecorder", name := "layer", desc := "(III)I" } : Jvm.MethodName)) ∈ AW := AW_m4 233 (by decide +kernel) (by decide +kernel)
theorem q_954 : (Jvm.Cond.code ({ cls := "SnowRecorder", name := "layer", desc := "(III)I" } : Jvm.MethodName) prog_1_method_8_code (6 : Nat) (Option.some Jvm.ClassFile.FieldType.int)) ∈ AW := AW_m4 234 (by decide +kernel) (by decide +kernel)
theorem q_968 : (Jvm.Cond.static ({ cls := "SnowRecorderLaw", name := "told", desc := "(LSnowRecorder;III[J)I" } : Jvm.MethodName)) ∈ AW := AW_m5 8 (by decide +kernel) (by decide +kernel)
theorem q_969 : (Jvm.Cond.codeWith ({ cls := "SnowRecorderLaw", name := "told", desc := "(LSnowRecorder;III[J)I" } : Jvm.MethodName) method_8_code (6 : Nat) (Option.some Jvm.ClassFile.FieldType.int) [((0 : Nat), (12 : Nat), (15 : Nat), (18 : Nat))]) ∈ AW := AW_m5 9 (by decide +kernel) (by decide +kernel)
theorem q_970 : (Jvm.Cond.methodLink "SnowRecorderLaw" (31 : Nat) ({ cls := "SnowRecorder", name := "told", desc := "(III)I" } : Jvm.MethodName)) ∈ AW := AW_m5 10 (by decide +kernel) (by decide +kernel)
theorem q_971 : (Jvm.Cond.instanceMethod ({ cls := "SnowRecorder", name := "told", desc := "(III)I" } : Jvm.MethodName)) ∈ AW := AW_m5 11 (by decide +kernel) (by decide +kernel)
theorem q_972 : (Jvm.Cond.selects "SnowRecorder" ({ cls := "SnowRecorder", name := "told", desc := "(III)I" } : Jvm.MethodName) ({ cls := "SnowRecorder", name := "told", desc := "(III)I" } : Jvm.MethodName)) ∈ AW := AW_m5 12 (by decide +kernel) (by decide +kernel)
theorem q_973 : (Jvm.Cond.code ({ cls := "SnowRecorder", name := "told", desc := "(III)I" } : Jvm.MethodName) prog_1_method_9_code (5 : Nat) (Option.some Jvm.ClassFile.FieldType.int)) ∈ AW := AW_m5 13 (by decide +kernel) (by decide +kernel)
theorem hd_yX9_snow : yX9_snow.cls ≠ "java/lang/invoke/MethodHandle" ∧ yX9_snow.cls ≠ "java/lang/invoke/VarHandle" ∧ (parseMethodDescriptor yX9_snow.desc).map (fun d => d.parameters.length) = some 1 := by decide +kernel
theorem hd_yX9_count : yX9_count.cls ≠ "java/lang/invoke/MethodHandle" ∧ yX9_count.cls ≠ "java/lang/invoke/VarHandle" ∧ (parseMethodDescriptor yX9_count.desc).map (fun d => d.parameters.length) = some 1 := by decide +kernel
theorem hd_yX9_forecast : yX9_forecast.cls ≠ "java/lang/invoke/MethodHandle" ∧ yX9_forecast.cls ≠ "java/lang/invoke/VarHandle" ∧ (parseMethodDescriptor yX9_forecast.desc).map (fun d => d.parameters.length) = some 2 := by decide +kernel
theorem hd_yX9_slope : yX9_slope.cls ≠ "java/lang/invoke/MethodHandle" ∧ yX9_slope.cls ≠ "java/lang/invoke/VarHandle" ∧ (parseMethodDescriptor yX9_slope.desc).map (fun d => d.parameters.length) = some 2 := by decide +kernel
theorem hd_yX9_layer : yX9_layer.cls ≠ "java/lang/invoke/MethodHandle" ∧ yX9_layer.cls ≠ "java/lang/invoke/VarHandle" ∧ (parseMethodDescriptor yX9_layer.desc).map (fun d => d.parameters.length) = some 3 := by decide +kernel
theorem hd_yX9_told : yX9_told.cls ≠ "java/lang/invoke/MethodHandle" ∧ yX9_told.cls ≠ "java/lang/invoke/VarHandle" ∧ (parseMethodDescriptor yX9_told.desc).map (fun d => d.parameters.length) = some 3 := by decide +kernel
theorem hd_yX9_then : yX9_then.cls ≠ "java/lang/invoke/MethodHandle" ∧ yX9_then.cls ≠ "java/lang/invoke/VarHandle" ∧ (parseMethodDescriptor yX9_then.desc).map (fun d => d.parameters.length) = some 3 := by decide +kernel
theorem hd_yX9_once : yX9_once.cls ≠ "java/lang/invoke/MethodHandle" ∧ yX9_once.cls ≠ "java/lang/invoke/VarHandle" ∧ (parseMethodDescriptor yX9_once.desc).map (fun d => d.parameters.length) = some 2 := by decide +kernel
theorem hd_yX9_gone : yX9_gone.cls ≠ "java/lang/invoke/MethodHandle" ∧ yX9_gone.cls ≠ "java/lang/invoke/VarHandle" ∧ (parseMethodDescriptor yX9_gone.desc).map (fun d => d.parameters.length) = some 1 := by decide +kernel
theorem hd_yX9_stands : yX9_stands.cls ≠ "java/lang/invoke/MethodHandle" ∧ yX9_stands.cls ≠ "java/lang/invoke/VarHandle" ∧ (parseMethodDescriptor yX9_stands.desc).map (fun d => d.parameters.length) = some 2 := by decide +kernel
theorem hd_yX9_toLoad : yX9_toLoad.cls ≠ "java/lang/invoke/MethodHandle" ∧ yX9_toLoad.cls ≠ "java/lang/invoke/VarHandle" ∧ (parseMethodDescriptor yX9_toLoad.desc).map (fun d => d.parameters.length) = some 1 := by decide +kernel
theorem hd_yX9_steepest : yX9_steepest.cls ≠ "java/lang/invoke/MethodHandle" ∧ yX9_steepest.cls ≠ "java/lang/invoke/VarHandle" ∧ (parseMethodDescriptor yX9_steepest.desc).map (fun d => d.parameters.length) = some 1 := by decide +kernel
theorem hd_yX9_toWarm : yX9_toWarm.cls ≠ "java/lang/invoke/MethodHandle" ∧ yX9_toWarm.cls ≠ "java/lang/invoke/VarHandle" ∧ (parseMethodDescriptor yX9_toWarm.desc).map (fun d => d.parameters.length) = some 2 := by decide +kernel
theorem hd_yX9_matters : yX9_matters.cls ≠ "java/lang/invoke/MethodHandle" ∧ yX9_matters.cls ≠ "java/lang/invoke/VarHandle" ∧ (parseMethodDescriptor yX9_matters.desc).map (fun d => d.parameters.length) = some 3 := by decide +kernel
theorem hd_yX9_pitOf : yX9_pitOf.cls ≠ "java/lang/invoke/MethodHandle" ∧ yX9_pitOf.cls ≠ "java/lang/invoke/VarHandle" ∧ (parseMethodDescriptor yX9_pitOf.desc).map (fun d => d.parameters.length) = some 2 := by decide +kernel
theorem hd_yX9_compare : yX9_compare.cls ≠ "java/lang/invoke/MethodHandle" ∧ yX9_compare.cls ≠ "java/lang/invoke/VarHandle" ∧ (parseMethodDescriptor yX9_compare.desc).map (fun d => d.parameters.length) = some 3 := by decide +kernel
theorem hd_yX9_nearest : yX9_nearest.cls ≠ "java/lang/invoke/MethodHandle" ∧ yX9_nearest.cls ≠ "java/lang/invoke/VarHandle" ∧ (parseMethodDescriptor yX9_nearest.desc).map (fun d => d.parameters.length) = some 1 := by decide +kernel
theorem hd_yX9_falls : yX9_falls.cls ≠ "java/lang/invoke/MethodHandle" ∧ yX9_falls.cls ≠ "java/lang/invoke/VarHandle" ∧ (parseMethodDescriptor yX9_falls.desc).map (fun d => d.parameters.length) = some 1 := by decide +kernel
theorem hd_yX9_look : yX9_look.cls ≠ "java/lang/invoke/MethodHandle" ∧ yX9_look.cls ≠ "java/lang/invoke/VarHandle" ∧ (parseMethodDescriptor yX9_look.desc).map (fun d => d.parameters.length) = some 1 := by decide +kernel
theorem hd_yX9_odds : yX9_odds.cls ≠ "java/lang/invoke/MethodHandle" ∧ yX9_odds.cls ≠ "java/lang/invoke/VarHandle" ∧ (parseMethodDescriptor yX9_odds.desc).map (fun d => d.parameters.length) = some 3 := by decide +kernel
theorem hd_yX9_years : yX9_years.cls ≠ "java/lang/invoke/MethodHandle" ∧ yX9_years.cls ≠ "java/lang/invoke/VarHandle" ∧ (parseMethodDescriptor yX9_years.desc).map (fun d => d.parameters.length) = some 3 := by decide +kernel
theorem mv_yX9_snow : zWv yX9_snow cX9_snow 3 (some .int) := ⟨q_655, q_656, q_1, q_657⟩
theorem mv_yX9_count : zWv yX9_count cX9_count 3 (some .int) := ⟨q_875, q_876, q_1, q_877⟩
theorem mv_yX9_forecast : zWv yX9_forecast cX9_forecast 3 (some .int) := ⟨q_924, q_925, q_1, q_926⟩
theorem mv_yX9_slope : zWv yX9_slope cX9_slope 5 (some .int) := ⟨q_933, q_934, q_1, q_935⟩
theorem mv_yX9_layer : zWv yX9_layer cX9_layer 6 (some .int) := ⟨q_952, q_953, q_1, q_954⟩
theorem mv_yX9_told : zWv yX9_told cX9_told 5 (some .int) := ⟨q_971, q_972, q_1, q_973⟩
theorem mv_yX9_then : zWv yX9_then cX9_then 6 (some .int) := ⟨q_1217, q_1218, q_1, q_1219⟩
theorem mv_yX9_once : zWv yX9_once cX9_once 5 (some .int) := ⟨q_1237, q_1238, q_1, q_1239⟩
theorem mv_yX9_gone : zWv yX9_gone cX9_gone 3 (some .int) := ⟨q_1244, q_1245, q_1, q_1246⟩
theorem mv_yX9_stands : zWv yX9_stands cX9_stands 6 (some .int) := ⟨q_1260, q_1261, q_1, q_1262⟩
theorem mv_yX9_toLoad : zWv yX9_toLoad cX9_toLoad 4 (some .int) := ⟨q_1271, q_1272, q_1, q_1273⟩
theorem mv_yX9_steepest : zWv yX9_steepest cX9_steepest 4 (some .int) := ⟨q_1278, q_1279, q_1, q_1280⟩
theorem mv_yX9_toWarm : zWv yX9_toWarm cX9_toWarm 4 (some .int) := ⟨q_1285, q_1286, q_1, q_1287⟩
theorem mv_yX9_matters : zWv yX9_matters cX9_matters 9 (some .int) := ⟨q_1301, q_1302, q_1, q_1303⟩
theorem mv_yX9_pitOf : zWv yX9_pitOf cX9_pitOf 3 (some .int) := ⟨q_1313, q_1314, q_1, q_1315⟩
theorem mv_yX9_compare : zWv yX9_compare cX9_compare 6 (some .int) := ⟨q_1326, q_1327, q_1, q_1328⟩
theorem mv_yX9_nearest : zWv yX9_nearest cX9_nearest 6 (some .int) := ⟨q_1353, q_1354, q_1, q_1355⟩
theorem mv_yX9_falls : zWv yX9_falls cX9_falls 3 (some .int) := ⟨q_1360, q_1361, q_1, q_1362⟩
theorem mv_yX9_look : zWv yX9_look cX9_look 5 (some .int) := ⟨q_1405, q_1406, q_1, q_1407⟩
theorem mv_yX9_odds : zWv yX9_odds cX9_odds 7 (some .int) := ⟨q_1412, q_1413, q_1, q_1414⟩
theorem mv_yX9_years : zWv yX9_years cX9_years 6 (some .int) := ⟨q_1429, q_1430, q_1, q_1431⟩
end
section
-- 9A2.dec.lean.txt
-- decode rows of lhelp
theorem dL_snow_0 : decode cL_snow 0 = .ok (.aload_n 2, 1) := by decide +kernel
theorem dL_snow_1 : decode cL_snow 1 = .ok (.iconst 0, 1) := by decide +kernel
theorem dL_snow_2 : decode cL_snow 2 = .ok (.aload_n 0, 1) := by decide +kernel
theorem dL_snow_3 : decode cL_snow 3 = .ok (.iload_n 1, 1) := by decide +kernel
theorem dL_snow_4 : decode cL_snow 4 = .ok (.invokevirtual 7, 3) := by decide +kernel
theorem dL_snow_12 : decode cL_snow 12 = .ok (.astore_n 3, 1) := by decide +kernel
theorem dL_snow_13 : decode cL_snow 13 = .ok (.iconst 1, 1) := by decide +kernel
theorem dL_snow_14 : decode cL_snow 14 = .ok (.ireturn, 1) := by decide +kernel
theorem dL_snow_7 : decode cL_snow 7 = .ok (.i2l, 1) := by decide +kernel
theorem dL_snow_8 : decode cL_snow 8 = .ok (.lastore, 1) := by decide +kernel
theorem dL_snow_9 : decode cL_snow 9 = .ok (.goto 6, 3) := by decide +kernel
theorem dL_snow_15 : decode cL_snow 15 = .ok (.iconst 0, 1) := by decide +kernel
theorem dL_snow_16 : decode cL_snow 16 = .ok (.ireturn, 1) := by decide +kernel
theorem dL_count_0 : decode cL_count 0 = .ok (.aload_n 2, 1) := by decide +kernel
theorem dL_count_1 : decode cL_count 1 = .ok (.iconst 0, 1) := by decide +kernel
theorem dL_count_2 : decode cL_count 2 = .ok (.aload_n 0, 1) := by decide +kernel
theorem dL_count_3 : decode cL_count 3 = .ok (.iload_n 1, 1) := by decide +kernel
theorem dL_count_4 : decode cL_count 4 = .ok (.invokevirtual 15, 3) := by decide +kernel
theorem dL_count_12 : decode cL_count 12 = .ok (.astore_n 3, 1) := by decide +kernel
theorem dL_count_13 : decode cL_count 13 = .ok (.iconst 1, 1) := by decide +kernel
theorem dL_count_14 : decode cL_count 14 = .ok (.ireturn, 1) := by decide +kernel
theorem dL_count_7 : decode cL_count 7 = .ok (.i2l, 1) := by decide +kernel
theorem dL_count_8 : decode cL_count 8 = .ok (.lastore, 1) := by decide +kernel
theorem dL_count_9 : decode cL_count 9 = .ok (.goto 6, 3) := by decide +kernel
theorem dL_count_15 : decode cL_count 15 = .ok (.iconst 0, 1) := by decide +kernel
theorem dL_count_16 : decode cL_count 16 = .ok (.ireturn, 1) := by decide +kernel
theorem dL_forecast_0 : decode cL_forecast 0 = .ok (.aload_n 3, 1) := by decide +kernel
theorem dL_forecast_1 : decode cL_forecast 1 = .ok (.iconst 0, 1) := by decide +kernel
theorem dL_forecast_2 : decode cL_forecast 2 = .ok (.aload_n 0, 1) := by decide +kernel
theorem dL_forecast_3 : decode cL_forecast 3 = .ok (.iload_n 1, 1) := by decide +kernel
theorem dL_forecast_4 : decode cL_forecast 4 = .ok (.iload_n 2, 1) := by decide +kernel
theorem dL_forecast_5 : decode cL_forecast 5 = .ok (.invokevirtual 20, 3) := by decide +kernel
theorem dL_forecast_13 : decode cL_forecast 13 = .ok (.astore 4, 2) := by decide +kernel
theorem dL_forecast_15 : decode cL_forecast 15 = .ok (.iconst 1, 1) := by decide +kernel
theorem dL_forecast_16 : decode cL_forecast 16 = .ok (.ireturn, 1) := by decide +kernel
theorem dL_forecast_8 : decode cL_forecast 8 = .ok (.i2l, 1) := by decide +kernel
theorem dL_forecast_9 : decode cL_forecast 9 = .ok (.lastore, 1) := by decide +kernel
theorem dL_forecast_10 : decode cL_forecast 10 = .ok (.goto 7, 3) := by decide +kernel
theorem dL_forecast_17 : decode cL_forecast 17 = .ok (.iconst 0, 1) := by decide +kernel
theorem dL_forecast_18 : decode cL_forecast 18 = .ok (.ireturn, 1) := by decide +kernel
theorem dL_slope_0 : decode cL_slope 0 = .ok (.aload_n 3, 1) := by decide +kernel
theorem dL_slope_1 : decode cL_slope 1 = .ok (.iconst 0, 1) := by decide +kernel
theorem dL_slope_2 : decode cL_slope 2 = .ok (.aload_n 0, 1) := by decide +kernel
theorem dL_slope_3 : decode cL_slope 3 = .ok (.iload_n 1, 1) := by decide +kernel
theorem dL_slope_4 : decode cL_slope 4 = .ok (.iload_n 2, 1) := by decide +kernel
theorem dL_slope_5 : decode cL_slope 5 = .ok (.invokevirtual 24, 3) := by decide +kernel
theorem dL_slope_13 : decode cL_slope 13 = .ok (.astore 4, 2) := by decide +kernel
theorem dL_slope_15 : decode cL_slope 15 = .ok (.iconst 1, 1) := by decide +kernel
theorem dL_slope_16 : decode cL_slope 16 = .ok (.ireturn, 1) := by decide +kernel
theorem dL_slope_8 : decode cL_slope 8 = .ok (.i2l, 1) := by decide +kernel
theorem dL_slope_9 : decode cL_slope 9 = .ok (.lastore, 1) := by decide +kernel
theorem dL_slope_10 : decode cL_slope 10 = .ok (.goto 7, 3) := by decide +kernel
theorem dL_slope_17 : decode cL_slope 17 = .ok (.iconst 0, 1) := by decide +kernel
theorem dL_slope_18 : decode cL_slope 18 = .ok (.ireturn, 1) := by decide +kernel
theorem dL_layer_0 : decode cL_layer 0 = .ok (.aload 4, 2) := by decide +kernel
theorem dL_layer_2 : decode cL_layer 2 = .ok (.iconst 0, 1) := by decide +kernel
theorem dL_layer_3 : decode cL_layer 3 = .ok (.aload_n 0, 1) := by decide +kernel
theorem dL_layer_4 : decode cL_layer 4 = .ok (.iload_n 1, 1) := by decide +kernel
theorem dL_layer_5 : decode cL_layer 5 = .ok (.iload_n 2, 1) := by decide +kernel
theorem dL_layer_6 : decode cL_layer 6 = .ok (.iload_n 3, 1) := by decide +kernel
theorem dL_layer_7 : decode cL_layer 7 = .ok (.invokevirtual 27, 3) := by decide +kernel
theorem dL_layer_15 : decode cL_layer 15 = .ok (.astore 5, 2) := by decide +kernel
theorem dL_layer_17 : decode cL_layer 17 = .ok (.iconst 1, 1) := by decide +kernel
theorem dL_layer_18 : decode cL_layer 18 = .ok (.ireturn, 1) := by decide +kernel
theorem dL_layer_10 : decode cL_layer 10 = .ok (.i2l, 1) := by decide +kernel
theorem dL_layer_11 : decode cL_layer 11 = .ok (.lastore, 1) := by decide +kernel
theorem dL_layer_12 : decode cL_layer 12 = .ok (.goto 7, 3) := by decide +kernel
theorem dL_layer_19 : decode cL_layer 19 = .ok (.iconst 0, 1) := by decide +kernel
theorem dL_layer_20 : decode cL_layer 20 = .ok (.ireturn, 1) := by decide +kernel
theorem dL_told_0 : decode cL_told 0 = .ok (.aload 4, 2) := by decide +kernel
theorem dL_told_2 : decode cL_told 2 = .ok (.iconst 0, 1) := by decide +kernel
theorem dL_told_3 : decode cL_told 3 = .ok (.aload_n 0, 1) := by decide +kernel
theorem dL_told_4 : decode cL_told 4 = .ok (.iload_n 1, 1) := by decide +kernel
theorem dL_told_5 : decode cL_told 5 = .ok (.iload_n 2, 1) := by decide +kernel
theorem dL_told_6 : decode cL_told 6 = .ok (.iload_n 3, 1) := by decide +kernel
theorem dL_told_7 : decode cL_told 7 = .ok (.invokevirtual 31, 3) := by decide +kernel
theorem dL_told_15 : decode cL_told 15 = .ok (.astore 5, 2) := by decide +kernel
theorem dL_told_17 : decode cL_told 17 = .ok (.iconst 1, 1) := by decide +kernel
theorem dL_told_18 : decode cL_told 18 = .ok (.ireturn, 1) := by decide +kernel
theorem dL_told_10 : decode cL_told 10 = .ok (.i2l, 1) := by decide +kernel
theorem dL_told_11 : decode cL_told 11 = .ok (.lastore, 1) := by decide +kernel
theorem dL_told_12 : decode cL_told 12 = .ok (.goto 7, 3) := by decide +kernel
theorem dL_told_19 : decode cL_told 19 = .ok (.iconst 0, 1) := by decide +kernel
theorem dL_told_20 : decode cL_told 20 = .ok (.ireturn, 1) := by decide +kernel
theorem dL_then_0 : decode cL_then 0 = .ok (.aload 4, 2) := by decide +kernel
theorem dL_then_2 : decode cL_then 2 = .ok (.iconst 0, 1) := by decide +kernel
theorem dL_then_3 : decode cL_then 3 = .ok (.aload_n 0, 1) := by decide +kernel
theorem dL_then_4 : decode cL_then 4 = .ok (.iload_n 1, 1) := by decide +kernel
theorem dL_then_5 : decode cL_then 5 = .ok (.iload_n 2, 1) := by decide +kernel
theorem dL_then_6 : decode cL_then 6 = .ok (.iload_n 3, 1) := by decide +kernel
theorem dL_then_7 : decode cL_then 7 = .ok (.invokevirtual 34, 3) := by decide +kernel
theorem dL_then_15 : decode cL_then 15 = .ok (.astore 5, 2) := by decide +kernel
theorem dL_then_17 : decode cL_then 17 = .ok (.iconst 1, 1) := by decide +kernel
theorem dL_then_18 : decode cL_then 18 = .ok (.ireturn, 1) := by decide +kernel
theorem dL_then_19 : decode cL_then 19 = .ok (.astore 5, 2) := by decide +kernel
theorem dL_then_21 : decode cL_then 21 = .ok (.iconst 2, 1) := by decide +kernel
theorem dL_then_22 : decode cL_then 22 = .ok (.ireturn, 1) := by decide +kernel
theorem dL_then_10 : decode cL_then 10 = .ok (.i2l, 1) := by decide +kernel
theorem dL_then_11 : decode cL_then 11 = .ok (.lastore, 1) := by decide +kernel
theorem dL_then_12 : decode cL_then 12 = .ok (.goto 11, 3) := by decide +kernel
theorem dL_then_23 : decode cL_then 23 = .ok (.iconst 0, 1) := by decide +kernel
theorem dL_then_24 : decode cL_then 24 = .ok (.ireturn, 1) := by decide +kernel
theorem dL_once_0 : decode cL_once 0 = .ok (.aload_n 3, 1) := by decide +kernel
theorem dL_once_1 : decode cL_once 1 = .ok (.iconst 0, 1) := by decide +kernel
theorem dL_once_2 : decode cL_once 2 = .ok (.aload_n 0, 1) := by decide +kernel
theorem dL_once_3 : decode cL_once 3 = .ok (.iload_n 1, 1) := by decide +kernel
theorem dL_once_4 : decode cL_once 4 = .ok (.iload_n 2, 1) := by decide +kernel
theorem dL_once_5 : decode cL_once 5 = .ok (.invokevirtual 37, 3) := by decide +kernel
theorem dL_once_13 : decode cL_once 13 = .ok (.astore 4, 2) := by decide +kernel
theorem dL_once_15 : decode cL_once 15 = .ok (.iconst 1, 1) := by decide +kernel
theorem dL_once_16 : decode cL_once 16 = .ok (.ireturn, 1) := by decide +kernel
theorem dL_once_8 : decode cL_once 8 = .ok (.i2l, 1) := by decide +kernel
theorem dL_once_9 : decode cL_once 9 = .ok (.lastore, 1) := by decide +kernel
theorem dL_once_10 : decode cL_once 10 = .ok (.goto 7, 3) := by decide +kernel
theorem dL_once_17 : decode cL_once 17 = .ok (.iconst 0, 1) := by decide +kernel
theorem dL_once_18 : decode cL_once 18 = .ok (.ireturn, 1) := by decide +kernel
theorem dL_gone_0 : decode cL_gone 0 = .ok (.aload_n 2, 1) := by decide +kernel
theorem dL_gone_1 : decode cL_gone 1 = .ok (.iconst 0, 1) := by decide +kernel
theorem dL_gone_2 : decode cL_gone 2 = .ok (.aload_n 0, 1) := by decide +kernel
theorem dL_gone_3 : decode cL_gone 3 = .ok (.iload_n 1, 1) := by decide +kernel
theorem dL_gone_4 : decode cL_gone 4 = .ok (.invokevirtual 40, 3) := by decide +kernel
theorem dL_gone_12 : decode cL_gone 12 = .ok (.astore_n 3, 1) := by decide +kernel
theorem dL_gone_13 : decode cL_gone 13 = .ok (.iconst 1, 1) := by decide +kernel
theorem dL_gone_14 : decode cL_gone 14 = .ok (.ireturn, 1) := by decide +kernel
theorem dL_gone_7 : decode cL_gone 7 = .ok (.i2l, 1) := by decide +kernel
theorem dL_gone_8 : decode cL_gone 8 = .ok (.lastore, 1) := by decide +kernel
theorem dL_gone_9 : decode cL_gone 9 = .ok (.goto 6, 3) := by decide +kernel
theorem dL_gone_15 : decode cL_gone 15 = .ok (.iconst 0, 1) := by decide +kernel
theorem dL_gone_16 : decode cL_gone 16 = .ok (.ireturn, 1) := by decide +kernel
theorem dL_stands_0 : decode cL_stands 0 = .ok (.aload_n 3, 1) := by decide +kernel
theorem dL_stands_1 : decode cL_stands 1 = .ok (.iconst 0, 1) := by decide +kernel
theorem dL_stands_2 : decode cL_stands 2 = .ok (.aload_n 0, 1) := by decide +kernel
theorem dL_stands_3 : decode cL_stands 3 = .ok (.iload_n 1, 1) := by decide +kernel
theorem dL_stands_4 : decode cL_stands 4 = .ok (.iload_n 2, 1) := by decide +kernel
theorem dL_stands_5 : decode cL_stands 5 = .ok (.invokevirtual 43, 3) := by decide +kernel
theorem dL_stands_13 : decode cL_stands 13 = .ok (.astore 4, 2) := by decide +kernel
theorem dL_stands_15 : decode cL_stands 15 = .ok (.iconst 1, 1) := by decide +kernel
theorem dL_stands_16 : decode cL_stands 16 = .ok (.ireturn, 1) := by decide +kernel
theorem dL_stands_8 : decode cL_stands 8 = .ok (.i2l, 1) := by decide +kernel
theorem dL_stands_9 : decode cL_stands 9 = .ok (.lastore, 1) := by decide +kernel
theorem dL_stands_10 : decode cL_stands 10 = .ok (.goto 7, 3) := by decide +kernel
theorem dL_stands_17 : decode cL_stands 17 = .ok (.iconst 0, 1) := by decide +kernel
theorem dL_stands_18 : decode cL_stands 18 = .ok (.ireturn, 1) := by decide +kernel
theorem dL_toLoad_0 : decode cL_toLoad 0 = .ok (.aload_n 2, 1) := by decide +kernel
theorem dL_toLoad_1 : decode cL_toLoad 1 = .ok (.iconst 0, 1) := by decide +kernel
theorem dL_toLoad_2 : decode cL_toLoad 2 = .ok (.aload_n 0, 1) := by decide +kernel
theorem dL_toLoad_3 : decode cL_toLoad 3 = .ok (.iload_n 1, 1) := by decide +kernel
theorem dL_toLoad_4 : decode cL_toLoad 4 = .ok (.invokevirtual 46, 3) := by decide +kernel
theorem dL_toLoad_12 : decode cL_toLoad 12 = .ok (.astore_n 3, 1) := by decide +kernel
theorem dL_toLoad_13 : decode cL_toLoad 13 = .ok (.iconst 1, 1) := by decide +kernel
theorem dL_toLoad_14 : decode cL_toLoad 14 = .ok (.ireturn, 1) := by decide +kernel
theorem dL_toLoad_7 : decode cL_toLoad 7 = .ok (.i2l, 1) := by decide +kernel
theorem dL_toLoad_8 : decode cL_toLoad 8 = .ok (.lastore, 1) := by decide +kernel
theorem dL_toLoad_9 : decode cL_toLoad 9 = .ok (.goto 6, 3) := by decide +kernel
theorem dL_toLoad_15 : decode cL_toLoad 15 = .ok (.iconst 0, 1) := by decide +kernel
theorem dL_toLoad_16 : decode cL_toLoad 16 = .ok (.ireturn, 1) := by decide +kernel
theorem dL_steepest_0 : decode cL_steepest 0 = .ok (.aload_n 2, 1) := by decide +kernel
theorem dL_steepest_1 : decode cL_steepest 1 = .ok (.iconst 0, 1) := by decide +kernel
theorem dL_steepest_2 : decode cL_steepest 2 = .ok (.aload_n 0, 1) := by decide +kernel
theorem dL_steepest_3 : decode cL_steepest 3 = .ok (.iload_n 1, 1) := by decide +kernel
theorem dL_steepest_4 : decode cL_steepest 4 = .ok (.invokevirtual 49, 3) := by decide +kernel
theorem dL_steepest_12 : decode cL_steepest 12 = .ok (.astore_n 3, 1) := by decide +kernel
theorem dL_steepest_13 : decode cL_steepest 13 = .ok (.iconst 1, 1) := by decide +kernel
theorem dL_steepest_14 : decode cL_steepest 14 = .ok (.ireturn, 1) := by decide +kernel
theorem dL_steepest_7 : decode cL_steepest 7 = .ok (.i2l, 1) := by decide +kernel
theorem dL_steepest_8 : decode cL_steepest 8 = .ok (.lastore, 1) := by decide +kernel
theorem dL_steepest_9 : decode cL_steepest 9 = .ok (.goto 6, 3) := by decide +kernel
theorem dL_steepest_15 : decode cL_steepest 15 = .ok (.iconst 0, 1) := by decide +kernel
theorem dL_steepest_16 : decode cL_steepest 16 = .ok (.ireturn, 1) := by decide +kernel
theorem dL_toWarm_0 : decode cL_toWarm 0 = .ok (.aload_n 3, 1) := by decide +kernel
theorem dL_toWarm_1 : decode cL_toWarm 1 = .ok (.iconst 0, 1) := by decide +kernel
theorem dL_toWarm_2 : decode cL_toWarm 2 = .ok (.aload_n 0, 1) := by decide +kernel
theorem dL_toWarm_3 : decode cL_toWarm 3 = .ok (.iload_n 1, 1) := by decide +kernel
theorem dL_toWarm_4 : decode cL_toWarm 4 = .ok (.iload_n 2, 1) := by decide +kernel
theorem dL_toWarm_5 : decode cL_toWarm 5 = .ok (.invokevirtual 52, 3) := by decide +kernel
theorem dL_toWarm_13 : decode cL_toWarm 13 = .ok (.astore 4, 2) := by decide +kernel
theorem dL_toWarm_15 : decode cL_toWarm 15 = .ok (.iconst 1, 1) := by decide +kernel
theorem dL_toWarm_16 : decode cL_toWarm 16 = .ok (.ireturn, 1) := by decide +kernel
theorem dL_toWarm_17 : decode cL_toWarm 17 = .ok (.astore 4, 2) := by decide +kernel
theorem dL_toWarm_19 : decode cL_toWarm 19 = .ok (.iconst 2, 1) := by decide +kernel
theorem dL_toWarm_20 : decode cL_toWarm 20 = .ok (.ireturn, 1) := by decide +kernel
theorem dL_toWarm_8 : decode cL_toWarm 8 = .ok (.i2l, 1) := by decide +kernel
theorem dL_toWarm_9 : decode cL_toWarm 9 = .ok (.lastore, 1) := by decide +kernel
theorem dL_toWarm_10 : decode cL_toWarm 10 = .ok (.goto 11, 3) := by decide +kernel
theorem dL_toWarm_21 : decode cL_toWarm 21 = .ok (.iconst 0, 1) := by decide +kernel
theorem dL_toWarm_22 : decode cL_toWarm 22 = .ok (.ireturn, 1) := by decide +kernel
theorem dL_matters_0 : decode cL_matters 0 = .ok (.aload 4, 2) := by decide +kernel
theorem dL_matters_2 : decode cL_matters 2 = .ok (.iconst 0, 1) := by decide +kernel
theorem dL_matters_3 : decode cL_matters 3 = .ok (.aload_n 0, 1) := by decide +kernel
theorem dL_matters_4 : decode cL_matters 4 = .ok (.iload_n 1, 1) := by decide +kernel
theorem dL_matters_5 : decode cL_matters 5 = .ok (.iload_n 2, 1) := by decide +kernel
theorem dL_matters_6 : decode cL_matters 6 = .ok (.iload_n 3, 1) := by decide +kernel
theorem dL_matters_7 : decode cL_matters 7 = .ok (.invokevirtual 55, 3) := by decide +kernel
theorem dL_matters_15 : decode cL_matters 15 = .ok (.astore 5, 2) := by decide +kernel
theorem dL_matters_17 : decode cL_matters 17 = .ok (.iconst 1, 1) := by decide +kernel
theorem dL_matters_18 : decode cL_matters 18 = .ok (.ireturn, 1) := by decide +kernel
theorem dL_matters_19 : decode cL_matters 19 = .ok (.astore 5, 2) := by decide +kernel
theorem dL_matters_21 : decode cL_matters 21 = .ok (.iconst 2, 1) := by decide +kernel
theorem dL_matters_22 : decode cL_matters 22 = .ok (.ireturn, 1) := by decide +kernel
theorem dL_matters_10 : decode cL_matters 10 = .ok (.i2l, 1) := by decide +kernel
theorem dL_matters_11 : decode cL_matters 11 = .ok (.lastore, 1) := by decide +kernel
theorem dL_matters_12 : decode cL_matters 12 = .ok (.goto 11, 3) := by decide +kernel
theorem dL_matters_23 : decode cL_matters 23 = .ok (.iconst 0, 1) := by decide +kernel
theorem dL_matters_24 : decode cL_matters 24 = .ok (.ireturn, 1) := by decide +kernel
theorem dL_pitOf_0 : decode cL_pitOf 0 = .ok (.aload_n 3, 1) := by decide +kernel
theorem dL_pitOf_1 : decode cL_pitOf 1 = .ok (.iconst 0, 1) := by decide +kernel
theorem dL_pitOf_2 : decode cL_pitOf 2 = .ok (.aload_n 0, 1) := by decide +kernel
theorem dL_pitOf_3 : decode cL_pitOf 3 = .ok (.iload_n 1, 1) := by decide +kernel
theorem dL_pitOf_4 : decode cL_pitOf 4 = .ok (.iload_n 2, 1) := by decide +kernel
theorem dL_pitOf_5 : decode cL_pitOf 5 = .ok (.invokevirtual 58, 3) := by decide +kernel
theorem dL_pitOf_13 : decode cL_pitOf 13 = .ok (.astore 4, 2) := by decide +kernel
theorem dL_pitOf_15 : decode cL_pitOf 15 = .ok (.iconst 1, 1) := by decide +kernel
theorem dL_pitOf_16 : decode cL_pitOf 16 = .ok (.ireturn, 1) := by decide +kernel
theorem dL_pitOf_8 : decode cL_pitOf 8 = .ok (.i2l, 1) := by decide +kernel
theorem dL_pitOf_9 : decode cL_pitOf 9 = .ok (.lastore, 1) := by decide +kernel
theorem dL_pitOf_10 : decode cL_pitOf 10 = .ok (.goto 7, 3) := by decide +kernel
theorem dL_pitOf_17 : decode cL_pitOf 17 = .ok (.iconst 0, 1) := by decide +kernel
theorem dL_pitOf_18 : decode cL_pitOf 18 = .ok (.ireturn, 1) := by decide +kernel
theorem dL_compare_0 : decode cL_compare 0 = .ok (.aload 4, 2) := by decide +kernel
theorem dL_compare_2 : decode cL_compare 2 = .ok (.iconst 0, 1) := by decide +kernel
theorem dL_compare_3 : decode cL_compare 3 = .ok (.aload_n 0, 1) := by decide +kernel
theorem dL_compare_4 : decode cL_compare 4 = .ok (.iload_n 1, 1) := by decide +kernel
theorem dL_compare_5 : decode cL_compare 5 = .ok (.iload_n 2, 1) := by decide +kernel
theorem dL_compare_6 : decode cL_compare 6 = .ok (.iload_n 3, 1) := by decide +kernel
theorem dL_compare_7 : decode cL_compare 7 = .ok (.invokevirtual 61, 3) := by decide +kernel
theorem dL_compare_15 : decode cL_compare 15 = .ok (.astore 5, 2) := by decide +kernel
theorem dL_compare_17 : decode cL_compare 17 = .ok (.iconst 1, 1) := by decide +kernel
theorem dL_compare_18 : decode cL_compare 18 = .ok (.ireturn, 1) := by decide +kernel
theorem dL_compare_10 : decode cL_compare 10 = .ok (.i2l, 1) := by decide +kernel
theorem dL_compare_11 : decode cL_compare 11 = .ok (.lastore, 1) := by decide +kernel
theorem dL_compare_12 : decode cL_compare 12 = .ok (.goto 7, 3) := by decide +kernel
theorem dL_compare_19 : decode cL_compare 19 = .ok (.iconst 0, 1) := by decide +kernel
theorem dL_compare_20 : decode cL_compare 20 = .ok (.ireturn, 1) := by decide +kernel
theorem dL_nearest_0 : decode cL_nearest 0 = .ok (.aload_n 2, 1) := by decide +kernel
theorem dL_nearest_1 : decode cL_nearest 1 = .ok (.iconst 0, 1) := by decide +kernel
theorem dL_nearest_2 : decode cL_nearest 2 = .ok (.aload_n 0, 1) := by decide +kernel
theorem dL_nearest_3 : decode cL_nearest 3 = .ok (.iload_n 1, 1) := by decide +kernel
theorem dL_nearest_4 : decode cL_nearest 4 = .ok (.invokevirtual 64, 3) := by decide +kernel
theorem dL_nearest_12 : decode cL_nearest 12 = .ok (.astore_n 3, 1) := by decide +kernel
theorem dL_nearest_13 : decode cL_nearest 13 = .ok (.iconst 1, 1) := by decide +kernel
theorem dL_nearest_14 : decode cL_nearest 14 = .ok (.ireturn, 1) := by decide +kernel
theorem dL_nearest_7 : decode cL_nearest 7 = .ok (.i2l, 1) := by decide +kernel
theorem dL_nearest_8 : decode cL_nearest 8 = .ok (.lastore, 1) := by decide +kernel
theorem dL_nearest_9 : decode cL_nearest 9 = .ok (.goto 6, 3) := by decide +kernel
theorem dL_nearest_15 : decode cL_nearest 15 = .ok (.iconst 0, 1) := by decide +kernel
theorem dL_nearest_16 : decode cL_nearest 16 = .ok (.ireturn, 1) := by decide +kernel
theorem dL_falls_0 : decode cL_falls 0 = .ok (.aload_n 2, 1) := by decide +kernel
theorem dL_falls_1 : decode cL_falls 1 = .ok (.iconst 0, 1) := by decide +kernel
theorem dL_falls_2 : decode cL_falls 2 = .ok (.aload_n 0, 1) := by decide +kernel
theorem dL_falls_3 : decode cL_falls 3 = .ok (.iload_n 1, 1) := by decide +kernel
theorem dL_falls_4 : decode cL_falls 4 = .ok (.invokevirtual 67, 3) := by decide +kernel
theorem dL_falls_12 : decode cL_falls 12 = .ok (.astore_n 3, 1) := by decide +kernel
theorem dL_falls_13 : decode cL_falls 13 = .ok (.iconst 1, 1) := by decide +kernel
theorem dL_falls_14 : decode cL_falls 14 = .ok (.ireturn, 1) := by decide +kernel
theorem dL_falls_7 : decode cL_falls 7 = .ok (.i2l, 1) := by decide +kernel
theorem dL_falls_8 : decode cL_falls 8 = .ok (.lastore, 1) := by decide +kernel
theorem dL_falls_9 : decode cL_falls 9 = .ok (.goto 6, 3) := by decide +kernel
theorem dL_falls_15 : decode cL_falls 15 = .ok (.iconst 0, 1) := by decide +kernel
theorem dL_falls_16 : decode cL_falls 16 = .ok (.ireturn, 1) := by decide +kernel
theorem dL_look_0 : decode cL_look 0 = .ok (.aload_n 2, 1) := by decide +kernel
theorem dL_look_1 : decode cL_look 1 = .ok (.iconst 0, 1) := by decide +kernel
theorem dL_look_2 : decode cL_look 2 = .ok (.aload_n 0, 1) := by decide +kernel
theorem dL_look_3 : decode cL_look 3 = .ok (.iload_n 1, 1) := by decide +kernel
theorem dL_look_4 : decode cL_look 4 = .ok (.invokevirtual 70, 3) := by decide +kernel
theorem dL_look_12 : decode cL_look 12 = .ok (.astore_n 3, 1) := by decide +kernel
theorem dL_look_13 : decode cL_look 13 = .ok (.iconst 1, 1) := by decide +kernel
theorem dL_look_14 : decode cL_look 14 = .ok (.ireturn, 1) := by decide +kernel
theorem dL_look_7 : decode cL_look 7 = .ok (.i2l, 1) := by decide +kernel
theorem dL_look_8 : decode cL_look 8 = .ok (.lastore, 1) := by decide +kernel
theorem dL_look_9 : decode cL_look 9 = .ok (.goto 6, 3) := by decide +kernel
theorem dL_look_15 : decode cL_look 15 = .ok (.iconst 0, 1) := by decide +kernel
theorem dL_look_16 : decode cL_look 16 = .ok (.ireturn, 1) := by decide +kernel
theorem dL_odds_0 : decode cL_odds 0 = .ok (.aload 4, 2) := by decide +kernel
theorem dL_odds_2 : decode cL_odds 2 = .ok (.iconst 0, 1) := by decide +kernel
theorem dL_odds_3 : decode cL_odds 3 = .ok (.aload_n 0, 1) := by decide +kernel
theorem dL_odds_4 : decode cL_odds 4 = .ok (.iload_n 1, 1) := by decide +kernel
theorem dL_odds_5 : decode cL_odds 5 = .ok (.iload_n 2, 1) := by decide +kernel
theorem dL_odds_6 : decode cL_odds 6 = .ok (.iload_n 3, 1) := by decide +kernel
theorem dL_odds_7 : decode cL_odds 7 = .ok (.invokevirtual 73, 3) := by decide +kernel
theorem dL_odds_15 : decode cL_odds 15 = .ok (.astore 5, 2) := by decide +kernel
theorem dL_odds_17 : decode cL_odds 17 = .ok (.iconst 1, 1) := by decide +kernel
theorem dL_odds_18 : decode cL_odds 18 = .ok (.ireturn, 1) := by decide +kernel
theorem dL_odds_19 : decode cL_odds 19 = .ok (.astore 5, 2) := by decide +kernel
theorem dL_odds_21 : decode cL_odds 21 = .ok (.iconst 2, 1) := by decide +kernel
theorem dL_odds_22 : decode cL_odds 22 = .ok (.ireturn, 1) := by decide +kernel
theorem dL_odds_10 : decode cL_odds 10 = .ok (.i2l, 1) := by decide +kernel
theorem dL_odds_11 : decode cL_odds 11 = .ok (.lastore, 1) := by decide +kernel
theorem dL_odds_12 : decode cL_odds 12 = .ok (.goto 11, 3) := by decide +kernel
theorem dL_odds_23 : decode cL_odds 23 = .ok (.iconst 0, 1) := by decide +kernel
theorem dL_odds_24 : decode cL_odds 24 = .ok (.ireturn, 1) := by decide +kernel
theorem dL_years_0 : decode cL_years 0 = .ok (.aload 4, 2) := by decide +kernel
theorem dL_years_2 : decode cL_years 2 = .ok (.iconst 0, 1) := by decide +kernel
theorem dL_years_3 : decode cL_years 3 = .ok (.aload_n 0, 1) := by decide +kernel
theorem dL_years_4 : decode cL_years 4 = .ok (.iload_n 1, 1) := by decide +kernel
theorem dL_years_5 : decode cL_years 5 = .ok (.iload_n 2, 1) := by decide +kernel
theorem dL_years_6 : decode cL_years 6 = .ok (.iload_n 3, 1) := by decide +kernel
theorem dL_years_7 : decode cL_years 7 = .ok (.invokevirtual 76, 3) := by decide +kernel
theorem dL_years_15 : decode cL_years 15 = .ok (.astore 5, 2) := by decide +kernel
theorem dL_years_17 : decode cL_years 17 = .ok (.iconst 1, 1) := by decide +kernel
theorem dL_years_18 : decode cL_years 18 = .ok (.ireturn, 1) := by decide +kernel
theorem dL_years_19 : decode cL_years 19 = .ok (.astore 5, 2) := by decide +kernel
theorem dL_years_21 : decode cL_years 21 = .ok (.iconst 2, 1) := by decide +kernel
theorem dL_years_22 : decode cL_years 22 = .ok (.ireturn, 1) := by decide +kernel
theorem dL_years_10 : decode cL_years 10 = .ok (.i2l, 1) := by decide +kernel
theorem dL_years_11 : decode cL_years 11 = .ok (.lastore, 1) := by decide +kernel
theorem dL_years_12 : decode cL_years 12 = .ok (.goto 11, 3) := by decide +kernel
theorem dL_years_23 : decode cL_years 23 = .ok (.iconst 0, 1) := by decide +kernel
theorem dL_years_24 : decode cL_years 24 = .ok (.ireturn, 1) := by decide +kernel
end
