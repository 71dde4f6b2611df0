theorem okMr.mono {cs : Nat → ClassId} {ad : Nat → Nat} {g : Nat → va_E} {i : Nat} {x y : Int} {F r st op ai fa mu tb tp : Nat → Int} (h : okMr cs ad g i x F r st op ai fa mu tb tp) (hxy : x ≤ y) : okMr cs ad g i y F r st op ai fa mu tb tp := ⟨h.1, h.2.1, h.2.2.1, h.2.2.2.1, h.2.2.2.2.1.mono hxy, h.2.2.2.2.2⟩

set_option maxRecDepth 100000 in
set_option maxHeartbeats 4000000 in
theorem c_yRight (l : Launch) (D : va_G) (A : Nat → Prop) (cs : Nat → ClassId) (tt : Nat) (N : Nat) (ad : Nat → Nat) (g : Nat → va_E) (i : Nat) (hN : i + 30 ≤ N) (F : Nat → Int) (hg : g i = mC ad i F) (h12 : F 12 = 0) (z : Int) (hz : 0 ≤ z ∧ z ≤ 1) (z1 : Int) (hz1 : 1 ≤ z1 ∧ z1 ≤ 2) : zM l yX10_right cX10_right 3 (some .boolean) ({ frames := 1, cells := 0, slots := 0, locals := 60 } : Room) D A cs tt N ad g [.ref (ad i), .int (zI (z)), .int (zI (z1))] (rI0 N ad fun r g' => (∃ F' : Nat → Int, g' i = mC ad i F' ∧ ((z = 1 ∧ r = 1 ∧ F' 12 = 0) ∨ (z = 0 ∧ r = 0 ∧ F' 12 = z1)) ∧ (∀ f, f ≠ 12 → F' f = F f)) ∧ ∀ j, j ≠ i → g' j = g j) := by
  have hay1 : zAt ad (i) (ad i) := rfl
  refine z_of (by decide) (Nat.le_of_ble_eq_true rfl) ?_
  intro pZ eZ sZ mZ below meth cZ C hr hlk hnm
  refine z_lv (lv' := [(0, .ref (ad i)), (1, .int (zI (z))), (2, .int (zI (z1)))]) [0, 1, 2] rfl ?_
  refine z_aload_n C 0 dX10_right_0 rfl ?_
  refine z_get (v := .int (zI (0))) C (lt_A0 hN rfl) hay1 hg rfl inA_X10 12 (by decide) q_1471 rfl (fv (F := F) (f := 12) h12) dX10_right_1 ?_
  refine z_if_ne (tgt := 16) C dX10_right_4 (by decide) (by omega) (fun h => absurd h (by omega)) (fun _ => ?_)
  refine z_iload_n C 1 dX10_right_7 rfl ?_
  refine z_if_ne (tgt := 16) C dX10_right_8 (by decide) (by omega) (fun hby2 => ?_) (fun hby2 => ?_)
  · refine z_aload_n C 0 dX10_right_16 rfl ?_
    refine z_get (v := .int (zI (0))) C (lt_A0 hN rfl) hay1 hg rfl inA_X10 12 (by decide) q_1471 rfl (fv (F := F) (f := 12) h12) dX10_right_17 ?_
    refine z_if_ne (tgt := 27) C dX10_right_20 (by decide) (by omega) (fun h => absurd h (by omega)) (fun _ => ?_)
    refine z_iconst (z := 1) C dX10_right_23 rfl ?_
    refine z_goto (tgt := 28) C dX10_right_24 (by decide) ?_
    have hFy3 : ∀ f, f ≠ 12 → F f = F f := fun f n12 => rfl
    have hey4 : F 12 = 0 := h12
    exact z_zret C hr hlk dX10_right_28 (by decide) (by decide) (by decide) ⟨1, rfl, rfl, rfl, ⟨_, hg, by omega, hFy3⟩, fun j j1 => by rfl⟩
  · refine z_aload_n C 0 dX10_right_11 rfl ?_
    refine z_iload_n C 2 dX10_right_12 rfl ?_
    refine z_put (fs' := mF ad (i) (uZ F 12 (z1))) C (lt_A0 hN rfl) hay1 hg tyX10 tyX10_ok nmX10 rfl inA_X10 12 (by decide) q_1471 rfl rfl rfl rfl (Nat.le_of_ble_eq_true rfl) rfl dX10_right_13 (fun gy5 egy6 => ?_)
    have hgy7 := up_s egy6
    refine z_aload_n C 0 dX10_right_16 rfl ?_
    refine z_get (v := .int (zI (z1))) C (lt_A0 hN rfl) hay1 hgy7 rfl inA_X10 12 (by decide) q_1471 rfl (fv (F := (uZ F 12 (z1))) (f := 12) (uZ_s _ _ _)) dX10_right_17 ?_
    refine z_if_ne (tgt := 27) C dX10_right_20 (by decide) (by omega) (fun hby8 => ?_) (fun hby8 => ?_)
    · refine z_iconst (z := 0) C dX10_right_27 rfl ?_
      have hFy9 : ∀ f, f ≠ 12 → (uZ F 12 (z1)) f = F f := fun f n12 => ((uZ_n _ _ n12).trans rfl)
      have hey10 : (uZ F 12 (z1)) 12 = z1 := (uZ_s _ _ _)
      exact z_zret C hr hlk dX10_right_28 (by decide) (by decide) (by decide) ⟨0, rfl, rfl, rfl, ⟨_, hgy7, by omega, hFy9⟩, fun j j1 => by rw [egy6, va_up_ne _ _ (by omega)]⟩
    · refine z_iconst (z := 1) C dX10_right_23 rfl ?_
      refine z_goto (tgt := 28) C dX10_right_24 (by decide) ?_
      have hFy11 : ∀ f, f ≠ 12 → (uZ F 12 (z1)) f = F f := fun f n12 => ((uZ_n _ _ n12).trans rfl)
      have hey12 : (uZ F 12 (z1)) 12 = z1 := (uZ_s _ _ _)
      exact z_zret C hr hlk dX10_right_28 (by decide) (by decide) (by decide) ⟨1, rfl, rfl, rfl, ⟨_, hgy7, by omega, hFy11⟩, fun j j1 => by rw [egy6, va_up_ne _ _ (by omega)]⟩

set_option maxRecDepth 100000 in
set_option maxHeartbeats 4000000 in
theorem c_ySnow0 (l : Launch) (D : va_G) (A : Nat → Prop) (cs : Nat → ClassId) (tt : Nat) (N : Nat) (ad : Nat → Nat) (g : Nat → va_E) (i : Nat) (hN : i + 30 ≤ N) (x : Int) (hx : 0 ≤ x ∧ x ≤ 512) (F r : Nat → Int) {st op ai fa mu tb tp : Nat → Int} (hM : okMr cs ad g i x F r st op ai fa mu tb tp) (z : Int) (hz : -2147483648 ≤ z ∧ z ≤ 2147483647) (hzo : z < 0 ∨ F 23 < z) : zM l yX10_snow cX10_snow 3 (some .int) ({ frames := 8, cells := 0, slots := 0, locals := 480 } : Room) D A cs tt N ad g [.ref (ad i), .int (zI (z))] (rI0 N ad fun q g' => q = 0 ∧ (∃ F' r' : Nat → Int, okMr cs ad g' i (x + 1) F' r' st op ai fa mu tb tp ∧ F' 12 = 1 ∧ (F' 13 = F 13 ∧ F' 14 = F 14 ∧ F' 17 = F 17 ∧ F' 20 = F 20 ∧ F' 21 = F 21 ∧ F' 23 = F 23 ∧ F' 24 = F 24)) ∧ ∀ j, j < i ∨ i + 30 ≤ j → g' j = g j) := by
  obtain ⟨hg, ⟨⟨e13, e14, e25, e27, e29⟩, k15, k16, k17, k18, k19, k20, k23, k21⟩, hRD, hTx, hA, ns, nh, nd, rf, pi, te, ki, li, ok1, ok2, fo, dd, dps, ⟨ha1, ha2, ha3, ha4, ha5, ha6, ha7, ha8, ha9, ha10, ha11, ha12, ha13, ha14, ha15, ha24, ha25, ha26, ha27, ha28, ha29⟩, hEv, hPt, hns, htp⟩ := id hM
  obtain ⟨-, hop, hai, hfa, hT, hT1⟩ := id hEv
  have hay1 : zAt ad (i) (ad i) := rfl
  have hay2 : zAt ad (i + 1) (ad (i + 1)) := rfl
  have hay3 : zAt ad (i + 2) (ad (i + 2)) := rfl
  have hay4 : zAt ad (i + 3) (ad (i + 3)) := rfl
  have hay5 : zAt ad (i + 4) (ad (i + 4)) := rfl
  have hay6 : zAt ad (i + 5) (ad (i + 5)) := rfl
  have hay7 : zAt ad (i + 6) (ad (i + 6)) := rfl
  have hay8 : zAt ad (i + 7) (ad (i + 7)) := rfl
  have hay9 : zAt ad (i + 8) (ad (i + 8)) := rfl
  have hay10 : zAt ad (i + 9) (ad (i + 9)) := rfl
  have hay11 : zAt ad (i + 10) (ad (i + 10)) := rfl
  have hay12 : zAt ad (i + 11) (ad (i + 11)) := rfl
  have hay13 : zAt ad (i + 12) (ad (i + 12)) := rfl
  have hay14 : zAt ad (i + 13) (ad (i + 13)) := rfl
  have hay15 : zAt ad (i + 14) (ad (i + 14)) := rfl
  have hay16 : zAt ad (i + 15) (ad (i + 15)) := rfl
  have hay17 : zAt ad (i + 24) (ad (i + 24)) := rfl
  have hay18 : zAt ad (i + 25) (ad (i + 25)) := rfl
  have hay19 : zAt ad (i + 26) (ad (i + 26)) := rfl
  have hay20 : zAt ad (i + 27) (ad (i + 27)) := rfl
  have hay21 : zAt ad (i + 28) (ad (i + 28)) := rfl
  have hay22 : zAt ad (i + 29) (ad (i + 29)) := rfl
  obtain ⟨⟨hsyy23, htyy23, hnyy23, hpyy23⟩, hlyy23⟩ := okA.at0 hA
  simp only [Nat.zero_add] at hsyy23 hnyy23 hpyy23
  have hmn : ∀ s, s < 4 → 0 ≤ r (6 + 86 * s) ∧ r (6 + 86 * s) ≤ 12 := fun s hs => (hsyy23 s hs).1
  have h5 : 0 ≤ r 5 ∧ r 5 ≤ 6 := hpyy23
  refine z_of (by decide) (Nat.le_of_ble_eq_true rfl) ?_
  intro pZ eZ sZ mZ below meth cZ C hr hlk hnm
  refine z_lv (lv' := [(0, .ref (ad i)), (1, .int (zI (z)))]) [0, 1] rfl ?_
  refine z_aload_n C 0 dX10_snow_0 rfl ?_
  refine z_iconst (z := 0) C dX10_snow_1 rfl ?_
  refine z_put (fs' := mF ad (i) (uZ F 12 (0))) C (lt_A0 hN rfl) hay1 hg tyX10 tyX10_ok nmX10 rfl inA_X10 12 (by decide) q_1471 rfl rfl rfl rfl (Nat.le_of_ble_eq_true rfl) rfl dX10_snow_2 (fun gy24 egy25 => ?_)
  have hgy26 := up_s egy25
  refine z_aload_n C 0 dX10_snow_5 rfl ?_
  refine z_iload_n C 1 dX10_snow_6 rfl ?_
  refine z_if_lt (tgt := 22) C dX10_snow_7 (by decide) (by omega) (fun hby27 => ?_) (fun hby27 => ?_)
  · refine z_iconst (z := 0) C dX10_snow_22 rfl ?_
    refine z_iconst (z := 1) C dX10_snow_23 rfl ?_
    refine z_cV (As := [.int (zI (0)), .int (zI (1))]) (rest := []) (ci := 12) C (c_yRight l D A cs tt N ad _ i hN _ hgy26 (uZ_s _ _ _) (0) (by omega) (1) (by omega)) (lt_A0 hN rfl) hay1 hgy26 rfl rfl mv_yX10_right q_1652 hd_yX10_right (by decide) (Nat.le_of_ble_eq_true rfl) (by decide) dX10_snow_24 rfl (kI0 fun vy28 gvy28 hvy28 => ?_)
    obtain ⟨⟨Fvy28, hcvy28, hqvy28, hFvy28⟩, hfvy28⟩ := hvy28
    obtain ⟨rfl, hevy28⟩ : vy28 = 0 ∧ Fvy28 12 = 1 := by omega
    clear hqvy28
    refine z_if_ne (tgt := 32) C dX10_snow_27 (by decide) (by omega) (fun h => absurd h (by omega)) (fun _ => ?_)
    refine z_iconst (z := 0) C dX10_snow_30 rfl ?_
    have hgy29 := up_n egy25 ha1 (ne_o (i := i) (c := 1) (d := 0) rfl)
    have hgy30 := (hfvy28 (i + 1) (ne_o (i := i) (c := 1) (d := 0) rfl)).trans hgy29
    have hFy31 : ∀ f, f ≠ 12 → Fvy28 f = F f := fun f n12 => ((hFvy28 f n12).trans ((uZ_n _ _ n12).trans rfl))
    have hey32 : Fvy28 13 = F 13 := ((hFvy28 13 (by decide)).trans (fn rfl (by decide)))
    have hey33 : Fvy28 14 = F 14 := ((hFvy28 14 (by decide)).trans (fn rfl (by decide)))
    have hey34 : Fvy28 15 = F 15 := ((hFvy28 15 (by decide)).trans (fn rfl (by decide)))
    have hey35 : Fvy28 16 = F 16 := ((hFvy28 16 (by decide)).trans (fn rfl (by decide)))
    have hey36 : Fvy28 17 = F 17 := ((hFvy28 17 (by decide)).trans (fn rfl (by decide)))
    have hey37 : Fvy28 18 = F 18 := ((hFvy28 18 (by decide)).trans (fn rfl (by decide)))
    have hey38 : Fvy28 19 = F 19 := ((hFvy28 19 (by decide)).trans (fn rfl (by decide)))
    have hey39 : Fvy28 20 = F 20 := ((hFvy28 20 (by decide)).trans (fn rfl (by decide)))
    have hey40 : Fvy28 21 = F 21 := ((hFvy28 21 (by decide)).trans (fn rfl (by decide)))
    have hey41 : Fvy28 23 = F 23 := ((hFvy28 23 (by decide)).trans (fn rfl (by decide)))
    have hey42 : Fvy28 25 = F 25 := ((hFvy28 25 (by decide)).trans (fn rfl (by decide)))
    have hey43 : Fvy28 27 = F 27 := ((hFvy28 27 (by decide)).trans (fn rfl (by decide)))
    have hey44 : Fvy28 28 = F 28 := ((hFvy28 28 (by decide)).trans (fn rfl (by decide)))
    have hey45 : Fvy28 29 = F 29 := ((hFvy28 29 (by decide)).trans (fn rfl (by decide)))
    have hKy46 : okF Fvy28 := okF.mv hM.2.1 hey32 hey33 hey34 hey35 hey36 hey37 hey38 hey39 hey40 hey41 hey42 hey43 hey44 hey45
    have hMy47 : okMr cs ad gvy28 i (x + 1) Fvy28 r st op ai fa mu tb tp := okMr.upd hM hcvy28 hKy46 (fun f a => hFy31 f (by omega)) hgy30 (hA.mono (by omega)) (fun j a b => by
        exact Or.inl (by rw [hfvy28 _ (by omega)]; rw [egy25, va_up_ne _ _ (by omega)]))
    have hkpy48 : Fvy28 13 = F 13 := ((hFvy28 13 (by decide)).trans (fn rfl (by decide)))
    have hkpy49 : Fvy28 14 = F 14 := ((hFvy28 14 (by decide)).trans (fn rfl (by decide)))
    have hkpy50 : Fvy28 17 = F 17 := ((hFvy28 17 (by decide)).trans (fn rfl (by decide)))
    have hkpy51 : Fvy28 20 = F 20 := ((hFvy28 20 (by decide)).trans (fn rfl (by decide)))
    have hkpy52 : Fvy28 21 = F 21 := ((hFvy28 21 (by decide)).trans (fn rfl (by decide)))
    have hkpy53 : Fvy28 23 = F 23 := ((hFvy28 23 (by decide)).trans (fn rfl (by decide)))
    have hkpy54 : Fvy28 24 = F 24 := ((hFvy28 24 (by decide)).trans (fn rfl (by decide)))
    have h12 : Fvy28 12 = 1 := hevy28
    exact z_iret C hr hlk dX10_snow_31 (by decide) (by decide) ⟨0, rfl, rfl, rfl, by omega, ⟨_, _, hMy47, by omega, ⟨hkpy48, hkpy49, hkpy50, hkpy51, hkpy52, hkpy53, hkpy54⟩⟩, fun j j1 => by rw [hfvy28 _ (by omega)]; rw [egy25, va_up_ne _ _ (by omega)]⟩
  · refine z_iload_n C 1 dX10_snow_10 rfl ?_
    refine z_aload_n C 0 dX10_snow_11 rfl ?_
    refine z_get (v := .int (zI (F 23))) C (lt_A0 hN rfl) hay1 hgy26 rfl inA_X10 23 (by decide) q_1482 rfl (fv (F := (uZ F 12 (0))) (f := 23) (fn rfl (by decide))) dX10_snow_12 ?_
    refine z_icmp_gt (tgt := 22) C dX10_snow_15 (by decide) (by omega) (by omega) (fun hby55 => ?_) (fun hby55 => ?_)
    · refine z_iconst (z := 0) C dX10_snow_22 rfl ?_
      refine z_iconst (z := 1) C dX10_snow_23 rfl ?_
      refine z_cV (As := [.int (zI (0)), .int (zI (1))]) (rest := []) (ci := 12) C (c_yRight l D A cs tt N ad _ i hN _ hgy26 (uZ_s _ _ _) (0) (by omega) (1) (by omega)) (lt_A0 hN rfl) hay1 hgy26 rfl rfl mv_yX10_right q_1652 hd_yX10_right (by decide) (Nat.le_of_ble_eq_true rfl) (by decide) dX10_snow_24 rfl (kI0 fun vy56 gvy56 hvy56 => ?_)
      obtain ⟨⟨Fvy56, hcvy56, hqvy56, hFvy56⟩, hfvy56⟩ := hvy56
      obtain ⟨rfl, hevy56⟩ : vy56 = 0 ∧ Fvy56 12 = 1 := by omega
      clear hqvy56
      refine z_if_ne (tgt := 32) C dX10_snow_27 (by decide) (by omega) (fun h => absurd h (by omega)) (fun _ => ?_)
      refine z_iconst (z := 0) C dX10_snow_30 rfl ?_
      have hgy57 := up_n egy25 ha1 (ne_o (i := i) (c := 1) (d := 0) rfl)
      have hgy58 := (hfvy56 (i + 1) (ne_o (i := i) (c := 1) (d := 0) rfl)).trans hgy57
      have hFy59 : ∀ f, f ≠ 12 → Fvy56 f = F f := fun f n12 => ((hFvy56 f n12).trans ((uZ_n _ _ n12).trans rfl))
      have hey60 : Fvy56 13 = F 13 := ((hFvy56 13 (by decide)).trans (fn rfl (by decide)))
      have hey61 : Fvy56 14 = F 14 := ((hFvy56 14 (by decide)).trans (fn rfl (by decide)))
      have hey62 : Fvy56 15 = F 15 := ((hFvy56 15 (by decide)).trans (fn rfl (by decide)))
      have hey63 : Fvy56 16 = F 16 := ((hFvy56 16 (by decide)).trans (fn rfl (by decide)))
      have hey64 : Fvy56 17 = F 17 := ((hFvy56 17 (by decide)).trans (fn rfl (by decide)))
      have hey65 : Fvy56 18 = F 18 := ((hFvy56 18 (by decide)).trans (fn rfl (by decide)))
      have hey66 : Fvy56 19 = F 19 := ((hFvy56 19 (by decide)).trans (fn rfl (by decide)))
      have hey67 : Fvy56 20 = F 20 := ((hFvy56 20 (by decide)).trans (fn rfl (by decide)))
      have hey68 : Fvy56 21 = F 21 := ((hFvy56 21 (by decide)).trans (fn rfl (by decide)))
      have hey69 : Fvy56 23 = F 23 := ((hFvy56 23 (by decide)).trans (fn rfl (by decide)))
      have hey70 : Fvy56 25 = F 25 := ((hFvy56 25 (by decide)).trans (fn rfl (by decide)))
      have hey71 : Fvy56 27 = F 27 := ((hFvy56 27 (by decide)).trans (fn rfl (by decide)))
      have hey72 : Fvy56 28 = F 28 := ((hFvy56 28 (by decide)).trans (fn rfl (by decide)))
      have hey73 : Fvy56 29 = F 29 := ((hFvy56 29 (by decide)).trans (fn rfl (by decide)))
      have hKy74 : okF Fvy56 := okF.mv hM.2.1 hey60 hey61 hey62 hey63 hey64 hey65 hey66 hey67 hey68 hey69 hey70 hey71 hey72 hey73
      have hMy75 : okMr cs ad gvy56 i (x + 1) Fvy56 r st op ai fa mu tb tp := okMr.upd hM hcvy56 hKy74 (fun f a => hFy59 f (by omega)) hgy58 (hA.mono (by omega)) (fun j a b => by
          exact Or.inl (by rw [hfvy56 _ (by omega)]; rw [egy25, va_up_ne _ _ (by omega)]))
      have hkpy76 : Fvy56 13 = F 13 := ((hFvy56 13 (by decide)).trans (fn rfl (by decide)))
      have hkpy77 : Fvy56 14 = F 14 := ((hFvy56 14 (by decide)).trans (fn rfl (by decide)))
      have hkpy78 : Fvy56 17 = F 17 := ((hFvy56 17 (by decide)).trans (fn rfl (by decide)))
      have hkpy79 : Fvy56 20 = F 20 := ((hFvy56 20 (by decide)).trans (fn rfl (by decide)))
      have hkpy80 : Fvy56 21 = F 21 := ((hFvy56 21 (by decide)).trans (fn rfl (by decide)))
      have hkpy81 : Fvy56 23 = F 23 := ((hFvy56 23 (by decide)).trans (fn rfl (by decide)))
      have hkpy82 : Fvy56 24 = F 24 := ((hFvy56 24 (by decide)).trans (fn rfl (by decide)))
      have h12 : Fvy56 12 = 1 := hevy56
      exact z_iret C hr hlk dX10_snow_31 (by decide) (by decide) ⟨0, rfl, rfl, rfl, by omega, ⟨_, _, hMy75, by omega, ⟨hkpy76, hkpy77, hkpy78, hkpy79, hkpy80, hkpy81, hkpy82⟩⟩, fun j j1 => by rw [hfvy56 _ (by omega)]; rw [egy25, va_up_ne _ _ (by omega)]⟩
    · exfalso; omega

set_option maxRecDepth 100000 in
set_option maxHeartbeats 4000000 in
theorem c_ySnow1 (l : Launch) (D : va_G) (A : Nat → Prop) (cs : Nat → ClassId) (tt : Nat) (N : Nat) (ad : Nat → Nat) (g : Nat → va_E) (i : Nat) (hN : i + 30 ≤ N) (x : Int) (hx : 0 ≤ x ∧ x ≤ 512) (F r : Nat → Int) {st op ai fa mu tb tp : Nat → Int} (hM : okMr cs ad g i x F r st op ai fa mu tb tp) (T : Nat → Int) (n : Nat) (hTb : ∀ k, k < n → 0 ≤ T k ∧ T k ≤ 255) (hTt : ∀ k, k < n → tp k = T k) (st0 op0 ai0 fa0 mu0 : Nat → Int) (L0 : Nat → Nat → Int) (z : Int) (hzn : z = (n : Int)) (hzt : z ≤ F 23) : zM l yX10_snow cX10_snow 3 (some .int) ({ frames := 8, cells := 0, slots := 0, locals := 480 } : Room) D A cs tt N ad g [.ref (ad i), .int (zI (z))] (rI0 N ad fun q g' => (0 ≤ q ∧ q ≤ 5) ∧ (∃ (k9 : Nat) (pl9 : Int) (s9 : Int × Int × Int × (Nat → Int) × (Nat → Int) × (Nat → Int) × (Nat → Int) × (Nat → Int) × (Nat → Int) × (Nat → Int) × (Nat → Int) × (Nat → Nat → Int)), ps_run T n k9 (0, 0, 0, (fun _ => 0), st0, op0, ai0, fa0, mu0, tabZ, (fun _ => 0), L0) (tk_at T n 0) = some ((q, pl9), s9) ∧ ((q = 0 ∧ (∃ F' r' st' op' ai' fa' mu' tb' : Nat → Int, okMr cs ad g' i (x + 1) F' r' st' op' ai' fa' mu' tb' tp ∧ F' 12 = 0 ∧ (F' 13 = s9.1 ∧ F' 14 = s9.2.1 ∧ F' 17 = 0 ∧ F' 20 = F 20 ∧ F' 21 = 0 ∧ F' 23 = 0 ∧ F' 24 = pl9) ∧ dT s9 st' op' ai' fa' mu' tb')) ∨ (q ≠ 0 ∧ (∃ F' r' : Nat → Int, okMr cs ad g' i (x + 1) F' r' st op ai fa mu tb tp ∧ F' 12 = 0 ∧ (F' 13 = F 13 ∧ F' 14 = F 14 ∧ F' 17 = F 17 ∧ F' 20 = F 20 ∧ F' 21 = F 21 ∧ F' 23 = 0 ∧ F' 24 = pl9))))) ∧ ∀ j, j < i ∨ i + 30 ≤ j → g' j = g j) := by
  subst hzn
  obtain ⟨hg, ⟨⟨e13, e14, e25, e27, e29⟩, k15, k16, k17, k18, k19, k20, k23, k21⟩, hRD, hTx, hA, ns, nh, nd, rf, pi, te, ki, li, ok1, ok2, fo, dd, dps, ⟨ha1, ha2, ha3, ha4, ha5, ha6, ha7, ha8, ha9, ha10, ha11, ha12, ha13, ha14, ha15, ha24, ha25, ha26, ha27, ha28, ha29⟩, hEv, hPt, hns, htp⟩ := id hM
  obtain ⟨-, hop, hai, hfa, hT, hT1⟩ := id hEv
  have hay1 : zAt ad (i) (ad i) := rfl
  have hay2 : zAt ad (i + 1) (ad (i + 1)) := rfl
  have hay3 : zAt ad (i + 2) (ad (i + 2)) := rfl
  have hay4 : zAt ad (i + 3) (ad (i + 3)) := rfl
  have hay5 : zAt ad (i + 4) (ad (i + 4)) := rfl
  have hay6 : zAt ad (i + 5) (ad (i + 5)) := rfl
  have hay7 : zAt ad (i + 6) (ad (i + 6)) := rfl
  have hay8 : zAt ad (i + 7) (ad (i + 7)) := rfl
  have hay9 : zAt ad (i + 8) (ad (i + 8)) := rfl
  have hay10 : zAt ad (i + 9) (ad (i + 9)) := rfl
  have hay11 : zAt ad (i + 10) (ad (i + 10)) := rfl
  have hay12 : zAt ad (i + 11) (ad (i + 11)) := rfl
  have hay13 : zAt ad (i + 12) (ad (i + 12)) := rfl
  have hay14 : zAt ad (i + 13) (ad (i + 13)) := rfl
  have hay15 : zAt ad (i + 14) (ad (i + 14)) := rfl
  have hay16 : zAt ad (i + 15) (ad (i + 15)) := rfl
  have hay17 : zAt ad (i + 24) (ad (i + 24)) := rfl
  have hay18 : zAt ad (i + 25) (ad (i + 25)) := rfl
  have hay19 : zAt ad (i + 26) (ad (i + 26)) := rfl
  have hay20 : zAt ad (i + 27) (ad (i + 27)) := rfl
  have hay21 : zAt ad (i + 28) (ad (i + 28)) := rfl
  have hay22 : zAt ad (i + 29) (ad (i + 29)) := rfl
  obtain ⟨⟨hsyy23, htyy23, hnyy23, hpyy23⟩, hlyy23⟩ := okA.at0 hA
  simp only [Nat.zero_add] at hsyy23 hnyy23 hpyy23
  have hmn : ∀ s, s < 4 → 0 ≤ r (6 + 86 * s) ∧ r (6 + 86 * s) ≤ 12 := fun s hs => (hsyy23 s hs).1
  have h5 : 0 ≤ r 5 ∧ r 5 ≤ 6 := hpyy23
  obtain ⟨st1, op1, mn1, ai1, fa1, mu1, tb1, ly1, ⟨ha16, ha17, ha18, ha19, ha20, ha21, ha22, ha23⟩, ⟨⟨t47, t48, t49⟩, hop1, hmn1, hai1, hfa1, hly1⟩⟩ := id hTx
  have hay24 : zAt ad (i + 16) (ad (i + 16)) := rfl
  have hay25 : zAt ad (i + 17) (ad (i + 17)) := rfl
  have hay26 : zAt ad (i + 18) (ad (i + 18)) := rfl
  have hay27 : zAt ad (i + 19) (ad (i + 19)) := rfl
  have hay28 : zAt ad (i + 20) (ad (i + 20)) := rfl
  have hay29 : zAt ad (i + 21) (ad (i + 21)) := rfl
  have hay30 : zAt ad (i + 22) (ad (i + 22)) := rfl
  have hay31 : zAt ad (i + 23) (ad (i + 23)) := rfl
  have hn : n ≤ 900 := by omega
  refine z_of (by decide) (Nat.le_of_ble_eq_true rfl) ?_
  intro pZ eZ sZ mZ below meth cZ C hr hlk hnm
  refine z_lv (lv' := [(0, .ref (ad i)), (1, .int (zI ((n : Int))))]) [0, 1] rfl ?_
  refine z_aload_n C 0 dX10_snow_0 rfl ?_
  refine z_iconst (z := 0) C dX10_snow_1 rfl ?_
  refine z_put (fs' := mF ad (i) (uZ F 12 (0))) C (lt_A0 hN rfl) hay1 hg tyX10 tyX10_ok nmX10 rfl inA_X10 12 (by decide) q_1471 rfl rfl rfl rfl (Nat.le_of_ble_eq_true rfl) rfl dX10_snow_2 (fun gy32 egy33 => ?_)
  have hgy34 := up_s egy33
  refine z_aload_n C 0 dX10_snow_5 rfl ?_
  refine z_iload_n C 1 dX10_snow_6 rfl ?_
  refine z_if_lt (tgt := 22) C dX10_snow_7 (by decide) (by omega) (fun h => absurd h (by omega)) (fun _ => ?_)
  refine z_iload_n C 1 dX10_snow_10 rfl ?_
  refine z_aload_n C 0 dX10_snow_11 rfl ?_
  refine z_get (v := .int (zI (F 23))) C (lt_A0 hN rfl) hay1 hgy34 rfl inA_X10 23 (by decide) q_1482 rfl (fv (F := (uZ F 12 (0))) (f := 23) (fn rfl (by decide))) dX10_snow_12 ?_
  refine z_icmp_gt (tgt := 22) C dX10_snow_15 (by decide) (by omega) (by omega) (fun h => absurd h (by omega)) (fun _ => ?_)
  refine z_iconst (z := 1) C dX10_snow_18 rfl ?_
  refine z_goto (tgt := 23) C dX10_snow_19 (by decide) ?_
  refine z_iconst (z := 1) C dX10_snow_23 rfl ?_
  refine z_cV (As := [.int (zI (1)), .int (zI (1))]) (rest := []) (ci := 12) C (c_yRight l D A cs tt N ad _ i hN _ hgy34 (uZ_s _ _ _) (1) (by omega) (1) (by omega)) (lt_A0 hN rfl) hay1 hgy34 rfl rfl mv_yX10_right q_1652 hd_yX10_right (by decide) (Nat.le_of_ble_eq_true rfl) (by decide) dX10_snow_24 rfl (kI0 fun vy35 gvy35 hvy35 => ?_)
  obtain ⟨⟨Fvy35, hcvy35, hqvy35, hFvy35⟩, hfvy35⟩ := hvy35
  obtain ⟨rfl, hevy35⟩ : vy35 = 1 ∧ Fvy35 12 = 0 := by omega
  clear hqvy35
  refine z_if_ne (tgt := 32) C dX10_snow_27 (by decide) (by omega) (fun _ => ?_) (fun h => absurd h (by omega))
  refine z_aload_n C 0 dX10_snow_32 rfl ?_
  refine z_iconst (z := 0) C dX10_snow_33 rfl ?_
  refine z_put (fs' := mF ad (i) (uZ Fvy35 23 (0))) C (lt_A0 hN rfl) hay1 hcvy35 tyX10 tyX10_ok nmX10 rfl inA_X10 23 (by decide) q_1482 rfl rfl rfl rfl (Nat.le_of_ble_eq_true rfl) rfl dX10_snow_34 (fun gy36 egy37 => ?_)
  have hgy38 := up_s egy37
  refine z_aload_n C 0 dX10_snow_37 rfl ?_
  refine z_iload_n C 1 dX10_snow_38 rfl ?_
  refine z_put (fs' := mF ad (i) (uZ (uZ Fvy35 23 (0)) 34 ((n : Int)))) C (lt_A0 hN rfl) hay1 hgy38 tyX10 tyX10_ok nmX10 rfl inA_X10 34 (by decide) q_1493 rfl rfl rfl rfl (Nat.le_of_ble_eq_true rfl) rfl dX10_snow_39 (fun gy39 egy40 => ?_)
  have hgy41 := up_s egy40
  refine z_aload_n C 0 dX10_snow_42 rfl ?_
  refine z_iconst (z := 0) C dX10_snow_43 rfl ?_
  refine z_put (fs' := mF ad (i) (uZ (uZ (uZ Fvy35 23 (0)) 34 ((n : Int))) 32 (0))) C (lt_A0 hN rfl) hay1 hgy41 tyX10 tyX10_ok nmX10 rfl inA_X10 32 (by decide) q_1491 rfl rfl rfl rfl (Nat.le_of_ble_eq_true rfl) rfl dX10_snow_44 (fun gy42 egy43 => ?_)
  have hgy44 := up_s egy43
  refine z_aload_n C 0 dX10_snow_47 rfl ?_
  refine z_iconst (z := 0) C dX10_snow_48 rfl ?_
  refine z_put (fs' := mF ad (i) (uZ (uZ (uZ (uZ Fvy35 23 (0)) 34 ((n : Int))) 32 (0)) 38 (0))) C (lt_A0 hN rfl) hay1 hgy44 tyX10 tyX10_ok nmX10 rfl inA_X10 38 (by decide) q_1497 rfl rfl rfl rfl (Nat.le_of_ble_eq_true rfl) rfl dX10_snow_49 (fun gy45 egy46 => ?_)
  have hgy47 := up_s egy46
  refine z_aload_n C 0 dX10_snow_52 rfl ?_
  refine z_iconst (z := -1) C dX10_snow_53 rfl ?_
  refine z_put (fs' := mF ad (i) (uZ (uZ (uZ (uZ (uZ Fvy35 23 (0)) 34 ((n : Int))) 32 (0)) 38 (0)) 24 (-1))) C (lt_A0 hN rfl) hay1 hgy47 tyX10 tyX10_ok nmX10 rfl inA_X10 24 (by decide) q_1483 rfl rfl rfl rfl (Nat.le_of_ble_eq_true rfl) rfl dX10_snow_54 (fun gy48 egy49 => ?_)
  have hgy50 := up_s egy49
  refine z_aload_n C 0 dX10_snow_57 rfl ?_
  refine z_aload_n C 0 dX10_snow_58 rfl ?_
  refine z_aload_n C 0 dX10_snow_59 rfl ?_
  refine z_iconst (z := 0) C dX10_snow_60 rfl ?_
  refine z_dup_x1 C dX10_snow_61 rfl rfl ?_
  refine z_put (fs' := mF ad (i) (uZ (uZ (uZ (uZ (uZ (uZ Fvy35 23 (0)) 34 ((n : Int))) 32 (0)) 38 (0)) 24 (-1)) 49 (0))) C (lt_A0 hN rfl) hay1 hgy50 tyX10 tyX10_ok nmX10 rfl inA_X10 49 (by decide) q_1508 rfl rfl rfl rfl (Nat.le_of_ble_eq_true rfl) rfl dX10_snow_62 (fun gy51 egy52 => ?_)
  have hgy53 := up_s egy52
  refine z_dup_x1 C dX10_snow_65 rfl rfl ?_
  refine z_put (fs' := mF ad (i) (uZ (uZ (uZ (uZ (uZ (uZ (uZ Fvy35 23 (0)) 34 ((n : Int))) 32 (0)) 38 (0)) 24 (-1)) 49 (0)) 48 (0))) C (lt_A0 hN rfl) hay1 hgy53 tyX10 tyX10_ok nmX10 rfl inA_X10 48 (by decide) q_1507 rfl rfl rfl rfl (Nat.le_of_ble_eq_true rfl) rfl dX10_snow_66 (fun gy54 egy55 => ?_)
  have hgy56 := up_s egy55
  refine z_put (fs' := mF ad (i) (uZ (uZ (uZ (uZ (uZ (uZ (uZ (uZ Fvy35 23 (0)) 34 ((n : Int))) 32 (0)) 38 (0)) 24 (-1)) 49 (0)) 48 (0)) 47 (0))) C (lt_A0 hN rfl) hay1 hgy56 tyX10 tyX10_ok nmX10 rfl inA_X10 47 (by decide) q_1506 rfl rfl rfl rfl (Nat.le_of_ble_eq_true rfl) rfl dX10_snow_69 (fun gy57 egy58 => ?_)
  have hgy59 := up_s egy58
  refine z_iconst (z := 0) C dX10_snow_72 rfl ?_
  refine z_istore_n (lv' := [(2, .int (zI (0))), (0, .ref (ad i)), (1, .int (zI ((n : Int))))]) C dX10_snow_73 rfl (by decide) rfl ?_
  have A : ∀ (n9 : Nat) (ka : Int) (t9 : Nat → Int) (g1 : Nat → va_E), (16 - ka).toNat = n9 → (g1 (i + 22) = iA cs 15 t9) → (∀ j, j ≠ i + 22 → g1 j = gy57 j) → (∀ k : Nat, (k : Int) < ka → t9 k = -1) → (0 ≤ ka ∧ ka ≤ 15) → zV pZ l eZ ({ frames := 8, cells := 0, slots := 0, locals := 480 } : Room) sZ mZ ([.ref (ad i), .int (zI (n : Int))] : List Value).toArray below meth cZ (MQ below (zPost D A (rI0 N ad fun q g' => (0 ≤ q ∧ q ≤ 5) ∧ (∃ (k9 : Nat) (pl9 : Int) (s9 : Int × Int × Int × (Nat → Int) × (Nat → Int) × (Nat → Int) × (Nat → Int) × (Nat → Int) × (Nat → Int) × (Nat → Int) × (Nat → Int) × (Nat → Nat → Int)), ps_run T n k9 (0, 0, 0, (fun _ => 0), st0, op0, ai0, fa0, mu0, tabZ, (fun _ => 0), L0) (tk_at T n 0) = some ((q, pl9), s9) ∧ ((q = 0 ∧ (∃ F' r' st' op' ai' fa' mu' tb' : Nat → Int, okMr cs ad g' i (x + 1) F' r' st' op' ai' fa' mu' tb' tp ∧ F' 12 = 0 ∧ (F' 13 = s9.1 ∧ F' 14 = s9.2.1 ∧ F' 17 = 0 ∧ F' 20 = F 20 ∧ F' 21 = 0 ∧ F' 23 = 0 ∧ F' 24 = pl9) ∧ dT s9 st' op' ai' fa' mu' tb')) ∨ (q ≠ 0 ∧ (∃ F' r' : Nat → Int, okMr cs ad g' i (x + 1) F' r' st op ai fa mu tb tp ∧ F' 12 = 0 ∧ (F' 13 = F 13 ∧ F' 14 = F 14 ∧ F' 17 = F 17 ∧ F' 20 = F 20 ∧ F' 21 = F 21 ∧ F' 23 = 0 ∧ F' 24 = pl9))))) ∧ ∀ j, j < i ∨ i + 30 ≤ j → g' j = g j)) ([.ref (ad i), .int (zI (n : Int))] : List Value).toArray sZ ({ frames := 8, cells := 0, slots := 0, locals := 480 } : Room).cells ({ frames := 8, cells := 0, slots := 0, locals := 480 } : Room).slots A) D A 3 (N) ad g1 (0) (0) 74 [(0, .ref (ad i)), (1, .int (zI ((n : Int)))), (2, .int (zI (ka)))] [] := by
    intro n9
    induction n9 using Nat.strongRecOn with
    | ind n9 ih_A =>
      intro ka t9 g1 hm9 f2A_t9 f3A fTa hvkA
      obtain ⟨nkA, hnkA⟩ : ∃ n9 : Nat, ka = (n9 : Int) := ⟨ka.toNat, by omega⟩
      refine z_iload_n C 2 dX10_snow_74 rfl ?_
      refine z_bipush (z := 15) C dX10_snow_75 (by decide) ?_
      refine z_icmp_ge (tgt := 93) C dX10_snow_77 (by decide) (by omega) (by omega) (fun hby60 => ?_) (fun hby60 => ?_)
      · refine z_aload_n C 0 dX10_snow_93 rfl ?_
        have hgy61 := (f3A (i) (ne_o (i := i) (c := 0) (d := 22) rfl)).trans hgy59
        have hgy62 := up_n egy33 ha13 (ne_o (i := i) (c := 13) (d := 0) rfl)
        have hgy63 := (hfvy35 (i + 13) (ne_o (i := i) (c := 13) (d := 0) rfl)).trans hgy62
        have hgy64 := up_n egy37 hgy63 (ne_o (i := i) (c := 13) (d := 0) rfl)
        have hgy65 := up_n egy40 hgy64 (ne_o (i := i) (c := 13) (d := 0) rfl)
        have hgy66 := up_n egy43 hgy65 (ne_o (i := i) (c := 13) (d := 0) rfl)
        have hgy67 := up_n egy46 hgy66 (ne_o (i := i) (c := 13) (d := 0) rfl)
        have hgy68 := up_n egy49 hgy67 (ne_o (i := i) (c := 13) (d := 0) rfl)
        have hgy69 := up_n egy52 hgy68 (ne_o (i := i) (c := 13) (d := 0) rfl)
        have hgy70 := up_n egy55 hgy69 (ne_o (i := i) (c := 13) (d := 0) rfl)
        have hgy71 := up_n egy58 hgy70 (ne_o (i := i) (c := 13) (d := 0) rfl)
        have hgy72 := (f3A (i + 13) (ne_o (i := i) (c := 13) (d := 22) rfl)).trans hgy71
        have h32vy73 : (uZ (uZ (uZ (uZ (uZ (uZ (uZ (uZ Fvy35 23 (0)) 34 ((n : Int))) 32 (0)) 38 (0)) 24 (-1)) 49 (0)) 48 (0)) 47 (0)) 32 = 0 := (fn (fn (fn (fn (fn (uZ_s _ _ _) (by decide)) (by decide)) (by decide)) (by decide)) (by decide))
        have h34vy73 : (uZ (uZ (uZ (uZ (uZ (uZ (uZ (uZ Fvy35 23 (0)) 34 ((n : Int))) 32 (0)) 38 (0)) 24 (-1)) 49 (0)) 48 (0)) 47 (0)) 34 = (n : Int) := (fn (fn (fn (fn (fn (fn (uZ_s _ _ _) (by decide)) (by decide)) (by decide)) (by decide)) (by decide)) (by decide))
        have h38vy73 : (uZ (uZ (uZ (uZ (uZ (uZ (uZ (uZ Fvy35 23 (0)) 34 ((n : Int))) 32 (0)) 38 (0)) 24 (-1)) 49 (0)) 48 (0)) 47 (0)) 38 = 0 := (fn (fn (fn (fn (uZ_s _ _ _) (by decide)) (by decide)) (by decide)) (by decide))
        refine z_cV (As := []) (rest := []) (ci := 12) C (c_yGo l D A cs tt N ad _ i hN _ hgy61 _ hgy72 T n hn hTb hTt htp 0 (by omega) (by omega) (by omega) (by omega)) (lt_A0 hN rfl) hay1 hgy61 rfl rfl mv_yX10_go q_1656 hd_yX10_go (by decide) (Nat.le_of_ble_eq_true rfl) (by decide) dX10_snow_94 rfl (kV0 fun gvy73 hvy73 => ?_)
        obtain ⟨⟨Fvy73, hcvy73, hkvy73, hFvy73⟩, hfvy73⟩ := hvy73
        have hsry74 := srt_b T n (tk_at T n 0)
        have hvly75 := vlu_b hTb (tk_at T n 0)
        have hwby76 := tk_w_b T n (tk_at T n 0)
        have hfny77 := hkvy73.1
        have hat0 := tk_at_b (T := T) (n := n) (p := 0) (by omega)
        have L : ∀ (n9 : Nat) (f : Nat) (s9 : Int × Int × Int × (Nat → Int) × (Nat → Int) × (Nat → Int) × (Nat → Int) × (Nat → Int) × (Nat → Int) × (Nat → Int) × (Nat → Int) × (Nat → Nat → Int)) (F9 : Nat → Int) (g1 : Nat → va_E), n - f = n9 → (g1 i = mC ad i F9) → (tkR T n F9 f) → (xTx cs g1 i F9 s9) → (∀ r9, (∃ k9, ps_run T n k9 s9 f = some r9) → ∃ k9, ps_run T n k9 (0, 0, 0, (fun _ => 0), st0, op0, ai0, fa0, mu0, tabZ, (fun _ => 0), L0) (tk_at T n 0) = some r9) → ((∀ f, f ≠ 12 → f ≠ 23 → f ≠ 24 → f ≠ 32 → f ≠ 33 → f ≠ 34 → f ≠ 35 → f ≠ 36 → f ≠ 37 → f ≠ 38 → f ≠ 47 → f ≠ 48 → f ≠ 49 → F9 f = F f)) → (∀ j, j ≠ i → j < i + 16 ∨ i + 23 < j → g1 j = g j) → (F9 38 = 0 ∧ F9 24 = -1 ∧ F9 23 = 0 ∧ F9 12 = 0) → zV pZ l eZ ({ frames := 8, cells := 0, slots := 0, locals := 480 } : Room) sZ mZ ([.ref (ad i), .int (zI (n : Int))] : List Value).toArray below meth cZ (MQ below (zPost D A (rI0 N ad fun q g' => (0 ≤ q ∧ q ≤ 5) ∧ (∃ (k9 : Nat) (pl9 : Int) (s9 : Int × Int × Int × (Nat → Int) × (Nat → Int) × (Nat → Int) × (Nat → Int) × (Nat → Int) × (Nat → Int) × (Nat → Int) × (Nat → Int) × (Nat → Nat → Int)), ps_run T n k9 (0, 0, 0, (fun _ => 0), st0, op0, ai0, fa0, mu0, tabZ, (fun _ => 0), L0) (tk_at T n 0) = some ((q, pl9), s9) ∧ ((q = 0 ∧ (∃ F' r' st' op' ai' fa' mu' tb' : Nat → Int, okMr cs ad g' i (x + 1) F' r' st' op' ai' fa' mu' tb' tp ∧ F' 12 = 0 ∧ (F' 13 = s9.1 ∧ F' 14 = s9.2.1 ∧ F' 17 = 0 ∧ F' 20 = F 20 ∧ F' 21 = 0 ∧ F' 23 = 0 ∧ F' 24 = pl9) ∧ dT s9 st' op' ai' fa' mu' tb')) ∨ (q ≠ 0 ∧ (∃ F' r' : Nat → Int, okMr cs ad g' i (x + 1) F' r' st op ai fa mu tb tp ∧ F' 12 = 0 ∧ (F' 13 = F 13 ∧ F' 14 = F 14 ∧ F' 17 = F 17 ∧ F' 20 = F 20 ∧ F' 21 = F 21 ∧ F' 23 = 0 ∧ F' 24 = pl9))))) ∧ ∀ j, j < i ∨ i + 30 ≤ j → g' j = g j)) ([.ref (ad i), .int (zI (n : Int))] : List Value).toArray sZ ({ frames := 8, cells := 0, slots := 0, locals := 480 } : Room).cells ({ frames := 8, cells := 0, slots := 0, locals := 480 } : Room).slots A) D A 3 (N) ad g1 (0) (0) 97 [(0, .ref (ad i)), (1, .int (zI ((n : Int))))] [] := by
          intro n9
          induction n9 using Nat.strongRecOn with
          | ind n9 ih_L =>
            intro f s9 F9 g1 hm9 f2L hkL hXL hf9 fF f3L hsL
            have hay78 : zAt ad (i) (ad i) := rfl
            have hay79 : zAt ad (i + 1) (ad (i + 1)) := rfl
            have hay80 : zAt ad (i + 2) (ad (i + 2)) := rfl
            have hay81 : zAt ad (i + 3) (ad (i + 3)) := rfl
            have hay82 : zAt ad (i + 4) (ad (i + 4)) := rfl
            have hay83 : zAt ad (i + 5) (ad (i + 5)) := rfl
            have hay84 : zAt ad (i + 6) (ad (i + 6)) := rfl
            have hay85 : zAt ad (i + 7) (ad (i + 7)) := rfl
            have hay86 : zAt ad (i + 8) (ad (i + 8)) := rfl
            have hay87 : zAt ad (i + 9) (ad (i + 9)) := rfl
            have hay88 : zAt ad (i + 10) (ad (i + 10)) := rfl
            have hay89 : zAt ad (i + 11) (ad (i + 11)) := rfl
            have hay90 : zAt ad (i + 12) (ad (i + 12)) := rfl
            have hay91 : zAt ad (i + 13) (ad (i + 13)) := rfl
            have hay92 : zAt ad (i + 14) (ad (i + 14)) := rfl
            have hay93 : zAt ad (i + 15) (ad (i + 15)) := rfl
            have hay94 : zAt ad (i + 24) (ad (i + 24)) := rfl
            have hay95 : zAt ad (i + 25) (ad (i + 25)) := rfl
            have hay96 : zAt ad (i + 26) (ad (i + 26)) := rfl
            have hay97 : zAt ad (i + 27) (ad (i + 27)) := rfl
            have hay98 : zAt ad (i + 28) (ad (i + 28)) := rfl
            have hay99 : zAt ad (i + 29) (ad (i + 29)) := rfl
            have hsry100 := srt_b T n f
            have hvly101 := vlu_b hTb f
            have hwby102 := tk_w_b T n f
            have hfny103 := hkL.1
            have r32 : F9 32 = ((tk_to T n f : Nat) : Int) := hkL.2.1
            have hto0 := tk_to_nx (T := T) (n := n) (f := f) hkL.1.1
            refine z_aload_n C 0 dX10_snow_97 rfl ?_
            refine z_get (v := .int (zI (0))) C (lt_A0 hN rfl) hay78 f2L rfl inA_X10 38 (by decide) q_1497 rfl (fv (F := F9) (f := 38) hsL.1) dX10_snow_98 ?_
            refine z_if_ne (tgt := 159) C dX10_snow_101 (by decide) (by omega) (fun h => absurd h (by omega)) (fun _ => ?_)
            refine z_aload_n C 0 dX10_snow_104 rfl ?_
            refine z_get (v := .int (zI (srt (tk_so T n f)))) C (lt_A0 hN rfl) hay78 f2L rfl inA_X10 35 (by decide) q_1494 rfl (fv (F := F9) (f := 35) hkL.2.2.2.2.1) dX10_snow_105 ?_
            refine z_if_eq (tgt := 159) C dX10_snow_108 (by decide) (by omega) (fun hby104 => ?_) (fun hby104 => ?_)
            · have hso : tk_so T n f = 0 := srt0.mp (by omega)
              refine z_aload_n C 0 dX10_snow_159 rfl ?_
              refine z_get (v := .int (zI (0))) C (lt_A0 hN rfl) hay78 f2L rfl inA_X10 38 (by decide) q_1497 rfl (fv (F := F9) (f := 38) hsL.1) dX10_snow_160 ?_
              refine z_if_eq (tgt := 181) C dX10_snow_163 (by decide) (by omega) (fun _ => ?_) (fun h => absurd h (by omega))
              refine z_aload_n C 0 dX10_snow_181 rfl ?_
              have hey105 : F9 13 = F 13 := (fF 13 (by decide) (by decide) (by decide) (by decide) (by decide) (by decide) (by decide) (by decide) (by decide) (by decide) (by decide) (by decide) (by decide))
              have hey106 : F9 14 = F 14 := (fF 14 (by decide) (by decide) (by decide) (by decide) (by decide) (by decide) (by decide) (by decide) (by decide) (by decide) (by decide) (by decide) (by decide))
              have hey107 : F9 15 = F 15 := (fF 15 (by decide) (by decide) (by decide) (by decide) (by decide) (by decide) (by decide) (by decide) (by decide) (by decide) (by decide) (by decide) (by decide))
              have hey108 : F9 16 = F 16 := (fF 16 (by decide) (by decide) (by decide) (by decide) (by decide) (by decide) (by decide) (by decide) (by decide) (by decide) (by decide) (by decide) (by decide))
              have hey109 : F9 17 = F 17 := (fF 17 (by decide) (by decide) (by decide) (by decide) (by decide) (by decide) (by decide) (by decide) (by decide) (by decide) (by decide) (by decide) (by decide))
              have hey110 : F9 18 = F 18 := (fF 18 (by decide) (by decide) (by decide) (by decide) (by decide) (by decide) (by decide) (by decide) (by decide) (by decide) (by decide) (by decide) (by decide))
              have hey111 : F9 19 = F 19 := (fF 19 (by decide) (by decide) (by decide) (by decide) (by decide) (by decide) (by decide) (by decide) (by decide) (by decide) (by decide) (by decide) (by decide))
              have hey112 : F9 20 = F 20 := (fF 20 (by decide) (by decide) (by decide) (by decide) (by decide) (by decide) (by decide) (by decide) (by decide) (by decide) (by decide) (by decide) (by decide))
              have hey113 : F9 21 = F 21 := (fF 21 (by decide) (by decide) (by decide) (by decide) (by decide) (by decide) (by decide) (by decide) (by decide) (by decide) (by decide) (by decide) (by decide))
              have hey114 : F9 23 = 0 := hsL.2.2.1
              have hey115 : F9 25 = F 25 := (fF 25 (by decide) (by decide) (by decide) (by decide) (by decide) (by decide) (by decide) (by decide) (by decide) (by decide) (by decide) (by decide) (by decide))
              have hey116 : F9 27 = F 27 := (fF 27 (by decide) (by decide) (by decide) (by decide) (by decide) (by decide) (by decide) (by decide) (by decide) (by decide) (by decide) (by decide) (by decide))
              have hey117 : F9 28 = F 28 := (fF 28 (by decide) (by decide) (by decide) (by decide) (by decide) (by decide) (by decide) (by decide) (by decide) (by decide) (by decide) (by decide) (by decide))
              have hey118 : F9 29 = F 29 := (fF 29 (by decide) (by decide) (by decide) (by decide) (by decide) (by decide) (by decide) (by decide) (by decide) (by decide) (by decide) (by decide) (by decide))
              have hey119 : F9 24 = (-1) := hsL.2.1
              have hey120 : F9 12 = 0 := hsL.2.2.2
              have hey121 : F9 32 = ((tk_to T n f : Nat) : Int) := hkL.2.1
              have hey122 : F9 38 = 0 := hsL.1
              have hey123 : F9 47 = F9 47 := rfl
              have hey124 : F9 48 = F9 48 := rfl
              have hey125 : F9 49 = F9 49 := rfl
              have hKy126 : okF F9 := by unfold okF; omega
              have htky127 : tkR T n F9 f := hkL
              have hMy128 : okMr cs ad g1 i x F9 r st op ai fa mu tb tp := okMr.upd2 hM f2L hKy126 (htky127.rd hTb) hXL.ok ((f3L _ (by omega) (by omega)).trans ha1) hA (fun j a b c => by
                  exact Or.inl (by rw [f3L _ (by omega) (by omega)]))
              refine z_cV (As := []) (rest := []) (ci := 12) C (c_X10_becomes l D A cs tt N ad _ i hN x hx _ _ hMy128 s9 hXL) (lt_A0 hN rfl) hay78 f2L rfl rfl mv_yX10_becomes q_1717 hd_yX10_becomes (by decide) (Nat.le_of_ble_eq_true rfl) (by decide) dX10_snow_182 rfl (kV0 fun gvy129 hvy129 => ?_)
              obtain ⟨⟨Fvy129, rvy129, stvy129, opvy129, aivy129, favy129, muvy129, tbvy129, hMvy129, hKvy129, h12vy129, hDvy129⟩, hfvy129⟩ := hvy129
              refine z_iconst (z := 0) C dX10_snow_185 rfl ?_
              obtain ⟨k9, hk9⟩ := hf9 ((0, -1), s9) ⟨1, by simp only [ps_run]; rw [if_pos hso]⟩
              have hMx := okMr.mono (y := x + 1) hMvy129 (by omega)
              exact z_iret C hr hlk dX10_snow_186 (by decide) (by decide) ⟨0, rfl, rfl, rfl, by omega, ⟨k9, -1, s9, hk9, Or.inl ⟨rfl, _, _, _, _, _, _, _, _, hMx, by omega, by omega, hDvy129⟩⟩, fun j j1 => by rw [hfvy129 _ (by omega)]; rw [f3L _ (by omega) (by omega)]⟩
            · have hso : ¬ (tk_so T n f = 0) := fun e9 => by have := srt0.mpr e9; omega
              refine z_aload_n C 0 dX10_snow_111 rfl ?_
              have hfl : f < n := (so_ty (T := T) (n := n) (f := f) hso).1
              refine z_cV (As := []) (rest := []) (ci := 12) C (c_yClause1 l D A cs tt N ad _ i hN _ f2L _ ((f3L _ (by omega) (by omega)).trans ha13) T n hn hTb hTt htp f hkL hsL.1 hfl (s9.1) (s9.2.1) (s9.2.2.1) (s9.2.2.2.1) (s9.2.2.2.2.1) (s9.2.2.2.2.2.1) (s9.2.2.2.2.2.2.1) (s9.2.2.2.2.2.2.2.1) (s9.2.2.2.2.2.2.2.2.1) (s9.2.2.2.2.2.2.2.2.2.1) (s9.2.2.2.2.2.2.2.2.2.2.1) (s9.2.2.2.2.2.2.2.2.2.2.2) hXL) (lt_A0 hN rfl) hay78 f2L rfl rfl mv_yX10_clause1 q_1674 hd_yX10_clause1 (by decide) (Nat.le_of_ble_eq_true rfl) (by decide) dX10_snow_112 rfl (kV0 fun gvy130 hvy130 => ?_)
              obtain ⟨⟨Fvy130, hcvy130, hFvy130, hqvy130⟩, hfvy130⟩ := hvy130
              rcases hqvy130 with hqvy130 | hqvy130
              · obtain ⟨vvy130, hv0vy130, havy130, hb0vy130, hlvy130, hkvy130, hxvy130⟩ := hqvy130
                have hvvy130 : ps_cl T n s9 f = .ok vvy130 := hv0vy130
                have hbvy130 : Fvy130 24 = -1 := hb0vy130.trans hsL.2.1
                have hsry131 := srt_b T n vvy130.2
                have hvly132 := vlu_b hTb vvy130.2
                have hwby133 := tk_w_b T n vvy130.2
                have hfny134 := hkvy130.1
                have hzvy130 := hkvy130.2.1
                have hwvy130 := tk_to_nx (T := T) (n := n) (f := vvy130.2) hkvy130.1.1
                refine z_aload_n C 0 dX10_snow_115 rfl ?_
                refine z_get (v := .int (zI (0))) C (lt_A0 hN rfl) hay78 hcvy130 rfl inA_X10 38 (by decide) q_1497 rfl (fv (F := Fvy130) (f := 38) havy130) dX10_snow_116 ?_
                refine z_if_ne (tgt := 97) C dX10_snow_119 (by decide) (by omega) (fun h => absurd h (by omega)) (fun _ => ?_)
                by_cases h3 : tk_so T n vvy130.2 = 3
                · have hs3 : srt (tk_so T n vvy130.2) = 3 := by rw [h3]; rfl
                  have hv59 : vlu T n vvy130.2 = 59 := (vlu3 hs3 59 3 (by omega)).mpr h3
                  refine z_aload_n C 0 dX10_snow_122 rfl ?_
                  refine z_aload_n C 0 dX10_snow_123 rfl ?_
                  refine z_get (v := .int (zI (srt (tk_so T n vvy130.2)))) C (lt_A0 hN rfl) hay78 hcvy130 rfl inA_X10 35 (by decide) q_1494 rfl (fv (F := Fvy130) (f := 35) hkvy130.2.2.2.2.1) dX10_snow_124 ?_
                  refine z_iconst (z := 3) C dX10_snow_127 rfl ?_
                  refine z_icmp_ne (tgt := 144) C dX10_snow_128 (by decide) (by omega) (by omega) (fun h => absurd h (by omega)) (fun _ => ?_)
                  refine z_aload_n C 0 dX10_snow_131 rfl ?_
                  refine z_get (v := .int (zI (vlu T n vvy130.2))) C (lt_A0 hN rfl) hay78 hcvy130 rfl inA_X10 36 (by decide) q_1495 rfl (fv (F := Fvy130) (f := 36) hkvy130.2.2.2.2.2.1) dX10_snow_132 ?_
                  refine z_bipush (z := 59) C dX10_snow_135 (by decide) ?_
                  refine z_icmp_ne (tgt := 144) C dX10_snow_137 (by decide) (by omega) (by omega) (fun h => absurd h (by omega)) (fun _ => ?_)
                  refine z_iconst (z := 1) C dX10_snow_140 rfl ?_
                  refine z_goto (tgt := 145) C dX10_snow_141 (by decide) ?_
                  refine z_iconst (z := 1) C dX10_snow_145 rfl ?_
                  have h33vy135 : Fvy130 33 = (vvy130.2 : Int) := hkvy130.2.2.1
                  have h24vy135 : Fvy130 24 = (-1) := hbvy130
                  have htvy135 : tkR T n Fvy130 vvy130.2 := hkvy130
                  refine z_cV (As := [.int (zI (1)), .int (zI (1))]) (rest := []) (ci := 12) C (c_yWants l D A cs tt N ad _ i hN _ hcvy130 havy130 (1) (by omega) (1) (by omega)) (lt_A0 hN rfl) hay78 hcvy130 rfl rfl mv_yX10_wants q_1682 hd_yX10_wants (by decide) (Nat.le_of_ble_eq_true rfl) (by decide) dX10_snow_146 rfl (kI0 fun vy135 gvy135 hvy135 => ?_)
                  obtain ⟨⟨Fvy135, hcvy135, hqvy135, hFvy135⟩, hfvy135⟩ := hvy135
                  obtain ⟨rfl, hevy135, hbvy135⟩ : vy135 = 1 ∧ Fvy135 38 = 0 ∧ Fvy135 24 = (-1) := by omega
                  clear hqvy135 h33vy135 h24vy135
                  have hkvy135 : tkR T n Fvy135 vvy130.2 := tkR.w htvy135 hFvy135 (by omega)
                  refine z_if_eq (tgt := 97) C dX10_snow_149 (by decide) (by omega) (fun h => absurd h (by omega)) (fun _ => ?_)
                  refine z_aload_n C 0 dX10_snow_152 rfl ?_
                  have hgy136 := (hfvy130 (i + 13) (ne_o (i := i) (c := 13) (d := 0) rfl) (by omega)).trans ((f3L _ (by omega) (by omega)).trans ha13)
                  have hgy137 := (hfvy135 (i + 13) (ne_o (i := i) (c := 13) (d := 0) rfl)).trans hgy136
                  have htvy138 : tkR T n Fvy135 vvy130.2 := hkvy135
                  refine z_cV (As := []) (rest := []) (ci := 12) C (c_yGo l D A cs tt N ad _ i hN _ hcvy135 _ hgy137 T n hn hTb hTt htp (tk_to T n vvy130.2) (tk_to_b htvy138.1.1).2.1 htvy138.2.1 htvy138.2.2.2.1 htvy138.2.2.2.2.2.2.2) (lt_A0 hN rfl) hay78 hcvy135 rfl rfl mv_yX10_go q_1656 hd_yX10_go (by decide) (Nat.le_of_ble_eq_true rfl) (by decide) dX10_snow_153 rfl (kV0 fun gvy138 hvy138 => ?_)
                  obtain ⟨⟨Fvy138, hcvy138, hjvy138, hFvy138⟩, hfvy138⟩ := hvy138
                  have hkvy138 : tkR T n Fvy138 (tk_nx T n vvy130.2) := hjvy138
                  have hnbvy138 := tk_nx_s (T := T) (n := n) (f := vvy130.2) (so_ty (T := T) (n := n) (f := vvy130.2) (by omega)).1
                  clear hjvy138
                  have hsry139 := srt_b T n (tk_nx T n vvy130.2)
                  have hvly140 := vlu_b hTb (tk_nx T n vvy130.2)
                  have hwby141 := tk_w_b T n (tk_nx T n vvy130.2)
                  have hfny142 := hkvy138.1
                  have hstvy130 := ps_step_ok hvvy130 h3
                  have hf2vy130 : ∀ r9, (∃ k9, ps_run T n k9 vvy130.1 (tk_nx T n vvy130.2) = some r9) → ∃ k9, ps_run T n k9 (0, 0, 0, (fun _ => 0), st0, op0, ai0, fa0, mu0, tabZ, (fun _ => 0), L0) (tk_at T n 0) = some r9 := fun r9 ⟨k9, hk9⟩ => hf9 r9 ⟨k9 + 1, by simp only [ps_run]; rw [if_neg hso, hstvy130]; exact hk9⟩
                  refine z_goto (tgt := 97) C dX10_snow_156 (by decide) ?_
                  have hey143 : Fvy138 12 = 0 := ((hFvy138 12 (by decide) (by decide) (by decide) (by decide) (by decide)).trans ((hFvy135 12 (by decide) (by decide)).trans ((hFvy130 12 (by decide) (by decide) (by decide) (by decide) (by decide) (by decide) (by decide) (by decide) (by decide) (by decide)).trans hsL.2.2.2)))
                  have hey144 : Fvy138 23 = 0 := ((hFvy138 23 (by decide) (by decide) (by decide) (by decide) (by decide)).trans ((hFvy135 23 (by decide) (by decide)).trans ((hFvy130 23 (by decide) (by decide) (by decide) (by decide) (by decide) (by decide) (by decide) (by decide) (by decide) (by decide)).trans hsL.2.2.1)))
                  have hey145 : Fvy138 24 = (-1) := ((hFvy138 24 (by decide) (by decide) (by decide) (by decide) (by decide)).trans hbvy135)
                  have hey146 : Fvy138 32 = ((tk_to T n (tk_nx T n vvy130.2) : Nat) : Int) := hkvy138.2.1
                  have hey147 : Fvy138 38 = 0 := ((hFvy138 38 (by decide) (by decide) (by decide) (by decide) (by decide)).trans hevy135)
                  have hey148 : Fvy138 47 = Fvy130 47 := ((hFvy138 47 (by decide) (by decide) (by decide) (by decide) (by decide)).trans (hFvy135 47 (by decide) (by decide)))
                  have hey149 : Fvy138 48 = Fvy130 48 := ((hFvy138 48 (by decide) (by decide) (by decide) (by decide) (by decide)).trans (hFvy135 48 (by decide) (by decide)))
                  have hey150 : Fvy138 49 = Fvy130 49 := ((hFvy138 49 (by decide) (by decide) (by decide) (by decide) (by decide)).trans (hFvy135 49 (by decide) (by decide)))
                  have htky151 : tkR T n Fvy138 (tk_nx T n vvy130.2) := hkvy138
                  have htoy153 := tk_to_w (T := T) (n := n) (f := (tk_nx T n vvy130.2)) htky151.1.1
                  have h32y154 := htky151.2.1
                  have hxty152 : xTx cs gvy138 i Fvy138 vvy130.1 := hxvy130.mv (fun j a b => by rw [hfvy138 _ (by omega)]; rw [hfvy135 _ (by omega)]) ⟨by omega, by omega, by omega, by omega⟩
                  have hFy155 : ∀ f, f ≠ 24 → f ≠ 32 → f ≠ 33 → f ≠ 35 → f ≠ 36 → f ≠ 37 → f ≠ 38 → f ≠ 47 → f ≠ 48 → f ≠ 49 → Fvy138 f = F9 f := fun f n24 n32 n33 n35 n36 n37 n38 n47 n48 n49 => ((hFvy138 f n32 n33 n35 n36 n37).trans ((hFvy135 f n24 n38).trans (hFvy130 f n24 n32 n33 n35 n36 n37 n38 n47 n48 n49)))
                  have hFFy156 : (∀ f, f ≠ 12 → f ≠ 23 → f ≠ 24 → f ≠ 32 → f ≠ 33 → f ≠ 34 → f ≠ 35 → f ≠ 36 → f ≠ 37 → f ≠ 38 → f ≠ 47 → f ≠ 48 → f ≠ 49 → Fvy138 f = F f) := fun f n12 n23 n24 n32 n33 n34 n35 n36 n37 n38 n47 n48 n49 => (hFy155 f n24 n32 n33 n35 n36 n37 n38 n47 n48 n49).trans (fF f n12 n23 n24 n32 n33 n34 n35 n36 n37 n38 n47 n48 n49)
                  refine z_lv (lv' := [(0, .ref (ad i)), (1, .int (zI ((n : Int))))]) [0, 1] rfl ?_
                  exact ih_L _ (by omega) (tk_nx T n vvy130.2) vvy130.1 _ gvy138 rfl hcvy138 htky151 hxty152 hf2vy130 hFFy156 (fun j j1 j2 => by rw [hfvy138 _ (by omega)]; rw [hfvy135 _ (by omega)]; rw [hfvy130 _ (by omega) (by omega)]; rw [f3L _ (by omega) (by omega)]) (by omega)
                · refine z_aload_n C 0 dX10_snow_122 rfl ?_
                  refine z_aload_n C 0 dX10_snow_123 rfl ?_
                  refine z_get (v := .int (zI (srt (tk_so T n vvy130.2)))) C (lt_A0 hN rfl) hay78 hcvy130 rfl inA_X10 35 (by decide) q_1494 rfl (fv (F := Fvy130) (f := 35) hkvy130.2.2.2.2.1) dX10_snow_124 ?_
                  refine z_iconst (z := 3) C dX10_snow_127 rfl ?_
                  refine z_icmp_ne (tgt := 144) C dX10_snow_128 (by decide) (by omega) (by omega) (fun hby157 => ?_) (fun hby157 => ?_)
                  · refine z_iconst (z := 0) C dX10_snow_144 rfl ?_
                    refine z_iconst (z := 1) C dX10_snow_145 rfl ?_
                    have h33vy158 : Fvy130 33 = (vvy130.2 : Int) := hkvy130.2.2.1
                    have h24vy158 : Fvy130 24 = (-1) := hbvy130
                    have htvy158 : tkR T n Fvy130 vvy130.2 := hkvy130
                    refine z_cV (As := [.int (zI (0)), .int (zI (1))]) (rest := []) (ci := 12) C (c_yWants l D A cs tt N ad _ i hN _ hcvy130 havy130 (0) (by omega) (1) (by omega)) (lt_A0 hN rfl) hay78 hcvy130 rfl rfl mv_yX10_wants q_1682 hd_yX10_wants (by decide) (Nat.le_of_ble_eq_true rfl) (by decide) dX10_snow_146 rfl (kI0 fun vy158 gvy158 hvy158 => ?_)
                    obtain ⟨⟨Fvy158, hcvy158, hqvy158, hFvy158⟩, hfvy158⟩ := hvy158
                    obtain ⟨rfl, hevy158, hbvy158⟩ : vy158 = 0 ∧ Fvy158 38 = 1 ∧ Fvy158 24 = (vvy130.2 : Int) := by omega
                    clear hqvy158 h33vy158 h24vy158
                    have hkvy158 : tkR T n Fvy158 vvy130.2 := tkR.w htvy158 hFvy158 (by omega)
                    refine z_if_eq (tgt := 97) C dX10_snow_149 (by decide) (by omega) (fun _ => ?_) (fun h => absurd h (by omega))
                    refine z_aload_n C 0 dX10_snow_97 rfl ?_
                    refine z_get (v := .int (zI (1))) C (lt_A0 hN rfl) hay78 hcvy158 rfl inA_X10 38 (by decide) q_1497 rfl (fv (F := Fvy158) (f := 38) hevy158) dX10_snow_98 ?_
                    refine z_if_ne (tgt := 159) C dX10_snow_101 (by decide) (by omega) (fun _ => ?_) (fun h => absurd h (by omega))
                    refine z_aload_n C 0 dX10_snow_159 rfl ?_
                    refine z_get (v := .int (zI (1))) C (lt_A0 hN rfl) hay78 hcvy158 rfl inA_X10 38 (by decide) q_1497 rfl (fv (F := Fvy158) (f := 38) hevy158) dX10_snow_160 ?_
                    refine z_if_eq (tgt := 181) C dX10_snow_163 (by decide) (by omega) (fun h => absurd h (by omega)) (fun _ => ?_)
                    refine z_aload_n C 0 dX10_snow_166 rfl ?_
                    refine z_get (v := .ref (ad (i + 11))) C (lt_A0 hN rfl) hay78 hcvy158 rfl inA_X10 10 (by decide) q_1469 rfl rfl dX10_snow_167 ?_
                    refine z_iconst (z := 0) C dX10_snow_170 rfl ?_
                    refine z_dup2 C dX10_snow_171 rfl rfl ?_
                    have hgy159 := (hfvy130 (i + 11) (ne_o (i := i) (c := 11) (d := 0) rfl) (by omega)).trans ((f3L _ (by omega) (by omega)).trans ha11)
                    have hgy160 := (hfvy158 (i + 11) (ne_o (i := i) (c := 11) (d := 0) rfl)).trans hgy159
                    refine z_iald C (lt_A (c := 11) hN rfl) hay89 hgy160 (0) (by omega) (by omega) (by decide) dX10_snow_172 ?_
                    refine z_iconst (z := 1) C dX10_snow_173 rfl ?_
                    refine z_iadd C dX10_snow_174 ?_
                    refine z_iast C (lt_A (c := 11) hN rfl) hay89 hgy160 (0) (by omega) (by omega) (by decide) dX10_snow_175 (fun gy161 egy162 => ?_)
                    have hgy163 := up_s egy162
                    refine z_aload_n C 0 dX10_snow_176 rfl ?_
                    have hgy164 := up_n egy162 hcvy158 (ne_o (i := i) (c := 0) (d := 11) rfl)
                    refine z_get (v := .int (zI (1))) C (lt_A0 hN rfl) hay78 hgy164 rfl inA_X10 38 (by decide) q_1497 rfl (fv (F := Fvy158) (f := 38) hevy158) dX10_snow_177 ?_
                    have hey165 : Fvy158 13 = F 13 := ((hFvy158 13 (by decide) (by decide)).trans ((hFvy130 13 (by decide) (by decide) (by decide) (by decide) (by decide) (by decide) (by decide) (by decide) (by decide) (by decide)).trans (fF 13 (by decide) (by decide) (by decide) (by decide) (by decide) (by decide) (by decide) (by decide) (by decide) (by decide) (by decide) (by decide) (by decide))))
                    have hey166 : Fvy158 14 = F 14 := ((hFvy158 14 (by decide) (by decide)).trans ((hFvy130 14 (by decide) (by decide) (by decide) (by decide) (by decide) (by decide) (by decide) (by decide) (by decide) (by decide)).trans (fF 14 (by decide) (by decide) (by decide) (by decide) (by decide) (by decide) (by decide) (by decide) (by decide) (by decide) (by decide) (by decide) (by decide))))
                    have hey167 : Fvy158 15 = F 15 := ((hFvy158 15 (by decide) (by decide)).trans ((hFvy130 15 (by decide) (by decide) (by decide) (by decide) (by decide) (by decide) (by decide) (by decide) (by decide) (by decide)).trans (fF 15 (by decide) (by decide) (by decide) (by decide) (by decide) (by decide) (by decide) (by decide) (by decide) (by decide) (by decide) (by decide) (by decide))))
                    have hey168 : Fvy158 16 = F 16 := ((hFvy158 16 (by decide) (by decide)).trans ((hFvy130 16 (by decide) (by decide) (by decide) (by decide) (by decide) (by decide) (by decide) (by decide) (by decide) (by decide)).trans (fF 16 (by decide) (by decide) (by decide) (by decide) (by decide) (by decide) (by decide) (by decide) (by decide) (by decide) (by decide) (by decide) (by decide))))
                    have hey169 : Fvy158 17 = F 17 := ((hFvy158 17 (by decide) (by decide)).trans ((hFvy130 17 (by decide) (by decide) (by decide) (by decide) (by decide) (by decide) (by decide) (by decide) (by decide) (by decide)).trans (fF 17 (by decide) (by decide) (by decide) (by decide) (by decide) (by decide) (by decide) (by decide) (by decide) (by decide) (by decide) (by decide) (by decide))))
                    have hey170 : Fvy158 18 = F 18 := ((hFvy158 18 (by decide) (by decide)).trans ((hFvy130 18 (by decide) (by decide) (by decide) (by decide) (by decide) (by decide) (by decide) (by decide) (by decide) (by decide)).trans (fF 18 (by decide) (by decide) (by decide) (by decide) (by decide) (by decide) (by decide) (by decide) (by decide) (by decide) (by decide) (by decide) (by decide))))
                    have hey171 : Fvy158 19 = F 19 := ((hFvy158 19 (by decide) (by decide)).trans ((hFvy130 19 (by decide) (by decide) (by decide) (by decide) (by decide) (by decide) (by decide) (by decide) (by decide) (by decide)).trans (fF 19 (by decide) (by decide) (by decide) (by decide) (by decide) (by decide) (by decide) (by decide) (by decide) (by decide) (by decide) (by decide) (by decide))))
                    have hey172 : Fvy158 20 = F 20 := ((hFvy158 20 (by decide) (by decide)).trans ((hFvy130 20 (by decide) (by decide) (by decide) (by decide) (by decide) (by decide) (by decide) (by decide) (by decide) (by decide)).trans (fF 20 (by decide) (by decide) (by decide) (by decide) (by decide) (by decide) (by decide) (by decide) (by decide) (by decide) (by decide) (by decide) (by decide))))
                    have hey173 : Fvy158 21 = F 21 := ((hFvy158 21 (by decide) (by decide)).trans ((hFvy130 21 (by decide) (by decide) (by decide) (by decide) (by decide) (by decide) (by decide) (by decide) (by decide) (by decide)).trans (fF 21 (by decide) (by decide) (by decide) (by decide) (by decide) (by decide) (by decide) (by decide) (by decide) (by decide) (by decide) (by decide) (by decide))))
                    have hey174 : Fvy158 23 = 0 := ((hFvy158 23 (by decide) (by decide)).trans ((hFvy130 23 (by decide) (by decide) (by decide) (by decide) (by decide) (by decide) (by decide) (by decide) (by decide) (by decide)).trans hsL.2.2.1))
                    have hey175 : Fvy158 25 = F 25 := ((hFvy158 25 (by decide) (by decide)).trans ((hFvy130 25 (by decide) (by decide) (by decide) (by decide) (by decide) (by decide) (by decide) (by decide) (by decide) (by decide)).trans (fF 25 (by decide) (by decide) (by decide) (by decide) (by decide) (by decide) (by decide) (by decide) (by decide) (by decide) (by decide) (by decide) (by decide))))
                    have hey176 : Fvy158 27 = F 27 := ((hFvy158 27 (by decide) (by decide)).trans ((hFvy130 27 (by decide) (by decide) (by decide) (by decide) (by decide) (by decide) (by decide) (by decide) (by decide) (by decide)).trans (fF 27 (by decide) (by decide) (by decide) (by decide) (by decide) (by decide) (by decide) (by decide) (by decide) (by decide) (by decide) (by decide) (by decide))))
                    have hey177 : Fvy158 28 = F 28 := ((hFvy158 28 (by decide) (by decide)).trans ((hFvy130 28 (by decide) (by decide) (by decide) (by decide) (by decide) (by decide) (by decide) (by decide) (by decide) (by decide)).trans (fF 28 (by decide) (by decide) (by decide) (by decide) (by decide) (by decide) (by decide) (by decide) (by decide) (by decide) (by decide) (by decide) (by decide))))
                    have hey178 : Fvy158 29 = F 29 := ((hFvy158 29 (by decide) (by decide)).trans ((hFvy130 29 (by decide) (by decide) (by decide) (by decide) (by decide) (by decide) (by decide) (by decide) (by decide) (by decide)).trans (fF 29 (by decide) (by decide) (by decide) (by decide) (by decide) (by decide) (by decide) (by decide) (by decide) (by decide) (by decide) (by decide) (by decide))))
                    have hey179 : Fvy158 24 = (vvy130.2 : Int) := hbvy158
                    have hey180 : Fvy158 12 = 0 := ((hFvy158 12 (by decide) (by decide)).trans ((hFvy130 12 (by decide) (by decide) (by decide) (by decide) (by decide) (by decide) (by decide) (by decide) (by decide) (by decide)).trans hsL.2.2.2))
                    have hey181 : Fvy158 32 = ((tk_to T n vvy130.2 : Nat) : Int) := ((hFvy158 32 (by decide) (by decide)).trans hkvy130.2.1)
                    have hey182 : Fvy158 38 = 1 := hevy158
                    have hey183 : Fvy158 47 = Fvy130 47 := (hFvy158 47 (by decide) (by decide))
                    have hey184 : Fvy158 48 = Fvy130 48 := (hFvy158 48 (by decide) (by decide))
                    have hey185 : Fvy158 49 = Fvy130 49 := (hFvy158 49 (by decide) (by decide))
                    have hKy186 : okF Fvy158 := by unfold okF; omega
                    have htky187 : tkR T n Fvy158 vvy130.2 := hkvy158
                    have htxy188 : okTx cs gy161 i Fvy158 := hxvy130.ok.mv (fun j a b => by rw [egy162, va_up_ne _ _ (by omega)]; rw [hfvy158 _ (by omega)]) ⟨by omega, by omega, by omega, by omega⟩
                    have hgy189 := (hfvy130 (i + 1) (ne_o (i := i) (c := 1) (d := 0) rfl) (by omega)).trans ((f3L _ (by omega) (by omega)).trans ha1)
                    have hgy190 := (hfvy158 (i + 1) (ne_o (i := i) (c := 1) (d := 0) rfl)).trans hgy189
                    have hgy191 := up_n egy162 hgy190 (ne_o (i := i) (c := 1) (d := 11) rfl)
                    have hMy192 : okMr cs ad gy161 i x Fvy158 r st op ai fa mu tb tp := okMr.upd2 hM hgy164 hKy186 (htky187.rd hTb) htxy188 hgy191 hA (fun j a b c => by
                        by_cases e0 : j = i + 11
                        · exact Or.inr ⟨11, _, e0, lsP.l (by decide), by rw [e0]; exact hgy163⟩
                        exact Or.inl (by rw [egy162, va_up_ne _ _ (by omega)]; rw [hfvy158 _ (by omega)]; rw [hfvy130 _ (by omega) (by omega)]; rw [f3L _ (by omega) (by omega)]))
                    have hMx := okMr.mono (y := x + 1) hMy192 (by omega)
                    obtain ⟨k9, hk9⟩ := hf9 ((1, ((vvy130.2 : Nat) : Int)), s9) ⟨1, by simp only [ps_run]; rw [if_neg hso, ps_step_ns hvvy130 h3]⟩
                    have hkpy193 : Fvy158 13 = F 13 := ((hFvy158 13 (by decide) (by decide)).trans ((hFvy130 13 (by decide) (by decide) (by decide) (by decide) (by decide) (by decide) (by decide) (by decide) (by decide) (by decide)).trans (fF 13 (by decide) (by decide) (by decide) (by decide) (by decide) (by decide) (by decide) (by decide) (by decide) (by decide) (by decide) (by decide) (by decide))))
                    have hkpy194 : Fvy158 14 = F 14 := ((hFvy158 14 (by decide) (by decide)).trans ((hFvy130 14 (by decide) (by decide) (by decide) (by decide) (by decide) (by decide) (by decide) (by decide) (by decide) (by decide)).trans (fF 14 (by decide) (by decide) (by decide) (by decide) (by decide) (by decide) (by decide) (by decide) (by decide) (by decide) (by decide) (by decide) (by decide))))
                    have hkpy195 : Fvy158 17 = F 17 := ((hFvy158 17 (by decide) (by decide)).trans ((hFvy130 17 (by decide) (by decide) (by decide) (by decide) (by decide) (by decide) (by decide) (by decide) (by decide) (by decide)).trans (fF 17 (by decide) (by decide) (by decide) (by decide) (by decide) (by decide) (by decide) (by decide) (by decide) (by decide) (by decide) (by decide) (by decide))))
                    have hkpy196 : Fvy158 20 = F 20 := ((hFvy158 20 (by decide) (by decide)).trans ((hFvy130 20 (by decide) (by decide) (by decide) (by decide) (by decide) (by decide) (by decide) (by decide) (by decide) (by decide)).trans (fF 20 (by decide) (by decide) (by decide) (by decide) (by decide) (by decide) (by decide) (by decide) (by decide) (by decide) (by decide) (by decide) (by decide))))
                    have hkpy197 : Fvy158 21 = F 21 := ((hFvy158 21 (by decide) (by decide)).trans ((hFvy130 21 (by decide) (by decide) (by decide) (by decide) (by decide) (by decide) (by decide) (by decide) (by decide) (by decide)).trans (fF 21 (by decide) (by decide) (by decide) (by decide) (by decide) (by decide) (by decide) (by decide) (by decide) (by decide) (by decide) (by decide) (by decide))))
                    have hkpy198 : Fvy158 23 = 0 := ((hFvy158 23 (by decide) (by decide)).trans ((hFvy130 23 (by decide) (by decide) (by decide) (by decide) (by decide) (by decide) (by decide) (by decide) (by decide) (by decide)).trans hsL.2.2.1))
                    have hkpy199 : Fvy158 24 = (vvy130.2 : Int) := hbvy158
                    exact z_iret C hr hlk dX10_snow_180 (by decide) (by decide) ⟨1, rfl, rfl, rfl, by omega, ⟨k9, _, s9, hk9, Or.inr ⟨by omega, _, _, hMx, by omega, by omega⟩⟩, fun j j1 => by rw [egy162, va_up_ne _ _ (by omega)]; rw [hfvy158 _ (by omega)]; rw [hfvy130 _ (by omega) (by omega)]; rw [f3L _ (by omega) (by omega)]⟩
                  · refine z_aload_n C 0 dX10_snow_131 rfl ?_
                    refine z_get (v := .int (zI (vlu T n vvy130.2))) C (lt_A0 hN rfl) hay78 hcvy130 rfl inA_X10 36 (by decide) q_1495 rfl (fv (F := Fvy130) (f := 36) hkvy130.2.2.2.2.2.1) dX10_snow_132 ?_
                    refine z_bipush (z := 59) C dX10_snow_135 (by decide) ?_
                    refine z_icmp_ne (tgt := 144) C dX10_snow_137 (by decide) (by omega) (by omega) (fun hby200 => ?_) (fun hby200 => ?_)
                    · refine z_iconst (z := 0) C dX10_snow_144 rfl ?_
                      refine z_iconst (z := 1) C dX10_snow_145 rfl ?_
                      have h33vy201 : Fvy130 33 = (vvy130.2 : Int) := hkvy130.2.2.1
                      have h24vy201 : Fvy130 24 = (-1) := hbvy130
                      have htvy201 : tkR T n Fvy130 vvy130.2 := hkvy130
                      refine z_cV (As := [.int (zI (0)), .int (zI (1))]) (rest := []) (ci := 12) C (c_yWants l D A cs tt N ad _ i hN _ hcvy130 havy130 (0) (by omega) (1) (by omega)) (lt_A0 hN rfl) hay78 hcvy130 rfl rfl mv_yX10_wants q_1682 hd_yX10_wants (by decide) (Nat.le_of_ble_eq_true rfl) (by decide) dX10_snow_146 rfl (kI0 fun vy201 gvy201 hvy201 => ?_)
                      obtain ⟨⟨Fvy201, hcvy201, hqvy201, hFvy201⟩, hfvy201⟩ := hvy201
                      obtain ⟨rfl, hevy201, hbvy201⟩ : vy201 = 0 ∧ Fvy201 38 = 1 ∧ Fvy201 24 = (vvy130.2 : Int) := by omega
                      clear hqvy201 h33vy201 h24vy201
                      have hkvy201 : tkR T n Fvy201 vvy130.2 := tkR.w htvy201 hFvy201 (by omega)
                      refine z_if_eq (tgt := 97) C dX10_snow_149 (by decide) (by omega) (fun _ => ?_) (fun h => absurd h (by omega))
                      refine z_aload_n C 0 dX10_snow_97 rfl ?_
                      refine z_get (v := .int (zI (1))) C (lt_A0 hN rfl) hay78 hcvy201 rfl inA_X10 38 (by decide) q_1497 rfl (fv (F := Fvy201) (f := 38) hevy201) dX10_snow_98 ?_
                      refine z_if_ne (tgt := 159) C dX10_snow_101 (by decide) (by omega) (fun _ => ?_) (fun h => absurd h (by omega))
                      refine z_aload_n C 0 dX10_snow_159 rfl ?_
                      refine z_get (v := .int (zI (1))) C (lt_A0 hN rfl) hay78 hcvy201 rfl inA_X10 38 (by decide) q_1497 rfl (fv (F := Fvy201) (f := 38) hevy201) dX10_snow_160 ?_
                      refine z_if_eq (tgt := 181) C dX10_snow_163 (by decide) (by omega) (fun h => absurd h (by omega)) (fun _ => ?_)
                      refine z_aload_n C 0 dX10_snow_166 rfl ?_
                      refine z_get (v := .ref (ad (i + 11))) C (lt_A0 hN rfl) hay78 hcvy201 rfl inA_X10 10 (by decide) q_1469 rfl rfl dX10_snow_167 ?_
                      refine z_iconst (z := 0) C dX10_snow_170 rfl ?_
                      refine z_dup2 C dX10_snow_171 rfl rfl ?_
                      have hgy202 := (hfvy130 (i + 11) (ne_o (i := i) (c := 11) (d := 0) rfl) (by omega)).trans ((f3L _ (by omega) (by omega)).trans ha11)
                      have hgy203 := (hfvy201 (i + 11) (ne_o (i := i) (c := 11) (d := 0) rfl)).trans hgy202
                      refine z_iald C (lt_A (c := 11) hN rfl) hay89 hgy203 (0) (by omega) (by omega) (by decide) dX10_snow_172 ?_
                      refine z_iconst (z := 1) C dX10_snow_173 rfl ?_
                      refine z_iadd C dX10_snow_174 ?_
                      refine z_iast C (lt_A (c := 11) hN rfl) hay89 hgy203 (0) (by omega) (by omega) (by decide) dX10_snow_175 (fun gy204 egy205 => ?_)
                      have hgy206 := up_s egy205
                      refine z_aload_n C 0 dX10_snow_176 rfl ?_
                      have hgy207 := up_n egy205 hcvy201 (ne_o (i := i) (c := 0) (d := 11) rfl)
                      refine z_get (v := .int (zI (1))) C (lt_A0 hN rfl) hay78 hgy207 rfl inA_X10 38 (by decide) q_1497 rfl (fv (F := Fvy201) (f := 38) hevy201) dX10_snow_177 ?_
                      have hey208 : Fvy201 13 = F 13 := ((hFvy201 13 (by decide) (by decide)).trans ((hFvy130 13 (by decide) (by decide) (by decide) (by decide) (by decide) (by decide) (by decide) (by decide) (by decide) (by decide)).trans (fF 13 (by decide) (by decide) (by decide) (by decide) (by decide) (by decide) (by decide) (by decide) (by decide) (by decide) (by decide) (by decide) (by decide))))
                      have hey209 : Fvy201 14 = F 14 := ((hFvy201 14 (by decide) (by decide)).trans ((hFvy130 14 (by decide) (by decide) (by decide) (by decide) (by decide) (by decide) (by decide) (by decide) (by decide) (by decide)).trans (fF 14 (by decide) (by decide) (by decide) (by decide) (by decide) (by decide) (by decide) (by decide) (by decide) (by decide) (by decide) (by decide) (by decide))))
                      have hey210 : Fvy201 15 = F 15 := ((hFvy201 15 (by decide) (by decide)).trans ((hFvy130 15 (by decide) (by decide) (by decide) (by decide) (by decide) (by decide) (by decide) (by decide) (by decide) (by decide)).trans (fF 15 (by decide) (by decide) (by decide) (by decide) (by decide) (by decide) (by decide) (by decide) (by decide) (by decide) (by decide) (by decide) (by decide))))
                      have hey211 : Fvy201 16 = F 16 := ((hFvy201 16 (by decide) (by decide)).trans ((hFvy130 16 (by decide) (by decide) (by decide) (by decide) (by decide) (by decide) (by decide) (by decide) (by decide) (by decide)).trans (fF 16 (by decide) (by decide) (by decide) (by decide) (by decide) (by decide) (by decide) (by decide) (by decide) (by decide) (by decide) (by decide) (by decide))))
                      have hey212 : Fvy201 17 = F 17 := ((hFvy201 17 (by decide) (by decide)).trans ((hFvy130 17 (by decide) (by decide) (by decide) (by decide) (by decide) (by decide) (by decide) (by decide) (by decide) (by decide)).trans (fF 17 (by decide) (by decide) (by decide) (by decide) (by decide) (by decide) (by decide) (by decide) (by decide) (by decide) (by decide) (by decide) (by decide))))
                      have hey213 : Fvy201 18 = F 18 := ((hFvy201 18 (by decide) (by decide)).trans ((hFvy130 18 (by decide) (by decide) (by decide) (by decide) (by decide) (by decide) (by decide) (by decide) (by decide) (by decide)).trans (fF 18 (by decide) (by decide) (by decide) (by decide) (by decide) (by decide) (by decide) (by decide) (by decide) (by decide) (by decide) (by decide) (by decide))))
                      have hey214 : Fvy201 19 = F 19 := ((hFvy201 19 (by decide) (by decide)).trans ((hFvy130 19 (by decide) (by decide) (by decide) (by decide) (by decide) (by decide) (by decide) (by decide) (by decide) (by decide)).trans (fF 19 (by decide) (by decide) (by decide) (by decide) (by decide) (by decide) (by decide) (by decide) (by decide) (by decide) (by decide) (by decide) (by decide))))
                      have hey215 : Fvy201 20 = F 20 := ((hFvy201 20 (by decide) (by decide)).trans ((hFvy130 20 (by decide) (by decide) (by decide) (by decide) (by decide) (by decide) (by decide) (by decide) (by decide) (by decide)).trans (fF 20 (by decide) (by decide) (by decide) (by decide) (by decide) (by decide) (by decide) (by decide) (by decide) (by decide) (by decide) (by decide) (by decide))))
                      have hey216 : Fvy201 21 = F 21 := ((hFvy201 21 (by decide) (by decide)).trans ((hFvy130 21 (by decide) (by decide) (by decide) (by decide) (by decide) (by decide) (by decide) (by decide) (by decide) (by decide)).trans (fF 21 (by decide) (by decide) (by decide) (by decide) (by decide) (by decide) (by decide) (by decide) (by decide) (by decide) (by decide) (by decide) (by decide))))
                      have hey217 : Fvy201 23 = 0 := ((hFvy201 23 (by decide) (by decide)).trans ((hFvy130 23 (by decide) (by decide) (by decide) (by decide) (by decide) (by decide) (by decide) (by decide) (by decide) (by decide)).trans hsL.2.2.1))
                      have hey218 : Fvy201 25 = F 25 := ((hFvy201 25 (by decide) (by decide)).trans ((hFvy130 25 (by decide) (by decide) (by decide) (by decide) (by decide) (by decide) (by decide) (by decide) (by decide) (by decide)).trans (fF 25 (by decide) (by decide) (by decide) (by decide) (by decide) (by decide) (by decide) (by decide) (by decide) (by decide) (by decide) (by decide) (by decide))))
                      have hey219 : Fvy201 27 = F 27 := ((hFvy201 27 (by decide) (by decide)).trans ((hFvy130 27 (by decide) (by decide) (by decide) (by decide) (by decide) (by decide) (by decide) (by decide) (by decide) (by decide)).trans (fF 27 (by decide) (by decide) (by decide) (by decide) (by decide) (by decide) (by decide) (by decide) (by decide) (by decide) (by decide) (by decide) (by decide))))
                      have hey220 : Fvy201 28 = F 28 := ((hFvy201 28 (by decide) (by decide)).trans ((hFvy130 28 (by decide) (by decide) (by decide) (by decide) (by decide) (by decide) (by decide) (by decide) (by decide) (by decide)).trans (fF 28 (by decide) (by decide) (by decide) (by decide) (by decide) (by decide) (by decide) (by decide) (by decide) (by decide) (by decide) (by decide) (by decide))))
                      have hey221 : Fvy201 29 = F 29 := ((hFvy201 29 (by decide) (by decide)).trans ((hFvy130 29 (by decide) (by decide) (by decide) (by decide) (by decide) (by decide) (by decide) (by decide) (by decide) (by decide)).trans (fF 29 (by decide) (by decide) (by decide) (by decide) (by decide) (by decide) (by decide) (by decide) (by decide) (by decide) (by decide) (by decide) (by decide))))
                      have hey222 : Fvy201 24 = (vvy130.2 : Int) := hbvy201
                      have hey223 : Fvy201 12 = 0 := ((hFvy201 12 (by decide) (by decide)).trans ((hFvy130 12 (by decide) (by decide) (by decide) (by decide) (by decide) (by decide) (by decide) (by decide) (by decide) (by decide)).trans hsL.2.2.2))
                      have hey224 : Fvy201 32 = ((tk_to T n vvy130.2 : Nat) : Int) := ((hFvy201 32 (by decide) (by decide)).trans hkvy130.2.1)
                      have hey225 : Fvy201 38 = 1 := hevy201
                      have hey226 : Fvy201 47 = Fvy130 47 := (hFvy201 47 (by decide) (by decide))
                      have hey227 : Fvy201 48 = Fvy130 48 := (hFvy201 48 (by decide) (by decide))
                      have hey228 : Fvy201 49 = Fvy130 49 := (hFvy201 49 (by decide) (by decide))
                      have hKy229 : okF Fvy201 := by unfold okF; omega
                      have htky230 : tkR T n Fvy201 vvy130.2 := hkvy201
                      have htxy231 : okTx cs gy204 i Fvy201 := hxvy130.ok.mv (fun j a b => by rw [egy205, va_up_ne _ _ (by omega)]; rw [hfvy201 _ (by omega)]) ⟨by omega, by omega, by omega, by omega⟩
                      have hgy232 := (hfvy130 (i + 1) (ne_o (i := i) (c := 1) (d := 0) rfl) (by omega)).trans ((f3L _ (by omega) (by omega)).trans ha1)
                      have hgy233 := (hfvy201 (i + 1) (ne_o (i := i) (c := 1) (d := 0) rfl)).trans hgy232
                      have hgy234 := up_n egy205 hgy233 (ne_o (i := i) (c := 1) (d := 11) rfl)
                      have hMy235 : okMr cs ad gy204 i x Fvy201 r st op ai fa mu tb tp := okMr.upd2 hM hgy207 hKy229 (htky230.rd hTb) htxy231 hgy234 hA (fun j a b c => by
                          by_cases e0 : j = i + 11
                          · exact Or.inr ⟨11, _, e0, lsP.l (by decide), by rw [e0]; exact hgy206⟩
                          exact Or.inl (by rw [egy205, va_up_ne _ _ (by omega)]; rw [hfvy201 _ (by omega)]; rw [hfvy130 _ (by omega) (by omega)]; rw [f3L _ (by omega) (by omega)]))
                      have hMx := okMr.mono (y := x + 1) hMy235 (by omega)
                      obtain ⟨k9, hk9⟩ := hf9 ((1, ((vvy130.2 : Nat) : Int)), s9) ⟨1, by simp only [ps_run]; rw [if_neg hso, ps_step_ns hvvy130 h3]⟩
                      have hkpy236 : Fvy201 13 = F 13 := ((hFvy201 13 (by decide) (by decide)).trans ((hFvy130 13 (by decide) (by decide) (by decide) (by decide) (by decide) (by decide) (by decide) (by decide) (by decide) (by decide)).trans (fF 13 (by decide) (by decide) (by decide) (by decide) (by decide) (by decide) (by decide) (by decide) (by decide) (by decide) (by decide) (by decide) (by decide))))
                      have hkpy237 : Fvy201 14 = F 14 := ((hFvy201 14 (by decide) (by decide)).trans ((hFvy130 14 (by decide) (by decide) (by decide) (by decide) (by decide) (by decide) (by decide) (by decide) (by decide) (by decide)).trans (fF 14 (by decide) (by decide) (by decide) (by decide) (by decide) (by decide) (by decide) (by decide) (by decide) (by decide) (by decide) (by decide) (by decide))))
                      have hkpy238 : Fvy201 17 = F 17 := ((hFvy201 17 (by decide) (by decide)).trans ((hFvy130 17 (by decide) (by decide) (by decide) (by decide) (by decide) (by decide) (by decide) (by decide) (by decide) (by decide)).trans (fF 17 (by decide) (by decide) (by decide) (by decide) (by decide) (by decide) (by decide) (by decide) (by decide) (by decide) (by decide) (by decide) (by decide))))
                      have hkpy239 : Fvy201 20 = F 20 := ((hFvy201 20 (by decide) (by decide)).trans ((hFvy130 20 (by decide) (by decide) (by decide) (by decide) (by decide) (by decide) (by decide) (by decide) (by decide) (by decide)).trans (fF 20 (by decide) (by decide) (by decide) (by decide) (by decide) (by decide) (by decide) (by decide) (by decide) (by decide) (by decide) (by decide) (by decide))))
                      have hkpy240 : Fvy201 21 = F 21 := ((hFvy201 21 (by decide) (by decide)).trans ((hFvy130 21 (by decide) (by decide) (by decide) (by decide) (by decide) (by decide) (by decide) (by decide) (by decide) (by decide)).trans (fF 21 (by decide) (by decide) (by decide) (by decide) (by decide) (by decide) (by decide) (by decide) (by decide) (by decide) (by decide) (by decide) (by decide))))
                      have hkpy241 : Fvy201 23 = 0 := ((hFvy201 23 (by decide) (by decide)).trans ((hFvy130 23 (by decide) (by decide) (by decide) (by decide) (by decide) (by decide) (by decide) (by decide) (by decide) (by decide)).trans hsL.2.2.1))
                      have hkpy242 : Fvy201 24 = (vvy130.2 : Int) := hbvy201
                      exact z_iret C hr hlk dX10_snow_180 (by decide) (by decide) ⟨1, rfl, rfl, rfl, by omega, ⟨k9, _, s9, hk9, Or.inr ⟨by omega, _, _, hMx, by omega, by omega⟩⟩, fun j j1 => by rw [egy205, va_up_ne _ _ (by omega)]; rw [hfvy201 _ (by omega)]; rw [hfvy130 _ (by omega) (by omega)]; rw [f3L _ (by omega) (by omega)]⟩
                    · exact absurd ((vlu3 (T := T) (n := n) (f := vvy130.2) (by omega) 59 3 (by omega)).mp (by omega)) h3
              · obtain ⟨evy130, hv0vy130, havy130, hbvy130, hlvy130, ⟨f9vy130, hkvy130⟩, hxvy130⟩ := hqvy130
                have hvvy130 : ps_cl T n s9 f = .error evy130 := hv0vy130
                have hsry243 := srt_b T n f9vy130
                have hvly244 := vlu_b hTb f9vy130
                have hwby245 := tk_w_b T n f9vy130
                have hfny246 := hkvy130.1
                have hzvy130 := hkvy130.2.1
                refine z_aload_n C 0 dX10_snow_115 rfl ?_
                refine z_get (v := .int (zI (evy130.1))) C (lt_A0 hN rfl) hay78 hcvy130 rfl inA_X10 38 (by decide) q_1497 rfl (fv (F := Fvy130) (f := 38) havy130) dX10_snow_116 ?_
                refine z_if_ne (tgt := 97) C dX10_snow_119 (by decide) (by omega) (fun _ => ?_) (fun h => absurd h (by omega))
                refine z_aload_n C 0 dX10_snow_97 rfl ?_
                refine z_get (v := .int (zI (evy130.1))) C (lt_A0 hN rfl) hay78 hcvy130 rfl inA_X10 38 (by decide) q_1497 rfl (fv (F := Fvy130) (f := 38) havy130) dX10_snow_98 ?_
                refine z_if_ne (tgt := 159) C dX10_snow_101 (by decide) (by omega) (fun _ => ?_) (fun h => absurd h (by omega))
                refine z_aload_n C 0 dX10_snow_159 rfl ?_
                refine z_get (v := .int (zI (evy130.1))) C (lt_A0 hN rfl) hay78 hcvy130 rfl inA_X10 38 (by decide) q_1497 rfl (fv (F := Fvy130) (f := 38) havy130) dX10_snow_160 ?_
                refine z_if_eq (tgt := 181) C dX10_snow_163 (by decide) (by omega) (fun h => absurd h (by omega)) (fun _ => ?_)
                refine z_aload_n C 0 dX10_snow_166 rfl ?_
                refine z_get (v := .ref (ad (i + 11))) C (lt_A0 hN rfl) hay78 hcvy130 rfl inA_X10 10 (by decide) q_1469 rfl rfl dX10_snow_167 ?_
                refine z_iconst (z := 0) C dX10_snow_170 rfl ?_
                refine z_dup2 C dX10_snow_171 rfl rfl ?_
                have hgy247 := (hfvy130 (i + 11) (ne_o (i := i) (c := 11) (d := 0) rfl) (by omega)).trans ((f3L _ (by omega) (by omega)).trans ha11)
                refine z_iald C (lt_A (c := 11) hN rfl) hay89 hgy247 (0) (by omega) (by omega) (by decide) dX10_snow_172 ?_
                refine z_iconst (z := 1) C dX10_snow_173 rfl ?_
                refine z_iadd C dX10_snow_174 ?_
                refine z_iast C (lt_A (c := 11) hN rfl) hay89 hgy247 (0) (by omega) (by omega) (by decide) dX10_snow_175 (fun gy248 egy249 => ?_)
                have hgy250 := up_s egy249
                refine z_aload_n C 0 dX10_snow_176 rfl ?_
                have hgy251 := up_n egy249 hcvy130 (ne_o (i := i) (c := 0) (d := 11) rfl)
                refine z_get (v := .int (zI (evy130.1))) C (lt_A0 hN rfl) hay78 hgy251 rfl inA_X10 38 (by decide) q_1497 rfl (fv (F := Fvy130) (f := 38) havy130) dX10_snow_177 ?_
                have hey252 : Fvy130 13 = F 13 := ((hFvy130 13 (by decide) (by decide) (by decide) (by decide) (by decide) (by decide) (by decide) (by decide) (by decide) (by decide)).trans (fF 13 (by decide) (by decide) (by decide) (by decide) (by decide) (by decide) (by decide) (by decide) (by decide) (by decide) (by decide) (by decide) (by decide)))
                have hey253 : Fvy130 14 = F 14 := ((hFvy130 14 (by decide) (by decide) (by decide) (by decide) (by decide) (by decide) (by decide) (by decide) (by decide) (by decide)).trans (fF 14 (by decide) (by decide) (by decide) (by decide) (by decide) (by decide) (by decide) (by decide) (by decide) (by decide) (by decide) (by decide) (by decide)))
                have hey254 : Fvy130 15 = F 15 := ((hFvy130 15 (by decide) (by decide) (by decide) (by decide) (by decide) (by decide) (by decide) (by decide) (by decide) (by decide)).trans (fF 15 (by decide) (by decide) (by decide) (by decide) (by decide) (by decide) (by decide) (by decide) (by decide) (by decide) (by decide) (by decide) (by decide)))
                have hey255 : Fvy130 16 = F 16 := ((hFvy130 16 (by decide) (by decide) (by decide) (by decide) (by decide) (by decide) (by decide) (by decide) (by decide) (by decide)).trans (fF 16 (by decide) (by decide) (by decide) (by decide) (by decide) (by decide) (by decide) (by decide) (by decide) (by decide) (by decide) (by decide) (by decide)))
                have hey256 : Fvy130 17 = F 17 := ((hFvy130 17 (by decide) (by decide) (by decide) (by decide) (by decide) (by decide) (by decide) (by decide) (by decide) (by decide)).trans (fF 17 (by decide) (by decide) (by decide) (by decide) (by decide) (by decide) (by decide) (by decide) (by decide) (by decide) (by decide) (by decide) (by decide)))
                have hey257 : Fvy130 18 = F 18 := ((hFvy130 18 (by decide) (by decide) (by decide) (by decide) (by decide) (by decide) (by decide) (by decide) (by decide) (by decide)).trans (fF 18 (by decide) (by decide) (by decide) (by decide) (by decide) (by decide) (by decide) (by decide) (by decide) (by decide) (by decide) (by decide) (by decide)))
                have hey258 : Fvy130 19 = F 19 := ((hFvy130 19 (by decide) (by decide) (by decide) (by decide) (by decide) (by decide) (by decide) (by decide) (by decide) (by decide)).trans (fF 19 (by decide) (by decide) (by decide) (by decide) (by decide) (by decide) (by decide) (by decide) (by decide) (by decide) (by decide) (by decide) (by decide)))
                have hey259 : Fvy130 20 = F 20 := ((hFvy130 20 (by decide) (by decide) (by decide) (by decide) (by decide) (by decide) (by decide) (by decide) (by decide) (by decide)).trans (fF 20 (by decide) (by decide) (by decide) (by decide) (by decide) (by decide) (by decide) (by decide) (by decide) (by decide) (by decide) (by decide) (by decide)))
                have hey260 : Fvy130 21 = F 21 := ((hFvy130 21 (by decide) (by decide) (by decide) (by decide) (by decide) (by decide) (by decide) (by decide) (by decide) (by decide)).trans (fF 21 (by decide) (by decide) (by decide) (by decide) (by decide) (by decide) (by decide) (by decide) (by decide) (by decide) (by decide) (by decide) (by decide)))
                have hey261 : Fvy130 23 = 0 := ((hFvy130 23 (by decide) (by decide) (by decide) (by decide) (by decide) (by decide) (by decide) (by decide) (by decide) (by decide)).trans hsL.2.2.1)
                have hey262 : Fvy130 25 = F 25 := ((hFvy130 25 (by decide) (by decide) (by decide) (by decide) (by decide) (by decide) (by decide) (by decide) (by decide) (by decide)).trans (fF 25 (by decide) (by decide) (by decide) (by decide) (by decide) (by decide) (by decide) (by decide) (by decide) (by decide) (by decide) (by decide) (by decide)))
                have hey263 : Fvy130 27 = F 27 := ((hFvy130 27 (by decide) (by decide) (by decide) (by decide) (by decide) (by decide) (by decide) (by decide) (by decide) (by decide)).trans (fF 27 (by decide) (by decide) (by decide) (by decide) (by decide) (by decide) (by decide) (by decide) (by decide) (by decide) (by decide) (by decide) (by decide)))
                have hey264 : Fvy130 28 = F 28 := ((hFvy130 28 (by decide) (by decide) (by decide) (by decide) (by decide) (by decide) (by decide) (by decide) (by decide) (by decide)).trans (fF 28 (by decide) (by decide) (by decide) (by decide) (by decide) (by decide) (by decide) (by decide) (by decide) (by decide) (by decide) (by decide) (by decide)))
                have hey265 : Fvy130 29 = F 29 := ((hFvy130 29 (by decide) (by decide) (by decide) (by decide) (by decide) (by decide) (by decide) (by decide) (by decide) (by decide)).trans (fF 29 (by decide) (by decide) (by decide) (by decide) (by decide) (by decide) (by decide) (by decide) (by decide) (by decide) (by decide) (by decide) (by decide)))
                have hey266 : Fvy130 24 = (evy130.2 : Int) := hbvy130
                have hey267 : Fvy130 12 = 0 := ((hFvy130 12 (by decide) (by decide) (by decide) (by decide) (by decide) (by decide) (by decide) (by decide) (by decide) (by decide)).trans hsL.2.2.2)
                have hey268 : Fvy130 32 = ((tk_to T n f9vy130 : Nat) : Int) := hkvy130.2.1
                have hey269 : Fvy130 38 = evy130.1 := havy130
                have hey270 : Fvy130 47 = Fvy130 47 := rfl
                have hey271 : Fvy130 48 = Fvy130 48 := rfl
                have hey272 : Fvy130 49 = Fvy130 49 := rfl
                have hKy273 : okF Fvy130 := by unfold okF; omega
                have htky274 : tkR T n Fvy130 f9vy130 := hkvy130
                have htxy275 : okTx cs gy248 i Fvy130 := hxvy130.mv (fun j a b => by rw [egy249, va_up_ne _ _ (by omega)]) ⟨by omega, by omega, by omega, by omega⟩
                have hgy276 := (hfvy130 (i + 1) (ne_o (i := i) (c := 1) (d := 0) rfl) (by omega)).trans ((f3L _ (by omega) (by omega)).trans ha1)
                have hgy277 := up_n egy249 hgy276 (ne_o (i := i) (c := 1) (d := 11) rfl)
                have hMy278 : okMr cs ad gy248 i x Fvy130 r st op ai fa mu tb tp := okMr.upd2 hM hgy251 hKy273 (htky274.rd hTb) htxy275 hgy277 hA (fun j a b c => by
                    by_cases e0 : j = i + 11
                    · exact Or.inr ⟨11, _, e0, lsP.l (by decide), by rw [e0]; exact hgy250⟩
                    exact Or.inl (by rw [egy249, va_up_ne _ _ (by omega)]; rw [hfvy130 _ (by omega) (by omega)]; rw [f3L _ (by omega) (by omega)]))
                have hMx := okMr.mono (y := x + 1) hMy278 (by omega)
                obtain ⟨k9, hk9⟩ := hf9 ((evy130.1, (evy130.2 : Int)), s9) ⟨1, by simp only [ps_run]; rw [if_neg hso, ps_step_er hvvy130]⟩
                have hkpy279 : Fvy130 13 = F 13 := ((hFvy130 13 (by decide) (by decide) (by decide) (by decide) (by decide) (by decide) (by decide) (by decide) (by decide) (by decide)).trans (fF 13 (by decide) (by decide) (by decide) (by decide) (by decide) (by decide) (by decide) (by decide) (by decide) (by decide) (by decide) (by decide) (by decide)))
                have hkpy280 : Fvy130 14 = F 14 := ((hFvy130 14 (by decide) (by decide) (by decide) (by decide) (by decide) (by decide) (by decide) (by decide) (by decide) (by decide)).trans (fF 14 (by decide) (by decide) (by decide) (by decide) (by decide) (by decide) (by decide) (by decide) (by decide) (by decide) (by decide) (by decide) (by decide)))
                have hkpy281 : Fvy130 17 = F 17 := ((hFvy130 17 (by decide) (by decide) (by decide) (by decide) (by decide) (by decide) (by decide) (by decide) (by decide) (by decide)).trans (fF 17 (by decide) (by decide) (by decide) (by decide) (by decide) (by decide) (by decide) (by decide) (by decide) (by decide) (by decide) (by decide) (by decide)))
                have hkpy282 : Fvy130 20 = F 20 := ((hFvy130 20 (by decide) (by decide) (by decide) (by decide) (by decide) (by decide) (by decide) (by decide) (by decide) (by decide)).trans (fF 20 (by decide) (by decide) (by decide) (by decide) (by decide) (by decide) (by decide) (by decide) (by decide) (by decide) (by decide) (by decide) (by decide)))
                have hkpy283 : Fvy130 21 = F 21 := ((hFvy130 21 (by decide) (by decide) (by decide) (by decide) (by decide) (by decide) (by decide) (by decide) (by decide) (by decide)).trans (fF 21 (by decide) (by decide) (by decide) (by decide) (by decide) (by decide) (by decide) (by decide) (by decide) (by decide) (by decide) (by decide) (by decide)))
                have hkpy284 : Fvy130 23 = 0 := ((hFvy130 23 (by decide) (by decide) (by decide) (by decide) (by decide) (by decide) (by decide) (by decide) (by decide) (by decide)).trans hsL.2.2.1)
                have hkpy285 : Fvy130 24 = (evy130.2 : Int) := hbvy130
                exact z_iret C hr hlk dX10_snow_180 (by decide) (by decide) ⟨evy130.1, rfl, rfl, rfl, by omega, ⟨k9, _, s9, hk9, Or.inr ⟨by omega, _, _, hMx, by omega, by omega⟩⟩, fun j j1 => by rw [egy249, va_up_ne _ _ (by omega)]; rw [hfvy130 _ (by omega) (by omega)]; rw [f3L _ (by omega) (by omega)]⟩
        have hey286 : Fvy73 12 = 0 := ((hFvy73 12 (by decide) (by decide) (by decide) (by decide) (by decide)).trans (fn (fn (fn (fn (fn (fn (fn (fn hevy35 (by decide)) (by decide)) (by decide)) (by decide)) (by decide)) (by decide)) (by decide)) (by decide)))
        have hey287 : Fvy73 23 = 0 := ((hFvy73 23 (by decide) (by decide) (by decide) (by decide) (by decide)).trans (fn (fn (fn (fn (fn (fn (fn (uZ_s _ _ _) (by decide)) (by decide)) (by decide)) (by decide)) (by decide)) (by decide)) (by decide)))
        have hey288 : Fvy73 24 = -1 := ((hFvy73 24 (by decide) (by decide) (by decide) (by decide) (by decide)).trans (fn (fn (fn (uZ_s _ _ _) (by decide)) (by decide)) (by decide)))
        have hey289 : Fvy73 32 = ((tk_to T n (tk_at T n 0) : Nat) : Int) := hkvy73.2.1
        have hey290 : Fvy73 38 = 0 := ((hFvy73 38 (by decide) (by decide) (by decide) (by decide) (by decide)).trans (fn (fn (fn (fn (uZ_s _ _ _) (by decide)) (by decide)) (by decide)) (by decide)))
        have hey291 : Fvy73 47 = 0 := ((hFvy73 47 (by decide) (by decide) (by decide) (by decide) (by decide)).trans (uZ_s _ _ _))
        have hey292 : Fvy73 48 = 0 := ((hFvy73 48 (by decide) (by decide) (by decide) (by decide) (by decide)).trans (fn (uZ_s _ _ _) (by decide)))
        have hey293 : Fvy73 49 = 0 := ((hFvy73 49 (by decide) (by decide) (by decide) (by decide) (by decide)).trans (fn (fn (uZ_s _ _ _) (by decide)) (by decide)))
        have htky294 : tkR T n Fvy73 (tk_at T n 0) := hkvy73
        have hgy296 := up_n egy33 ha16 (ne_o (i := i) (c := 16) (d := 0) rfl)
        have hgy297 := (hfvy35 (i + 16) (ne_o (i := i) (c := 16) (d := 0) rfl)).trans hgy296
        have hgy298 := up_n egy37 hgy297 (ne_o (i := i) (c := 16) (d := 0) rfl)
        have hgy299 := up_n egy40 hgy298 (ne_o (i := i) (c := 16) (d := 0) rfl)
        have hgy300 := up_n egy43 hgy299 (ne_o (i := i) (c := 16) (d := 0) rfl)
        have hgy301 := up_n egy46 hgy300 (ne_o (i := i) (c := 16) (d := 0) rfl)
        have hgy302 := up_n egy49 hgy301 (ne_o (i := i) (c := 16) (d := 0) rfl)
        have hgy303 := up_n egy52 hgy302 (ne_o (i := i) (c := 16) (d := 0) rfl)
        have hgy304 := up_n egy55 hgy303 (ne_o (i := i) (c := 16) (d := 0) rfl)
        have hgy305 := up_n egy58 hgy304 (ne_o (i := i) (c := 16) (d := 0) rfl)
        have hgy306 := (f3A (i + 16) (ne_o (i := i) (c := 16) (d := 22) rfl)).trans hgy305
        have hgy307 := (hfvy73 (i + 16) (ne_o (i := i) (c := 16) (d := 0) rfl)).trans hgy306
        have hgy308 := up_n egy33 ha17 (ne_o (i := i) (c := 17) (d := 0) rfl)
        have hgy309 := (hfvy35 (i + 17) (ne_o (i := i) (c := 17) (d := 0) rfl)).trans hgy308
        have hgy310 := up_n egy37 hgy309 (ne_o (i := i) (c := 17) (d := 0) rfl)
        have hgy311 := up_n egy40 hgy310 (ne_o (i := i) (c := 17) (d := 0) rfl)
        have hgy312 := up_n egy43 hgy311 (ne_o (i := i) (c := 17) (d := 0) rfl)
        have hgy313 := up_n egy46 hgy312 (ne_o (i := i) (c := 17) (d := 0) rfl)
        have hgy314 := up_n egy49 hgy313 (ne_o (i := i) (c := 17) (d := 0) rfl)
        have hgy315 := up_n egy52 hgy314 (ne_o (i := i) (c := 17) (d := 0) rfl)
        have hgy316 := up_n egy55 hgy315 (ne_o (i := i) (c := 17) (d := 0) rfl)
        have hgy317 := up_n egy58 hgy316 (ne_o (i := i) (c := 17) (d := 0) rfl)
        have hgy318 := (f3A (i + 17) (ne_o (i := i) (c := 17) (d := 22) rfl)).trans hgy317
        have hgy319 := (hfvy73 (i + 17) (ne_o (i := i) (c := 17) (d := 0) rfl)).trans hgy318
        have hgy320 := up_n egy33 ha18 (ne_o (i := i) (c := 18) (d := 0) rfl)
        have hgy321 := (hfvy35 (i + 18) (ne_o (i := i) (c := 18) (d := 0) rfl)).trans hgy320
        have hgy322 := up_n egy37 hgy321 (ne_o (i := i) (c := 18) (d := 0) rfl)
        have hgy323 := up_n egy40 hgy322 (ne_o (i := i) (c := 18) (d := 0) rfl)
        have hgy324 := up_n egy43 hgy323 (ne_o (i := i) (c := 18) (d := 0) rfl)
        have hgy325 := up_n egy46 hgy324 (ne_o (i := i) (c := 18) (d := 0) rfl)
        have hgy326 := up_n egy49 hgy325 (ne_o (i := i) (c := 18) (d := 0) rfl)
        have hgy327 := up_n egy52 hgy326 (ne_o (i := i) (c := 18) (d := 0) rfl)
        have hgy328 := up_n egy55 hgy327 (ne_o (i := i) (c := 18) (d := 0) rfl)
        have hgy329 := up_n egy58 hgy328 (ne_o (i := i) (c := 18) (d := 0) rfl)
        have hgy330 := (f3A (i + 18) (ne_o (i := i) (c := 18) (d := 22) rfl)).trans hgy329
        have hgy331 := (hfvy73 (i + 18) (ne_o (i := i) (c := 18) (d := 0) rfl)).trans hgy330
        have hgy332 := up_n egy33 ha19 (ne_o (i := i) (c := 19) (d := 0) rfl)
        have hgy333 := (hfvy35 (i + 19) (ne_o (i := i) (c := 19) (d := 0) rfl)).trans hgy332
        have hgy334 := up_n egy37 hgy333 (ne_o (i := i) (c := 19) (d := 0) rfl)
        have hgy335 := up_n egy40 hgy334 (ne_o (i := i) (c := 19) (d := 0) rfl)
        have hgy336 := up_n egy43 hgy335 (ne_o (i := i) (c := 19) (d := 0) rfl)
        have hgy337 := up_n egy46 hgy336 (ne_o (i := i) (c := 19) (d := 0) rfl)
        have hgy338 := up_n egy49 hgy337 (ne_o (i := i) (c := 19) (d := 0) rfl)
        have hgy339 := up_n egy52 hgy338 (ne_o (i := i) (c := 19) (d := 0) rfl)
        have hgy340 := up_n egy55 hgy339 (ne_o (i := i) (c := 19) (d := 0) rfl)
        have hgy341 := up_n egy58 hgy340 (ne_o (i := i) (c := 19) (d := 0) rfl)
        have hgy342 := (f3A (i + 19) (ne_o (i := i) (c := 19) (d := 22) rfl)).trans hgy341
        have hgy343 := (hfvy73 (i + 19) (ne_o (i := i) (c := 19) (d := 0) rfl)).trans hgy342
        have hgy344 := up_n egy33 ha20 (ne_o (i := i) (c := 20) (d := 0) rfl)
        have hgy345 := (hfvy35 (i + 20) (ne_o (i := i) (c := 20) (d := 0) rfl)).trans hgy344
        have hgy346 := up_n egy37 hgy345 (ne_o (i := i) (c := 20) (d := 0) rfl)
        have hgy347 := up_n egy40 hgy346 (ne_o (i := i) (c := 20) (d := 0) rfl)
        have hgy348 := up_n egy43 hgy347 (ne_o (i := i) (c := 20) (d := 0) rfl)
        have hgy349 := up_n egy46 hgy348 (ne_o (i := i) (c := 20) (d := 0) rfl)
        have hgy350 := up_n egy49 hgy349 (ne_o (i := i) (c := 20) (d := 0) rfl)
        have hgy351 := up_n egy52 hgy350 (ne_o (i := i) (c := 20) (d := 0) rfl)
        have hgy352 := up_n egy55 hgy351 (ne_o (i := i) (c := 20) (d := 0) rfl)
        have hgy353 := up_n egy58 hgy352 (ne_o (i := i) (c := 20) (d := 0) rfl)
        have hgy354 := (f3A (i + 20) (ne_o (i := i) (c := 20) (d := 22) rfl)).trans hgy353
        have hgy355 := (hfvy73 (i + 20) (ne_o (i := i) (c := 20) (d := 0) rfl)).trans hgy354
        have hgy356 := up_n egy33 ha21 (ne_o (i := i) (c := 21) (d := 0) rfl)
        have hgy357 := (hfvy35 (i + 21) (ne_o (i := i) (c := 21) (d := 0) rfl)).trans hgy356
        have hgy358 := up_n egy37 hgy357 (ne_o (i := i) (c := 21) (d := 0) rfl)
        have hgy359 := up_n egy40 hgy358 (ne_o (i := i) (c := 21) (d := 0) rfl)
        have hgy360 := up_n egy43 hgy359 (ne_o (i := i) (c := 21) (d := 0) rfl)
        have hgy361 := up_n egy46 hgy360 (ne_o (i := i) (c := 21) (d := 0) rfl)
        have hgy362 := up_n egy49 hgy361 (ne_o (i := i) (c := 21) (d := 0) rfl)
        have hgy363 := up_n egy52 hgy362 (ne_o (i := i) (c := 21) (d := 0) rfl)
        have hgy364 := up_n egy55 hgy363 (ne_o (i := i) (c := 21) (d := 0) rfl)
        have hgy365 := up_n egy58 hgy364 (ne_o (i := i) (c := 21) (d := 0) rfl)
        have hgy366 := (f3A (i + 21) (ne_o (i := i) (c := 21) (d := 22) rfl)).trans hgy365
        have hgy367 := (hfvy73 (i + 21) (ne_o (i := i) (c := 21) (d := 0) rfl)).trans hgy366
        have hgy368 := (hfvy73 (i + 22) (ne_o (i := i) (c := 22) (d := 0) rfl)).trans f2A_t9
        have hgy369 := up_n egy33 ha23 (ne_o (i := i) (c := 23) (d := 0) rfl)
        have hgy370 := (hfvy35 (i + 23) (ne_o (i := i) (c := 23) (d := 0) rfl)).trans hgy369
        have hgy371 := up_n egy37 hgy370 (ne_o (i := i) (c := 23) (d := 0) rfl)
        have hgy372 := up_n egy40 hgy371 (ne_o (i := i) (c := 23) (d := 0) rfl)
        have hgy373 := up_n egy43 hgy372 (ne_o (i := i) (c := 23) (d := 0) rfl)
        have hgy374 := up_n egy46 hgy373 (ne_o (i := i) (c := 23) (d := 0) rfl)
        have hgy375 := up_n egy49 hgy374 (ne_o (i := i) (c := 23) (d := 0) rfl)
        have hgy376 := up_n egy52 hgy375 (ne_o (i := i) (c := 23) (d := 0) rfl)
        have hgy377 := up_n egy55 hgy376 (ne_o (i := i) (c := 23) (d := 0) rfl)
        have hgy378 := up_n egy58 hgy377 (ne_o (i := i) (c := 23) (d := 0) rfl)
        have hgy379 := (f3A (i + 23) (ne_o (i := i) (c := 23) (d := 22) rfl)).trans hgy378
        have hgy380 := (hfvy73 (i + 23) (ne_o (i := i) (c := 23) (d := 0) rfl)).trans hgy379
        have htoy381 := tk_to_w (T := T) (n := n) (f := (tk_at T n 0)) htky294.1.1
        have h32y382 := htky294.2.1
        have hxty295 : xTx cs gvy73 i Fvy73 (0, 0, 0, (fun _ => 0), st0, op0, ai0, fa0, mu0, tabZ, (fun _ => 0), L0) := ⟨_, _, _, _, _, _, _, _, ⟨hgy307, hgy319, hgy331, hgy343, hgy355, hgy367, hgy368, hgy380⟩, ⟨⟨by omega, by omega, by omega⟩, hop1, hmn1, hai1, hfa1, (fun k hk => Or.inl (fTa k (by omega))), fun s l h1 h2 => absurd h1 (by omega)⟩, ⟨⟨by show Fvy73 47 = 0; omega, by show Fvy73 48 = 0; omega, by show Fvy73 49 = 0; omega⟩, fun k hk => absurd (show (k : Int) < 0 from hk) (by omega), fun k hk => absurd (show (k : Int) < 0 from hk) (by omega), fun k hk => Or.inl ⟨fTa k (by omega), rfl, rfl⟩, fun j l hj _ _ _ => absurd (show (j : Int) < 0 from hj) (by omega), fun _ _ => rfl⟩⟩
        have hFy383 : ∀ f, f ≠ 12 → f ≠ 23 → f ≠ 24 → f ≠ 32 → f ≠ 33 → f ≠ 34 → f ≠ 35 → f ≠ 36 → f ≠ 37 → f ≠ 38 → f ≠ 47 → f ≠ 48 → f ≠ 49 → Fvy73 f = F f := fun f n12 n23 n24 n32 n33 n34 n35 n36 n37 n38 n47 n48 n49 => ((hFvy73 f n32 n33 n35 n36 n37).trans ((uZ_n _ _ n47).trans ((uZ_n _ _ n48).trans ((uZ_n _ _ n49).trans ((uZ_n _ _ n24).trans ((uZ_n _ _ n38).trans ((uZ_n _ _ n32).trans ((uZ_n _ _ n34).trans ((uZ_n _ _ n23).trans ((hFvy35 f n12).trans ((uZ_n _ _ n12).trans rfl)))))))))))
        refine z_lv (lv' := [(0, .ref (ad i)), (1, .int (zI ((n : Int))))]) [0, 1] rfl ?_
        exact L _ (tk_at T n 0) (0, 0, 0, (fun _ => 0), st0, op0, ai0, fa0, mu0, tabZ, (fun _ => 0), L0) _ gvy73 rfl hcvy73 htky294 hxty295 (fun r9 h9 => h9) hFy383 (fun j j1 j2 => by rw [hfvy73 _ (by omega)]; rw [f3A _ (by omega)]; rw [egy58, va_up_ne _ _ (by omega)]; rw [egy55, va_up_ne _ _ (by omega)]; rw [egy52, va_up_ne _ _ (by omega)]; rw [egy49, va_up_ne _ _ (by omega)]; rw [egy46, va_up_ne _ _ (by omega)]; rw [egy43, va_up_ne _ _ (by omega)]; rw [egy40, va_up_ne _ _ (by omega)]; rw [egy37, va_up_ne _ _ (by omega)]; rw [hfvy35 _ (by omega)]; rw [egy33, va_up_ne _ _ (by omega)]) (by omega)
      · refine z_aload_n C 0 dX10_snow_80 rfl ?_
        have hgy384 := (f3A (i) (ne_o (i := i) (c := 0) (d := 22) rfl)).trans hgy59
        refine z_get (v := .ref (ad (i + 22))) C (lt_A0 hN rfl) hay1 hgy384 rfl inA_X10 45 (by decide) q_1504 rfl rfl dX10_snow_81 ?_
        refine z_iload_n C 2 dX10_snow_84 rfl ?_
        refine z_iconst (z := -1) C dX10_snow_85 rfl ?_
        refine z_iast C (lt_A (c := 22) hN rfl) hay30 f2A_t9 (nkA) (by omega) (by omega) (by decide) dX10_snow_86 (fun gy385 egy386 => ?_)
        have hgy387 := up_s egy386
        obtain ⟨ry388, hvy389⟩ : ∃ rZ9 : Nat → Int, rZ9 = uZ t9 (nkA) (-1) := ⟨_, rfl⟩
        rw [← hvy389] at hgy387
        refine z_iinc (z := ka + 1) (lv' := [(2, .int (zI (ka + 1))), (0, .ref (ad i)), (1, .int (zI ((n : Int))))]) (j := 2) C dX10_snow_87 rfl rfl (by decide) rfl ?_
        refine z_goto (tgt := 74) C dX10_snow_90 (by decide) ?_
        refine z_lv (lv' := [(0, .ref (ad i)), (1, .int (zI ((n : Int)))), (2, .int (zI (ka + 1)))]) [1, 2, 0] rfl ?_
        exact ih_A _ (by omega) (ka + 1) ry388 gy385 rfl hgy387 (fun j j1 => by rw [egy386, va_up_ne _ _ (by omega)]; exact f3A j j1) (fun j hj => by rw [hvy389]; by_cases e : j = nkA; (rw [e, uZ_s]); (rw [uZ_n _ _ e]; exact fTa j (by omega))) (by omega)
  have hgy390 := up_n egy33 ha22 (ne_o (i := i) (c := 22) (d := 0) rfl)
  have hgy391 := (hfvy35 (i + 22) (ne_o (i := i) (c := 22) (d := 0) rfl)).trans hgy390
  have hgy392 := up_n egy37 hgy391 (ne_o (i := i) (c := 22) (d := 0) rfl)
  have hgy393 := up_n egy40 hgy392 (ne_o (i := i) (c := 22) (d := 0) rfl)
  have hgy394 := up_n egy43 hgy393 (ne_o (i := i) (c := 22) (d := 0) rfl)
  have hgy395 := up_n egy46 hgy394 (ne_o (i := i) (c := 22) (d := 0) rfl)
  have hgy396 := up_n egy49 hgy395 (ne_o (i := i) (c := 22) (d := 0) rfl)
  have hgy397 := up_n egy52 hgy396 (ne_o (i := i) (c := 22) (d := 0) rfl)
  have hgy398 := up_n egy55 hgy397 (ne_o (i := i) (c := 22) (d := 0) rfl)
  have hgy399 := up_n egy58 hgy398 (ne_o (i := i) (c := 22) (d := 0) rfl)
  refine z_lv (lv' := [(0, .ref (ad i)), (1, .int (zI ((n : Int)))), (2, .int (zI (0)))]) [1, 2, 0] rfl ?_
  exact A _ (0) tb1 gy57 rfl hgy399 (fun j _ => rfl) (fun k a => absurd a (by omega)) (by omega)

