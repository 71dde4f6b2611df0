theorem okMr.mono {cs : Nat → ClassId} {ad : Nat → Nat} {g : Nat → va_E} {i : Nat} {x y : Int} {F r : Nat → Int} (h : okMr cs ad g i x F r) (hxy : x ≤ y) : okMr cs ad g i y F r := ⟨h.1, h.2.1, h.2.2.1, h.2.2.2.1, h.2.2.2.2.1.mono hxy, h.2.2.2.2.2⟩

set_option maxRecDepth 100000 in
set_option maxHeartbeats 4000000 in
theorem c_X10_snow (l : Launch) (D : va_G) (A : Nat → Prop) (cs : Nat → ClassId) (tt : Nat) (N : Nat) (ad : Nat → Nat) (g : Nat → va_E) (i : Nat) (hN : i + 30 ≤ N) (x : Int) (hx : 0 ≤ x ∧ x ≤ 512) (F r : Nat → Int) (hM : okMr cs ad g i x F r) (z : Int) (hz : -2147483648 ≤ z ∧ z ≤ 2147483647) : zM l yX10_snow cX10_snow 3 (some .int) ({ frames := 8, cells := 0, slots := 0, locals := 480 } : Room) D A cs tt N ad g [.ref (ad i), .int (zI (z))] (rI0 N ad fun q g' => (0 ≤ q ∧ q ≤ 5) ∧ (∃ F' r' : Nat → Int, okMr cs ad g' i (x + 1) F' r' ∧ ((0 ≤ z ∧ z ≤ F 23 ∧ F' 23 = 0) ∨ ((z < 0 ∨ F 23 < z) ∧ F' 23 = F 23))) ∧ ∀ j, j < i ∨ i + 30 ≤ j → g' j = g j) := by
  obtain ⟨hg, ⟨⟨e13, e14, e25, e27, e29⟩, k15, k16, k17, k18, k19, k20, k23⟩, hRD, hTx, hA, st, op, ai, fa, mu, tb, ns, nh, nd, rf, pi, tp, te, ki, li, ok1, ok2, fo, dd, dps, ⟨ha1, ha2, ha3, ha4, ha5, ha6, ha7, ha8, ha9, ha10, ha11, ha12, ha13, ha14, ha15, ha24, ha25, ha26, ha27, ha28, ha29⟩, hEv, hPt, hns, htp⟩ := id hM
  obtain ⟨-, hop, hai, hfa, hT, hT1⟩ := id hEv
  have hay1 : zAt ad (i) (ad i) := rfl
  have hay2 : zAt ad (i + 1) (ad (i + 1)) := rfl
  have hay3 : zAt ad (i + 2) (ad (i + 2)) := rfl
  have hay4 : zAt ad (i + 3) (ad (i + 3)) := rfl
  have hay5 : zAt ad (i + 4) (ad (i + 4)) := rfl
  have hay6 : zAt ad (i + 5) (ad (i + 5)) := rfl
  have hay7 : zAt ad (i + 6) (ad (i + 6)) := rfl
  have hay8 : zAt ad (i + 7) (ad (i + 7)) := rfl
  have hay9 : zAt ad (i + 8) (ad (i + 8)) := rfl
  have hay10 : zAt ad (i + 9) (ad (i + 9)) := rfl
  have hay11 : zAt ad (i + 10) (ad (i + 10)) := rfl
  have hay12 : zAt ad (i + 11) (ad (i + 11)) := rfl
  have hay13 : zAt ad (i + 12) (ad (i + 12)) := rfl
  have hay14 : zAt ad (i + 13) (ad (i + 13)) := rfl
  have hay15 : zAt ad (i + 14) (ad (i + 14)) := rfl
  have hay16 : zAt ad (i + 15) (ad (i + 15)) := rfl
  have hay17 : zAt ad (i + 24) (ad (i + 24)) := rfl
  have hay18 : zAt ad (i + 25) (ad (i + 25)) := rfl
  have hay19 : zAt ad (i + 26) (ad (i + 26)) := rfl
  have hay20 : zAt ad (i + 27) (ad (i + 27)) := rfl
  have hay21 : zAt ad (i + 28) (ad (i + 28)) := rfl
  have hay22 : zAt ad (i + 29) (ad (i + 29)) := rfl
  obtain ⟨⟨hsyy23, htyy23, hnyy23, hpyy23⟩, hlyy23⟩ := okA.at0 hA
  simp only [Nat.zero_add] at hsyy23 hnyy23 hpyy23
  have hmn : ∀ s, s < 4 → 0 ≤ r (6 + 86 * s) ∧ r (6 + 86 * s) ≤ 12 := fun s hs => (hsyy23 s hs).1
  have h5 : 0 ≤ r 5 ∧ r 5 ≤ 6 := hpyy23
  obtain ⟨st1, op1, mn1, ai1, fa1, mu1, tb1, ly1, ⟨ha16, ha17, ha18, ha19, ha20, ha21, ha22, ha23⟩, ⟨⟨t47, t48, t49⟩, hop1, hmn1, hai1, hfa1, htb1, hly1⟩⟩ := id hTx
  have hay24 : zAt ad (i + 16) (ad (i + 16)) := rfl
  have hay25 : zAt ad (i + 17) (ad (i + 17)) := rfl
  have hay26 : zAt ad (i + 18) (ad (i + 18)) := rfl
  have hay27 : zAt ad (i + 19) (ad (i + 19)) := rfl
  have hay28 : zAt ad (i + 20) (ad (i + 20)) := rfl
  have hay29 : zAt ad (i + 21) (ad (i + 21)) := rfl
  have hay30 : zAt ad (i + 22) (ad (i + 22)) := rfl
  have hay31 : zAt ad (i + 23) (ad (i + 23)) := rfl
  obtain ⟨d32, d33, d35, d36, d2, d37, d38⟩ := id hRD
  refine z_of (by decide) (Nat.le_of_ble_eq_true rfl) ?_
  intro pZ eZ sZ mZ below meth cZ C hr hlk hnm
  refine z_lv (lv' := [(0, .ref (ad i)), (1, .int (zI (z)))]) [0, 1] rfl ?_
  refine z_aload_n C 0 dX10_snow_0 rfl ?_
  refine z_iconst (z := 0) C dX10_snow_1 rfl ?_
  refine z_put (fs' := mF ad (i) (uZ F 12 (0))) C (by omega) hay1 hg tyX10 tyX10_ok nmX10 rfl inA_X10 12 (by decide) q_1471 rfl rfl rfl rfl (Nat.le_of_ble_eq_true rfl) rfl dX10_snow_2 (fun gy32 egy33 => ?_)
  have hgy34 := up_s egy33
  refine z_aload_n C 0 dX10_snow_5 rfl ?_
  refine z_iload_n C 1 dX10_snow_6 rfl ?_
  refine z_if_lt (tgt := 22) C dX10_snow_7 (by decide) (by omega) (fun hby35 => ?_) (fun hby35 => ?_)
  · refine z_iconst (z := 0) C dX10_snow_22 rfl ?_
    refine z_iconst (z := 1) C dX10_snow_23 rfl ?_
    have hey37 : (uZ F 12 (0)) 12 = 0 := (uZ_s _ _ _)
    refine z_cV (As := [.int (zI (0)), .int (zI (1))]) (rest := []) (ci := 12) C (c_X10_right l D A cs tt N ad _ i hN _ hgy34 (by omega) (0) (by omega) (1) (by omega)) (by omega) hay1 hgy34 rfl rfl mv_yX10_right q_1648 hd_yX10_right (by decide) (Nat.le_of_ble_eq_true rfl) (by decide) dX10_snow_24 rfl (kI0 fun vy36 gvy36 hvy36 => ?_)
    obtain ⟨hrvy36, ⟨Fvy36, hcvy36, htvy36, hFvy36⟩, hfvy36⟩ := hvy36
    obtain rfl : vy36 = 0 := by omega
    refine z_if_ne (tgt := 32) C dX10_snow_27 (by decide) (by omega) (fun h => absurd h (by omega)) (fun _ => ?_)
    refine z_iconst (z := 0) C dX10_snow_30 rfl ?_
    have hgy38 := up_n egy33 ha1 (ne_o (i := i) (c := 1) (d := 0) rfl)
    have hgy39 := (hfvy36 (i + 1) (ne_o (i := i) (c := 1) (d := 0) rfl)).trans hgy38
    have hFy40 : ∀ f, f ≠ 12 → Fvy36 f = F f := fun f n12 => ((hFvy36 f n12).trans ((uZ_n _ _ n12).trans rfl))
    have hey41 : Fvy36 13 = F 13 := ((hFvy36 13 (by decide)).trans (fn rfl (by decide)))
    have hey42 : Fvy36 14 = F 14 := ((hFvy36 14 (by decide)).trans (fn rfl (by decide)))
    have hey43 : Fvy36 15 = F 15 := ((hFvy36 15 (by decide)).trans (fn rfl (by decide)))
    have hey44 : Fvy36 16 = F 16 := ((hFvy36 16 (by decide)).trans (fn rfl (by decide)))
    have hey45 : Fvy36 17 = F 17 := ((hFvy36 17 (by decide)).trans (fn rfl (by decide)))
    have hey46 : Fvy36 18 = F 18 := ((hFvy36 18 (by decide)).trans (fn rfl (by decide)))
    have hey47 : Fvy36 19 = F 19 := ((hFvy36 19 (by decide)).trans (fn rfl (by decide)))
    have hey48 : Fvy36 20 = F 20 := ((hFvy36 20 (by decide)).trans (fn rfl (by decide)))
    have hey49 : Fvy36 23 = F 23 := ((hFvy36 23 (by decide)).trans (fn rfl (by decide)))
    have hey50 : Fvy36 25 = F 25 := ((hFvy36 25 (by decide)).trans (fn rfl (by decide)))
    have hey51 : Fvy36 27 = F 27 := ((hFvy36 27 (by decide)).trans (fn rfl (by decide)))
    have hey52 : Fvy36 28 = F 28 := ((hFvy36 28 (by decide)).trans (fn rfl (by decide)))
    have hey53 : Fvy36 29 = F 29 := ((hFvy36 29 (by decide)).trans (fn rfl (by decide)))
    have hKy54 : okF Fvy36 := by unfold okF; omega
    have hMy55 : okMr cs ad gvy36 i (x + 1) Fvy36 r := okMr.upd hM hcvy36 hKy54 (fun f a => hFy40 f (by omega)) hgy39 (hA.mono (by omega)) (fun j a b => by
        exact Or.inl (by rw [hfvy36 _ (by omega)]; rw [egy33, va_up_ne _ _ (by omega)]))
    have h23 : Fvy36 23 = F 23 := ((hFvy36 23 (by decide)).trans (fn rfl (by decide)))
    exact z_iret C hr hlk dX10_snow_31 (by decide) (by decide) ⟨0, rfl, rfl, rfl, by omega, ⟨_, _, hMy55, by omega⟩, fun j j1 => by rw [hfvy36 _ (by omega)]; rw [egy33, va_up_ne _ _ (by omega)]⟩
  · refine z_iload_n C 1 dX10_snow_10 rfl ?_
    refine z_aload_n C 0 dX10_snow_11 rfl ?_
    refine z_get (v := .int (zI (F 23))) C (by omega) hay1 hgy34 rfl inA_X10 23 (by decide) q_1482 rfl (fv (F := (uZ F 12 (0))) (f := 23) (fn rfl (by decide))) dX10_snow_12 ?_
    refine z_icmp_gt (tgt := 22) C dX10_snow_15 (by decide) (by omega) (by omega) (fun hby56 => ?_) (fun hby56 => ?_)
    · refine z_iconst (z := 0) C dX10_snow_22 rfl ?_
      refine z_iconst (z := 1) C dX10_snow_23 rfl ?_
      have hey58 : (uZ F 12 (0)) 12 = 0 := (uZ_s _ _ _)
      refine z_cV (As := [.int (zI (0)), .int (zI (1))]) (rest := []) (ci := 12) C (c_X10_right l D A cs tt N ad _ i hN _ hgy34 (by omega) (0) (by omega) (1) (by omega)) (by omega) hay1 hgy34 rfl rfl mv_yX10_right q_1648 hd_yX10_right (by decide) (Nat.le_of_ble_eq_true rfl) (by decide) dX10_snow_24 rfl (kI0 fun vy57 gvy57 hvy57 => ?_)
      obtain ⟨hrvy57, ⟨Fvy57, hcvy57, htvy57, hFvy57⟩, hfvy57⟩ := hvy57
      obtain rfl : vy57 = 0 := by omega
      refine z_if_ne (tgt := 32) C dX10_snow_27 (by decide) (by omega) (fun h => absurd h (by omega)) (fun _ => ?_)
      refine z_iconst (z := 0) C dX10_snow_30 rfl ?_
      have hgy59 := up_n egy33 ha1 (ne_o (i := i) (c := 1) (d := 0) rfl)
      have hgy60 := (hfvy57 (i + 1) (ne_o (i := i) (c := 1) (d := 0) rfl)).trans hgy59
      have hFy61 : ∀ f, f ≠ 12 → Fvy57 f = F f := fun f n12 => ((hFvy57 f n12).trans ((uZ_n _ _ n12).trans rfl))
      have hey62 : Fvy57 13 = F 13 := ((hFvy57 13 (by decide)).trans (fn rfl (by decide)))
      have hey63 : Fvy57 14 = F 14 := ((hFvy57 14 (by decide)).trans (fn rfl (by decide)))
      have hey64 : Fvy57 15 = F 15 := ((hFvy57 15 (by decide)).trans (fn rfl (by decide)))
      have hey65 : Fvy57 16 = F 16 := ((hFvy57 16 (by decide)).trans (fn rfl (by decide)))
      have hey66 : Fvy57 17 = F 17 := ((hFvy57 17 (by decide)).trans (fn rfl (by decide)))
      have hey67 : Fvy57 18 = F 18 := ((hFvy57 18 (by decide)).trans (fn rfl (by decide)))
      have hey68 : Fvy57 19 = F 19 := ((hFvy57 19 (by decide)).trans (fn rfl (by decide)))
      have hey69 : Fvy57 20 = F 20 := ((hFvy57 20 (by decide)).trans (fn rfl (by decide)))
      have hey70 : Fvy57 23 = F 23 := ((hFvy57 23 (by decide)).trans (fn rfl (by decide)))
      have hey71 : Fvy57 25 = F 25 := ((hFvy57 25 (by decide)).trans (fn rfl (by decide)))
      have hey72 : Fvy57 27 = F 27 := ((hFvy57 27 (by decide)).trans (fn rfl (by decide)))
      have hey73 : Fvy57 28 = F 28 := ((hFvy57 28 (by decide)).trans (fn rfl (by decide)))
      have hey74 : Fvy57 29 = F 29 := ((hFvy57 29 (by decide)).trans (fn rfl (by decide)))
      have hKy75 : okF Fvy57 := by unfold okF; omega
      have hMy76 : okMr cs ad gvy57 i (x + 1) Fvy57 r := okMr.upd hM hcvy57 hKy75 (fun f a => hFy61 f (by omega)) hgy60 (hA.mono (by omega)) (fun j a b => by
          exact Or.inl (by rw [hfvy57 _ (by omega)]; rw [egy33, va_up_ne _ _ (by omega)]))
      have h23 : Fvy57 23 = F 23 := ((hFvy57 23 (by decide)).trans (fn rfl (by decide)))
      exact z_iret C hr hlk dX10_snow_31 (by decide) (by decide) ⟨0, rfl, rfl, rfl, by omega, ⟨_, _, hMy76, by omega⟩, fun j j1 => by rw [hfvy57 _ (by omega)]; rw [egy33, va_up_ne _ _ (by omega)]⟩
    · refine z_iconst (z := 1) C dX10_snow_18 rfl ?_
      refine z_goto (tgt := 23) C dX10_snow_19 (by decide) ?_
      refine z_iconst (z := 1) C dX10_snow_23 rfl ?_
      have hey78 : (uZ F 12 (0)) 12 = 0 := (uZ_s _ _ _)
      refine z_cV (As := [.int (zI (1)), .int (zI (1))]) (rest := []) (ci := 12) C (c_X10_right l D A cs tt N ad _ i hN _ hgy34 (by omega) (1) (by omega) (1) (by omega)) (by omega) hay1 hgy34 rfl rfl mv_yX10_right q_1648 hd_yX10_right (by decide) (Nat.le_of_ble_eq_true rfl) (by decide) dX10_snow_24 rfl (kI0 fun vy77 gvy77 hvy77 => ?_)
      obtain ⟨hrvy77, ⟨Fvy77, hcvy77, htvy77, hFvy77⟩, hfvy77⟩ := hvy77
      rcases (show vy77 = 1 ∨ vy77 = 0 by omega) with rfl | rfl
      · refine z_if_ne (tgt := 32) C dX10_snow_27 (by decide) (by omega) (fun _ => ?_) (fun h => absurd h (by omega))
        refine z_aload_n C 0 dX10_snow_32 rfl ?_
        refine z_iconst (z := 0) C dX10_snow_33 rfl ?_
        refine z_put (fs' := mF ad (i) (uZ Fvy77 23 (0))) C (by omega) hay1 hcvy77 tyX10 tyX10_ok nmX10 rfl inA_X10 23 (by decide) q_1482 rfl rfl rfl rfl (Nat.le_of_ble_eq_true rfl) rfl dX10_snow_34 (fun gy79 egy80 => ?_)
        have hgy81 := up_s egy80
        refine z_aload_n C 0 dX10_snow_37 rfl ?_
        refine z_iload_n C 1 dX10_snow_38 rfl ?_
        refine z_put (fs' := mF ad (i) (uZ (uZ Fvy77 23 (0)) 34 (z))) C (by omega) hay1 hgy81 tyX10 tyX10_ok nmX10 rfl inA_X10 34 (by decide) q_1493 rfl rfl rfl rfl (Nat.le_of_ble_eq_true rfl) rfl dX10_snow_39 (fun gy82 egy83 => ?_)
        have hgy84 := up_s egy83
        refine z_aload_n C 0 dX10_snow_42 rfl ?_
        refine z_iconst (z := 0) C dX10_snow_43 rfl ?_
        refine z_put (fs' := mF ad (i) (uZ (uZ (uZ Fvy77 23 (0)) 34 (z)) 32 (0))) C (by omega) hay1 hgy84 tyX10 tyX10_ok nmX10 rfl inA_X10 32 (by decide) q_1491 rfl rfl rfl rfl (Nat.le_of_ble_eq_true rfl) rfl dX10_snow_44 (fun gy85 egy86 => ?_)
        have hgy87 := up_s egy86
        refine z_aload_n C 0 dX10_snow_47 rfl ?_
        refine z_iconst (z := 0) C dX10_snow_48 rfl ?_
        refine z_put (fs' := mF ad (i) (uZ (uZ (uZ (uZ Fvy77 23 (0)) 34 (z)) 32 (0)) 38 (0))) C (by omega) hay1 hgy87 tyX10 tyX10_ok nmX10 rfl inA_X10 38 (by decide) q_1497 rfl rfl rfl rfl (Nat.le_of_ble_eq_true rfl) rfl dX10_snow_49 (fun gy88 egy89 => ?_)
        have hgy90 := up_s egy89
        refine z_aload_n C 0 dX10_snow_52 rfl ?_
        refine z_iconst (z := -1) C dX10_snow_53 rfl ?_
        refine z_put (fs' := mF ad (i) (uZ (uZ (uZ (uZ (uZ Fvy77 23 (0)) 34 (z)) 32 (0)) 38 (0)) 24 (-1))) C (by omega) hay1 hgy90 tyX10 tyX10_ok nmX10 rfl inA_X10 24 (by decide) q_1483 rfl rfl rfl rfl (Nat.le_of_ble_eq_true rfl) rfl dX10_snow_54 (fun gy91 egy92 => ?_)
        have hgy93 := up_s egy92
        refine z_aload_n C 0 dX10_snow_57 rfl ?_
        refine z_aload_n C 0 dX10_snow_58 rfl ?_
        refine z_aload_n C 0 dX10_snow_59 rfl ?_
        refine z_iconst (z := 0) C dX10_snow_60 rfl ?_
        refine z_dup_x1 C dX10_snow_61 rfl rfl ?_
        refine z_put (fs' := mF ad (i) (uZ (uZ (uZ (uZ (uZ (uZ Fvy77 23 (0)) 34 (z)) 32 (0)) 38 (0)) 24 (-1)) 49 (0))) C (by omega) hay1 hgy93 tyX10 tyX10_ok nmX10 rfl inA_X10 49 (by decide) q_1508 rfl rfl rfl rfl (Nat.le_of_ble_eq_true rfl) rfl dX10_snow_62 (fun gy94 egy95 => ?_)
        have hgy96 := up_s egy95
        refine z_dup_x1 C dX10_snow_65 rfl rfl ?_
        refine z_put (fs' := mF ad (i) (uZ (uZ (uZ (uZ (uZ (uZ (uZ Fvy77 23 (0)) 34 (z)) 32 (0)) 38 (0)) 24 (-1)) 49 (0)) 48 (0))) C (by omega) hay1 hgy96 tyX10 tyX10_ok nmX10 rfl inA_X10 48 (by decide) q_1507 rfl rfl rfl rfl (Nat.le_of_ble_eq_true rfl) rfl dX10_snow_66 (fun gy97 egy98 => ?_)
        have hgy99 := up_s egy98
        refine z_put (fs' := mF ad (i) (uZ (uZ (uZ (uZ (uZ (uZ (uZ (uZ Fvy77 23 (0)) 34 (z)) 32 (0)) 38 (0)) 24 (-1)) 49 (0)) 48 (0)) 47 (0))) C (by omega) hay1 hgy99 tyX10 tyX10_ok nmX10 rfl inA_X10 47 (by decide) q_1506 rfl rfl rfl rfl (Nat.le_of_ble_eq_true rfl) rfl dX10_snow_69 (fun gy100 egy101 => ?_)
        have hgy102 := up_s egy101
        refine z_iconst (z := 0) C dX10_snow_72 rfl ?_
        refine z_istore_n (lv' := [(2, .int (zI (0))), (0, .ref (ad i)), (1, .int (zI (z)))]) C dX10_snow_73 rfl (by decide) rfl ?_
        have A : ∀ (n9 : Nat) (ka : Int) (t9 : Nat → Int) (g1 : Nat → va_E), (16 - ka).toNat = n9 → (g1 (i + 22) = iA cs 15 t9) → (∀ j, j ≠ i + 22 → g1 j = gy100 j) → (∀ k, k < 15 → t9 k = -1 ∨ ((0 ≤ t9 k ∧ t9 k ≤ 9999) ∧ (10 ≤ k → 1 ≤ t9 k))) → (0 ≤ ka ∧ ka ≤ 15) → zV pZ l eZ ({ frames := 8, cells := 0, slots := 0, locals := 480 } : Room) sZ mZ ([.ref (ad i), .int (zI (z))] : List Value).toArray below meth cZ (MQ below (zPost D A (rI0 N ad fun q g' => (0 ≤ q ∧ q ≤ 5) ∧ (∃ F' r' : Nat → Int, okMr cs ad g' i (x + 1) F' r' ∧ ((0 ≤ z ∧ z ≤ F 23 ∧ F' 23 = 0) ∨ ((z < 0 ∨ F 23 < z) ∧ F' 23 = F 23))) ∧ ∀ j, j < i ∨ i + 30 ≤ j → g' j = g j)) ([.ref (ad i), .int (zI (z))] : List Value).toArray sZ ({ frames := 8, cells := 0, slots := 0, locals := 480 } : Room).cells ({ frames := 8, cells := 0, slots := 0, locals := 480 } : Room).slots A) D A 3 (N) ad g1 (0) (0) 74 [(0, .ref (ad i)), (1, .int (zI (z))), (2, .int (zI (ka)))] [] := by
          intro n9
          induction n9 using Nat.strongRecOn with
          | ind n9 ih_A =>
            intro ka t9 g1 hm9 f2A_t9 f3A fTa hvkA
            obtain ⟨nkA, hnkA⟩ : ∃ n9 : Nat, ka = (n9 : Int) := ⟨ka.toNat, by omega⟩
            refine z_iload_n C 2 dX10_snow_74 rfl ?_
            refine z_bipush (z := 15) C dX10_snow_75 (by decide) ?_
            refine z_icmp_ge (tgt := 93) C dX10_snow_77 (by decide) (by omega) (by omega) (fun hby103 => ?_) (fun hby103 => ?_)
            · refine z_aload_n C 0 dX10_snow_93 rfl ?_
              have hgy104 := (f3A (i) (ne_o (i := i) (c := 0) (d := 22) rfl)).trans hgy102
              have hgy105 := up_n egy33 ha13 (ne_o (i := i) (c := 13) (d := 0) rfl)
              have hgy106 := (hfvy77 (i + 13) (ne_o (i := i) (c := 13) (d := 0) rfl)).trans hgy105
              have hgy107 := up_n egy80 hgy106 (ne_o (i := i) (c := 13) (d := 0) rfl)
              have hgy108 := up_n egy83 hgy107 (ne_o (i := i) (c := 13) (d := 0) rfl)
              have hgy109 := up_n egy86 hgy108 (ne_o (i := i) (c := 13) (d := 0) rfl)
              have hgy110 := up_n egy89 hgy109 (ne_o (i := i) (c := 13) (d := 0) rfl)
              have hgy111 := up_n egy92 hgy110 (ne_o (i := i) (c := 13) (d := 0) rfl)
              have hgy112 := up_n egy95 hgy111 (ne_o (i := i) (c := 13) (d := 0) rfl)
              have hgy113 := up_n egy98 hgy112 (ne_o (i := i) (c := 13) (d := 0) rfl)
              have hgy114 := up_n egy101 hgy113 (ne_o (i := i) (c := 13) (d := 0) rfl)
              have hgy115 := (f3A (i + 13) (ne_o (i := i) (c := 13) (d := 22) rfl)).trans hgy114
              refine z_cV (As := []) (rest := []) (ci := 12) C (c_X10_go l D A cs tt N ad _ i hN _ hgy104 _ hgy115 htp (RD.put (RD.put (RD.put (RD.put (RD.put (RD.put (RD.put (RD.put hRD (by decide)) (by decide)) (by decide)) (by decide)) (by decide)) (by decide)) (by decide)) (by decide))) (by omega) hay1 hgy104 rfl rfl mv_yX10_go q_1652 hd_yX10_go (by decide) (Nat.le_of_ble_eq_true rfl) (by decide) dX10_snow_94 rfl (kV0 fun gvy116 hvy116 => ?_)
              obtain ⟨⟨Fvy116, hcvy116, hdvy116, hlvy116, hsvy116, hFvy116⟩, hfvy116⟩ := hvy116
              rw [show (uZ (uZ (uZ (uZ (uZ (uZ (uZ (uZ Fvy77 23 (0)) 34 (z)) 32 (0)) 38 (0)) 24 (-1)) 49 (0)) 48 (0)) 47 (0)) 32 = 0 from (fn (fn (fn (fn (fn (uZ_s _ _ _) (by decide)) (by decide)) (by decide)) (by decide)) (by decide))] at hlvy116 hsvy116
              have h34vy116 : Fvy116 34 = z := (hFvy116 34 (by decide) (by decide) (by decide) (by decide) (by decide)).trans ((fn (fn (fn (fn (fn (fn (uZ_s _ _ _) (by decide)) (by decide)) (by decide)) (by decide)) (by decide)) (by decide)))
              obtain ⟨d32vy116, -, d35vy116, d36vy116, -, d37vy116, d38vy116⟩ := id hdvy116
              have h38vy116 : Fvy116 38 = 0 := ((hFvy116 38 (by decide) (by decide) (by decide) (by decide) (by decide)).trans (fn (fn (fn (fn (uZ_s _ _ _) (by decide)) (by decide)) (by decide)) (by decide)))
              have L : ∀ (n9 : Nat) (mu : Int) (F9 : Nat → Int) (g1 : Nat → va_E), (mu).toNat = n9 → (g1 i = mC ad i F9) → (RD F9) → (okTx cs g1 i F9) → ((∀ f, f ≠ 12 → f ≠ 23 → f ≠ 24 → f ≠ 32 → f ≠ 33 → f ≠ 34 → f ≠ 35 → f ≠ 36 → f ≠ 37 → f ≠ 38 → f ≠ 47 → f ≠ 48 → f ≠ 49 → F9 f = F f)) → (∀ j, j ≠ i → j < i + 16 ∨ i + 23 < j → g1 j = g j) → ((F9 38 = 0 ∧ mu = 901 - F9 32) ∨ (F9 38 ≠ 0 ∧ mu = 0)) → (F9 23 = 0 ∧ 0 ≤ z ∧ z ≤ F 23) → zV pZ l eZ ({ frames := 8, cells := 0, slots := 0, locals := 480 } : Room) sZ mZ ([.ref (ad i), .int (zI (z))] : List Value).toArray below meth cZ (MQ below (zPost D A (rI0 N ad fun q g' => (0 ≤ q ∧ q ≤ 5) ∧ (∃ F' r' : Nat → Int, okMr cs ad g' i (x + 1) F' r' ∧ ((0 ≤ z ∧ z ≤ F 23 ∧ F' 23 = 0) ∨ ((z < 0 ∨ F 23 < z) ∧ F' 23 = F 23))) ∧ ∀ j, j < i ∨ i + 30 ≤ j → g' j = g j)) ([.ref (ad i), .int (zI (z))] : List Value).toArray sZ ({ frames := 8, cells := 0, slots := 0, locals := 480 } : Room).cells ({ frames := 8, cells := 0, slots := 0, locals := 480 } : Room).slots A) D A 3 (N) ad g1 (0) (0) 97 [(0, .ref (ad i)), (1, .int (zI (z)))] [] := by
                intro n9
                induction n9 using Nat.strongRecOn with
                | ind n9 ih_L =>
                  intro mu F9 g1 hm9 f2L fRL fTL fF f3L hmu hs23
                  have hay117 : zAt ad (i) (ad i) := rfl
                  have hay118 : zAt ad (i + 1) (ad (i + 1)) := rfl
                  have hay119 : zAt ad (i + 2) (ad (i + 2)) := rfl
                  have hay120 : zAt ad (i + 3) (ad (i + 3)) := rfl
                  have hay121 : zAt ad (i + 4) (ad (i + 4)) := rfl
                  have hay122 : zAt ad (i + 5) (ad (i + 5)) := rfl
                  have hay123 : zAt ad (i + 6) (ad (i + 6)) := rfl
                  have hay124 : zAt ad (i + 7) (ad (i + 7)) := rfl
                  have hay125 : zAt ad (i + 8) (ad (i + 8)) := rfl
                  have hay126 : zAt ad (i + 9) (ad (i + 9)) := rfl
                  have hay127 : zAt ad (i + 10) (ad (i + 10)) := rfl
                  have hay128 : zAt ad (i + 11) (ad (i + 11)) := rfl
                  have hay129 : zAt ad (i + 12) (ad (i + 12)) := rfl
                  have hay130 : zAt ad (i + 13) (ad (i + 13)) := rfl
                  have hay131 : zAt ad (i + 14) (ad (i + 14)) := rfl
                  have hay132 : zAt ad (i + 15) (ad (i + 15)) := rfl
                  have hay133 : zAt ad (i + 24) (ad (i + 24)) := rfl
                  have hay134 : zAt ad (i + 25) (ad (i + 25)) := rfl
                  have hay135 : zAt ad (i + 26) (ad (i + 26)) := rfl
                  have hay136 : zAt ad (i + 27) (ad (i + 27)) := rfl
                  have hay137 : zAt ad (i + 28) (ad (i + 28)) := rfl
                  have hay138 : zAt ad (i + 29) (ad (i + 29)) := rfl
                  obtain ⟨d32L, -, d35L, d36L, -, d37L, d38L⟩ := id fRL
                  refine z_aload_n C 0 dX10_snow_97 rfl ?_
                  refine z_get (v := .int (zI (F9 38))) C (by omega) hay117 f2L rfl inA_X10 38 (by decide) q_1497 rfl (fv (F := F9) (f := 38) rfl) dX10_snow_98 ?_
                  refine z_if_ne (tgt := 159) C dX10_snow_101 (by decide) (by omega) (fun hby139 => ?_) (fun hby139 => ?_)
                  · refine z_aload_n C 0 dX10_snow_159 rfl ?_
                    refine z_get (v := .int (zI (F9 38))) C (by omega) hay117 f2L rfl inA_X10 38 (by decide) q_1497 rfl (fv (F := F9) (f := 38) rfl) dX10_snow_160 ?_
                    refine z_if_eq (tgt := 181) C dX10_snow_163 (by decide) (by omega) (fun hby140 => ?_) (fun hby140 => ?_)
                    · refine z_aload_n C 0 dX10_snow_181 rfl ?_
                      have hey141 : F9 13 = F 13 := (fF 13 (by decide) (by decide) (by decide) (by decide) (by decide) (by decide) (by decide) (by decide) (by decide) (by decide) (by decide) (by decide) (by decide))
                      have hey142 : F9 14 = F 14 := (fF 14 (by decide) (by decide) (by decide) (by decide) (by decide) (by decide) (by decide) (by decide) (by decide) (by decide) (by decide) (by decide) (by decide))
                      have hey143 : F9 15 = F 15 := (fF 15 (by decide) (by decide) (by decide) (by decide) (by decide) (by decide) (by decide) (by decide) (by decide) (by decide) (by decide) (by decide) (by decide))
                      have hey144 : F9 16 = F 16 := (fF 16 (by decide) (by decide) (by decide) (by decide) (by decide) (by decide) (by decide) (by decide) (by decide) (by decide) (by decide) (by decide) (by decide))
                      have hey145 : F9 17 = F 17 := (fF 17 (by decide) (by decide) (by decide) (by decide) (by decide) (by decide) (by decide) (by decide) (by decide) (by decide) (by decide) (by decide) (by decide))
                      have hey146 : F9 18 = F 18 := (fF 18 (by decide) (by decide) (by decide) (by decide) (by decide) (by decide) (by decide) (by decide) (by decide) (by decide) (by decide) (by decide) (by decide))
                      have hey147 : F9 19 = F 19 := (fF 19 (by decide) (by decide) (by decide) (by decide) (by decide) (by decide) (by decide) (by decide) (by decide) (by decide) (by decide) (by decide) (by decide))
                      have hey148 : F9 20 = F 20 := (fF 20 (by decide) (by decide) (by decide) (by decide) (by decide) (by decide) (by decide) (by decide) (by decide) (by decide) (by decide) (by decide) (by decide))
                      have hey149 : F9 23 = F9 23 := rfl
                      have hey150 : F9 25 = F 25 := (fF 25 (by decide) (by decide) (by decide) (by decide) (by decide) (by decide) (by decide) (by decide) (by decide) (by decide) (by decide) (by decide) (by decide))
                      have hey151 : F9 27 = F 27 := (fF 27 (by decide) (by decide) (by decide) (by decide) (by decide) (by decide) (by decide) (by decide) (by decide) (by decide) (by decide) (by decide) (by decide))
                      have hey152 : F9 28 = F 28 := (fF 28 (by decide) (by decide) (by decide) (by decide) (by decide) (by decide) (by decide) (by decide) (by decide) (by decide) (by decide) (by decide) (by decide))
                      have hey153 : F9 29 = F 29 := (fF 29 (by decide) (by decide) (by decide) (by decide) (by decide) (by decide) (by decide) (by decide) (by decide) (by decide) (by decide) (by decide) (by decide))
                      have hey154 : F9 32 = F9 32 := rfl
                      have hey155 : F9 34 = F9 34 := rfl
                      have hey156 : F9 35 = F9 35 := rfl
                      have hey157 : F9 36 = F9 36 := rfl
                      have hey158 : F9 37 = F9 37 := rfl
                      have hey159 : F9 38 = F9 38 := rfl
                      have hey160 : F9 47 = F9 47 := rfl
                      have hey161 : F9 48 = F9 48 := rfl
                      have hey162 : F9 49 = F9 49 := rfl
                      have hKy163 : okF F9 := by unfold okF; omega
                      have hMy164 : okMr cs ad g1 i x F9 r := okMr.upd2 hM f2L hKy163 fRL fTL ((f3L _ (by omega) (by omega)).trans ha1) hA (fun j a b c => by
                          exact Or.inl (by rw [f3L _ (by omega) (by omega)]))
                      refine z_cV (As := []) (rest := []) (ci := 12) C (c_X10_becomes l D A cs tt N ad _ i hN x hx _ _ hMy164) (by omega) hay117 f2L rfl rfl mv_yX10_becomes q_1713 hd_yX10_becomes (by decide) (Nat.le_of_ble_eq_true rfl) (by decide) dX10_snow_182 rfl (kV0 fun gvy165 hvy165 => ?_)
                      obtain ⟨⟨Fvy165, rvy165, hMvy165, h23vy165⟩, hfvy165⟩ := hvy165
                      refine z_iconst (z := 0) C dX10_snow_185 rfl ?_
                      have hMx : okMr cs ad gvy165 i (x + 1) Fvy165 rvy165 := okMr.mono hMvy165 (by omega)
                      exact z_iret C hr hlk dX10_snow_186 (by decide) (by decide) ⟨0, rfl, rfl, rfl, by omega, ⟨_, _, hMx, by omega⟩, fun j j1 => by rw [hfvy165 _ (by omega)]; rw [f3L _ (by omega) (by omega)]⟩
                    · refine z_aload_n C 0 dX10_snow_166 rfl ?_
                      refine z_get (v := .ref (ad (i + 11))) C (by omega) hay117 f2L rfl inA_X10 10 (by decide) q_1469 rfl rfl dX10_snow_167 ?_
                      refine z_iconst (z := 0) C dX10_snow_170 rfl ?_
                      refine z_dup2 C dX10_snow_171 rfl rfl ?_
                      refine z_iald C (by omega) hay128 ((f3L _ (by omega) (by omega)).trans ha11) (0) (by omega) (by omega) (by decide) dX10_snow_172 ?_
                      refine z_iconst (z := 1) C dX10_snow_173 rfl ?_
                      refine z_iadd C dX10_snow_174 ?_
                      refine z_iast C (by omega) hay128 ((f3L _ (by omega) (by omega)).trans ha11) (0) (by omega) (by omega) (by decide) dX10_snow_175 (fun gy166 egy167 => ?_)
                      have hgy168 := up_s egy167
                      refine z_aload_n C 0 dX10_snow_176 rfl ?_
                      have hgy169 := up_n egy167 f2L (ne_o (i := i) (c := 0) (d := 11) rfl)
                      refine z_get (v := .int (zI (F9 38))) C (by omega) hay117 hgy169 rfl inA_X10 38 (by decide) q_1497 rfl (fv (F := F9) (f := 38) rfl) dX10_snow_177 ?_
                      have hey170 : F9 13 = F 13 := (fF 13 (by decide) (by decide) (by decide) (by decide) (by decide) (by decide) (by decide) (by decide) (by decide) (by decide) (by decide) (by decide) (by decide))
                      have hey171 : F9 14 = F 14 := (fF 14 (by decide) (by decide) (by decide) (by decide) (by decide) (by decide) (by decide) (by decide) (by decide) (by decide) (by decide) (by decide) (by decide))
                      have hey172 : F9 15 = F 15 := (fF 15 (by decide) (by decide) (by decide) (by decide) (by decide) (by decide) (by decide) (by decide) (by decide) (by decide) (by decide) (by decide) (by decide))
                      have hey173 : F9 16 = F 16 := (fF 16 (by decide) (by decide) (by decide) (by decide) (by decide) (by decide) (by decide) (by decide) (by decide) (by decide) (by decide) (by decide) (by decide))
                      have hey174 : F9 17 = F 17 := (fF 17 (by decide) (by decide) (by decide) (by decide) (by decide) (by decide) (by decide) (by decide) (by decide) (by decide) (by decide) (by decide) (by decide))
                      have hey175 : F9 18 = F 18 := (fF 18 (by decide) (by decide) (by decide) (by decide) (by decide) (by decide) (by decide) (by decide) (by decide) (by decide) (by decide) (by decide) (by decide))
                      have hey176 : F9 19 = F 19 := (fF 19 (by decide) (by decide) (by decide) (by decide) (by decide) (by decide) (by decide) (by decide) (by decide) (by decide) (by decide) (by decide) (by decide))
                      have hey177 : F9 20 = F 20 := (fF 20 (by decide) (by decide) (by decide) (by decide) (by decide) (by decide) (by decide) (by decide) (by decide) (by decide) (by decide) (by decide) (by decide))
                      have hey178 : F9 23 = F9 23 := rfl
                      have hey179 : F9 25 = F 25 := (fF 25 (by decide) (by decide) (by decide) (by decide) (by decide) (by decide) (by decide) (by decide) (by decide) (by decide) (by decide) (by decide) (by decide))
                      have hey180 : F9 27 = F 27 := (fF 27 (by decide) (by decide) (by decide) (by decide) (by decide) (by decide) (by decide) (by decide) (by decide) (by decide) (by decide) (by decide) (by decide))
                      have hey181 : F9 28 = F 28 := (fF 28 (by decide) (by decide) (by decide) (by decide) (by decide) (by decide) (by decide) (by decide) (by decide) (by decide) (by decide) (by decide) (by decide))
                      have hey182 : F9 29 = F 29 := (fF 29 (by decide) (by decide) (by decide) (by decide) (by decide) (by decide) (by decide) (by decide) (by decide) (by decide) (by decide) (by decide) (by decide))
                      have hey183 : F9 32 = F9 32 := rfl
                      have hey184 : F9 34 = F9 34 := rfl
                      have hey185 : F9 35 = F9 35 := rfl
                      have hey186 : F9 36 = F9 36 := rfl
                      have hey187 : F9 37 = F9 37 := rfl
                      have hey188 : F9 38 = F9 38 := rfl
                      have hey189 : F9 47 = F9 47 := rfl
                      have hey190 : F9 48 = F9 48 := rfl
                      have hey191 : F9 49 = F9 49 := rfl
                      have hKy192 : okF F9 := by unfold okF; omega
                      have htxy193 : okTx cs gy166 i F9 := fTL.mv (fun j a b => by rw [egy167, va_up_ne _ _ (by omega)]) ⟨by omega, by omega, by omega, by omega⟩
                      have hgy194 := up_n egy167 ((f3L _ (by omega) (by omega)).trans ha1) (ne_o (i := i) (c := 1) (d := 11) rfl)
                      have hMy195 : okMr cs ad gy166 i x F9 r := okMr.upd2 hM hgy169 hKy192 fRL htxy193 hgy194 hA (fun j a b c => by
                          by_cases e0 : j = i + 11
                          · exact Or.inr ⟨11, _, e0, lsP.l (by decide), by rw [e0]; exact hgy168⟩
                          exact Or.inl (by rw [egy167, va_up_ne _ _ (by omega)]; rw [f3L _ (by omega) (by omega)]))
                      have hMx := okMr.mono (y := x + 1) hMy195 (by omega)
                      exact z_iret C hr hlk dX10_snow_180 (by decide) (by decide) ⟨F9 38, rfl, rfl, rfl, by omega, ⟨_, _, hMx, by omega⟩, fun j j1 => by rw [egy167, va_up_ne _ _ (by omega)]; rw [f3L _ (by omega) (by omega)]⟩
                  · refine z_aload_n C 0 dX10_snow_104 rfl ?_
                    refine z_get (v := .int (zI (F9 35))) C (by omega) hay117 f2L rfl inA_X10 35 (by decide) q_1494 rfl (fv (F := F9) (f := 35) rfl) dX10_snow_105 ?_
                    refine z_if_eq (tgt := 159) C dX10_snow_108 (by decide) (by omega) (fun hby196 => ?_) (fun hby196 => ?_)
                    · refine z_aload_n C 0 dX10_snow_159 rfl ?_
                      refine z_get (v := .int (zI (F9 38))) C (by omega) hay117 f2L rfl inA_X10 38 (by decide) q_1497 rfl (fv (F := F9) (f := 38) rfl) dX10_snow_160 ?_
                      refine z_if_eq (tgt := 181) C dX10_snow_163 (by decide) (by omega) (fun hby197 => ?_) (fun hby197 => ?_)
                      · refine z_aload_n C 0 dX10_snow_181 rfl ?_
                        have hey198 : F9 13 = F 13 := (fF 13 (by decide) (by decide) (by decide) (by decide) (by decide) (by decide) (by decide) (by decide) (by decide) (by decide) (by decide) (by decide) (by decide))
                        have hey199 : F9 14 = F 14 := (fF 14 (by decide) (by decide) (by decide) (by decide) (by decide) (by decide) (by decide) (by decide) (by decide) (by decide) (by decide) (by decide) (by decide))
                        have hey200 : F9 15 = F 15 := (fF 15 (by decide) (by decide) (by decide) (by decide) (by decide) (by decide) (by decide) (by decide) (by decide) (by decide) (by decide) (by decide) (by decide))
                        have hey201 : F9 16 = F 16 := (fF 16 (by decide) (by decide) (by decide) (by decide) (by decide) (by decide) (by decide) (by decide) (by decide) (by decide) (by decide) (by decide) (by decide))
                        have hey202 : F9 17 = F 17 := (fF 17 (by decide) (by decide) (by decide) (by decide) (by decide) (by decide) (by decide) (by decide) (by decide) (by decide) (by decide) (by decide) (by decide))
                        have hey203 : F9 18 = F 18 := (fF 18 (by decide) (by decide) (by decide) (by decide) (by decide) (by decide) (by decide) (by decide) (by decide) (by decide) (by decide) (by decide) (by decide))
                        have hey204 : F9 19 = F 19 := (fF 19 (by decide) (by decide) (by decide) (by decide) (by decide) (by decide) (by decide) (by decide) (by decide) (by decide) (by decide) (by decide) (by decide))
                        have hey205 : F9 20 = F 20 := (fF 20 (by decide) (by decide) (by decide) (by decide) (by decide) (by decide) (by decide) (by decide) (by decide) (by decide) (by decide) (by decide) (by decide))
                        have hey206 : F9 23 = F9 23 := rfl
                        have hey207 : F9 25 = F 25 := (fF 25 (by decide) (by decide) (by decide) (by decide) (by decide) (by decide) (by decide) (by decide) (by decide) (by decide) (by decide) (by decide) (by decide))
                        have hey208 : F9 27 = F 27 := (fF 27 (by decide) (by decide) (by decide) (by decide) (by decide) (by decide) (by decide) (by decide) (by decide) (by decide) (by decide) (by decide) (by decide))
                        have hey209 : F9 28 = F 28 := (fF 28 (by decide) (by decide) (by decide) (by decide) (by decide) (by decide) (by decide) (by decide) (by decide) (by decide) (by decide) (by decide) (by decide))
                        have hey210 : F9 29 = F 29 := (fF 29 (by decide) (by decide) (by decide) (by decide) (by decide) (by decide) (by decide) (by decide) (by decide) (by decide) (by decide) (by decide) (by decide))
                        have hey211 : F9 32 = F9 32 := rfl
                        have hey212 : F9 34 = F9 34 := rfl
                        have hey213 : F9 35 = F9 35 := rfl
                        have hey214 : F9 36 = F9 36 := rfl
                        have hey215 : F9 37 = F9 37 := rfl
                        have hey216 : F9 38 = F9 38 := rfl
                        have hey217 : F9 47 = F9 47 := rfl
                        have hey218 : F9 48 = F9 48 := rfl
                        have hey219 : F9 49 = F9 49 := rfl
                        have hKy220 : okF F9 := by unfold okF; omega
                        have hMy221 : okMr cs ad g1 i x F9 r := okMr.upd2 hM f2L hKy220 fRL fTL ((f3L _ (by omega) (by omega)).trans ha1) hA (fun j a b c => by
                            exact Or.inl (by rw [f3L _ (by omega) (by omega)]))
                        refine z_cV (As := []) (rest := []) (ci := 12) C (c_X10_becomes l D A cs tt N ad _ i hN x hx _ _ hMy221) (by omega) hay117 f2L rfl rfl mv_yX10_becomes q_1713 hd_yX10_becomes (by decide) (Nat.le_of_ble_eq_true rfl) (by decide) dX10_snow_182 rfl (kV0 fun gvy222 hvy222 => ?_)
                        obtain ⟨⟨Fvy222, rvy222, hMvy222, h23vy222⟩, hfvy222⟩ := hvy222
                        refine z_iconst (z := 0) C dX10_snow_185 rfl ?_
                        have hMx : okMr cs ad gvy222 i (x + 1) Fvy222 rvy222 := okMr.mono hMvy222 (by omega)
                        exact z_iret C hr hlk dX10_snow_186 (by decide) (by decide) ⟨0, rfl, rfl, rfl, by omega, ⟨_, _, hMx, by omega⟩, fun j j1 => by rw [hfvy222 _ (by omega)]; rw [f3L _ (by omega) (by omega)]⟩
                      · refine z_aload_n C 0 dX10_snow_166 rfl ?_
                        refine z_get (v := .ref (ad (i + 11))) C (by omega) hay117 f2L rfl inA_X10 10 (by decide) q_1469 rfl rfl dX10_snow_167 ?_
                        refine z_iconst (z := 0) C dX10_snow_170 rfl ?_
                        refine z_dup2 C dX10_snow_171 rfl rfl ?_
                        refine z_iald C (by omega) hay128 ((f3L _ (by omega) (by omega)).trans ha11) (0) (by omega) (by omega) (by decide) dX10_snow_172 ?_
                        refine z_iconst (z := 1) C dX10_snow_173 rfl ?_
                        refine z_iadd C dX10_snow_174 ?_
                        refine z_iast C (by omega) hay128 ((f3L _ (by omega) (by omega)).trans ha11) (0) (by omega) (by omega) (by decide) dX10_snow_175 (fun gy223 egy224 => ?_)
                        have hgy225 := up_s egy224
                        refine z_aload_n C 0 dX10_snow_176 rfl ?_
                        have hgy226 := up_n egy224 f2L (ne_o (i := i) (c := 0) (d := 11) rfl)
                        refine z_get (v := .int (zI (F9 38))) C (by omega) hay117 hgy226 rfl inA_X10 38 (by decide) q_1497 rfl (fv (F := F9) (f := 38) rfl) dX10_snow_177 ?_
                        have hey227 : F9 13 = F 13 := (fF 13 (by decide) (by decide) (by decide) (by decide) (by decide) (by decide) (by decide) (by decide) (by decide) (by decide) (by decide) (by decide) (by decide))
                        have hey228 : F9 14 = F 14 := (fF 14 (by decide) (by decide) (by decide) (by decide) (by decide) (by decide) (by decide) (by decide) (by decide) (by decide) (by decide) (by decide) (by decide))
                        have hey229 : F9 15 = F 15 := (fF 15 (by decide) (by decide) (by decide) (by decide) (by decide) (by decide) (by decide) (by decide) (by decide) (by decide) (by decide) (by decide) (by decide))
                        have hey230 : F9 16 = F 16 := (fF 16 (by decide) (by decide) (by decide) (by decide) (by decide) (by decide) (by decide) (by decide) (by decide) (by decide) (by decide) (by decide) (by decide))
                        have hey231 : F9 17 = F 17 := (fF 17 (by decide) (by decide) (by decide) (by decide) (by decide) (by decide) (by decide) (by decide) (by decide) (by decide) (by decide) (by decide) (by decide))
                        have hey232 : F9 18 = F 18 := (fF 18 (by decide) (by decide) (by decide) (by decide) (by decide) (by decide) (by decide) (by decide) (by decide) (by decide) (by decide) (by decide) (by decide))
                        have hey233 : F9 19 = F 19 := (fF 19 (by decide) (by decide) (by decide) (by decide) (by decide) (by decide) (by decide) (by decide) (by decide) (by decide) (by decide) (by decide) (by decide))
                        have hey234 : F9 20 = F 20 := (fF 20 (by decide) (by decide) (by decide) (by decide) (by decide) (by decide) (by decide) (by decide) (by decide) (by decide) (by decide) (by decide) (by decide))
                        have hey235 : F9 23 = F9 23 := rfl
                        have hey236 : F9 25 = F 25 := (fF 25 (by decide) (by decide) (by decide) (by decide) (by decide) (by decide) (by decide) (by decide) (by decide) (by decide) (by decide) (by decide) (by decide))
                        have hey237 : F9 27 = F 27 := (fF 27 (by decide) (by decide) (by decide) (by decide) (by decide) (by decide) (by decide) (by decide) (by decide) (by decide) (by decide) (by decide) (by decide))
                        have hey238 : F9 28 = F 28 := (fF 28 (by decide) (by decide) (by decide) (by decide) (by decide) (by decide) (by decide) (by decide) (by decide) (by decide) (by decide) (by decide) (by decide))
                        have hey239 : F9 29 = F 29 := (fF 29 (by decide) (by decide) (by decide) (by decide) (by decide) (by decide) (by decide) (by decide) (by decide) (by decide) (by decide) (by decide) (by decide))
                        have hey240 : F9 32 = F9 32 := rfl
                        have hey241 : F9 34 = F9 34 := rfl
                        have hey242 : F9 35 = F9 35 := rfl
                        have hey243 : F9 36 = F9 36 := rfl
                        have hey244 : F9 37 = F9 37 := rfl
                        have hey245 : F9 38 = F9 38 := rfl
                        have hey246 : F9 47 = F9 47 := rfl
                        have hey247 : F9 48 = F9 48 := rfl
                        have hey248 : F9 49 = F9 49 := rfl
                        have hKy249 : okF F9 := by unfold okF; omega
                        have htxy250 : okTx cs gy223 i F9 := fTL.mv (fun j a b => by rw [egy224, va_up_ne _ _ (by omega)]) ⟨by omega, by omega, by omega, by omega⟩
                        have hgy251 := up_n egy224 ((f3L _ (by omega) (by omega)).trans ha1) (ne_o (i := i) (c := 1) (d := 11) rfl)
                        have hMy252 : okMr cs ad gy223 i x F9 r := okMr.upd2 hM hgy226 hKy249 fRL htxy250 hgy251 hA (fun j a b c => by
                            by_cases e0 : j = i + 11
                            · exact Or.inr ⟨11, _, e0, lsP.l (by decide), by rw [e0]; exact hgy225⟩
                            exact Or.inl (by rw [egy224, va_up_ne _ _ (by omega)]; rw [f3L _ (by omega) (by omega)]))
                        have hMx := okMr.mono (y := x + 1) hMy252 (by omega)
                        exact z_iret C hr hlk dX10_snow_180 (by decide) (by decide) ⟨F9 38, rfl, rfl, rfl, by omega, ⟨_, _, hMx, by omega⟩, fun j j1 => by rw [egy224, va_up_ne _ _ (by omega)]; rw [f3L _ (by omega) (by omega)]⟩
                    · refine z_aload_n C 0 dX10_snow_111 rfl ?_
                      have hb0 : F9 38 = 0 := by omega
                      have hey254 : F9 32 = F9 32 := rfl
                      have hey255 : F9 35 = F9 35 := rfl
                      have hey256 : F9 37 = F9 37 := rfl
                      have hey257 : F9 47 = F9 47 := rfl
                      have hey258 : F9 48 = F9 48 := rfl
                      have hey259 : F9 49 = F9 49 := rfl
                      refine z_cV (As := []) (rest := []) (ci := 12) C (c_X10_clause1 l D A cs tt N ad _ i hN _ f2L _ ((f3L _ (by omega) (by omega)).trans ha13) htp fRL hb0 fTL (by omega)) (by omega) hay117 f2L rfl rfl mv_yX10_clause1 q_1670 hd_yX10_clause1 (by decide) (Nat.le_of_ble_eq_true rfl) (by decide) dX10_snow_112 rfl (kV0 fun gvy253 hvy253 => ?_)
                      obtain ⟨⟨Fvy253, hcvy253, hdvy253, hlvy253, hsvy253, hFvy253, hxvy253⟩, hfvy253⟩ := hvy253
                      have h34vy253 : Fvy253 34 = F9 34 := (hFvy253 34 (by decide) (by decide) (by decide) (by decide) (by decide) (by decide) (by decide) (by decide) (by decide) (by decide)).trans (rfl)
                      obtain ⟨d32vy253, d33vy253, d35vy253, d36vy253, d2vy253, d37vy253, d38vy253⟩ := id hdvy253
                      rcases (show Fvy253 38 = 0 ∨ Fvy253 38 ≠ 0 by omega) with hxxFvy253 | hxxFvy253
                      · have hppFvy253 := hsvy253 hxxFvy253
                        refine z_aload_n C 0 dX10_snow_115 rfl ?_
                        refine z_get (v := .int (zI (0))) C (by omega) hay117 hcvy253 rfl inA_X10 38 (by decide) q_1497 rfl (fv (F := Fvy253) (f := 38) hxxFvy253) dX10_snow_116 ?_
                        refine z_if_ne (tgt := 97) C dX10_snow_119 (by decide) (by omega) (fun h => absurd h (by omega)) (fun _ => ?_)
                        refine z_aload_n C 0 dX10_snow_122 rfl ?_
                        refine z_aload_n C 0 dX10_snow_123 rfl ?_
                        refine z_get (v := .int (zI (Fvy253 35))) C (by omega) hay117 hcvy253 rfl inA_X10 35 (by decide) q_1494 rfl (fv (F := Fvy253) (f := 35) rfl) dX10_snow_124 ?_
                        refine z_iconst (z := 3) C dX10_snow_127 rfl ?_
                        refine z_icmp_ne (tgt := 144) C dX10_snow_128 (by decide) (by omega) (by omega) (fun hby260 => ?_) (fun hby260 => ?_)
                        · refine z_iconst (z := 0) C dX10_snow_144 rfl ?_
                          refine z_iconst (z := 1) C dX10_snow_145 rfl ?_
                          have h38vy261 : Fvy253 38 = 0 := hxxFvy253
                          refine z_cV (As := [.int (zI (0)), .int (zI (1))]) (rest := []) (ci := 12) C (c_X10_wants l D A cs tt N ad _ i hN _ hcvy253 (by omega) (0) (by omega) (1) (by omega)) (by omega) hay117 hcvy253 rfl rfl mv_yX10_wants q_1678 hd_yX10_wants (by decide) (Nat.le_of_ble_eq_true rfl) (by decide) dX10_snow_146 rfl (kI0 fun vy261 gvy261 hvy261 => ?_)
                          obtain ⟨⟨Fvy261, hcvy261, hqvy261, hbvy261, hFvy261⟩, hfvy261⟩ := hvy261
                          have hdvy261 : RD Fvy261 := RD.w hdvy253 hFvy261 hbvy261
                          obtain rfl : vy261 = 0 := by omega
                          have e38vy261 : 1 ≤ Fvy261 38 := by omega
                          clear hqvy261
                          refine z_if_eq (tgt := 97) C dX10_snow_149 (by decide) (by omega) (fun _ => ?_) (fun h => absurd h (by omega))
                          have hey262 : Fvy261 23 = F9 23 := ((hFvy261 23 (by decide) (by decide)).trans (hFvy253 23 (by decide) (by decide) (by decide) (by decide) (by decide) (by decide) (by decide) (by decide) (by decide) (by decide)))
                          have hey263 : Fvy261 32 = Fvy253 32 := (hFvy261 32 (by decide) (by decide))
                          have hey264 : Fvy261 34 = F9 34 := ((hFvy261 34 (by decide) (by decide)).trans (hFvy253 34 (by decide) (by decide) (by decide) (by decide) (by decide) (by decide) (by decide) (by decide) (by decide) (by decide)))
                          have hey265 : Fvy261 35 = Fvy253 35 := (hFvy261 35 (by decide) (by decide))
                          have hey266 : Fvy261 38 = Fvy261 38 := rfl
                          have hey267 : Fvy261 47 = Fvy253 47 := (hFvy261 47 (by decide) (by decide))
                          have hey268 : Fvy261 48 = Fvy253 48 := (hFvy261 48 (by decide) (by decide))
                          have hey269 : Fvy261 49 = Fvy253 49 := (hFvy261 49 (by decide) (by decide))
                          have htxy270 : okTx cs gvy261 i Fvy261 := hxvy253.mv (fun j a b => by rw [hfvy261 _ (by omega)]) ⟨by omega, by omega, by omega, by omega⟩
                          have hFy271 : ∀ f, f ≠ 24 → f ≠ 32 → f ≠ 33 → f ≠ 35 → f ≠ 36 → f ≠ 37 → f ≠ 38 → f ≠ 47 → f ≠ 48 → f ≠ 49 → Fvy261 f = F9 f := fun f n24 n32 n33 n35 n36 n37 n38 n47 n48 n49 => ((hFvy261 f n24 n38).trans (hFvy253 f n24 n32 n33 n35 n36 n37 n38 n47 n48 n49))
                          have hFFy272 : (∀ f, f ≠ 12 → f ≠ 23 → f ≠ 24 → f ≠ 32 → f ≠ 33 → f ≠ 34 → f ≠ 35 → f ≠ 36 → f ≠ 37 → f ≠ 38 → f ≠ 47 → f ≠ 48 → f ≠ 49 → Fvy261 f = F f) := fun f n12 n23 n24 n32 n33 n34 n35 n36 n37 n38 n47 n48 n49 => (hFy271 f n24 n32 n33 n35 n36 n37 n38 n47 n48 n49).trans (fF f n12 n23 n24 n32 n33 n34 n35 n36 n37 n38 n47 n48 n49)
                          obtain ⟨muy273, hmuy273⟩ : ∃ m9 : Int, (Fvy261 38 = 0 ∧ m9 = 901 - Fvy261 32) ∨ (Fvy261 38 ≠ 0 ∧ m9 = 0) := by
                            by_cases e : Fvy261 38 = 0
                            · exact ⟨_, Or.inl ⟨e, rfl⟩⟩
                            · exact ⟨0, Or.inr ⟨e, rfl⟩⟩
                          refine z_lv (lv' := [(0, .ref (ad i)), (1, .int (zI (z)))]) [0, 1] rfl ?_
                          exact ih_L _ (by omega) muy273 _ gvy261 rfl hcvy261 hdvy261 htxy270 hFFy272 (fun j j1 j2 => by rw [hfvy261 _ (by omega)]; rw [hfvy253 _ (by omega) (by omega)]; rw [f3L _ (by omega) (by omega)]; exact f3L j j1 j2) hmuy273 (by omega)
                        · refine z_aload_n C 0 dX10_snow_131 rfl ?_
                          refine z_get (v := .int (zI (Fvy253 36))) C (by omega) hay117 hcvy253 rfl inA_X10 36 (by decide) q_1495 rfl (fv (F := Fvy253) (f := 36) rfl) dX10_snow_132 ?_
                          refine z_bipush (z := 59) C dX10_snow_135 (by decide) ?_
                          refine z_icmp_ne (tgt := 144) C dX10_snow_137 (by decide) (by omega) (by omega) (fun hby274 => ?_) (fun hby274 => ?_)
                          · refine z_iconst (z := 0) C dX10_snow_144 rfl ?_
                            refine z_iconst (z := 1) C dX10_snow_145 rfl ?_
                            have h38vy275 : Fvy253 38 = 0 := hxxFvy253
                            refine z_cV (As := [.int (zI (0)), .int (zI (1))]) (rest := []) (ci := 12) C (c_X10_wants l D A cs tt N ad _ i hN _ hcvy253 (by omega) (0) (by omega) (1) (by omega)) (by omega) hay117 hcvy253 rfl rfl mv_yX10_wants q_1678 hd_yX10_wants (by decide) (Nat.le_of_ble_eq_true rfl) (by decide) dX10_snow_146 rfl (kI0 fun vy275 gvy275 hvy275 => ?_)
                            obtain ⟨⟨Fvy275, hcvy275, hqvy275, hbvy275, hFvy275⟩, hfvy275⟩ := hvy275
                            have hdvy275 : RD Fvy275 := RD.w hdvy253 hFvy275 hbvy275
                            obtain rfl : vy275 = 0 := by omega
                            have e38vy275 : 1 ≤ Fvy275 38 := by omega
                            clear hqvy275
                            refine z_if_eq (tgt := 97) C dX10_snow_149 (by decide) (by omega) (fun _ => ?_) (fun h => absurd h (by omega))
                            have hey276 : Fvy275 23 = F9 23 := ((hFvy275 23 (by decide) (by decide)).trans (hFvy253 23 (by decide) (by decide) (by decide) (by decide) (by decide) (by decide) (by decide) (by decide) (by decide) (by decide)))
                            have hey277 : Fvy275 32 = Fvy253 32 := (hFvy275 32 (by decide) (by decide))
                            have hey278 : Fvy275 34 = F9 34 := ((hFvy275 34 (by decide) (by decide)).trans (hFvy253 34 (by decide) (by decide) (by decide) (by decide) (by decide) (by decide) (by decide) (by decide) (by decide) (by decide)))
                            have hey279 : Fvy275 35 = Fvy253 35 := (hFvy275 35 (by decide) (by decide))
                            have hey280 : Fvy275 38 = Fvy275 38 := rfl
                            have hey281 : Fvy275 47 = Fvy253 47 := (hFvy275 47 (by decide) (by decide))
                            have hey282 : Fvy275 48 = Fvy253 48 := (hFvy275 48 (by decide) (by decide))
                            have hey283 : Fvy275 49 = Fvy253 49 := (hFvy275 49 (by decide) (by decide))
                            have htxy284 : okTx cs gvy275 i Fvy275 := hxvy253.mv (fun j a b => by rw [hfvy275 _ (by omega)]) ⟨by omega, by omega, by omega, by omega⟩
                            have hFy285 : ∀ f, f ≠ 24 → f ≠ 32 → f ≠ 33 → f ≠ 35 → f ≠ 36 → f ≠ 37 → f ≠ 38 → f ≠ 47 → f ≠ 48 → f ≠ 49 → Fvy275 f = F9 f := fun f n24 n32 n33 n35 n36 n37 n38 n47 n48 n49 => ((hFvy275 f n24 n38).trans (hFvy253 f n24 n32 n33 n35 n36 n37 n38 n47 n48 n49))
                            have hFFy286 : (∀ f, f ≠ 12 → f ≠ 23 → f ≠ 24 → f ≠ 32 → f ≠ 33 → f ≠ 34 → f ≠ 35 → f ≠ 36 → f ≠ 37 → f ≠ 38 → f ≠ 47 → f ≠ 48 → f ≠ 49 → Fvy275 f = F f) := fun f n12 n23 n24 n32 n33 n34 n35 n36 n37 n38 n47 n48 n49 => (hFy285 f n24 n32 n33 n35 n36 n37 n38 n47 n48 n49).trans (fF f n12 n23 n24 n32 n33 n34 n35 n36 n37 n38 n47 n48 n49)
                            obtain ⟨muy287, hmuy287⟩ : ∃ m9 : Int, (Fvy275 38 = 0 ∧ m9 = 901 - Fvy275 32) ∨ (Fvy275 38 ≠ 0 ∧ m9 = 0) := by
                              by_cases e : Fvy275 38 = 0
                              · exact ⟨_, Or.inl ⟨e, rfl⟩⟩
                              · exact ⟨0, Or.inr ⟨e, rfl⟩⟩
                            refine z_lv (lv' := [(0, .ref (ad i)), (1, .int (zI (z)))]) [0, 1] rfl ?_
                            exact ih_L _ (by omega) muy287 _ gvy275 rfl hcvy275 hdvy275 htxy284 hFFy286 (fun j j1 j2 => by rw [hfvy275 _ (by omega)]; rw [hfvy253 _ (by omega) (by omega)]; rw [f3L _ (by omega) (by omega)]; exact f3L j j1 j2) hmuy287 (by omega)
                          · refine z_iconst (z := 1) C dX10_snow_140 rfl ?_
                            refine z_goto (tgt := 145) C dX10_snow_141 (by decide) ?_
                            refine z_iconst (z := 1) C dX10_snow_145 rfl ?_
                            have h38vy288 : Fvy253 38 = 0 := hxxFvy253
                            refine z_cV (As := [.int (zI (1)), .int (zI (1))]) (rest := []) (ci := 12) C (c_X10_wants l D A cs tt N ad _ i hN _ hcvy253 (by omega) (1) (by omega) (1) (by omega)) (by omega) hay117 hcvy253 rfl rfl mv_yX10_wants q_1678 hd_yX10_wants (by decide) (Nat.le_of_ble_eq_true rfl) (by decide) dX10_snow_146 rfl (kI0 fun vy288 gvy288 hvy288 => ?_)
                            obtain ⟨⟨Fvy288, hcvy288, hqvy288, hbvy288, hFvy288⟩, hfvy288⟩ := hvy288
                            have hdvy288 : RD Fvy288 := RD.w hdvy253 hFvy288 hbvy288
                            obtain rfl : vy288 = 1 := by omega
                            have e38vy288 : Fvy288 38 = 0 := by omega
                            clear hqvy288
                            refine z_if_eq (tgt := 97) C dX10_snow_149 (by decide) (by omega) (fun h => absurd h (by omega)) (fun _ => ?_)
                            refine z_aload_n C 0 dX10_snow_152 rfl ?_
                            have hgy289 := (hfvy253 (i + 13) (ne_o (i := i) (c := 13) (d := 0) rfl) (by omega)).trans ((f3L _ (by omega) (by omega)).trans ha13)
                            have hgy290 := (hfvy288 (i + 13) (ne_o (i := i) (c := 13) (d := 0) rfl)).trans hgy289
                            refine z_cV (As := []) (rest := []) (ci := 12) C (c_X10_go l D A cs tt N ad _ i hN _ hcvy288 _ hgy290 htp hdvy288) (by omega) hay117 hcvy288 rfl rfl mv_yX10_go q_1652 hd_yX10_go (by decide) (Nat.le_of_ble_eq_true rfl) (by decide) dX10_snow_153 rfl (kV0 fun gvy291 hvy291 => ?_)
                            obtain ⟨⟨Fvy291, hcvy291, hdvy291, hlvy291, hsvy291, hFvy291⟩, hfvy291⟩ := hvy291
                            rw [show Fvy288 32 = Fvy253 32 from (hFvy288 32 (by decide) (by decide))] at hlvy291 hsvy291
                            have h34vy291 : Fvy291 34 = F9 34 := (hFvy291 34 (by decide) (by decide) (by decide) (by decide) (by decide)).trans (((hFvy288 34 (by decide) (by decide)).trans (hFvy253 34 (by decide) (by decide) (by decide) (by decide) (by decide) (by decide) (by decide) (by decide) (by decide) (by decide))))
                            obtain ⟨d32vy291, -, d35vy291, d36vy291, -, d37vy291, d38vy291⟩ := id hdvy291
                            have h38vy291 : Fvy291 38 = 0 := ((hFvy291 38 (by decide) (by decide) (by decide) (by decide) (by decide)).trans e38vy288)
                            refine z_goto (tgt := 97) C dX10_snow_156 (by decide) ?_
                            have hey292 : Fvy291 23 = F9 23 := ((hFvy291 23 (by decide) (by decide) (by decide) (by decide) (by decide)).trans ((hFvy288 23 (by decide) (by decide)).trans (hFvy253 23 (by decide) (by decide) (by decide) (by decide) (by decide) (by decide) (by decide) (by decide) (by decide) (by decide))))
                            have hey293 : Fvy291 32 = Fvy291 32 := rfl
                            have hey294 : Fvy291 34 = F9 34 := ((hFvy291 34 (by decide) (by decide) (by decide) (by decide) (by decide)).trans ((hFvy288 34 (by decide) (by decide)).trans (hFvy253 34 (by decide) (by decide) (by decide) (by decide) (by decide) (by decide) (by decide) (by decide) (by decide) (by decide))))
                            have hey295 : Fvy291 35 = Fvy291 35 := rfl
                            have hey296 : Fvy291 38 = 0 := ((hFvy291 38 (by decide) (by decide) (by decide) (by decide) (by decide)).trans e38vy288)
                            have hey297 : Fvy291 47 = Fvy253 47 := ((hFvy291 47 (by decide) (by decide) (by decide) (by decide) (by decide)).trans (hFvy288 47 (by decide) (by decide)))
                            have hey298 : Fvy291 48 = Fvy253 48 := ((hFvy291 48 (by decide) (by decide) (by decide) (by decide) (by decide)).trans (hFvy288 48 (by decide) (by decide)))
                            have hey299 : Fvy291 49 = Fvy253 49 := ((hFvy291 49 (by decide) (by decide) (by decide) (by decide) (by decide)).trans (hFvy288 49 (by decide) (by decide)))
                            have htxy300 : okTx cs gvy291 i Fvy291 := hxvy253.mv (fun j a b => by rw [hfvy291 _ (by omega)]; rw [hfvy288 _ (by omega)]) ⟨by omega, by omega, by omega, by omega⟩
                            have hFy301 : ∀ f, f ≠ 24 → f ≠ 32 → f ≠ 33 → f ≠ 35 → f ≠ 36 → f ≠ 37 → f ≠ 38 → f ≠ 47 → f ≠ 48 → f ≠ 49 → Fvy291 f = F9 f := fun f n24 n32 n33 n35 n36 n37 n38 n47 n48 n49 => ((hFvy291 f n32 n33 n35 n36 n37).trans ((hFvy288 f n24 n38).trans (hFvy253 f n24 n32 n33 n35 n36 n37 n38 n47 n48 n49)))
                            have hFFy302 : (∀ f, f ≠ 12 → f ≠ 23 → f ≠ 24 → f ≠ 32 → f ≠ 33 → f ≠ 34 → f ≠ 35 → f ≠ 36 → f ≠ 37 → f ≠ 38 → f ≠ 47 → f ≠ 48 → f ≠ 49 → Fvy291 f = F f) := fun f n12 n23 n24 n32 n33 n34 n35 n36 n37 n38 n47 n48 n49 => (hFy301 f n24 n32 n33 n35 n36 n37 n38 n47 n48 n49).trans (fF f n12 n23 n24 n32 n33 n34 n35 n36 n37 n38 n47 n48 n49)
                            obtain ⟨muy303, hmuy303⟩ : ∃ m9 : Int, (Fvy291 38 = 0 ∧ m9 = 901 - Fvy291 32) ∨ (Fvy291 38 ≠ 0 ∧ m9 = 0) := by
                              by_cases e : Fvy291 38 = 0
                              · exact ⟨_, Or.inl ⟨e, rfl⟩⟩
                              · exact ⟨0, Or.inr ⟨e, rfl⟩⟩
                            refine z_lv (lv' := [(0, .ref (ad i)), (1, .int (zI (z)))]) [0, 1] rfl ?_
                            exact ih_L _ (by omega) muy303 _ gvy291 rfl hcvy291 hdvy291 htxy300 hFFy302 (fun j j1 j2 => by rw [hfvy291 _ (by omega)]; rw [hfvy288 _ (by omega)]; rw [hfvy253 _ (by omega) (by omega)]; rw [f3L _ (by omega) (by omega)]; exact f3L j j1 j2) hmuy303 (by omega)
                      · refine z_aload_n C 0 dX10_snow_115 rfl ?_
                        refine z_get (v := .int (zI (Fvy253 38))) C (by omega) hay117 hcvy253 rfl inA_X10 38 (by decide) q_1497 rfl (fv (F := Fvy253) (f := 38) rfl) dX10_snow_116 ?_
                        refine z_if_ne (tgt := 97) C dX10_snow_119 (by decide) (by omega) (fun _ => ?_) (fun h => absurd h (by omega))
                        have hey304 : Fvy253 23 = F9 23 := (hFvy253 23 (by decide) (by decide) (by decide) (by decide) (by decide) (by decide) (by decide) (by decide) (by decide) (by decide))
                        have hey305 : Fvy253 32 = Fvy253 32 := rfl
                        have hey306 : Fvy253 34 = F9 34 := (hFvy253 34 (by decide) (by decide) (by decide) (by decide) (by decide) (by decide) (by decide) (by decide) (by decide) (by decide))
                        have hey307 : Fvy253 35 = Fvy253 35 := rfl
                        have hey308 : Fvy253 38 = Fvy253 38 := rfl
                        have hey309 : Fvy253 47 = Fvy253 47 := rfl
                        have hey310 : Fvy253 48 = Fvy253 48 := rfl
                        have hey311 : Fvy253 49 = Fvy253 49 := rfl
                        have hFy312 : ∀ f, f ≠ 24 → f ≠ 32 → f ≠ 33 → f ≠ 35 → f ≠ 36 → f ≠ 37 → f ≠ 38 → f ≠ 47 → f ≠ 48 → f ≠ 49 → Fvy253 f = F9 f := fun f n24 n32 n33 n35 n36 n37 n38 n47 n48 n49 => (hFvy253 f n24 n32 n33 n35 n36 n37 n38 n47 n48 n49)
                        have hFFy313 : (∀ f, f ≠ 12 → f ≠ 23 → f ≠ 24 → f ≠ 32 → f ≠ 33 → f ≠ 34 → f ≠ 35 → f ≠ 36 → f ≠ 37 → f ≠ 38 → f ≠ 47 → f ≠ 48 → f ≠ 49 → Fvy253 f = F f) := fun f n12 n23 n24 n32 n33 n34 n35 n36 n37 n38 n47 n48 n49 => (hFy312 f n24 n32 n33 n35 n36 n37 n38 n47 n48 n49).trans (fF f n12 n23 n24 n32 n33 n34 n35 n36 n37 n38 n47 n48 n49)
                        obtain ⟨muy314, hmuy314⟩ : ∃ m9 : Int, (Fvy253 38 = 0 ∧ m9 = 901 - Fvy253 32) ∨ (Fvy253 38 ≠ 0 ∧ m9 = 0) := by
                          by_cases e : Fvy253 38 = 0
                          · exact ⟨_, Or.inl ⟨e, rfl⟩⟩
                          · exact ⟨0, Or.inr ⟨e, rfl⟩⟩
                        refine z_lv (lv' := [(0, .ref (ad i)), (1, .int (zI (z)))]) [0, 1] rfl ?_
                        exact ih_L _ (by omega) muy314 _ gvy253 rfl hcvy253 hdvy253 hxvy253 hFFy313 (fun j j1 j2 => by rw [hfvy253 _ (by omega) (by omega)]; rw [f3L _ (by omega) (by omega)]; exact f3L j j1 j2) hmuy314 (by omega)
              have hey315 : Fvy116 23 = 0 := ((hFvy116 23 (by decide) (by decide) (by decide) (by decide) (by decide)).trans (fn (fn (fn (fn (fn (fn (fn (uZ_s _ _ _) (by decide)) (by decide)) (by decide)) (by decide)) (by decide)) (by decide)) (by decide)))
              have hey316 : Fvy116 32 = Fvy116 32 := rfl
              have hey317 : Fvy116 34 = z := ((hFvy116 34 (by decide) (by decide) (by decide) (by decide) (by decide)).trans (fn (fn (fn (fn (fn (fn (uZ_s _ _ _) (by decide)) (by decide)) (by decide)) (by decide)) (by decide)) (by decide)))
              have hey318 : Fvy116 35 = Fvy116 35 := rfl
              have hey319 : Fvy116 38 = 0 := ((hFvy116 38 (by decide) (by decide) (by decide) (by decide) (by decide)).trans (fn (fn (fn (fn (uZ_s _ _ _) (by decide)) (by decide)) (by decide)) (by decide)))
              have hey320 : Fvy116 47 = 0 := ((hFvy116 47 (by decide) (by decide) (by decide) (by decide) (by decide)).trans (uZ_s _ _ _))
              have hey321 : Fvy116 48 = 0 := ((hFvy116 48 (by decide) (by decide) (by decide) (by decide) (by decide)).trans (fn (uZ_s _ _ _) (by decide)))
              have hey322 : Fvy116 49 = 0 := ((hFvy116 49 (by decide) (by decide) (by decide) (by decide) (by decide)).trans (fn (fn (uZ_s _ _ _) (by decide)) (by decide)))
              have hz0 : 0 ≤ z ∧ z ≤ F 23 := by omega
              have hgy324 := up_n egy33 ha16 (ne_o (i := i) (c := 16) (d := 0) rfl)
              have hgy325 := (hfvy77 (i + 16) (ne_o (i := i) (c := 16) (d := 0) rfl)).trans hgy324
              have hgy326 := up_n egy80 hgy325 (ne_o (i := i) (c := 16) (d := 0) rfl)
              have hgy327 := up_n egy83 hgy326 (ne_o (i := i) (c := 16) (d := 0) rfl)
              have hgy328 := up_n egy86 hgy327 (ne_o (i := i) (c := 16) (d := 0) rfl)
              have hgy329 := up_n egy89 hgy328 (ne_o (i := i) (c := 16) (d := 0) rfl)
              have hgy330 := up_n egy92 hgy329 (ne_o (i := i) (c := 16) (d := 0) rfl)
              have hgy331 := up_n egy95 hgy330 (ne_o (i := i) (c := 16) (d := 0) rfl)
              have hgy332 := up_n egy98 hgy331 (ne_o (i := i) (c := 16) (d := 0) rfl)
              have hgy333 := up_n egy101 hgy332 (ne_o (i := i) (c := 16) (d := 0) rfl)
              have hgy334 := (f3A (i + 16) (ne_o (i := i) (c := 16) (d := 22) rfl)).trans hgy333
              have hgy335 := (hfvy116 (i + 16) (ne_o (i := i) (c := 16) (d := 0) rfl)).trans hgy334
              have hgy336 := up_n egy33 ha17 (ne_o (i := i) (c := 17) (d := 0) rfl)
              have hgy337 := (hfvy77 (i + 17) (ne_o (i := i) (c := 17) (d := 0) rfl)).trans hgy336
              have hgy338 := up_n egy80 hgy337 (ne_o (i := i) (c := 17) (d := 0) rfl)
              have hgy339 := up_n egy83 hgy338 (ne_o (i := i) (c := 17) (d := 0) rfl)
              have hgy340 := up_n egy86 hgy339 (ne_o (i := i) (c := 17) (d := 0) rfl)
              have hgy341 := up_n egy89 hgy340 (ne_o (i := i) (c := 17) (d := 0) rfl)
              have hgy342 := up_n egy92 hgy341 (ne_o (i := i) (c := 17) (d := 0) rfl)
              have hgy343 := up_n egy95 hgy342 (ne_o (i := i) (c := 17) (d := 0) rfl)
              have hgy344 := up_n egy98 hgy343 (ne_o (i := i) (c := 17) (d := 0) rfl)
              have hgy345 := up_n egy101 hgy344 (ne_o (i := i) (c := 17) (d := 0) rfl)
              have hgy346 := (f3A (i + 17) (ne_o (i := i) (c := 17) (d := 22) rfl)).trans hgy345
              have hgy347 := (hfvy116 (i + 17) (ne_o (i := i) (c := 17) (d := 0) rfl)).trans hgy346
              have hgy348 := up_n egy33 ha18 (ne_o (i := i) (c := 18) (d := 0) rfl)
              have hgy349 := (hfvy77 (i + 18) (ne_o (i := i) (c := 18) (d := 0) rfl)).trans hgy348
              have hgy350 := up_n egy80 hgy349 (ne_o (i := i) (c := 18) (d := 0) rfl)
              have hgy351 := up_n egy83 hgy350 (ne_o (i := i) (c := 18) (d := 0) rfl)
              have hgy352 := up_n egy86 hgy351 (ne_o (i := i) (c := 18) (d := 0) rfl)
              have hgy353 := up_n egy89 hgy352 (ne_o (i := i) (c := 18) (d := 0) rfl)
              have hgy354 := up_n egy92 hgy353 (ne_o (i := i) (c := 18) (d := 0) rfl)
              have hgy355 := up_n egy95 hgy354 (ne_o (i := i) (c := 18) (d := 0) rfl)
              have hgy356 := up_n egy98 hgy355 (ne_o (i := i) (c := 18) (d := 0) rfl)
              have hgy357 := up_n egy101 hgy356 (ne_o (i := i) (c := 18) (d := 0) rfl)
              have hgy358 := (f3A (i + 18) (ne_o (i := i) (c := 18) (d := 22) rfl)).trans hgy357
              have hgy359 := (hfvy116 (i + 18) (ne_o (i := i) (c := 18) (d := 0) rfl)).trans hgy358
              have hgy360 := up_n egy33 ha19 (ne_o (i := i) (c := 19) (d := 0) rfl)
              have hgy361 := (hfvy77 (i + 19) (ne_o (i := i) (c := 19) (d := 0) rfl)).trans hgy360
              have hgy362 := up_n egy80 hgy361 (ne_o (i := i) (c := 19) (d := 0) rfl)
              have hgy363 := up_n egy83 hgy362 (ne_o (i := i) (c := 19) (d := 0) rfl)
              have hgy364 := up_n egy86 hgy363 (ne_o (i := i) (c := 19) (d := 0) rfl)
              have hgy365 := up_n egy89 hgy364 (ne_o (i := i) (c := 19) (d := 0) rfl)
              have hgy366 := up_n egy92 hgy365 (ne_o (i := i) (c := 19) (d := 0) rfl)
              have hgy367 := up_n egy95 hgy366 (ne_o (i := i) (c := 19) (d := 0) rfl)
              have hgy368 := up_n egy98 hgy367 (ne_o (i := i) (c := 19) (d := 0) rfl)
              have hgy369 := up_n egy101 hgy368 (ne_o (i := i) (c := 19) (d := 0) rfl)
              have hgy370 := (f3A (i + 19) (ne_o (i := i) (c := 19) (d := 22) rfl)).trans hgy369
              have hgy371 := (hfvy116 (i + 19) (ne_o (i := i) (c := 19) (d := 0) rfl)).trans hgy370
              have hgy372 := up_n egy33 ha20 (ne_o (i := i) (c := 20) (d := 0) rfl)
              have hgy373 := (hfvy77 (i + 20) (ne_o (i := i) (c := 20) (d := 0) rfl)).trans hgy372
              have hgy374 := up_n egy80 hgy373 (ne_o (i := i) (c := 20) (d := 0) rfl)
              have hgy375 := up_n egy83 hgy374 (ne_o (i := i) (c := 20) (d := 0) rfl)
              have hgy376 := up_n egy86 hgy375 (ne_o (i := i) (c := 20) (d := 0) rfl)
              have hgy377 := up_n egy89 hgy376 (ne_o (i := i) (c := 20) (d := 0) rfl)
              have hgy378 := up_n egy92 hgy377 (ne_o (i := i) (c := 20) (d := 0) rfl)
              have hgy379 := up_n egy95 hgy378 (ne_o (i := i) (c := 20) (d := 0) rfl)
              have hgy380 := up_n egy98 hgy379 (ne_o (i := i) (c := 20) (d := 0) rfl)
              have hgy381 := up_n egy101 hgy380 (ne_o (i := i) (c := 20) (d := 0) rfl)
              have hgy382 := (f3A (i + 20) (ne_o (i := i) (c := 20) (d := 22) rfl)).trans hgy381
              have hgy383 := (hfvy116 (i + 20) (ne_o (i := i) (c := 20) (d := 0) rfl)).trans hgy382
              have hgy384 := up_n egy33 ha21 (ne_o (i := i) (c := 21) (d := 0) rfl)
              have hgy385 := (hfvy77 (i + 21) (ne_o (i := i) (c := 21) (d := 0) rfl)).trans hgy384
              have hgy386 := up_n egy80 hgy385 (ne_o (i := i) (c := 21) (d := 0) rfl)
              have hgy387 := up_n egy83 hgy386 (ne_o (i := i) (c := 21) (d := 0) rfl)
              have hgy388 := up_n egy86 hgy387 (ne_o (i := i) (c := 21) (d := 0) rfl)
              have hgy389 := up_n egy89 hgy388 (ne_o (i := i) (c := 21) (d := 0) rfl)
              have hgy390 := up_n egy92 hgy389 (ne_o (i := i) (c := 21) (d := 0) rfl)
              have hgy391 := up_n egy95 hgy390 (ne_o (i := i) (c := 21) (d := 0) rfl)
              have hgy392 := up_n egy98 hgy391 (ne_o (i := i) (c := 21) (d := 0) rfl)
              have hgy393 := up_n egy101 hgy392 (ne_o (i := i) (c := 21) (d := 0) rfl)
              have hgy394 := (f3A (i + 21) (ne_o (i := i) (c := 21) (d := 22) rfl)).trans hgy393
              have hgy395 := (hfvy116 (i + 21) (ne_o (i := i) (c := 21) (d := 0) rfl)).trans hgy394
              have hgy396 := (hfvy116 (i + 22) (ne_o (i := i) (c := 22) (d := 0) rfl)).trans f2A_t9
              have hgy397 := up_n egy33 ha23 (ne_o (i := i) (c := 23) (d := 0) rfl)
              have hgy398 := (hfvy77 (i + 23) (ne_o (i := i) (c := 23) (d := 0) rfl)).trans hgy397
              have hgy399 := up_n egy80 hgy398 (ne_o (i := i) (c := 23) (d := 0) rfl)
              have hgy400 := up_n egy83 hgy399 (ne_o (i := i) (c := 23) (d := 0) rfl)
              have hgy401 := up_n egy86 hgy400 (ne_o (i := i) (c := 23) (d := 0) rfl)
              have hgy402 := up_n egy89 hgy401 (ne_o (i := i) (c := 23) (d := 0) rfl)
              have hgy403 := up_n egy92 hgy402 (ne_o (i := i) (c := 23) (d := 0) rfl)
              have hgy404 := up_n egy95 hgy403 (ne_o (i := i) (c := 23) (d := 0) rfl)
              have hgy405 := up_n egy98 hgy404 (ne_o (i := i) (c := 23) (d := 0) rfl)
              have hgy406 := up_n egy101 hgy405 (ne_o (i := i) (c := 23) (d := 0) rfl)
              have hgy407 := (f3A (i + 23) (ne_o (i := i) (c := 23) (d := 22) rfl)).trans hgy406
              have hgy408 := (hfvy116 (i + 23) (ne_o (i := i) (c := 23) (d := 0) rfl)).trans hgy407
              have htxy323 : okTx cs gvy116 i Fvy116 := ⟨_, _, _, _, _, _, _, _, ⟨hgy335, hgy347, hgy359, hgy371, hgy383, hgy395, hgy396, hgy408⟩, ⟨⟨by omega, by omega, by omega⟩, hop1, hmn1, hai1, hfa1, fTa, fun s l h1 h2 => absurd h1 (by omega)⟩⟩
              have hFy409 : ∀ f, f ≠ 12 → f ≠ 23 → f ≠ 24 → f ≠ 32 → f ≠ 33 → f ≠ 34 → f ≠ 35 → f ≠ 36 → f ≠ 37 → f ≠ 38 → f ≠ 47 → f ≠ 48 → f ≠ 49 → Fvy116 f = F f := fun f n12 n23 n24 n32 n33 n34 n35 n36 n37 n38 n47 n48 n49 => ((hFvy116 f n32 n33 n35 n36 n37).trans ((uZ_n _ _ n47).trans ((uZ_n _ _ n48).trans ((uZ_n _ _ n49).trans ((uZ_n _ _ n24).trans ((uZ_n _ _ n38).trans ((uZ_n _ _ n32).trans ((uZ_n _ _ n34).trans ((uZ_n _ _ n23).trans ((hFvy77 f n12).trans ((uZ_n _ _ n12).trans rfl)))))))))))
              obtain ⟨muy410, hmuy410⟩ : ∃ m9 : Int, (Fvy116 38 = 0 ∧ m9 = 901 - Fvy116 32) ∨ (Fvy116 38 ≠ 0 ∧ m9 = 0) := by
                by_cases e : Fvy116 38 = 0
                · exact ⟨_, Or.inl ⟨e, rfl⟩⟩
                · exact ⟨0, Or.inr ⟨e, rfl⟩⟩
              refine z_lv (lv' := [(0, .ref (ad i)), (1, .int (zI (z)))]) [0, 1] rfl ?_
              exact L _ muy410 _ gvy116 rfl hcvy116 hdvy116 htxy323 hFy409 (fun j j1 j2 => by rw [hfvy116 _ (by omega)]; rw [f3A _ (by omega)]; rw [egy101, va_up_ne _ _ (by omega)]; rw [egy98, va_up_ne _ _ (by omega)]; rw [egy95, va_up_ne _ _ (by omega)]; rw [egy92, va_up_ne _ _ (by omega)]; rw [egy89, va_up_ne _ _ (by omega)]; rw [egy86, va_up_ne _ _ (by omega)]; rw [egy83, va_up_ne _ _ (by omega)]; rw [egy80, va_up_ne _ _ (by omega)]; rw [hfvy77 _ (by omega)]; rw [egy33, va_up_ne _ _ (by omega)]) hmuy410 (by omega)
            · refine z_aload_n C 0 dX10_snow_80 rfl ?_
              have hgy411 := (f3A (i) (ne_o (i := i) (c := 0) (d := 22) rfl)).trans hgy102
              refine z_get (v := .ref (ad (i + 22))) C (by omega) hay1 hgy411 rfl inA_X10 45 (by decide) q_1504 rfl rfl dX10_snow_81 ?_
              refine z_iload_n C 2 dX10_snow_84 rfl ?_
              refine z_iconst (z := -1) C dX10_snow_85 rfl ?_
              refine z_iast C (by omega) hay30 f2A_t9 (nkA) (by omega) (by omega) (by decide) dX10_snow_86 (fun gy412 egy413 => ?_)
              have hgy414 := up_s egy413
              obtain ⟨ry415, hvy416⟩ : ∃ rZ9 : Nat → Int, rZ9 = uZ t9 (nkA) (-1) := ⟨_, rfl⟩
              rw [← hvy416] at hgy414
              refine z_iinc (z := ka + 1) (lv' := [(2, .int (zI (ka + 1))), (0, .ref (ad i)), (1, .int (zI (z)))]) (j := 2) C dX10_snow_87 rfl rfl (by decide) rfl ?_
              refine z_goto (tgt := 74) C dX10_snow_90 (by decide) ?_
              refine z_lv (lv' := [(0, .ref (ad i)), (1, .int (zI (z))), (2, .int (zI (ka + 1)))]) [1, 2, 0] rfl ?_
              exact ih_A _ (by omega) (ka + 1) ry415 gy412 rfl hgy414 (fun j j1 => by rw [egy413, va_up_ne _ _ (by omega)]; exact f3A j j1) (fun j hj => by rw [hvy416]; by_cases e : j = nkA; (rw [e, uZ_s]; exact Or.inl rfl); (rw [uZ_n _ _ e]; exact fTa j hj)) (by omega)
        have hgy417 := up_n egy33 ha22 (ne_o (i := i) (c := 22) (d := 0) rfl)
        have hgy418 := (hfvy77 (i + 22) (ne_o (i := i) (c := 22) (d := 0) rfl)).trans hgy417
        have hgy419 := up_n egy80 hgy418 (ne_o (i := i) (c := 22) (d := 0) rfl)
        have hgy420 := up_n egy83 hgy419 (ne_o (i := i) (c := 22) (d := 0) rfl)
        have hgy421 := up_n egy86 hgy420 (ne_o (i := i) (c := 22) (d := 0) rfl)
        have hgy422 := up_n egy89 hgy421 (ne_o (i := i) (c := 22) (d := 0) rfl)
        have hgy423 := up_n egy92 hgy422 (ne_o (i := i) (c := 22) (d := 0) rfl)
        have hgy424 := up_n egy95 hgy423 (ne_o (i := i) (c := 22) (d := 0) rfl)
        have hgy425 := up_n egy98 hgy424 (ne_o (i := i) (c := 22) (d := 0) rfl)
        have hgy426 := up_n egy101 hgy425 (ne_o (i := i) (c := 22) (d := 0) rfl)
        refine z_lv (lv' := [(0, .ref (ad i)), (1, .int (zI (z))), (2, .int (zI (0)))]) [1, 2, 0] rfl ?_
        exact A _ (0) tb1 gy100 rfl hgy426 (fun j _ => rfl) htb1 (by omega)
      · refine z_if_ne (tgt := 32) C dX10_snow_27 (by decide) (by omega) (fun h => absurd h (by omega)) (fun _ => ?_)
        refine z_iconst (z := 0) C dX10_snow_30 rfl ?_
        have hgy427 := up_n egy33 ha1 (ne_o (i := i) (c := 1) (d := 0) rfl)
        have hgy428 := (hfvy77 (i + 1) (ne_o (i := i) (c := 1) (d := 0) rfl)).trans hgy427
        have hFy429 : ∀ f, f ≠ 12 → Fvy77 f = F f := fun f n12 => ((hFvy77 f n12).trans ((uZ_n _ _ n12).trans rfl))
        have hey430 : Fvy77 13 = F 13 := ((hFvy77 13 (by decide)).trans (fn rfl (by decide)))
        have hey431 : Fvy77 14 = F 14 := ((hFvy77 14 (by decide)).trans (fn rfl (by decide)))
        have hey432 : Fvy77 15 = F 15 := ((hFvy77 15 (by decide)).trans (fn rfl (by decide)))
        have hey433 : Fvy77 16 = F 16 := ((hFvy77 16 (by decide)).trans (fn rfl (by decide)))
        have hey434 : Fvy77 17 = F 17 := ((hFvy77 17 (by decide)).trans (fn rfl (by decide)))
        have hey435 : Fvy77 18 = F 18 := ((hFvy77 18 (by decide)).trans (fn rfl (by decide)))
        have hey436 : Fvy77 19 = F 19 := ((hFvy77 19 (by decide)).trans (fn rfl (by decide)))
        have hey437 : Fvy77 20 = F 20 := ((hFvy77 20 (by decide)).trans (fn rfl (by decide)))
        have hey438 : Fvy77 23 = F 23 := ((hFvy77 23 (by decide)).trans (fn rfl (by decide)))
        have hey439 : Fvy77 25 = F 25 := ((hFvy77 25 (by decide)).trans (fn rfl (by decide)))
        have hey440 : Fvy77 27 = F 27 := ((hFvy77 27 (by decide)).trans (fn rfl (by decide)))
        have hey441 : Fvy77 28 = F 28 := ((hFvy77 28 (by decide)).trans (fn rfl (by decide)))
        have hey442 : Fvy77 29 = F 29 := ((hFvy77 29 (by decide)).trans (fn rfl (by decide)))
        have hKy443 : okF Fvy77 := by unfold okF; omega
        have hMy444 : okMr cs ad gvy77 i (x + 1) Fvy77 r := okMr.upd hM hcvy77 hKy443 (fun f a => hFy429 f (by omega)) hgy428 (hA.mono (by omega)) (fun j a b => by
            exact Or.inl (by rw [hfvy77 _ (by omega)]; rw [egy33, va_up_ne _ _ (by omega)]))
        have h23 : Fvy77 23 = F 23 := ((hFvy77 23 (by decide)).trans (fn rfl (by decide)))
        exact z_iret C hr hlk dX10_snow_31 (by decide) (by decide) ⟨0, rfl, rfl, rfl, by omega, ⟨_, _, hMy444, by omega⟩, fun j j1 => by rw [hfvy77 _ (by omega)]; rw [egy33, va_up_ne _ _ (by omega)]⟩

