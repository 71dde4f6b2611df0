set_option maxRecDepth 100000 in
set_option maxHeartbeats 4000000 in
theorem c_X10_right1 (l : Launch) (D : va_G) (A : Nat → Prop) (cs : Nat → ClassId) (tt : Nat) (N : Nat) (ad : Nat → Nat) (g : Nat → va_E) (i : Nat) (hN : i + 30 ≤ N) (F : Nat → Int) (hg : g i = mC ad i F) (h12 : F 12 = 0) (z : Int) (hz : 0 ≤ z ∧ z ≤ 1) (z1 : Int) (hz1 : 1 ≤ z1 ∧ z1 ≤ 2) : zM l yX10_right cX10_right 3 (some .boolean) ({ frames := 1, cells := 0, slots := 0, locals := 60 } : Room) D A cs tt N ad g [.ref (ad i), .int (zI (z)), .int (zI (z1))] (rI0 N ad fun r g' => ((0 ≤ r ∧ r ≤ 1) ∧ (r = 1 ↔ z = 1)) ∧ (∃ F' : Nat → Int, g' i = mC ad i F' ∧ (0 ≤ F' 12 ∧ F' 12 ≤ 2) ∧ (∀ f, f ≠ 12 → F' f = F f)) ∧ ∀ j, j ≠ i → g' j = g j) := by
  have hay1 : zAt ad (i) (ad i) := rfl
  refine z_of (by decide) (Nat.le_of_ble_eq_true rfl) ?_
  intro pZ eZ sZ mZ below meth cZ C hr hlk hnm
  refine z_lv (lv' := [(0, .ref (ad i)), (1, .int (zI (z))), (2, .int (zI (z1)))]) [0, 1, 2] rfl ?_
  refine z_aload_n C 0 dX10_right_0 rfl ?_
  refine z_get (v := .int (zI (F 12))) C (by omega) hay1 hg rfl inA_X10 12 (by decide) q_1471 rfl (fv (F := F) (f := 12) rfl) dX10_right_1 ?_
  refine z_if_ne (tgt := 16) C dX10_right_4 (by decide) (by omega) (fun hby2 => ?_) (fun hby2 => ?_)
  · refine z_aload_n C 0 dX10_right_16 rfl ?_
    refine z_get (v := .int (zI (F 12))) C (by omega) hay1 hg rfl inA_X10 12 (by decide) q_1471 rfl (fv (F := F) (f := 12) rfl) dX10_right_17 ?_
    refine z_if_ne (tgt := 27) C dX10_right_20 (by decide) (by omega) (fun hby3 => ?_) (fun hby3 => ?_)
    · refine z_iconst (z := 0) C dX10_right_27 rfl ?_
      have hFy4 : ∀ f, f ≠ 12 → F f = F f := fun f n12 => rfl
      have hey5 : F 12 = F 12 := rfl
      exact z_zret C hr hlk dX10_right_28 (by decide) (by decide) (by decide) ⟨0, rfl, rfl, rfl, by omega, ⟨_, hg, by omega, hFy4⟩, fun j j1 => by rfl⟩
    · refine z_iconst (z := 1) C dX10_right_23 rfl ?_
      refine z_goto (tgt := 28) C dX10_right_24 (by decide) ?_
      have hFy6 : ∀ f, f ≠ 12 → F f = F f := fun f n12 => rfl
      have hey7 : F 12 = F 12 := rfl
      exact z_zret C hr hlk dX10_right_28 (by decide) (by decide) (by decide) ⟨1, rfl, rfl, rfl, by omega, ⟨_, hg, by omega, hFy6⟩, fun j j1 => by rfl⟩
  · refine z_iload_n C 1 dX10_right_7 rfl ?_
    refine z_if_ne (tgt := 16) C dX10_right_8 (by decide) (by omega) (fun hby8 => ?_) (fun hby8 => ?_)
    · refine z_aload_n C 0 dX10_right_16 rfl ?_
      refine z_get (v := .int (zI (F 12))) C (by omega) hay1 hg rfl inA_X10 12 (by decide) q_1471 rfl (fv (F := F) (f := 12) rfl) dX10_right_17 ?_
      refine z_if_ne (tgt := 27) C dX10_right_20 (by decide) (by omega) (fun hby9 => ?_) (fun hby9 => ?_)
      · refine z_iconst (z := 0) C dX10_right_27 rfl ?_
        have hFy10 : ∀ f, f ≠ 12 → F f = F f := fun f n12 => rfl
        have hey11 : F 12 = F 12 := rfl
        exact z_zret C hr hlk dX10_right_28 (by decide) (by decide) (by decide) ⟨0, rfl, rfl, rfl, by omega, ⟨_, hg, by omega, hFy10⟩, fun j j1 => by rfl⟩
      · refine z_iconst (z := 1) C dX10_right_23 rfl ?_
        refine z_goto (tgt := 28) C dX10_right_24 (by decide) ?_
        have hFy12 : ∀ f, f ≠ 12 → F f = F f := fun f n12 => rfl
        have hey13 : F 12 = F 12 := rfl
        exact z_zret C hr hlk dX10_right_28 (by decide) (by decide) (by decide) ⟨1, rfl, rfl, rfl, by omega, ⟨_, hg, by omega, hFy12⟩, fun j j1 => by rfl⟩
    · refine z_aload_n C 0 dX10_right_11 rfl ?_
      refine z_iload_n C 2 dX10_right_12 rfl ?_
      refine z_put (fs' := mF ad (i) (uZ F 12 (z1))) C (by omega) hay1 hg tyX10 tyX10_ok nmX10 rfl inA_X10 12 (by decide) q_1471 rfl rfl rfl rfl (Nat.le_of_ble_eq_true rfl) rfl dX10_right_13 (fun gy14 egy15 => ?_)
      have hgy16 := up_s egy15
      refine z_aload_n C 0 dX10_right_16 rfl ?_
      refine z_get (v := .int (zI (z1))) C (by omega) hay1 hgy16 rfl inA_X10 12 (by decide) q_1471 rfl (fv (F := (uZ F 12 (z1))) (f := 12) (uZ_s _ _ _)) dX10_right_17 ?_
      refine z_if_ne (tgt := 27) C dX10_right_20 (by decide) (by omega) (fun hby17 => ?_) (fun hby17 => ?_)
      · refine z_iconst (z := 0) C dX10_right_27 rfl ?_
        have hFy18 : ∀ f, f ≠ 12 → (uZ F 12 (z1)) f = F f := fun f n12 => ((uZ_n _ _ n12).trans rfl)
        have hey19 : (uZ F 12 (z1)) 12 = z1 := (uZ_s _ _ _)
        exact z_zret C hr hlk dX10_right_28 (by decide) (by decide) (by decide) ⟨0, rfl, rfl, rfl, by omega, ⟨_, hgy16, by omega, hFy18⟩, fun j j1 => by rw [egy15, va_up_ne _ _ (by omega)]⟩
      · refine z_iconst (z := 1) C dX10_right_23 rfl ?_
        refine z_goto (tgt := 28) C dX10_right_24 (by decide) ?_
        have hFy20 : ∀ f, f ≠ 12 → (uZ F 12 (z1)) f = F f := fun f n12 => ((uZ_n _ _ n12).trans rfl)
        have hey21 : (uZ F 12 (z1)) 12 = z1 := (uZ_s _ _ _)
        exact z_zret C hr hlk dX10_right_28 (by decide) (by decide) (by decide) ⟨1, rfl, rfl, rfl, by omega, ⟨_, hgy16, by omega, hFy20⟩, fun j j1 => by rw [egy15, va_up_ne _ _ (by omega)]⟩

theorem okMr.mono {cs : Nat → ClassId} {ad : Nat → Nat} {g : Nat → va_E} {i : Nat} {x y : Int} {F r : Nat → Int} (h : okMr cs ad g i x F r) (hxy : x ≤ y) : okMr cs ad g i y F r := ⟨h.1, h.2.1, h.2.2.1, h.2.2.2.1, h.2.2.2.2.1.mono hxy, h.2.2.2.2.2⟩

set_option maxRecDepth 100000 in
set_option maxHeartbeats 4000000 in
theorem c_X10_snow (l : Launch) (D : va_G) (A : Nat → Prop) (cs : Nat → ClassId) (tt : Nat) (N : Nat) (ad : Nat → Nat) (g : Nat → va_E) (i : Nat) (hN : i + 30 ≤ N) (x : Int) (hx : 0 ≤ x ∧ x ≤ 512) (F r : Nat → Int) (hM : okMr cs ad g i x F r) (z : Int) (hz : -2147483648 ≤ z ∧ z ≤ 2147483647) : zM l yX10_snow cX10_snow 3 (some .int) ({ frames := 8, cells := 0, slots := 0, locals := 480 } : Room) D A cs tt N ad g [.ref (ad i), .int (zI (z))] (rI0 N ad fun q g' => (0 ≤ q ∧ q ≤ 5) ∧ (∃ F' r' : Nat → Int, okMr cs ad g' i (x + 1) F' r' ∧ ((0 ≤ z ∧ z ≤ F 23 ∧ F' 23 = 0) ∨ ((z < 0 ∨ F 23 < z) ∧ F' 23 = F 23))) ∧ ∀ j, j < i ∨ i + 30 ≤ j → g' j = g j) := by
  obtain ⟨hg, ⟨⟨e13, e14, e25, e27, e29⟩, k15, k16, k17, k18, k19, k20, k23⟩, hRD, hTx, hA, st, op, ai, fa, mu, tb, ns, nh, nd, rf, pi, tp, te, ki, li, ok1, ok2, fo, dd, dps, ⟨ha1, ha2, ha3, ha4, ha5, ha6, ha7, ha8, ha9, ha10, ha11, ha12, ha13, ha14, ha15, ha24, ha25, ha26, ha27, ha28, ha29⟩, hEv, hPt, hns, htp⟩ := id hM
  obtain ⟨-, hop, hai, hfa, hT, hT1⟩ := id hEv
  have hay1 : zAt ad (i) (ad i) := rfl
  have hay2 : zAt ad (i + 1) (ad (i + 1)) := rfl
  have hay3 : zAt ad (i + 2) (ad (i + 2)) := rfl
  have hay4 : zAt ad (i + 3) (ad (i + 3)) := rfl
  have hay5 : zAt ad (i + 4) (ad (i + 4)) := rfl
  have hay6 : zAt ad (i + 5) (ad (i + 5)) := rfl
  have hay7 : zAt ad (i + 6) (ad (i + 6)) := rfl
  have hay8 : zAt ad (i + 7) (ad (i + 7)) := rfl
  have hay9 : zAt ad (i + 8) (ad (i + 8)) := rfl
  have hay10 : zAt ad (i + 9) (ad (i + 9)) := rfl
  have hay11 : zAt ad (i + 10) (ad (i + 10)) := rfl
  have hay12 : zAt ad (i + 11) (ad (i + 11)) := rfl
  have hay13 : zAt ad (i + 12) (ad (i + 12)) := rfl
  have hay14 : zAt ad (i + 13) (ad (i + 13)) := rfl
  have hay15 : zAt ad (i + 14) (ad (i + 14)) := rfl
  have hay16 : zAt ad (i + 15) (ad (i + 15)) := rfl
  have hay17 : zAt ad (i + 24) (ad (i + 24)) := rfl
  have hay18 : zAt ad (i + 25) (ad (i + 25)) := rfl
  have hay19 : zAt ad (i + 26) (ad (i + 26)) := rfl
  have hay20 : zAt ad (i + 27) (ad (i + 27)) := rfl
  have hay21 : zAt ad (i + 28) (ad (i + 28)) := rfl
  have hay22 : zAt ad (i + 29) (ad (i + 29)) := rfl
  obtain ⟨⟨hsyy23, htyy23, hnyy23, hpyy23⟩, hlyy23⟩ := okA.at0 hA
  simp only [Nat.zero_add] at hsyy23 hnyy23 hpyy23
  have hmn : ∀ s, s < 4 → 0 ≤ r (6 + 86 * s) ∧ r (6 + 86 * s) ≤ 12 := fun s hs => (hsyy23 s hs).1
  have h5 : 0 ≤ r 5 ∧ r 5 ≤ 6 := hpyy23
  obtain ⟨st1, op1, mn1, ai1, fa1, mu1, tb1, ly1, ⟨ha16, ha17, ha18, ha19, ha20, ha21, ha22, ha23⟩, ⟨⟨t47, t48, t49⟩, hop1, hmn1, hai1, hfa1, hly1⟩⟩ := id hTx
  have hay24 : zAt ad (i + 16) (ad (i + 16)) := rfl
  have hay25 : zAt ad (i + 17) (ad (i + 17)) := rfl
  have hay26 : zAt ad (i + 18) (ad (i + 18)) := rfl
  have hay27 : zAt ad (i + 19) (ad (i + 19)) := rfl
  have hay28 : zAt ad (i + 20) (ad (i + 20)) := rfl
  have hay29 : zAt ad (i + 21) (ad (i + 21)) := rfl
  have hay30 : zAt ad (i + 22) (ad (i + 22)) := rfl
  have hay31 : zAt ad (i + 23) (ad (i + 23)) := rfl
  obtain ⟨d32, d33, d35, d36, d2, d37, d38⟩ := id hRD
  refine z_of (by decide) (Nat.le_of_ble_eq_true rfl) ?_
  intro pZ eZ sZ mZ below meth cZ C hr hlk hnm
  refine z_lv (lv' := [(0, .ref (ad i)), (1, .int (zI (z)))]) [0, 1] rfl ?_
  refine z_aload_n C 0 dX10_snow_0 rfl ?_
  refine z_iconst (z := 0) C dX10_snow_1 rfl ?_
  refine z_put (fs' := mF ad (i) (uZ F 12 (0))) C (by omega) hay1 hg tyX10 tyX10_ok nmX10 rfl inA_X10 12 (by decide) q_1471 rfl rfl rfl rfl (Nat.le_of_ble_eq_true rfl) rfl dX10_snow_2 (fun gy32 egy33 => ?_)
  have hgy34 := up_s egy33
  refine z_aload_n C 0 dX10_snow_5 rfl ?_
  refine z_iload_n C 1 dX10_snow_6 rfl ?_
  refine z_if_lt (tgt := 22) C dX10_snow_7 (by decide) (by omega) (fun hby35 => ?_) (fun hby35 => ?_)
  · refine z_iconst (z := 0) C dX10_snow_22 rfl ?_
    refine z_iconst (z := 1) C dX10_snow_23 rfl ?_
    have hey37 : (uZ F 12 (0)) 12 = 0 := (uZ_s _ _ _)
    refine z_cV (As := [.int (zI (0)), .int (zI (1))]) (rest := []) (ci := 12) C (c_X10_right1 l D A cs tt N ad _ i hN _ hgy34 (by omega) (0) (by omega) (1) (by omega)) (by omega) hay1 hgy34 rfl rfl mv_yX10_right q_1648 hd_yX10_right (by decide) (Nat.le_of_ble_eq_true rfl) (by decide) dX10_snow_24 rfl (kI0 fun vy36 gvy36 hvy36 => ?_)
    obtain ⟨hrvy36, ⟨Fvy36, hcvy36, htvy36, hFvy36⟩, hfvy36⟩ := hvy36
    obtain rfl : vy36 = 0 := by omega
    refine z_if_ne (tgt := 32) C dX10_snow_27 (by decide) (by omega) (fun h => absurd h (by omega)) (fun _ => ?_)
    refine z_iconst (z := 0) C dX10_snow_30 rfl ?_
    have hgy38 := up_n egy33 ha1 (ne_o (i := i) (c := 1) (d := 0) rfl)
    have hgy39 := (hfvy36 (i + 1) (ne_o (i := i) (c := 1) (d := 0) rfl)).trans hgy38
    have hFy40 : ∀ f, f ≠ 12 → Fvy36 f = F f := fun f n12 => ((hFvy36 f n12).trans ((uZ_n _ _ n12).trans rfl))
    have hey41 : Fvy36 13 = F 13 := ((hFvy36 13 (by decide)).trans (fn rfl (by decide)))
    have hey42 : Fvy36 14 = F 14 := ((hFvy36 14 (by decide)).trans (fn rfl (by decide)))
    have hey43 : Fvy36 15 = F 15 := ((hFvy36 15 (by decide)).trans (fn rfl (by decide)))
    have hey44 : Fvy36 16 = F 16 := ((hFvy36 16 (by decide)).trans (fn rfl (by decide)))
    have hey45 : Fvy36 17 = F 17 := ((hFvy36 17 (by decide)).trans (fn rfl (by decide)))
    have hey46 : Fvy36 18 = F 18 := ((hFvy36 18 (by decide)).trans (fn rfl (by decide)))
    have hey47 : Fvy36 19 = F 19 := ((hFvy36 19 (by decide)).trans (fn rfl (by decide)))
    have hey48 : Fvy36 20 = F 20 := ((hFvy36 20 (by decide)).trans (fn rfl (by decide)))
    have hey49 : Fvy36 23 = F 23 := ((hFvy36 23 (by decide)).trans (fn rfl (by decide)))
    have hey50 : Fvy36 25 = F 25 := ((hFvy36 25 (by decide)).trans (fn rfl (by decide)))
    have hey51 : Fvy36 27 = F 27 := ((hFvy36 27 (by decide)).trans (fn rfl (by decide)))
    have hey52 : Fvy36 28 = F 28 := ((hFvy36 28 (by decide)).trans (fn rfl (by decide)))
    have hey53 : Fvy36 29 = F 29 := ((hFvy36 29 (by decide)).trans (fn rfl (by decide)))
    have hKy54 : okF Fvy36 := by unfold okF; omega
    have hMy55 : okMr cs ad gvy36 i (x + 1) Fvy36 r := okMr.upd hM hcvy36 hKy54 (fun f a => hFy40 f (by omega)) hgy39 (hA.mono (by omega)) (fun j a b => by
        exact Or.inl (by rw [hfvy36 _ (by omega)]; rw [egy33, va_up_ne _ _ (by omega)]))
    have h23 : Fvy36 23 = F 23 := ((hFvy36 23 (by decide)).trans (fn rfl (by decide)))
    exact z_iret C hr hlk dX10_snow_31 (by decide) (by decide) ⟨0, rfl, rfl, rfl, by omega, ⟨_, _, hMy55, by omega⟩, fun j j1 => by rw [hfvy36 _ (by omega)]; rw [egy33, va_up_ne _ _ (by omega)]⟩
  · refine z_iload_n C 1 dX10_snow_10 rfl ?_
    refine z_aload_n C 0 dX10_snow_11 rfl ?_
    refine z_get (v := .int (zI (F 23))) C (by omega) hay1 hgy34 rfl inA_X10 23 (by decide) q_1482 rfl (fv (F := (uZ F 12 (0))) (f := 23) (fn rfl (by decide))) dX10_snow_12 ?_
    refine z_icmp_gt (tgt := 22) C dX10_snow_15 (by decide) (by omega) (by omega) (fun hby56 => ?_) (fun hby56 => ?_)
    · refine z_iconst (z := 0) C dX10_snow_22 rfl ?_
      refine z_iconst (z := 1) C dX10_snow_23 rfl ?_
      have hey58 : (uZ F 12 (0)) 12 = 0 := (uZ_s _ _ _)
      refine z_cV (As := [.int (zI (0)), .int (zI (1))]) (rest := []) (ci := 12) C (c_X10_right1 l D A cs tt N ad _ i hN _ hgy34 (by omega) (0) (by omega) (1) (by omega)) (by omega) hay1 hgy34 rfl rfl mv_yX10_right q_1648 hd_yX10_right (by decide) (Nat.le_of_ble_eq_true rfl) (by decide) dX10_snow_24 rfl (kI0 fun vy57 gvy57 hvy57 => ?_)
      obtain ⟨hrvy57, ⟨Fvy57, hcvy57, htvy57, hFvy57⟩, hfvy57⟩ := hvy57
      obtain rfl : vy57 = 0 := by omega
      refine z_if_ne (tgt := 32) C dX10_snow_27 (by decide) (by omega) (fun h => absurd h (by omega)) (fun _ => ?_)
      refine z_iconst (z := 0) C dX10_snow_30 rfl ?_
      have hgy59 := up_n egy33 ha1 (ne_o (i := i) (c := 1) (d := 0) rfl)
      have hgy60 := (hfvy57 (i + 1) (ne_o (i := i) (c := 1) (d := 0) rfl)).trans hgy59
      have hFy61 : ∀ f, f ≠ 12 → Fvy57 f = F f := fun f n12 => ((hFvy57 f n12).trans ((uZ_n _ _ n12).trans rfl))
      have hey62 : Fvy57 13 = F 13 := ((hFvy57 13 (by decide)).trans (fn rfl (by decide)))
      have hey63 : Fvy57 14 = F 14 := ((hFvy57 14 (by decide)).trans (fn rfl (by decide)))
      have hey64 : Fvy57 15 = F 15 := ((hFvy57 15 (by decide)).trans (fn rfl (by decide)))
      have hey65 : Fvy57 16 = F 16 := ((hFvy57 16 (by decide)).trans (fn rfl (by decide)))
      have hey66 : Fvy57 17 = F 17 := ((hFvy57 17 (by decide)).trans (fn rfl (by decide)))
      have hey67 : Fvy57 18 = F 18 := ((hFvy57 18 (by decide)).trans (fn rfl (by decide)))
      have hey68 : Fvy57 19 = F 19 := ((hFvy57 19 (by decide)).trans (fn rfl (by decide)))
      have hey69 : Fvy57 20 = F 20 := ((hFvy57 20 (by decide)).trans (fn rfl (by decide)))
      have hey70 : Fvy57 23 = F 23 := ((hFvy57 23 (by decide)).trans (fn rfl (by decide)))
      have hey71 : Fvy57 25 = F 25 := ((hFvy57 25 (by decide)).trans (fn rfl (by decide)))
      have hey72 : Fvy57 27 = F 27 := ((hFvy57 27 (by decide)).trans (fn rfl (by decide)))
      have hey73 : Fvy57 28 = F 28 := ((hFvy57 28 (by decide)).trans (fn rfl (by decide)))
      have hey74 : Fvy57 29 = F 29 := ((hFvy57 29 (by decide)).trans (fn rfl (by decide)))
      have hKy75 : okF Fvy57 := by unfold okF; omega
      have hMy76 : okMr cs ad gvy57 i (x + 1) Fvy57 r := okMr.upd hM hcvy57 hKy75 (fun f a => hFy61 f (by omega)) hgy60 (hA.mono (by omega)) (fun j a b => by
          exact Or.inl (by rw [hfvy57 _ (by omega)]; rw [egy33, va_up_ne _ _ (by omega)]))
      have h23 : Fvy57 23 = F 23 := ((hFvy57 23 (by decide)).trans (fn rfl (by decide)))
      exact z_iret C hr hlk dX10_snow_31 (by decide) (by decide) ⟨0, rfl, rfl, rfl, by omega, ⟨_, _, hMy76, by omega⟩, fun j j1 => by rw [hfvy57 _ (by omega)]; rw [egy33, va_up_ne _ _ (by omega)]⟩
    · refine z_iconst (z := 1) C dX10_snow_18 rfl ?_
      refine z_goto (tgt := 23) C dX10_snow_19 (by decide) ?_
      refine z_iconst (z := 1) C dX10_snow_23 rfl ?_
      have hey78 : (uZ F 12 (0)) 12 = 0 := (uZ_s _ _ _)
      refine z_cV (As := [.int (zI (1)), .int (zI (1))]) (rest := []) (ci := 12) C (c_X10_right1 l D A cs tt N ad _ i hN _ hgy34 (by omega) (1) (by omega) (1) (by omega)) (by omega) hay1 hgy34 rfl rfl mv_yX10_right q_1648 hd_yX10_right (by decide) (Nat.le_of_ble_eq_true rfl) (by decide) dX10_snow_24 rfl (kI0 fun vy77 gvy77 hvy77 => ?_)
      obtain ⟨hrvy77, ⟨Fvy77, hcvy77, htvy77, hFvy77⟩, hfvy77⟩ := hvy77
      obtain rfl : vy77 = 1 := by omega
      refine z_if_ne (tgt := 32) C dX10_snow_27 (by decide) (by omega) (fun _ => ?_) (fun h => absurd h (by omega))
      refine z_aload_n C 0 dX10_snow_32 rfl ?_
      refine z_iconst (z := 0) C dX10_snow_33 rfl ?_
      refine z_put (fs' := mF ad (i) (uZ Fvy77 23 (0))) C (by omega) hay1 hcvy77 tyX10 tyX10_ok nmX10 rfl inA_X10 23 (by decide) q_1482 rfl rfl rfl rfl (Nat.le_of_ble_eq_true rfl) rfl dX10_snow_34 (fun gy79 egy80 => ?_)
      have hgy81 := up_s egy80
      refine z_aload_n C 0 dX10_snow_37 rfl ?_
      refine z_iload_n C 1 dX10_snow_38 rfl ?_
      refine z_put (fs' := mF ad (i) (uZ (uZ Fvy77 23 (0)) 34 (z))) C (by omega) hay1 hgy81 tyX10 tyX10_ok nmX10 rfl inA_X10 34 (by decide) q_1493 rfl rfl rfl rfl (Nat.le_of_ble_eq_true rfl) rfl dX10_snow_39 (fun gy82 egy83 => ?_)
      have hgy84 := up_s egy83
      refine z_aload_n C 0 dX10_snow_42 rfl ?_
      refine z_iconst (z := 0) C dX10_snow_43 rfl ?_
      refine z_put (fs' := mF ad (i) (uZ (uZ (uZ Fvy77 23 (0)) 34 (z)) 32 (0))) C (by omega) hay1 hgy84 tyX10 tyX10_ok nmX10 rfl inA_X10 32 (by decide) q_1491 rfl rfl rfl rfl (Nat.le_of_ble_eq_true rfl) rfl dX10_snow_44 (fun gy85 egy86 => ?_)
      have hgy87 := up_s egy86
      refine z_aload_n C 0 dX10_snow_47 rfl ?_
      refine z_iconst (z := 0) C dX10_snow_48 rfl ?_
      refine z_put (fs' := mF ad (i) (uZ (uZ (uZ (uZ Fvy77 23 (0)) 34 (z)) 32 (0)) 38 (0))) C (by omega) hay1 hgy87 tyX10 tyX10_ok nmX10 rfl inA_X10 38 (by decide) q_1497 rfl rfl rfl rfl (Nat.le_of_ble_eq_true rfl) rfl dX10_snow_49 (fun gy88 egy89 => ?_)
      have hgy90 := up_s egy89
      refine z_aload_n C 0 dX10_snow_52 rfl ?_
      refine z_iconst (z := -1) C dX10_snow_53 rfl ?_
      refine z_put (fs' := mF ad (i) (uZ (uZ (uZ (uZ (uZ Fvy77 23 (0)) 34 (z)) 32 (0)) 38 (0)) 24 (-1))) C (by omega) hay1 hgy90 tyX10 tyX10_ok nmX10 rfl inA_X10 24 (by decide) q_1483 rfl rfl rfl rfl (Nat.le_of_ble_eq_true rfl) rfl dX10_snow_54 (fun gy91 egy92 => ?_)
      have hgy93 := up_s egy92
      refine z_aload_n C 0 dX10_snow_57 rfl ?_
      refine z_aload_n C 0 dX10_snow_58 rfl ?_
      refine z_aload_n C 0 dX10_snow_59 rfl ?_
      refine z_iconst (z := 0) C dX10_snow_60 rfl ?_
      refine z_dup_x1 C dX10_snow_61 rfl rfl ?_
      refine z_put (fs' := mF ad (i) (uZ (uZ (uZ (uZ (uZ (uZ Fvy77 23 (0)) 34 (z)) 32 (0)) 38 (0)) 24 (-1)) 49 (0))) C (by omega) hay1 hgy93 tyX10 tyX10_ok nmX10 rfl inA_X10 49 (by decide) q_1508 rfl rfl rfl rfl (Nat.le_of_ble_eq_true rfl) rfl dX10_snow_62 (fun gy94 egy95 => ?_)
      have hgy96 := up_s egy95
      refine z_dup_x1 C dX10_snow_65 rfl rfl ?_
      refine z_put (fs' := mF ad (i) (uZ (uZ (uZ (uZ (uZ (uZ (uZ Fvy77 23 (0)) 34 (z)) 32 (0)) 38 (0)) 24 (-1)) 49 (0)) 48 (0))) C (by omega) hay1 hgy96 tyX10 tyX10_ok nmX10 rfl inA_X10 48 (by decide) q_1507 rfl rfl rfl rfl (Nat.le_of_ble_eq_true rfl) rfl dX10_snow_66 (fun gy97 egy98 => ?_)
      have hgy99 := up_s egy98
      refine z_put (fs' := mF ad (i) (uZ (uZ (uZ (uZ (uZ (uZ (uZ (uZ Fvy77 23 (0)) 34 (z)) 32 (0)) 38 (0)) 24 (-1)) 49 (0)) 48 (0)) 47 (0))) C (by omega) hay1 hgy99 tyX10 tyX10_ok nmX10 rfl inA_X10 47 (by decide) q_1506 rfl rfl rfl rfl (Nat.le_of_ble_eq_true rfl) rfl dX10_snow_69 (fun gy100 egy101 => ?_)
      have hgy102 := up_s egy101
      refine z_iconst (z := 0) C dX10_snow_72 rfl ?_
      refine z_istore_n (lv' := [(2, .int (zI (0))), (0, .ref (ad i)), (1, .int (zI (z)))]) C dX10_snow_73 rfl (by decide) rfl ?_
      have A : ∀ (n9 : Nat) (ka : Int) (t9 : Nat → Int) (g1 : Nat → va_E), (16 - ka).toNat = n9 → (g1 (i + 22) = iA cs 15 t9) → (∀ j, j ≠ i + 22 → g1 j = gy100 j) → (∀ k : Nat, (k : Int) < ka → t9 k = -1) → (0 ≤ ka ∧ ka ≤ 15) → zV pZ l eZ ({ frames := 8, cells := 0, slots := 0, locals := 480 } : Room) sZ mZ ([.ref (ad i), .int (zI (z))] : List Value).toArray below meth cZ (MQ below (zPost D A (rI0 N ad fun q g' => (0 ≤ q ∧ q ≤ 5) ∧ (∃ F' r' : Nat → Int, okMr cs ad g' i (x + 1) F' r' ∧ ((0 ≤ z ∧ z ≤ F 23 ∧ F' 23 = 0) ∨ ((z < 0 ∨ F 23 < z) ∧ F' 23 = F 23))) ∧ ∀ j, j < i ∨ i + 30 ≤ j → g' j = g j)) ([.ref (ad i), .int (zI (z))] : List Value).toArray sZ ({ frames := 8, cells := 0, slots := 0, locals := 480 } : Room).cells ({ frames := 8, cells := 0, slots := 0, locals := 480 } : Room).slots A) D A 3 (N) ad g1 (0) (0) 74 [(0, .ref (ad i)), (1, .int (zI (z))), (2, .int (zI (ka)))] [] := by
        intro n9
        induction n9 using Nat.strongRecOn with
        | ind n9 ih_A =>
          intro ka t9 g1 hm9 f2A_t9 f3A fTa hvkA
          obtain ⟨nkA, hnkA⟩ : ∃ n9 : Nat, ka = (n9 : Int) := ⟨ka.toNat, by omega⟩
          refine z_iload_n C 2 dX10_snow_74 rfl ?_
          refine z_bipush (z := 15) C dX10_snow_75 (by decide) ?_
          refine z_icmp_ge (tgt := 93) C dX10_snow_77 (by decide) (by omega) (by omega) (fun hby103 => ?_) (fun hby103 => ?_)
          · refine z_aload_n C 0 dX10_snow_93 rfl ?_
            have hgy104 := (f3A (i) (ne_o (i := i) (c := 0) (d := 22) rfl)).trans hgy102
            have hrdy105 : RD (uZ (uZ (uZ (uZ (uZ (uZ (uZ (uZ Fvy77 23 (0)) 34 (z)) 32 (0)) 38 (0)) 24 (-1)) 49 (0)) 48 (0)) 47 (0)) := by
              have q0 : (uZ (uZ (uZ (uZ (uZ (uZ (uZ (uZ Fvy77 23 (0)) 34 (z)) 32 (0)) 38 (0)) 24 (-1)) 49 (0)) 48 (0)) 47 (0)) 32 = 0 := (fn (fn (fn (fn (fn (uZ_s _ _ _) (by decide)) (by decide)) (by decide)) (by decide)) (by decide))
              have q1 : (uZ (uZ (uZ (uZ (uZ (uZ (uZ (uZ Fvy77 23 (0)) 34 (z)) 32 (0)) 38 (0)) 24 (-1)) 49 (0)) 48 (0)) 47 (0)) 33 = F 33 := (fn (fn (fn (fn (fn (fn (fn (fn ((hFvy77 33 (by decide)).trans (fn rfl (by decide))) (by decide)) (by decide)) (by decide)) (by decide)) (by decide)) (by decide)) (by decide)) (by decide))
              have q2 : (uZ (uZ (uZ (uZ (uZ (uZ (uZ (uZ Fvy77 23 (0)) 34 (z)) 32 (0)) 38 (0)) 24 (-1)) 49 (0)) 48 (0)) 47 (0)) 34 = z := (fn (fn (fn (fn (fn (fn (uZ_s _ _ _) (by decide)) (by decide)) (by decide)) (by decide)) (by decide)) (by decide))
              have q3 : (uZ (uZ (uZ (uZ (uZ (uZ (uZ (uZ Fvy77 23 (0)) 34 (z)) 32 (0)) 38 (0)) 24 (-1)) 49 (0)) 48 (0)) 47 (0)) 35 = F 35 := (fn (fn (fn (fn (fn (fn (fn (fn ((hFvy77 35 (by decide)).trans (fn rfl (by decide))) (by decide)) (by decide)) (by decide)) (by decide)) (by decide)) (by decide)) (by decide)) (by decide))
              have q4 : (uZ (uZ (uZ (uZ (uZ (uZ (uZ (uZ Fvy77 23 (0)) 34 (z)) 32 (0)) 38 (0)) 24 (-1)) 49 (0)) 48 (0)) 47 (0)) 36 = F 36 := (fn (fn (fn (fn (fn (fn (fn (fn ((hFvy77 36 (by decide)).trans (fn rfl (by decide))) (by decide)) (by decide)) (by decide)) (by decide)) (by decide)) (by decide)) (by decide)) (by decide))
              have q5 : (uZ (uZ (uZ (uZ (uZ (uZ (uZ (uZ Fvy77 23 (0)) 34 (z)) 32 (0)) 38 (0)) 24 (-1)) 49 (0)) 48 (0)) 47 (0)) 37 = F 37 := (fn (fn (fn (fn (fn (fn (fn (fn ((hFvy77 37 (by decide)).trans (fn rfl (by decide))) (by decide)) (by decide)) (by decide)) (by decide)) (by decide)) (by decide)) (by decide)) (by decide))
              have q6 : (uZ (uZ (uZ (uZ (uZ (uZ (uZ (uZ Fvy77 23 (0)) 34 (z)) 32 (0)) 38 (0)) 24 (-1)) 49 (0)) 48 (0)) 47 (0)) 38 = 0 := (fn (fn (fn (fn (uZ_s _ _ _) (by decide)) (by decide)) (by decide)) (by decide))
              unfold RD; omega
            have hgy106 := up_n egy33 ha13 (ne_o (i := i) (c := 13) (d := 0) rfl)
            have hgy107 := (hfvy77 (i + 13) (ne_o (i := i) (c := 13) (d := 0) rfl)).trans hgy106
            have hgy108 := up_n egy80 hgy107 (ne_o (i := i) (c := 13) (d := 0) rfl)
            have hgy109 := up_n egy83 hgy108 (ne_o (i := i) (c := 13) (d := 0) rfl)
            have hgy110 := up_n egy86 hgy109 (ne_o (i := i) (c := 13) (d := 0) rfl)
            have hgy111 := up_n egy89 hgy110 (ne_o (i := i) (c := 13) (d := 0) rfl)
            have hgy112 := up_n egy92 hgy111 (ne_o (i := i) (c := 13) (d := 0) rfl)
            have hgy113 := up_n egy95 hgy112 (ne_o (i := i) (c := 13) (d := 0) rfl)
            have hgy114 := up_n egy98 hgy113 (ne_o (i := i) (c := 13) (d := 0) rfl)
            have hgy115 := up_n egy101 hgy114 (ne_o (i := i) (c := 13) (d := 0) rfl)
            have hgy116 := (f3A (i + 13) (ne_o (i := i) (c := 13) (d := 22) rfl)).trans hgy115
            refine z_cV (As := []) (rest := []) (ci := 12) C (c_X10_go l D A cs tt N ad _ i hN _ hgy104 _ hgy116 htp hrdy105) (by omega) hay1 hgy104 rfl rfl mv_yX10_go q_1652 hd_yX10_go (by decide) (Nat.le_of_ble_eq_true rfl) (by decide) dX10_snow_94 rfl (kV0 fun gvy117 hvy117 => ?_)
            obtain ⟨⟨Fvy117, hcvy117, hdvy117, hlvy117, hsvy117, hFvy117⟩, hfvy117⟩ := hvy117
            rw [show (uZ (uZ (uZ (uZ (uZ (uZ (uZ (uZ Fvy77 23 (0)) 34 (z)) 32 (0)) 38 (0)) 24 (-1)) 49 (0)) 48 (0)) 47 (0)) 32 = 0 from (fn (fn (fn (fn (fn (uZ_s _ _ _) (by decide)) (by decide)) (by decide)) (by decide)) (by decide))] at hlvy117 hsvy117
            have h34vy117 : Fvy117 34 = z := (hFvy117 34 (by decide) (by decide) (by decide) (by decide) (by decide)).trans ((fn (fn (fn (fn (fn (fn (uZ_s _ _ _) (by decide)) (by decide)) (by decide)) (by decide)) (by decide)) (by decide)))
            obtain ⟨d32vy117, -, d35vy117, d36vy117, -, d37vy117, d38vy117⟩ := id hdvy117
            have h38vy117 : Fvy117 38 = 0 := ((hFvy117 38 (by decide) (by decide) (by decide) (by decide) (by decide)).trans (fn (fn (fn (fn (uZ_s _ _ _) (by decide)) (by decide)) (by decide)) (by decide)))
            have L : ∀ (n9 : Nat) (mu : Int) (F9 : Nat → Int) (g1 : Nat → va_E), (mu).toNat = n9 → (g1 i = mC ad i F9) → (RD F9) → (okTx cs g1 i F9) → ((∀ f, f ≠ 12 → f ≠ 23 → f ≠ 24 → f ≠ 32 → f ≠ 33 → f ≠ 34 → f ≠ 35 → f ≠ 36 → f ≠ 37 → f ≠ 38 → f ≠ 47 → f ≠ 48 → f ≠ 49 → F9 f = F f)) → (∀ j, j ≠ i → j < i + 16 ∨ i + 23 < j → g1 j = g j) → ((F9 38 = 0 ∧ mu = 901 - F9 32) ∨ (F9 38 ≠ 0 ∧ mu = 0)) → (F9 23 = 0 ∧ 0 ≤ z ∧ z ≤ F 23) → zV pZ l eZ ({ frames := 8, cells := 0, slots := 0, locals := 480 } : Room) sZ mZ ([.ref (ad i), .int (zI (z))] : List Value).toArray below meth cZ (MQ below (zPost D A (rI0 N ad fun q g' => (0 ≤ q ∧ q ≤ 5) ∧ (∃ F' r' : Nat → Int, okMr cs ad g' i (x + 1) F' r' ∧ ((0 ≤ z ∧ z ≤ F 23 ∧ F' 23 = 0) ∨ ((z < 0 ∨ F 23 < z) ∧ F' 23 = F 23))) ∧ ∀ j, j < i ∨ i + 30 ≤ j → g' j = g j)) ([.ref (ad i), .int (zI (z))] : List Value).toArray sZ ({ frames := 8, cells := 0, slots := 0, locals := 480 } : Room).cells ({ frames := 8, cells := 0, slots := 0, locals := 480 } : Room).slots A) D A 3 (N) ad g1 (0) (0) 97 [(0, .ref (ad i)), (1, .int (zI (z)))] [] := by
              intro n9
              induction n9 using Nat.strongRecOn with
              | ind n9 ih_L =>
                intro mu F9 g1 hm9 f2L fRL fTL fF f3L hmu hs23
                have hay118 : zAt ad (i) (ad i) := rfl
                have hay119 : zAt ad (i + 1) (ad (i + 1)) := rfl
                have hay120 : zAt ad (i + 2) (ad (i + 2)) := rfl
                have hay121 : zAt ad (i + 3) (ad (i + 3)) := rfl
                have hay122 : zAt ad (i + 4) (ad (i + 4)) := rfl
                have hay123 : zAt ad (i + 5) (ad (i + 5)) := rfl
                have hay124 : zAt ad (i + 6) (ad (i + 6)) := rfl
                have hay125 : zAt ad (i + 7) (ad (i + 7)) := rfl
                have hay126 : zAt ad (i + 8) (ad (i + 8)) := rfl
                have hay127 : zAt ad (i + 9) (ad (i + 9)) := rfl
                have hay128 : zAt ad (i + 10) (ad (i + 10)) := rfl
                have hay129 : zAt ad (i + 11) (ad (i + 11)) := rfl
                have hay130 : zAt ad (i + 12) (ad (i + 12)) := rfl
                have hay131 : zAt ad (i + 13) (ad (i + 13)) := rfl
                have hay132 : zAt ad (i + 14) (ad (i + 14)) := rfl
                have hay133 : zAt ad (i + 15) (ad (i + 15)) := rfl
                have hay134 : zAt ad (i + 24) (ad (i + 24)) := rfl
                have hay135 : zAt ad (i + 25) (ad (i + 25)) := rfl
                have hay136 : zAt ad (i + 26) (ad (i + 26)) := rfl
                have hay137 : zAt ad (i + 27) (ad (i + 27)) := rfl
                have hay138 : zAt ad (i + 28) (ad (i + 28)) := rfl
                have hay139 : zAt ad (i + 29) (ad (i + 29)) := rfl
                obtain ⟨d32L, -, d35L, d36L, -, d37L, d38L⟩ := id fRL
                refine z_aload_n C 0 dX10_snow_97 rfl ?_
                refine z_get (v := .int (zI (F9 38))) C (by omega) hay118 f2L rfl inA_X10 38 (by decide) q_1497 rfl (fv (F := F9) (f := 38) rfl) dX10_snow_98 ?_
                refine z_if_ne (tgt := 159) C dX10_snow_101 (by decide) (by omega) (fun hby140 => ?_) (fun hby140 => ?_)
                · refine z_aload_n C 0 dX10_snow_159 rfl ?_
                  refine z_get (v := .int (zI (F9 38))) C (by omega) hay118 f2L rfl inA_X10 38 (by decide) q_1497 rfl (fv (F := F9) (f := 38) rfl) dX10_snow_160 ?_
                  refine z_if_eq (tgt := 181) C dX10_snow_163 (by decide) (by omega) (fun hby141 => ?_) (fun hby141 => ?_)
                  · refine z_aload_n C 0 dX10_snow_181 rfl ?_
                    have hey142 : F9 13 = F 13 := (fF 13 (by decide) (by decide) (by decide) (by decide) (by decide) (by decide) (by decide) (by decide) (by decide) (by decide) (by decide) (by decide) (by decide))
                    have hey143 : F9 14 = F 14 := (fF 14 (by decide) (by decide) (by decide) (by decide) (by decide) (by decide) (by decide) (by decide) (by decide) (by decide) (by decide) (by decide) (by decide))
                    have hey144 : F9 15 = F 15 := (fF 15 (by decide) (by decide) (by decide) (by decide) (by decide) (by decide) (by decide) (by decide) (by decide) (by decide) (by decide) (by decide) (by decide))
                    have hey145 : F9 16 = F 16 := (fF 16 (by decide) (by decide) (by decide) (by decide) (by decide) (by decide) (by decide) (by decide) (by decide) (by decide) (by decide) (by decide) (by decide))
                    have hey146 : F9 17 = F 17 := (fF 17 (by decide) (by decide) (by decide) (by decide) (by decide) (by decide) (by decide) (by decide) (by decide) (by decide) (by decide) (by decide) (by decide))
                    have hey147 : F9 18 = F 18 := (fF 18 (by decide) (by decide) (by decide) (by decide) (by decide) (by decide) (by decide) (by decide) (by decide) (by decide) (by decide) (by decide) (by decide))
                    have hey148 : F9 19 = F 19 := (fF 19 (by decide) (by decide) (by decide) (by decide) (by decide) (by decide) (by decide) (by decide) (by decide) (by decide) (by decide) (by decide) (by decide))
                    have hey149 : F9 20 = F 20 := (fF 20 (by decide) (by decide) (by decide) (by decide) (by decide) (by decide) (by decide) (by decide) (by decide) (by decide) (by decide) (by decide) (by decide))
                    have hey150 : F9 23 = F9 23 := rfl
                    have hey151 : F9 25 = F 25 := (fF 25 (by decide) (by decide) (by decide) (by decide) (by decide) (by decide) (by decide) (by decide) (by decide) (by decide) (by decide) (by decide) (by decide))
                    have hey152 : F9 27 = F 27 := (fF 27 (by decide) (by decide) (by decide) (by decide) (by decide) (by decide) (by decide) (by decide) (by decide) (by decide) (by decide) (by decide) (by decide))
                    have hey153 : F9 28 = F 28 := (fF 28 (by decide) (by decide) (by decide) (by decide) (by decide) (by decide) (by decide) (by decide) (by decide) (by decide) (by decide) (by decide) (by decide))
                    have hey154 : F9 29 = F 29 := (fF 29 (by decide) (by decide) (by decide) (by decide) (by decide) (by decide) (by decide) (by decide) (by decide) (by decide) (by decide) (by decide) (by decide))
                    have hey155 : F9 32 = F9 32 := rfl
                    have hey156 : F9 34 = F9 34 := rfl
                    have hey157 : F9 35 = F9 35 := rfl
                    have hey158 : F9 36 = F9 36 := rfl
                    have hey159 : F9 37 = F9 37 := rfl
                    have hey160 : F9 38 = F9 38 := rfl
                    have hey161 : F9 47 = F9 47 := rfl
                    have hey162 : F9 48 = F9 48 := rfl
                    have hey163 : F9 49 = F9 49 := rfl
                    have hKy164 : okF F9 := by unfold okF; omega
                    have hMy165 : okMr cs ad g1 i x F9 r := okMr.upd2 hM f2L hKy164 fRL fTL ((f3L _ (by omega) (by omega)).trans ha1) hA (fun j a b c => by
                        exact Or.inl (by rw [f3L _ (by omega) (by omega)]))
                    refine z_cV (As := []) (rest := []) (ci := 12) C (c_X10_becomes l D A cs tt N ad _ i hN x hx _ _ hMy165 fTL) (by omega) hay118 f2L rfl rfl mv_yX10_becomes q_1713 hd_yX10_becomes (by decide) (Nat.le_of_ble_eq_true rfl) (by decide) dX10_snow_182 rfl (kV0 fun gvy166 hvy166 => ?_)
                    obtain ⟨⟨Fvy166, rvy166, hMvy166, h23vy166⟩, hfvy166⟩ := hvy166
                    refine z_iconst (z := 0) C dX10_snow_185 rfl ?_
                    have hMx : okMr cs ad gvy166 i (x + 1) Fvy166 rvy166 := okMr.mono hMvy166 (by omega)
                    exact z_iret C hr hlk dX10_snow_186 (by decide) (by decide) ⟨0, rfl, rfl, rfl, by omega, ⟨_, _, hMx, by omega⟩, fun j j1 => by rw [hfvy166 _ (by omega)]; rw [f3L _ (by omega) (by omega)]⟩
                  · refine z_aload_n C 0 dX10_snow_166 rfl ?_
                    refine z_get (v := .ref (ad (i + 11))) C (by omega) hay118 f2L rfl inA_X10 10 (by decide) q_1469 rfl rfl dX10_snow_167 ?_
                    refine z_iconst (z := 0) C dX10_snow_170 rfl ?_
                    refine z_dup2 C dX10_snow_171 rfl rfl ?_
                    refine z_iald C (by omega) hay129 ((f3L _ (by omega) (by omega)).trans ha11) (0) (by omega) (by omega) (by decide) dX10_snow_172 ?_
                    refine z_iconst (z := 1) C dX10_snow_173 rfl ?_
                    refine z_iadd C dX10_snow_174 ?_
                    refine z_iast C (by omega) hay129 ((f3L _ (by omega) (by omega)).trans ha11) (0) (by omega) (by omega) (by decide) dX10_snow_175 (fun gy167 egy168 => ?_)
                    have hgy169 := up_s egy168
                    refine z_aload_n C 0 dX10_snow_176 rfl ?_
                    have hgy170 := up_n egy168 f2L (ne_o (i := i) (c := 0) (d := 11) rfl)
                    refine z_get (v := .int (zI (F9 38))) C (by omega) hay118 hgy170 rfl inA_X10 38 (by decide) q_1497 rfl (fv (F := F9) (f := 38) rfl) dX10_snow_177 ?_
                    have hey171 : F9 13 = F 13 := (fF 13 (by decide) (by decide) (by decide) (by decide) (by decide) (by decide) (by decide) (by decide) (by decide) (by decide) (by decide) (by decide) (by decide))
                    have hey172 : F9 14 = F 14 := (fF 14 (by decide) (by decide) (by decide) (by decide) (by decide) (by decide) (by decide) (by decide) (by decide) (by decide) (by decide) (by decide) (by decide))
                    have hey173 : F9 15 = F 15 := (fF 15 (by decide) (by decide) (by decide) (by decide) (by decide) (by decide) (by decide) (by decide) (by decide) (by decide) (by decide) (by decide) (by decide))
                    have hey174 : F9 16 = F 16 := (fF 16 (by decide) (by decide) (by decide) (by decide) (by decide) (by decide) (by decide) (by decide) (by decide) (by decide) (by decide) (by decide) (by decide))
                    have hey175 : F9 17 = F 17 := (fF 17 (by decide) (by decide) (by decide) (by decide) (by decide) (by decide) (by decide) (by decide) (by decide) (by decide) (by decide) (by decide) (by decide))
                    have hey176 : F9 18 = F 18 := (fF 18 (by decide) (by decide) (by decide) (by decide) (by decide) (by decide) (by decide) (by decide) (by decide) (by decide) (by decide) (by decide) (by decide))
                    have hey177 : F9 19 = F 19 := (fF 19 (by decide) (by decide) (by decide) (by decide) (by decide) (by decide) (by decide) (by decide) (by decide) (by decide) (by decide) (by decide) (by decide))
                    have hey178 : F9 20 = F 20 := (fF 20 (by decide) (by decide) (by decide) (by decide) (by decide) (by decide) (by decide) (by decide) (by decide) (by decide) (by decide) (by decide) (by decide))
                    have hey179 : F9 23 = F9 23 := rfl
                    have hey180 : F9 25 = F 25 := (fF 25 (by decide) (by decide) (by decide) (by decide) (by decide) (by decide) (by decide) (by decide) (by decide) (by decide) (by decide) (by decide) (by decide))
                    have hey181 : F9 27 = F 27 := (fF 27 (by decide) (by decide) (by decide) (by decide) (by decide) (by decide) (by decide) (by decide) (by decide) (by decide) (by decide) (by decide) (by decide))
                    have hey182 : F9 28 = F 28 := (fF 28 (by decide) (by decide) (by decide) (by decide) (by decide) (by decide) (by decide) (by decide) (by decide) (by decide) (by decide) (by decide) (by decide))
                    have hey183 : F9 29 = F 29 := (fF 29 (by decide) (by decide) (by decide) (by decide) (by decide) (by decide) (by decide) (by decide) (by decide) (by decide) (by decide) (by decide) (by decide))
                    have hey184 : F9 32 = F9 32 := rfl
                    have hey185 : F9 34 = F9 34 := rfl
                    have hey186 : F9 35 = F9 35 := rfl
                    have hey187 : F9 36 = F9 36 := rfl
                    have hey188 : F9 37 = F9 37 := rfl
                    have hey189 : F9 38 = F9 38 := rfl
                    have hey190 : F9 47 = F9 47 := rfl
                    have hey191 : F9 48 = F9 48 := rfl
                    have hey192 : F9 49 = F9 49 := rfl
                    have hKy193 : okF F9 := by unfold okF; omega
                    have htxy194 : okTx cs gy167 i F9 := fTL.mv (fun j a b => by rw [egy168, va_up_ne _ _ (by omega)]) ⟨by omega, by omega, by omega, by omega⟩
                    have hgy195 := up_n egy168 ((f3L _ (by omega) (by omega)).trans ha1) (ne_o (i := i) (c := 1) (d := 11) rfl)
                    have hMy196 : okMr cs ad gy167 i x F9 r := okMr.upd2 hM hgy170 hKy193 fRL htxy194 hgy195 hA (fun j a b c => by
                        by_cases e0 : j = i + 11
                        · exact Or.inr ⟨11, _, e0, lsP.l (by decide), by rw [e0]; exact hgy169⟩
                        exact Or.inl (by rw [egy168, va_up_ne _ _ (by omega)]; rw [f3L _ (by omega) (by omega)]))
                    have hMx := okMr.mono (y := x + 1) hMy196 (by omega)
                    exact z_iret C hr hlk dX10_snow_180 (by decide) (by decide) ⟨F9 38, rfl, rfl, rfl, by omega, ⟨_, _, hMx, by omega⟩, fun j j1 => by rw [egy168, va_up_ne _ _ (by omega)]; rw [f3L _ (by omega) (by omega)]⟩
                · refine z_aload_n C 0 dX10_snow_104 rfl ?_
                  refine z_get (v := .int (zI (F9 35))) C (by omega) hay118 f2L rfl inA_X10 35 (by decide) q_1494 rfl (fv (F := F9) (f := 35) rfl) dX10_snow_105 ?_
                  refine z_if_eq (tgt := 159) C dX10_snow_108 (by decide) (by omega) (fun hby197 => ?_) (fun hby197 => ?_)
                  · refine z_aload_n C 0 dX10_snow_159 rfl ?_
                    refine z_get (v := .int (zI (F9 38))) C (by omega) hay118 f2L rfl inA_X10 38 (by decide) q_1497 rfl (fv (F := F9) (f := 38) rfl) dX10_snow_160 ?_
                    refine z_if_eq (tgt := 181) C dX10_snow_163 (by decide) (by omega) (fun hby198 => ?_) (fun hby198 => ?_)
                    · refine z_aload_n C 0 dX10_snow_181 rfl ?_
                      have hey199 : F9 13 = F 13 := (fF 13 (by decide) (by decide) (by decide) (by decide) (by decide) (by decide) (by decide) (by decide) (by decide) (by decide) (by decide) (by decide) (by decide))
                      have hey200 : F9 14 = F 14 := (fF 14 (by decide) (by decide) (by decide) (by decide) (by decide) (by decide) (by decide) (by decide) (by decide) (by decide) (by decide) (by decide) (by decide))
                      have hey201 : F9 15 = F 15 := (fF 15 (by decide) (by decide) (by decide) (by decide) (by decide) (by decide) (by decide) (by decide) (by decide) (by decide) (by decide) (by decide) (by decide))
                      have hey202 : F9 16 = F 16 := (fF 16 (by decide) (by decide) (by decide) (by decide) (by decide) (by decide) (by decide) (by decide) (by decide) (by decide) (by decide) (by decide) (by decide))
                      have hey203 : F9 17 = F 17 := (fF 17 (by decide) (by decide) (by decide) (by decide) (by decide) (by decide) (by decide) (by decide) (by decide) (by decide) (by decide) (by decide) (by decide))
                      have hey204 : F9 18 = F 18 := (fF 18 (by decide) (by decide) (by decide) (by decide) (by decide) (by decide) (by decide) (by decide) (by decide) (by decide) (by decide) (by decide) (by decide))
                      have hey205 : F9 19 = F 19 := (fF 19 (by decide) (by decide) (by decide) (by decide) (by decide) (by decide) (by decide) (by decide) (by decide) (by decide) (by decide) (by decide) (by decide))
                      have hey206 : F9 20 = F 20 := (fF 20 (by decide) (by decide) (by decide) (by decide) (by decide) (by decide) (by decide) (by decide) (by decide) (by decide) (by decide) (by decide) (by decide))
                      have hey207 : F9 23 = F9 23 := rfl
                      have hey208 : F9 25 = F 25 := (fF 25 (by decide) (by decide) (by decide) (by decide) (by decide) (by decide) (by decide) (by decide) (by decide) (by decide) (by decide) (by decide) (by decide))
                      have hey209 : F9 27 = F 27 := (fF 27 (by decide) (by decide) (by decide) (by decide) (by decide) (by decide) (by decide) (by decide) (by decide) (by decide) (by decide) (by decide) (by decide))
                      have hey210 : F9 28 = F 28 := (fF 28 (by decide) (by decide) (by decide) (by decide) (by decide) (by decide) (by decide) (by decide) (by decide) (by decide) (by decide) (by decide) (by decide))
                      have hey211 : F9 29 = F 29 := (fF 29 (by decide) (by decide) (by decide) (by decide) (by decide) (by decide) (by decide) (by decide) (by decide) (by decide) (by decide) (by decide) (by decide))
                      have hey212 : F9 32 = F9 32 := rfl
                      have hey213 : F9 34 = F9 34 := rfl
                      have hey214 : F9 35 = F9 35 := rfl
                      have hey215 : F9 36 = F9 36 := rfl
                      have hey216 : F9 37 = F9 37 := rfl
                      have hey217 : F9 38 = F9 38 := rfl
                      have hey218 : F9 47 = F9 47 := rfl
                      have hey219 : F9 48 = F9 48 := rfl
                      have hey220 : F9 49 = F9 49 := rfl
                      have hKy221 : okF F9 := by unfold okF; omega
                      have hMy222 : okMr cs ad g1 i x F9 r := okMr.upd2 hM f2L hKy221 fRL fTL ((f3L _ (by omega) (by omega)).trans ha1) hA (fun j a b c => by
                          exact Or.inl (by rw [f3L _ (by omega) (by omega)]))
                      refine z_cV (As := []) (rest := []) (ci := 12) C (c_X10_becomes l D A cs tt N ad _ i hN x hx _ _ hMy222 fTL) (by omega) hay118 f2L rfl rfl mv_yX10_becomes q_1713 hd_yX10_becomes (by decide) (Nat.le_of_ble_eq_true rfl) (by decide) dX10_snow_182 rfl (kV0 fun gvy223 hvy223 => ?_)
                      obtain ⟨⟨Fvy223, rvy223, hMvy223, h23vy223⟩, hfvy223⟩ := hvy223
                      refine z_iconst (z := 0) C dX10_snow_185 rfl ?_
                      have hMx : okMr cs ad gvy223 i (x + 1) Fvy223 rvy223 := okMr.mono hMvy223 (by omega)
                      exact z_iret C hr hlk dX10_snow_186 (by decide) (by decide) ⟨0, rfl, rfl, rfl, by omega, ⟨_, _, hMx, by omega⟩, fun j j1 => by rw [hfvy223 _ (by omega)]; rw [f3L _ (by omega) (by omega)]⟩
                    · refine z_aload_n C 0 dX10_snow_166 rfl ?_
                      refine z_get (v := .ref (ad (i + 11))) C (by omega) hay118 f2L rfl inA_X10 10 (by decide) q_1469 rfl rfl dX10_snow_167 ?_
                      refine z_iconst (z := 0) C dX10_snow_170 rfl ?_
                      refine z_dup2 C dX10_snow_171 rfl rfl ?_
                      refine z_iald C (by omega) hay129 ((f3L _ (by omega) (by omega)).trans ha11) (0) (by omega) (by omega) (by decide) dX10_snow_172 ?_
                      refine z_iconst (z := 1) C dX10_snow_173 rfl ?_
                      refine z_iadd C dX10_snow_174 ?_
                      refine z_iast C (by omega) hay129 ((f3L _ (by omega) (by omega)).trans ha11) (0) (by omega) (by omega) (by decide) dX10_snow_175 (fun gy224 egy225 => ?_)
                      have hgy226 := up_s egy225
                      refine z_aload_n C 0 dX10_snow_176 rfl ?_
                      have hgy227 := up_n egy225 f2L (ne_o (i := i) (c := 0) (d := 11) rfl)
                      refine z_get (v := .int (zI (F9 38))) C (by omega) hay118 hgy227 rfl inA_X10 38 (by decide) q_1497 rfl (fv (F := F9) (f := 38) rfl) dX10_snow_177 ?_
                      have hey228 : F9 13 = F 13 := (fF 13 (by decide) (by decide) (by decide) (by decide) (by decide) (by decide) (by decide) (by decide) (by decide) (by decide) (by decide) (by decide) (by decide))
                      have hey229 : F9 14 = F 14 := (fF 14 (by decide) (by decide) (by decide) (by decide) (by decide) (by decide) (by decide) (by decide) (by decide) (by decide) (by decide) (by decide) (by decide))
                      have hey230 : F9 15 = F 15 := (fF 15 (by decide) (by decide) (by decide) (by decide) (by decide) (by decide) (by decide) (by decide) (by decide) (by decide) (by decide) (by decide) (by decide))
                      have hey231 : F9 16 = F 16 := (fF 16 (by decide) (by decide) (by decide) (by decide) (by decide) (by decide) (by decide) (by decide) (by decide) (by decide) (by decide) (by decide) (by decide))
                      have hey232 : F9 17 = F 17 := (fF 17 (by decide) (by decide) (by decide) (by decide) (by decide) (by decide) (by decide) (by decide) (by decide) (by decide) (by decide) (by decide) (by decide))
                      have hey233 : F9 18 = F 18 := (fF 18 (by decide) (by decide) (by decide) (by decide) (by decide) (by decide) (by decide) (by decide) (by decide) (by decide) (by decide) (by decide) (by decide))
                      have hey234 : F9 19 = F 19 := (fF 19 (by decide) (by decide) (by decide) (by decide) (by decide) (by decide) (by decide) (by decide) (by decide) (by decide) (by decide) (by decide) (by decide))
                      have hey235 : F9 20 = F 20 := (fF 20 (by decide) (by decide) (by decide) (by decide) (by decide) (by decide) (by decide) (by decide) (by decide) (by decide) (by decide) (by decide) (by decide))
                      have hey236 : F9 23 = F9 23 := rfl
                      have hey237 : F9 25 = F 25 := (fF 25 (by decide) (by decide) (by decide) (by decide) (by decide) (by decide) (by decide) (by decide) (by decide) (by decide) (by decide) (by decide) (by decide))
                      have hey238 : F9 27 = F 27 := (fF 27 (by decide) (by decide) (by decide) (by decide) (by decide) (by decide) (by decide) (by decide) (by decide) (by decide) (by decide) (by decide) (by decide))
                      have hey239 : F9 28 = F 28 := (fF 28 (by decide) (by decide) (by decide) (by decide) (by decide) (by decide) (by decide) (by decide) (by decide) (by decide) (by decide) (by decide) (by decide))
                      have hey240 : F9 29 = F 29 := (fF 29 (by decide) (by decide) (by decide) (by decide) (by decide) (by decide) (by decide) (by decide) (by decide) (by decide) (by decide) (by decide) (by decide))
                      have hey241 : F9 32 = F9 32 := rfl
                      have hey242 : F9 34 = F9 34 := rfl
                      have hey243 : F9 35 = F9 35 := rfl
                      have hey244 : F9 36 = F9 36 := rfl
                      have hey245 : F9 37 = F9 37 := rfl
                      have hey246 : F9 38 = F9 38 := rfl
                      have hey247 : F9 47 = F9 47 := rfl
                      have hey248 : F9 48 = F9 48 := rfl
                      have hey249 : F9 49 = F9 49 := rfl
                      have hKy250 : okF F9 := by unfold okF; omega
                      have htxy251 : okTx cs gy224 i F9 := fTL.mv (fun j a b => by rw [egy225, va_up_ne _ _ (by omega)]) ⟨by omega, by omega, by omega, by omega⟩
                      have hgy252 := up_n egy225 ((f3L _ (by omega) (by omega)).trans ha1) (ne_o (i := i) (c := 1) (d := 11) rfl)
                      have hMy253 : okMr cs ad gy224 i x F9 r := okMr.upd2 hM hgy227 hKy250 fRL htxy251 hgy252 hA (fun j a b c => by
                          by_cases e0 : j = i + 11
                          · exact Or.inr ⟨11, _, e0, lsP.l (by decide), by rw [e0]; exact hgy226⟩
                          exact Or.inl (by rw [egy225, va_up_ne _ _ (by omega)]; rw [f3L _ (by omega) (by omega)]))
                      have hMx := okMr.mono (y := x + 1) hMy253 (by omega)
                      exact z_iret C hr hlk dX10_snow_180 (by decide) (by decide) ⟨F9 38, rfl, rfl, rfl, by omega, ⟨_, _, hMx, by omega⟩, fun j j1 => by rw [egy225, va_up_ne _ _ (by omega)]; rw [f3L _ (by omega) (by omega)]⟩
                  · refine z_aload_n C 0 dX10_snow_111 rfl ?_
                    have hb0 : F9 38 = 0 := by omega
                    have hey255 : F9 32 = F9 32 := rfl
                    have hey256 : F9 35 = F9 35 := rfl
                    have hey257 : F9 37 = F9 37 := rfl
                    have hey258 : F9 47 = F9 47 := rfl
                    have hey259 : F9 48 = F9 48 := rfl
                    have hey260 : F9 49 = F9 49 := rfl
                    refine z_cV (As := []) (rest := []) (ci := 12) C (c_X10_clause1 l D A cs tt N ad _ i hN _ f2L _ ((f3L _ (by omega) (by omega)).trans ha13) htp fRL hb0 fTL (by omega)) (by omega) hay118 f2L rfl rfl mv_yX10_clause1 q_1670 hd_yX10_clause1 (by decide) (Nat.le_of_ble_eq_true rfl) (by decide) dX10_snow_112 rfl (kV0 fun gvy254 hvy254 => ?_)
                    obtain ⟨⟨Fvy254, hcvy254, hdvy254, hlvy254, hsvy254, hFvy254, hxvy254⟩, hfvy254⟩ := hvy254
                    have h34vy254 : Fvy254 34 = F9 34 := (hFvy254 34 (by decide) (by decide) (by decide) (by decide) (by decide) (by decide) (by decide) (by decide) (by decide) (by decide)).trans (rfl)
                    obtain ⟨d32vy254, d33vy254, d35vy254, d36vy254, d2vy254, d37vy254, d38vy254⟩ := id hdvy254
                    rcases (show Fvy254 38 = 0 ∨ Fvy254 38 ≠ 0 by omega) with hxxFvy254 | hxxFvy254
                    · have hppFvy254 := hsvy254 hxxFvy254
                      refine z_aload_n C 0 dX10_snow_115 rfl ?_
                      refine z_get (v := .int (zI (0))) C (by omega) hay118 hcvy254 rfl inA_X10 38 (by decide) q_1497 rfl (fv (F := Fvy254) (f := 38) hxxFvy254) dX10_snow_116 ?_
                      refine z_if_ne (tgt := 97) C dX10_snow_119 (by decide) (by omega) (fun h => absurd h (by omega)) (fun _ => ?_)
                      refine z_aload_n C 0 dX10_snow_122 rfl ?_
                      refine z_aload_n C 0 dX10_snow_123 rfl ?_
                      refine z_get (v := .int (zI (Fvy254 35))) C (by omega) hay118 hcvy254 rfl inA_X10 35 (by decide) q_1494 rfl (fv (F := Fvy254) (f := 35) rfl) dX10_snow_124 ?_
                      refine z_iconst (z := 3) C dX10_snow_127 rfl ?_
                      refine z_icmp_ne (tgt := 144) C dX10_snow_128 (by decide) (by omega) (by omega) (fun hby261 => ?_) (fun hby261 => ?_)
                      · refine z_iconst (z := 0) C dX10_snow_144 rfl ?_
                        refine z_iconst (z := 1) C dX10_snow_145 rfl ?_
                        have h38vy262 : Fvy254 38 = 0 := hxxFvy254
                        refine z_cV (As := [.int (zI (0)), .int (zI (1))]) (rest := []) (ci := 12) C (c_X10_wants l D A cs tt N ad _ i hN _ hcvy254 (by omega) (0) (by omega) (1) (by omega)) (by omega) hay118 hcvy254 rfl rfl mv_yX10_wants q_1678 hd_yX10_wants (by decide) (Nat.le_of_ble_eq_true rfl) (by decide) dX10_snow_146 rfl (kI0 fun vy262 gvy262 hvy262 => ?_)
                        obtain ⟨⟨Fvy262, hcvy262, hqvy262, hbvy262, hFvy262⟩, hfvy262⟩ := hvy262
                        have hdvy262 : RD Fvy262 := RD.w hdvy254 hFvy262 hbvy262
                        obtain rfl : vy262 = 0 := by omega
                        have e38vy262 : 1 ≤ Fvy262 38 := by omega
                        clear hqvy262
                        refine z_if_eq (tgt := 97) C dX10_snow_149 (by decide) (by omega) (fun _ => ?_) (fun h => absurd h (by omega))
                        have hey263 : Fvy262 23 = F9 23 := ((hFvy262 23 (by decide) (by decide)).trans (hFvy254 23 (by decide) (by decide) (by decide) (by decide) (by decide) (by decide) (by decide) (by decide) (by decide) (by decide)))
                        have hey264 : Fvy262 32 = Fvy254 32 := (hFvy262 32 (by decide) (by decide))
                        have hey265 : Fvy262 34 = F9 34 := ((hFvy262 34 (by decide) (by decide)).trans (hFvy254 34 (by decide) (by decide) (by decide) (by decide) (by decide) (by decide) (by decide) (by decide) (by decide) (by decide)))
                        have hey266 : Fvy262 35 = Fvy254 35 := (hFvy262 35 (by decide) (by decide))
                        have hey267 : Fvy262 38 = Fvy262 38 := rfl
                        have hey268 : Fvy262 47 = Fvy254 47 := (hFvy262 47 (by decide) (by decide))
                        have hey269 : Fvy262 48 = Fvy254 48 := (hFvy262 48 (by decide) (by decide))
                        have hey270 : Fvy262 49 = Fvy254 49 := (hFvy262 49 (by decide) (by decide))
                        have htxy271 : okTx cs gvy262 i Fvy262 := hxvy254.mv (fun j a b => by rw [hfvy262 _ (by omega)]) ⟨by omega, by omega, by omega, by omega⟩
                        have hFy272 : ∀ f, f ≠ 24 → f ≠ 32 → f ≠ 33 → f ≠ 35 → f ≠ 36 → f ≠ 37 → f ≠ 38 → f ≠ 47 → f ≠ 48 → f ≠ 49 → Fvy262 f = F9 f := fun f n24 n32 n33 n35 n36 n37 n38 n47 n48 n49 => ((hFvy262 f n24 n38).trans (hFvy254 f n24 n32 n33 n35 n36 n37 n38 n47 n48 n49))
                        have hFFy273 : (∀ f, f ≠ 12 → f ≠ 23 → f ≠ 24 → f ≠ 32 → f ≠ 33 → f ≠ 34 → f ≠ 35 → f ≠ 36 → f ≠ 37 → f ≠ 38 → f ≠ 47 → f ≠ 48 → f ≠ 49 → Fvy262 f = F f) := fun f n12 n23 n24 n32 n33 n34 n35 n36 n37 n38 n47 n48 n49 => (hFy272 f n24 n32 n33 n35 n36 n37 n38 n47 n48 n49).trans (fF f n12 n23 n24 n32 n33 n34 n35 n36 n37 n38 n47 n48 n49)
                        obtain ⟨muy274, hmuy274⟩ : ∃ m9 : Int, (Fvy262 38 = 0 ∧ m9 = 901 - Fvy262 32) ∨ (Fvy262 38 ≠ 0 ∧ m9 = 0) := by
                          by_cases e : Fvy262 38 = 0
                          · exact ⟨_, Or.inl ⟨e, rfl⟩⟩
                          · exact ⟨0, Or.inr ⟨e, rfl⟩⟩
                        refine z_lv (lv' := [(0, .ref (ad i)), (1, .int (zI (z)))]) [0, 1] rfl ?_
                        exact ih_L _ (by omega) muy274 _ gvy262 rfl hcvy262 hdvy262 htxy271 hFFy273 (fun j j1 j2 => by rw [hfvy262 _ (by omega)]; rw [hfvy254 _ (by omega) (by omega)]; rw [f3L _ (by omega) (by omega)]) hmuy274 (by omega)
                      · refine z_aload_n C 0 dX10_snow_131 rfl ?_
                        refine z_get (v := .int (zI (Fvy254 36))) C (by omega) hay118 hcvy254 rfl inA_X10 36 (by decide) q_1495 rfl (fv (F := Fvy254) (f := 36) rfl) dX10_snow_132 ?_
                        refine z_bipush (z := 59) C dX10_snow_135 (by decide) ?_
                        refine z_icmp_ne (tgt := 144) C dX10_snow_137 (by decide) (by omega) (by omega) (fun hby275 => ?_) (fun hby275 => ?_)
                        · refine z_iconst (z := 0) C dX10_snow_144 rfl ?_
                          refine z_iconst (z := 1) C dX10_snow_145 rfl ?_
                          have h38vy276 : Fvy254 38 = 0 := hxxFvy254
                          refine z_cV (As := [.int (zI (0)), .int (zI (1))]) (rest := []) (ci := 12) C (c_X10_wants l D A cs tt N ad _ i hN _ hcvy254 (by omega) (0) (by omega) (1) (by omega)) (by omega) hay118 hcvy254 rfl rfl mv_yX10_wants q_1678 hd_yX10_wants (by decide) (Nat.le_of_ble_eq_true rfl) (by decide) dX10_snow_146 rfl (kI0 fun vy276 gvy276 hvy276 => ?_)
                          obtain ⟨⟨Fvy276, hcvy276, hqvy276, hbvy276, hFvy276⟩, hfvy276⟩ := hvy276
                          have hdvy276 : RD Fvy276 := RD.w hdvy254 hFvy276 hbvy276
                          obtain rfl : vy276 = 0 := by omega
                          have e38vy276 : 1 ≤ Fvy276 38 := by omega
                          clear hqvy276
                          refine z_if_eq (tgt := 97) C dX10_snow_149 (by decide) (by omega) (fun _ => ?_) (fun h => absurd h (by omega))
                          have hey277 : Fvy276 23 = F9 23 := ((hFvy276 23 (by decide) (by decide)).trans (hFvy254 23 (by decide) (by decide) (by decide) (by decide) (by decide) (by decide) (by decide) (by decide) (by decide) (by decide)))
                          have hey278 : Fvy276 32 = Fvy254 32 := (hFvy276 32 (by decide) (by decide))
                          have hey279 : Fvy276 34 = F9 34 := ((hFvy276 34 (by decide) (by decide)).trans (hFvy254 34 (by decide) (by decide) (by decide) (by decide) (by decide) (by decide) (by decide) (by decide) (by decide) (by decide)))
                          have hey280 : Fvy276 35 = Fvy254 35 := (hFvy276 35 (by decide) (by decide))
                          have hey281 : Fvy276 38 = Fvy276 38 := rfl
                          have hey282 : Fvy276 47 = Fvy254 47 := (hFvy276 47 (by decide) (by decide))
                          have hey283 : Fvy276 48 = Fvy254 48 := (hFvy276 48 (by decide) (by decide))
                          have hey284 : Fvy276 49 = Fvy254 49 := (hFvy276 49 (by decide) (by decide))
                          have htxy285 : okTx cs gvy276 i Fvy276 := hxvy254.mv (fun j a b => by rw [hfvy276 _ (by omega)]) ⟨by omega, by omega, by omega, by omega⟩
                          have hFy286 : ∀ f, f ≠ 24 → f ≠ 32 → f ≠ 33 → f ≠ 35 → f ≠ 36 → f ≠ 37 → f ≠ 38 → f ≠ 47 → f ≠ 48 → f ≠ 49 → Fvy276 f = F9 f := fun f n24 n32 n33 n35 n36 n37 n38 n47 n48 n49 => ((hFvy276 f n24 n38).trans (hFvy254 f n24 n32 n33 n35 n36 n37 n38 n47 n48 n49))
                          have hFFy287 : (∀ f, f ≠ 12 → f ≠ 23 → f ≠ 24 → f ≠ 32 → f ≠ 33 → f ≠ 34 → f ≠ 35 → f ≠ 36 → f ≠ 37 → f ≠ 38 → f ≠ 47 → f ≠ 48 → f ≠ 49 → Fvy276 f = F f) := fun f n12 n23 n24 n32 n33 n34 n35 n36 n37 n38 n47 n48 n49 => (hFy286 f n24 n32 n33 n35 n36 n37 n38 n47 n48 n49).trans (fF f n12 n23 n24 n32 n33 n34 n35 n36 n37 n38 n47 n48 n49)
                          obtain ⟨muy288, hmuy288⟩ : ∃ m9 : Int, (Fvy276 38 = 0 ∧ m9 = 901 - Fvy276 32) ∨ (Fvy276 38 ≠ 0 ∧ m9 = 0) := by
                            by_cases e : Fvy276 38 = 0
                            · exact ⟨_, Or.inl ⟨e, rfl⟩⟩
                            · exact ⟨0, Or.inr ⟨e, rfl⟩⟩
                          refine z_lv (lv' := [(0, .ref (ad i)), (1, .int (zI (z)))]) [0, 1] rfl ?_
                          exact ih_L _ (by omega) muy288 _ gvy276 rfl hcvy276 hdvy276 htxy285 hFFy287 (fun j j1 j2 => by rw [hfvy276 _ (by omega)]; rw [hfvy254 _ (by omega) (by omega)]; rw [f3L _ (by omega) (by omega)]) hmuy288 (by omega)
                        · refine z_iconst (z := 1) C dX10_snow_140 rfl ?_
                          refine z_goto (tgt := 145) C dX10_snow_141 (by decide) ?_
                          refine z_iconst (z := 1) C dX10_snow_145 rfl ?_
                          have h38vy289 : Fvy254 38 = 0 := hxxFvy254
                          refine z_cV (As := [.int (zI (1)), .int (zI (1))]) (rest := []) (ci := 12) C (c_X10_wants l D A cs tt N ad _ i hN _ hcvy254 (by omega) (1) (by omega) (1) (by omega)) (by omega) hay118 hcvy254 rfl rfl mv_yX10_wants q_1678 hd_yX10_wants (by decide) (Nat.le_of_ble_eq_true rfl) (by decide) dX10_snow_146 rfl (kI0 fun vy289 gvy289 hvy289 => ?_)
                          obtain ⟨⟨Fvy289, hcvy289, hqvy289, hbvy289, hFvy289⟩, hfvy289⟩ := hvy289
                          have hdvy289 : RD Fvy289 := RD.w hdvy254 hFvy289 hbvy289
                          obtain rfl : vy289 = 1 := by omega
                          have e38vy289 : Fvy289 38 = 0 := by omega
                          clear hqvy289
                          refine z_if_eq (tgt := 97) C dX10_snow_149 (by decide) (by omega) (fun h => absurd h (by omega)) (fun _ => ?_)
                          refine z_aload_n C 0 dX10_snow_152 rfl ?_
                          have hgy290 := (hfvy254 (i + 13) (ne_o (i := i) (c := 13) (d := 0) rfl) (by omega)).trans ((f3L _ (by omega) (by omega)).trans ha13)
                          have hgy291 := (hfvy289 (i + 13) (ne_o (i := i) (c := 13) (d := 0) rfl)).trans hgy290
                          refine z_cV (As := []) (rest := []) (ci := 12) C (c_X10_go l D A cs tt N ad _ i hN _ hcvy289 _ hgy291 htp hdvy289) (by omega) hay118 hcvy289 rfl rfl mv_yX10_go q_1652 hd_yX10_go (by decide) (Nat.le_of_ble_eq_true rfl) (by decide) dX10_snow_153 rfl (kV0 fun gvy292 hvy292 => ?_)
                          obtain ⟨⟨Fvy292, hcvy292, hdvy292, hlvy292, hsvy292, hFvy292⟩, hfvy292⟩ := hvy292
                          rw [show Fvy289 32 = Fvy254 32 from (hFvy289 32 (by decide) (by decide))] at hlvy292 hsvy292
                          have h34vy292 : Fvy292 34 = F9 34 := (hFvy292 34 (by decide) (by decide) (by decide) (by decide) (by decide)).trans (((hFvy289 34 (by decide) (by decide)).trans (hFvy254 34 (by decide) (by decide) (by decide) (by decide) (by decide) (by decide) (by decide) (by decide) (by decide) (by decide))))
                          obtain ⟨d32vy292, -, d35vy292, d36vy292, -, d37vy292, d38vy292⟩ := id hdvy292
                          have h38vy292 : Fvy292 38 = 0 := ((hFvy292 38 (by decide) (by decide) (by decide) (by decide) (by decide)).trans e38vy289)
                          refine z_goto (tgt := 97) C dX10_snow_156 (by decide) ?_
                          have hey293 : Fvy292 23 = F9 23 := ((hFvy292 23 (by decide) (by decide) (by decide) (by decide) (by decide)).trans ((hFvy289 23 (by decide) (by decide)).trans (hFvy254 23 (by decide) (by decide) (by decide) (by decide) (by decide) (by decide) (by decide) (by decide) (by decide) (by decide))))
                          have hey294 : Fvy292 32 = Fvy292 32 := rfl
                          have hey295 : Fvy292 34 = F9 34 := ((hFvy292 34 (by decide) (by decide) (by decide) (by decide) (by decide)).trans ((hFvy289 34 (by decide) (by decide)).trans (hFvy254 34 (by decide) (by decide) (by decide) (by decide) (by decide) (by decide) (by decide) (by decide) (by decide) (by decide))))
                          have hey296 : Fvy292 35 = Fvy292 35 := rfl
                          have hey297 : Fvy292 38 = 0 := ((hFvy292 38 (by decide) (by decide) (by decide) (by decide) (by decide)).trans e38vy289)
                          have hey298 : Fvy292 47 = Fvy254 47 := ((hFvy292 47 (by decide) (by decide) (by decide) (by decide) (by decide)).trans (hFvy289 47 (by decide) (by decide)))
                          have hey299 : Fvy292 48 = Fvy254 48 := ((hFvy292 48 (by decide) (by decide) (by decide) (by decide) (by decide)).trans (hFvy289 48 (by decide) (by decide)))
                          have hey300 : Fvy292 49 = Fvy254 49 := ((hFvy292 49 (by decide) (by decide) (by decide) (by decide) (by decide)).trans (hFvy289 49 (by decide) (by decide)))
                          have htxy301 : okTx cs gvy292 i Fvy292 := hxvy254.mv (fun j a b => by rw [hfvy292 _ (by omega)]; rw [hfvy289 _ (by omega)]) ⟨by omega, by omega, by omega, by omega⟩
                          have hFy302 : ∀ f, f ≠ 24 → f ≠ 32 → f ≠ 33 → f ≠ 35 → f ≠ 36 → f ≠ 37 → f ≠ 38 → f ≠ 47 → f ≠ 48 → f ≠ 49 → Fvy292 f = F9 f := fun f n24 n32 n33 n35 n36 n37 n38 n47 n48 n49 => ((hFvy292 f n32 n33 n35 n36 n37).trans ((hFvy289 f n24 n38).trans (hFvy254 f n24 n32 n33 n35 n36 n37 n38 n47 n48 n49)))
                          have hFFy303 : (∀ f, f ≠ 12 → f ≠ 23 → f ≠ 24 → f ≠ 32 → f ≠ 33 → f ≠ 34 → f ≠ 35 → f ≠ 36 → f ≠ 37 → f ≠ 38 → f ≠ 47 → f ≠ 48 → f ≠ 49 → Fvy292 f = F f) := fun f n12 n23 n24 n32 n33 n34 n35 n36 n37 n38 n47 n48 n49 => (hFy302 f n24 n32 n33 n35 n36 n37 n38 n47 n48 n49).trans (fF f n12 n23 n24 n32 n33 n34 n35 n36 n37 n38 n47 n48 n49)
                          obtain ⟨muy304, hmuy304⟩ : ∃ m9 : Int, (Fvy292 38 = 0 ∧ m9 = 901 - Fvy292 32) ∨ (Fvy292 38 ≠ 0 ∧ m9 = 0) := by
                            by_cases e : Fvy292 38 = 0
                            · exact ⟨_, Or.inl ⟨e, rfl⟩⟩
                            · exact ⟨0, Or.inr ⟨e, rfl⟩⟩
                          refine z_lv (lv' := [(0, .ref (ad i)), (1, .int (zI (z)))]) [0, 1] rfl ?_
                          exact ih_L _ (by omega) muy304 _ gvy292 rfl hcvy292 hdvy292 htxy301 hFFy303 (fun j j1 j2 => by rw [hfvy292 _ (by omega)]; rw [hfvy289 _ (by omega)]; rw [hfvy254 _ (by omega) (by omega)]; rw [f3L _ (by omega) (by omega)]) hmuy304 (by omega)
                    · refine z_aload_n C 0 dX10_snow_115 rfl ?_
                      refine z_get (v := .int (zI (Fvy254 38))) C (by omega) hay118 hcvy254 rfl inA_X10 38 (by decide) q_1497 rfl (fv (F := Fvy254) (f := 38) rfl) dX10_snow_116 ?_
                      refine z_if_ne (tgt := 97) C dX10_snow_119 (by decide) (by omega) (fun _ => ?_) (fun h => absurd h (by omega))
                      have hey305 : Fvy254 23 = F9 23 := (hFvy254 23 (by decide) (by decide) (by decide) (by decide) (by decide) (by decide) (by decide) (by decide) (by decide) (by decide))
                      have hey306 : Fvy254 32 = Fvy254 32 := rfl
                      have hey307 : Fvy254 34 = F9 34 := (hFvy254 34 (by decide) (by decide) (by decide) (by decide) (by decide) (by decide) (by decide) (by decide) (by decide) (by decide))
                      have hey308 : Fvy254 35 = Fvy254 35 := rfl
                      have hey309 : Fvy254 38 = Fvy254 38 := rfl
                      have hey310 : Fvy254 47 = Fvy254 47 := rfl
                      have hey311 : Fvy254 48 = Fvy254 48 := rfl
                      have hey312 : Fvy254 49 = Fvy254 49 := rfl
                      have hFy313 : ∀ f, f ≠ 24 → f ≠ 32 → f ≠ 33 → f ≠ 35 → f ≠ 36 → f ≠ 37 → f ≠ 38 → f ≠ 47 → f ≠ 48 → f ≠ 49 → Fvy254 f = F9 f := fun f n24 n32 n33 n35 n36 n37 n38 n47 n48 n49 => (hFvy254 f n24 n32 n33 n35 n36 n37 n38 n47 n48 n49)
                      have hFFy314 : (∀ f, f ≠ 12 → f ≠ 23 → f ≠ 24 → f ≠ 32 → f ≠ 33 → f ≠ 34 → f ≠ 35 → f ≠ 36 → f ≠ 37 → f ≠ 38 → f ≠ 47 → f ≠ 48 → f ≠ 49 → Fvy254 f = F f) := fun f n12 n23 n24 n32 n33 n34 n35 n36 n37 n38 n47 n48 n49 => (hFy313 f n24 n32 n33 n35 n36 n37 n38 n47 n48 n49).trans (fF f n12 n23 n24 n32 n33 n34 n35 n36 n37 n38 n47 n48 n49)
                      obtain ⟨muy315, hmuy315⟩ : ∃ m9 : Int, (Fvy254 38 = 0 ∧ m9 = 901 - Fvy254 32) ∨ (Fvy254 38 ≠ 0 ∧ m9 = 0) := by
                        by_cases e : Fvy254 38 = 0
                        · exact ⟨_, Or.inl ⟨e, rfl⟩⟩
                        · exact ⟨0, Or.inr ⟨e, rfl⟩⟩
                      refine z_lv (lv' := [(0, .ref (ad i)), (1, .int (zI (z)))]) [0, 1] rfl ?_
                      exact ih_L _ (by omega) muy315 _ gvy254 rfl hcvy254 hdvy254 hxvy254 hFFy314 (fun j j1 j2 => by rw [hfvy254 _ (by omega) (by omega)]; rw [f3L _ (by omega) (by omega)]) hmuy315 (by omega)
            have hey316 : Fvy117 23 = 0 := ((hFvy117 23 (by decide) (by decide) (by decide) (by decide) (by decide)).trans (fn (fn (fn (fn (fn (fn (fn (uZ_s _ _ _) (by decide)) (by decide)) (by decide)) (by decide)) (by decide)) (by decide)) (by decide)))
            have hey317 : Fvy117 32 = Fvy117 32 := rfl
            have hey318 : Fvy117 34 = z := ((hFvy117 34 (by decide) (by decide) (by decide) (by decide) (by decide)).trans (fn (fn (fn (fn (fn (fn (uZ_s _ _ _) (by decide)) (by decide)) (by decide)) (by decide)) (by decide)) (by decide)))
            have hey319 : Fvy117 35 = Fvy117 35 := rfl
            have hey320 : Fvy117 38 = 0 := ((hFvy117 38 (by decide) (by decide) (by decide) (by decide) (by decide)).trans (fn (fn (fn (fn (uZ_s _ _ _) (by decide)) (by decide)) (by decide)) (by decide)))
            have hey321 : Fvy117 47 = 0 := ((hFvy117 47 (by decide) (by decide) (by decide) (by decide) (by decide)).trans (uZ_s _ _ _))
            have hey322 : Fvy117 48 = 0 := ((hFvy117 48 (by decide) (by decide) (by decide) (by decide) (by decide)).trans (fn (uZ_s _ _ _) (by decide)))
            have hey323 : Fvy117 49 = 0 := ((hFvy117 49 (by decide) (by decide) (by decide) (by decide) (by decide)).trans (fn (fn (uZ_s _ _ _) (by decide)) (by decide)))
            have hz0 : 0 ≤ z ∧ z ≤ F 23 := by omega
            have hgy325 := up_n egy33 ha16 (ne_o (i := i) (c := 16) (d := 0) rfl)
            have hgy326 := (hfvy77 (i + 16) (ne_o (i := i) (c := 16) (d := 0) rfl)).trans hgy325
            have hgy327 := up_n egy80 hgy326 (ne_o (i := i) (c := 16) (d := 0) rfl)
            have hgy328 := up_n egy83 hgy327 (ne_o (i := i) (c := 16) (d := 0) rfl)
            have hgy329 := up_n egy86 hgy328 (ne_o (i := i) (c := 16) (d := 0) rfl)
            have hgy330 := up_n egy89 hgy329 (ne_o (i := i) (c := 16) (d := 0) rfl)
            have hgy331 := up_n egy92 hgy330 (ne_o (i := i) (c := 16) (d := 0) rfl)
            have hgy332 := up_n egy95 hgy331 (ne_o (i := i) (c := 16) (d := 0) rfl)
            have hgy333 := up_n egy98 hgy332 (ne_o (i := i) (c := 16) (d := 0) rfl)
            have hgy334 := up_n egy101 hgy333 (ne_o (i := i) (c := 16) (d := 0) rfl)
            have hgy335 := (f3A (i + 16) (ne_o (i := i) (c := 16) (d := 22) rfl)).trans hgy334
            have hgy336 := (hfvy117 (i + 16) (ne_o (i := i) (c := 16) (d := 0) rfl)).trans hgy335
            have hgy337 := up_n egy33 ha17 (ne_o (i := i) (c := 17) (d := 0) rfl)
            have hgy338 := (hfvy77 (i + 17) (ne_o (i := i) (c := 17) (d := 0) rfl)).trans hgy337
            have hgy339 := up_n egy80 hgy338 (ne_o (i := i) (c := 17) (d := 0) rfl)
            have hgy340 := up_n egy83 hgy339 (ne_o (i := i) (c := 17) (d := 0) rfl)
            have hgy341 := up_n egy86 hgy340 (ne_o (i := i) (c := 17) (d := 0) rfl)
            have hgy342 := up_n egy89 hgy341 (ne_o (i := i) (c := 17) (d := 0) rfl)
            have hgy343 := up_n egy92 hgy342 (ne_o (i := i) (c := 17) (d := 0) rfl)
            have hgy344 := up_n egy95 hgy343 (ne_o (i := i) (c := 17) (d := 0) rfl)
            have hgy345 := up_n egy98 hgy344 (ne_o (i := i) (c := 17) (d := 0) rfl)
            have hgy346 := up_n egy101 hgy345 (ne_o (i := i) (c := 17) (d := 0) rfl)
            have hgy347 := (f3A (i + 17) (ne_o (i := i) (c := 17) (d := 22) rfl)).trans hgy346
            have hgy348 := (hfvy117 (i + 17) (ne_o (i := i) (c := 17) (d := 0) rfl)).trans hgy347
            have hgy349 := up_n egy33 ha18 (ne_o (i := i) (c := 18) (d := 0) rfl)
            have hgy350 := (hfvy77 (i + 18) (ne_o (i := i) (c := 18) (d := 0) rfl)).trans hgy349
            have hgy351 := up_n egy80 hgy350 (ne_o (i := i) (c := 18) (d := 0) rfl)
            have hgy352 := up_n egy83 hgy351 (ne_o (i := i) (c := 18) (d := 0) rfl)
            have hgy353 := up_n egy86 hgy352 (ne_o (i := i) (c := 18) (d := 0) rfl)
            have hgy354 := up_n egy89 hgy353 (ne_o (i := i) (c := 18) (d := 0) rfl)
            have hgy355 := up_n egy92 hgy354 (ne_o (i := i) (c := 18) (d := 0) rfl)
            have hgy356 := up_n egy95 hgy355 (ne_o (i := i) (c := 18) (d := 0) rfl)
            have hgy357 := up_n egy98 hgy356 (ne_o (i := i) (c := 18) (d := 0) rfl)
            have hgy358 := up_n egy101 hgy357 (ne_o (i := i) (c := 18) (d := 0) rfl)
            have hgy359 := (f3A (i + 18) (ne_o (i := i) (c := 18) (d := 22) rfl)).trans hgy358
            have hgy360 := (hfvy117 (i + 18) (ne_o (i := i) (c := 18) (d := 0) rfl)).trans hgy359
            have hgy361 := up_n egy33 ha19 (ne_o (i := i) (c := 19) (d := 0) rfl)
            have hgy362 := (hfvy77 (i + 19) (ne_o (i := i) (c := 19) (d := 0) rfl)).trans hgy361
            have hgy363 := up_n egy80 hgy362 (ne_o (i := i) (c := 19) (d := 0) rfl)
            have hgy364 := up_n egy83 hgy363 (ne_o (i := i) (c := 19) (d := 0) rfl)
            have hgy365 := up_n egy86 hgy364 (ne_o (i := i) (c := 19) (d := 0) rfl)
            have hgy366 := up_n egy89 hgy365 (ne_o (i := i) (c := 19) (d := 0) rfl)
            have hgy367 := up_n egy92 hgy366 (ne_o (i := i) (c := 19) (d := 0) rfl)
            have hgy368 := up_n egy95 hgy367 (ne_o (i := i) (c := 19) (d := 0) rfl)
            have hgy369 := up_n egy98 hgy368 (ne_o (i := i) (c := 19) (d := 0) rfl)
            have hgy370 := up_n egy101 hgy369 (ne_o (i := i) (c := 19) (d := 0) rfl)
            have hgy371 := (f3A (i + 19) (ne_o (i := i) (c := 19) (d := 22) rfl)).trans hgy370
            have hgy372 := (hfvy117 (i + 19) (ne_o (i := i) (c := 19) (d := 0) rfl)).trans hgy371
            have hgy373 := up_n egy33 ha20 (ne_o (i := i) (c := 20) (d := 0) rfl)
            have hgy374 := (hfvy77 (i + 20) (ne_o (i := i) (c := 20) (d := 0) rfl)).trans hgy373
            have hgy375 := up_n egy80 hgy374 (ne_o (i := i) (c := 20) (d := 0) rfl)
            have hgy376 := up_n egy83 hgy375 (ne_o (i := i) (c := 20) (d := 0) rfl)
            have hgy377 := up_n egy86 hgy376 (ne_o (i := i) (c := 20) (d := 0) rfl)
            have hgy378 := up_n egy89 hgy377 (ne_o (i := i) (c := 20) (d := 0) rfl)
            have hgy379 := up_n egy92 hgy378 (ne_o (i := i) (c := 20) (d := 0) rfl)
            have hgy380 := up_n egy95 hgy379 (ne_o (i := i) (c := 20) (d := 0) rfl)
            have hgy381 := up_n egy98 hgy380 (ne_o (i := i) (c := 20) (d := 0) rfl)
            have hgy382 := up_n egy101 hgy381 (ne_o (i := i) (c := 20) (d := 0) rfl)
            have hgy383 := (f3A (i + 20) (ne_o (i := i) (c := 20) (d := 22) rfl)).trans hgy382
            have hgy384 := (hfvy117 (i + 20) (ne_o (i := i) (c := 20) (d := 0) rfl)).trans hgy383
            have hgy385 := up_n egy33 ha21 (ne_o (i := i) (c := 21) (d := 0) rfl)
            have hgy386 := (hfvy77 (i + 21) (ne_o (i := i) (c := 21) (d := 0) rfl)).trans hgy385
            have hgy387 := up_n egy80 hgy386 (ne_o (i := i) (c := 21) (d := 0) rfl)
            have hgy388 := up_n egy83 hgy387 (ne_o (i := i) (c := 21) (d := 0) rfl)
            have hgy389 := up_n egy86 hgy388 (ne_o (i := i) (c := 21) (d := 0) rfl)
            have hgy390 := up_n egy89 hgy389 (ne_o (i := i) (c := 21) (d := 0) rfl)
            have hgy391 := up_n egy92 hgy390 (ne_o (i := i) (c := 21) (d := 0) rfl)
            have hgy392 := up_n egy95 hgy391 (ne_o (i := i) (c := 21) (d := 0) rfl)
            have hgy393 := up_n egy98 hgy392 (ne_o (i := i) (c := 21) (d := 0) rfl)
            have hgy394 := up_n egy101 hgy393 (ne_o (i := i) (c := 21) (d := 0) rfl)
            have hgy395 := (f3A (i + 21) (ne_o (i := i) (c := 21) (d := 22) rfl)).trans hgy394
            have hgy396 := (hfvy117 (i + 21) (ne_o (i := i) (c := 21) (d := 0) rfl)).trans hgy395
            have hgy397 := (hfvy117 (i + 22) (ne_o (i := i) (c := 22) (d := 0) rfl)).trans f2A_t9
            have hgy398 := up_n egy33 ha23 (ne_o (i := i) (c := 23) (d := 0) rfl)
            have hgy399 := (hfvy77 (i + 23) (ne_o (i := i) (c := 23) (d := 0) rfl)).trans hgy398
            have hgy400 := up_n egy80 hgy399 (ne_o (i := i) (c := 23) (d := 0) rfl)
            have hgy401 := up_n egy83 hgy400 (ne_o (i := i) (c := 23) (d := 0) rfl)
            have hgy402 := up_n egy86 hgy401 (ne_o (i := i) (c := 23) (d := 0) rfl)
            have hgy403 := up_n egy89 hgy402 (ne_o (i := i) (c := 23) (d := 0) rfl)
            have hgy404 := up_n egy92 hgy403 (ne_o (i := i) (c := 23) (d := 0) rfl)
            have hgy405 := up_n egy95 hgy404 (ne_o (i := i) (c := 23) (d := 0) rfl)
            have hgy406 := up_n egy98 hgy405 (ne_o (i := i) (c := 23) (d := 0) rfl)
            have hgy407 := up_n egy101 hgy406 (ne_o (i := i) (c := 23) (d := 0) rfl)
            have hgy408 := (f3A (i + 23) (ne_o (i := i) (c := 23) (d := 22) rfl)).trans hgy407
            have hgy409 := (hfvy117 (i + 23) (ne_o (i := i) (c := 23) (d := 0) rfl)).trans hgy408
            have htxy324 : okTx cs gvy117 i Fvy117 := ⟨_, _, _, _, _, _, _, _, ⟨hgy336, hgy348, hgy360, hgy372, hgy384, hgy396, hgy397, hgy409⟩, ⟨⟨by omega, by omega, by omega⟩, hop1, hmn1, hai1, hfa1, (fun k hk => Or.inl (fTa k (by omega))), fun s l h1 h2 => absurd h1 (by omega)⟩⟩
            have hFy410 : ∀ f, f ≠ 12 → f ≠ 23 → f ≠ 24 → f ≠ 32 → f ≠ 33 → f ≠ 34 → f ≠ 35 → f ≠ 36 → f ≠ 37 → f ≠ 38 → f ≠ 47 → f ≠ 48 → f ≠ 49 → Fvy117 f = F f := fun f n12 n23 n24 n32 n33 n34 n35 n36 n37 n38 n47 n48 n49 => ((hFvy117 f n32 n33 n35 n36 n37).trans ((uZ_n _ _ n47).trans ((uZ_n _ _ n48).trans ((uZ_n _ _ n49).trans ((uZ_n _ _ n24).trans ((uZ_n _ _ n38).trans ((uZ_n _ _ n32).trans ((uZ_n _ _ n34).trans ((uZ_n _ _ n23).trans ((hFvy77 f n12).trans ((uZ_n _ _ n12).trans rfl)))))))))))
            obtain ⟨muy411, hmuy411⟩ : ∃ m9 : Int, (Fvy117 38 = 0 ∧ m9 = 901 - Fvy117 32) ∨ (Fvy117 38 ≠ 0 ∧ m9 = 0) := by
              by_cases e : Fvy117 38 = 0
              · exact ⟨_, Or.inl ⟨e, rfl⟩⟩
              · exact ⟨0, Or.inr ⟨e, rfl⟩⟩
            refine z_lv (lv' := [(0, .ref (ad i)), (1, .int (zI (z)))]) [0, 1] rfl ?_
            exact L _ muy411 _ gvy117 rfl hcvy117 hdvy117 htxy324 hFy410 (fun j j1 j2 => by rw [hfvy117 _ (by omega)]; rw [f3A _ (by omega)]; rw [egy101, va_up_ne _ _ (by omega)]; rw [egy98, va_up_ne _ _ (by omega)]; rw [egy95, va_up_ne _ _ (by omega)]; rw [egy92, va_up_ne _ _ (by omega)]; rw [egy89, va_up_ne _ _ (by omega)]; rw [egy86, va_up_ne _ _ (by omega)]; rw [egy83, va_up_ne _ _ (by omega)]; rw [egy80, va_up_ne _ _ (by omega)]; rw [hfvy77 _ (by omega)]; rw [egy33, va_up_ne _ _ (by omega)]) hmuy411 (by omega)
          · refine z_aload_n C 0 dX10_snow_80 rfl ?_
            have hgy412 := (f3A (i) (ne_o (i := i) (c := 0) (d := 22) rfl)).trans hgy102
            refine z_get (v := .ref (ad (i + 22))) C (by omega) hay1 hgy412 rfl inA_X10 45 (by decide) q_1504 rfl rfl dX10_snow_81 ?_
            refine z_iload_n C 2 dX10_snow_84 rfl ?_
            refine z_iconst (z := -1) C dX10_snow_85 rfl ?_
            refine z_iast C (by omega) hay30 f2A_t9 (nkA) (by omega) (by omega) (by decide) dX10_snow_86 (fun gy413 egy414 => ?_)
            have hgy415 := up_s egy414
            obtain ⟨ry416, hvy417⟩ : ∃ rZ9 : Nat → Int, rZ9 = uZ t9 (nkA) (-1) := ⟨_, rfl⟩
            rw [← hvy417] at hgy415
            refine z_iinc (z := ka + 1) (lv' := [(2, .int (zI (ka + 1))), (0, .ref (ad i)), (1, .int (zI (z)))]) (j := 2) C dX10_snow_87 rfl rfl (by decide) rfl ?_
            refine z_goto (tgt := 74) C dX10_snow_90 (by decide) ?_
            refine z_lv (lv' := [(0, .ref (ad i)), (1, .int (zI (z))), (2, .int (zI (ka + 1)))]) [1, 2, 0] rfl ?_
            exact ih_A _ (by omega) (ka + 1) ry416 gy413 rfl hgy415 (fun j j1 => by rw [egy414, va_up_ne _ _ (by omega)]; exact f3A j j1) (fun j hj => by rw [hvy417]; by_cases e : j = nkA; (rw [e, uZ_s]); (rw [uZ_n _ _ e]; exact fTa j (by omega))) (by omega)
      have hgy418 := up_n egy33 ha22 (ne_o (i := i) (c := 22) (d := 0) rfl)
      have hgy419 := (hfvy77 (i + 22) (ne_o (i := i) (c := 22) (d := 0) rfl)).trans hgy418
      have hgy420 := up_n egy80 hgy419 (ne_o (i := i) (c := 22) (d := 0) rfl)
      have hgy421 := up_n egy83 hgy420 (ne_o (i := i) (c := 22) (d := 0) rfl)
      have hgy422 := up_n egy86 hgy421 (ne_o (i := i) (c := 22) (d := 0) rfl)
      have hgy423 := up_n egy89 hgy422 (ne_o (i := i) (c := 22) (d := 0) rfl)
      have hgy424 := up_n egy92 hgy423 (ne_o (i := i) (c := 22) (d := 0) rfl)
      have hgy425 := up_n egy95 hgy424 (ne_o (i := i) (c := 22) (d := 0) rfl)
      have hgy426 := up_n egy98 hgy425 (ne_o (i := i) (c := 22) (d := 0) rfl)
      have hgy427 := up_n egy101 hgy426 (ne_o (i := i) (c := 22) (d := 0) rfl)
      refine z_lv (lv' := [(0, .ref (ad i)), (1, .int (zI (z))), (2, .int (zI (0)))]) [1, 2, 0] rfl ?_
      exact A _ (0) tb1 gy100 rfl hgy427 (fun j _ => rfl) (fun k a => absurd a (by omega)) (by omega)

