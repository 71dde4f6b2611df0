set_option maxRecDepth 100000 in
set_option maxHeartbeats 4000000 in
theorem c_yForecast (l : Launch) (D : va_G) (A : Nat → Prop) (cs : Nat → ClassId) (tt : Nat) (N : Nat) (ad : Nat → Nat) (g : Nat → va_E) (i : Nat) (hN : i + 30 ≤ N) (x : Int) (hx : 0 ≤ x ∧ x ≤ 512) (F r : Nat → Int) {st op ai fa mu tb tp : Nat → Int} (hM : okMr cs ad g i x F r st op ai fa mu tb tp) (z : Int) (hz : -2147483648 ≤ z ∧ z ≤ 2147483647) (z1 : Int) (hz1 : -2147483648 ≤ z1 ∧ z1 ≤ 2147483647) : zM l yX10_forecast cX10_forecast 3 (some .int) ({ frames := 2, cells := 0, slots := 0, locals := 120 } : Room) D A cs tt N ad g [.ref (ad i), .int (zI (z)), .int (zI (z1))] (rI0 N ad fun q g' => (∃ F' r' : Nat → Int, okMr cs ad g' i (x + 1) F' r' st op ai fa mu tb tp ∧ ((((0 ≤ z ∧ z < F 14) ∧ 0 ≤ z1 ∧ z1 ≤ 2) ∧ F' 12 = 0 ∧ (-2147483648 ≤ q ∧ q ≤ 2147483647) ∧ ((z1 = 0 ∧ zI (ai (z).toNat) = zI q) ∨ (z1 = 1 ∧ zI (fa (z).toNat) = zI q) ∨ (z1 = 2 ∧ zI (mu (z).toNat) = zI q))) ∨ (¬ ((0 ≤ z ∧ z < F 14) ∧ 0 ≤ z1 ∧ z1 ≤ 2) ∧ F' 12 = 1)) ∧ (F' 13 = F 13 ∧ F' 14 = F 14 ∧ F' 17 = F 17 ∧ F' 20 = F 20 ∧ F' 21 = F 21 ∧ F' 23 = F 23 ∧ F' 24 = F 24)) ∧ ∀ j, j < i ∨ i + 30 ≤ j → g' j = g j) := by
  obtain ⟨hg, ⟨⟨e13, e14, e25, e27, e29⟩, k15, k16, k17, k18, k19, k20, k23, k21⟩, hRD, hTx, hA, ns, nh, nd, rf, pi, te, ki, li, ok1, ok2, fo, dd, dps, ⟨ha1, ha2, ha3, ha4, ha5, ha6, ha7, ha8, ha9, ha10, ha11, ha12, ha13, ha14, ha15, ha24, ha25, ha26, ha27, ha28, ha29⟩, hEv, hPt, hns, htp⟩ := id hM
  obtain ⟨-, hop, hai, hfa, hT, hT1⟩ := id hEv
  have hay1 : zAt ad (i) (ad i) := rfl
  have hay2 : zAt ad (i + 1) (ad (i + 1)) := rfl
  have hay3 : zAt ad (i + 2) (ad (i + 2)) := rfl
  have hay4 : zAt ad (i + 3) (ad (i + 3)) := rfl
  have hay5 : zAt ad (i + 4) (ad (i + 4)) := rfl
  have hay6 : zAt ad (i + 5) (ad (i + 5)) := rfl
  have hay7 : zAt ad (i + 6) (ad (i + 6)) := rfl
  have hay8 : zAt ad (i + 7) (ad (i + 7)) := rfl
  have hay9 : zAt ad (i + 8) (ad (i + 8)) := rfl
  have hay10 : zAt ad (i + 9) (ad (i + 9)) := rfl
  have hay11 : zAt ad (i + 10) (ad (i + 10)) := rfl
  have hay12 : zAt ad (i + 11) (ad (i + 11)) := rfl
  have hay13 : zAt ad (i + 12) (ad (i + 12)) := rfl
  have hay14 : zAt ad (i + 13) (ad (i + 13)) := rfl
  have hay15 : zAt ad (i + 14) (ad (i + 14)) := rfl
  have hay16 : zAt ad (i + 15) (ad (i + 15)) := rfl
  have hay17 : zAt ad (i + 24) (ad (i + 24)) := rfl
  have hay18 : zAt ad (i + 25) (ad (i + 25)) := rfl
  have hay19 : zAt ad (i + 26) (ad (i + 26)) := rfl
  have hay20 : zAt ad (i + 27) (ad (i + 27)) := rfl
  have hay21 : zAt ad (i + 28) (ad (i + 28)) := rfl
  have hay22 : zAt ad (i + 29) (ad (i + 29)) := rfl
  obtain ⟨⟨hsyy23, htyy23, hnyy23, hpyy23⟩, hlyy23⟩ := okA.at0 hA
  simp only [Nat.zero_add] at hsyy23 hnyy23 hpyy23
  have hmn : ∀ s, s < 4 → 0 ≤ r (6 + 86 * s) ∧ r (6 + 86 * s) ≤ 12 := fun s hs => (hsyy23 s hs).1
  have h5 : 0 ≤ r 5 ∧ r 5 ≤ 6 := hpyy23
  refine z_of (by decide) (Nat.le_of_ble_eq_true rfl) ?_
  intro pZ eZ sZ mZ below meth cZ C hr hlk hnm
  refine z_lv (lv' := [(0, .ref (ad i)), (1, .int (zI (z))), (2, .int (zI (z1)))]) [0, 1, 2] rfl ?_
  refine z_aload_n C 0 dX10_forecast_0 rfl ?_
  refine z_iconst (z := 0) C dX10_forecast_1 rfl ?_
  refine z_put (fs' := mF ad (i) (uZ F 12 (0))) C (lt_A0 hN rfl) hay1 hg tyX10 tyX10_ok nmX10 rfl inA_X10 12 (by decide) q_1471 rfl rfl rfl rfl (Nat.le_of_ble_eq_true rfl) rfl dX10_forecast_2 (fun gy24 egy25 => ?_)
  have hgy26 := up_s egy25
  refine z_aload_n C 0 dX10_forecast_5 rfl ?_
  refine z_iload_n C 1 dX10_forecast_6 rfl ?_
  refine z_iconst (z := 0) C dX10_forecast_7 rfl ?_
  refine z_aload_n C 0 dX10_forecast_8 rfl ?_
  refine z_get (v := .int (zI (F 14))) C (lt_A0 hN rfl) hay1 hgy26 rfl inA_X10 14 (by decide) q_1473 rfl (fv (F := (uZ F 12 (0))) (f := 14) (fn rfl (by decide))) dX10_forecast_9 ?_
  refine z_iconst (z := 1) C dX10_forecast_12 rfl ?_
  refine z_isub C dX10_forecast_13 ?_
  refine z_cS (As := [.int (zI (z)), .int (zI (0)), .int (zI ((F 14) - 1))]) (rest := [.ref (ad i)]) C (c_X10_within l D A cs tt N ad _ (z) (by omega) (0) (by omega) ((F 14) - 1) (by omega)) ms_yX10_within q_1690 hd_yX10_within (by decide) (Nat.le_of_ble_eq_true rfl) (by decide) dX10_forecast_14 rfl (kI0 fun vy27 gvy27 hvy27 => ?_)
  obtain ⟨hvy27, rfl⟩ := hvy27
  rcases hvy27 with ⟨rfl, hxvy27⟩ | ⟨rfl, hxvy27⟩
  · refine z_if_eq (tgt := 33) C dX10_forecast_17 (by decide) (by omega) (fun h => absurd h (by omega)) (fun _ => ?_)
    refine z_iload_n C 2 dX10_forecast_20 rfl ?_
    refine z_iconst (z := 0) C dX10_forecast_21 rfl ?_
    refine z_iconst (z := 2) C dX10_forecast_22 rfl ?_
    refine z_cS (As := [.int (zI (z1)), .int (zI (0)), .int (zI (2))]) (rest := [.ref (ad i)]) C (c_X10_within l D A cs tt N ad _ (z1) (by omega) (0) (by omega) (2) (by omega)) ms_yX10_within q_1690 hd_yX10_within (by decide) (Nat.le_of_ble_eq_true rfl) (by decide) dX10_forecast_23 rfl (kI0 fun vy28 gvy28 hvy28 => ?_)
    obtain ⟨hvy28, rfl⟩ := hvy28
    rcases hvy28 with ⟨rfl, hxvy28⟩ | ⟨rfl, hxvy28⟩
    · refine z_if_eq (tgt := 33) C dX10_forecast_26 (by decide) (by omega) (fun h => absurd h (by omega)) (fun _ => ?_)
      refine z_iconst (z := 1) C dX10_forecast_29 rfl ?_
      refine z_goto (tgt := 34) C dX10_forecast_30 (by decide) ?_
      refine z_iconst (z := 1) C dX10_forecast_34 rfl ?_
      refine z_cV (As := [.int (zI (1)), .int (zI (1))]) (rest := []) (ci := 12) C (c_yRight l D A cs tt N ad _ i hN _ hgy26 (uZ_s _ _ _) (1) (by omega) (1) (by omega)) (lt_A0 hN rfl) hay1 hgy26 rfl rfl mv_yX10_right q_1652 hd_yX10_right (by decide) (Nat.le_of_ble_eq_true rfl) (by decide) dX10_forecast_35 rfl (kI0 fun vy29 gvy29 hvy29 => ?_)
      obtain ⟨⟨Fvy29, hcvy29, hqvy29, hFvy29⟩, hfvy29⟩ := hvy29
      obtain ⟨rfl, hevy29⟩ : vy29 = 1 ∧ Fvy29 12 = 0 := by omega
      clear hqvy29
      refine z_if_ne (tgt := 43) C dX10_forecast_38 (by decide) (by omega) (fun _ => ?_) (fun h => absurd h (by omega))
      refine z_iload_n C 2 dX10_forecast_43 rfl ?_
      refine z_if_ne (tgt := 56) C dX10_forecast_44 (by decide) (by omega) (fun hby30 => ?_) (fun hby30 => ?_)
      · refine z_iload_n C 2 dX10_forecast_56 rfl ?_
        refine z_iconst (z := 1) C dX10_forecast_57 rfl ?_
        refine z_icmp_ne (tgt := 70) C dX10_forecast_58 (by decide) (by omega) (by omega) (fun hby31 => ?_) (fun hby31 => ?_)
        · refine z_aload_n C 0 dX10_forecast_70 rfl ?_
          refine z_get (v := .ref (ad (i + 6))) C (lt_A0 hN rfl) hay1 hcvy29 rfl inA_X10 5 (by decide) q_1464 rfl rfl dX10_forecast_71 ?_
          refine z_iload_n C 1 dX10_forecast_74 rfl ?_
          have hgy32 := up_n egy25 ha6 (ne_o (i := i) (c := 6) (d := 0) rfl)
          have hgy33 := (hfvy29 (i + 6) (ne_o (i := i) (c := 6) (d := 0) rfl)).trans hgy32
          refine z_iald C (lt_A (c := 6) hN rfl) hay7 hgy33 ((z).toNat) (by omega) (by omega) (by decide) dX10_forecast_75 ?_
          obtain ⟨r9, e9, h9⟩ := zI_of (zI (mu ((z).toNat)))
          rw [e9]
          have hgy34 := up_n egy25 ha1 (ne_o (i := i) (c := 1) (d := 0) rfl)
          have hgy35 := (hfvy29 (i + 1) (ne_o (i := i) (c := 1) (d := 0) rfl)).trans hgy34
          have hFy36 : ∀ f, f ≠ 12 → Fvy29 f = F f := fun f n12 => ((hFvy29 f n12).trans ((uZ_n _ _ n12).trans rfl))
          have hey37 : Fvy29 13 = F 13 := ((hFvy29 13 (by decide)).trans (fn rfl (by decide)))
          have hey38 : Fvy29 14 = F 14 := ((hFvy29 14 (by decide)).trans (fn rfl (by decide)))
          have hey39 : Fvy29 15 = F 15 := ((hFvy29 15 (by decide)).trans (fn rfl (by decide)))
          have hey40 : Fvy29 16 = F 16 := ((hFvy29 16 (by decide)).trans (fn rfl (by decide)))
          have hey41 : Fvy29 17 = F 17 := ((hFvy29 17 (by decide)).trans (fn rfl (by decide)))
          have hey42 : Fvy29 18 = F 18 := ((hFvy29 18 (by decide)).trans (fn rfl (by decide)))
          have hey43 : Fvy29 19 = F 19 := ((hFvy29 19 (by decide)).trans (fn rfl (by decide)))
          have hey44 : Fvy29 20 = F 20 := ((hFvy29 20 (by decide)).trans (fn rfl (by decide)))
          have hey45 : Fvy29 21 = F 21 := ((hFvy29 21 (by decide)).trans (fn rfl (by decide)))
          have hey46 : Fvy29 23 = F 23 := ((hFvy29 23 (by decide)).trans (fn rfl (by decide)))
          have hey47 : Fvy29 25 = F 25 := ((hFvy29 25 (by decide)).trans (fn rfl (by decide)))
          have hey48 : Fvy29 27 = F 27 := ((hFvy29 27 (by decide)).trans (fn rfl (by decide)))
          have hey49 : Fvy29 28 = F 28 := ((hFvy29 28 (by decide)).trans (fn rfl (by decide)))
          have hey50 : Fvy29 29 = F 29 := ((hFvy29 29 (by decide)).trans (fn rfl (by decide)))
          have hKy51 : okF Fvy29 := okF.mv hM.2.1 hey37 hey38 hey39 hey40 hey41 hey42 hey43 hey44 hey45 hey46 hey47 hey48 hey49 hey50
          have hMy52 : okMr cs ad gvy29 i (x + 1) Fvy29 r st op ai fa mu tb tp := okMr.upd hM hcvy29 hKy51 (fun f a => hFy36 f (by omega)) hgy35 (hA.mono (by omega)) (fun j a b => by
              exact Or.inl (by rw [hfvy29 _ (by omega)]; rw [egy25, va_up_ne _ _ (by omega)]))
          have hkpy53 : Fvy29 13 = F 13 := ((hFvy29 13 (by decide)).trans (fn rfl (by decide)))
          have hkpy54 : Fvy29 14 = F 14 := ((hFvy29 14 (by decide)).trans (fn rfl (by decide)))
          have hkpy55 : Fvy29 17 = F 17 := ((hFvy29 17 (by decide)).trans (fn rfl (by decide)))
          have hkpy56 : Fvy29 20 = F 20 := ((hFvy29 20 (by decide)).trans (fn rfl (by decide)))
          have hkpy57 : Fvy29 21 = F 21 := ((hFvy29 21 (by decide)).trans (fn rfl (by decide)))
          have hkpy58 : Fvy29 23 = F 23 := ((hFvy29 23 (by decide)).trans (fn rfl (by decide)))
          have hkpy59 : Fvy29 24 = F 24 := ((hFvy29 24 (by decide)).trans (fn rfl (by decide)))
          have h12 : Fvy29 12 = 0 := hevy29
          exact z_iret C hr hlk dX10_forecast_76 (by decide) (by decide) ⟨r9, rfl, rfl, rfl, ⟨_, _, hMy52, Or.inl ⟨by omega, by omega, by omega, Or.inr (Or.inr ⟨by omega, (by first | rfl | exact e9)⟩)⟩, ⟨hkpy53, hkpy54, hkpy55, hkpy56, hkpy57, hkpy58, hkpy59⟩⟩, fun j j1 => by rw [hfvy29 _ (by omega)]; rw [egy25, va_up_ne _ _ (by omega)]⟩
        · refine z_aload_n C 0 dX10_forecast_61 rfl ?_
          refine z_get (v := .ref (ad (i + 5))) C (lt_A0 hN rfl) hay1 hcvy29 rfl inA_X10 4 (by decide) q_1463 rfl rfl dX10_forecast_62 ?_
          refine z_iload_n C 1 dX10_forecast_65 rfl ?_
          have hgy60 := up_n egy25 ha5 (ne_o (i := i) (c := 5) (d := 0) rfl)
          have hgy61 := (hfvy29 (i + 5) (ne_o (i := i) (c := 5) (d := 0) rfl)).trans hgy60
          refine z_iald C (lt_A (c := 5) hN rfl) hay6 hgy61 ((z).toNat) (by omega) (by omega) (by decide) dX10_forecast_66 ?_
          refine z_goto (tgt := 76) C dX10_forecast_67 (by decide) ?_
          obtain ⟨r9, e9, h9⟩ := zI_of (zI (fa ((z).toNat)))
          rw [e9]
          have hgy62 := up_n egy25 ha1 (ne_o (i := i) (c := 1) (d := 0) rfl)
          have hgy63 := (hfvy29 (i + 1) (ne_o (i := i) (c := 1) (d := 0) rfl)).trans hgy62
          have hFy64 : ∀ f, f ≠ 12 → Fvy29 f = F f := fun f n12 => ((hFvy29 f n12).trans ((uZ_n _ _ n12).trans rfl))
          have hey65 : Fvy29 13 = F 13 := ((hFvy29 13 (by decide)).trans (fn rfl (by decide)))
          have hey66 : Fvy29 14 = F 14 := ((hFvy29 14 (by decide)).trans (fn rfl (by decide)))
          have hey67 : Fvy29 15 = F 15 := ((hFvy29 15 (by decide)).trans (fn rfl (by decide)))
          have hey68 : Fvy29 16 = F 16 := ((hFvy29 16 (by decide)).trans (fn rfl (by decide)))
          have hey69 : Fvy29 17 = F 17 := ((hFvy29 17 (by decide)).trans (fn rfl (by decide)))
          have hey70 : Fvy29 18 = F 18 := ((hFvy29 18 (by decide)).trans (fn rfl (by decide)))
          have hey71 : Fvy29 19 = F 19 := ((hFvy29 19 (by decide)).trans (fn rfl (by decide)))
          have hey72 : Fvy29 20 = F 20 := ((hFvy29 20 (by decide)).trans (fn rfl (by decide)))
          have hey73 : Fvy29 21 = F 21 := ((hFvy29 21 (by decide)).trans (fn rfl (by decide)))
          have hey74 : Fvy29 23 = F 23 := ((hFvy29 23 (by decide)).trans (fn rfl (by decide)))
          have hey75 : Fvy29 25 = F 25 := ((hFvy29 25 (by decide)).trans (fn rfl (by decide)))
          have hey76 : Fvy29 27 = F 27 := ((hFvy29 27 (by decide)).trans (fn rfl (by decide)))
          have hey77 : Fvy29 28 = F 28 := ((hFvy29 28 (by decide)).trans (fn rfl (by decide)))
          have hey78 : Fvy29 29 = F 29 := ((hFvy29 29 (by decide)).trans (fn rfl (by decide)))
          have hKy79 : okF Fvy29 := okF.mv hM.2.1 hey65 hey66 hey67 hey68 hey69 hey70 hey71 hey72 hey73 hey74 hey75 hey76 hey77 hey78
          have hMy80 : okMr cs ad gvy29 i (x + 1) Fvy29 r st op ai fa mu tb tp := okMr.upd hM hcvy29 hKy79 (fun f a => hFy64 f (by omega)) hgy63 (hA.mono (by omega)) (fun j a b => by
              exact Or.inl (by rw [hfvy29 _ (by omega)]; rw [egy25, va_up_ne _ _ (by omega)]))
          have hkpy81 : Fvy29 13 = F 13 := ((hFvy29 13 (by decide)).trans (fn rfl (by decide)))
          have hkpy82 : Fvy29 14 = F 14 := ((hFvy29 14 (by decide)).trans (fn rfl (by decide)))
          have hkpy83 : Fvy29 17 = F 17 := ((hFvy29 17 (by decide)).trans (fn rfl (by decide)))
          have hkpy84 : Fvy29 20 = F 20 := ((hFvy29 20 (by decide)).trans (fn rfl (by decide)))
          have hkpy85 : Fvy29 21 = F 21 := ((hFvy29 21 (by decide)).trans (fn rfl (by decide)))
          have hkpy86 : Fvy29 23 = F 23 := ((hFvy29 23 (by decide)).trans (fn rfl (by decide)))
          have hkpy87 : Fvy29 24 = F 24 := ((hFvy29 24 (by decide)).trans (fn rfl (by decide)))
          have h12 : Fvy29 12 = 0 := hevy29
          exact z_iret C hr hlk dX10_forecast_76 (by decide) (by decide) ⟨r9, rfl, rfl, rfl, ⟨_, _, hMy80, Or.inl ⟨by omega, by omega, by omega, Or.inr (Or.inl ⟨by omega, (by first | rfl | exact e9)⟩)⟩, ⟨hkpy81, hkpy82, hkpy83, hkpy84, hkpy85, hkpy86, hkpy87⟩⟩, fun j j1 => by rw [hfvy29 _ (by omega)]; rw [egy25, va_up_ne _ _ (by omega)]⟩
      · refine z_aload_n C 0 dX10_forecast_47 rfl ?_
        refine z_get (v := .ref (ad (i + 4))) C (lt_A0 hN rfl) hay1 hcvy29 rfl inA_X10 3 (by decide) q_1462 rfl rfl dX10_forecast_48 ?_
        refine z_iload_n C 1 dX10_forecast_51 rfl ?_
        have hgy88 := up_n egy25 ha4 (ne_o (i := i) (c := 4) (d := 0) rfl)
        have hgy89 := (hfvy29 (i + 4) (ne_o (i := i) (c := 4) (d := 0) rfl)).trans hgy88
        refine z_iald C (lt_A (c := 4) hN rfl) hay5 hgy89 ((z).toNat) (by omega) (by omega) (by decide) dX10_forecast_52 ?_
        have hrfy90 := hai ((z).toNat) (by omega)
        refine z_goto (tgt := 76) C dX10_forecast_53 (by decide) ?_
        obtain ⟨r9, e9, h9⟩ := zI_of (zI (ai ((z).toNat)))
        rw [e9]
        have hgy91 := up_n egy25 ha1 (ne_o (i := i) (c := 1) (d := 0) rfl)
        have hgy92 := (hfvy29 (i + 1) (ne_o (i := i) (c := 1) (d := 0) rfl)).trans hgy91
        have hFy93 : ∀ f, f ≠ 12 → Fvy29 f = F f := fun f n12 => ((hFvy29 f n12).trans ((uZ_n _ _ n12).trans rfl))
        have hey94 : Fvy29 13 = F 13 := ((hFvy29 13 (by decide)).trans (fn rfl (by decide)))
        have hey95 : Fvy29 14 = F 14 := ((hFvy29 14 (by decide)).trans (fn rfl (by decide)))
        have hey96 : Fvy29 15 = F 15 := ((hFvy29 15 (by decide)).trans (fn rfl (by decide)))
        have hey97 : Fvy29 16 = F 16 := ((hFvy29 16 (by decide)).trans (fn rfl (by decide)))
        have hey98 : Fvy29 17 = F 17 := ((hFvy29 17 (by decide)).trans (fn rfl (by decide)))
        have hey99 : Fvy29 18 = F 18 := ((hFvy29 18 (by decide)).trans (fn rfl (by decide)))
        have hey100 : Fvy29 19 = F 19 := ((hFvy29 19 (by decide)).trans (fn rfl (by decide)))
        have hey101 : Fvy29 20 = F 20 := ((hFvy29 20 (by decide)).trans (fn rfl (by decide)))
        have hey102 : Fvy29 21 = F 21 := ((hFvy29 21 (by decide)).trans (fn rfl (by decide)))
        have hey103 : Fvy29 23 = F 23 := ((hFvy29 23 (by decide)).trans (fn rfl (by decide)))
        have hey104 : Fvy29 25 = F 25 := ((hFvy29 25 (by decide)).trans (fn rfl (by decide)))
        have hey105 : Fvy29 27 = F 27 := ((hFvy29 27 (by decide)).trans (fn rfl (by decide)))
        have hey106 : Fvy29 28 = F 28 := ((hFvy29 28 (by decide)).trans (fn rfl (by decide)))
        have hey107 : Fvy29 29 = F 29 := ((hFvy29 29 (by decide)).trans (fn rfl (by decide)))
        have hKy108 : okF Fvy29 := okF.mv hM.2.1 hey94 hey95 hey96 hey97 hey98 hey99 hey100 hey101 hey102 hey103 hey104 hey105 hey106 hey107
        have hMy109 : okMr cs ad gvy29 i (x + 1) Fvy29 r st op ai fa mu tb tp := okMr.upd hM hcvy29 hKy108 (fun f a => hFy93 f (by omega)) hgy92 (hA.mono (by omega)) (fun j a b => by
            exact Or.inl (by rw [hfvy29 _ (by omega)]; rw [egy25, va_up_ne _ _ (by omega)]))
        have hkpy110 : Fvy29 13 = F 13 := ((hFvy29 13 (by decide)).trans (fn rfl (by decide)))
        have hkpy111 : Fvy29 14 = F 14 := ((hFvy29 14 (by decide)).trans (fn rfl (by decide)))
        have hkpy112 : Fvy29 17 = F 17 := ((hFvy29 17 (by decide)).trans (fn rfl (by decide)))
        have hkpy113 : Fvy29 20 = F 20 := ((hFvy29 20 (by decide)).trans (fn rfl (by decide)))
        have hkpy114 : Fvy29 21 = F 21 := ((hFvy29 21 (by decide)).trans (fn rfl (by decide)))
        have hkpy115 : Fvy29 23 = F 23 := ((hFvy29 23 (by decide)).trans (fn rfl (by decide)))
        have hkpy116 : Fvy29 24 = F 24 := ((hFvy29 24 (by decide)).trans (fn rfl (by decide)))
        have h12 : Fvy29 12 = 0 := hevy29
        exact z_iret C hr hlk dX10_forecast_76 (by decide) (by decide) ⟨r9, rfl, rfl, rfl, ⟨_, _, hMy109, Or.inl ⟨by omega, by omega, by omega, Or.inl ⟨by omega, (by first | rfl | exact e9)⟩⟩, ⟨hkpy110, hkpy111, hkpy112, hkpy113, hkpy114, hkpy115, hkpy116⟩⟩, fun j j1 => by rw [hfvy29 _ (by omega)]; rw [egy25, va_up_ne _ _ (by omega)]⟩
    · refine z_if_eq (tgt := 33) C dX10_forecast_26 (by decide) (by omega) (fun _ => ?_) (fun h => absurd h (by omega))
      refine z_iconst (z := 0) C dX10_forecast_33 rfl ?_
      refine z_iconst (z := 1) C dX10_forecast_34 rfl ?_
      refine z_cV (As := [.int (zI (0)), .int (zI (1))]) (rest := []) (ci := 12) C (c_yRight l D A cs tt N ad _ i hN _ hgy26 (uZ_s _ _ _) (0) (by omega) (1) (by omega)) (lt_A0 hN rfl) hay1 hgy26 rfl rfl mv_yX10_right q_1652 hd_yX10_right (by decide) (Nat.le_of_ble_eq_true rfl) (by decide) dX10_forecast_35 rfl (kI0 fun vy117 gvy117 hvy117 => ?_)
      obtain ⟨⟨Fvy117, hcvy117, hqvy117, hFvy117⟩, hfvy117⟩ := hvy117
      obtain ⟨rfl, hevy117⟩ : vy117 = 0 ∧ Fvy117 12 = 1 := by omega
      clear hqvy117
      refine z_if_ne (tgt := 43) C dX10_forecast_38 (by decide) (by omega) (fun h => absurd h (by omega)) (fun _ => ?_)
      refine z_iconst (z := 0) C dX10_forecast_41 rfl ?_
      have hgy118 := up_n egy25 ha1 (ne_o (i := i) (c := 1) (d := 0) rfl)
      have hgy119 := (hfvy117 (i + 1) (ne_o (i := i) (c := 1) (d := 0) rfl)).trans hgy118
      have hFy120 : ∀ f, f ≠ 12 → Fvy117 f = F f := fun f n12 => ((hFvy117 f n12).trans ((uZ_n _ _ n12).trans rfl))
      have hey121 : Fvy117 13 = F 13 := ((hFvy117 13 (by decide)).trans (fn rfl (by decide)))
      have hey122 : Fvy117 14 = F 14 := ((hFvy117 14 (by decide)).trans (fn rfl (by decide)))
      have hey123 : Fvy117 15 = F 15 := ((hFvy117 15 (by decide)).trans (fn rfl (by decide)))
      have hey124 : Fvy117 16 = F 16 := ((hFvy117 16 (by decide)).trans (fn rfl (by decide)))
      have hey125 : Fvy117 17 = F 17 := ((hFvy117 17 (by decide)).trans (fn rfl (by decide)))
      have hey126 : Fvy117 18 = F 18 := ((hFvy117 18 (by decide)).trans (fn rfl (by decide)))
      have hey127 : Fvy117 19 = F 19 := ((hFvy117 19 (by decide)).trans (fn rfl (by decide)))
      have hey128 : Fvy117 20 = F 20 := ((hFvy117 20 (by decide)).trans (fn rfl (by decide)))
      have hey129 : Fvy117 21 = F 21 := ((hFvy117 21 (by decide)).trans (fn rfl (by decide)))
      have hey130 : Fvy117 23 = F 23 := ((hFvy117 23 (by decide)).trans (fn rfl (by decide)))
      have hey131 : Fvy117 25 = F 25 := ((hFvy117 25 (by decide)).trans (fn rfl (by decide)))
      have hey132 : Fvy117 27 = F 27 := ((hFvy117 27 (by decide)).trans (fn rfl (by decide)))
      have hey133 : Fvy117 28 = F 28 := ((hFvy117 28 (by decide)).trans (fn rfl (by decide)))
      have hey134 : Fvy117 29 = F 29 := ((hFvy117 29 (by decide)).trans (fn rfl (by decide)))
      have hKy135 : okF Fvy117 := okF.mv hM.2.1 hey121 hey122 hey123 hey124 hey125 hey126 hey127 hey128 hey129 hey130 hey131 hey132 hey133 hey134
      have hMy136 : okMr cs ad gvy117 i (x + 1) Fvy117 r st op ai fa mu tb tp := okMr.upd hM hcvy117 hKy135 (fun f a => hFy120 f (by omega)) hgy119 (hA.mono (by omega)) (fun j a b => by
          exact Or.inl (by rw [hfvy117 _ (by omega)]; rw [egy25, va_up_ne _ _ (by omega)]))
      have hkpy137 : Fvy117 13 = F 13 := ((hFvy117 13 (by decide)).trans (fn rfl (by decide)))
      have hkpy138 : Fvy117 14 = F 14 := ((hFvy117 14 (by decide)).trans (fn rfl (by decide)))
      have hkpy139 : Fvy117 17 = F 17 := ((hFvy117 17 (by decide)).trans (fn rfl (by decide)))
      have hkpy140 : Fvy117 20 = F 20 := ((hFvy117 20 (by decide)).trans (fn rfl (by decide)))
      have hkpy141 : Fvy117 21 = F 21 := ((hFvy117 21 (by decide)).trans (fn rfl (by decide)))
      have hkpy142 : Fvy117 23 = F 23 := ((hFvy117 23 (by decide)).trans (fn rfl (by decide)))
      have hkpy143 : Fvy117 24 = F 24 := ((hFvy117 24 (by decide)).trans (fn rfl (by decide)))
      have h12 : Fvy117 12 = 1 := hevy117
      exact z_iret C hr hlk dX10_forecast_42 (by decide) (by decide) ⟨0, rfl, rfl, rfl, ⟨_, _, hMy136, Or.inr ⟨by omega, by omega⟩, ⟨hkpy137, hkpy138, hkpy139, hkpy140, hkpy141, hkpy142, hkpy143⟩⟩, fun j j1 => by rw [hfvy117 _ (by omega)]; rw [egy25, va_up_ne _ _ (by omega)]⟩
  · refine z_if_eq (tgt := 33) C dX10_forecast_17 (by decide) (by omega) (fun _ => ?_) (fun h => absurd h (by omega))
    refine z_iconst (z := 0) C dX10_forecast_33 rfl ?_
    refine z_iconst (z := 1) C dX10_forecast_34 rfl ?_
    refine z_cV (As := [.int (zI (0)), .int (zI (1))]) (rest := []) (ci := 12) C (c_yRight l D A cs tt N ad _ i hN _ hgy26 (uZ_s _ _ _) (0) (by omega) (1) (by omega)) (lt_A0 hN rfl) hay1 hgy26 rfl rfl mv_yX10_right q_1652 hd_yX10_right (by decide) (Nat.le_of_ble_eq_true rfl) (by decide) dX10_forecast_35 rfl (kI0 fun vy144 gvy144 hvy144 => ?_)
    obtain ⟨⟨Fvy144, hcvy144, hqvy144, hFvy144⟩, hfvy144⟩ := hvy144
    obtain ⟨rfl, hevy144⟩ : vy144 = 0 ∧ Fvy144 12 = 1 := by omega
    clear hqvy144
    refine z_if_ne (tgt := 43) C dX10_forecast_38 (by decide) (by omega) (fun h => absurd h (by omega)) (fun _ => ?_)
    refine z_iconst (z := 0) C dX10_forecast_41 rfl ?_
    have hgy145 := up_n egy25 ha1 (ne_o (i := i) (c := 1) (d := 0) rfl)
    have hgy146 := (hfvy144 (i + 1) (ne_o (i := i) (c := 1) (d := 0) rfl)).trans hgy145
    have hFy147 : ∀ f, f ≠ 12 → Fvy144 f = F f := fun f n12 => ((hFvy144 f n12).trans ((uZ_n _ _ n12).trans rfl))
    have hey148 : Fvy144 13 = F 13 := ((hFvy144 13 (by decide)).trans (fn rfl (by decide)))
    have hey149 : Fvy144 14 = F 14 := ((hFvy144 14 (by decide)).trans (fn rfl (by decide)))
    have hey150 : Fvy144 15 = F 15 := ((hFvy144 15 (by decide)).trans (fn rfl (by decide)))
    have hey151 : Fvy144 16 = F 16 := ((hFvy144 16 (by decide)).trans (fn rfl (by decide)))
    have hey152 : Fvy144 17 = F 17 := ((hFvy144 17 (by decide)).trans (fn rfl (by decide)))
    have hey153 : Fvy144 18 = F 18 := ((hFvy144 18 (by decide)).trans (fn rfl (by decide)))
    have hey154 : Fvy144 19 = F 19 := ((hFvy144 19 (by decide)).trans (fn rfl (by decide)))
    have hey155 : Fvy144 20 = F 20 := ((hFvy144 20 (by decide)).trans (fn rfl (by decide)))
    have hey156 : Fvy144 21 = F 21 := ((hFvy144 21 (by decide)).trans (fn rfl (by decide)))
    have hey157 : Fvy144 23 = F 23 := ((hFvy144 23 (by decide)).trans (fn rfl (by decide)))
    have hey158 : Fvy144 25 = F 25 := ((hFvy144 25 (by decide)).trans (fn rfl (by decide)))
    have hey159 : Fvy144 27 = F 27 := ((hFvy144 27 (by decide)).trans (fn rfl (by decide)))
    have hey160 : Fvy144 28 = F 28 := ((hFvy144 28 (by decide)).trans (fn rfl (by decide)))
    have hey161 : Fvy144 29 = F 29 := ((hFvy144 29 (by decide)).trans (fn rfl (by decide)))
    have hKy162 : okF Fvy144 := okF.mv hM.2.1 hey148 hey149 hey150 hey151 hey152 hey153 hey154 hey155 hey156 hey157 hey158 hey159 hey160 hey161
    have hMy163 : okMr cs ad gvy144 i (x + 1) Fvy144 r st op ai fa mu tb tp := okMr.upd hM hcvy144 hKy162 (fun f a => hFy147 f (by omega)) hgy146 (hA.mono (by omega)) (fun j a b => by
        exact Or.inl (by rw [hfvy144 _ (by omega)]; rw [egy25, va_up_ne _ _ (by omega)]))
    have hkpy164 : Fvy144 13 = F 13 := ((hFvy144 13 (by decide)).trans (fn rfl (by decide)))
    have hkpy165 : Fvy144 14 = F 14 := ((hFvy144 14 (by decide)).trans (fn rfl (by decide)))
    have hkpy166 : Fvy144 17 = F 17 := ((hFvy144 17 (by decide)).trans (fn rfl (by decide)))
    have hkpy167 : Fvy144 20 = F 20 := ((hFvy144 20 (by decide)).trans (fn rfl (by decide)))
    have hkpy168 : Fvy144 21 = F 21 := ((hFvy144 21 (by decide)).trans (fn rfl (by decide)))
    have hkpy169 : Fvy144 23 = F 23 := ((hFvy144 23 (by decide)).trans (fn rfl (by decide)))
    have hkpy170 : Fvy144 24 = F 24 := ((hFvy144 24 (by decide)).trans (fn rfl (by decide)))
    have h12 : Fvy144 12 = 1 := hevy144
    exact z_iret C hr hlk dX10_forecast_42 (by decide) (by decide) ⟨0, rfl, rfl, rfl, ⟨_, _, hMy163, Or.inr ⟨by omega, by omega⟩, ⟨hkpy164, hkpy165, hkpy166, hkpy167, hkpy168, hkpy169, hkpy170⟩⟩, fun j j1 => by rw [hfvy144 _ (by omega)]; rw [egy25, va_up_ne _ _ (by omega)]⟩

