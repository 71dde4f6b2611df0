section
-- 99c.reftry.lean.txt
set_option maxRecDepth 100000 in
set_option maxHeartbeats 4000000 in
theorem c_X10_once_a (l : Launch) (D : va_G) (A : Nat → Prop) (cs : Nat → ClassId) (tt : Nat) (N : Nat) (ad : Nat → Nat) (g : Nat → va_E) (i : Nat) (hN : i + 30 ≤ N) (x : Int) (hx : 0 ≤ x ∧ x ≤ 512) (F r : Nat → Int) {st op ai fa mu tb tp : Nat → Int} (hM : okMr cs ad g i x F r st op ai fa mu tb tp) (hPl : F 25 = 0 ∧ F 26 = -1 ∧ F 27 = -1 ∧ F 29 = 0) (n : Nat) (hn4 : n < 4) (z1 : Int) (hz1 : -2147483648 ≤ z1 ∧ z1 ≤ 2147483647) : zM l yX10_once cX10_once 4 (some .int) ({ frames := 11, cells := 0, slots := 0, locals := 660 } : Room) D A cs tt N ad g [.ref (ad i), .int (zI ((n : Int))), .int (zI (z1))] (rI0 N ad fun q g' => (-2147483648 ≤ q ∧ q ≤ 2147483647) ∧ (∃ F' r' : Nat → Int, okMr cs ad g' i (x + 1) F' r' st op ai fa mu tb tp ∧ (F' 13 = F 13 ∧ F' 14 = F 14 ∧ F' 15 = F 15 ∧ F' 16 = F 16 ∧ F' 17 = F 17 ∧ F' 18 = F 18 ∧ F' 19 = F 19 ∧ F' 20 = F 20 ∧ F' 21 = F 21 ∧ F' 23 = F 23 ∧ F' 24 = F 24) ∧ (F' 25 = 0 ∧ F' 26 = -1 ∧ F' 27 = -1 ∧ F' 29 = 0) ∧ (∀ j, j < 350 ∨ 700 ≤ j → r' j = r j)) ∧ ∀ j, j < i ∨ i + 30 ≤ j ∨ (i + 8 ≤ j ∧ j ≤ i + 12) → g' j = g j) := by
  obtain ⟨hg, ⟨⟨e13, e14, e25, e27, e29⟩, k15, k16, k17, k18, k19, k20, k23, k21⟩, hRD, hTx, hA, ns, nh, nd, rf, pi, te, ki, li, ok1, ok2, fo, dd, dps, ⟨ha1, ha2, ha3, ha4, ha5, ha6, ha7, ha8, ha9, ha10, ha11, ha12, ha13, ha14, ha15, ha24, ha25, ha26, ha27, ha28, ha29⟩, hEv, hPt, hns, htp⟩ := id hM
  obtain ⟨-, hop, hai, hfa, hT, hT1⟩ := id hEv
  have hay1 : zAt ad (i) (ad i) := rfl
  have hay2 : zAt ad (i + 1) (ad (i + 1)) := rfl
  have hay3 : zAt ad (i + 2) (ad (i + 2)) := rfl
  have hay4 : zAt ad (i + 3) (ad (i + 3)) := rfl
  have hay5 : zAt ad (i + 4) (ad (i + 4)) := rfl
  have hay6 : zAt ad (i + 5) (ad (i + 5)) := rfl
  have hay7 : zAt ad (i + 6) (ad (i + 6)) := rfl
  have hay8 : zAt ad (i + 7) (ad (i + 7)) := rfl
  have hay9 : zAt ad (i + 8) (ad (i + 8)) := rfl
  have hay10 : zAt ad (i + 9) (ad (i + 9)) := rfl
  have hay11 : zAt ad (i + 10) (ad (i + 10)) := rfl
  have hay12 : zAt ad (i + 11) (ad (i + 11)) := rfl
  have hay13 : zAt ad (i + 12) (ad (i + 12)) := rfl
  have hay14 : zAt ad (i + 13) (ad (i + 13)) := rfl
  have hay15 : zAt ad (i + 14) (ad (i + 14)) := rfl
  have hay16 : zAt ad (i + 15) (ad (i + 15)) := rfl
  have hay17 : zAt ad (i + 24) (ad (i + 24)) := rfl
  have hay18 : zAt ad (i + 25) (ad (i + 25)) := rfl
  have hay19 : zAt ad (i + 26) (ad (i + 26)) := rfl
  have hay20 : zAt ad (i + 27) (ad (i + 27)) := rfl
  have hay21 : zAt ad (i + 28) (ad (i + 28)) := rfl
  have hay22 : zAt ad (i + 29) (ad (i + 29)) := rfl
  obtain ⟨⟨hsyy23, htyy23, hnyy23, hpyy23⟩, hlyy23⟩ := okA.at0 hA
  simp only [Nat.zero_add] at hsyy23 hnyy23 hpyy23
  have hmn : ∀ s, s < 4 → 0 ≤ r (6 + 86 * s) ∧ r (6 + 86 * s) ≤ 12 := fun s hs => (hsyy23 s hs).1
  have h5 : 0 ≤ r 5 ∧ r 5 ≤ 6 := hpyy23
  obtain ⟨hp25, hp26, hp27, hp29⟩ := id hPl
  refine z_of (by decide) (Nat.le_of_ble_eq_true rfl) ?_
  intro pZ eZ sZ mZ below meth cZ C hr hlk hnm
  refine z_lv (lv' := [(0, .ref (ad i)), (1, .int (zI ((n : Int)))), (2, .int (zI (z1)))]) [0, 1, 2] rfl ?_
  refine z_aload_n C 0 dX10_once_0 rfl ?_
  refine z_iconst (z := 0) C dX10_once_1 rfl ?_
  refine z_put (fs' := mF ad (i) (uZ F 12 (0))) C (lt_A0 hN rfl) hay1 hg tyX10 tyX10_ok nmX10 rfl inA_X10 12 (by decide) q_1471 rfl rfl rfl rfl (Nat.le_of_ble_eq_true rfl) rfl dX10_once_2 (fun gy24 egy25 => ?_)
  have hgy26 := up_s egy25
  refine z_aload_n C 0 dX10_once_5 rfl ?_
  refine z_iload_n C 1 dX10_once_6 rfl ?_
  have h13vy27 : (uZ F 12 (0)) 13 = F 13 := (fn rfl (by decide))
  have hey28 : (uZ F 12 (0)) 12 = 0 := (uZ_s _ _ _)
  refine z_cV (As := [.int (zI ((n : Int)))]) (rest := []) (ci := 12) C (c_X10_isSlope l D A cs tt N ad _ i hN _ hgy26 (by omega) (by omega) ((n : Int)) (by omega)) (lt_A0 hN rfl) hay1 hgy26 rfl rfl mv_yX10_isSlope q_1803 hd_yX10_isSlope (by decide) (Nat.le_of_ble_eq_true rfl) (by decide) dX10_once_7 rfl (kI0 fun vy27 gvy27 hvy27 => ?_)
  rw [h13vy27] at hvy27
  obtain ⟨hrvy27, ⟨Fvy27, hcvy27, htvy27, hFvy27⟩, hfvy27⟩ := hvy27
  rcases (show vy27 = 1 ∨ vy27 = 0 by omega) with rfl | rfl
  · have hxvy27 := hrvy27.2 rfl
    refine z_if_eq (tgt := 27) C dX10_once_10 (by decide) (by omega) (fun h => absurd h (by omega)) (fun _ => ?_)
    refine z_aload_n C 0 dX10_once_13 rfl ?_
    refine z_iload_n C 2 dX10_once_14 rfl ?_
    refine z_iconst (z := 0) C dX10_once_15 rfl ?_
    refine z_iconst (z := 1) C dX10_once_16 rfl ?_
    refine z_cS (As := [.int (zI (z1)), .int (zI (0)), .int (zI (1))]) (rest := [.ref (ad i)]) C (c_X10_within l D A cs tt N ad _ (z1) (by omega) (0) (by omega) (1) (by omega)) ms_yX10_within q_1686 hd_yX10_within (by decide) (Nat.le_of_ble_eq_true rfl) (by decide) dX10_once_17 rfl (kI0 fun vy29 gvy29 hvy29 => ?_)
    obtain ⟨hvy29, rfl⟩ := hvy29
    rcases hvy29 with ⟨rfl, hxvy29⟩ | ⟨rfl, hxvy29⟩
    · refine z_iconst (z := 1) C dX10_once_20 rfl ?_
      have hey31 : Fvy27 12 = Fvy27 12 := rfl
      refine z_cV (As := [.int (zI (1)), .int (zI (1))]) (rest := []) (ci := 12) C (c_X10_right l D A cs tt N ad _ i hN _ hcvy27 (by omega) (1) (by omega) (1) (by omega)) (lt_A0 hN rfl) hay1 hcvy27 rfl rfl mv_yX10_right q_1648 hd_yX10_right (by decide) (Nat.le_of_ble_eq_true rfl) (by decide) dX10_once_21 rfl (kI0 fun vy30 gvy30 hvy30 => ?_)
      obtain ⟨hrvy30, ⟨Fvy30, hcvy30, htvy30, hFvy30⟩, hfvy30⟩ := hvy30
      rcases (show vy30 = 1 ∨ vy30 = 0 by omega) with rfl | rfl
      · refine z_if_ne (tgt := 29) C dX10_once_24 (by decide) (by omega) (fun _ => ?_) (fun h => absurd h (by omega))
        refine z_aload_n C 0 dX10_once_29 rfl ?_
        have hgy32 := up_n egy25 ha1 (ne_o (i := i) (c := 1) (d := 0) rfl)
        have hgy33 := (hfvy27 (i + 1) (ne_o (i := i) (c := 1) (d := 0) rfl)).trans hgy32
        have hgy34 := (hfvy30 (i + 1) (ne_o (i := i) (c := 1) (d := 0) rfl)).trans hgy33
        refine z_cV (As := []) (rest := []) (ci := 12) C (c_X10_tries l D A cs tt N ad _ i hN _ hcvy30 _ hgy34 (x) hA) (lt_A0 hN rfl) hay1 hcvy30 rfl rfl mv_yX10_tries q_1980 hd_yX10_tries (by decide) (Nat.le_of_ble_eq_true rfl) (by decide) dX10_once_30 rfl (kV0 fun gvy35 hvy35 => ?_)
        obtain ⟨⟨rvy35, hdvy35, hAvy35, hWvy35, h0vy35, hyvy35⟩, hfvy35⟩ := hvy35
        obtain ⟨⟨hsyy36, htyy36, hnyy36, hpyy36⟩, hlyy36⟩ := okA.at0 hAvy35
        simp only [Nat.zero_add] at hsyy36 hnyy36 hpyy36
        have hmn : ∀ s, s < 4 → 0 ≤ rvy35 (6 + 86 * s) ∧ rvy35 (6 + 86 * s) ≤ 12 := fun s hs => (hsyy36 s hs).1
        have h5 : 0 ≤ rvy35 5 ∧ rvy35 5 ≤ 6 := hpyy36
        refine z_iconst (z := 0) C dX10_once_33 rfl ?_
        refine z_istore_n (lv' := [(3, .int (zI (0))), (0, .ref (ad i)), (1, .int (zI ((n : Int)))), (2, .int (zI (z1)))]) C dX10_once_34 rfl (by decide) rfl ?_
        have lp1 : ∀ (n9 : Nat) (nn : Int) (F9 : Nat → Int) (r9 : Nat → Int) (g1 : Nat → va_E), (73 - nn).toNat = n9 → (okMr cs ad g1 i x F9 r9 st op ai fa mu tb tp) → ((∀ f, f ≠ 12 → F9 f = F f)) → (okW r9 350 (x)) → ((∀ j, j < 350 ∨ 700 ≤ j → r9 j = r j)) → (∀ j, j < i ∨ i + 30 ≤ j ∨ (i + 8 ≤ j ∧ j ≤ i + 12) → g1 j = g j) → (0 ≤ nn ∧ nn ≤ 73) → (r9 350 ≤ 2000 + nn) → zV pZ l eZ ({ frames := 11, cells := 0, slots := 0, locals := 660 } : Room) sZ mZ ([.ref (ad i), .int (zI ((n : Int))), .int (zI (z1))] : List Value).toArray below meth cZ (MQ below (zPost D A (rI0 N ad fun q g' => (-2147483648 ≤ q ∧ q ≤ 2147483647) ∧ (∃ F' r' : Nat → Int, okMr cs ad g' i (x + 1) F' r' st op ai fa mu tb tp ∧ (F' 13 = F 13 ∧ F' 14 = F 14 ∧ F' 15 = F 15 ∧ F' 16 = F 16 ∧ F' 17 = F 17 ∧ F' 18 = F 18 ∧ F' 19 = F 19 ∧ F' 20 = F 20 ∧ F' 21 = F 21 ∧ F' 23 = F 23 ∧ F' 24 = F 24) ∧ (F' 25 = 0 ∧ F' 26 = -1 ∧ F' 27 = -1 ∧ F' 29 = 0) ∧ (∀ j, j < 350 ∨ 700 ≤ j → r' j = r j)) ∧ ∀ j, j < i ∨ i + 30 ≤ j ∨ (i + 8 ≤ j ∧ j ≤ i + 12) → g' j = g j)) ([.ref (ad i), .int (zI ((n : Int))), .int (zI (z1))] : List Value).toArray sZ ({ frames := 11, cells := 0, slots := 0, locals := 660 } : Room).cells ({ frames := 11, cells := 0, slots := 0, locals := 660 } : Room).slots A) D A 4 (N) ad g1 (0) (0) 35 [(0, .ref (ad i)), (1, .int (zI ((n : Int)))), (2, .int (zI (z1))), (3, .int (zI (nn)))] [] := by
          intro n9
          induction n9 using Nat.strongRecOn with
          | ind n9 ih_lp1 =>
            intro nn F9 r9 g1 hm9 fM fF fW fR f3 hvlp10 hvlp11
            obtain ⟨hg_y37, ⟨⟨e13_y37, e14_y37, e25_y37, e27_y37, e29_y37⟩, k15_y37, k16_y37, k17_y37, k18_y37, k19_y37, k20_y37, k23_y37, k21_y37⟩, hRD_y37, hTx_y37, hA_y37, ns_y37, nh_y37, nd_y37, rf_y37, pi_y37, te_y37, ki_y37, li_y37, ok1_y37, ok2_y37, fo_y37, dd_y37, dps_y37, ⟨ha1_y37, ha2_y37, ha3_y37, ha4_y37, ha5_y37, ha6_y37, ha7_y37, ha8_y37, ha9_y37, ha10_y37, ha11_y37, ha12_y37, ha13_y37, ha14_y37, ha15_y37, ha24_y37, ha25_y37, ha26_y37, ha27_y37, ha28_y37, ha29_y37⟩, hEv_y37, hPt_y37, hns_y37, htp_y37⟩ := id fM
            obtain ⟨-, hop_y37, hai_y37, hfa_y37, hT_y37, hT1_y37⟩ := id hEv_y37
            have e14 := e14_y37
            have e25 := e25_y37
            have e27 := e27_y37
            have e29 := e29_y37
            have hop := hop_y37
            have hai := hai_y37
            have hfa := hfa_y37
            have hT := hT_y37
            have hT1 := hT1_y37
            have hEv := hEv_y37
            have htp := htp_y37
            have hns := hns_y37
            have hPt := hPt_y37
            have hay38 : zAt ad (i) (ad i) := rfl
            have hay39 : zAt ad (i + 1) (ad (i + 1)) := rfl
            have hay40 : zAt ad (i + 2) (ad (i + 2)) := rfl
            have hay41 : zAt ad (i + 3) (ad (i + 3)) := rfl
            have hay42 : zAt ad (i + 4) (ad (i + 4)) := rfl
            have hay43 : zAt ad (i + 5) (ad (i + 5)) := rfl
            have hay44 : zAt ad (i + 6) (ad (i + 6)) := rfl
            have hay45 : zAt ad (i + 7) (ad (i + 7)) := rfl
            have hay46 : zAt ad (i + 8) (ad (i + 8)) := rfl
            have hay47 : zAt ad (i + 9) (ad (i + 9)) := rfl
            have hay48 : zAt ad (i + 10) (ad (i + 10)) := rfl
            have hay49 : zAt ad (i + 11) (ad (i + 11)) := rfl
            have hay50 : zAt ad (i + 12) (ad (i + 12)) := rfl
            have hay51 : zAt ad (i + 13) (ad (i + 13)) := rfl
            have hay52 : zAt ad (i + 14) (ad (i + 14)) := rfl
            have hay53 : zAt ad (i + 15) (ad (i + 15)) := rfl
            have hay54 : zAt ad (i + 24) (ad (i + 24)) := rfl
            have hay55 : zAt ad (i + 25) (ad (i + 25)) := rfl
            have hay56 : zAt ad (i + 26) (ad (i + 26)) := rfl
            have hay57 : zAt ad (i + 27) (ad (i + 27)) := rfl
            have hay58 : zAt ad (i + 28) (ad (i + 28)) := rfl
            have hay59 : zAt ad (i + 29) (ad (i + 29)) := rfl
            obtain ⟨⟨hsyy60, htyy60, hnyy60, hpyy60⟩, hlyy60⟩ := okA.at0 hA_y37
            simp only [Nat.zero_add] at hsyy60 hnyy60 hpyy60
            have hmn : ∀ s, s < 4 → 0 ≤ r9 (6 + 86 * s) ∧ r9 (6 + 86 * s) ≤ 12 := fun s hs => (hsyy60 s hs).1
            have h5 : 0 ≤ r9 5 ∧ r9 5 ≤ 6 := hpyy60
            have h13e : F9 13 = F 13 := fF 13 (by decide)
            have h14e : F9 14 = F 14 := fF 14 (by decide)
            have h17e : F9 17 = F 17 := fF 17 (by decide)
            have h20e : F9 20 = F 20 := fF 20 (by decide)
            have h21e : F9 21 = F 21 := fF 21 (by decide)
            have h23e : F9 23 = F 23 := fF 23 (by decide)
            have h24e : F9 24 = F 24 := fF 24 (by decide)
            have h15e : F9 15 = F 15 := fF 15 (by decide)
            have h16e : F9 16 = F 16 := fF 16 (by decide)
            have h18e : F9 18 = F 18 := fF 18 (by decide)
            have h19e : F9 19 = F 19 := fF 19 (by decide)
            have h25e : F9 25 = F 25 := fF 25 (by decide)
            have h26e : F9 26 = F 26 := fF 26 (by decide)
            have h27e : F9 27 = F 27 := fF 27 (by decide)
            have h29e : F9 29 = F 29 := fF 29 (by decide)
            have hW2 := fW.2.1
            refine z_iload_n C 3 dX10_once_35 rfl ?_
            refine z_bipush (z := 72) C dX10_once_36 (by decide) ?_
            refine z_icmp_gt (tgt := 85) C dX10_once_38 (by decide) (by omega) (by omega) (fun hby61 => ?_) (fun hby61 => ?_)
            · refine z_iconst (z := -1) C dX10_once_85 rfl ?_
              have hMy62 : okMr cs ad g1 i (x + 1) F9 r9 st op ai fa mu tb tp := okMr.upd fM hg_y37 fM.2.1 (fun f _ => rfl) ha1_y37 (hA_y37.mono (by omega)) (fun j a b => by
                  exact Or.inl (by rfl))
              have hkpy63 : F9 13 = F9 13 := rfl
              have hkpy64 : F9 14 = F9 14 := rfl
              have hkpy65 : F9 15 = F9 15 := rfl
              have hkpy66 : F9 16 = F9 16 := rfl
              have hkpy67 : F9 17 = F9 17 := rfl
              have hkpy68 : F9 18 = F9 18 := rfl
              have hkpy69 : F9 19 = F9 19 := rfl
              have hkpy70 : F9 20 = F9 20 := rfl
              have hkpy71 : F9 21 = F9 21 := rfl
              have hkpy72 : F9 23 = F9 23 := rfl
              have hkpy73 : F9 24 = F9 24 := rfl
              have hkpy74 : F9 25 = F9 25 := rfl
              have hkpy75 : F9 26 = F9 26 := rfl
              have hkpy76 : F9 27 = F9 27 := rfl
              have hkpy77 : F9 29 = F9 29 := rfl
              exact z_iret C hr hlk dX10_once_86 (by decide) (by decide) ⟨-1, rfl, rfl, rfl, by omega, ⟨_, _, hMy62, ⟨(by omega), (by omega), (by omega), (by omega), (by omega), (by omega), (by omega), (by omega), (by omega), (by omega), (by omega)⟩, ⟨(by omega), (by omega), (by omega), (by omega)⟩, fR⟩, fun j j1 => by exact f3 j j1⟩
            · refine z_iload_n C 2 dX10_once_41 rfl ?_
              refine z_if_ne (tgt := 59) C dX10_once_42 (by decide) (by omega) (fun hby78 => ?_) (fun hby78 => ?_)
              · refine z_aload_n C 0 dX10_once_59 rfl ?_
                refine z_sipush (z := 350) C dX10_once_60 (by decide) ?_
                refine z_iload_n C 1 dX10_once_63 rfl ?_
                obtain ⟨py79, hpy79⟩ : ∃ p9 : Nat, 350 + 6 + 86 * n = p9 := ⟨_, rfl⟩
                have hmyy80 := (fW.1 n (by omega)).1
                rw [hpy79] at hmyy80
                refine z_cV (As := [.int (zI (350)), .int (zI ((n : Int)))]) (rest := []) (ci := 12) C (c_X10_many l D A cs tt N ad _ i hN _ hg_y37 _ ha1_y37 350 n py79 hpy79 (by omega) (by omega)) (lt_A0 hN rfl) hay38 hg_y37 rfl rfl mv_yX10_many q_1733 hd_yX10_many (by decide) (Nat.le_of_ble_eq_true rfl) (by decide) dX10_once_64 rfl (kI0 fun vy81 gvy81 hvy81 => ?_)
                obtain ⟨rfl, rfl⟩ := hvy81
                refine z_if_ne (tgt := 72) C dX10_once_67 (by decide) (by omega) (fun hby82 => ?_) (fun hby82 => ?_)
                · refine z_aload_n C 0 dX10_once_72 rfl ?_
                  refine z_sipush (z := 350) C dX10_once_73 (by decide) ?_
                  have hey84 : F9 13 = F9 13 := rfl
                  have hey85 : F9 14 = F9 14 := rfl
                  have hey86 : F9 25 = F9 25 := rfl
                  have hey87 : F9 27 = F9 27 := rfl
                  have hey88 : F9 28 = F9 28 := rfl
                  have hey89 : F9 29 = F9 29 := rfl
                  have hEvy83 : okEnv F9 _ _ _ _ _ := ⟨by omega, hop, hai, hfa, hT, hT1⟩
                  refine z_cV (As := [.int (zI (350))]) (rest := []) (ci := 12) C (c_X10_hour l D A cs tt N ad _ i hN _ hg_y37 _ ha1_y37 _ ha3_y37 _ ha4_y37 _ ha5_y37 _ ha6_y37 _ ha7_y37 _ ha14_y37 _ ha15_y37 350 (by omega) hEvy83 (x) (by omega) fW (by omega) (by omega)) (lt_A0 hN rfl) hay38 hg_y37 rfl rfl mv_yX10_hour q_1885 hd_yX10_hour (by decide) (Nat.le_of_ble_eq_true rfl) (by decide) dX10_once_76 rfl (kV0 fun gvy90 hvy90 => ?_)
                  obtain ⟨⟨rvy90, hcvy90, hwvy90, htvy90, hyvy90⟩, ⟨t4vy90, h4vy90⟩, ⟨t5vy90, h5vy90⟩, hfvy90⟩ := hvy90
                  have hAy91 : okA rvy90 (x) := okA.tried hA_y37 (fun j a => hyvy90 j (by omega))
                  obtain ⟨⟨hsyy92, htyy92, hnyy92, hpyy92⟩, hlyy92⟩ := okA.at0 hAy91
                  simp only [Nat.zero_add] at hsyy92 hnyy92 hpyy92
                  have hmn : ∀ s, s < 4 → 0 ≤ rvy90 (6 + 86 * s) ∧ rvy90 (6 + 86 * s) ≤ 12 := fun s hs => (hsyy92 s hs).1
                  have h5 : 0 ≤ rvy90 5 ∧ rvy90 5 ≤ 6 := hpyy92
                  refine z_iinc (z := nn + 1) (lv' := [(3, .int (zI (nn + 1))), (0, .ref (ad i)), (1, .int (zI ((n : Int)))), (2, .int (zI (z1)))]) (j := 3) C dX10_once_79 rfl rfl (by decide) rfl ?_
                  refine z_goto (tgt := 35) C dX10_once_82 (by decide) ?_
                  have hgy93 := (hfvy90 (i) (ne_o (i := i) (c := 0) (d := 1) rfl) (ne_o (i := i) (c := 0) (d := 14) rfl) (ne_o (i := i) (c := 0) (d := 15) rfl)).trans hg_y37
                  have hMy94 : okMr cs ad gvy90 i (x) F9 rvy90 st op ai fa mu tb tp := okMr.upd fM hgy93 fM.2.1 (fun f _ => rfl) hcvy90 (hAy91.mono (by omega)) (fun j a b => by
                      by_cases e0 : j = i + 14
                      · exact Or.inr ⟨14, _, e0, lsP.l (by decide), by rw [e0]; exact h4vy90⟩
                      by_cases e1 : j = i + 15
                      · exact Or.inr ⟨15, _, e1, lsP.l (by decide), by rw [e1]; exact h5vy90⟩
                      exact Or.inl (by rw [hfvy90 _ (by omega) (by omega) (by omega)]))
                  have hFF : (∀ f, f ≠ 12 → F9 f = F f) := fun f n12 => fF f n12
                  have hey95 : F9 13 = F9 13 := rfl
                  have hey96 : F9 14 = F9 14 := rfl
                  refine z_lv (lv' := [(0, .ref (ad i)), (1, .int (zI ((n : Int)))), (2, .int (zI (z1))), (3, .int (zI (nn + 1)))]) [1, 2, 3, 0] rfl ?_
                  exact ih_lp1 _ (by omega) (nn + 1) _ _ gvy90 rfl hMy94 hFF hwvy90 ((fun j a9 => (hyvy90 j (by omega)).trans (fR j a9))) (fun j j1 => by rw [hfvy90 _ (by omega) (by omega) (by omega)]; exact f3 j j1) (by omega) (by omega)
                · refine z_iload_n C 3 dX10_once_70 rfl ?_
                  have hMy97 : okMr cs ad g1 i (x + 1) F9 r9 st op ai fa mu tb tp := okMr.upd fM hg_y37 fM.2.1 (fun f _ => rfl) ha1_y37 (hA_y37.mono (by omega)) (fun j a b => by
                      exact Or.inl (by rfl))
                  have hkpy98 : F9 13 = F9 13 := rfl
                  have hkpy99 : F9 14 = F9 14 := rfl
                  have hkpy100 : F9 15 = F9 15 := rfl
                  have hkpy101 : F9 16 = F9 16 := rfl
                  have hkpy102 : F9 17 = F9 17 := rfl
                  have hkpy103 : F9 18 = F9 18 := rfl
                  have hkpy104 : F9 19 = F9 19 := rfl
                  have hkpy105 : F9 20 = F9 20 := rfl
                  have hkpy106 : F9 21 = F9 21 := rfl
                  have hkpy107 : F9 23 = F9 23 := rfl
                  have hkpy108 : F9 24 = F9 24 := rfl
                  have hkpy109 : F9 25 = F9 25 := rfl
                  have hkpy110 : F9 26 = F9 26 := rfl
                  have hkpy111 : F9 27 = F9 27 := rfl
                  have hkpy112 : F9 29 = F9 29 := rfl
                  exact z_iret C hr hlk dX10_once_71 (by decide) (by decide) ⟨nn, rfl, rfl, rfl, by omega, ⟨_, _, hMy97, ⟨(by omega), (by omega), (by omega), (by omega), (by omega), (by omega), (by omega), (by omega), (by omega), (by omega), (by omega)⟩, ⟨(by omega), (by omega), (by omega), (by omega)⟩, fR⟩, fun j j1 => by exact f3 j j1⟩
              · refine z_aload_n C 0 dX10_once_45 rfl ?_
                refine z_sipush (z := 350) C dX10_once_46 (by decide) ?_
                refine z_iload_n C 1 dX10_once_49 rfl ?_
                obtain ⟨py113, hpy113⟩ : ∃ p9 : Nat, 350 + 6 + 86 * n = p9 := ⟨_, rfl⟩
                have hqy115 : qS r9 py113 := ((fW.1 n (by omega)).of (p2 := py113) (by omega)).q (by have hb9 := mBb (t := r9 350 + x) (by omega); omega)
                have hmky116 := hqy115.1
                refine z_cV (As := [.int (zI (350)), .int (zI ((n : Int)))]) (rest := []) (ci := 12) C (c_X10_isUnstable l D A cs tt N ad _ i hN _ hg_y37 _ ha1_y37 _ ha2_y37 _ ha7_y37 350 n py113 hpy113 (by omega) (by omega) hqy115) (lt_A0 hN rfl) hay38 hg_y37 rfl rfl mv_yX10_isUnstable q_1811 hd_yX10_isUnstable (by decide) (Nat.le_of_ble_eq_true rfl) (by decide) dX10_once_50 rfl (kI0 fun vy114 gvy114 hvy114 => ?_)
                obtain ⟨hvy114, rfl⟩ := hvy114
                refine z_if_eq (tgt := 72) C dX10_once_53 (by decide) (by omega) (fun hby117 => ?_) (fun hby117 => ?_)
                · refine z_aload_n C 0 dX10_once_72 rfl ?_
                  refine z_sipush (z := 350) C dX10_once_73 (by decide) ?_
                  have hey119 : F9 13 = F9 13 := rfl
                  have hey120 : F9 14 = F9 14 := rfl
                  have hey121 : F9 25 = F9 25 := rfl
                  have hey122 : F9 27 = F9 27 := rfl
                  have hey123 : F9 28 = F9 28 := rfl
                  have hey124 : F9 29 = F9 29 := rfl
                  have hEvy118 : okEnv F9 _ _ _ _ _ := ⟨by omega, hop, hai, hfa, hT, hT1⟩
                  refine z_cV (As := [.int (zI (350))]) (rest := []) (ci := 12) C (c_X10_hour l D A cs tt N ad _ i hN _ hg_y37 _ ha1_y37 _ ha3_y37 _ ha4_y37 _ ha5_y37 _ ha6_y37 _ ha7_y37 _ ha14_y37 _ ha15_y37 350 (by omega) hEvy118 (x) (by omega) fW (by omega) (by omega)) (lt_A0 hN rfl) hay38 hg_y37 rfl rfl mv_yX10_hour q_1885 hd_yX10_hour (by decide) (Nat.le_of_ble_eq_true rfl) (by decide) dX10_once_76 rfl (kV0 fun gvy125 hvy125 => ?_)
                  obtain ⟨⟨rvy125, hcvy125, hwvy125, htvy125, hyvy125⟩, ⟨t4vy125, h4vy125⟩, ⟨t5vy125, h5vy125⟩, hfvy125⟩ := hvy125
                  have hAy126 : okA rvy125 (x) := okA.tried hA_y37 (fun j a => hyvy125 j (by omega))
                  obtain ⟨⟨hsyy127, htyy127, hnyy127, hpyy127⟩, hlyy127⟩ := okA.at0 hAy126
                  simp only [Nat.zero_add] at hsyy127 hnyy127 hpyy127
                  have hmn : ∀ s, s < 4 → 0 ≤ rvy125 (6 + 86 * s) ∧ rvy125 (6 + 86 * s) ≤ 12 := fun s hs => (hsyy127 s hs).1
                  have h5 : 0 ≤ rvy125 5 ∧ rvy125 5 ≤ 6 := hpyy127
                  refine z_iinc (z := nn + 1) (lv' := [(3, .int (zI (nn + 1))), (0, .ref (ad i)), (1, .int (zI ((n : Int)))), (2, .int (zI (z1)))]) (j := 3) C dX10_once_79 rfl rfl (by decide) rfl ?_
                  refine z_goto (tgt := 35) C dX10_once_82 (by decide) ?_
                  have hgy128 := (hfvy125 (i) (ne_o (i := i) (c := 0) (d := 1) rfl) (ne_o (i := i) (c := 0) (d := 14) rfl) (ne_o (i := i) (c := 0) (d := 15) rfl)).trans hg_y37
                  have hMy129 : okMr cs ad gvy125 i (x) F9 rvy125 st op ai fa mu tb tp := okMr.upd fM hgy128 fM.2.1 (fun f _ => rfl) hcvy125 (hAy126.mono (by omega)) (fun j a b => by
                      by_cases e0 : j = i + 14
                      · exact Or.inr ⟨14, _, e0, lsP.l (by decide), by rw [e0]; exact h4vy125⟩
                      by_cases e1 : j = i + 15
                      · exact Or.inr ⟨15, _, e1, lsP.l (by decide), by rw [e1]; exact h5vy125⟩
                      exact Or.inl (by rw [hfvy125 _ (by omega) (by omega) (by omega)]))
                  have hFF : (∀ f, f ≠ 12 → F9 f = F f) := fun f n12 => fF f n12
                  have hey130 : F9 13 = F9 13 := rfl
                  have hey131 : F9 14 = F9 14 := rfl
                  refine z_lv (lv' := [(0, .ref (ad i)), (1, .int (zI ((n : Int)))), (2, .int (zI (z1))), (3, .int (zI (nn + 1)))]) [1, 2, 3, 0] rfl ?_
                  exact ih_lp1 _ (by omega) (nn + 1) _ _ gvy125 rfl hMy129 hFF hwvy125 ((fun j a9 => (hyvy125 j (by omega)).trans (fR j a9))) (fun j j1 => by rw [hfvy125 _ (by omega) (by omega) (by omega)]; exact f3 j j1) (by omega) (by omega)
                · refine z_goto (tgt := 70) C dX10_once_56 (by decide) ?_
                  refine z_iload_n C 3 dX10_once_70 rfl ?_
                  have hMy132 : okMr cs ad g1 i (x + 1) F9 r9 st op ai fa mu tb tp := okMr.upd fM hg_y37 fM.2.1 (fun f _ => rfl) ha1_y37 (hA_y37.mono (by omega)) (fun j a b => by
                      exact Or.inl (by rfl))
                  have hkpy133 : F9 13 = F9 13 := rfl
                  have hkpy134 : F9 14 = F9 14 := rfl
                  have hkpy135 : F9 15 = F9 15 := rfl
                  have hkpy136 : F9 16 = F9 16 := rfl
                  have hkpy137 : F9 17 = F9 17 := rfl
                  have hkpy138 : F9 18 = F9 18 := rfl
                  have hkpy139 : F9 19 = F9 19 := rfl
                  have hkpy140 : F9 20 = F9 20 := rfl
                  have hkpy141 : F9 21 = F9 21 := rfl
                  have hkpy142 : F9 23 = F9 23 := rfl
                  have hkpy143 : F9 24 = F9 24 := rfl
                  have hkpy144 : F9 25 = F9 25 := rfl
                  have hkpy145 : F9 26 = F9 26 := rfl
                  have hkpy146 : F9 27 = F9 27 := rfl
                  have hkpy147 : F9 29 = F9 29 := rfl
                  exact z_iret C hr hlk dX10_once_71 (by decide) (by decide) ⟨nn, rfl, rfl, rfl, by omega, ⟨_, _, hMy132, ⟨(by omega), (by omega), (by omega), (by omega), (by omega), (by omega), (by omega), (by omega), (by omega), (by omega), (by omega)⟩, ⟨(by omega), (by omega), (by omega), (by omega)⟩, fR⟩, fun j j1 => by exact f3 j j1⟩
        have hgy148 := (hfvy35 (i) (ne_o (i := i) (c := 0) (d := 1) rfl)).trans hcvy30
        have hFy149 : ∀ f, f ≠ 12 → Fvy30 f = F f := fun f n12 => ((hFvy30 f n12).trans ((hFvy27 f n12).trans ((uZ_n _ _ n12).trans rfl)))
        have hey150 : Fvy30 13 = F 13 := ((hFvy30 13 (by decide)).trans ((hFvy27 13 (by decide)).trans (fn rfl (by decide))))
        have hey151 : Fvy30 14 = F 14 := ((hFvy30 14 (by decide)).trans ((hFvy27 14 (by decide)).trans (fn rfl (by decide))))
        have hey152 : Fvy30 15 = F 15 := ((hFvy30 15 (by decide)).trans ((hFvy27 15 (by decide)).trans (fn rfl (by decide))))
        have hey153 : Fvy30 16 = F 16 := ((hFvy30 16 (by decide)).trans ((hFvy27 16 (by decide)).trans (fn rfl (by decide))))
        have hey154 : Fvy30 17 = F 17 := ((hFvy30 17 (by decide)).trans ((hFvy27 17 (by decide)).trans (fn rfl (by decide))))
        have hey155 : Fvy30 18 = F 18 := ((hFvy30 18 (by decide)).trans ((hFvy27 18 (by decide)).trans (fn rfl (by decide))))
        have hey156 : Fvy30 19 = F 19 := ((hFvy30 19 (by decide)).trans ((hFvy27 19 (by decide)).trans (fn rfl (by decide))))
        have hey157 : Fvy30 20 = F 20 := ((hFvy30 20 (by decide)).trans ((hFvy27 20 (by decide)).trans (fn rfl (by decide))))
        have hey158 : Fvy30 21 = F 21 := ((hFvy30 21 (by decide)).trans ((hFvy27 21 (by decide)).trans (fn rfl (by decide))))
        have hey159 : Fvy30 23 = F 23 := ((hFvy30 23 (by decide)).trans ((hFvy27 23 (by decide)).trans (fn rfl (by decide))))
        have hey160 : Fvy30 25 = F 25 := ((hFvy30 25 (by decide)).trans ((hFvy27 25 (by decide)).trans (fn rfl (by decide))))
        have hey161 : Fvy30 27 = F 27 := ((hFvy30 27 (by decide)).trans ((hFvy27 27 (by decide)).trans (fn rfl (by decide))))
        have hey162 : Fvy30 28 = F 28 := ((hFvy30 28 (by decide)).trans ((hFvy27 28 (by decide)).trans (fn rfl (by decide))))
        have hey163 : Fvy30 29 = F 29 := ((hFvy30 29 (by decide)).trans ((hFvy27 29 (by decide)).trans (fn rfl (by decide))))
        have hKy164 : okF Fvy30 := okF.mv hM.2.1 hey150 hey151 hey152 hey153 hey154 hey155 hey156 hey157 hey158 hey159 hey160 hey161 hey162 hey163
        have hMy165 : okMr cs ad gvy35 i (x) Fvy30 rvy35 st op ai fa mu tb tp := okMr.upd hM hgy148 hKy164 (fun f a => hFy149 f (by omega)) hdvy35 (hAvy35.mono (by omega)) (fun j a b => by
            exact Or.inl (by rw [hfvy35 _ (by omega)]; rw [hfvy30 _ (by omega)]; rw [hfvy27 _ (by omega)]; rw [egy25, va_up_ne _ _ (by omega)]))
        have hFy166 : ∀ f, f ≠ 12 → Fvy30 f = F f := fun f n12 => ((hFvy30 f n12).trans ((hFvy27 f n12).trans ((uZ_n _ _ n12).trans rfl)))
        have hFF : (∀ f, f ≠ 12 → Fvy30 f = F f) := fun f n12 => (hFy166 f n12)
        have hey167 : Fvy30 13 = F 13 := ((hFvy30 13 (by decide)).trans ((hFvy27 13 (by decide)).trans (fn rfl (by decide))))
        have hey168 : Fvy30 14 = F 14 := ((hFvy30 14 (by decide)).trans ((hFvy27 14 (by decide)).trans (fn rfl (by decide))))
        refine z_lv (lv' := [(0, .ref (ad i)), (1, .int (zI ((n : Int)))), (2, .int (zI (z1))), (3, .int (zI (0)))]) [1, 2, 3, 0] rfl ?_
        exact lp1 _ (0) _ _ gvy35 rfl hMy165 hFF hWvy35 ((fun j a9 => (hyvy35 j a9).trans ((fun j _ => rfl) j a9))) (fun j j1 => by rw [hfvy35 _ (by omega)]; rw [hfvy30 _ (by omega)]; rw [hfvy27 _ (by omega)]; rw [egy25, va_up_ne _ _ (by omega)]) (by omega) (by omega)
      · refine z_if_ne (tgt := 29) C dX10_once_24 (by decide) (by omega) (fun h => absurd h (by omega)) (fun _ => ?_)
        refine z_iconst (z := 0) C dX10_once_27 rfl ?_
        have hgy169 := up_n egy25 ha1 (ne_o (i := i) (c := 1) (d := 0) rfl)
        have hgy170 := (hfvy27 (i + 1) (ne_o (i := i) (c := 1) (d := 0) rfl)).trans hgy169
        have hgy171 := (hfvy30 (i + 1) (ne_o (i := i) (c := 1) (d := 0) rfl)).trans hgy170
        have hFy172 : ∀ f, f ≠ 12 → Fvy30 f = F f := fun f n12 => ((hFvy30 f n12).trans ((hFvy27 f n12).trans ((uZ_n _ _ n12).trans rfl)))
        have hey173 : Fvy30 13 = F 13 := ((hFvy30 13 (by decide)).trans ((hFvy27 13 (by decide)).trans (fn rfl (by decide))))
        have hey174 : Fvy30 14 = F 14 := ((hFvy30 14 (by decide)).trans ((hFvy27 14 (by decide)).trans (fn rfl (by decide))))
        have hey175 : Fvy30 15 = F 15 := ((hFvy30 15 (by decide)).trans ((hFvy27 15 (by decide)).trans (fn rfl (by decide))))
        have hey176 : Fvy30 16 = F 16 := ((hFvy30 16 (by decide)).trans ((hFvy27 16 (by decide)).trans (fn rfl (by decide))))
        have hey177 : Fvy30 17 = F 17 := ((hFvy30 17 (by decide)).trans ((hFvy27 17 (by decide)).trans (fn rfl (by decide))))
        have hey178 : Fvy30 18 = F 18 := ((hFvy30 18 (by decide)).trans ((hFvy27 18 (by decide)).trans (fn rfl (by decide))))
        have hey179 : Fvy30 19 = F 19 := ((hFvy30 19 (by decide)).trans ((hFvy27 19 (by decide)).trans (fn rfl (by decide))))
        have hey180 : Fvy30 20 = F 20 := ((hFvy30 20 (by decide)).trans ((hFvy27 20 (by decide)).trans (fn rfl (by decide))))
        have hey181 : Fvy30 21 = F 21 := ((hFvy30 21 (by decide)).trans ((hFvy27 21 (by decide)).trans (fn rfl (by decide))))
        have hey182 : Fvy30 23 = F 23 := ((hFvy30 23 (by decide)).trans ((hFvy27 23 (by decide)).trans (fn rfl (by decide))))
        have hey183 : Fvy30 25 = F 25 := ((hFvy30 25 (by decide)).trans ((hFvy27 25 (by decide)).trans (fn rfl (by decide))))
        have hey184 : Fvy30 27 = F 27 := ((hFvy30 27 (by decide)).trans ((hFvy27 27 (by decide)).trans (fn rfl (by decide))))
        have hey185 : Fvy30 28 = F 28 := ((hFvy30 28 (by decide)).trans ((hFvy27 28 (by decide)).trans (fn rfl (by decide))))
        have hey186 : Fvy30 29 = F 29 := ((hFvy30 29 (by decide)).trans ((hFvy27 29 (by decide)).trans (fn rfl (by decide))))
        have hKy187 : okF Fvy30 := okF.mv hM.2.1 hey173 hey174 hey175 hey176 hey177 hey178 hey179 hey180 hey181 hey182 hey183 hey184 hey185 hey186
        have hMy188 : okMr cs ad gvy30 i (x + 1) Fvy30 r st op ai fa mu tb tp := okMr.upd hM hcvy30 hKy187 (fun f a => hFy172 f (by omega)) hgy171 (hA.mono (by omega)) (fun j a b => by
            exact Or.inl (by rw [hfvy30 _ (by omega)]; rw [hfvy27 _ (by omega)]; rw [egy25, va_up_ne _ _ (by omega)]))
        have hkpy189 : Fvy30 13 = F 13 := ((hFvy30 13 (by decide)).trans ((hFvy27 13 (by decide)).trans (fn rfl (by decide))))
        have hkpy190 : Fvy30 14 = F 14 := ((hFvy30 14 (by decide)).trans ((hFvy27 14 (by decide)).trans (fn rfl (by decide))))
        have hkpy191 : Fvy30 15 = F 15 := ((hFvy30 15 (by decide)).trans ((hFvy27 15 (by decide)).trans (fn rfl (by decide))))
        have hkpy192 : Fvy30 16 = F 16 := ((hFvy30 16 (by decide)).trans ((hFvy27 16 (by decide)).trans (fn rfl (by decide))))
        have hkpy193 : Fvy30 17 = F 17 := ((hFvy30 17 (by decide)).trans ((hFvy27 17 (by decide)).trans (fn rfl (by decide))))
        have hkpy194 : Fvy30 18 = F 18 := ((hFvy30 18 (by decide)).trans ((hFvy27 18 (by decide)).trans (fn rfl (by decide))))
        have hkpy195 : Fvy30 19 = F 19 := ((hFvy30 19 (by decide)).trans ((hFvy27 19 (by decide)).trans (fn rfl (by decide))))
        have hkpy196 : Fvy30 20 = F 20 := ((hFvy30 20 (by decide)).trans ((hFvy27 20 (by decide)).trans (fn rfl (by decide))))
        have hkpy197 : Fvy30 21 = F 21 := ((hFvy30 21 (by decide)).trans ((hFvy27 21 (by decide)).trans (fn rfl (by decide))))
        have hkpy198 : Fvy30 23 = F 23 := ((hFvy30 23 (by decide)).trans ((hFvy27 23 (by decide)).trans (fn rfl (by decide))))
        have hkpy199 : Fvy30 24 = F 24 := ((hFvy30 24 (by decide)).trans ((hFvy27 24 (by decide)).trans (fn rfl (by decide))))
        have hkpy200 : Fvy30 25 = F 25 := ((hFvy30 25 (by decide)).trans ((hFvy27 25 (by decide)).trans (fn rfl (by decide))))
        have hkpy201 : Fvy30 26 = F 26 := ((hFvy30 26 (by decide)).trans ((hFvy27 26 (by decide)).trans (fn rfl (by decide))))
        have hkpy202 : Fvy30 27 = F 27 := ((hFvy30 27 (by decide)).trans ((hFvy27 27 (by decide)).trans (fn rfl (by decide))))
        have hkpy203 : Fvy30 29 = F 29 := ((hFvy30 29 (by decide)).trans ((hFvy27 29 (by decide)).trans (fn rfl (by decide))))
        exact z_iret C hr hlk dX10_once_28 (by decide) (by decide) ⟨0, rfl, rfl, rfl, by omega, ⟨_, _, hMy188, ⟨hkpy189, hkpy190, hkpy191, hkpy192, hkpy193, hkpy194, hkpy195, hkpy196, hkpy197, hkpy198, hkpy199⟩, ⟨(hkpy200.trans hp25), (hkpy201.trans hp26), (hkpy202.trans hp27), (hkpy203.trans hp29)⟩, (fun j _ => rfl)⟩, fun j j1 => by rw [hfvy30 _ (by omega)]; rw [hfvy27 _ (by omega)]; rw [egy25, va_up_ne _ _ (by omega)]⟩
    · refine z_iconst (z := 1) C dX10_once_20 rfl ?_
      have hey205 : Fvy27 12 = Fvy27 12 := rfl
      refine z_cV (As := [.int (zI (0)), .int (zI (1))]) (rest := []) (ci := 12) C (c_X10_right l D A cs tt N ad _ i hN _ hcvy27 (by omega) (0) (by omega) (1) (by omega)) (lt_A0 hN rfl) hay1 hcvy27 rfl rfl mv_yX10_right q_1648 hd_yX10_right (by decide) (Nat.le_of_ble_eq_true rfl) (by decide) dX10_once_21 rfl (kI0 fun vy204 gvy204 hvy204 => ?_)
      obtain ⟨hrvy204, ⟨Fvy204, hcvy204, htvy204, hFvy204⟩, hfvy204⟩ := hvy204
      obtain rfl : vy204 = 0 := by omega
      refine z_if_ne (tgt := 29) C dX10_once_24 (by decide) (by omega) (fun h => absurd h (by omega)) (fun _ => ?_)
      refine z_iconst (z := 0) C dX10_once_27 rfl ?_
      have hgy206 := up_n egy25 ha1 (ne_o (i := i) (c := 1) (d := 0) rfl)
      have hgy207 := (hfvy27 (i + 1) (ne_o (i := i) (c := 1) (d := 0) rfl)).trans hgy206
      have hgy208 := (hfvy204 (i + 1) (ne_o (i := i) (c := 1) (d := 0) rfl)).trans hgy207
      have hFy209 : ∀ f, f ≠ 12 → Fvy204 f = F f := fun f n12 => ((hFvy204 f n12).trans ((hFvy27 f n12).trans ((uZ_n _ _ n12).trans rfl)))
      have hey210 : Fvy204 13 = F 13 := ((hFvy204 13 (by decide)).trans ((hFvy27 13 (by decide)).trans (fn rfl (by decide))))
      have hey211 : Fvy204 14 = F 14 := ((hFvy204 14 (by decide)).trans ((hFvy27 14 (by decide)).trans (fn rfl (by decide))))
      have hey212 : Fvy204 15 = F 15 := ((hFvy204 15 (by decide)).trans ((hFvy27 15 (by decide)).trans (fn rfl (by decide))))
      have hey213 : Fvy204 16 = F 16 := ((hFvy204 16 (by decide)).trans ((hFvy27 16 (by decide)).trans (fn rfl (by decide))))
      have hey214 : Fvy204 17 = F 17 := ((hFvy204 17 (by decide)).trans ((hFvy27 17 (by decide)).trans (fn rfl (by decide))))
      have hey215 : Fvy204 18 = F 18 := ((hFvy204 18 (by decide)).trans ((hFvy27 18 (by decide)).trans (fn rfl (by decide))))
      have hey216 : Fvy204 19 = F 19 := ((hFvy204 19 (by decide)).trans ((hFvy27 19 (by decide)).trans (fn rfl (by decide))))
      have hey217 : Fvy204 20 = F 20 := ((hFvy204 20 (by decide)).trans ((hFvy27 20 (by decide)).trans (fn rfl (by decide))))
      have hey218 : Fvy204 21 = F 21 := ((hFvy204 21 (by decide)).trans ((hFvy27 21 (by decide)).trans (fn rfl (by decide))))
      have hey219 : Fvy204 23 = F 23 := ((hFvy204 23 (by decide)).trans ((hFvy27 23 (by decide)).trans (fn rfl (by decide))))
      have hey220 : Fvy204 25 = F 25 := ((hFvy204 25 (by decide)).trans ((hFvy27 25 (by decide)).trans (fn rfl (by decide))))
      have hey221 : Fvy204 27 = F 27 := ((hFvy204 27 (by decide)).trans ((hFvy27 27 (by decide)).trans (fn rfl (by decide))))
      have hey222 : Fvy204 28 = F 28 := ((hFvy204 28 (by decide)).trans ((hFvy27 28 (by decide)).trans (fn rfl (by decide))))
      have hey223 : Fvy204 29 = F 29 := ((hFvy204 29 (by decide)).trans ((hFvy27 29 (by decide)).trans (fn rfl (by decide))))
      have hKy224 : okF Fvy204 := okF.mv hM.2.1 hey210 hey211 hey212 hey213 hey214 hey215 hey216 hey217 hey218 hey219 hey220 hey221 hey222 hey223
      have hMy225 : okMr cs ad gvy204 i (x + 1) Fvy204 r st op ai fa mu tb tp := okMr.upd hM hcvy204 hKy224 (fun f a => hFy209 f (by omega)) hgy208 (hA.mono (by omega)) (fun j a b => by
          exact Or.inl (by rw [hfvy204 _ (by omega)]; rw [hfvy27 _ (by omega)]; rw [egy25, va_up_ne _ _ (by omega)]))
      have hkpy226 : Fvy204 13 = F 13 := ((hFvy204 13 (by decide)).trans ((hFvy27 13 (by decide)).trans (fn rfl (by decide))))
      have hkpy227 : Fvy204 14 = F 14 := ((hFvy204 14 (by decide)).trans ((hFvy27 14 (by decide)).trans (fn rfl (by decide))))
      have hkpy228 : Fvy204 15 = F 15 := ((hFvy204 15 (by decide)).trans ((hFvy27 15 (by decide)).trans (fn rfl (by decide))))
      have hkpy229 : Fvy204 16 = F 16 := ((hFvy204 16 (by decide)).trans ((hFvy27 16 (by decide)).trans (fn rfl (by decide))))
      have hkpy230 : Fvy204 17 = F 17 := ((hFvy204 17 (by decide)).trans ((hFvy27 17 (by decide)).trans (fn rfl (by decide))))
      have hkpy231 : Fvy204 18 = F 18 := ((hFvy204 18 (by decide)).trans ((hFvy27 18 (by decide)).trans (fn rfl (by decide))))
      have hkpy232 : Fvy204 19 = F 19 := ((hFvy204 19 (by decide)).trans ((hFvy27 19 (by decide)).trans (fn rfl (by decide))))
      have hkpy233 : Fvy204 20 = F 20 := ((hFvy204 20 (by decide)).trans ((hFvy27 20 (by decide)).trans (fn rfl (by decide))))
      have hkpy234 : Fvy204 21 = F 21 := ((hFvy204 21 (by decide)).trans ((hFvy27 21 (by decide)).trans (fn rfl (by decide))))
      have hkpy235 : Fvy204 23 = F 23 := ((hFvy204 23 (by decide)).trans ((hFvy27 23 (by decide)).trans (fn rfl (by decide))))
      have hkpy236 : Fvy204 24 = F 24 := ((hFvy204 24 (by decide)).trans ((hFvy27 24 (by decide)).trans (fn rfl (by decide))))
      have hkpy237 : Fvy204 25 = F 25 := ((hFvy204 25 (by decide)).trans ((hFvy27 25 (by decide)).trans (fn rfl (by decide))))
      have hkpy238 : Fvy204 26 = F 26 := ((hFvy204 26 (by decide)).trans ((hFvy27 26 (by decide)).trans (fn rfl (by decide))))
      have hkpy239 : Fvy204 27 = F 27 := ((hFvy204 27 (by decide)).trans ((hFvy27 27 (by decide)).trans (fn rfl (by decide))))
      have hkpy240 : Fvy204 29 = F 29 := ((hFvy204 29 (by decide)).trans ((hFvy27 29 (by decide)).trans (fn rfl (by decide))))
      exact z_iret C hr hlk dX10_once_28 (by decide) (by decide) ⟨0, rfl, rfl, rfl, by omega, ⟨_, _, hMy225, ⟨hkpy226, hkpy227, hkpy228, hkpy229, hkpy230, hkpy231, hkpy232, hkpy233, hkpy234, hkpy235, hkpy236⟩, ⟨(hkpy237.trans hp25), (hkpy238.trans hp26), (hkpy239.trans hp27), (hkpy240.trans hp29)⟩, (fun j _ => rfl)⟩, fun j j1 => by rw [hfvy204 _ (by omega)]; rw [hfvy27 _ (by omega)]; rw [egy25, va_up_ne _ _ (by omega)]⟩
  · refine z_if_eq (tgt := 27) C dX10_once_10 (by decide) (by omega) (fun _ => ?_) (fun h => absurd h (by omega))
    refine z_iconst (z := 0) C dX10_once_27 rfl ?_
    have hgy241 := up_n egy25 ha1 (ne_o (i := i) (c := 1) (d := 0) rfl)
    have hgy242 := (hfvy27 (i + 1) (ne_o (i := i) (c := 1) (d := 0) rfl)).trans hgy241
    have hFy243 : ∀ f, f ≠ 12 → Fvy27 f = F f := fun f n12 => ((hFvy27 f n12).trans ((uZ_n _ _ n12).trans rfl))
    have hey244 : Fvy27 13 = F 13 := ((hFvy27 13 (by decide)).trans (fn rfl (by decide)))
    have hey245 : Fvy27 14 = F 14 := ((hFvy27 14 (by decide)).trans (fn rfl (by decide)))
    have hey246 : Fvy27 15 = F 15 := ((hFvy27 15 (by decide)).trans (fn rfl (by decide)))
    have hey247 : Fvy27 16 = F 16 := ((hFvy27 16 (by decide)).trans (fn rfl (by decide)))
    have hey248 : Fvy27 17 = F 17 := ((hFvy27 17 (by decide)).trans (fn rfl (by decide)))
    have hey249 : Fvy27 18 = F 18 := ((hFvy27 18 (by decide)).trans (fn rfl (by decide)))
    have hey250 : Fvy27 19 = F 19 := ((hFvy27 19 (by decide)).trans (fn rfl (by decide)))
    have hey251 : Fvy27 20 = F 20 := ((hFvy27 20 (by decide)).trans (fn rfl (by decide)))
    have hey252 : Fvy27 21 = F 21 := ((hFvy27 21 (by decide)).trans (fn rfl (by decide)))
    have hey253 : Fvy27 23 = F 23 := ((hFvy27 23 (by decide)).trans (fn rfl (by decide)))
    have hey254 : Fvy27 25 = F 25 := ((hFvy27 25 (by decide)).trans (fn rfl (by decide)))
    have hey255 : Fvy27 27 = F 27 := ((hFvy27 27 (by decide)).trans (fn rfl (by decide)))
    have hey256 : Fvy27 28 = F 28 := ((hFvy27 28 (by decide)).trans (fn rfl (by decide)))
    have hey257 : Fvy27 29 = F 29 := ((hFvy27 29 (by decide)).trans (fn rfl (by decide)))
    have hKy258 : okF Fvy27 := okF.mv hM.2.1 hey244 hey245 hey246 hey247 hey248 hey249 hey250 hey251 hey252 hey253 hey254 hey255 hey256 hey257
    have hMy259 : okMr cs ad gvy27 i (x + 1) Fvy27 r st op ai fa mu tb tp := okMr.upd hM hcvy27 hKy258 (fun f a => hFy243 f (by omega)) hgy242 (hA.mono (by omega)) (fun j a b => by
        exact Or.inl (by rw [hfvy27 _ (by omega)]; rw [egy25, va_up_ne _ _ (by omega)]))
    have hkpy260 : Fvy27 13 = F 13 := ((hFvy27 13 (by decide)).trans (fn rfl (by decide)))
    have hkpy261 : Fvy27 14 = F 14 := ((hFvy27 14 (by decide)).trans (fn rfl (by decide)))
    have hkpy262 : Fvy27 15 = F 15 := ((hFvy27 15 (by decide)).trans (fn rfl (by decide)))
    have hkpy263 : Fvy27 16 = F 16 := ((hFvy27 16 (by decide)).trans (fn rfl (by decide)))
    have hkpy264 : Fvy27 17 = F 17 := ((hFvy27 17 (by decide)).trans (fn rfl (by decide)))
    have hkpy265 : Fvy27 18 = F 18 := ((hFvy27 18 (by decide)).trans (fn rfl (by decide)))
    have hkpy266 : Fvy27 19 = F 19 := ((hFvy27 19 (by decide)).trans (fn rfl (by decide)))
    have hkpy267 : Fvy27 20 = F 20 := ((hFvy27 20 (by decide)).trans (fn rfl (by decide)))
    have hkpy268 : Fvy27 21 = F 21 := ((hFvy27 21 (by decide)).trans (fn rfl (by decide)))
    have hkpy269 : Fvy27 23 = F 23 := ((hFvy27 23 (by decide)).trans (fn rfl (by decide)))
    have hkpy270 : Fvy27 24 = F 24 := ((hFvy27 24 (by decide)).trans (fn rfl (by decide)))
    have hkpy271 : Fvy27 25 = F 25 := ((hFvy27 25 (by decide)).trans (fn rfl (by decide)))
    have hkpy272 : Fvy27 26 = F 26 := ((hFvy27 26 (by decide)).trans (fn rfl (by decide)))
    have hkpy273 : Fvy27 27 = F 27 := ((hFvy27 27 (by decide)).trans (fn rfl (by decide)))
    have hkpy274 : Fvy27 29 = F 29 := ((hFvy27 29 (by decide)).trans (fn rfl (by decide)))
    exact z_iret C hr hlk dX10_once_28 (by decide) (by decide) ⟨0, rfl, rfl, rfl, by omega, ⟨_, _, hMy259, ⟨hkpy260, hkpy261, hkpy262, hkpy263, hkpy264, hkpy265, hkpy266, hkpy267, hkpy268, hkpy269, hkpy270⟩, ⟨(hkpy271.trans hp25), (hkpy272.trans hp26), (hkpy273.trans hp27), (hkpy274.trans hp29)⟩, (fun j _ => rfl)⟩, fun j j1 => by rw [hfvy27 _ (by omega)]; rw [egy25, va_up_ne _ _ (by omega)]⟩

set_option maxRecDepth 100000 in
set_option maxHeartbeats 4000000 in
theorem c_X10_once_b (l : Launch) (D : va_G) (A : Nat → Prop) (cs : Nat → ClassId) (tt : Nat) (N : Nat) (ad : Nat → Nat) (g : Nat → va_E) (i : Nat) (hN : i + 30 ≤ N) (x : Int) (hx : 0 ≤ x ∧ x ≤ 512) (F r : Nat → Int) {st op ai fa mu tb tp : Nat → Int} (hM : okMr cs ad g i x F r st op ai fa mu tb tp) (hPl : F 25 = 0 ∧ F 26 = -1 ∧ F 27 = -1 ∧ F 29 = 0) (z : Int) (hz : -2147483648 ≤ z ∧ z ≤ 2147483647) (hzo : z < 0 ∨ 3 < z) (z1 : Int) (hz1 : -2147483648 ≤ z1 ∧ z1 ≤ 2147483647) : zM l yX10_once cX10_once 4 (some .int) ({ frames := 11, cells := 0, slots := 0, locals := 660 } : Room) D A cs tt N ad g [.ref (ad i), .int (zI (z)), .int (zI (z1))] (rI0 N ad fun q g' => (-2147483648 ≤ q ∧ q ≤ 2147483647) ∧ (∃ F' r' : Nat → Int, okMr cs ad g' i (x + 1) F' r' st op ai fa mu tb tp ∧ (F' 13 = F 13 ∧ F' 14 = F 14 ∧ F' 15 = F 15 ∧ F' 16 = F 16 ∧ F' 17 = F 17 ∧ F' 18 = F 18 ∧ F' 19 = F 19 ∧ F' 20 = F 20 ∧ F' 21 = F 21 ∧ F' 23 = F 23 ∧ F' 24 = F 24) ∧ (F' 25 = 0 ∧ F' 26 = -1 ∧ F' 27 = -1 ∧ F' 29 = 0) ∧ (∀ j, j < 350 ∨ 700 ≤ j → r' j = r j)) ∧ ∀ j, j < i ∨ i + 30 ≤ j ∨ (i + 8 ≤ j ∧ j ≤ i + 12) → g' j = g j) := by
  obtain ⟨hg, ⟨⟨e13, e14, e25, e27, e29⟩, k15, k16, k17, k18, k19, k20, k23, k21⟩, hRD, hTx, hA, ns, nh, nd, rf, pi, te, ki, li, ok1, ok2, fo, dd, dps, ⟨ha1, ha2, ha3, ha4, ha5, ha6, ha7, ha8, ha9, ha10, ha11, ha12, ha13, ha14, ha15, ha24, ha25, ha26, ha27, ha28, ha29⟩, hEv, hPt, hns, htp⟩ := id hM
  obtain ⟨-, hop, hai, hfa, hT, hT1⟩ := id hEv
  have hay1 : zAt ad (i) (ad i) := rfl
  have hay2 : zAt ad (i + 1) (ad (i + 1)) := rfl
  have hay3 : zAt ad (i + 2) (ad (i + 2)) := rfl
  have hay4 : zAt ad (i + 3) (ad (i + 3)) := rfl
  have hay5 : zAt ad (i + 4) (ad (i + 4)) := rfl
  have hay6 : zAt ad (i + 5) (ad (i + 5)) := rfl
  have hay7 : zAt ad (i + 6) (ad (i + 6)) := rfl
  have hay8 : zAt ad (i + 7) (ad (i + 7)) := rfl
  have hay9 : zAt ad (i + 8) (ad (i + 8)) := rfl
  have hay10 : zAt ad (i + 9) (ad (i + 9)) := rfl
  have hay11 : zAt ad (i + 10) (ad (i + 10)) := rfl
  have hay12 : zAt ad (i + 11) (ad (i + 11)) := rfl
  have hay13 : zAt ad (i + 12) (ad (i + 12)) := rfl
  have hay14 : zAt ad (i + 13) (ad (i + 13)) := rfl
  have hay15 : zAt ad (i + 14) (ad (i + 14)) := rfl
  have hay16 : zAt ad (i + 15) (ad (i + 15)) := rfl
  have hay17 : zAt ad (i + 24) (ad (i + 24)) := rfl
  have hay18 : zAt ad (i + 25) (ad (i + 25)) := rfl
  have hay19 : zAt ad (i + 26) (ad (i + 26)) := rfl
  have hay20 : zAt ad (i + 27) (ad (i + 27)) := rfl
  have hay21 : zAt ad (i + 28) (ad (i + 28)) := rfl
  have hay22 : zAt ad (i + 29) (ad (i + 29)) := rfl
  obtain ⟨⟨hsyy23, htyy23, hnyy23, hpyy23⟩, hlyy23⟩ := okA.at0 hA
  simp only [Nat.zero_add] at hsyy23 hnyy23 hpyy23
  have hmn : ∀ s, s < 4 → 0 ≤ r (6 + 86 * s) ∧ r (6 + 86 * s) ≤ 12 := fun s hs => (hsyy23 s hs).1
  have h5 : 0 ≤ r 5 ∧ r 5 ≤ 6 := hpyy23
  obtain ⟨hp25, hp26, hp27, hp29⟩ := id hPl
  refine z_of (by decide) (Nat.le_of_ble_eq_true rfl) ?_
  intro pZ eZ sZ mZ below meth cZ C hr hlk hnm
  refine z_lv (lv' := [(0, .ref (ad i)), (1, .int (zI (z))), (2, .int (zI (z1)))]) [0, 1, 2] rfl ?_
  refine z_aload_n C 0 dX10_once_0 rfl ?_
  refine z_iconst (z := 0) C dX10_once_1 rfl ?_
  refine z_put (fs' := mF ad (i) (uZ F 12 (0))) C (lt_A0 hN rfl) hay1 hg tyX10 tyX10_ok nmX10 rfl inA_X10 12 (by decide) q_1471 rfl rfl rfl rfl (Nat.le_of_ble_eq_true rfl) rfl dX10_once_2 (fun gy24 egy25 => ?_)
  have hgy26 := up_s egy25
  refine z_aload_n C 0 dX10_once_5 rfl ?_
  refine z_iload_n C 1 dX10_once_6 rfl ?_
  have h13vy27 : (uZ F 12 (0)) 13 = F 13 := (fn rfl (by decide))
  have hey28 : (uZ F 12 (0)) 12 = 0 := (uZ_s _ _ _)
  refine z_cV (As := [.int (zI (z))]) (rest := []) (ci := 12) C (c_X10_isSlope l D A cs tt N ad _ i hN _ hgy26 (by omega) (by omega) (z) (by omega)) (lt_A0 hN rfl) hay1 hgy26 rfl rfl mv_yX10_isSlope q_1803 hd_yX10_isSlope (by decide) (Nat.le_of_ble_eq_true rfl) (by decide) dX10_once_7 rfl (kI0 fun vy27 gvy27 hvy27 => ?_)
  rw [h13vy27] at hvy27
  obtain ⟨hrvy27, ⟨Fvy27, hcvy27, htvy27, hFvy27⟩, hfvy27⟩ := hvy27
  obtain rfl : vy27 = 0 := by omega
  refine z_if_eq (tgt := 27) C dX10_once_10 (by decide) (by omega) (fun _ => ?_) (fun h => absurd h (by omega))
  refine z_iconst (z := 0) C dX10_once_27 rfl ?_
  have hgy29 := up_n egy25 ha1 (ne_o (i := i) (c := 1) (d := 0) rfl)
  have hgy30 := (hfvy27 (i + 1) (ne_o (i := i) (c := 1) (d := 0) rfl)).trans hgy29
  have hFy31 : ∀ f, f ≠ 12 → Fvy27 f = F f := fun f n12 => ((hFvy27 f n12).trans ((uZ_n _ _ n12).trans rfl))
  have hey32 : Fvy27 13 = F 13 := ((hFvy27 13 (by decide)).trans (fn rfl (by decide)))
  have hey33 : Fvy27 14 = F 14 := ((hFvy27 14 (by decide)).trans (fn rfl (by decide)))
  have hey34 : Fvy27 15 = F 15 := ((hFvy27 15 (by decide)).trans (fn rfl (by decide)))
  have hey35 : Fvy27 16 = F 16 := ((hFvy27 16 (by decide)).trans (fn rfl (by decide)))
  have hey36 : Fvy27 17 = F 17 := ((hFvy27 17 (by decide)).trans (fn rfl (by decide)))
  have hey37 : Fvy27 18 = F 18 := ((hFvy27 18 (by decide)).trans (fn rfl (by decide)))
  have hey38 : Fvy27 19 = F 19 := ((hFvy27 19 (by decide)).trans (fn rfl (by decide)))
  have hey39 : Fvy27 20 = F 20 := ((hFvy27 20 (by decide)).trans (fn rfl (by decide)))
  have hey40 : Fvy27 21 = F 21 := ((hFvy27 21 (by decide)).trans (fn rfl (by decide)))
  have hey41 : Fvy27 23 = F 23 := ((hFvy27 23 (by decide)).trans (fn rfl (by decide)))
  have hey42 : Fvy27 25 = F 25 := ((hFvy27 25 (by decide)).trans (fn rfl (by decide)))
  have hey43 : Fvy27 27 = F 27 := ((hFvy27 27 (by decide)).trans (fn rfl (by decide)))
  have hey44 : Fvy27 28 = F 28 := ((hFvy27 28 (by decide)).trans (fn rfl (by decide)))
  have hey45 : Fvy27 29 = F 29 := ((hFvy27 29 (by decide)).trans (fn rfl (by decide)))
  have hKy46 : okF Fvy27 := okF.mv hM.2.1 hey32 hey33 hey34 hey35 hey36 hey37 hey38 hey39 hey40 hey41 hey42 hey43 hey44 hey45
  have hMy47 : okMr cs ad gvy27 i (x + 1) Fvy27 r st op ai fa mu tb tp := okMr.upd hM hcvy27 hKy46 (fun f a => hFy31 f (by omega)) hgy30 (hA.mono (by omega)) (fun j a b => by
      exact Or.inl (by rw [hfvy27 _ (by omega)]; rw [egy25, va_up_ne _ _ (by omega)]))
  have hkpy48 : Fvy27 13 = F 13 := ((hFvy27 13 (by decide)).trans (fn rfl (by decide)))
  have hkpy49 : Fvy27 14 = F 14 := ((hFvy27 14 (by decide)).trans (fn rfl (by decide)))
  have hkpy50 : Fvy27 15 = F 15 := ((hFvy27 15 (by decide)).trans (fn rfl (by decide)))
  have hkpy51 : Fvy27 16 = F 16 := ((hFvy27 16 (by decide)).trans (fn rfl (by decide)))
  have hkpy52 : Fvy27 17 = F 17 := ((hFvy27 17 (by decide)).trans (fn rfl (by decide)))
  have hkpy53 : Fvy27 18 = F 18 := ((hFvy27 18 (by decide)).trans (fn rfl (by decide)))
  have hkpy54 : Fvy27 19 = F 19 := ((hFvy27 19 (by decide)).trans (fn rfl (by decide)))
  have hkpy55 : Fvy27 20 = F 20 := ((hFvy27 20 (by decide)).trans (fn rfl (by decide)))
  have hkpy56 : Fvy27 21 = F 21 := ((hFvy27 21 (by decide)).trans (fn rfl (by decide)))
  have hkpy57 : Fvy27 23 = F 23 := ((hFvy27 23 (by decide)).trans (fn rfl (by decide)))
  have hkpy58 : Fvy27 24 = F 24 := ((hFvy27 24 (by decide)).trans (fn rfl (by decide)))
  have hkpy59 : Fvy27 25 = F 25 := ((hFvy27 25 (by decide)).trans (fn rfl (by decide)))
  have hkpy60 : Fvy27 26 = F 26 := ((hFvy27 26 (by decide)).trans (fn rfl (by decide)))
  have hkpy61 : Fvy27 27 = F 27 := ((hFvy27 27 (by decide)).trans (fn rfl (by decide)))
  have hkpy62 : Fvy27 29 = F 29 := ((hFvy27 29 (by decide)).trans (fn rfl (by decide)))
  exact z_iret C hr hlk dX10_once_28 (by decide) (by decide) ⟨0, rfl, rfl, rfl, by omega, ⟨_, _, hMy47, ⟨hkpy48, hkpy49, hkpy50, hkpy51, hkpy52, hkpy53, hkpy54, hkpy55, hkpy56, hkpy57, hkpy58⟩, ⟨(hkpy59.trans hp25), (hkpy60.trans hp26), (hkpy61.trans hp27), (hkpy62.trans hp29)⟩, (fun j _ => rfl)⟩, fun j j1 => by rw [hfvy27 _ (by omega)]; rw [egy25, va_up_ne _ _ (by omega)]⟩

set_option maxRecDepth 100000 in
set_option maxHeartbeats 4000000 in
theorem c_X10_once (l : Launch) (D : va_G) (A : Nat → Prop) (cs : Nat → ClassId) (tt : Nat) (N : Nat) (ad : Nat → Nat) (g : Nat → va_E) (i : Nat) (hN : i + 30 ≤ N) (x : Int) (hx : 0 ≤ x ∧ x ≤ 512) (F r : Nat → Int) {st op ai fa mu tb tp : Nat → Int} (hM : okMr cs ad g i x F r st op ai fa mu tb tp) (hPl : F 25 = 0 ∧ F 26 = -1 ∧ F 27 = -1 ∧ F 29 = 0) (z : Int) (hz : -2147483648 ≤ z ∧ z ≤ 2147483647) (z1 : Int) (hz1 : -2147483648 ≤ z1 ∧ z1 ≤ 2147483647) : zM l yX10_once cX10_once 4 (some .int) ({ frames := 11, cells := 0, slots := 0, locals := 660 } : Room) D A cs tt N ad g [.ref (ad i), .int (zI (z)), .int (zI (z1))] (rI0 N ad fun q g' => (-2147483648 ≤ q ∧ q ≤ 2147483647) ∧ (∃ F' r' : Nat → Int, okMr cs ad g' i (x + 1) F' r' st op ai fa mu tb tp ∧ (F' 13 = F 13 ∧ F' 14 = F 14 ∧ F' 15 = F 15 ∧ F' 16 = F 16 ∧ F' 17 = F 17 ∧ F' 18 = F 18 ∧ F' 19 = F 19 ∧ F' 20 = F 20 ∧ F' 21 = F 21 ∧ F' 23 = F 23 ∧ F' 24 = F 24) ∧ (F' 25 = 0 ∧ F' 26 = -1 ∧ F' 27 = -1 ∧ F' 29 = 0) ∧ (∀ j, j < 350 ∨ 700 ≤ j → r' j = r j)) ∧ ∀ j, j < i ∨ i + 30 ≤ j ∨ (i + 8 ≤ j ∧ j ≤ i + 12) → g' j = g j) := by
  by_cases h9 : 0 ≤ z ∧ z ≤ 3
  · obtain ⟨n, rfl⟩ : ∃ n : Nat, z = (n : Int) := ⟨z.toNat, by omega⟩
    exact c_X10_once_a l D A cs tt N ad g i hN x hx F r hM hPl n (by omega) z1 hz1
  · exact c_X10_once_b l D A cs tt N ad g i hN x hx F r hM hPl z hz (by omega) z1 hz1

set_option maxRecDepth 100000 in
set_option maxHeartbeats 4000000 in
theorem c_X10_isNamed (l : Launch) (D : va_G) (A : Nat → Prop) (cs : Nat → ClassId) (tt : Nat) (N : Nat) (ad : Nat → Nat) (g : Nat → va_E) (i : Nat) (hN : i + 30 ≤ N) (F : Nat → Int) (hg : g i = mC ad i F) (r : Nat → Int) (ha1 : g (i + 1) = iA cs 29200 r) (b : Nat) (hb : b + 350 ≤ 29200) (hmn : ∀ s, s < 4 → 0 ≤ r (b + 6 + 86 * s) ∧ r (b + 6 + 86 * s) ≤ 12) (h13 : 0 ≤ F 13 ∧ F 13 ≤ 4) (z : Int) (hz : -2147483648 ≤ z ∧ z ≤ 2147483647) : zM l yX10_isNamed cX10_isNamed 5 (some .boolean) ({ frames := 3, cells := 0, slots := 0, locals := 180 } : Room) D A cs tt N ad g [.ref (ad i), .int (zI ((b : Int))), .int (zI (z))] (rI0 N ad fun r g' => (0 ≤ r ∧ r ≤ 1) ∧ g = g') := by
  have hay1 : zAt ad (i) (ad i) := rfl
  have hay2 : zAt ad (i + 1) (ad (i + 1)) := rfl
  refine z_of (by decide) (Nat.le_of_ble_eq_true rfl) ?_
  intro pZ eZ sZ mZ below meth cZ C hr hlk hnm
  refine z_lv (lv' := [(0, .ref (ad i)), (1, .int (zI ((b : Int)))), (2, .int (zI (z)))]) [0, 1, 2] rfl ?_
  have lpo : ∀ (n9 : Nat) (ss : Int) (g1 : Nat → va_E), (5 - ss).toNat = n9 → (g = g1) → (0 ≤ ss ∧ ss ≤ F 13) → zV pZ l eZ ({ frames := 3, cells := 0, slots := 0, locals := 180 } : Room) sZ mZ ([.ref (ad i), .int (zI ((b : Int))), .int (zI (z))] : List Value).toArray below meth cZ (MQ below (zPost D A (rI0 N ad fun r g' => (0 ≤ r ∧ r ≤ 1) ∧ g = g')) ([.ref (ad i), .int (zI ((b : Int))), .int (zI (z))] : List Value).toArray sZ ({ frames := 3, cells := 0, slots := 0, locals := 180 } : Room).cells ({ frames := 3, cells := 0, slots := 0, locals := 180 } : Room).slots A) D A 5 (N) ad g1 (0) (0) 2 [(0, .ref (ad i)), (1, .int (zI ((b : Int)))), (2, .int (zI (z))), (3, .int (zI (ss)))] [] := by
    intro n9
    induction n9 using Nat.strongRecOn with
    | ind n9 ih_lpo =>
      intro ss g1 hm9 hg1 hvo
      subst hg1
      refine z_iload_n C 3 dX10_isNamed_2 rfl ?_
      refine z_aload_n C 0 dX10_isNamed_3 rfl ?_
      refine z_get (v := .int (zI (F 13))) C (lt_A0 hN rfl) hay1 hg rfl inA_X10 13 (by decide) q_1472 rfl (fv (F := F) (f := 13) rfl) dX10_isNamed_4 ?_
      refine z_icmp_ge (tgt := 52) C dX10_isNamed_7 (by decide) (by omega) (by omega) (fun hby3 => ?_) (fun hby3 => ?_)
      · refine z_iconst (z := 0) C dX10_isNamed_52 rfl ?_
        exact z_zret C hr hlk dX10_isNamed_53 (by decide) (by decide) (by decide) ⟨0, rfl, rfl, rfl, by omega, rfl⟩
      · refine z_iconst (z := 0) C dX10_isNamed_10 rfl ?_
        refine z_istore (lv' := [(4, .int (zI (0))), (0, .ref (ad i)), (1, .int (zI ((b : Int)))), (2, .int (zI (z))), (3, .int (zI (ss)))]) C dX10_isNamed_11 (by decide) rfl ?_
        have lpi : ∀ (n9 : Nat) (s2 : Int) (ll : Int) (g1 : Nat → va_E), (13 - ll).toNat = n9 → (g = g1) → (s2 = ss) → (0 ≤ ll ∧ ll ≤ 12) → zV pZ l eZ ({ frames := 3, cells := 0, slots := 0, locals := 180 } : Room) sZ mZ ([.ref (ad i), .int (zI ((b : Int))), .int (zI (z))] : List Value).toArray below meth cZ (MQ below (zPost D A (rI0 N ad fun r g' => (0 ≤ r ∧ r ≤ 1) ∧ g = g')) ([.ref (ad i), .int (zI ((b : Int))), .int (zI (z))] : List Value).toArray sZ ({ frames := 3, cells := 0, slots := 0, locals := 180 } : Room).cells ({ frames := 3, cells := 0, slots := 0, locals := 180 } : Room).slots A) D A 5 (N) ad g1 (0) (0) 13 [(0, .ref (ad i)), (1, .int (zI ((b : Int)))), (2, .int (zI (z))), (3, .int (zI (s2))), (4, .int (zI (ll)))] [] := by
          intro n9
          induction n9 using Nat.strongRecOn with
          | ind n9 ih_lpi =>
            intro s2 ll g1 hm9 hg2 hvs hvi
            subst hg2
            refine z_iload C 4 dX10_isNamed_13 rfl ?_
            refine z_aload_n C 0 dX10_isNamed_15 rfl ?_
            refine z_iload_n C 1 dX10_isNamed_16 rfl ?_
            refine z_iload_n C 3 dX10_isNamed_17 rfl ?_
            obtain ⟨ny4, hny4⟩ : ∃ n9 : Nat, s2 = (n9 : Int) := ⟨(s2).toNat, by omega⟩
            rw [hny4]
            obtain ⟨py5, hpy5⟩ : ∃ p9 : Nat, b + 6 + 86 * ny4 = p9 := ⟨_, rfl⟩
            have hmpy5 := hmn ny4 (by omega)
            rw [hpy5] at hmpy5
            refine z_cV (As := [.int (zI ((b : Int))), .int (zI ((ny4 : Int)))]) (rest := [.int (zI (ll))]) (ci := 12) C (c_X10_many l D A cs tt N ad _ i hN _ hg _ ha1 b ny4 py5 hpy5 (by omega) (by omega)) (lt_A0 hN rfl) hay1 hg rfl rfl mv_yX10_many q_1733 hd_yX10_many (by decide) (Nat.le_of_ble_eq_true rfl) (by decide) dX10_isNamed_18 rfl (kI0 fun vy6 gvy6 hvy6 => ?_)
            obtain ⟨rfl, rfl⟩ := hvy6
            refine z_icmp_ge (tgt := 46) C dX10_isNamed_21 (by decide) (by omega) (by omega) (fun hby7 => ?_) (fun hby7 => ?_)
            · refine z_iinc (z := (ny4 : Int) + 1) (lv' := [(3, .int (zI ((ny4 : Int) + 1))), (0, .ref (ad i)), (1, .int (zI ((b : Int)))), (2, .int (zI (z))), (4, .int (zI (ll)))]) (j := 3) C dX10_isNamed_46 rfl rfl (by decide) rfl ?_
              refine z_goto (tgt := 2) C dX10_isNamed_49 (by decide) ?_
              refine z_lv (lv' := [(0, .ref (ad i)), (1, .int (zI ((b : Int)))), (2, .int (zI (z))), (3, .int (zI ((ny4 : Int) + 1)))]) [1, 2, 3, 0] rfl ?_
              exact ih_lpo _ (by omega) ((ny4 : Int) + 1) _ rfl rfl (by omega)
            · refine z_aload_n C 0 dX10_isNamed_24 rfl ?_
              refine z_iload_n C 1 dX10_isNamed_25 rfl ?_
              refine z_iload_n C 3 dX10_isNamed_26 rfl ?_
              refine z_iload C 4 dX10_isNamed_27 rfl ?_
              refine z_bipush (z := 6) C dX10_isNamed_29 (by decide) ?_
              obtain ⟨ky8, hky8⟩ : ∃ k9 : Nat, (ll) = (k9 : Int) := ⟨((ll) : Int).toNat, by omega⟩
              obtain ⟨qy9, hqy9⟩ : ∃ q9 : Nat, py5 + 2 + 7 * ky8 = q9 := ⟨_, rfl⟩
              refine z_cV (As := [.int (zI ((b : Int))), .int (zI ((ny4 : Int))), .int (zI (ll)), .int (zI (6))]) (rest := []) (ci := 12) C (c_X10_of l D A cs tt N ad _ i hN _ hg _ ha1 b ny4 py5 hpy5 (by omega) (by omega) (ll) (6) (qy9 + 6) (by omega) (by omega) (by omega)) (lt_A0 hN rfl) hay1 hg rfl rfl mv_yX10_of q_1749 hd_yX10_of (by decide) (Nat.le_of_ble_eq_true rfl) (by decide) dX10_isNamed_31 rfl (kI0 fun vy10 gvy10 hvy10 => ?_)
              obtain ⟨rfl, rfl⟩ := hvy10
              refine z_iload_n C 2 dX10_isNamed_34 rfl ?_
              obtain ⟨xy11, exy12, hxy13⟩ := zI_of (zI (r (qy9 + 6)))
              rw [exy12]
              refine z_icmp_ne (tgt := 40) C dX10_isNamed_35 (by decide) (by omega) (by omega) (fun hby14 => ?_) (fun hby14 => ?_)
              · refine z_iinc (z := ll + 1) (lv' := [(4, .int (zI (ll + 1))), (0, .ref (ad i)), (1, .int (zI ((b : Int)))), (2, .int (zI (z))), (3, .int (zI ((ny4 : Int))))]) (j := 4) C dX10_isNamed_40 rfl rfl (by decide) rfl ?_
                refine z_goto (tgt := 13) C dX10_isNamed_43 (by decide) ?_
                refine z_lv (lv' := [(0, .ref (ad i)), (1, .int (zI ((b : Int)))), (2, .int (zI (z))), (3, .int (zI ((ny4 : Int)))), (4, .int (zI (ll + 1)))]) [1, 2, 3, 4, 0] rfl ?_
                exact ih_lpi _ (by omega) ((ny4 : Int)) (ll + 1) _ rfl rfl (by omega) (by omega)
              · refine z_iconst (z := 1) C dX10_isNamed_38 rfl ?_
                exact z_zret C hr hlk dX10_isNamed_39 (by decide) (by decide) (by decide) ⟨1, rfl, rfl, rfl, by omega, rfl⟩
        refine z_lv (lv' := [(0, .ref (ad i)), (1, .int (zI ((b : Int)))), (2, .int (zI (z))), (3, .int (zI (ss))), (4, .int (zI (0)))]) [1, 2, 3, 4, 0] rfl ?_
        exact lpi _ (ss) (0) _ rfl rfl (by omega) (by omega)
  refine z_iconst (z := 0) C dX10_isNamed_0 rfl ?_
  refine z_istore_n (lv' := [(3, .int (zI (0))), (0, .ref (ad i)), (1, .int (zI ((b : Int)))), (2, .int (zI (z)))]) C dX10_isNamed_1 rfl (by decide) rfl ?_
  refine z_lv (lv' := [(0, .ref (ad i)), (1, .int (zI ((b : Int)))), (2, .int (zI (z))), (3, .int (zI (0)))]) [1, 2, 3, 0] rfl ?_
  exact lpo _ (0) _ rfl rfl (by omega)

set_option maxRecDepth 100000 in
set_option maxHeartbeats 4000000 in
theorem c_X10_gone (l : Launch) (D : va_G) (A : Nat → Prop) (cs : Nat → ClassId) (tt : Nat) (N : Nat) (ad : Nat → Nat) (g : Nat → va_E) (i : Nat) (hN : i + 30 ≤ N) (x : Int) (hx : 0 ≤ x ∧ x ≤ 512) (F r : Nat → Int) {st op ai fa mu tb tp : Nat → Int} (hM : okMr cs ad g i x F r st op ai fa mu tb tp) (hPl : F 25 = 0 ∧ F 26 = -1 ∧ F 27 = -1 ∧ F 29 = 0) (z : Int) (hz : -2147483648 ≤ z ∧ z ≤ 2147483647) : zM l yX10_gone cX10_gone 3 (some .int) ({ frames := 9, cells := 0, slots := 0, locals := 540 } : Room) D A cs tt N ad g [.ref (ad i), .int (zI (z))] (rI0 N ad fun q g' => (-2147483648 ≤ q ∧ q ≤ 2147483647) ∧ (∃ F' r' : Nat → Int, okMr cs ad g' i (x + 1) F' r' st op ai fa mu tb tp ∧ (F' 13 = F 13 ∧ F' 14 = F 14 ∧ F' 15 = F 15 ∧ F' 16 = F 16 ∧ F' 17 = F 17 ∧ F' 18 = F 18 ∧ F' 19 = F 19 ∧ F' 20 = F 20 ∧ F' 21 = F 21 ∧ F' 23 = F 23 ∧ F' 24 = F 24) ∧ (F' 25 = 0 ∧ F' 26 = -1 ∧ F' 27 = -1 ∧ F' 29 = 0) ∧ (∀ j, j < 350 ∨ 700 ≤ j → r' j = r j)) ∧ ∀ j, j < i ∨ i + 30 ≤ j ∨ (i + 8 ≤ j ∧ j ≤ i + 12) → g' j = g j) := by
  obtain ⟨hg, ⟨⟨e13, e14, e25, e27, e29⟩, k15, k16, k17, k18, k19, k20, k23, k21⟩, hRD, hTx, hA, ns, nh, nd, rf, pi, te, ki, li, ok1, ok2, fo, dd, dps, ⟨ha1, ha2, ha3, ha4, ha5, ha6, ha7, ha8, ha9, ha10, ha11, ha12, ha13, ha14, ha15, ha24, ha25, ha26, ha27, ha28, ha29⟩, hEv, hPt, hns, htp⟩ := id hM
  obtain ⟨-, hop, hai, hfa, hT, hT1⟩ := id hEv
  have hay1 : zAt ad (i) (ad i) := rfl
  have hay2 : zAt ad (i + 1) (ad (i + 1)) := rfl
  have hay3 : zAt ad (i + 2) (ad (i + 2)) := rfl
  have hay4 : zAt ad (i + 3) (ad (i + 3)) := rfl
  have hay5 : zAt ad (i + 4) (ad (i + 4)) := rfl
  have hay6 : zAt ad (i + 5) (ad (i + 5)) := rfl
  have hay7 : zAt ad (i + 6) (ad (i + 6)) := rfl
  have hay8 : zAt ad (i + 7) (ad (i + 7)) := rfl
  have hay9 : zAt ad (i + 8) (ad (i + 8)) := rfl
  have hay10 : zAt ad (i + 9) (ad (i + 9)) := rfl
  have hay11 : zAt ad (i + 10) (ad (i + 10)) := rfl
  have hay12 : zAt ad (i + 11) (ad (i + 11)) := rfl
  have hay13 : zAt ad (i + 12) (ad (i + 12)) := rfl
  have hay14 : zAt ad (i + 13) (ad (i + 13)) := rfl
  have hay15 : zAt ad (i + 14) (ad (i + 14)) := rfl
  have hay16 : zAt ad (i + 15) (ad (i + 15)) := rfl
  have hay17 : zAt ad (i + 24) (ad (i + 24)) := rfl
  have hay18 : zAt ad (i + 25) (ad (i + 25)) := rfl
  have hay19 : zAt ad (i + 26) (ad (i + 26)) := rfl
  have hay20 : zAt ad (i + 27) (ad (i + 27)) := rfl
  have hay21 : zAt ad (i + 28) (ad (i + 28)) := rfl
  have hay22 : zAt ad (i + 29) (ad (i + 29)) := rfl
  obtain ⟨⟨hsyy23, htyy23, hnyy23, hpyy23⟩, hlyy23⟩ := okA.at0 hA
  simp only [Nat.zero_add] at hsyy23 hnyy23 hpyy23
  have hmn : ∀ s, s < 4 → 0 ≤ r (6 + 86 * s) ∧ r (6 + 86 * s) ≤ 12 := fun s hs => (hsyy23 s hs).1
  have h5 : 0 ≤ r 5 ∧ r 5 ≤ 6 := hpyy23
  obtain ⟨hp25, hp26, hp27, hp29⟩ := id hPl
  refine z_of (by decide) (Nat.le_of_ble_eq_true rfl) ?_
  intro pZ eZ sZ mZ below meth cZ C hr hlk hnm
  refine z_lv (lv' := [(0, .ref (ad i)), (1, .int (zI (z)))]) [0, 1] rfl ?_
  refine z_aload_n C 0 dX10_gone_0 rfl ?_
  refine z_iconst (z := 0) C dX10_gone_1 rfl ?_
  refine z_put (fs' := mF ad (i) (uZ F 12 (0))) C (lt_A0 hN rfl) hay1 hg tyX10 tyX10_ok nmX10 rfl inA_X10 12 (by decide) q_1471 rfl rfl rfl rfl (Nat.le_of_ble_eq_true rfl) rfl dX10_gone_2 (fun gy24 egy25 => ?_)
  have hgy26 := up_s egy25
  refine z_aload_n C 0 dX10_gone_5 rfl ?_
  refine z_iload_n C 1 dX10_gone_6 rfl ?_
  refine z_iconst (z := 0) C dX10_gone_7 rfl ?_
  refine z_aload_n C 0 dX10_gone_8 rfl ?_
  refine z_get (v := .ref (ad (i + 1))) C (lt_A0 hN rfl) hay1 hgy26 rfl inA_X10 0 (by decide) q_1459 rfl rfl dX10_gone_9 ?_
  refine z_iconst (z := 1) C dX10_gone_12 rfl ?_
  have hgy27 := up_n egy25 ha1 (ne_o (i := i) (c := 1) (d := 0) rfl)
  refine z_iald C (lt_A (c := 1) hN rfl) hay2 hgy27 (1) (by omega) (by omega) (by decide) dX10_gone_13 ?_
  refine z_iconst (z := 1) C dX10_gone_14 rfl ?_
  refine z_isub C dX10_gone_15 ?_
  refine z_cS (As := [.int (zI (z)), .int (zI (0)), .int (zI ((r (1)) - 1))]) (rest := [.ref (ad i)]) C (c_X10_within l D A cs tt N ad _ (z) (by omega) (0) (by omega) ((r (1)) - 1) (by omega)) ms_yX10_within q_1686 hd_yX10_within (by decide) (Nat.le_of_ble_eq_true rfl) (by decide) dX10_gone_16 rfl (kI0 fun vy28 gvy28 hvy28 => ?_)
  obtain ⟨hvy28, rfl⟩ := hvy28
  rcases hvy28 with ⟨rfl, hxvy28⟩ | ⟨rfl, hxvy28⟩
  · refine z_iconst (z := 1) C dX10_gone_19 rfl ?_
    have hey30 : (uZ F 12 (0)) 12 = 0 := (uZ_s _ _ _)
    refine z_cV (As := [.int (zI (1)), .int (zI (1))]) (rest := []) (ci := 12) C (c_X10_right l D A cs tt N ad _ i hN _ hgy26 (by omega) (1) (by omega) (1) (by omega)) (lt_A0 hN rfl) hay1 hgy26 rfl rfl mv_yX10_right q_1648 hd_yX10_right (by decide) (Nat.le_of_ble_eq_true rfl) (by decide) dX10_gone_20 rfl (kI0 fun vy29 gvy29 hvy29 => ?_)
    obtain ⟨hrvy29, ⟨Fvy29, hcvy29, htvy29, hFvy29⟩, hfvy29⟩ := hvy29
    rcases (show vy29 = 1 ∨ vy29 = 0 by omega) with rfl | rfl
    · refine z_if_ne (tgt := 28) C dX10_gone_23 (by decide) (by omega) (fun _ => ?_) (fun h => absurd h (by omega))
      refine z_aload_n C 0 dX10_gone_28 rfl ?_
      have hgy31 := (hfvy29 (i + 1) (ne_o (i := i) (c := 1) (d := 0) rfl)).trans hgy27
      refine z_cV (As := []) (rest := []) (ci := 12) C (c_X10_tries l D A cs tt N ad _ i hN _ hcvy29 _ hgy31 (x) hA) (lt_A0 hN rfl) hay1 hcvy29 rfl rfl mv_yX10_tries q_1980 hd_yX10_tries (by decide) (Nat.le_of_ble_eq_true rfl) (by decide) dX10_gone_29 rfl (kV0 fun gvy32 hvy32 => ?_)
      obtain ⟨⟨rvy32, hdvy32, hAvy32, hWvy32, h0vy32, hyvy32⟩, hfvy32⟩ := hvy32
      obtain ⟨⟨hsyy33, htyy33, hnyy33, hpyy33⟩, hlyy33⟩ := okA.at0 hAvy32
      simp only [Nat.zero_add] at hsyy33 hnyy33 hpyy33
      have hmn : ∀ s, s < 4 → 0 ≤ rvy32 (6 + 86 * s) ∧ rvy32 (6 + 86 * s) ≤ 12 := fun s hs => (hsyy33 s hs).1
      have h5 : 0 ≤ rvy32 5 ∧ rvy32 5 ≤ 6 := hpyy33
      refine z_iconst (z := 0) C dX10_gone_32 rfl ?_
      refine z_istore_n (lv' := [(2, .int (zI (0))), (0, .ref (ad i)), (1, .int (zI (z)))]) C dX10_gone_33 rfl (by decide) rfl ?_
      have lp1 : ∀ (n9 : Nat) (nn : Int) (F9 : Nat → Int) (r9 : Nat → Int) (g1 : Nat → va_E), (73 - nn).toNat = n9 → (okMr cs ad g1 i x F9 r9 st op ai fa mu tb tp) → ((∀ f, f ≠ 12 → F9 f = F f)) → (okW r9 350 (x)) → ((∀ j, j < 350 ∨ 700 ≤ j → r9 j = r j)) → (∀ j, j < i ∨ i + 30 ≤ j ∨ (i + 8 ≤ j ∧ j ≤ i + 12) → g1 j = g j) → (0 ≤ nn ∧ nn ≤ 73) → (r9 350 ≤ 2000 + nn) → zV pZ l eZ ({ frames := 9, cells := 0, slots := 0, locals := 540 } : Room) sZ mZ ([.ref (ad i), .int (zI (z))] : List Value).toArray below meth cZ (MQ below (zPost D A (rI0 N ad fun q g' => (-2147483648 ≤ q ∧ q ≤ 2147483647) ∧ (∃ F' r' : Nat → Int, okMr cs ad g' i (x + 1) F' r' st op ai fa mu tb tp ∧ (F' 13 = F 13 ∧ F' 14 = F 14 ∧ F' 15 = F 15 ∧ F' 16 = F 16 ∧ F' 17 = F 17 ∧ F' 18 = F 18 ∧ F' 19 = F 19 ∧ F' 20 = F 20 ∧ F' 21 = F 21 ∧ F' 23 = F 23 ∧ F' 24 = F 24) ∧ (F' 25 = 0 ∧ F' 26 = -1 ∧ F' 27 = -1 ∧ F' 29 = 0) ∧ (∀ j, j < 350 ∨ 700 ≤ j → r' j = r j)) ∧ ∀ j, j < i ∨ i + 30 ≤ j ∨ (i + 8 ≤ j ∧ j ≤ i + 12) → g' j = g j)) ([.ref (ad i), .int (zI (z))] : List Value).toArray sZ ({ frames := 9, cells := 0, slots := 0, locals := 540 } : Room).cells ({ frames := 9, cells := 0, slots := 0, locals := 540 } : Room).slots A) D A 3 (N) ad g1 (0) (0) 34 [(0, .ref (ad i)), (1, .int (zI (z))), (2, .int (zI (nn)))] [] := by
        intro n9
        induction n9 using Nat.strongRecOn with
        | ind n9 ih_lp1 =>
          intro nn F9 r9 g1 hm9 fM fF fW fR f3 hvlp10 hvlp11
          obtain ⟨hg_y34, ⟨⟨e13_y34, e14_y34, e25_y34, e27_y34, e29_y34⟩, k15_y34, k16_y34, k17_y34, k18_y34, k19_y34, k20_y34, k23_y34, k21_y34⟩, hRD_y34, hTx_y34, hA_y34, ns_y34, nh_y34, nd_y34, rf_y34, pi_y34, te_y34, ki_y34, li_y34, ok1_y34, ok2_y34, fo_y34, dd_y34, dps_y34, ⟨ha1_y34, ha2_y34, ha3_y34, ha4_y34, ha5_y34, ha6_y34, ha7_y34, ha8_y34, ha9_y34, ha10_y34, ha11_y34, ha12_y34, ha13_y34, ha14_y34, ha15_y34, ha24_y34, ha25_y34, ha26_y34, ha27_y34, ha28_y34, ha29_y34⟩, hEv_y34, hPt_y34, hns_y34, htp_y34⟩ := id fM
          obtain ⟨-, hop_y34, hai_y34, hfa_y34, hT_y34, hT1_y34⟩ := id hEv_y34
          have e14 := e14_y34
          have e25 := e25_y34
          have e27 := e27_y34
          have e29 := e29_y34
          have hop := hop_y34
          have hai := hai_y34
          have hfa := hfa_y34
          have hT := hT_y34
          have hT1 := hT1_y34
          have hEv := hEv_y34
          have htp := htp_y34
          have hns := hns_y34
          have hPt := hPt_y34
          have hay35 : zAt ad (i) (ad i) := rfl
          have hay36 : zAt ad (i + 1) (ad (i + 1)) := rfl
          have hay37 : zAt ad (i + 2) (ad (i + 2)) := rfl
          have hay38 : zAt ad (i + 3) (ad (i + 3)) := rfl
          have hay39 : zAt ad (i + 4) (ad (i + 4)) := rfl
          have hay40 : zAt ad (i + 5) (ad (i + 5)) := rfl
          have hay41 : zAt ad (i + 6) (ad (i + 6)) := rfl
          have hay42 : zAt ad (i + 7) (ad (i + 7)) := rfl
          have hay43 : zAt ad (i + 8) (ad (i + 8)) := rfl
          have hay44 : zAt ad (i + 9) (ad (i + 9)) := rfl
          have hay45 : zAt ad (i + 10) (ad (i + 10)) := rfl
          have hay46 : zAt ad (i + 11) (ad (i + 11)) := rfl
          have hay47 : zAt ad (i + 12) (ad (i + 12)) := rfl
          have hay48 : zAt ad (i + 13) (ad (i + 13)) := rfl
          have hay49 : zAt ad (i + 14) (ad (i + 14)) := rfl
          have hay50 : zAt ad (i + 15) (ad (i + 15)) := rfl
          have hay51 : zAt ad (i + 24) (ad (i + 24)) := rfl
          have hay52 : zAt ad (i + 25) (ad (i + 25)) := rfl
          have hay53 : zAt ad (i + 26) (ad (i + 26)) := rfl
          have hay54 : zAt ad (i + 27) (ad (i + 27)) := rfl
          have hay55 : zAt ad (i + 28) (ad (i + 28)) := rfl
          have hay56 : zAt ad (i + 29) (ad (i + 29)) := rfl
          obtain ⟨⟨hsyy57, htyy57, hnyy57, hpyy57⟩, hlyy57⟩ := okA.at0 hA_y34
          simp only [Nat.zero_add] at hsyy57 hnyy57 hpyy57
          have hmn : ∀ s, s < 4 → 0 ≤ r9 (6 + 86 * s) ∧ r9 (6 + 86 * s) ≤ 12 := fun s hs => (hsyy57 s hs).1
          have h5 : 0 ≤ r9 5 ∧ r9 5 ≤ 6 := hpyy57
          have h13e : F9 13 = F 13 := fF 13 (by decide)
          have h14e : F9 14 = F 14 := fF 14 (by decide)
          have h17e : F9 17 = F 17 := fF 17 (by decide)
          have h20e : F9 20 = F 20 := fF 20 (by decide)
          have h21e : F9 21 = F 21 := fF 21 (by decide)
          have h23e : F9 23 = F 23 := fF 23 (by decide)
          have h24e : F9 24 = F 24 := fF 24 (by decide)
          have h15e : F9 15 = F 15 := fF 15 (by decide)
          have h16e : F9 16 = F 16 := fF 16 (by decide)
          have h18e : F9 18 = F 18 := fF 18 (by decide)
          have h19e : F9 19 = F 19 := fF 19 (by decide)
          have h25e : F9 25 = F 25 := fF 25 (by decide)
          have h26e : F9 26 = F 26 := fF 26 (by decide)
          have h27e : F9 27 = F 27 := fF 27 (by decide)
          have h29e : F9 29 = F 29 := fF 29 (by decide)
          have hW2 := fW.2.1
          refine z_iload_n C 2 dX10_gone_34 rfl ?_
          refine z_bipush (z := 72) C dX10_gone_35 (by decide) ?_
          refine z_icmp_gt (tgt := 66) C dX10_gone_37 (by decide) (by omega) (by omega) (fun hby58 => ?_) (fun hby58 => ?_)
          · refine z_iconst (z := -1) C dX10_gone_66 rfl ?_
            have hMy59 : okMr cs ad g1 i (x + 1) F9 r9 st op ai fa mu tb tp := okMr.upd fM hg_y34 fM.2.1 (fun f _ => rfl) ha1_y34 (hA_y34.mono (by omega)) (fun j a b => by
                exact Or.inl (by rfl))
            have hkpy60 : F9 13 = F9 13 := rfl
            have hkpy61 : F9 14 = F9 14 := rfl
            have hkpy62 : F9 15 = F9 15 := rfl
            have hkpy63 : F9 16 = F9 16 := rfl
            have hkpy64 : F9 17 = F9 17 := rfl
            have hkpy65 : F9 18 = F9 18 := rfl
            have hkpy66 : F9 19 = F9 19 := rfl
            have hkpy67 : F9 20 = F9 20 := rfl
            have hkpy68 : F9 21 = F9 21 := rfl
            have hkpy69 : F9 23 = F9 23 := rfl
            have hkpy70 : F9 24 = F9 24 := rfl
            have hkpy71 : F9 25 = F9 25 := rfl
            have hkpy72 : F9 26 = F9 26 := rfl
            have hkpy73 : F9 27 = F9 27 := rfl
            have hkpy74 : F9 29 = F9 29 := rfl
            exact z_iret C hr hlk dX10_gone_67 (by decide) (by decide) ⟨-1, rfl, rfl, rfl, by omega, ⟨_, _, hMy59, ⟨(by omega), (by omega), (by omega), (by omega), (by omega), (by omega), (by omega), (by omega), (by omega), (by omega), (by omega)⟩, ⟨(by omega), (by omega), (by omega), (by omega)⟩, fR⟩, fun j j1 => by exact f3 j j1⟩
          · refine z_aload_n C 0 dX10_gone_40 rfl ?_
            refine z_sipush (z := 350) C dX10_gone_41 (by decide) ?_
            refine z_iload_n C 1 dX10_gone_44 rfl ?_
            have hey76 : F9 13 = F9 13 := rfl
            refine z_cV (As := [.int (zI (350)), .int (zI (z))]) (rest := []) (ci := 12) C (c_X10_isNamed l D A cs tt N ad _ i hN _ hg_y34 _ ha1_y34 350 (by omega) (fun s hs => (fW.1 s hs).1) (by omega) (z) (by omega)) (lt_A0 hN rfl) hay35 hg_y34 rfl rfl mv_yX10_isNamed q_1992 hd_yX10_isNamed (by decide) (Nat.le_of_ble_eq_true rfl) (by decide) dX10_gone_45 rfl (kI0 fun vy75 gvy75 hvy75 => ?_)
            obtain ⟨hvy75, rfl⟩ := hvy75
            refine z_if_ne (tgt := 53) C dX10_gone_48 (by decide) (by omega) (fun hby77 => ?_) (fun hby77 => ?_)
            · refine z_aload_n C 0 dX10_gone_53 rfl ?_
              refine z_sipush (z := 350) C dX10_gone_54 (by decide) ?_
              have hey79 : F9 13 = F9 13 := rfl
              have hey80 : F9 14 = F9 14 := rfl
              have hey81 : F9 25 = F9 25 := rfl
              have hey82 : F9 27 = F9 27 := rfl
              have hey83 : F9 28 = F9 28 := rfl
              have hey84 : F9 29 = F9 29 := rfl
              have hEvy78 : okEnv F9 _ _ _ _ _ := ⟨by omega, hop, hai, hfa, hT, hT1⟩
              refine z_cV (As := [.int (zI (350))]) (rest := []) (ci := 12) C (c_X10_hour l D A cs tt N ad _ i hN _ hg_y34 _ ha1_y34 _ ha3_y34 _ ha4_y34 _ ha5_y34 _ ha6_y34 _ ha7_y34 _ ha14_y34 _ ha15_y34 350 (by omega) hEvy78 (x) (by omega) fW (by omega) (by omega)) (lt_A0 hN rfl) hay35 hg_y34 rfl rfl mv_yX10_hour q_1885 hd_yX10_hour (by decide) (Nat.le_of_ble_eq_true rfl) (by decide) dX10_gone_57 rfl (kV0 fun gvy85 hvy85 => ?_)
              obtain ⟨⟨rvy85, hcvy85, hwvy85, htvy85, hyvy85⟩, ⟨t4vy85, h4vy85⟩, ⟨t5vy85, h5vy85⟩, hfvy85⟩ := hvy85
              have hAy86 : okA rvy85 (x) := okA.tried hA_y34 (fun j a => hyvy85 j (by omega))
              obtain ⟨⟨hsyy87, htyy87, hnyy87, hpyy87⟩, hlyy87⟩ := okA.at0 hAy86
              simp only [Nat.zero_add] at hsyy87 hnyy87 hpyy87
              have hmn : ∀ s, s < 4 → 0 ≤ rvy85 (6 + 86 * s) ∧ rvy85 (6 + 86 * s) ≤ 12 := fun s hs => (hsyy87 s hs).1
              have h5 : 0 ≤ rvy85 5 ∧ rvy85 5 ≤ 6 := hpyy87
              refine z_iinc (z := nn + 1) (lv' := [(2, .int (zI (nn + 1))), (0, .ref (ad i)), (1, .int (zI (z)))]) (j := 2) C dX10_gone_60 rfl rfl (by decide) rfl ?_
              refine z_goto (tgt := 34) C dX10_gone_63 (by decide) ?_
              have hgy88 := (hfvy85 (i) (ne_o (i := i) (c := 0) (d := 1) rfl) (ne_o (i := i) (c := 0) (d := 14) rfl) (ne_o (i := i) (c := 0) (d := 15) rfl)).trans hg_y34
              have hMy89 : okMr cs ad gvy85 i (x) F9 rvy85 st op ai fa mu tb tp := okMr.upd fM hgy88 fM.2.1 (fun f _ => rfl) hcvy85 (hAy86.mono (by omega)) (fun j a b => by
                  by_cases e0 : j = i + 14
                  · exact Or.inr ⟨14, _, e0, lsP.l (by decide), by rw [e0]; exact h4vy85⟩
                  by_cases e1 : j = i + 15
                  · exact Or.inr ⟨15, _, e1, lsP.l (by decide), by rw [e1]; exact h5vy85⟩
                  exact Or.inl (by rw [hfvy85 _ (by omega) (by omega) (by omega)]))
              have hFF : (∀ f, f ≠ 12 → F9 f = F f) := fun f n12 => fF f n12
              have hey90 : F9 13 = F9 13 := rfl
              have hey91 : F9 14 = F9 14 := rfl
              refine z_lv (lv' := [(0, .ref (ad i)), (1, .int (zI (z))), (2, .int (zI (nn + 1)))]) [1, 2, 0] rfl ?_
              exact ih_lp1 _ (by omega) (nn + 1) _ _ gvy85 rfl hMy89 hFF hwvy85 ((fun j a9 => (hyvy85 j (by omega)).trans (fR j a9))) (fun j j1 => by rw [hfvy85 _ (by omega) (by omega) (by omega)]; exact f3 j j1) (by omega) (by omega)
            · refine z_iload_n C 2 dX10_gone_51 rfl ?_
              have hMy92 : okMr cs ad g1 i (x + 1) F9 r9 st op ai fa mu tb tp := okMr.upd fM hg_y34 fM.2.1 (fun f _ => rfl) ha1_y34 (hA_y34.mono (by omega)) (fun j a b => by
                  exact Or.inl (by rfl))
              have hkpy93 : F9 13 = F9 13 := rfl
              have hkpy94 : F9 14 = F9 14 := rfl
              have hkpy95 : F9 15 = F9 15 := rfl
              have hkpy96 : F9 16 = F9 16 := rfl
              have hkpy97 : F9 17 = F9 17 := rfl
              have hkpy98 : F9 18 = F9 18 := rfl
              have hkpy99 : F9 19 = F9 19 := rfl
              have hkpy100 : F9 20 = F9 20 := rfl
              have hkpy101 : F9 21 = F9 21 := rfl
              have hkpy102 : F9 23 = F9 23 := rfl
              have hkpy103 : F9 24 = F9 24 := rfl
              have hkpy104 : F9 25 = F9 25 := rfl
              have hkpy105 : F9 26 = F9 26 := rfl
              have hkpy106 : F9 27 = F9 27 := rfl
              have hkpy107 : F9 29 = F9 29 := rfl
              exact z_iret C hr hlk dX10_gone_52 (by decide) (by decide) ⟨nn, rfl, rfl, rfl, by omega, ⟨_, _, hMy92, ⟨(by omega), (by omega), (by omega), (by omega), (by omega), (by omega), (by omega), (by omega), (by omega), (by omega), (by omega)⟩, ⟨(by omega), (by omega), (by omega), (by omega)⟩, fR⟩, fun j j1 => by exact f3 j j1⟩
      have hgy108 := (hfvy32 (i) (ne_o (i := i) (c := 0) (d := 1) rfl)).trans hcvy29
      have hFy109 : ∀ f, f ≠ 12 → Fvy29 f = F f := fun f n12 => ((hFvy29 f n12).trans ((uZ_n _ _ n12).trans rfl))
      have hey110 : Fvy29 13 = F 13 := ((hFvy29 13 (by decide)).trans (fn rfl (by decide)))
      have hey111 : Fvy29 14 = F 14 := ((hFvy29 14 (by decide)).trans (fn rfl (by decide)))
      have hey112 : Fvy29 15 = F 15 := ((hFvy29 15 (by decide)).trans (fn rfl (by decide)))
      have hey113 : Fvy29 16 = F 16 := ((hFvy29 16 (by decide)).trans (fn rfl (by decide)))
      have hey114 : Fvy29 17 = F 17 := ((hFvy29 17 (by decide)).trans (fn rfl (by decide)))
      have hey115 : Fvy29 18 = F 18 := ((hFvy29 18 (by decide)).trans (fn rfl (by decide)))
      have hey116 : Fvy29 19 = F 19 := ((hFvy29 19 (by decide)).trans (fn rfl (by decide)))
      have hey117 : Fvy29 20 = F 20 := ((hFvy29 20 (by decide)).trans (fn rfl (by decide)))
      have hey118 : Fvy29 21 = F 21 := ((hFvy29 21 (by decide)).trans (fn rfl (by decide)))
      have hey119 : Fvy29 23 = F 23 := ((hFvy29 23 (by decide)).trans (fn rfl (by decide)))
      have hey120 : Fvy29 25 = F 25 := ((hFvy29 25 (by decide)).trans (fn rfl (by decide)))
      have hey121 : Fvy29 27 = F 27 := ((hFvy29 27 (by decide)).trans (fn rfl (by decide)))
      have hey122 : Fvy29 28 = F 28 := ((hFvy29 28 (by decide)).trans (fn rfl (by decide)))
      have hey123 : Fvy29 29 = F 29 := ((hFvy29 29 (by decide)).trans (fn rfl (by decide)))
      have hKy124 : okF Fvy29 := okF.mv hM.2.1 hey110 hey111 hey112 hey113 hey114 hey115 hey116 hey117 hey118 hey119 hey120 hey121 hey122 hey123
      have hMy125 : okMr cs ad gvy32 i (x) Fvy29 rvy32 st op ai fa mu tb tp := okMr.upd hM hgy108 hKy124 (fun f a => hFy109 f (by omega)) hdvy32 (hAvy32.mono (by omega)) (fun j a b => by
          exact Or.inl (by rw [hfvy32 _ (by omega)]; rw [hfvy29 _ (by omega)]; rw [egy25, va_up_ne _ _ (by omega)]))
      have hFy126 : ∀ f, f ≠ 12 → Fvy29 f = F f := fun f n12 => ((hFvy29 f n12).trans ((uZ_n _ _ n12).trans rfl))
      have hFF : (∀ f, f ≠ 12 → Fvy29 f = F f) := fun f n12 => (hFy126 f n12)
      have hey127 : Fvy29 13 = F 13 := ((hFvy29 13 (by decide)).trans (fn rfl (by decide)))
      have hey128 : Fvy29 14 = F 14 := ((hFvy29 14 (by decide)).trans (fn rfl (by decide)))
      refine z_lv (lv' := [(0, .ref (ad i)), (1, .int (zI (z))), (2, .int (zI (0)))]) [1, 2, 0] rfl ?_
      exact lp1 _ (0) _ _ gvy32 rfl hMy125 hFF hWvy32 ((fun j a9 => (hyvy32 j a9).trans ((fun j _ => rfl) j a9))) (fun j j1 => by rw [hfvy32 _ (by omega)]; rw [hfvy29 _ (by omega)]; rw [egy25, va_up_ne _ _ (by omega)]) (by omega) (by omega)
    · refine z_if_ne (tgt := 28) C dX10_gone_23 (by decide) (by omega) (fun h => absurd h (by omega)) (fun _ => ?_)
      refine z_iconst (z := 0) C dX10_gone_26 rfl ?_
      have hgy129 := (hfvy29 (i + 1) (ne_o (i := i) (c := 1) (d := 0) rfl)).trans hgy27
      have hFy130 : ∀ f, f ≠ 12 → Fvy29 f = F f := fun f n12 => ((hFvy29 f n12).trans ((uZ_n _ _ n12).trans rfl))
      have hey131 : Fvy29 13 = F 13 := ((hFvy29 13 (by decide)).trans (fn rfl (by decide)))
      have hey132 : Fvy29 14 = F 14 := ((hFvy29 14 (by decide)).trans (fn rfl (by decide)))
      have hey133 : Fvy29 15 = F 15 := ((hFvy29 15 (by decide)).trans (fn rfl (by decide)))
      have hey134 : Fvy29 16 = F 16 := ((hFvy29 16 (by decide)).trans (fn rfl (by decide)))
      have hey135 : Fvy29 17 = F 17 := ((hFvy29 17 (by decide)).trans (fn rfl (by decide)))
      have hey136 : Fvy29 18 = F 18 := ((hFvy29 18 (by decide)).trans (fn rfl (by decide)))
      have hey137 : Fvy29 19 = F 19 := ((hFvy29 19 (by decide)).trans (fn rfl (by decide)))
      have hey138 : Fvy29 20 = F 20 := ((hFvy29 20 (by decide)).trans (fn rfl (by decide)))
      have hey139 : Fvy29 21 = F 21 := ((hFvy29 21 (by decide)).trans (fn rfl (by decide)))
      have hey140 : Fvy29 23 = F 23 := ((hFvy29 23 (by decide)).trans (fn rfl (by decide)))
      have hey141 : Fvy29 25 = F 25 := ((hFvy29 25 (by decide)).trans (fn rfl (by decide)))
      have hey142 : Fvy29 27 = F 27 := ((hFvy29 27 (by decide)).trans (fn rfl (by decide)))
      have hey143 : Fvy29 28 = F 28 := ((hFvy29 28 (by decide)).trans (fn rfl (by decide)))
      have hey144 : Fvy29 29 = F 29 := ((hFvy29 29 (by decide)).trans (fn rfl (by decide)))
      have hKy145 : okF Fvy29 := okF.mv hM.2.1 hey131 hey132 hey133 hey134 hey135 hey136 hey137 hey138 hey139 hey140 hey141 hey142 hey143 hey144
      have hMy146 : okMr cs ad gvy29 i (x + 1) Fvy29 r st op ai fa mu tb tp := okMr.upd hM hcvy29 hKy145 (fun f a => hFy130 f (by omega)) hgy129 (hA.mono (by omega)) (fun j a b => by
          exact Or.inl (by rw [hfvy29 _ (by omega)]; rw [egy25, va_up_ne _ _ (by omega)]))
      have hkpy147 : Fvy29 13 = F 13 := ((hFvy29 13 (by decide)).trans (fn rfl (by decide)))
      have hkpy148 : Fvy29 14 = F 14 := ((hFvy29 14 (by decide)).trans (fn rfl (by decide)))
      have hkpy149 : Fvy29 15 = F 15 := ((hFvy29 15 (by decide)).trans (fn rfl (by decide)))
      have hkpy150 : Fvy29 16 = F 16 := ((hFvy29 16 (by decide)).trans (fn rfl (by decide)))
      have hkpy151 : Fvy29 17 = F 17 := ((hFvy29 17 (by decide)).trans (fn rfl (by decide)))
      have hkpy152 : Fvy29 18 = F 18 := ((hFvy29 18 (by decide)).trans (fn rfl (by decide)))
      have hkpy153 : Fvy29 19 = F 19 := ((hFvy29 19 (by decide)).trans (fn rfl (by decide)))
      have hkpy154 : Fvy29 20 = F 20 := ((hFvy29 20 (by decide)).trans (fn rfl (by decide)))
      have hkpy155 : Fvy29 21 = F 21 := ((hFvy29 21 (by decide)).trans (fn rfl (by decide)))
      have hkpy156 : Fvy29 23 = F 23 := ((hFvy29 23 (by decide)).trans (fn rfl (by decide)))
      have hkpy157 : Fvy29 24 = F 24 := ((hFvy29 24 (by decide)).trans (fn rfl (by decide)))
      have hkpy158 : Fvy29 25 = F 25 := ((hFvy29 25 (by decide)).trans (fn rfl (by decide)))
      have hkpy159 : Fvy29 26 = F 26 := ((hFvy29 26 (by decide)).trans (fn rfl (by decide)))
      have hkpy160 : Fvy29 27 = F 27 := ((hFvy29 27 (by decide)).trans (fn rfl (by decide)))
      have hkpy161 : Fvy29 29 = F 29 := ((hFvy29 29 (by decide)).trans (fn rfl (by decide)))
      exact z_iret C hr hlk dX10_gone_27 (by decide) (by decide) ⟨0, rfl, rfl, rfl, by omega, ⟨_, _, hMy146, ⟨hkpy147, hkpy148, hkpy149, hkpy150, hkpy151, hkpy152, hkpy153, hkpy154, hkpy155, hkpy156, hkpy157⟩, ⟨(hkpy158.trans hp25), (hkpy159.trans hp26), (hkpy160.trans hp27), (hkpy161.trans hp29)⟩, (fun j _ => rfl)⟩, fun j j1 => by rw [hfvy29 _ (by omega)]; rw [egy25, va_up_ne _ _ (by omega)]⟩
  · refine z_iconst (z := 1) C dX10_gone_19 rfl ?_
    have hey163 : (uZ F 12 (0)) 12 = 0 := (uZ_s _ _ _)
    refine z_cV (As := [.int (zI (0)), .int (zI (1))]) (rest := []) (ci := 12) C (c_X10_right l D A cs tt N ad _ i hN _ hgy26 (by omega) (0) (by omega) (1) (by omega)) (lt_A0 hN rfl) hay1 hgy26 rfl rfl mv_yX10_right q_1648 hd_yX10_right (by decide) (Nat.le_of_ble_eq_true rfl) (by decide) dX10_gone_20 rfl (kI0 fun vy162 gvy162 hvy162 => ?_)
    obtain ⟨hrvy162, ⟨Fvy162, hcvy162, htvy162, hFvy162⟩, hfvy162⟩ := hvy162
    obtain rfl : vy162 = 0 := by omega
    refine z_if_ne (tgt := 28) C dX10_gone_23 (by decide) (by omega) (fun h => absurd h (by omega)) (fun _ => ?_)
    refine z_iconst (z := 0) C dX10_gone_26 rfl ?_
    have hgy164 := (hfvy162 (i + 1) (ne_o (i := i) (c := 1) (d := 0) rfl)).trans hgy27
    have hFy165 : ∀ f, f ≠ 12 → Fvy162 f = F f := fun f n12 => ((hFvy162 f n12).trans ((uZ_n _ _ n12).trans rfl))
    have hey166 : Fvy162 13 = F 13 := ((hFvy162 13 (by decide)).trans (fn rfl (by decide)))
    have hey167 : Fvy162 14 = F 14 := ((hFvy162 14 (by decide)).trans (fn rfl (by decide)))
    have hey168 : Fvy162 15 = F 15 := ((hFvy162 15 (by decide)).trans (fn rfl (by decide)))
    have hey169 : Fvy162 16 = F 16 := ((hFvy162 16 (by decide)).trans (fn rfl (by decide)))
    have hey170 : Fvy162 17 = F 17 := ((hFvy162 17 (by decide)).trans (fn rfl (by decide)))
    have hey171 : Fvy162 18 = F 18 := ((hFvy162 18 (by decide)).trans (fn rfl (by decide)))
    have hey172 : Fvy162 19 = F 19 := ((hFvy162 19 (by decide)).trans (fn rfl (by decide)))
    have hey173 : Fvy162 20 = F 20 := ((hFvy162 20 (by decide)).trans (fn rfl (by decide)))
    have hey174 : Fvy162 21 = F 21 := ((hFvy162 21 (by decide)).trans (fn rfl (by decide)))
    have hey175 : Fvy162 23 = F 23 := ((hFvy162 23 (by decide)).trans (fn rfl (by decide)))
    have hey176 : Fvy162 25 = F 25 := ((hFvy162 25 (by decide)).trans (fn rfl (by decide)))
    have hey177 : Fvy162 27 = F 27 := ((hFvy162 27 (by decide)).trans (fn rfl (by decide)))
    have hey178 : Fvy162 28 = F 28 := ((hFvy162 28 (by decide)).trans (fn rfl (by decide)))
    have hey179 : Fvy162 29 = F 29 := ((hFvy162 29 (by decide)).trans (fn rfl (by decide)))
    have hKy180 : okF Fvy162 := okF.mv hM.2.1 hey166 hey167 hey168 hey169 hey170 hey171 hey172 hey173 hey174 hey175 hey176 hey177 hey178 hey179
    have hMy181 : okMr cs ad gvy162 i (x + 1) Fvy162 r st op ai fa mu tb tp := okMr.upd hM hcvy162 hKy180 (fun f a => hFy165 f (by omega)) hgy164 (hA.mono (by omega)) (fun j a b => by
        exact Or.inl (by rw [hfvy162 _ (by omega)]; rw [egy25, va_up_ne _ _ (by omega)]))
    have hkpy182 : Fvy162 13 = F 13 := ((hFvy162 13 (by decide)).trans (fn rfl (by decide)))
    have hkpy183 : Fvy162 14 = F 14 := ((hFvy162 14 (by decide)).trans (fn rfl (by decide)))
    have hkpy184 : Fvy162 15 = F 15 := ((hFvy162 15 (by decide)).trans (fn rfl (by decide)))
    have hkpy185 : Fvy162 16 = F 16 := ((hFvy162 16 (by decide)).trans (fn rfl (by decide)))
    have hkpy186 : Fvy162 17 = F 17 := ((hFvy162 17 (by decide)).trans (fn rfl (by decide)))
    have hkpy187 : Fvy162 18 = F 18 := ((hFvy162 18 (by decide)).trans (fn rfl (by decide)))
    have hkpy188 : Fvy162 19 = F 19 := ((hFvy162 19 (by decide)).trans (fn rfl (by decide)))
    have hkpy189 : Fvy162 20 = F 20 := ((hFvy162 20 (by decide)).trans (fn rfl (by decide)))
    have hkpy190 : Fvy162 21 = F 21 := ((hFvy162 21 (by decide)).trans (fn rfl (by decide)))
    have hkpy191 : Fvy162 23 = F 23 := ((hFvy162 23 (by decide)).trans (fn rfl (by decide)))
    have hkpy192 : Fvy162 24 = F 24 := ((hFvy162 24 (by decide)).trans (fn rfl (by decide)))
    have hkpy193 : Fvy162 25 = F 25 := ((hFvy162 25 (by decide)).trans (fn rfl (by decide)))
    have hkpy194 : Fvy162 26 = F 26 := ((hFvy162 26 (by decide)).trans (fn rfl (by decide)))
    have hkpy195 : Fvy162 27 = F 27 := ((hFvy162 27 (by decide)).trans (fn rfl (by decide)))
    have hkpy196 : Fvy162 29 = F 29 := ((hFvy162 29 (by decide)).trans (fn rfl (by decide)))
    exact z_iret C hr hlk dX10_gone_27 (by decide) (by decide) ⟨0, rfl, rfl, rfl, by omega, ⟨_, _, hMy181, ⟨hkpy182, hkpy183, hkpy184, hkpy185, hkpy186, hkpy187, hkpy188, hkpy189, hkpy190, hkpy191, hkpy192⟩, ⟨(hkpy193.trans hp25), (hkpy194.trans hp26), (hkpy195.trans hp27), (hkpy196.trans hp29)⟩, (fun j _ => rfl)⟩, fun j j1 => by rw [hfvy162 _ (by omega)]; rw [egy25, va_up_ne _ _ (by omega)]⟩

set_option maxRecDepth 100000 in
set_option maxHeartbeats 4000000 in
theorem c_X10_ratioBehind (l : Launch) (D : va_G) (A : Nat → Prop) (cs : Nat → ClassId) (tt : Nat) (N : Nat) (ad : Nat → Nat) (g : Nat → va_E) (i : Nat) (hN : i + 30 ≤ N) (x : Int) (hx : 0 ≤ x ∧ x ≤ 512) (F r : Nat → Int) {st op ai fa mu tb tp : Nat → Int} (hM : okMr cs ad g i x F r st op ai fa mu tb tp) (n : Nat) (hn4 : n < 4) (z : Int) (hz : 0 ≤ z ∧ z ≤ 72) : zM l yX10_ratioBehind cX10_ratioBehind 3 (some .int) ({ frames := 10, cells := 0, slots := 0, locals := 600 } : Room) D A cs tt N ad g [.ref (ad i), .int (zI ((n : Int))), .int (zI (z))] (rI0 N ad fun q g' => (-2147483648 ≤ q ∧ q ≤ 2147483647) ∧ (∃ F' r' : Nat → Int, okMr cs ad g' i x F' r' st op ai fa mu tb tp ∧ (∀ f, F' f = F f) ∧ (∀ j, j < 350 ∨ 700 ≤ j → r' j = r j)) ∧ ∀ j, j < i ∨ i + 30 ≤ j ∨ (i + 8 ≤ j ∧ j ≤ i + 12) → g' j = g j) := by
  obtain ⟨hg, ⟨⟨e13, e14, e25, e27, e29⟩, k15, k16, k17, k18, k19, k20, k23, k21⟩, hRD, hTx, hA, ns, nh, nd, rf, pi, te, ki, li, ok1, ok2, fo, dd, dps, ⟨ha1, ha2, ha3, ha4, ha5, ha6, ha7, ha8, ha9, ha10, ha11, ha12, ha13, ha14, ha15, ha24, ha25, ha26, ha27, ha28, ha29⟩, hEv, hPt, hns, htp⟩ := id hM
  obtain ⟨-, hop, hai, hfa, hT, hT1⟩ := id hEv
  have hay1 : zAt ad (i) (ad i) := rfl
  have hay2 : zAt ad (i + 1) (ad (i + 1)) := rfl
  have hay3 : zAt ad (i + 2) (ad (i + 2)) := rfl
  have hay4 : zAt ad (i + 3) (ad (i + 3)) := rfl
  have hay5 : zAt ad (i + 4) (ad (i + 4)) := rfl
  have hay6 : zAt ad (i + 5) (ad (i + 5)) := rfl
  have hay7 : zAt ad (i + 6) (ad (i + 6)) := rfl
  have hay8 : zAt ad (i + 7) (ad (i + 7)) := rfl
  have hay9 : zAt ad (i + 8) (ad (i + 8)) := rfl
  have hay10 : zAt ad (i + 9) (ad (i + 9)) := rfl
  have hay11 : zAt ad (i + 10) (ad (i + 10)) := rfl
  have hay12 : zAt ad (i + 11) (ad (i + 11)) := rfl
  have hay13 : zAt ad (i + 12) (ad (i + 12)) := rfl
  have hay14 : zAt ad (i + 13) (ad (i + 13)) := rfl
  have hay15 : zAt ad (i + 14) (ad (i + 14)) := rfl
  have hay16 : zAt ad (i + 15) (ad (i + 15)) := rfl
  have hay17 : zAt ad (i + 24) (ad (i + 24)) := rfl
  have hay18 : zAt ad (i + 25) (ad (i + 25)) := rfl
  have hay19 : zAt ad (i + 26) (ad (i + 26)) := rfl
  have hay20 : zAt ad (i + 27) (ad (i + 27)) := rfl
  have hay21 : zAt ad (i + 28) (ad (i + 28)) := rfl
  have hay22 : zAt ad (i + 29) (ad (i + 29)) := rfl
  obtain ⟨⟨hsyy23, htyy23, hnyy23, hpyy23⟩, hlyy23⟩ := okA.at0 hA
  simp only [Nat.zero_add] at hsyy23 hnyy23 hpyy23
  have hmn : ∀ s, s < 4 → 0 ≤ r (6 + 86 * s) ∧ r (6 + 86 * s) ≤ 12 := fun s hs => (hsyy23 s hs).1
  have h5 : 0 ≤ r 5 ∧ r 5 ≤ 6 := hpyy23
  refine z_of (by decide) (Nat.le_of_ble_eq_true rfl) ?_
  intro pZ eZ sZ mZ below meth cZ C hr hlk hnm
  refine z_lv (lv' := [(0, .ref (ad i)), (1, .int (zI ((n : Int)))), (2, .int (zI (z)))]) [0, 1, 2] rfl ?_
  refine z_aload_n C 0 dX10_ratioBehind_0 rfl ?_
  refine z_cV (As := []) (rest := []) (ci := 12) C (c_X10_tries l D A cs tt N ad _ i hN _ hg _ ha1 (x) hA) (lt_A0 hN rfl) hay1 hg rfl rfl mv_yX10_tries q_1980 hd_yX10_tries (by decide) (Nat.le_of_ble_eq_true rfl) (by decide) dX10_ratioBehind_1 rfl (kV0 fun gvy24 hvy24 => ?_)
  obtain ⟨⟨rvy24, hdvy24, hAvy24, hWvy24, h0vy24, hyvy24⟩, hfvy24⟩ := hvy24
  obtain ⟨⟨hsyy25, htyy25, hnyy25, hpyy25⟩, hlyy25⟩ := okA.at0 hAvy24
  simp only [Nat.zero_add] at hsyy25 hnyy25 hpyy25
  have hmn : ∀ s, s < 4 → 0 ≤ rvy24 (6 + 86 * s) ∧ rvy24 (6 + 86 * s) ≤ 12 := fun s hs => (hsyy25 s hs).1
  have h5 : 0 ≤ rvy24 5 ∧ rvy24 5 ≤ 6 := hpyy25
  refine z_aload_n C 0 dX10_ratioBehind_4 rfl ?_
  refine z_sipush (z := 350) C dX10_ratioBehind_5 (by decide) ?_
  refine z_iload_n C 2 dX10_ratioBehind_8 rfl ?_
  have hgy26 := (hfvy24 (i) (ne_o (i := i) (c := 0) (d := 1) rfl)).trans hg
  have hey28 : F 13 = F 13 := rfl
  have hey29 : F 14 = F 14 := rfl
  have hey30 : F 25 = F 25 := rfl
  have hey31 : F 27 = F 27 := rfl
  have hey32 : F 28 = F 28 := rfl
  have hey33 : F 29 = F 29 := rfl
  have hEvy27 : okEnv F _ _ _ _ _ := ⟨by omega, hop, hai, hfa, hT, hT1⟩
  have hgy35 := (hfvy24 (i + 3) (ne_o (i := i) (c := 3) (d := 1) rfl)).trans ha3
  have hgy36 := (hfvy24 (i + 4) (ne_o (i := i) (c := 4) (d := 1) rfl)).trans ha4
  have hgy37 := (hfvy24 (i + 5) (ne_o (i := i) (c := 5) (d := 1) rfl)).trans ha5
  have hgy38 := (hfvy24 (i + 6) (ne_o (i := i) (c := 6) (d := 1) rfl)).trans ha6
  have hgy39 := (hfvy24 (i + 7) (ne_o (i := i) (c := 7) (d := 1) rfl)).trans ha7
  have hgy40 := (hfvy24 (i + 14) (ne_o (i := i) (c := 14) (d := 1) rfl)).trans ha14
  have hgy41 := (hfvy24 (i + 15) (ne_o (i := i) (c := 15) (d := 1) rfl)).trans ha15
  refine z_cV (As := [.int (zI (350)), .int (zI (z))]) (rest := []) (ci := 12) C (c_X10_goes l D A cs tt N ad _ i hN _ hgy26 _ hdvy24 _ hgy35 _ hgy36 _ hgy37 _ hgy38 _ hgy39 _ hgy40 _ hgy41 350 (by omega) hEvy27 (x) (by omega) hWvy24 (z) (by omega) (by omega) (by omega)) (lt_A0 hN rfl) hay1 hgy26 rfl rfl mv_yX10_goes q_1881 hd_yX10_goes (by decide) (Nat.le_of_ble_eq_true rfl) (by decide) dX10_ratioBehind_9 rfl (kV0 fun gvy34 hvy34 => ?_)
  obtain ⟨⟨rvy34, hcvy34, hwvy34, htvy34, hyvy34⟩, ⟨t4vy34, h4vy34⟩, ⟨t5vy34, h5vy34⟩, hfvy34⟩ := hvy34
  have hAy42 : okA rvy34 (x) := okA.tried hAvy24 (fun j a => hyvy34 j (by omega))
  obtain ⟨⟨hsyy43, htyy43, hnyy43, hpyy43⟩, hlyy43⟩ := okA.at0 hAy42
  simp only [Nat.zero_add] at hsyy43 hnyy43 hpyy43
  have hmn : ∀ s, s < 4 → 0 ≤ rvy34 (6 + 86 * s) ∧ rvy34 (6 + 86 * s) ≤ 12 := fun s hs => (hsyy43 s hs).1
  have h5 : 0 ≤ rvy34 5 ∧ rvy34 5 ≤ 6 := hpyy43
  refine z_aload_n C 0 dX10_ratioBehind_12 rfl ?_
  refine z_sipush (z := 350) C dX10_ratioBehind_13 (by decide) ?_
  refine z_iload_n C 1 dX10_ratioBehind_16 rfl ?_
  obtain ⟨py44, hpy44⟩ : ∃ p9 : Nat, 350 + 6 + 86 * n = p9 := ⟨_, rfl⟩
  have hgy45 := (hfvy34 (i) (ne_o (i := i) (c := 0) (d := 1) rfl) (ne_o (i := i) (c := 0) (d := 14) rfl) (ne_o (i := i) (c := 0) (d := 15) rfl)).trans hgy26
  have hgy47 := (hfvy24 (i + 2) (ne_o (i := i) (c := 2) (d := 1) rfl)).trans ha2
  have hgy48 := (hfvy34 (i + 2) (ne_o (i := i) (c := 2) (d := 1) rfl) (ne_o (i := i) (c := 2) (d := 14) rfl) (ne_o (i := i) (c := 2) (d := 15) rfl)).trans hgy47
  have hgy49 := (hfvy34 (i + 7) (ne_o (i := i) (c := 7) (d := 1) rfl) (ne_o (i := i) (c := 7) (d := 14) rfl) (ne_o (i := i) (c := 7) (d := 15) rfl)).trans hgy39
  have hqy50 : qS rvy34 py44 := ((hwvy34.1 n (by omega)).of (p2 := py44) (by omega)).q (by have hb9 := mBb (t := rvy34 350 + x) (by omega); omega)
  have hmky51 := hqy50.1
  refine z_cV (As := [.int (zI (350)), .int (zI ((n : Int)))]) (rest := []) (ci := 12) C (c_X10_leastRatio l D A cs tt N ad _ i hN _ hgy45 _ hcvy34 _ hgy48 _ hgy49 350 n py44 hpy44 (by omega) (by omega) hqy50) (lt_A0 hN rfl) hay1 hgy45 rfl rfl mv_yX10_leastRatio q_1760 hd_yX10_leastRatio (by decide) (Nat.le_of_ble_eq_true rfl) (by decide) dX10_ratioBehind_17 rfl (kI0 fun vy46 gvy46 hvy46 => ?_)
  obtain ⟨hvy46, rfl⟩ := hvy46
  have hMy52 : okMr cs ad gvy34 i (x) F rvy34 st op ai fa mu tb tp := okMr.upd hM hgy45 hM.2.1 (fun f _ => rfl) hcvy34 (hAy42.mono (by omega)) (fun j a b => by
      by_cases e0 : j = i + 14
      · exact Or.inr ⟨14, _, e0, lsP.l (by decide), by rw [e0]; exact h4vy34⟩
      by_cases e1 : j = i + 15
      · exact Or.inr ⟨15, _, e1, lsP.l (by decide), by rw [e1]; exact h5vy34⟩
      exact Or.inl (by rw [hfvy34 _ (by omega) (by omega) (by omega)]; rw [hfvy24 _ (by omega)]))
  exact z_iret C hr hlk dX10_ratioBehind_20 (by decide) (by decide) ⟨vy46, rfl, rfl, rfl, by omega, ⟨_, _, hMy52, fun f  => rfl, (fun j a9 => (hyvy34 j (by omega)).trans ((fun j a9 => (hyvy24 j a9).trans ((fun j _ => rfl) j a9)) j a9))⟩, fun j j1 => by rw [hfvy34 _ (by omega) (by omega) (by omega)]; rw [hfvy24 _ (by omega)]⟩

set_option maxRecDepth 100000 in
set_option maxHeartbeats 4000000 in
theorem c_X10_matters_a (l : Launch) (D : va_G) (A : Nat → Prop) (cs : Nat → ClassId) (tt : Nat) (N : Nat) (ad : Nat → Nat) (g : Nat → va_E) (i : Nat) (hN : i + 30 ≤ N) (x : Int) (hx : 0 ≤ x ∧ x ≤ 512) (F r : Nat → Int) {st op ai fa mu tb tp : Nat → Int} (hM : okMr cs ad g i x F r st op ai fa mu tb tp) (hPl : F 25 = 0 ∧ F 26 = -1 ∧ F 27 = -1 ∧ F 29 = 0) (n : Nat) (hn4 : n < 4) (z1 : Int) (hz1 : -2147483648 ≤ z1 ∧ z1 ≤ 2147483647) (z2 : Int) (hz2 : -2147483648 ≤ z2 ∧ z2 ≤ 2147483647) : zM l yX10_matters cX10_matters 9 (some .int) ({ frames := 11, cells := 0, slots := 0, locals := 660 } : Room) D A cs tt N ad g [.ref (ad i), .int (zI ((n : Int))), .int (zI (z1)), .int (zI (z2))] (rI0 N ad fun q g' => (-2147483648 ≤ q ∧ q ≤ 2147483647) ∧ (∃ F' r' : Nat → Int, okMr cs ad g' i (x + 1) F' r' st op ai fa mu tb tp ∧ (F' 13 = F 13 ∧ F' 14 = F 14 ∧ F' 15 = F 15 ∧ F' 16 = F 16 ∧ F' 17 = F 17 ∧ F' 18 = F 18 ∧ F' 19 = F 19 ∧ F' 20 = F 20 ∧ F' 21 = F 21 ∧ F' 23 = F 23 ∧ F' 24 = F 24) ∧ (F' 25 = 0 ∧ F' 26 = -1 ∧ F' 27 = -1 ∧ F' 29 = 0) ∧ (∀ j, j < 350 ∨ 700 ≤ j → r' j = r j)) ∧ ∀ j, j < i ∨ i + 30 ≤ j ∨ (i + 8 ≤ j ∧ j ≤ i + 12) → g' j = g j) := by
  obtain ⟨hg, ⟨⟨e13, e14, e25, e27, e29⟩, k15, k16, k17, k18, k19, k20, k23, k21⟩, hRD, hTx, hA, ns, nh, nd, rf, pi, te, ki, li, ok1, ok2, fo, dd, dps, ⟨ha1, ha2, ha3, ha4, ha5, ha6, ha7, ha8, ha9, ha10, ha11, ha12, ha13, ha14, ha15, ha24, ha25, ha26, ha27, ha28, ha29⟩, hEv, hPt, hns, htp⟩ := id hM
  obtain ⟨-, hop, hai, hfa, hT, hT1⟩ := id hEv
  have hay1 : zAt ad (i) (ad i) := rfl
  have hay2 : zAt ad (i + 1) (ad (i + 1)) := rfl
  have hay3 : zAt ad (i + 2) (ad (i + 2)) := rfl
  have hay4 : zAt ad (i + 3) (ad (i + 3)) := rfl
  have hay5 : zAt ad (i + 4) (ad (i + 4)) := rfl
  have hay6 : zAt ad (i + 5) (ad (i + 5)) := rfl
  have hay7 : zAt ad (i + 6) (ad (i + 6)) := rfl
  have hay8 : zAt ad (i + 7) (ad (i + 7)) := rfl
  have hay9 : zAt ad (i + 8) (ad (i + 8)) := rfl
  have hay10 : zAt ad (i + 9) (ad (i + 9)) := rfl
  have hay11 : zAt ad (i + 10) (ad (i + 10)) := rfl
  have hay12 : zAt ad (i + 11) (ad (i + 11)) := rfl
  have hay13 : zAt ad (i + 12) (ad (i + 12)) := rfl
  have hay14 : zAt ad (i + 13) (ad (i + 13)) := rfl
  have hay15 : zAt ad (i + 14) (ad (i + 14)) := rfl
  have hay16 : zAt ad (i + 15) (ad (i + 15)) := rfl
  have hay17 : zAt ad (i + 24) (ad (i + 24)) := rfl
  have hay18 : zAt ad (i + 25) (ad (i + 25)) := rfl
  have hay19 : zAt ad (i + 26) (ad (i + 26)) := rfl
  have hay20 : zAt ad (i + 27) (ad (i + 27)) := rfl
  have hay21 : zAt ad (i + 28) (ad (i + 28)) := rfl
  have hay22 : zAt ad (i + 29) (ad (i + 29)) := rfl
  obtain ⟨⟨hsyy23, htyy23, hnyy23, hpyy23⟩, hlyy23⟩ := okA.at0 hA
  simp only [Nat.zero_add] at hsyy23 hnyy23 hpyy23
  have hmn : ∀ s, s < 4 → 0 ≤ r (6 + 86 * s) ∧ r (6 + 86 * s) ≤ 12 := fun s hs => (hsyy23 s hs).1
  have h5 : 0 ≤ r 5 ∧ r 5 ≤ 6 := hpyy23
  obtain ⟨hp25, hp26, hp27, hp29⟩ := id hPl
  refine z_of (by decide) (Nat.le_of_ble_eq_true rfl) ?_
  intro pZ eZ sZ mZ below meth cZ C hr hlk hnm
  refine z_lv (lv' := [(0, .ref (ad i)), (1, .int (zI ((n : Int)))), (2, .int (zI (z1))), (3, .int (zI (z2)))]) [0, 1, 2, 3] rfl ?_
  refine z_aload_n C 0 dX10_matters_0 rfl ?_
  refine z_iconst (z := 0) C dX10_matters_1 rfl ?_
  refine z_put (fs' := mF ad (i) (uZ F 12 (0))) C (lt_A0 hN rfl) hay1 hg tyX10 tyX10_ok nmX10 rfl inA_X10 12 (by decide) q_1471 rfl rfl rfl rfl (Nat.le_of_ble_eq_true rfl) rfl dX10_matters_2 (fun gy24 egy25 => ?_)
  have hgy26 := up_s egy25
  refine z_aload_n C 0 dX10_matters_5 rfl ?_
  refine z_iload_n C 1 dX10_matters_6 rfl ?_
  have h13vy27 : (uZ F 12 (0)) 13 = F 13 := (fn rfl (by decide))
  have hey28 : (uZ F 12 (0)) 12 = 0 := (uZ_s _ _ _)
  refine z_cV (As := [.int (zI ((n : Int)))]) (rest := []) (ci := 12) C (c_X10_isSlope l D A cs tt N ad _ i hN _ hgy26 (by omega) (by omega) ((n : Int)) (by omega)) (lt_A0 hN rfl) hay1 hgy26 rfl rfl mv_yX10_isSlope q_1803 hd_yX10_isSlope (by decide) (Nat.le_of_ble_eq_true rfl) (by decide) dX10_matters_7 rfl (kI0 fun vy27 gvy27 hvy27 => ?_)
  rw [h13vy27] at hvy27
  obtain ⟨hrvy27, ⟨Fvy27, hcvy27, htvy27, hFvy27⟩, hfvy27⟩ := hvy27
  rcases (show vy27 = 1 ∨ vy27 = 0 by omega) with rfl | rfl
  · have hxvy27 := hrvy27.2 rfl
    refine z_if_eq (tgt := 42) C dX10_matters_10 (by decide) (by omega) (fun h => absurd h (by omega)) (fun _ => ?_)
    refine z_aload_n C 0 dX10_matters_13 rfl ?_
    refine z_iload_n C 3 dX10_matters_14 rfl ?_
    refine z_iconst (z := 0) C dX10_matters_15 rfl ?_
    refine z_iconst (z := 1) C dX10_matters_16 rfl ?_
    refine z_cS (As := [.int (zI (z2)), .int (zI (0)), .int (zI (1))]) (rest := [.ref (ad i)]) C (c_X10_within l D A cs tt N ad _ (z2) (by omega) (0) (by omega) (1) (by omega)) ms_yX10_within q_1686 hd_yX10_within (by decide) (Nat.le_of_ble_eq_true rfl) (by decide) dX10_matters_17 rfl (kI0 fun vy29 gvy29 hvy29 => ?_)
    obtain ⟨hvy29, rfl⟩ := hvy29
    rcases hvy29 with ⟨rfl, hxvy29⟩ | ⟨rfl, hxvy29⟩
    · refine z_iconst (z := 1) C dX10_matters_20 rfl ?_
      have hey31 : Fvy27 12 = Fvy27 12 := rfl
      refine z_cV (As := [.int (zI (1)), .int (zI (1))]) (rest := []) (ci := 12) C (c_X10_right l D A cs tt N ad _ i hN _ hcvy27 (by omega) (1) (by omega) (1) (by omega)) (lt_A0 hN rfl) hay1 hcvy27 rfl rfl mv_yX10_right q_1648 hd_yX10_right (by decide) (Nat.le_of_ble_eq_true rfl) (by decide) dX10_matters_21 rfl (kI0 fun vy30 gvy30 hvy30 => ?_)
      obtain ⟨hrvy30, ⟨Fvy30, hcvy30, htvy30, hFvy30⟩, hfvy30⟩ := hvy30
      rcases (show vy30 = 1 ∨ vy30 = 0 by omega) with rfl | rfl
      · refine z_if_eq (tgt := 42) C dX10_matters_24 (by decide) (by omega) (fun h => absurd h (by omega)) (fun _ => ?_)
        refine z_aload_n C 0 dX10_matters_27 rfl ?_
        refine z_iload_n C 2 dX10_matters_28 rfl ?_
        refine z_iconst (z := 1) C dX10_matters_29 rfl ?_
        refine z_bipush (z := 48) C dX10_matters_30 (by decide) ?_
        refine z_cS (As := [.int (zI (z1)), .int (zI (1)), .int (zI (48))]) (rest := [.ref (ad i)]) C (c_X10_within l D A cs tt N ad _ (z1) (by omega) (1) (by omega) (48) (by omega)) ms_yX10_within q_1686 hd_yX10_within (by decide) (Nat.le_of_ble_eq_true rfl) (by decide) dX10_matters_32 rfl (kI0 fun vy32 gvy32 hvy32 => ?_)
        obtain ⟨hvy32, rfl⟩ := hvy32
        rcases hvy32 with ⟨rfl, hxvy32⟩ | ⟨rfl, hxvy32⟩
        · refine z_iconst (z := 2) C dX10_matters_35 rfl ?_
          have hey34 : Fvy30 12 = Fvy30 12 := rfl
          refine z_cV (As := [.int (zI (1)), .int (zI (2))]) (rest := []) (ci := 12) C (c_X10_right l D A cs tt N ad _ i hN _ hcvy30 (by omega) (1) (by omega) (2) (by omega)) (lt_A0 hN rfl) hay1 hcvy30 rfl rfl mv_yX10_right q_1648 hd_yX10_right (by decide) (Nat.le_of_ble_eq_true rfl) (by decide) dX10_matters_36 rfl (kI0 fun vy33 gvy33 hvy33 => ?_)
          obtain ⟨hrvy33, ⟨Fvy33, hcvy33, htvy33, hFvy33⟩, hfvy33⟩ := hvy33
          rcases (show vy33 = 1 ∨ vy33 = 0 by omega) with rfl | rfl
          · refine z_if_ne (tgt := 44) C dX10_matters_39 (by decide) (by omega) (fun _ => ?_) (fun h => absurd h (by omega))
            refine z_aload_n C 0 dX10_matters_44 rfl ?_
            refine z_iload_n C 1 dX10_matters_45 rfl ?_
            refine z_iload_n C 2 dX10_matters_46 rfl ?_
            have hgy35 := up_n egy25 ha1 (ne_o (i := i) (c := 1) (d := 0) rfl)
            have hgy36 := (hfvy27 (i + 1) (ne_o (i := i) (c := 1) (d := 0) rfl)).trans hgy35
            have hgy37 := (hfvy30 (i + 1) (ne_o (i := i) (c := 1) (d := 0) rfl)).trans hgy36
            have hgy38 := (hfvy33 (i + 1) (ne_o (i := i) (c := 1) (d := 0) rfl)).trans hgy37
            have hFy39 : ∀ f, f ≠ 12 → Fvy33 f = F f := fun f n12 => ((hFvy33 f n12).trans ((hFvy30 f n12).trans ((hFvy27 f n12).trans ((uZ_n _ _ n12).trans rfl))))
            have hey40 : Fvy33 13 = F 13 := ((hFvy33 13 (by decide)).trans ((hFvy30 13 (by decide)).trans ((hFvy27 13 (by decide)).trans (fn rfl (by decide)))))
            have hey41 : Fvy33 14 = F 14 := ((hFvy33 14 (by decide)).trans ((hFvy30 14 (by decide)).trans ((hFvy27 14 (by decide)).trans (fn rfl (by decide)))))
            have hey42 : Fvy33 15 = F 15 := ((hFvy33 15 (by decide)).trans ((hFvy30 15 (by decide)).trans ((hFvy27 15 (by decide)).trans (fn rfl (by decide)))))
            have hey43 : Fvy33 16 = F 16 := ((hFvy33 16 (by decide)).trans ((hFvy30 16 (by decide)).trans ((hFvy27 16 (by decide)).trans (fn rfl (by decide)))))
            have hey44 : Fvy33 17 = F 17 := ((hFvy33 17 (by decide)).trans ((hFvy30 17 (by decide)).trans ((hFvy27 17 (by decide)).trans (fn rfl (by decide)))))
            have hey45 : Fvy33 18 = F 18 := ((hFvy33 18 (by decide)).trans ((hFvy30 18 (by decide)).trans ((hFvy27 18 (by decide)).trans (fn rfl (by decide)))))
            have hey46 : Fvy33 19 = F 19 := ((hFvy33 19 (by decide)).trans ((hFvy30 19 (by decide)).trans ((hFvy27 19 (by decide)).trans (fn rfl (by decide)))))
            have hey47 : Fvy33 20 = F 20 := ((hFvy33 20 (by decide)).trans ((hFvy30 20 (by decide)).trans ((hFvy27 20 (by decide)).trans (fn rfl (by decide)))))
            have hey48 : Fvy33 21 = F 21 := ((hFvy33 21 (by decide)).trans ((hFvy30 21 (by decide)).trans ((hFvy27 21 (by decide)).trans (fn rfl (by decide)))))
            have hey49 : Fvy33 23 = F 23 := ((hFvy33 23 (by decide)).trans ((hFvy30 23 (by decide)).trans ((hFvy27 23 (by decide)).trans (fn rfl (by decide)))))
            have hey50 : Fvy33 25 = F 25 := ((hFvy33 25 (by decide)).trans ((hFvy30 25 (by decide)).trans ((hFvy27 25 (by decide)).trans (fn rfl (by decide)))))
            have hey51 : Fvy33 27 = F 27 := ((hFvy33 27 (by decide)).trans ((hFvy30 27 (by decide)).trans ((hFvy27 27 (by decide)).trans (fn rfl (by decide)))))
            have hey52 : Fvy33 28 = F 28 := ((hFvy33 28 (by decide)).trans ((hFvy30 28 (by decide)).trans ((hFvy27 28 (by decide)).trans (fn rfl (by decide)))))
            have hey53 : Fvy33 29 = F 29 := ((hFvy33 29 (by decide)).trans ((hFvy30 29 (by decide)).trans ((hFvy27 29 (by decide)).trans (fn rfl (by decide)))))
            have hKy54 : okF Fvy33 := okF.mv hM.2.1 hey40 hey41 hey42 hey43 hey44 hey45 hey46 hey47 hey48 hey49 hey50 hey51 hey52 hey53
            have hMy55 : okMr cs ad gvy33 i (x) Fvy33 r st op ai fa mu tb tp := okMr.upd hM hcvy33 hKy54 (fun f a => hFy39 f (by omega)) hgy38 (hA.mono (by omega)) (fun j a b => by
                exact Or.inl (by rw [hfvy33 _ (by omega)]; rw [hfvy30 _ (by omega)]; rw [hfvy27 _ (by omega)]; rw [egy25, va_up_ne _ _ (by omega)]))
            refine z_cV (As := [.int (zI ((n : Int))), .int (zI (z1))]) (rest := []) (ci := 12) C (c_X10_ratioBehind l D A cs tt N ad _ i hN x hx _ _ hMy55 n (by omega) (z1) (by omega)) (lt_A0 hN rfl) hay1 hcvy33 rfl rfl mv_yX10_ratioBehind q_2019 hd_yX10_ratioBehind (by decide) (Nat.le_of_ble_eq_true rfl) (by decide) dX10_matters_47 rfl (kI0 fun vy56 gvy56 hvy56 => ?_)
            obtain ⟨hrvy56, ⟨Fvy56, rvy56, hMvy56, hFvy56, hRvy56⟩, hfvy56⟩ := hvy56
            have hFy57 : ∀ f, f ≠ 12 → Fvy33 f = F f := fun f n12 => ((hFvy33 f n12).trans ((hFvy30 f n12).trans ((hFvy27 f n12).trans ((uZ_n _ _ n12).trans rfl))))
            have hBvy56 : (∀ f, f ≠ 12 → Fvy56 f = F f) := fun f n12 => (hFvy56 f ).trans (hFy57 f n12)
            have hCvy56 := hBvy56
            have hq13vy56 : Fvy56 13 = F 13 := (hFvy56 13).trans ((hFvy33 13 (by decide)).trans ((hFvy30 13 (by decide)).trans ((hFvy27 13 (by decide)).trans (fn rfl (by decide)))))
            have hq14vy56 : Fvy56 14 = F 14 := (hFvy56 14).trans ((hFvy33 14 (by decide)).trans ((hFvy30 14 (by decide)).trans ((hFvy27 14 (by decide)).trans (fn rfl (by decide)))))
            have hq15vy56 : Fvy56 15 = F 15 := (hFvy56 15).trans ((hFvy33 15 (by decide)).trans ((hFvy30 15 (by decide)).trans ((hFvy27 15 (by decide)).trans (fn rfl (by decide)))))
            have hq17vy56 : Fvy56 17 = F 17 := (hFvy56 17).trans ((hFvy33 17 (by decide)).trans ((hFvy30 17 (by decide)).trans ((hFvy27 17 (by decide)).trans (fn rfl (by decide)))))
            have hq20vy56 : Fvy56 20 = F 20 := (hFvy56 20).trans ((hFvy33 20 (by decide)).trans ((hFvy30 20 (by decide)).trans ((hFvy27 20 (by decide)).trans (fn rfl (by decide)))))
            have hq21vy56 : Fvy56 21 = F 21 := (hFvy56 21).trans ((hFvy33 21 (by decide)).trans ((hFvy30 21 (by decide)).trans ((hFvy27 21 (by decide)).trans (fn rfl (by decide)))))
            have hq23vy56 : Fvy56 23 = F 23 := (hFvy56 23).trans ((hFvy33 23 (by decide)).trans ((hFvy30 23 (by decide)).trans ((hFvy27 23 (by decide)).trans (fn rfl (by decide)))))
            have hq24vy56 : Fvy56 24 = F 24 := (hFvy56 24).trans ((hFvy33 24 (by decide)).trans ((hFvy30 24 (by decide)).trans ((hFvy27 24 (by decide)).trans (fn rfl (by decide)))))
            have hq16vy56 : Fvy56 16 = F 16 := (hFvy56 16).trans ((hFvy33 16 (by decide)).trans ((hFvy30 16 (by decide)).trans ((hFvy27 16 (by decide)).trans (fn rfl (by decide)))))
            have hq18vy56 : Fvy56 18 = F 18 := (hFvy56 18).trans ((hFvy33 18 (by decide)).trans ((hFvy30 18 (by decide)).trans ((hFvy27 18 (by decide)).trans (fn rfl (by decide)))))
            have hq19vy56 : Fvy56 19 = F 19 := (hFvy56 19).trans ((hFvy33 19 (by decide)).trans ((hFvy30 19 (by decide)).trans ((hFvy27 19 (by decide)).trans (fn rfl (by decide)))))
            have hq25vy56 : Fvy56 25 = F 25 := (hFvy56 25).trans ((hFvy33 25 (by decide)).trans ((hFvy30 25 (by decide)).trans ((hFvy27 25 (by decide)).trans (fn rfl (by decide)))))
            have hq26vy56 : Fvy56 26 = F 26 := (hFvy56 26).trans ((hFvy33 26 (by decide)).trans ((hFvy30 26 (by decide)).trans ((hFvy27 26 (by decide)).trans (fn rfl (by decide)))))
            have hq27vy56 : Fvy56 27 = F 27 := (hFvy56 27).trans ((hFvy33 27 (by decide)).trans ((hFvy30 27 (by decide)).trans ((hFvy27 27 (by decide)).trans (fn rfl (by decide)))))
            have hq29vy56 : Fvy56 29 = F 29 := (hFvy56 29).trans ((hFvy33 29 (by decide)).trans ((hFvy30 29 (by decide)).trans ((hFvy27 29 (by decide)).trans (fn rfl (by decide)))))
            obtain ⟨hg_y58, ⟨⟨e13_y58, e14_y58, e25_y58, e27_y58, e29_y58⟩, k15_y58, k16_y58, k17_y58, k18_y58, k19_y58, k20_y58, k23_y58, k21_y58⟩, hRD_y58, hTx_y58, hA_y58, ns_y58, nh_y58, nd_y58, rf_y58, pi_y58, te_y58, ki_y58, li_y58, ok1_y58, ok2_y58, fo_y58, dd_y58, dps_y58, ⟨ha1_y58, ha2_y58, ha3_y58, ha4_y58, ha5_y58, ha6_y58, ha7_y58, ha8_y58, ha9_y58, ha10_y58, ha11_y58, ha12_y58, ha13_y58, ha14_y58, ha15_y58, ha24_y58, ha25_y58, ha26_y58, ha27_y58, ha28_y58, ha29_y58⟩, hEv_y58, hPt_y58, hns_y58, htp_y58⟩ := id hMvy56
            obtain ⟨-, hop_y58, hai_y58, hfa_y58, hT_y58, hT1_y58⟩ := id hEv_y58
            have e14 := e14_y58
            have e25 := e25_y58
            have e27 := e27_y58
            have e29 := e29_y58
            have hop := hop_y58
            have hai := hai_y58
            have hfa := hfa_y58
            have hT := hT_y58
            have hT1 := hT1_y58
            have hEv := hEv_y58
            have htp := htp_y58
            have hns := hns_y58
            have hPt := hPt_y58
            obtain ⟨⟨hsyy59, htyy59, hnyy59, hpyy59⟩, hlyy59⟩ := okA.at0 hA_y58
            simp only [Nat.zero_add] at hsyy59 hnyy59 hpyy59
            have hmn : ∀ s, s < 4 → 0 ≤ rvy56 (6 + 86 * s) ∧ rvy56 (6 + 86 * s) ≤ 12 := fun s hs => (hsyy59 s hs).1
            have h5 : 0 ≤ rvy56 5 ∧ rvy56 5 ≤ 6 := hpyy59
            refine z_istore (lv' := [(4, .int (zI (vy56))), (0, .ref (ad i)), (1, .int (zI ((n : Int)))), (2, .int (zI (z1))), (3, .int (zI (z2)))]) C dX10_matters_50 (by decide) rfl ?_
            refine z_iconst (z := -1) C dX10_matters_52 rfl ?_
            refine z_istore (lv' := [(5, .int (zI (-1))), (4, .int (zI (vy56))), (0, .ref (ad i)), (1, .int (zI ((n : Int)))), (2, .int (zI (z1))), (3, .int (zI (z2)))]) C dX10_matters_53 (by decide) rfl ?_
            refine z_iconst (z := 0) C dX10_matters_55 rfl ?_
            refine z_istore (lv' := [(6, .int (zI (0))), (5, .int (zI (-1))), (4, .int (zI (vy56))), (0, .ref (ad i)), (1, .int (zI ((n : Int)))), (2, .int (zI (z1))), (3, .int (zI (z2)))]) C dX10_matters_56 (by decide) rfl ?_
            refine z_iconst (z := 0) C dX10_matters_58 rfl ?_
            refine z_istore (lv' := [(7, .int (zI (0))), (6, .int (zI (0))), (5, .int (zI (-1))), (4, .int (zI (vy56))), (0, .ref (ad i)), (1, .int (zI ((n : Int)))), (2, .int (zI (z1))), (3, .int (zI (z2)))]) C dX10_matters_59 (by decide) rfl ?_
            obtain ⟨al, hal⟩ : ∃ al : Int, al = vy56 := ⟨_, rfl⟩
            rw [← hal]
            have halr : -2147483648 ≤ al ∧ al ≤ 2147483647 := by omega
            have lp1 : ∀ (n9 : Nat) (wh : Int) (mo : Int) (hh : Int) (F9 : Nat → Int) (r9 : Nat → Int) (g1 : Nat → va_E), (25 - hh).toNat = n9 → (okMr cs ad g1 i x F9 r9 st op ai fa mu tb tp) → ((∀ f, f ≠ 12 → f ≠ 26 → F9 f = F f)) → ((∀ j, j < 350 ∨ 700 ≤ j → r9 j = r j)) → (∀ j, j < i ∨ i + 30 ≤ j ∨ (i + 8 ≤ j ∧ j ≤ i + 12) → g1 j = g j) → (-2147483648 ≤ wh ∧ wh ≤ 2147483647) → (-2147483648 ≤ mo ∧ mo ≤ 2147483647) → (0 ≤ hh ∧ hh ≤ F 14) → zV pZ l eZ ({ frames := 11, cells := 0, slots := 0, locals := 660 } : Room) sZ mZ ([.ref (ad i), .int (zI ((n : Int))), .int (zI (z1)), .int (zI (z2))] : List Value).toArray below meth cZ (MQ below (zPost D A (rI0 N ad fun q g' => (-2147483648 ≤ q ∧ q ≤ 2147483647) ∧ (∃ F' r' : Nat → Int, okMr cs ad g' i (x + 1) F' r' st op ai fa mu tb tp ∧ (F' 13 = F 13 ∧ F' 14 = F 14 ∧ F' 15 = F 15 ∧ F' 16 = F 16 ∧ F' 17 = F 17 ∧ F' 18 = F 18 ∧ F' 19 = F 19 ∧ F' 20 = F 20 ∧ F' 21 = F 21 ∧ F' 23 = F 23 ∧ F' 24 = F 24) ∧ (F' 25 = 0 ∧ F' 26 = -1 ∧ F' 27 = -1 ∧ F' 29 = 0) ∧ (∀ j, j < 350 ∨ 700 ≤ j → r' j = r j)) ∧ ∀ j, j < i ∨ i + 30 ≤ j ∨ (i + 8 ≤ j ∧ j ≤ i + 12) → g' j = g j)) ([.ref (ad i), .int (zI ((n : Int))), .int (zI (z1)), .int (zI (z2))] : List Value).toArray sZ ({ frames := 11, cells := 0, slots := 0, locals := 660 } : Room).cells ({ frames := 11, cells := 0, slots := 0, locals := 660 } : Room).slots A) D A 9 (N) ad g1 (0) (0) 61 [(0, .ref (ad i)), (1, .int (zI ((n : Int)))), (2, .int (zI (z1))), (3, .int (zI (z2))), (4, .int (zI (al))), (5, .int (zI (wh))), (6, .int (zI (mo))), (7, .int (zI (hh)))] [] := by
              intro n9
              induction n9 using Nat.strongRecOn with
              | ind n9 ih_lp1 =>
                intro wh mo hh F9 r9 g1 hm9 fM fF fR f3 hvlp10 hvlp11 hvlp12
                obtain ⟨hg_y60, ⟨⟨e13_y60, e14_y60, e25_y60, e27_y60, e29_y60⟩, k15_y60, k16_y60, k17_y60, k18_y60, k19_y60, k20_y60, k23_y60, k21_y60⟩, hRD_y60, hTx_y60, hA_y60, ns_y60, nh_y60, nd_y60, rf_y60, pi_y60, te_y60, ki_y60, li_y60, ok1_y60, ok2_y60, fo_y60, dd_y60, dps_y60, ⟨ha1_y60, ha2_y60, ha3_y60, ha4_y60, ha5_y60, ha6_y60, ha7_y60, ha8_y60, ha9_y60, ha10_y60, ha11_y60, ha12_y60, ha13_y60, ha14_y60, ha15_y60, ha24_y60, ha25_y60, ha26_y60, ha27_y60, ha28_y60, ha29_y60⟩, hEv_y60, hPt_y60, hns_y60, htp_y60⟩ := id fM
                obtain ⟨-, hop_y60, hai_y60, hfa_y60, hT_y60, hT1_y60⟩ := id hEv_y60
                have e14 := e14_y60
                have e25 := e25_y60
                have e27 := e27_y60
                have e29 := e29_y60
                have hop := hop_y60
                have hai := hai_y60
                have hfa := hfa_y60
                have hT := hT_y60
                have hT1 := hT1_y60
                have hEv := hEv_y60
                have htp := htp_y60
                have hns := hns_y60
                have hPt := hPt_y60
                have hay61 : zAt ad (i) (ad i) := rfl
                have hay62 : zAt ad (i + 1) (ad (i + 1)) := rfl
                have hay63 : zAt ad (i + 2) (ad (i + 2)) := rfl
                have hay64 : zAt ad (i + 3) (ad (i + 3)) := rfl
                have hay65 : zAt ad (i + 4) (ad (i + 4)) := rfl
                have hay66 : zAt ad (i + 5) (ad (i + 5)) := rfl
                have hay67 : zAt ad (i + 6) (ad (i + 6)) := rfl
                have hay68 : zAt ad (i + 7) (ad (i + 7)) := rfl
                have hay69 : zAt ad (i + 8) (ad (i + 8)) := rfl
                have hay70 : zAt ad (i + 9) (ad (i + 9)) := rfl
                have hay71 : zAt ad (i + 10) (ad (i + 10)) := rfl
                have hay72 : zAt ad (i + 11) (ad (i + 11)) := rfl
                have hay73 : zAt ad (i + 12) (ad (i + 12)) := rfl
                have hay74 : zAt ad (i + 13) (ad (i + 13)) := rfl
                have hay75 : zAt ad (i + 14) (ad (i + 14)) := rfl
                have hay76 : zAt ad (i + 15) (ad (i + 15)) := rfl
                have hay77 : zAt ad (i + 24) (ad (i + 24)) := rfl
                have hay78 : zAt ad (i + 25) (ad (i + 25)) := rfl
                have hay79 : zAt ad (i + 26) (ad (i + 26)) := rfl
                have hay80 : zAt ad (i + 27) (ad (i + 27)) := rfl
                have hay81 : zAt ad (i + 28) (ad (i + 28)) := rfl
                have hay82 : zAt ad (i + 29) (ad (i + 29)) := rfl
                obtain ⟨⟨hsyy83, htyy83, hnyy83, hpyy83⟩, hlyy83⟩ := okA.at0 hA_y60
                simp only [Nat.zero_add] at hsyy83 hnyy83 hpyy83
                have hmn : ∀ s, s < 4 → 0 ≤ r9 (6 + 86 * s) ∧ r9 (6 + 86 * s) ≤ 12 := fun s hs => (hsyy83 s hs).1
                have h5 : 0 ≤ r9 5 ∧ r9 5 ≤ 6 := hpyy83
                have h13e : F9 13 = F 13 := fF 13 (by decide) (by decide)
                have h14e : F9 14 = F 14 := fF 14 (by decide) (by decide)
                have h17e : F9 17 = F 17 := fF 17 (by decide) (by decide)
                have h20e : F9 20 = F 20 := fF 20 (by decide) (by decide)
                have h21e : F9 21 = F 21 := fF 21 (by decide) (by decide)
                have h23e : F9 23 = F 23 := fF 23 (by decide) (by decide)
                have h24e : F9 24 = F 24 := fF 24 (by decide) (by decide)
                have h15e : F9 15 = F 15 := fF 15 (by decide) (by decide)
                have h16e : F9 16 = F 16 := fF 16 (by decide) (by decide)
                have h18e : F9 18 = F 18 := fF 18 (by decide) (by decide)
                have h19e : F9 19 = F 19 := fF 19 (by decide) (by decide)
                have h25e : F9 25 = F 25 := fF 25 (by decide) (by decide)
                have h27e : F9 27 = F 27 := fF 27 (by decide) (by decide)
                have h29e : F9 29 = F 29 := fF 29 (by decide) (by decide)
                refine z_iload C 7 dX10_matters_61 rfl ?_
                refine z_aload_n C 0 dX10_matters_63 rfl ?_
                refine z_get (v := .int (zI (F9 14))) C (lt_A0 hN rfl) hay61 hg_y60 rfl inA_X10 14 (by decide) q_1473 rfl (fv (F := F9) (f := 14) rfl) dX10_matters_64 ?_
                refine z_icmp_ge (tgt := 114) C dX10_matters_67 (by decide) (by omega) (by omega) (fun hby84 => ?_) (fun hby84 => ?_)
                · refine z_aload_n C 0 dX10_matters_114 rfl ?_
                  refine z_iconst (z := -1) C dX10_matters_115 rfl ?_
                  refine z_put (fs' := mF ad (i) (uZ F9 26 (-1))) C (lt_A0 hN rfl) hay61 hg_y60 tyX10 tyX10_ok nmX10 rfl inA_X10 26 (by decide) q_1485 rfl rfl rfl rfl (Nat.le_of_ble_eq_true rfl) rfl dX10_matters_116 (fun gy85 egy86 => ?_)
                  have hgy87 := up_s egy86
                  refine z_iload_n C 3 dX10_matters_119 rfl ?_
                  refine z_if_ne (tgt := 128) C dX10_matters_120 (by decide) (by omega) (fun hby88 => ?_) (fun hby88 => ?_)
                  · refine z_iload C 6 dX10_matters_128 rfl ?_
                    have hgy89 := up_n egy86 ha1_y60 (ne_o (i := i) (c := 1) (d := 0) rfl)
                    have hFy90 : ∀ f, f ≠ 26 → (uZ F9 26 (-1)) f = F9 f := fun f n26 => ((uZ_n _ _ n26).trans rfl)
                    have hey91 : (uZ F9 26 (-1)) 13 = F9 13 := (fn rfl (by decide))
                    have hey92 : (uZ F9 26 (-1)) 14 = F9 14 := (fn rfl (by decide))
                    have hey93 : (uZ F9 26 (-1)) 15 = F9 15 := (fn rfl (by decide))
                    have hey94 : (uZ F9 26 (-1)) 16 = F9 16 := (fn rfl (by decide))
                    have hey95 : (uZ F9 26 (-1)) 17 = F9 17 := (fn rfl (by decide))
                    have hey96 : (uZ F9 26 (-1)) 18 = F9 18 := (fn rfl (by decide))
                    have hey97 : (uZ F9 26 (-1)) 19 = F9 19 := (fn rfl (by decide))
                    have hey98 : (uZ F9 26 (-1)) 20 = F9 20 := (fn rfl (by decide))
                    have hey99 : (uZ F9 26 (-1)) 21 = F9 21 := (fn rfl (by decide))
                    have hey100 : (uZ F9 26 (-1)) 23 = F9 23 := (fn rfl (by decide))
                    have hey101 : (uZ F9 26 (-1)) 25 = F9 25 := (fn rfl (by decide))
                    have hey102 : (uZ F9 26 (-1)) 27 = F9 27 := (fn rfl (by decide))
                    have hey103 : (uZ F9 26 (-1)) 28 = F9 28 := (fn rfl (by decide))
                    have hey104 : (uZ F9 26 (-1)) 29 = F9 29 := (fn rfl (by decide))
                    have hKy105 : okF (uZ F9 26 (-1)) := okF.mv fM.2.1 hey91 hey92 hey93 hey94 hey95 hey96 hey97 hey98 hey99 hey100 hey101 hey102 hey103 hey104
                    have hMy106 : okMr cs ad gy85 i (x + 1) (uZ F9 26 (-1)) r9 st op ai fa mu tb tp := okMr.upd fM hgy87 hKy105 (fun f a => hFy90 f (by omega)) hgy89 (hA_y60.mono (by omega)) (fun j a b => by
                        exact Or.inl (by rw [egy86, va_up_ne _ _ (by omega)]))
                    have hkpy107 : (uZ F9 26 (-1)) 13 = F9 13 := (fn rfl (by decide))
                    have hkpy108 : (uZ F9 26 (-1)) 14 = F9 14 := (fn rfl (by decide))
                    have hkpy109 : (uZ F9 26 (-1)) 15 = F9 15 := (fn rfl (by decide))
                    have hkpy110 : (uZ F9 26 (-1)) 16 = F9 16 := (fn rfl (by decide))
                    have hkpy111 : (uZ F9 26 (-1)) 17 = F9 17 := (fn rfl (by decide))
                    have hkpy112 : (uZ F9 26 (-1)) 18 = F9 18 := (fn rfl (by decide))
                    have hkpy113 : (uZ F9 26 (-1)) 19 = F9 19 := (fn rfl (by decide))
                    have hkpy114 : (uZ F9 26 (-1)) 20 = F9 20 := (fn rfl (by decide))
                    have hkpy115 : (uZ F9 26 (-1)) 21 = F9 21 := (fn rfl (by decide))
                    have hkpy116 : (uZ F9 26 (-1)) 23 = F9 23 := (fn rfl (by decide))
                    have hkpy117 : (uZ F9 26 (-1)) 24 = F9 24 := (fn rfl (by decide))
                    have hkpy118 : (uZ F9 26 (-1)) 25 = F9 25 := (fn rfl (by decide))
                    have hkpy119 : (uZ F9 26 (-1)) 26 = -1 := (uZ_s _ _ _)
                    have hkpy120 : (uZ F9 26 (-1)) 27 = F9 27 := (fn rfl (by decide))
                    have hkpy121 : (uZ F9 26 (-1)) 29 = F9 29 := (fn rfl (by decide))
                    exact z_iret C hr hlk dX10_matters_130 (by decide) (by decide) ⟨mo, rfl, rfl, rfl, by omega, ⟨_, _, hMy106, ⟨(by omega), (by omega), (by omega), (by omega), (by omega), (by omega), (by omega), (by omega), (by omega), (by omega), (by omega)⟩, ⟨(by omega), hkpy119, (by omega), (by omega)⟩, fR⟩, fun j j1 => by rw [egy86, va_up_ne _ _ (by omega)]; exact f3 j j1⟩
                  · refine z_iload C 5 dX10_matters_123 rfl ?_
                    refine z_goto (tgt := 130) C dX10_matters_125 (by decide) ?_
                    have hgy122 := up_n egy86 ha1_y60 (ne_o (i := i) (c := 1) (d := 0) rfl)
                    have hFy123 : ∀ f, f ≠ 26 → (uZ F9 26 (-1)) f = F9 f := fun f n26 => ((uZ_n _ _ n26).trans rfl)
                    have hey124 : (uZ F9 26 (-1)) 13 = F9 13 := (fn rfl (by decide))
                    have hey125 : (uZ F9 26 (-1)) 14 = F9 14 := (fn rfl (by decide))
                    have hey126 : (uZ F9 26 (-1)) 15 = F9 15 := (fn rfl (by decide))
                    have hey127 : (uZ F9 26 (-1)) 16 = F9 16 := (fn rfl (by decide))
                    have hey128 : (uZ F9 26 (-1)) 17 = F9 17 := (fn rfl (by decide))
                    have hey129 : (uZ F9 26 (-1)) 18 = F9 18 := (fn rfl (by decide))
                    have hey130 : (uZ F9 26 (-1)) 19 = F9 19 := (fn rfl (by decide))
                    have hey131 : (uZ F9 26 (-1)) 20 = F9 20 := (fn rfl (by decide))
                    have hey132 : (uZ F9 26 (-1)) 21 = F9 21 := (fn rfl (by decide))
                    have hey133 : (uZ F9 26 (-1)) 23 = F9 23 := (fn rfl (by decide))
                    have hey134 : (uZ F9 26 (-1)) 25 = F9 25 := (fn rfl (by decide))
                    have hey135 : (uZ F9 26 (-1)) 27 = F9 27 := (fn rfl (by decide))
                    have hey136 : (uZ F9 26 (-1)) 28 = F9 28 := (fn rfl (by decide))
                    have hey137 : (uZ F9 26 (-1)) 29 = F9 29 := (fn rfl (by decide))
                    have hKy138 : okF (uZ F9 26 (-1)) := okF.mv fM.2.1 hey124 hey125 hey126 hey127 hey128 hey129 hey130 hey131 hey132 hey133 hey134 hey135 hey136 hey137
                    have hMy139 : okMr cs ad gy85 i (x + 1) (uZ F9 26 (-1)) r9 st op ai fa mu tb tp := okMr.upd fM hgy87 hKy138 (fun f a => hFy123 f (by omega)) hgy122 (hA_y60.mono (by omega)) (fun j a b => by
                        exact Or.inl (by rw [egy86, va_up_ne _ _ (by omega)]))
                    have hkpy140 : (uZ F9 26 (-1)) 13 = F9 13 := (fn rfl (by decide))
                    have hkpy141 : (uZ F9 26 (-1)) 14 = F9 14 := (fn rfl (by decide))
                    have hkpy142 : (uZ F9 26 (-1)) 15 = F9 15 := (fn rfl (by decide))
                    have hkpy143 : (uZ F9 26 (-1)) 16 = F9 16 := (fn rfl (by decide))
                    have hkpy144 : (uZ F9 26 (-1)) 17 = F9 17 := (fn rfl (by decide))
                    have hkpy145 : (uZ F9 26 (-1)) 18 = F9 18 := (fn rfl (by decide))
                    have hkpy146 : (uZ F9 26 (-1)) 19 = F9 19 := (fn rfl (by decide))
                    have hkpy147 : (uZ F9 26 (-1)) 20 = F9 20 := (fn rfl (by decide))
                    have hkpy148 : (uZ F9 26 (-1)) 21 = F9 21 := (fn rfl (by decide))
                    have hkpy149 : (uZ F9 26 (-1)) 23 = F9 23 := (fn rfl (by decide))
                    have hkpy150 : (uZ F9 26 (-1)) 24 = F9 24 := (fn rfl (by decide))
                    have hkpy151 : (uZ F9 26 (-1)) 25 = F9 25 := (fn rfl (by decide))
                    have hkpy152 : (uZ F9 26 (-1)) 26 = -1 := (uZ_s _ _ _)
                    have hkpy153 : (uZ F9 26 (-1)) 27 = F9 27 := (fn rfl (by decide))
                    have hkpy154 : (uZ F9 26 (-1)) 29 = F9 29 := (fn rfl (by decide))
                    exact z_iret C hr hlk dX10_matters_130 (by decide) (by decide) ⟨wh, rfl, rfl, rfl, by omega, ⟨_, _, hMy139, ⟨(by omega), (by omega), (by omega), (by omega), (by omega), (by omega), (by omega), (by omega), (by omega), (by omega), (by omega)⟩, ⟨(by omega), hkpy152, (by omega), (by omega)⟩, fR⟩, fun j j1 => by rw [egy86, va_up_ne _ _ (by omega)]; exact f3 j j1⟩
                · refine z_aload_n C 0 dX10_matters_70 rfl ?_
                  refine z_iload C 7 dX10_matters_71 rfl ?_
                  refine z_put (fs' := mF ad (i) (uZ F9 26 (hh))) C (lt_A0 hN rfl) hay61 hg_y60 tyX10 tyX10_ok nmX10 rfl inA_X10 26 (by decide) q_1485 rfl rfl rfl rfl (Nat.le_of_ble_eq_true rfl) rfl dX10_matters_73 (fun gy155 egy156 => ?_)
                  have hgy157 := up_s egy156
                  refine z_aload_n C 0 dX10_matters_76 rfl ?_
                  refine z_iload_n C 1 dX10_matters_77 rfl ?_
                  refine z_iload_n C 2 dX10_matters_78 rfl ?_
                  have hgy158 := up_n egy156 ha1_y60 (ne_o (i := i) (c := 1) (d := 0) rfl)
                  have hFy159 : ∀ f, f ≠ 26 → (uZ F9 26 (hh)) f = F9 f := fun f n26 => ((uZ_n _ _ n26).trans rfl)
                  have hey160 : (uZ F9 26 (hh)) 13 = F9 13 := (fn rfl (by decide))
                  have hey161 : (uZ F9 26 (hh)) 14 = F9 14 := (fn rfl (by decide))
                  have hey162 : (uZ F9 26 (hh)) 15 = F9 15 := (fn rfl (by decide))
                  have hey163 : (uZ F9 26 (hh)) 16 = F9 16 := (fn rfl (by decide))
                  have hey164 : (uZ F9 26 (hh)) 17 = F9 17 := (fn rfl (by decide))
                  have hey165 : (uZ F9 26 (hh)) 18 = F9 18 := (fn rfl (by decide))
                  have hey166 : (uZ F9 26 (hh)) 19 = F9 19 := (fn rfl (by decide))
                  have hey167 : (uZ F9 26 (hh)) 20 = F9 20 := (fn rfl (by decide))
                  have hey168 : (uZ F9 26 (hh)) 21 = F9 21 := (fn rfl (by decide))
                  have hey169 : (uZ F9 26 (hh)) 23 = F9 23 := (fn rfl (by decide))
                  have hey170 : (uZ F9 26 (hh)) 25 = F9 25 := (fn rfl (by decide))
                  have hey171 : (uZ F9 26 (hh)) 27 = F9 27 := (fn rfl (by decide))
                  have hey172 : (uZ F9 26 (hh)) 28 = F9 28 := (fn rfl (by decide))
                  have hey173 : (uZ F9 26 (hh)) 29 = F9 29 := (fn rfl (by decide))
                  have hKy174 : okF (uZ F9 26 (hh)) := okF.mv fM.2.1 hey160 hey161 hey162 hey163 hey164 hey165 hey166 hey167 hey168 hey169 hey170 hey171 hey172 hey173
                  have hMy175 : okMr cs ad gy155 i (x) (uZ F9 26 (hh)) r9 st op ai fa mu tb tp := okMr.upd fM hgy157 hKy174 (fun f a => hFy159 f (by omega)) hgy158 (hA_y60.mono (by omega)) (fun j a b => by
                      exact Or.inl (by rw [egy156, va_up_ne _ _ (by omega)]))
                  refine z_cV (As := [.int (zI ((n : Int))), .int (zI (z1))]) (rest := []) (ci := 12) C (c_X10_ratioBehind l D A cs tt N ad _ i hN x hx _ _ hMy175 n (by omega) (z1) (by omega)) (lt_A0 hN rfl) hay61 hgy157 rfl rfl mv_yX10_ratioBehind q_2019 hd_yX10_ratioBehind (by decide) (Nat.le_of_ble_eq_true rfl) (by decide) dX10_matters_79 rfl (kI0 fun vy176 gvy176 hvy176 => ?_)
                  obtain ⟨hrvy176, ⟨Fvy176, rvy176, hMvy176, hFvy176, hRvy176⟩, hfvy176⟩ := hvy176
                  have hFy177 : ∀ f, f ≠ 26 → (uZ F9 26 (hh)) f = F9 f := fun f n26 => ((uZ_n _ _ n26).trans rfl)
                  have hBvy176 : (∀ f, f ≠ 26 → Fvy176 f = F9 f) := fun f n26 => (hFvy176 f ).trans (hFy177 f n26)
                  have hCvy176 : (∀ f, f ≠ 12 → f ≠ 26 → Fvy176 f = F f) := fun f n12 n26 => (hBvy176 f n26).trans (fF f n12 n26)
                  have hq13vy176 : Fvy176 13 = F9 13 := (hFvy176 13).trans (fn rfl (by decide))
                  have hq14vy176 : Fvy176 14 = F9 14 := (hFvy176 14).trans (fn rfl (by decide))
                  have hq15vy176 : Fvy176 15 = F9 15 := (hFvy176 15).trans (fn rfl (by decide))
                  have hq17vy176 : Fvy176 17 = F9 17 := (hFvy176 17).trans (fn rfl (by decide))
                  have hq20vy176 : Fvy176 20 = F9 20 := (hFvy176 20).trans (fn rfl (by decide))
                  have hq21vy176 : Fvy176 21 = F9 21 := (hFvy176 21).trans (fn rfl (by decide))
                  have hq23vy176 : Fvy176 23 = F9 23 := (hFvy176 23).trans (fn rfl (by decide))
                  have hq24vy176 : Fvy176 24 = F9 24 := (hFvy176 24).trans (fn rfl (by decide))
                  have hq16vy176 : Fvy176 16 = F9 16 := (hFvy176 16).trans (fn rfl (by decide))
                  have hq18vy176 : Fvy176 18 = F9 18 := (hFvy176 18).trans (fn rfl (by decide))
                  have hq19vy176 : Fvy176 19 = F9 19 := (hFvy176 19).trans (fn rfl (by decide))
                  have hq25vy176 : Fvy176 25 = F9 25 := (hFvy176 25).trans (fn rfl (by decide))
                  have hq26vy176 : Fvy176 26 = hh := (hFvy176 26).trans (uZ_s _ _ _)
                  have hq27vy176 : Fvy176 27 = F9 27 := (hFvy176 27).trans (fn rfl (by decide))
                  have hq29vy176 : Fvy176 29 = F9 29 := (hFvy176 29).trans (fn rfl (by decide))
                  obtain ⟨hg_y178, ⟨⟨e13_y178, e14_y178, e25_y178, e27_y178, e29_y178⟩, k15_y178, k16_y178, k17_y178, k18_y178, k19_y178, k20_y178, k23_y178, k21_y178⟩, hRD_y178, hTx_y178, hA_y178, ns_y178, nh_y178, nd_y178, rf_y178, pi_y178, te_y178, ki_y178, li_y178, ok1_y178, ok2_y178, fo_y178, dd_y178, dps_y178, ⟨ha1_y178, ha2_y178, ha3_y178, ha4_y178, ha5_y178, ha6_y178, ha7_y178, ha8_y178, ha9_y178, ha10_y178, ha11_y178, ha12_y178, ha13_y178, ha14_y178, ha15_y178, ha24_y178, ha25_y178, ha26_y178, ha27_y178, ha28_y178, ha29_y178⟩, hEv_y178, hPt_y178, hns_y178, htp_y178⟩ := id hMvy176
                  obtain ⟨-, hop_y178, hai_y178, hfa_y178, hT_y178, hT1_y178⟩ := id hEv_y178
                  have e14 := e14_y178
                  have e25 := e25_y178
                  have e27 := e27_y178
                  have e29 := e29_y178
                  have hop := hop_y178
                  have hai := hai_y178
                  have hfa := hfa_y178
                  have hT := hT_y178
                  have hT1 := hT1_y178
                  have hEv := hEv_y178
                  have htp := htp_y178
                  have hns := hns_y178
                  have hPt := hPt_y178
                  obtain ⟨⟨hsyy179, htyy179, hnyy179, hpyy179⟩, hlyy179⟩ := okA.at0 hA_y178
                  simp only [Nat.zero_add] at hsyy179 hnyy179 hpyy179
                  have hmn : ∀ s, s < 4 → 0 ≤ rvy176 (6 + 86 * s) ∧ rvy176 (6 + 86 * s) ≤ 12 := fun s hs => (hsyy179 s hs).1
                  have h5 : 0 ≤ rvy176 5 ∧ rvy176 5 ≤ 6 := hpyy179
                  refine z_iload C 4 dX10_matters_82 rfl ?_
                  refine z_isub C dX10_matters_84 ?_
                  obtain ⟨xy180, exy181, hxy182⟩ := zI_of (zI (vy176 - al))
                  rw [exy181]
                  refine z_cS (As := [.int (zI (xy180))]) (rest := []) C (c_X10_span l D A cs tt N ad _ (xy180) (by omega)) ms_yX10_span q_1839 hd_yX10_span (by decide) (Nat.le_of_ble_eq_true rfl) (by decide) dX10_matters_85 rfl (kI0 fun vy183 gvy183 hvy183 => ?_)
                  obtain ⟨hvy183, rfl⟩ := hvy183
                  refine z_istore (lv' := [(8, .int (zI (vy183))), (0, .ref (ad i)), (1, .int (zI ((n : Int)))), (2, .int (zI (z1))), (3, .int (zI (z2))), (4, .int (zI (al))), (5, .int (zI (wh))), (6, .int (zI (mo))), (7, .int (zI (hh)))]) C dX10_matters_88 (by decide) rfl ?_
                  refine z_iload C 0 dX10_matters_90 rfl ?_
                  refine z_iload C 7 dX10_matters_92 rfl ?_
                  refine z_icmp_gt (tgt := 100) C dX10_matters_94 (by decide) (by omega) (by omega) (fun hby184 => ?_) (fun hby184 => ?_)
                  · refine z_iload C 8 dX10_matters_100 rfl ?_
                    refine z_istore (lv' := [(5, .int (zI (hh))), (8, .int (zI (vy183))), (0, .ref (ad i)), (1, .int (zI ((n : Int)))), (2, .int (zI (z1))), (3, .int (zI (z2))), (4, .int (zI (al))), (6, .int (zI (mo))), (7, .int (zI (hh)))]) C dX10_matters_102 (by decide) rfl ?_
                    refine z_iload C 1 dX10_matters_104 rfl ?_
                    refine z_istore (lv' := [(6, .int (zI (vy183))), (5, .int (zI (hh))), (8, .int (zI (vy183))), (0, .ref (ad i)), (1, .int (zI ((n : Int)))), (2, .int (zI (z1))), (3, .int (zI (z2))), (4, .int (zI (al))), (7, .int (zI (hh)))]) C dX10_matters_106 (by decide) rfl ?_
                    refine z_iinc (z := hh + 1) (lv' := [(7, .int (zI (hh + 1))), (6, .int (zI (vy183))), (5, .int (zI (hh))), (8, .int (zI (vy183))), (0, .ref (ad i)), (1, .int (zI ((n : Int)))), (2, .int (zI (z1))), (3, .int (zI (z2))), (4, .int (zI (al)))]) (j := 8) C dX10_matters_108 rfl rfl (by decide) rfl ?_
                    refine z_goto (tgt := 61) C dX10_matters_111 (by decide) ?_
                    have hMy185 : okMr cs ad gvy176 i (x) Fvy176 rvy176 st op ai fa mu tb tp := okMr.upd hMvy176 hg_y178 hMvy176.2.1 (fun f _ => rfl) ha1_y178 (hA_y178.mono (by omega)) (fun j a b => by
                        exact Or.inl (by rfl))
                    have hFF : (∀ f, f ≠ 12 → f ≠ 26 → Fvy176 f = F f) := fun f n12 n26 => hCvy176 f n12 n26
                    have hey186 : Fvy176 13 = F9 13 := hq13vy176
                    have hey187 : Fvy176 14 = F9 14 := hq14vy176
                    refine z_lv (lv' := [(0, .ref (ad i)), (1, .int (zI ((n : Int)))), (2, .int (zI (z1))), (3, .int (zI (z2))), (4, .int (zI (al))), (5, .int (zI (hh))), (6, .int (zI (vy183))), (7, .int (zI (hh + 1)))]) [4, 5, 6, 7, 8, 2, 1, 0] rfl ?_
                    exact ih_lp1 _ (by omega) (hh) (vy183) (hh + 1) _ _ gvy176 rfl hMy185 hFF ((fun j a9 => (hRvy176 j a9).trans (fR j a9))) (fun j j1 => by rw [hfvy176 _ (by omega)]; rw [egy156, va_up_ne _ _ (by omega)]; exact f3 j j1) (by omega) (by omega) (by omega)
                  · refine z_goto (tgt := 108) C dX10_matters_97 (by decide) ?_
                    refine z_iinc (z := hh + 1) (lv' := [(7, .int (zI (hh + 1))), (8, .int (zI (vy183))), (0, .ref (ad i)), (1, .int (zI ((n : Int)))), (2, .int (zI (z1))), (3, .int (zI (z2))), (4, .int (zI (al))), (5, .int (zI (wh))), (6, .int (zI (mo)))]) (j := 8) C dX10_matters_108 rfl rfl (by decide) rfl ?_
                    refine z_goto (tgt := 61) C dX10_matters_111 (by decide) ?_
                    have hMy188 : okMr cs ad gvy176 i (x) Fvy176 rvy176 st op ai fa mu tb tp := okMr.upd hMvy176 hg_y178 hMvy176.2.1 (fun f _ => rfl) ha1_y178 (hA_y178.mono (by omega)) (fun j a b => by
                        exact Or.inl (by rfl))
                    have hFF : (∀ f, f ≠ 12 → f ≠ 26 → Fvy176 f = F f) := fun f n12 n26 => hCvy176 f n12 n26
                    have hey189 : Fvy176 13 = F9 13 := hq13vy176
                    have hey190 : Fvy176 14 = F9 14 := hq14vy176
                    refine z_lv (lv' := [(0, .ref (ad i)), (1, .int (zI ((n : Int)))), (2, .int (zI (z1))), (3, .int (zI (z2))), (4, .int (zI (al))), (5, .int (zI (wh))), (6, .int (zI (mo))), (7, .int (zI (hh + 1)))]) [2, 3, 4, 5, 6, 7, 8, 0] rfl ?_
                    exact ih_lp1 _ (by omega) (wh) (mo) (hh + 1) _ _ gvy176 rfl hMy188 hFF ((fun j a9 => (hRvy176 j a9).trans (fR j a9))) (fun j j1 => by rw [hfvy176 _ (by omega)]; rw [egy156, va_up_ne _ _ (by omega)]; exact f3 j j1) (by omega) (by omega) (by omega)
            have hMy191 : okMr cs ad gvy56 i (x) Fvy56 rvy56 st op ai fa mu tb tp := okMr.upd hMvy56 hg_y58 hMvy56.2.1 (fun f _ => rfl) ha1_y58 (hA_y58.mono (by omega)) (fun j a b => by
                exact Or.inl (by rfl))
            have hFF : (∀ f, f ≠ 12 → f ≠ 26 → Fvy56 f = F f) := fun f n12 n26 => hCvy56 f n12
            have hey192 : Fvy56 13 = F 13 := hq13vy56
            have hey193 : Fvy56 14 = F 14 := hq14vy56
            refine z_lv (lv' := [(0, .ref (ad i)), (1, .int (zI ((n : Int)))), (2, .int (zI (z1))), (3, .int (zI (z2))), (4, .int (zI (al))), (5, .int (zI (-1))), (6, .int (zI (0))), (7, .int (zI (0)))]) [4, 5, 6, 7, 3, 2, 1, 0] rfl ?_
            exact lp1 _ (-1) (0) (0) _ _ gvy56 rfl hMy191 hFF ((fun j a9 => (hRvy56 j a9).trans ((fun j _ => rfl) j a9))) (fun j j1 => by rw [hfvy56 _ (by omega)]; rw [hfvy33 _ (by omega)]; rw [hfvy30 _ (by omega)]; rw [hfvy27 _ (by omega)]; rw [egy25, va_up_ne _ _ (by omega)]) (by omega) (by omega) (by omega)
          · refine z_if_ne (tgt := 44) C dX10_matters_39 (by decide) (by omega) (fun h => absurd h (by omega)) (fun _ => ?_)
            refine z_iconst (z := 0) C dX10_matters_42 rfl ?_
            have hgy194 := up_n egy25 ha1 (ne_o (i := i) (c := 1) (d := 0) rfl)
            have hgy195 := (hfvy27 (i + 1) (ne_o (i := i) (c := 1) (d := 0) rfl)).trans hgy194
            have hgy196 := (hfvy30 (i + 1) (ne_o (i := i) (c := 1) (d := 0) rfl)).trans hgy195
            have hgy197 := (hfvy33 (i + 1) (ne_o (i := i) (c := 1) (d := 0) rfl)).trans hgy196
            have hFy198 : ∀ f, f ≠ 12 → Fvy33 f = F f := fun f n12 => ((hFvy33 f n12).trans ((hFvy30 f n12).trans ((hFvy27 f n12).trans ((uZ_n _ _ n12).trans rfl))))
            have hey199 : Fvy33 13 = F 13 := ((hFvy33 13 (by decide)).trans ((hFvy30 13 (by decide)).trans ((hFvy27 13 (by decide)).trans (fn rfl (by decide)))))
            have hey200 : Fvy33 14 = F 14 := ((hFvy33 14 (by decide)).trans ((hFvy30 14 (by decide)).trans ((hFvy27 14 (by decide)).trans (fn rfl (by decide)))))
            have hey201 : Fvy33 15 = F 15 := ((hFvy33 15 (by decide)).trans ((hFvy30 15 (by decide)).trans ((hFvy27 15 (by decide)).trans (fn rfl (by decide)))))
            have hey202 : Fvy33 16 = F 16 := ((hFvy33 16 (by decide)).trans ((hFvy30 16 (by decide)).trans ((hFvy27 16 (by decide)).trans (fn rfl (by decide)))))
            have hey203 : Fvy33 17 = F 17 := ((hFvy33 17 (by decide)).trans ((hFvy30 17 (by decide)).trans ((hFvy27 17 (by decide)).trans (fn rfl (by decide)))))
            have hey204 : Fvy33 18 = F 18 := ((hFvy33 18 (by decide)).trans ((hFvy30 18 (by decide)).trans ((hFvy27 18 (by decide)).trans (fn rfl (by decide)))))
            have hey205 : Fvy33 19 = F 19 := ((hFvy33 19 (by decide)).trans ((hFvy30 19 (by decide)).trans ((hFvy27 19 (by decide)).trans (fn rfl (by decide)))))
            have hey206 : Fvy33 20 = F 20 := ((hFvy33 20 (by decide)).trans ((hFvy30 20 (by decide)).trans ((hFvy27 20 (by decide)).trans (fn rfl (by decide)))))
            have hey207 : Fvy33 21 = F 21 := ((hFvy33 21 (by decide)).trans ((hFvy30 21 (by decide)).trans ((hFvy27 21 (by decide)).trans (fn rfl (by decide)))))
            have hey208 : Fvy33 23 = F 23 := ((hFvy33 23 (by decide)).trans ((hFvy30 23 (by decide)).trans ((hFvy27 23 (by decide)).trans (fn rfl (by decide)))))
            have hey209 : Fvy33 25 = F 25 := ((hFvy33 25 (by decide)).trans ((hFvy30 25 (by decide)).trans ((hFvy27 25 (by decide)).trans (fn rfl (by decide)))))
            have hey210 : Fvy33 27 = F 27 := ((hFvy33 27 (by decide)).trans ((hFvy30 27 (by decide)).trans ((hFvy27 27 (by decide)).trans (fn rfl (by decide)))))
            have hey211 : Fvy33 28 = F 28 := ((hFvy33 28 (by decide)).trans ((hFvy30 28 (by decide)).trans ((hFvy27 28 (by decide)).trans (fn rfl (by decide)))))
            have hey212 : Fvy33 29 = F 29 := ((hFvy33 29 (by decide)).trans ((hFvy30 29 (by decide)).trans ((hFvy27 29 (by decide)).trans (fn rfl (by decide)))))
            have hKy213 : okF Fvy33 := okF.mv hM.2.1 hey199 hey200 hey201 hey202 hey203 hey204 hey205 hey206 hey207 hey208 hey209 hey210 hey211 hey212
            have hMy214 : okMr cs ad gvy33 i (x + 1) Fvy33 r st op ai fa mu tb tp := okMr.upd hM hcvy33 hKy213 (fun f a => hFy198 f (by omega)) hgy197 (hA.mono (by omega)) (fun j a b => by
                exact Or.inl (by rw [hfvy33 _ (by omega)]; rw [hfvy30 _ (by omega)]; rw [hfvy27 _ (by omega)]; rw [egy25, va_up_ne _ _ (by omega)]))
            have hkpy215 : Fvy33 13 = F 13 := ((hFvy33 13 (by decide)).trans ((hFvy30 13 (by decide)).trans ((hFvy27 13 (by decide)).trans (fn rfl (by decide)))))
            have hkpy216 : Fvy33 14 = F 14 := ((hFvy33 14 (by decide)).trans ((hFvy30 14 (by decide)).trans ((hFvy27 14 (by decide)).trans (fn rfl (by decide)))))
            have hkpy217 : Fvy33 15 = F 15 := ((hFvy33 15 (by decide)).trans ((hFvy30 15 (by decide)).trans ((hFvy27 15 (by decide)).trans (fn rfl (by decide)))))
            have hkpy218 : Fvy33 16 = F 16 := ((hFvy33 16 (by decide)).trans ((hFvy30 16 (by decide)).trans ((hFvy27 16 (by decide)).trans (fn rfl (by decide)))))
            have hkpy219 : Fvy33 17 = F 17 := ((hFvy33 17 (by decide)).trans ((hFvy30 17 (by decide)).trans ((hFvy27 17 (by decide)).trans (fn rfl (by decide)))))
            have hkpy220 : Fvy33 18 = F 18 := ((hFvy33 18 (by decide)).trans ((hFvy30 18 (by decide)).trans ((hFvy27 18 (by decide)).trans (fn rfl (by decide)))))
            have hkpy221 : Fvy33 19 = F 19 := ((hFvy33 19 (by decide)).trans ((hFvy30 19 (by decide)).trans ((hFvy27 19 (by decide)).trans (fn rfl (by decide)))))
            have hkpy222 : Fvy33 20 = F 20 := ((hFvy33 20 (by decide)).trans ((hFvy30 20 (by decide)).trans ((hFvy27 20 (by decide)).trans (fn rfl (by decide)))))
            have hkpy223 : Fvy33 21 = F 21 := ((hFvy33 21 (by decide)).trans ((hFvy30 21 (by decide)).trans ((hFvy27 21 (by decide)).trans (fn rfl (by decide)))))
            have hkpy224 : Fvy33 23 = F 23 := ((hFvy33 23 (by decide)).trans ((hFvy30 23 (by decide)).trans ((hFvy27 23 (by decide)).trans (fn rfl (by decide)))))
            have hkpy225 : Fvy33 24 = F 24 := ((hFvy33 24 (by decide)).trans ((hFvy30 24 (by decide)).trans ((hFvy27 24 (by decide)).trans (fn rfl (by decide)))))
            have hkpy226 : Fvy33 25 = F 25 := ((hFvy33 25 (by decide)).trans ((hFvy30 25 (by decide)).trans ((hFvy27 25 (by decide)).trans (fn rfl (by decide)))))
            have hkpy227 : Fvy33 26 = F 26 := ((hFvy33 26 (by decide)).trans ((hFvy30 26 (by decide)).trans ((hFvy27 26 (by decide)).trans (fn rfl (by decide)))))
            have hkpy228 : Fvy33 27 = F 27 := ((hFvy33 27 (by decide)).trans ((hFvy30 27 (by decide)).trans ((hFvy27 27 (by decide)).trans (fn rfl (by decide)))))
            have hkpy229 : Fvy33 29 = F 29 := ((hFvy33 29 (by decide)).trans ((hFvy30 29 (by decide)).trans ((hFvy27 29 (by decide)).trans (fn rfl (by decide)))))
            exact z_iret C hr hlk dX10_matters_43 (by decide) (by decide) ⟨0, rfl, rfl, rfl, by omega, ⟨_, _, hMy214, ⟨hkpy215, hkpy216, hkpy217, hkpy218, hkpy219, hkpy220, hkpy221, hkpy222, hkpy223, hkpy224, hkpy225⟩, ⟨(hkpy226.trans hp25), (hkpy227.trans hp26), (hkpy228.trans hp27), (hkpy229.trans hp29)⟩, (fun j _ => rfl)⟩, fun j j1 => by rw [hfvy33 _ (by omega)]; rw [hfvy30 _ (by omega)]; rw [hfvy27 _ (by omega)]; rw [egy25, va_up_ne _ _ (by omega)]⟩
        · refine z_iconst (z := 2) C dX10_matters_35 rfl ?_
          have hey231 : Fvy30 12 = Fvy30 12 := rfl
          refine z_cV (As := [.int (zI (0)), .int (zI (2))]) (rest := []) (ci := 12) C (c_X10_right l D A cs tt N ad _ i hN _ hcvy30 (by omega) (0) (by omega) (2) (by omega)) (lt_A0 hN rfl) hay1 hcvy30 rfl rfl mv_yX10_right q_1648 hd_yX10_right (by decide) (Nat.le_of_ble_eq_true rfl) (by decide) dX10_matters_36 rfl (kI0 fun vy230 gvy230 hvy230 => ?_)
          obtain ⟨hrvy230, ⟨Fvy230, hcvy230, htvy230, hFvy230⟩, hfvy230⟩ := hvy230
          obtain rfl : vy230 = 0 := by omega
          refine z_if_ne (tgt := 44) C dX10_matters_39 (by decide) (by omega) (fun h => absurd h (by omega)) (fun _ => ?_)
          refine z_iconst (z := 0) C dX10_matters_42 rfl ?_
          have hgy232 := up_n egy25 ha1 (ne_o (i := i) (c := 1) (d := 0) rfl)
          have hgy233 := (hfvy27 (i + 1) (ne_o (i := i) (c := 1) (d := 0) rfl)).trans hgy232
          have hgy234 := (hfvy30 (i + 1) (ne_o (i := i) (c := 1) (d := 0) rfl)).trans hgy233
          have hgy235 := (hfvy230 (i + 1) (ne_o (i := i) (c := 1) (d := 0) rfl)).trans hgy234
          have hFy236 : ∀ f, f ≠ 12 → Fvy230 f = F f := fun f n12 => ((hFvy230 f n12).trans ((hFvy30 f n12).trans ((hFvy27 f n12).trans ((uZ_n _ _ n12).trans rfl))))
          have hey237 : Fvy230 13 = F 13 := ((hFvy230 13 (by decide)).trans ((hFvy30 13 (by decide)).trans ((hFvy27 13 (by decide)).trans (fn rfl (by decide)))))
          have hey238 : Fvy230 14 = F 14 := ((hFvy230 14 (by decide)).trans ((hFvy30 14 (by decide)).trans ((hFvy27 14 (by decide)).trans (fn rfl (by decide)))))
          have hey239 : Fvy230 15 = F 15 := ((hFvy230 15 (by decide)).trans ((hFvy30 15 (by decide)).trans ((hFvy27 15 (by decide)).trans (fn rfl (by decide)))))
          have hey240 : Fvy230 16 = F 16 := ((hFvy230 16 (by decide)).trans ((hFvy30 16 (by decide)).trans ((hFvy27 16 (by decide)).trans (fn rfl (by decide)))))
          have hey241 : Fvy230 17 = F 17 := ((hFvy230 17 (by decide)).trans ((hFvy30 17 (by decide)).trans ((hFvy27 17 (by decide)).trans (fn rfl (by decide)))))
          have hey242 : Fvy230 18 = F 18 := ((hFvy230 18 (by decide)).trans ((hFvy30 18 (by decide)).trans ((hFvy27 18 (by decide)).trans (fn rfl (by decide)))))
          have hey243 : Fvy230 19 = F 19 := ((hFvy230 19 (by decide)).trans ((hFvy30 19 (by decide)).trans ((hFvy27 19 (by decide)).trans (fn rfl (by decide)))))
          have hey244 : Fvy230 20 = F 20 := ((hFvy230 20 (by decide)).trans ((hFvy30 20 (by decide)).trans ((hFvy27 20 (by decide)).trans (fn rfl (by decide)))))
          have hey245 : Fvy230 21 = F 21 := ((hFvy230 21 (by decide)).trans ((hFvy30 21 (by decide)).trans ((hFvy27 21 (by decide)).trans (fn rfl (by decide)))))
          have hey246 : Fvy230 23 = F 23 := ((hFvy230 23 (by decide)).trans ((hFvy30 23 (by decide)).trans ((hFvy27 23 (by decide)).trans (fn rfl (by decide)))))
          have hey247 : Fvy230 25 = F 25 := ((hFvy230 25 (by decide)).trans ((hFvy30 25 (by decide)).trans ((hFvy27 25 (by decide)).trans (fn rfl (by decide)))))
          have hey248 : Fvy230 27 = F 27 := ((hFvy230 27 (by decide)).trans ((hFvy30 27 (by decide)).trans ((hFvy27 27 (by decide)).trans (fn rfl (by decide)))))
          have hey249 : Fvy230 28 = F 28 := ((hFvy230 28 (by decide)).trans ((hFvy30 28 (by decide)).trans ((hFvy27 28 (by decide)).trans (fn rfl (by decide)))))
          have hey250 : Fvy230 29 = F 29 := ((hFvy230 29 (by decide)).trans ((hFvy30 29 (by decide)).trans ((hFvy27 29 (by decide)).trans (fn rfl (by decide)))))
          have hKy251 : okF Fvy230 := okF.mv hM.2.1 hey237 hey238 hey239 hey240 hey241 hey242 hey243 hey244 hey245 hey246 hey247 hey248 hey249 hey250
          have hMy252 : okMr cs ad gvy230 i (x + 1) Fvy230 r st op ai fa mu tb tp := okMr.upd hM hcvy230 hKy251 (fun f a => hFy236 f (by omega)) hgy235 (hA.mono (by omega)) (fun j a b => by
              exact Or.inl (by rw [hfvy230 _ (by omega)]; rw [hfvy30 _ (by omega)]; rw [hfvy27 _ (by omega)]; rw [egy25, va_up_ne _ _ (by omega)]))
          have hkpy253 : Fvy230 13 = F 13 := ((hFvy230 13 (by decide)).trans ((hFvy30 13 (by decide)).trans ((hFvy27 13 (by decide)).trans (fn rfl (by decide)))))
          have hkpy254 : Fvy230 14 = F 14 := ((hFvy230 14 (by decide)).trans ((hFvy30 14 (by decide)).trans ((hFvy27 14 (by decide)).trans (fn rfl (by decide)))))
          have hkpy255 : Fvy230 15 = F 15 := ((hFvy230 15 (by decide)).trans ((hFvy30 15 (by decide)).trans ((hFvy27 15 (by decide)).trans (fn rfl (by decide)))))
          have hkpy256 : Fvy230 16 = F 16 := ((hFvy230 16 (by decide)).trans ((hFvy30 16 (by decide)).trans ((hFvy27 16 (by decide)).trans (fn rfl (by decide)))))
          have hkpy257 : Fvy230 17 = F 17 := ((hFvy230 17 (by decide)).trans ((hFvy30 17 (by decide)).trans ((hFvy27 17 (by decide)).trans (fn rfl (by decide)))))
          have hkpy258 : Fvy230 18 = F 18 := ((hFvy230 18 (by decide)).trans ((hFvy30 18 (by decide)).trans ((hFvy27 18 (by decide)).trans (fn rfl (by decide)))))
          have hkpy259 : Fvy230 19 = F 19 := ((hFvy230 19 (by decide)).trans ((hFvy30 19 (by decide)).trans ((hFvy27 19 (by decide)).trans (fn rfl (by decide)))))
          have hkpy260 : Fvy230 20 = F 20 := ((hFvy230 20 (by decide)).trans ((hFvy30 20 (by decide)).trans ((hFvy27 20 (by decide)).trans (fn rfl (by decide)))))
          have hkpy261 : Fvy230 21 = F 21 := ((hFvy230 21 (by decide)).trans ((hFvy30 21 (by decide)).trans ((hFvy27 21 (by decide)).trans (fn rfl (by decide)))))
          have hkpy262 : Fvy230 23 = F 23 := ((hFvy230 23 (by decide)).trans ((hFvy30 23 (by decide)).trans ((hFvy27 23 (by decide)).trans (fn rfl (by decide)))))
          have hkpy263 : Fvy230 24 = F 24 := ((hFvy230 24 (by decide)).trans ((hFvy30 24 (by decide)).trans ((hFvy27 24 (by decide)).trans (fn rfl (by decide)))))
          have hkpy264 : Fvy230 25 = F 25 := ((hFvy230 25 (by decide)).trans ((hFvy30 25 (by decide)).trans ((hFvy27 25 (by decide)).trans (fn rfl (by decide)))))
          have hkpy265 : Fvy230 26 = F 26 := ((hFvy230 26 (by decide)).trans ((hFvy30 26 (by decide)).trans ((hFvy27 26 (by decide)).trans (fn rfl (by decide)))))
          have hkpy266 : Fvy230 27 = F 27 := ((hFvy230 27 (by decide)).trans ((hFvy30 27 (by decide)).trans ((hFvy27 27 (by decide)).trans (fn rfl (by decide)))))
          have hkpy267 : Fvy230 29 = F 29 := ((hFvy230 29 (by decide)).trans ((hFvy30 29 (by decide)).trans ((hFvy27 29 (by decide)).trans (fn rfl (by decide)))))
          exact z_iret C hr hlk dX10_matters_43 (by decide) (by decide) ⟨0, rfl, rfl, rfl, by omega, ⟨_, _, hMy252, ⟨hkpy253, hkpy254, hkpy255, hkpy256, hkpy257, hkpy258, hkpy259, hkpy260, hkpy261, hkpy262, hkpy263⟩, ⟨(hkpy264.trans hp25), (hkpy265.trans hp26), (hkpy266.trans hp27), (hkpy267.trans hp29)⟩, (fun j _ => rfl)⟩, fun j j1 => by rw [hfvy230 _ (by omega)]; rw [hfvy30 _ (by omega)]; rw [hfvy27 _ (by omega)]; rw [egy25, va_up_ne _ _ (by omega)]⟩
      · refine z_if_eq (tgt := 42) C dX10_matters_24 (by decide) (by omega) (fun _ => ?_) (fun h => absurd h (by omega))
        refine z_iconst (z := 0) C dX10_matters_42 rfl ?_
        have hgy268 := up_n egy25 ha1 (ne_o (i := i) (c := 1) (d := 0) rfl)
        have hgy269 := (hfvy27 (i + 1) (ne_o (i := i) (c := 1) (d := 0) rfl)).trans hgy268
        have hgy270 := (hfvy30 (i + 1) (ne_o (i := i) (c := 1) (d := 0) rfl)).trans hgy269
        have hFy271 : ∀ f, f ≠ 12 → Fvy30 f = F f := fun f n12 => ((hFvy30 f n12).trans ((hFvy27 f n12).trans ((uZ_n _ _ n12).trans rfl)))
        have hey272 : Fvy30 13 = F 13 := ((hFvy30 13 (by decide)).trans ((hFvy27 13 (by decide)).trans (fn rfl (by decide))))
        have hey273 : Fvy30 14 = F 14 := ((hFvy30 14 (by decide)).trans ((hFvy27 14 (by decide)).trans (fn rfl (by decide))))
        have hey274 : Fvy30 15 = F 15 := ((hFvy30 15 (by decide)).trans ((hFvy27 15 (by decide)).trans (fn rfl (by decide))))
        have hey275 : Fvy30 16 = F 16 := ((hFvy30 16 (by decide)).trans ((hFvy27 16 (by decide)).trans (fn rfl (by decide))))
        have hey276 : Fvy30 17 = F 17 := ((hFvy30 17 (by decide)).trans ((hFvy27 17 (by decide)).trans (fn rfl (by decide))))
        have hey277 : Fvy30 18 = F 18 := ((hFvy30 18 (by decide)).trans ((hFvy27 18 (by decide)).trans (fn rfl (by decide))))
        have hey278 : Fvy30 19 = F 19 := ((hFvy30 19 (by decide)).trans ((hFvy27 19 (by decide)).trans (fn rfl (by decide))))
        have hey279 : Fvy30 20 = F 20 := ((hFvy30 20 (by decide)).trans ((hFvy27 20 (by decide)).trans (fn rfl (by decide))))
        have hey280 : Fvy30 21 = F 21 := ((hFvy30 21 (by decide)).trans ((hFvy27 21 (by decide)).trans (fn rfl (by decide))))
        have hey281 : Fvy30 23 = F 23 := ((hFvy30 23 (by decide)).trans ((hFvy27 23 (by decide)).trans (fn rfl (by decide))))
        have hey282 : Fvy30 25 = F 25 := ((hFvy30 25 (by decide)).trans ((hFvy27 25 (by decide)).trans (fn rfl (by decide))))
        have hey283 : Fvy30 27 = F 27 := ((hFvy30 27 (by decide)).trans ((hFvy27 27 (by decide)).trans (fn rfl (by decide))))
        have hey284 : Fvy30 28 = F 28 := ((hFvy30 28 (by decide)).trans ((hFvy27 28 (by decide)).trans (fn rfl (by decide))))
        have hey285 : Fvy30 29 = F 29 := ((hFvy30 29 (by decide)).trans ((hFvy27 29 (by decide)).trans (fn rfl (by decide))))
        have hKy286 : okF Fvy30 := okF.mv hM.2.1 hey272 hey273 hey274 hey275 hey276 hey277 hey278 hey279 hey280 hey281 hey282 hey283 hey284 hey285
        have hMy287 : okMr cs ad gvy30 i (x + 1) Fvy30 r st op ai fa mu tb tp := okMr.upd hM hcvy30 hKy286 (fun f a => hFy271 f (by omega)) hgy270 (hA.mono (by omega)) (fun j a b => by
            exact Or.inl (by rw [hfvy30 _ (by omega)]; rw [hfvy27 _ (by omega)]; rw [egy25, va_up_ne _ _ (by omega)]))
        have hkpy288 : Fvy30 13 = F 13 := ((hFvy30 13 (by decide)).trans ((hFvy27 13 (by decide)).trans (fn rfl (by decide))))
        have hkpy289 : Fvy30 14 = F 14 := ((hFvy30 14 (by decide)).trans ((hFvy27 14 (by decide)).trans (fn rfl (by decide))))
        have hkpy290 : Fvy30 15 = F 15 := ((hFvy30 15 (by decide)).trans ((hFvy27 15 (by decide)).trans (fn rfl (by decide))))
        have hkpy291 : Fvy30 16 = F 16 := ((hFvy30 16 (by decide)).trans ((hFvy27 16 (by decide)).trans (fn rfl (by decide))))
        have hkpy292 : Fvy30 17 = F 17 := ((hFvy30 17 (by decide)).trans ((hFvy27 17 (by decide)).trans (fn rfl (by decide))))
        have hkpy293 : Fvy30 18 = F 18 := ((hFvy30 18 (by decide)).trans ((hFvy27 18 (by decide)).trans (fn rfl (by decide))))
        have hkpy294 : Fvy30 19 = F 19 := ((hFvy30 19 (by decide)).trans ((hFvy27 19 (by decide)).trans (fn rfl (by decide))))
        have hkpy295 : Fvy30 20 = F 20 := ((hFvy30 20 (by decide)).trans ((hFvy27 20 (by decide)).trans (fn rfl (by decide))))
        have hkpy296 : Fvy30 21 = F 21 := ((hFvy30 21 (by decide)).trans ((hFvy27 21 (by decide)).trans (fn rfl (by decide))))
        have hkpy297 : Fvy30 23 = F 23 := ((hFvy30 23 (by decide)).trans ((hFvy27 23 (by decide)).trans (fn rfl (by decide))))
        have hkpy298 : Fvy30 24 = F 24 := ((hFvy30 24 (by decide)).trans ((hFvy27 24 (by decide)).trans (fn rfl (by decide))))
        have hkpy299 : Fvy30 25 = F 25 := ((hFvy30 25 (by decide)).trans ((hFvy27 25 (by decide)).trans (fn rfl (by decide))))
        have hkpy300 : Fvy30 26 = F 26 := ((hFvy30 26 (by decide)).trans ((hFvy27 26 (by decide)).trans (fn rfl (by decide))))
        have hkpy301 : Fvy30 27 = F 27 := ((hFvy30 27 (by decide)).trans ((hFvy27 27 (by decide)).trans (fn rfl (by decide))))
        have hkpy302 : Fvy30 29 = F 29 := ((hFvy30 29 (by decide)).trans ((hFvy27 29 (by decide)).trans (fn rfl (by decide))))
        exact z_iret C hr hlk dX10_matters_43 (by decide) (by decide) ⟨0, rfl, rfl, rfl, by omega, ⟨_, _, hMy287, ⟨hkpy288, hkpy289, hkpy290, hkpy291, hkpy292, hkpy293, hkpy294, hkpy295, hkpy296, hkpy297, hkpy298⟩, ⟨(hkpy299.trans hp25), (hkpy300.trans hp26), (hkpy301.trans hp27), (hkpy302.trans hp29)⟩, (fun j _ => rfl)⟩, fun j j1 => by rw [hfvy30 _ (by omega)]; rw [hfvy27 _ (by omega)]; rw [egy25, va_up_ne _ _ (by omega)]⟩
    · refine z_iconst (z := 1) C dX10_matters_20 rfl ?_
      have hey304 : Fvy27 12 = Fvy27 12 := rfl
      refine z_cV (As := [.int (zI (0)), .int (zI (1))]) (rest := []) (ci := 12) C (c_X10_right l D A cs tt N ad _ i hN _ hcvy27 (by omega) (0) (by omega) (1) (by omega)) (lt_A0 hN rfl) hay1 hcvy27 rfl rfl mv_yX10_right q_1648 hd_yX10_right (by decide) (Nat.le_of_ble_eq_true rfl) (by decide) dX10_matters_21 rfl (kI0 fun vy303 gvy303 hvy303 => ?_)
      obtain ⟨hrvy303, ⟨Fvy303, hcvy303, htvy303, hFvy303⟩, hfvy303⟩ := hvy303
      obtain rfl : vy303 = 0 := by omega
      refine z_if_eq (tgt := 42) C dX10_matters_24 (by decide) (by omega) (fun _ => ?_) (fun h => absurd h (by omega))
      refine z_iconst (z := 0) C dX10_matters_42 rfl ?_
      have hgy305 := up_n egy25 ha1 (ne_o (i := i) (c := 1) (d := 0) rfl)
      have hgy306 := (hfvy27 (i + 1) (ne_o (i := i) (c := 1) (d := 0) rfl)).trans hgy305
      have hgy307 := (hfvy303 (i + 1) (ne_o (i := i) (c := 1) (d := 0) rfl)).trans hgy306
      have hFy308 : ∀ f, f ≠ 12 → Fvy303 f = F f := fun f n12 => ((hFvy303 f n12).trans ((hFvy27 f n12).trans ((uZ_n _ _ n12).trans rfl)))
      have hey309 : Fvy303 13 = F 13 := ((hFvy303 13 (by decide)).trans ((hFvy27 13 (by decide)).trans (fn rfl (by decide))))
      have hey310 : Fvy303 14 = F 14 := ((hFvy303 14 (by decide)).trans ((hFvy27 14 (by decide)).trans (fn rfl (by decide))))
      have hey311 : Fvy303 15 = F 15 := ((hFvy303 15 (by decide)).trans ((hFvy27 15 (by decide)).trans (fn rfl (by decide))))
      have hey312 : Fvy303 16 = F 16 := ((hFvy303 16 (by decide)).trans ((hFvy27 16 (by decide)).trans (fn rfl (by decide))))
      have hey313 : Fvy303 17 = F 17 := ((hFvy303 17 (by decide)).trans ((hFvy27 17 (by decide)).trans (fn rfl (by decide))))
      have hey314 : Fvy303 18 = F 18 := ((hFvy303 18 (by decide)).trans ((hFvy27 18 (by decide)).trans (fn rfl (by decide))))
      have hey315 : Fvy303 19 = F 19 := ((hFvy303 19 (by decide)).trans ((hFvy27 19 (by decide)).trans (fn rfl (by decide))))
      have hey316 : Fvy303 20 = F 20 := ((hFvy303 20 (by decide)).trans ((hFvy27 20 (by decide)).trans (fn rfl (by decide))))
      have hey317 : Fvy303 21 = F 21 := ((hFvy303 21 (by decide)).trans ((hFvy27 21 (by decide)).trans (fn rfl (by decide))))
      have hey318 : Fvy303 23 = F 23 := ((hFvy303 23 (by decide)).trans ((hFvy27 23 (by decide)).trans (fn rfl (by decide))))
      have hey319 : Fvy303 25 = F 25 := ((hFvy303 25 (by decide)).trans ((hFvy27 25 (by decide)).trans (fn rfl (by decide))))
      have hey320 : Fvy303 27 = F 27 := ((hFvy303 27 (by decide)).trans ((hFvy27 27 (by decide)).trans (fn rfl (by decide))))
      have hey321 : Fvy303 28 = F 28 := ((hFvy303 28 (by decide)).trans ((hFvy27 28 (by decide)).trans (fn rfl (by decide))))
      have hey322 : Fvy303 29 = F 29 := ((hFvy303 29 (by decide)).trans ((hFvy27 29 (by decide)).trans (fn rfl (by decide))))
      have hKy323 : okF Fvy303 := okF.mv hM.2.1 hey309 hey310 hey311 hey312 hey313 hey314 hey315 hey316 hey317 hey318 hey319 hey320 hey321 hey322
      have hMy324 : okMr cs ad gvy303 i (x + 1) Fvy303 r st op ai fa mu tb tp := okMr.upd hM hcvy303 hKy323 (fun f a => hFy308 f (by omega)) hgy307 (hA.mono (by omega)) (fun j a b => by
          exact Or.inl (by rw [hfvy303 _ (by omega)]; rw [hfvy27 _ (by omega)]; rw [egy25, va_up_ne _ _ (by omega)]))
      have hkpy325 : Fvy303 13 = F 13 := ((hFvy303 13 (by decide)).trans ((hFvy27 13 (by decide)).trans (fn rfl (by decide))))
      have hkpy326 : Fvy303 14 = F 14 := ((hFvy303 14 (by decide)).trans ((hFvy27 14 (by decide)).trans (fn rfl (by decide))))
      have hkpy327 : Fvy303 15 = F 15 := ((hFvy303 15 (by decide)).trans ((hFvy27 15 (by decide)).trans (fn rfl (by decide))))
      have hkpy328 : Fvy303 16 = F 16 := ((hFvy303 16 (by decide)).trans ((hFvy27 16 (by decide)).trans (fn rfl (by decide))))
      have hkpy329 : Fvy303 17 = F 17 := ((hFvy303 17 (by decide)).trans ((hFvy27 17 (by decide)).trans (fn rfl (by decide))))
      have hkpy330 : Fvy303 18 = F 18 := ((hFvy303 18 (by decide)).trans ((hFvy27 18 (by decide)).trans (fn rfl (by decide))))
      have hkpy331 : Fvy303 19 = F 19 := ((hFvy303 19 (by decide)).trans ((hFvy27 19 (by decide)).trans (fn rfl (by decide))))
      have hkpy332 : Fvy303 20 = F 20 := ((hFvy303 20 (by decide)).trans ((hFvy27 20 (by decide)).trans (fn rfl (by decide))))
      have hkpy333 : Fvy303 21 = F 21 := ((hFvy303 21 (by decide)).trans ((hFvy27 21 (by decide)).trans (fn rfl (by decide))))
      have hkpy334 : Fvy303 23 = F 23 := ((hFvy303 23 (by decide)).trans ((hFvy27 23 (by decide)).trans (fn rfl (by decide))))
      have hkpy335 : Fvy303 24 = F 24 := ((hFvy303 24 (by decide)).trans ((hFvy27 24 (by decide)).trans (fn rfl (by decide))))
      have hkpy336 : Fvy303 25 = F 25 := ((hFvy303 25 (by decide)).trans ((hFvy27 25 (by decide)).trans (fn rfl (by decide))))
      have hkpy337 : Fvy303 26 = F 26 := ((hFvy303 26 (by decide)).trans ((hFvy27 26 (by decide)).trans (fn rfl (by decide))))
      have hkpy338 : Fvy303 27 = F 27 := ((hFvy303 27 (by decide)).trans ((hFvy27 27 (by decide)).trans (fn rfl (by decide))))
      have hkpy339 : Fvy303 29 = F 29 := ((hFvy303 29 (by decide)).trans ((hFvy27 29 (by decide)).trans (fn rfl (by decide))))
      exact z_iret C hr hlk dX10_matters_43 (by decide) (by decide) ⟨0, rfl, rfl, rfl, by omega, ⟨_, _, hMy324, ⟨hkpy325, hkpy326, hkpy327, hkpy328, hkpy329, hkpy330, hkpy331, hkpy332, hkpy333, hkpy334, hkpy335⟩, ⟨(hkpy336.trans hp25), (hkpy337.trans hp26), (hkpy338.trans hp27), (hkpy339.trans hp29)⟩, (fun j _ => rfl)⟩, fun j j1 => by rw [hfvy303 _ (by omega)]; rw [hfvy27 _ (by omega)]; rw [egy25, va_up_ne _ _ (by omega)]⟩
  · refine z_if_eq (tgt := 42) C dX10_matters_10 (by decide) (by omega) (fun _ => ?_) (fun h => absurd h (by omega))
    refine z_iconst (z := 0) C dX10_matters_42 rfl ?_
    have hgy340 := up_n egy25 ha1 (ne_o (i := i) (c := 1) (d := 0) rfl)
    have hgy341 := (hfvy27 (i + 1) (ne_o (i := i) (c := 1) (d := 0) rfl)).trans hgy340
    have hFy342 : ∀ f, f ≠ 12 → Fvy27 f = F f := fun f n12 => ((hFvy27 f n12).trans ((uZ_n _ _ n12).trans rfl))
    have hey343 : Fvy27 13 = F 13 := ((hFvy27 13 (by decide)).trans (fn rfl (by decide)))
    have hey344 : Fvy27 14 = F 14 := ((hFvy27 14 (by decide)).trans (fn rfl (by decide)))
    have hey345 : Fvy27 15 = F 15 := ((hFvy27 15 (by decide)).trans (fn rfl (by decide)))
    have hey346 : Fvy27 16 = F 16 := ((hFvy27 16 (by decide)).trans (fn rfl (by decide)))
    have hey347 : Fvy27 17 = F 17 := ((hFvy27 17 (by decide)).trans (fn rfl (by decide)))
    have hey348 : Fvy27 18 = F 18 := ((hFvy27 18 (by decide)).trans (fn rfl (by decide)))
    have hey349 : Fvy27 19 = F 19 := ((hFvy27 19 (by decide)).trans (fn rfl (by decide)))
    have hey350 : Fvy27 20 = F 20 := ((hFvy27 20 (by decide)).trans (fn rfl (by decide)))
    have hey351 : Fvy27 21 = F 21 := ((hFvy27 21 (by decide)).trans (fn rfl (by decide)))
    have hey352 : Fvy27 23 = F 23 := ((hFvy27 23 (by decide)).trans (fn rfl (by decide)))
    have hey353 : Fvy27 25 = F 25 := ((hFvy27 25 (by decide)).trans (fn rfl (by decide)))
    have hey354 : Fvy27 27 = F 27 := ((hFvy27 27 (by decide)).trans (fn rfl (by decide)))
    have hey355 : Fvy27 28 = F 28 := ((hFvy27 28 (by decide)).trans (fn rfl (by decide)))
    have hey356 : Fvy27 29 = F 29 := ((hFvy27 29 (by decide)).trans (fn rfl (by decide)))
    have hKy357 : okF Fvy27 := okF.mv hM.2.1 hey343 hey344 hey345 hey346 hey347 hey348 hey349 hey350 hey351 hey352 hey353 hey354 hey355 hey356
    have hMy358 : okMr cs ad gvy27 i (x + 1) Fvy27 r st op ai fa mu tb tp := okMr.upd hM hcvy27 hKy357 (fun f a => hFy342 f (by omega)) hgy341 (hA.mono (by omega)) (fun j a b => by
        exact Or.inl (by rw [hfvy27 _ (by omega)]; rw [egy25, va_up_ne _ _ (by omega)]))
    have hkpy359 : Fvy27 13 = F 13 := ((hFvy27 13 (by decide)).trans (fn rfl (by decide)))
    have hkpy360 : Fvy27 14 = F 14 := ((hFvy27 14 (by decide)).trans (fn rfl (by decide)))
    have hkpy361 : Fvy27 15 = F 15 := ((hFvy27 15 (by decide)).trans (fn rfl (by decide)))
    have hkpy362 : Fvy27 16 = F 16 := ((hFvy27 16 (by decide)).trans (fn rfl (by decide)))
    have hkpy363 : Fvy27 17 = F 17 := ((hFvy27 17 (by decide)).trans (fn rfl (by decide)))
    have hkpy364 : Fvy27 18 = F 18 := ((hFvy27 18 (by decide)).trans (fn rfl (by decide)))
    have hkpy365 : Fvy27 19 = F 19 := ((hFvy27 19 (by decide)).trans (fn rfl (by decide)))
    have hkpy366 : Fvy27 20 = F 20 := ((hFvy27 20 (by decide)).trans (fn rfl (by decide)))
    have hkpy367 : Fvy27 21 = F 21 := ((hFvy27 21 (by decide)).trans (fn rfl (by decide)))
    have hkpy368 : Fvy27 23 = F 23 := ((hFvy27 23 (by decide)).trans (fn rfl (by decide)))
    have hkpy369 : Fvy27 24 = F 24 := ((hFvy27 24 (by decide)).trans (fn rfl (by decide)))
    have hkpy370 : Fvy27 25 = F 25 := ((hFvy27 25 (by decide)).trans (fn rfl (by decide)))
    have hkpy371 : Fvy27 26 = F 26 := ((hFvy27 26 (by decide)).trans (fn rfl (by decide)))
    have hkpy372 : Fvy27 27 = F 27 := ((hFvy27 27 (by decide)).trans (fn rfl (by decide)))
    have hkpy373 : Fvy27 29 = F 29 := ((hFvy27 29 (by decide)).trans (fn rfl (by decide)))
    exact z_iret C hr hlk dX10_matters_43 (by decide) (by decide) ⟨0, rfl, rfl, rfl, by omega, ⟨_, _, hMy358, ⟨hkpy359, hkpy360, hkpy361, hkpy362, hkpy363, hkpy364, hkpy365, hkpy366, hkpy367, hkpy368, hkpy369⟩, ⟨(hkpy370.trans hp25), (hkpy371.trans hp26), (hkpy372.trans hp27), (hkpy373.trans hp29)⟩, (fun j _ => rfl)⟩, fun j j1 => by rw [hfvy27 _ (by omega)]; rw [egy25, va_up_ne _ _ (by omega)]⟩

set_option maxRecDepth 100000 in
set_option maxHeartbeats 4000000 in
theorem c_X10_matters_b (l : Launch) (D : va_G) (A : Nat → Prop) (cs : Nat → ClassId) (tt : Nat) (N : Nat) (ad : Nat → Nat) (g : Nat → va_E) (i : Nat) (hN : i + 30 ≤ N) (x : Int) (hx : 0 ≤ x ∧ x ≤ 512) (F r : Nat → Int) {st op ai fa mu tb tp : Nat → Int} (hM : okMr cs ad g i x F r st op ai fa mu tb tp) (hPl : F 25 = 0 ∧ F 26 = -1 ∧ F 27 = -1 ∧ F 29 = 0) (z : Int) (hz : -2147483648 ≤ z ∧ z ≤ 2147483647) (hzo : z < 0 ∨ 3 < z) (z1 : Int) (hz1 : -2147483648 ≤ z1 ∧ z1 ≤ 2147483647) (z2 : Int) (hz2 : -2147483648 ≤ z2 ∧ z2 ≤ 2147483647) : zM l yX10_matters cX10_matters 9 (some .int) ({ frames := 11, cells := 0, slots := 0, locals := 660 } : Room) D A cs tt N ad g [.ref (ad i), .int (zI (z)), .int (zI (z1)), .int (zI (z2))] (rI0 N ad fun q g' => (-2147483648 ≤ q ∧ q ≤ 2147483647) ∧ (∃ F' r' : Nat → Int, okMr cs ad g' i (x + 1) F' r' st op ai fa mu tb tp ∧ (F' 13 = F 13 ∧ F' 14 = F 14 ∧ F' 15 = F 15 ∧ F' 16 = F 16 ∧ F' 17 = F 17 ∧ F' 18 = F 18 ∧ F' 19 = F 19 ∧ F' 20 = F 20 ∧ F' 21 = F 21 ∧ F' 23 = F 23 ∧ F' 24 = F 24) ∧ (F' 25 = 0 ∧ F' 26 = -1 ∧ F' 27 = -1 ∧ F' 29 = 0) ∧ (∀ j, j < 350 ∨ 700 ≤ j → r' j = r j)) ∧ ∀ j, j < i ∨ i + 30 ≤ j ∨ (i + 8 ≤ j ∧ j ≤ i + 12) → g' j = g j) := by
  obtain ⟨hg, ⟨⟨e13, e14, e25, e27, e29⟩, k15, k16, k17, k18, k19, k20, k23, k21⟩, hRD, hTx, hA, ns, nh, nd, rf, pi, te, ki, li, ok1, ok2, fo, dd, dps, ⟨ha1, ha2, ha3, ha4, ha5, ha6, ha7, ha8, ha9, ha10, ha11, ha12, ha13, ha14, ha15, ha24, ha25, ha26, ha27, ha28, ha29⟩, hEv, hPt, hns, htp⟩ := id hM
  obtain ⟨-, hop, hai, hfa, hT, hT1⟩ := id hEv
  have hay1 : zAt ad (i) (ad i) := rfl
  have hay2 : zAt ad (i + 1) (ad (i + 1)) := rfl
  have hay3 : zAt ad (i + 2) (ad (i + 2)) := rfl
  have hay4 : zAt ad (i + 3) (ad (i + 3)) := rfl
  have hay5 : zAt ad (i + 4) (ad (i + 4)) := rfl
  have hay6 : zAt ad (i + 5) (ad (i + 5)) := rfl
  have hay7 : zAt ad (i + 6) (ad (i + 6)) := rfl
  have hay8 : zAt ad (i + 7) (ad (i + 7)) := rfl
  have hay9 : zAt ad (i + 8) (ad (i + 8)) := rfl
  have hay10 : zAt ad (i + 9) (ad (i + 9)) := rfl
  have hay11 : zAt ad (i + 10) (ad (i + 10)) := rfl
  have hay12 : zAt ad (i + 11) (ad (i + 11)) := rfl
  have hay13 : zAt ad (i + 12) (ad (i + 12)) := rfl
  have hay14 : zAt ad (i + 13) (ad (i + 13)) := rfl
  have hay15 : zAt ad (i + 14) (ad (i + 14)) := rfl
  have hay16 : zAt ad (i + 15) (ad (i + 15)) := rfl
  have hay17 : zAt ad (i + 24) (ad (i + 24)) := rfl
  have hay18 : zAt ad (i + 25) (ad (i + 25)) := rfl
  have hay19 : zAt ad (i + 26) (ad (i + 26)) := rfl
  have hay20 : zAt ad (i + 27) (ad (i + 27)) := rfl
  have hay21 : zAt ad (i + 28) (ad (i + 28)) := rfl
  have hay22 : zAt ad (i + 29) (ad (i + 29)) := rfl
  obtain ⟨⟨hsyy23, htyy23, hnyy23, hpyy23⟩, hlyy23⟩ := okA.at0 hA
  simp only [Nat.zero_add] at hsyy23 hnyy23 hpyy23
  have hmn : ∀ s, s < 4 → 0 ≤ r (6 + 86 * s) ∧ r (6 + 86 * s) ≤ 12 := fun s hs => (hsyy23 s hs).1
  have h5 : 0 ≤ r 5 ∧ r 5 ≤ 6 := hpyy23
  obtain ⟨hp25, hp26, hp27, hp29⟩ := id hPl
  refine z_of (by decide) (Nat.le_of_ble_eq_true rfl) ?_
  intro pZ eZ sZ mZ below meth cZ C hr hlk hnm
  refine z_lv (lv' := [(0, .ref (ad i)), (1, .int (zI (z))), (2, .int (zI (z1))), (3, .int (zI (z2)))]) [0, 1, 2, 3] rfl ?_
  refine z_aload_n C 0 dX10_matters_0 rfl ?_
  refine z_iconst (z := 0) C dX10_matters_1 rfl ?_
  refine z_put (fs' := mF ad (i) (uZ F 12 (0))) C (lt_A0 hN rfl) hay1 hg tyX10 tyX10_ok nmX10 rfl inA_X10 12 (by decide) q_1471 rfl rfl rfl rfl (Nat.le_of_ble_eq_true rfl) rfl dX10_matters_2 (fun gy24 egy25 => ?_)
  have hgy26 := up_s egy25
  refine z_aload_n C 0 dX10_matters_5 rfl ?_
  refine z_iload_n C 1 dX10_matters_6 rfl ?_
  have h13vy27 : (uZ F 12 (0)) 13 = F 13 := (fn rfl (by decide))
  have hey28 : (uZ F 12 (0)) 12 = 0 := (uZ_s _ _ _)
  refine z_cV (As := [.int (zI (z))]) (rest := []) (ci := 12) C (c_X10_isSlope l D A cs tt N ad _ i hN _ hgy26 (by omega) (by omega) (z) (by omega)) (lt_A0 hN rfl) hay1 hgy26 rfl rfl mv_yX10_isSlope q_1803 hd_yX10_isSlope (by decide) (Nat.le_of_ble_eq_true rfl) (by decide) dX10_matters_7 rfl (kI0 fun vy27 gvy27 hvy27 => ?_)
  rw [h13vy27] at hvy27
  obtain ⟨hrvy27, ⟨Fvy27, hcvy27, htvy27, hFvy27⟩, hfvy27⟩ := hvy27
  obtain rfl : vy27 = 0 := by omega
  refine z_if_eq (tgt := 42) C dX10_matters_10 (by decide) (by omega) (fun _ => ?_) (fun h => absurd h (by omega))
  refine z_iconst (z := 0) C dX10_matters_42 rfl ?_
  have hgy29 := up_n egy25 ha1 (ne_o (i := i) (c := 1) (d := 0) rfl)
  have hgy30 := (hfvy27 (i + 1) (ne_o (i := i) (c := 1) (d := 0) rfl)).trans hgy29
  have hFy31 : ∀ f, f ≠ 12 → Fvy27 f = F f := fun f n12 => ((hFvy27 f n12).trans ((uZ_n _ _ n12).trans rfl))
  have hey32 : Fvy27 13 = F 13 := ((hFvy27 13 (by decide)).trans (fn rfl (by decide)))
  have hey33 : Fvy27 14 = F 14 := ((hFvy27 14 (by decide)).trans (fn rfl (by decide)))
  have hey34 : Fvy27 15 = F 15 := ((hFvy27 15 (by decide)).trans (fn rfl (by decide)))
  have hey35 : Fvy27 16 = F 16 := ((hFvy27 16 (by decide)).trans (fn rfl (by decide)))
  have hey36 : Fvy27 17 = F 17 := ((hFvy27 17 (by decide)).trans (fn rfl (by decide)))
  have hey37 : Fvy27 18 = F 18 := ((hFvy27 18 (by decide)).trans (fn rfl (by decide)))
  have hey38 : Fvy27 19 = F 19 := ((hFvy27 19 (by decide)).trans (fn rfl (by decide)))
  have hey39 : Fvy27 20 = F 20 := ((hFvy27 20 (by decide)).trans (fn rfl (by decide)))
  have hey40 : Fvy27 21 = F 21 := ((hFvy27 21 (by decide)).trans (fn rfl (by decide)))
  have hey41 : Fvy27 23 = F 23 := ((hFvy27 23 (by decide)).trans (fn rfl (by decide)))
  have hey42 : Fvy27 25 = F 25 := ((hFvy27 25 (by decide)).trans (fn rfl (by decide)))
  have hey43 : Fvy27 27 = F 27 := ((hFvy27 27 (by decide)).trans (fn rfl (by decide)))
  have hey44 : Fvy27 28 = F 28 := ((hFvy27 28 (by decide)).trans (fn rfl (by decide)))
  have hey45 : Fvy27 29 = F 29 := ((hFvy27 29 (by decide)).trans (fn rfl (by decide)))
  have hKy46 : okF Fvy27 := okF.mv hM.2.1 hey32 hey33 hey34 hey35 hey36 hey37 hey38 hey39 hey40 hey41 hey42 hey43 hey44 hey45
  have hMy47 : okMr cs ad gvy27 i (x + 1) Fvy27 r st op ai fa mu tb tp := okMr.upd hM hcvy27 hKy46 (fun f a => hFy31 f (by omega)) hgy30 (hA.mono (by omega)) (fun j a b => by
      exact Or.inl (by rw [hfvy27 _ (by omega)]; rw [egy25, va_up_ne _ _ (by omega)]))
  have hkpy48 : Fvy27 13 = F 13 := ((hFvy27 13 (by decide)).trans (fn rfl (by decide)))
  have hkpy49 : Fvy27 14 = F 14 := ((hFvy27 14 (by decide)).trans (fn rfl (by decide)))
  have hkpy50 : Fvy27 15 = F 15 := ((hFvy27 15 (by decide)).trans (fn rfl (by decide)))
  have hkpy51 : Fvy27 16 = F 16 := ((hFvy27 16 (by decide)).trans (fn rfl (by decide)))
  have hkpy52 : Fvy27 17 = F 17 := ((hFvy27 17 (by decide)).trans (fn rfl (by decide)))
  have hkpy53 : Fvy27 18 = F 18 := ((hFvy27 18 (by decide)).trans (fn rfl (by decide)))
  have hkpy54 : Fvy27 19 = F 19 := ((hFvy27 19 (by decide)).trans (fn rfl (by decide)))
  have hkpy55 : Fvy27 20 = F 20 := ((hFvy27 20 (by decide)).trans (fn rfl (by decide)))
  have hkpy56 : Fvy27 21 = F 21 := ((hFvy27 21 (by decide)).trans (fn rfl (by decide)))
  have hkpy57 : Fvy27 23 = F 23 := ((hFvy27 23 (by decide)).trans (fn rfl (by decide)))
  have hkpy58 : Fvy27 24 = F 24 := ((hFvy27 24 (by decide)).trans (fn rfl (by decide)))
  have hkpy59 : Fvy27 25 = F 25 := ((hFvy27 25 (by decide)).trans (fn rfl (by decide)))
  have hkpy60 : Fvy27 26 = F 26 := ((hFvy27 26 (by decide)).trans (fn rfl (by decide)))
  have hkpy61 : Fvy27 27 = F 27 := ((hFvy27 27 (by decide)).trans (fn rfl (by decide)))
  have hkpy62 : Fvy27 29 = F 29 := ((hFvy27 29 (by decide)).trans (fn rfl (by decide)))
  exact z_iret C hr hlk dX10_matters_43 (by decide) (by decide) ⟨0, rfl, rfl, rfl, by omega, ⟨_, _, hMy47, ⟨hkpy48, hkpy49, hkpy50, hkpy51, hkpy52, hkpy53, hkpy54, hkpy55, hkpy56, hkpy57, hkpy58⟩, ⟨(hkpy59.trans hp25), (hkpy60.trans hp26), (hkpy61.trans hp27), (hkpy62.trans hp29)⟩, (fun j _ => rfl)⟩, fun j j1 => by rw [hfvy27 _ (by omega)]; rw [egy25, va_up_ne _ _ (by omega)]⟩

set_option maxRecDepth 100000 in
set_option maxHeartbeats 4000000 in
theorem c_X10_matters (l : Launch) (D : va_G) (A : Nat → Prop) (cs : Nat → ClassId) (tt : Nat) (N : Nat) (ad : Nat → Nat) (g : Nat → va_E) (i : Nat) (hN : i + 30 ≤ N) (x : Int) (hx : 0 ≤ x ∧ x ≤ 512) (F r : Nat → Int) {st op ai fa mu tb tp : Nat → Int} (hM : okMr cs ad g i x F r st op ai fa mu tb tp) (hPl : F 25 = 0 ∧ F 26 = -1 ∧ F 27 = -1 ∧ F 29 = 0) (z : Int) (hz : -2147483648 ≤ z ∧ z ≤ 2147483647) (z1 : Int) (hz1 : -2147483648 ≤ z1 ∧ z1 ≤ 2147483647) (z2 : Int) (hz2 : -2147483648 ≤ z2 ∧ z2 ≤ 2147483647) : zM l yX10_matters cX10_matters 9 (some .int) ({ frames := 11, cells := 0, slots := 0, locals := 660 } : Room) D A cs tt N ad g [.ref (ad i), .int (zI (z)), .int (zI (z1)), .int (zI (z2))] (rI0 N ad fun q g' => (-2147483648 ≤ q ∧ q ≤ 2147483647) ∧ (∃ F' r' : Nat → Int, okMr cs ad g' i (x + 1) F' r' st op ai fa mu tb tp ∧ (F' 13 = F 13 ∧ F' 14 = F 14 ∧ F' 15 = F 15 ∧ F' 16 = F 16 ∧ F' 17 = F 17 ∧ F' 18 = F 18 ∧ F' 19 = F 19 ∧ F' 20 = F 20 ∧ F' 21 = F 21 ∧ F' 23 = F 23 ∧ F' 24 = F 24) ∧ (F' 25 = 0 ∧ F' 26 = -1 ∧ F' 27 = -1 ∧ F' 29 = 0) ∧ (∀ j, j < 350 ∨ 700 ≤ j → r' j = r j)) ∧ ∀ j, j < i ∨ i + 30 ≤ j ∨ (i + 8 ≤ j ∧ j ≤ i + 12) → g' j = g j) := by
  by_cases h9 : 0 ≤ z ∧ z ≤ 3
  · obtain ⟨n, rfl⟩ : ∃ n : Nat, z = (n : Int) := ⟨z.toNat, by omega⟩
    exact c_X10_matters_a l D A cs tt N ad g i hN x hx F r hM hPl n (by omega) z1 hz1 z2 hz2
  · exact c_X10_matters_b l D A cs tt N ad g i hN x hx F r hM hPl z hz (by omega) z1 hz1 z2 hz2

set_option maxRecDepth 100000 in
set_option maxHeartbeats 4000000 in
theorem c_X10_toWarm_a (l : Launch) (D : va_G) (A : Nat → Prop) (cs : Nat → ClassId) (tt : Nat) (N : Nat) (ad : Nat → Nat) (g : Nat → va_E) (i : Nat) (hN : i + 30 ≤ N) (x : Int) (hx : 0 ≤ x ∧ x ≤ 512) (F r : Nat → Int) {st op ai fa mu tb tp : Nat → Int} (hM : okMr cs ad g i x F r st op ai fa mu tb tp) (hPl : F 25 = 0 ∧ F 26 = -1 ∧ F 27 = -1 ∧ F 29 = 0) (n : Nat) (hn4 : n < 4) (z1 : Int) (hz1 : -2147483648 ≤ z1 ∧ z1 ≤ 2147483647) : zM l yX10_toWarm cX10_toWarm 6 (some .int) ({ frames := 11, cells := 0, slots := 0, locals := 660 } : Room) D A cs tt N ad g [.ref (ad i), .int (zI ((n : Int))), .int (zI (z1))] (rI0 N ad fun q g' => (-2147483648 ≤ q ∧ q ≤ 2147483647) ∧ (∃ F' r' : Nat → Int, okMr cs ad g' i (x + 1) F' r' st op ai fa mu tb tp ∧ (F' 13 = F 13 ∧ F' 14 = F 14 ∧ F' 15 = F 15 ∧ F' 16 = F 16 ∧ F' 17 = F 17 ∧ F' 18 = F 18 ∧ F' 19 = F 19 ∧ F' 20 = F 20 ∧ F' 21 = F 21 ∧ F' 23 = F 23 ∧ F' 24 = F 24) ∧ (F' 25 = 0 ∧ F' 26 = -1 ∧ F' 27 = -1 ∧ F' 29 = 0) ∧ (∀ j, j < 350 ∨ 700 ≤ j → r' j = r j)) ∧ ∀ j, j < i ∨ i + 30 ≤ j ∨ (i + 8 ≤ j ∧ j ≤ i + 12) → g' j = g j) := by
  obtain ⟨hg, ⟨⟨e13, e14, e25, e27, e29⟩, k15, k16, k17, k18, k19, k20, k23, k21⟩, hRD, hTx, hA, ns, nh, nd, rf, pi, te, ki, li, ok1, ok2, fo, dd, dps, ⟨ha1, ha2, ha3, ha4, ha5, ha6, ha7, ha8, ha9, ha10, ha11, ha12, ha13, ha14, ha15, ha24, ha25, ha26, ha27, ha28, ha29⟩, hEv, hPt, hns, htp⟩ := id hM
  obtain ⟨-, hop, hai, hfa, hT, hT1⟩ := id hEv
  have hay1 : zAt ad (i) (ad i) := rfl
  have hay2 : zAt ad (i + 1) (ad (i + 1)) := rfl
  have hay3 : zAt ad (i + 2) (ad (i + 2)) := rfl
  have hay4 : zAt ad (i + 3) (ad (i + 3)) := rfl
  have hay5 : zAt ad (i + 4) (ad (i + 4)) := rfl
  have hay6 : zAt ad (i + 5) (ad (i + 5)) := rfl
  have hay7 : zAt ad (i + 6) (ad (i + 6)) := rfl
  have hay8 : zAt ad (i + 7) (ad (i + 7)) := rfl
  have hay9 : zAt ad (i + 8) (ad (i + 8)) := rfl
  have hay10 : zAt ad (i + 9) (ad (i + 9)) := rfl
  have hay11 : zAt ad (i + 10) (ad (i + 10)) := rfl
  have hay12 : zAt ad (i + 11) (ad (i + 11)) := rfl
  have hay13 : zAt ad (i + 12) (ad (i + 12)) := rfl
  have hay14 : zAt ad (i + 13) (ad (i + 13)) := rfl
  have hay15 : zAt ad (i + 14) (ad (i + 14)) := rfl
  have hay16 : zAt ad (i + 15) (ad (i + 15)) := rfl
  have hay17 : zAt ad (i + 24) (ad (i + 24)) := rfl
  have hay18 : zAt ad (i + 25) (ad (i + 25)) := rfl
  have hay19 : zAt ad (i + 26) (ad (i + 26)) := rfl
  have hay20 : zAt ad (i + 27) (ad (i + 27)) := rfl
  have hay21 : zAt ad (i + 28) (ad (i + 28)) := rfl
  have hay22 : zAt ad (i + 29) (ad (i + 29)) := rfl
  obtain ⟨⟨hsyy23, htyy23, hnyy23, hpyy23⟩, hlyy23⟩ := okA.at0 hA
  simp only [Nat.zero_add] at hsyy23 hnyy23 hpyy23
  have hmn : ∀ s, s < 4 → 0 ≤ r (6 + 86 * s) ∧ r (6 + 86 * s) ≤ 12 := fun s hs => (hsyy23 s hs).1
  have h5 : 0 ≤ r 5 ∧ r 5 ≤ 6 := hpyy23
  obtain ⟨hp25, hp26, hp27, hp29⟩ := id hPl
  refine z_of (by decide) (Nat.le_of_ble_eq_true rfl) ?_
  intro pZ eZ sZ mZ below meth cZ C hr hlk hnm
  refine z_lv (lv' := [(0, .ref (ad i)), (1, .int (zI ((n : Int)))), (2, .int (zI (z1)))]) [0, 1, 2] rfl ?_
  refine z_aload_n C 0 dX10_toWarm_0 rfl ?_
  refine z_iconst (z := 0) C dX10_toWarm_1 rfl ?_
  refine z_put (fs' := mF ad (i) (uZ F 12 (0))) C (lt_A0 hN rfl) hay1 hg tyX10 tyX10_ok nmX10 rfl inA_X10 12 (by decide) q_1471 rfl rfl rfl rfl (Nat.le_of_ble_eq_true rfl) rfl dX10_toWarm_2 (fun gy24 egy25 => ?_)
  have hgy26 := up_s egy25
  refine z_aload_n C 0 dX10_toWarm_5 rfl ?_
  refine z_iload_n C 1 dX10_toWarm_6 rfl ?_
  have h13vy27 : (uZ F 12 (0)) 13 = F 13 := (fn rfl (by decide))
  have hey28 : (uZ F 12 (0)) 12 = 0 := (uZ_s _ _ _)
  refine z_cV (As := [.int (zI ((n : Int)))]) (rest := []) (ci := 12) C (c_X10_isSlope l D A cs tt N ad _ i hN _ hgy26 (by omega) (by omega) ((n : Int)) (by omega)) (lt_A0 hN rfl) hay1 hgy26 rfl rfl mv_yX10_isSlope q_1803 hd_yX10_isSlope (by decide) (Nat.le_of_ble_eq_true rfl) (by decide) dX10_toWarm_7 rfl (kI0 fun vy27 gvy27 hvy27 => ?_)
  rw [h13vy27] at hvy27
  obtain ⟨hrvy27, ⟨Fvy27, hcvy27, htvy27, hFvy27⟩, hfvy27⟩ := hvy27
  rcases (show vy27 = 1 ∨ vy27 = 0 by omega) with rfl | rfl
  · have hxvy27 := hrvy27.2 rfl
    refine z_if_eq (tgt := 28) C dX10_toWarm_10 (by decide) (by omega) (fun h => absurd h (by omega)) (fun _ => ?_)
    refine z_aload_n C 0 dX10_toWarm_13 rfl ?_
    refine z_iload_n C 2 dX10_toWarm_14 rfl ?_
    refine z_iconst (z := 1) C dX10_toWarm_15 rfl ?_
    refine z_bipush (z := 24) C dX10_toWarm_16 (by decide) ?_
    refine z_cS (As := [.int (zI (z1)), .int (zI (1)), .int (zI (24))]) (rest := [.ref (ad i)]) C (c_X10_within l D A cs tt N ad _ (z1) (by omega) (1) (by omega) (24) (by omega)) ms_yX10_within q_1686 hd_yX10_within (by decide) (Nat.le_of_ble_eq_true rfl) (by decide) dX10_toWarm_18 rfl (kI0 fun vy29 gvy29 hvy29 => ?_)
    obtain ⟨hvy29, rfl⟩ := hvy29
    rcases hvy29 with ⟨rfl, hxvy29⟩ | ⟨rfl, hxvy29⟩
    · refine z_iconst (z := 2) C dX10_toWarm_21 rfl ?_
      have hey31 : Fvy27 12 = Fvy27 12 := rfl
      refine z_cV (As := [.int (zI (1)), .int (zI (2))]) (rest := []) (ci := 12) C (c_X10_right l D A cs tt N ad _ i hN _ hcvy27 (by omega) (1) (by omega) (2) (by omega)) (lt_A0 hN rfl) hay1 hcvy27 rfl rfl mv_yX10_right q_1648 hd_yX10_right (by decide) (Nat.le_of_ble_eq_true rfl) (by decide) dX10_toWarm_22 rfl (kI0 fun vy30 gvy30 hvy30 => ?_)
      obtain ⟨hrvy30, ⟨Fvy30, hcvy30, htvy30, hFvy30⟩, hfvy30⟩ := hvy30
      rcases (show vy30 = 1 ∨ vy30 = 0 by omega) with rfl | rfl
      · refine z_if_ne (tgt := 30) C dX10_toWarm_25 (by decide) (by omega) (fun _ => ?_) (fun h => absurd h (by omega))
        refine z_iconst (z := -1) C dX10_toWarm_30 rfl ?_
        refine z_istore_n (lv' := [(3, .int (zI (-1))), (0, .ref (ad i)), (1, .int (zI ((n : Int)))), (2, .int (zI (z1)))]) C dX10_toWarm_31 rfl (by decide) rfl ?_
        refine z_iconst (z := 1) C dX10_toWarm_32 rfl ?_
        refine z_istore (lv' := [(4, .int (zI (1))), (3, .int (zI (-1))), (0, .ref (ad i)), (1, .int (zI ((n : Int)))), (2, .int (zI (z1)))]) C dX10_toWarm_33 (by decide) rfl ?_
        have lp1 : ∀ (n9 : Nat) (it : Int) (wv : Int) (F9 : Nat → Int) (r9 : Nat → Int) (g1 : Nat → va_E), (51 - wv).toNat = n9 → (okMr cs ad g1 i x F9 r9 st op ai fa mu tb tp) → ((∀ f, f ≠ 12 → f ≠ 25 → F9 f = F f)) → ((∀ j, j < 350 ∨ 700 ≤ j → r9 j = r j)) → (∀ j, j < i ∨ i + 30 ≤ j ∨ (i + 8 ≤ j ∧ j ≤ i + 12) → g1 j = g j) → (-2147483648 ≤ it ∧ it ≤ 2147483647) → (1 ≤ wv ∧ wv ≤ 51) → zV pZ l eZ ({ frames := 11, cells := 0, slots := 0, locals := 660 } : Room) sZ mZ ([.ref (ad i), .int (zI ((n : Int))), .int (zI (z1))] : List Value).toArray below meth cZ (MQ below (zPost D A (rI0 N ad fun q g' => (-2147483648 ≤ q ∧ q ≤ 2147483647) ∧ (∃ F' r' : Nat → Int, okMr cs ad g' i (x + 1) F' r' st op ai fa mu tb tp ∧ (F' 13 = F 13 ∧ F' 14 = F 14 ∧ F' 15 = F 15 ∧ F' 16 = F 16 ∧ F' 17 = F 17 ∧ F' 18 = F 18 ∧ F' 19 = F 19 ∧ F' 20 = F 20 ∧ F' 21 = F 21 ∧ F' 23 = F 23 ∧ F' 24 = F 24) ∧ (F' 25 = 0 ∧ F' 26 = -1 ∧ F' 27 = -1 ∧ F' 29 = 0) ∧ (∀ j, j < 350 ∨ 700 ≤ j → r' j = r j)) ∧ ∀ j, j < i ∨ i + 30 ≤ j ∨ (i + 8 ≤ j ∧ j ≤ i + 12) → g' j = g j)) ([.ref (ad i), .int (zI ((n : Int))), .int (zI (z1))] : List Value).toArray sZ ({ frames := 11, cells := 0, slots := 0, locals := 660 } : Room).cells ({ frames := 11, cells := 0, slots := 0, locals := 660 } : Room).slots A) D A 6 (N) ad g1 (0) (0) 35 [(0, .ref (ad i)), (1, .int (zI ((n : Int)))), (2, .int (zI (z1))), (3, .int (zI (it))), (4, .int (zI (wv)))] [] := by
          intro n9
          induction n9 using Nat.strongRecOn with
          | ind n9 ih_lp1 =>
            intro it wv F9 r9 g1 hm9 fM fF fR f3 hvlp10 hvlp11
            obtain ⟨hg_y32, ⟨⟨e13_y32, e14_y32, e25_y32, e27_y32, e29_y32⟩, k15_y32, k16_y32, k17_y32, k18_y32, k19_y32, k20_y32, k23_y32, k21_y32⟩, hRD_y32, hTx_y32, hA_y32, ns_y32, nh_y32, nd_y32, rf_y32, pi_y32, te_y32, ki_y32, li_y32, ok1_y32, ok2_y32, fo_y32, dd_y32, dps_y32, ⟨ha1_y32, ha2_y32, ha3_y32, ha4_y32, ha5_y32, ha6_y32, ha7_y32, ha8_y32, ha9_y32, ha10_y32, ha11_y32, ha12_y32, ha13_y32, ha14_y32, ha15_y32, ha24_y32, ha25_y32, ha26_y32, ha27_y32, ha28_y32, ha29_y32⟩, hEv_y32, hPt_y32, hns_y32, htp_y32⟩ := id fM
            obtain ⟨-, hop_y32, hai_y32, hfa_y32, hT_y32, hT1_y32⟩ := id hEv_y32
            have e14 := e14_y32
            have e25 := e25_y32
            have e27 := e27_y32
            have e29 := e29_y32
            have hop := hop_y32
            have hai := hai_y32
            have hfa := hfa_y32
            have hT := hT_y32
            have hT1 := hT1_y32
            have hEv := hEv_y32
            have htp := htp_y32
            have hns := hns_y32
            have hPt := hPt_y32
            have hay33 : zAt ad (i) (ad i) := rfl
            have hay34 : zAt ad (i + 1) (ad (i + 1)) := rfl
            have hay35 : zAt ad (i + 2) (ad (i + 2)) := rfl
            have hay36 : zAt ad (i + 3) (ad (i + 3)) := rfl
            have hay37 : zAt ad (i + 4) (ad (i + 4)) := rfl
            have hay38 : zAt ad (i + 5) (ad (i + 5)) := rfl
            have hay39 : zAt ad (i + 6) (ad (i + 6)) := rfl
            have hay40 : zAt ad (i + 7) (ad (i + 7)) := rfl
            have hay41 : zAt ad (i + 8) (ad (i + 8)) := rfl
            have hay42 : zAt ad (i + 9) (ad (i + 9)) := rfl
            have hay43 : zAt ad (i + 10) (ad (i + 10)) := rfl
            have hay44 : zAt ad (i + 11) (ad (i + 11)) := rfl
            have hay45 : zAt ad (i + 12) (ad (i + 12)) := rfl
            have hay46 : zAt ad (i + 13) (ad (i + 13)) := rfl
            have hay47 : zAt ad (i + 14) (ad (i + 14)) := rfl
            have hay48 : zAt ad (i + 15) (ad (i + 15)) := rfl
            have hay49 : zAt ad (i + 24) (ad (i + 24)) := rfl
            have hay50 : zAt ad (i + 25) (ad (i + 25)) := rfl
            have hay51 : zAt ad (i + 26) (ad (i + 26)) := rfl
            have hay52 : zAt ad (i + 27) (ad (i + 27)) := rfl
            have hay53 : zAt ad (i + 28) (ad (i + 28)) := rfl
            have hay54 : zAt ad (i + 29) (ad (i + 29)) := rfl
            obtain ⟨⟨hsyy55, htyy55, hnyy55, hpyy55⟩, hlyy55⟩ := okA.at0 hA_y32
            simp only [Nat.zero_add] at hsyy55 hnyy55 hpyy55
            have hmn : ∀ s, s < 4 → 0 ≤ r9 (6 + 86 * s) ∧ r9 (6 + 86 * s) ≤ 12 := fun s hs => (hsyy55 s hs).1
            have h5 : 0 ≤ r9 5 ∧ r9 5 ≤ 6 := hpyy55
            have h13e : F9 13 = F 13 := fF 13 (by decide) (by decide)
            have h14e : F9 14 = F 14 := fF 14 (by decide) (by decide)
            have h17e : F9 17 = F 17 := fF 17 (by decide) (by decide)
            have h20e : F9 20 = F 20 := fF 20 (by decide) (by decide)
            have h21e : F9 21 = F 21 := fF 21 (by decide) (by decide)
            have h23e : F9 23 = F 23 := fF 23 (by decide) (by decide)
            have h24e : F9 24 = F 24 := fF 24 (by decide) (by decide)
            have h15e : F9 15 = F 15 := fF 15 (by decide) (by decide)
            have h16e : F9 16 = F 16 := fF 16 (by decide) (by decide)
            have h18e : F9 18 = F 18 := fF 18 (by decide) (by decide)
            have h19e : F9 19 = F 19 := fF 19 (by decide) (by decide)
            have h26e : F9 26 = F 26 := fF 26 (by decide) (by decide)
            have h27e : F9 27 = F 27 := fF 27 (by decide) (by decide)
            have h29e : F9 29 = F 29 := fF 29 (by decide) (by decide)
            refine z_iload C 4 dX10_toWarm_35 rfl ?_
            refine z_bipush (z := 50) C dX10_toWarm_37 (by decide) ?_
            refine z_icmp_gt (tgt := 104) C dX10_toWarm_39 (by decide) (by omega) (by omega) (fun hby56 => ?_) (fun hby56 => ?_)
            · refine z_aload_n C 0 dX10_toWarm_104 rfl ?_
              refine z_iconst (z := 0) C dX10_toWarm_105 rfl ?_
              refine z_put (fs' := mF ad (i) (uZ F9 25 (0))) C (lt_A0 hN rfl) hay33 hg_y32 tyX10 tyX10_ok nmX10 rfl inA_X10 25 (by decide) q_1484 rfl rfl rfl rfl (Nat.le_of_ble_eq_true rfl) rfl dX10_toWarm_106 (fun gy57 egy58 => ?_)
              have hgy59 := up_s egy58
              refine z_iload_n C 3 dX10_toWarm_109 rfl ?_
              have hgy60 := up_n egy58 ha1_y32 (ne_o (i := i) (c := 1) (d := 0) rfl)
              have hFy61 : ∀ f, f ≠ 25 → (uZ F9 25 (0)) f = F9 f := fun f n25 => ((uZ_n _ _ n25).trans rfl)
              have hey62 : (uZ F9 25 (0)) 13 = F9 13 := (fn rfl (by decide))
              have hey63 : (uZ F9 25 (0)) 14 = F9 14 := (fn rfl (by decide))
              have hey64 : (uZ F9 25 (0)) 15 = F9 15 := (fn rfl (by decide))
              have hey65 : (uZ F9 25 (0)) 16 = F9 16 := (fn rfl (by decide))
              have hey66 : (uZ F9 25 (0)) 17 = F9 17 := (fn rfl (by decide))
              have hey67 : (uZ F9 25 (0)) 18 = F9 18 := (fn rfl (by decide))
              have hey68 : (uZ F9 25 (0)) 19 = F9 19 := (fn rfl (by decide))
              have hey69 : (uZ F9 25 (0)) 20 = F9 20 := (fn rfl (by decide))
              have hey70 : (uZ F9 25 (0)) 21 = F9 21 := (fn rfl (by decide))
              have hey71 : (uZ F9 25 (0)) 23 = F9 23 := (fn rfl (by decide))
              have hey72 : (uZ F9 25 (0)) 25 = 0 := (uZ_s _ _ _)
              have hey73 : (uZ F9 25 (0)) 27 = F9 27 := (fn rfl (by decide))
              have hey74 : (uZ F9 25 (0)) 28 = F9 28 := (fn rfl (by decide))
              have hey75 : (uZ F9 25 (0)) 29 = F9 29 := (fn rfl (by decide))
              have hKy76 : okF (uZ F9 25 (0)) := by unfold okF; omega
              have hMy77 : okMr cs ad gy57 i (x + 1) (uZ F9 25 (0)) r9 st op ai fa mu tb tp := okMr.upd fM hgy59 hKy76 (fun f a => hFy61 f (by omega)) hgy60 (hA_y32.mono (by omega)) (fun j a b => by
                  exact Or.inl (by rw [egy58, va_up_ne _ _ (by omega)]))
              have hkpy78 : (uZ F9 25 (0)) 13 = F9 13 := (fn rfl (by decide))
              have hkpy79 : (uZ F9 25 (0)) 14 = F9 14 := (fn rfl (by decide))
              have hkpy80 : (uZ F9 25 (0)) 15 = F9 15 := (fn rfl (by decide))
              have hkpy81 : (uZ F9 25 (0)) 16 = F9 16 := (fn rfl (by decide))
              have hkpy82 : (uZ F9 25 (0)) 17 = F9 17 := (fn rfl (by decide))
              have hkpy83 : (uZ F9 25 (0)) 18 = F9 18 := (fn rfl (by decide))
              have hkpy84 : (uZ F9 25 (0)) 19 = F9 19 := (fn rfl (by decide))
              have hkpy85 : (uZ F9 25 (0)) 20 = F9 20 := (fn rfl (by decide))
              have hkpy86 : (uZ F9 25 (0)) 21 = F9 21 := (fn rfl (by decide))
              have hkpy87 : (uZ F9 25 (0)) 23 = F9 23 := (fn rfl (by decide))
              have hkpy88 : (uZ F9 25 (0)) 24 = F9 24 := (fn rfl (by decide))
              have hkpy89 : (uZ F9 25 (0)) 25 = 0 := (uZ_s _ _ _)
              have hkpy90 : (uZ F9 25 (0)) 26 = F9 26 := (fn rfl (by decide))
              have hkpy91 : (uZ F9 25 (0)) 27 = F9 27 := (fn rfl (by decide))
              have hkpy92 : (uZ F9 25 (0)) 29 = F9 29 := (fn rfl (by decide))
              exact z_iret C hr hlk dX10_toWarm_110 (by decide) (by decide) ⟨it, rfl, rfl, rfl, by omega, ⟨_, _, hMy77, ⟨(by omega), (by omega), (by omega), (by omega), (by omega), (by omega), (by omega), (by omega), (by omega), (by omega), (by omega)⟩, ⟨hkpy89, (by omega), (by omega), (by omega)⟩, fR⟩, fun j j1 => by rw [egy58, va_up_ne _ _ (by omega)]; exact f3 j j1⟩
            · refine z_iload_n C 3 dX10_toWarm_42 rfl ?_
              refine z_iconst (z := -1) C dX10_toWarm_43 rfl ?_
              refine z_icmp_ne (tgt := 104) C dX10_toWarm_44 (by decide) (by omega) (by omega) (fun hby93 => ?_) (fun hby93 => ?_)
              · refine z_aload_n C 0 dX10_toWarm_104 rfl ?_
                refine z_iconst (z := 0) C dX10_toWarm_105 rfl ?_
                refine z_put (fs' := mF ad (i) (uZ F9 25 (0))) C (lt_A0 hN rfl) hay33 hg_y32 tyX10 tyX10_ok nmX10 rfl inA_X10 25 (by decide) q_1484 rfl rfl rfl rfl (Nat.le_of_ble_eq_true rfl) rfl dX10_toWarm_106 (fun gy94 egy95 => ?_)
                have hgy96 := up_s egy95
                refine z_iload_n C 3 dX10_toWarm_109 rfl ?_
                have hgy97 := up_n egy95 ha1_y32 (ne_o (i := i) (c := 1) (d := 0) rfl)
                have hFy98 : ∀ f, f ≠ 25 → (uZ F9 25 (0)) f = F9 f := fun f n25 => ((uZ_n _ _ n25).trans rfl)
                have hey99 : (uZ F9 25 (0)) 13 = F9 13 := (fn rfl (by decide))
                have hey100 : (uZ F9 25 (0)) 14 = F9 14 := (fn rfl (by decide))
                have hey101 : (uZ F9 25 (0)) 15 = F9 15 := (fn rfl (by decide))
                have hey102 : (uZ F9 25 (0)) 16 = F9 16 := (fn rfl (by decide))
                have hey103 : (uZ F9 25 (0)) 17 = F9 17 := (fn rfl (by decide))
                have hey104 : (uZ F9 25 (0)) 18 = F9 18 := (fn rfl (by decide))
                have hey105 : (uZ F9 25 (0)) 19 = F9 19 := (fn rfl (by decide))
                have hey106 : (uZ F9 25 (0)) 20 = F9 20 := (fn rfl (by decide))
                have hey107 : (uZ F9 25 (0)) 21 = F9 21 := (fn rfl (by decide))
                have hey108 : (uZ F9 25 (0)) 23 = F9 23 := (fn rfl (by decide))
                have hey109 : (uZ F9 25 (0)) 25 = 0 := (uZ_s _ _ _)
                have hey110 : (uZ F9 25 (0)) 27 = F9 27 := (fn rfl (by decide))
                have hey111 : (uZ F9 25 (0)) 28 = F9 28 := (fn rfl (by decide))
                have hey112 : (uZ F9 25 (0)) 29 = F9 29 := (fn rfl (by decide))
                have hKy113 : okF (uZ F9 25 (0)) := by unfold okF; omega
                have hMy114 : okMr cs ad gy94 i (x + 1) (uZ F9 25 (0)) r9 st op ai fa mu tb tp := okMr.upd fM hgy96 hKy113 (fun f a => hFy98 f (by omega)) hgy97 (hA_y32.mono (by omega)) (fun j a b => by
                    exact Or.inl (by rw [egy95, va_up_ne _ _ (by omega)]))
                have hkpy115 : (uZ F9 25 (0)) 13 = F9 13 := (fn rfl (by decide))
                have hkpy116 : (uZ F9 25 (0)) 14 = F9 14 := (fn rfl (by decide))
                have hkpy117 : (uZ F9 25 (0)) 15 = F9 15 := (fn rfl (by decide))
                have hkpy118 : (uZ F9 25 (0)) 16 = F9 16 := (fn rfl (by decide))
                have hkpy119 : (uZ F9 25 (0)) 17 = F9 17 := (fn rfl (by decide))
                have hkpy120 : (uZ F9 25 (0)) 18 = F9 18 := (fn rfl (by decide))
                have hkpy121 : (uZ F9 25 (0)) 19 = F9 19 := (fn rfl (by decide))
                have hkpy122 : (uZ F9 25 (0)) 20 = F9 20 := (fn rfl (by decide))
                have hkpy123 : (uZ F9 25 (0)) 21 = F9 21 := (fn rfl (by decide))
                have hkpy124 : (uZ F9 25 (0)) 23 = F9 23 := (fn rfl (by decide))
                have hkpy125 : (uZ F9 25 (0)) 24 = F9 24 := (fn rfl (by decide))
                have hkpy126 : (uZ F9 25 (0)) 25 = 0 := (uZ_s _ _ _)
                have hkpy127 : (uZ F9 25 (0)) 26 = F9 26 := (fn rfl (by decide))
                have hkpy128 : (uZ F9 25 (0)) 27 = F9 27 := (fn rfl (by decide))
                have hkpy129 : (uZ F9 25 (0)) 29 = F9 29 := (fn rfl (by decide))
                exact z_iret C hr hlk dX10_toWarm_110 (by decide) (by decide) ⟨it, rfl, rfl, rfl, by omega, ⟨_, _, hMy114, ⟨(by omega), (by omega), (by omega), (by omega), (by omega), (by omega), (by omega), (by omega), (by omega), (by omega), (by omega)⟩, ⟨hkpy126, (by omega), (by omega), (by omega)⟩, fR⟩, fun j j1 => by rw [egy95, va_up_ne _ _ (by omega)]; exact f3 j j1⟩
              · refine z_aload_n C 0 dX10_toWarm_47 rfl ?_
                refine z_cV (As := []) (rest := []) (ci := 12) C (c_X10_tries l D A cs tt N ad _ i hN _ hg_y32 _ ha1_y32 (x) hA_y32) (lt_A0 hN rfl) hay33 hg_y32 rfl rfl mv_yX10_tries q_1980 hd_yX10_tries (by decide) (Nat.le_of_ble_eq_true rfl) (by decide) dX10_toWarm_48 rfl (kV0 fun gvy130 hvy130 => ?_)
                obtain ⟨⟨rvy130, hdvy130, hAvy130, hWvy130, h0vy130, hyvy130⟩, hfvy130⟩ := hvy130
                obtain ⟨⟨hsyy131, htyy131, hnyy131, hpyy131⟩, hlyy131⟩ := okA.at0 hAvy130
                simp only [Nat.zero_add] at hsyy131 hnyy131 hpyy131
                have hmn : ∀ s, s < 4 → 0 ≤ rvy130 (6 + 86 * s) ∧ rvy130 (6 + 86 * s) ≤ 12 := fun s hs => (hsyy131 s hs).1
                have h5 : 0 ≤ rvy130 5 ∧ rvy130 5 ≤ 6 := hpyy131
                refine z_aload_n C 0 dX10_toWarm_51 rfl ?_
                refine z_iload C 4 dX10_toWarm_52 rfl ?_
                have hgy132 := (hfvy130 (i) (ne_o (i := i) (c := 0) (d := 1) rfl)).trans hg_y32
                refine z_put (fs' := mF ad (i) (uZ F9 25 (wv))) C (lt_A0 hN rfl) hay33 hgy132 tyX10 tyX10_ok nmX10 rfl inA_X10 25 (by decide) q_1484 rfl rfl rfl rfl (Nat.le_of_ble_eq_true rfl) rfl dX10_toWarm_54 (fun gy133 egy134 => ?_)
                have hgy135 := up_s egy134
                refine z_iconst (z := 0) C dX10_toWarm_57 rfl ?_
                refine z_istore (lv' := [(5, .int (zI (0))), (0, .ref (ad i)), (1, .int (zI ((n : Int)))), (2, .int (zI (z1))), (3, .int (zI (it))), (4, .int (zI (wv)))]) C dX10_toWarm_58 (by decide) rfl ?_
                have lp2 : ∀ (n9 : Nat) (it : Int) (kk : Int) (F9b : Nat → Int) (r9b : Nat → Int) (g1 : Nat → va_E), (25 - kk).toNat = n9 → (okMr cs ad g1 i x F9b r9b st op ai fa mu tb tp) → ((∀ f, f ≠ 12 → f ≠ 25 → F9b f = F f)) → (okW r9b 350 (x)) → ((∀ j, j < 350 ∨ 700 ≤ j → r9b j = r j)) → (∀ j, j < i ∨ i + 30 ≤ j ∨ (i + 8 ≤ j ∧ j ≤ i + 12) → g1 j = g j) → (-2147483648 ≤ it ∧ it ≤ 2147483647) → (0 ≤ kk ∧ kk ≤ z1) → (r9b 350 ≤ 2000 + kk) → zV pZ l eZ ({ frames := 11, cells := 0, slots := 0, locals := 660 } : Room) sZ mZ ([.ref (ad i), .int (zI ((n : Int))), .int (zI (z1))] : List Value).toArray below meth cZ (MQ below (zPost D A (rI0 N ad fun q g' => (-2147483648 ≤ q ∧ q ≤ 2147483647) ∧ (∃ F' r' : Nat → Int, okMr cs ad g' i (x + 1) F' r' st op ai fa mu tb tp ∧ (F' 13 = F 13 ∧ F' 14 = F 14 ∧ F' 15 = F 15 ∧ F' 16 = F 16 ∧ F' 17 = F 17 ∧ F' 18 = F 18 ∧ F' 19 = F 19 ∧ F' 20 = F 20 ∧ F' 21 = F 21 ∧ F' 23 = F 23 ∧ F' 24 = F 24) ∧ (F' 25 = 0 ∧ F' 26 = -1 ∧ F' 27 = -1 ∧ F' 29 = 0) ∧ (∀ j, j < 350 ∨ 700 ≤ j → r' j = r j)) ∧ ∀ j, j < i ∨ i + 30 ≤ j ∨ (i + 8 ≤ j ∧ j ≤ i + 12) → g' j = g j)) ([.ref (ad i), .int (zI ((n : Int))), .int (zI (z1))] : List Value).toArray sZ ({ frames := 11, cells := 0, slots := 0, locals := 660 } : Room).cells ({ frames := 11, cells := 0, slots := 0, locals := 660 } : Room).slots A) D A 6 (N) ad g1 (0) (0) 60 [(0, .ref (ad i)), (1, .int (zI ((n : Int)))), (2, .int (zI (z1))), (3, .int (zI (it))), (4, .int (zI (wv))), (5, .int (zI (kk)))] [] := by
                  intro n9
                  induction n9 using Nat.strongRecOn with
                  | ind n9 ih_lp2 =>
                    intro it kk F9b r9b g1 hm9 fMb fFb fWb fRb f3 hvlp20 hvlp21 hvlp22
                    obtain ⟨hg_y136, ⟨⟨e13_y136, e14_y136, e25_y136, e27_y136, e29_y136⟩, k15_y136, k16_y136, k17_y136, k18_y136, k19_y136, k20_y136, k23_y136, k21_y136⟩, hRD_y136, hTx_y136, hA_y136, ns_y136, nh_y136, nd_y136, rf_y136, pi_y136, te_y136, ki_y136, li_y136, ok1_y136, ok2_y136, fo_y136, dd_y136, dps_y136, ⟨ha1_y136, ha2_y136, ha3_y136, ha4_y136, ha5_y136, ha6_y136, ha7_y136, ha8_y136, ha9_y136, ha10_y136, ha11_y136, ha12_y136, ha13_y136, ha14_y136, ha15_y136, ha24_y136, ha25_y136, ha26_y136, ha27_y136, ha28_y136, ha29_y136⟩, hEv_y136, hPt_y136, hns_y136, htp_y136⟩ := id fMb
                    obtain ⟨-, hop_y136, hai_y136, hfa_y136, hT_y136, hT1_y136⟩ := id hEv_y136
                    have e14 := e14_y136
                    have e25 := e25_y136
                    have e27 := e27_y136
                    have e29 := e29_y136
                    have hop := hop_y136
                    have hai := hai_y136
                    have hfa := hfa_y136
                    have hT := hT_y136
                    have hT1 := hT1_y136
                    have hEv := hEv_y136
                    have htp := htp_y136
                    have hns := hns_y136
                    have hPt := hPt_y136
                    have hay137 : zAt ad (i) (ad i) := rfl
                    have hay138 : zAt ad (i + 1) (ad (i + 1)) := rfl
                    have hay139 : zAt ad (i + 2) (ad (i + 2)) := rfl
                    have hay140 : zAt ad (i + 3) (ad (i + 3)) := rfl
                    have hay141 : zAt ad (i + 4) (ad (i + 4)) := rfl
                    have hay142 : zAt ad (i + 5) (ad (i + 5)) := rfl
                    have hay143 : zAt ad (i + 6) (ad (i + 6)) := rfl
                    have hay144 : zAt ad (i + 7) (ad (i + 7)) := rfl
                    have hay145 : zAt ad (i + 8) (ad (i + 8)) := rfl
                    have hay146 : zAt ad (i + 9) (ad (i + 9)) := rfl
                    have hay147 : zAt ad (i + 10) (ad (i + 10)) := rfl
                    have hay148 : zAt ad (i + 11) (ad (i + 11)) := rfl
                    have hay149 : zAt ad (i + 12) (ad (i + 12)) := rfl
                    have hay150 : zAt ad (i + 13) (ad (i + 13)) := rfl
                    have hay151 : zAt ad (i + 14) (ad (i + 14)) := rfl
                    have hay152 : zAt ad (i + 15) (ad (i + 15)) := rfl
                    have hay153 : zAt ad (i + 24) (ad (i + 24)) := rfl
                    have hay154 : zAt ad (i + 25) (ad (i + 25)) := rfl
                    have hay155 : zAt ad (i + 26) (ad (i + 26)) := rfl
                    have hay156 : zAt ad (i + 27) (ad (i + 27)) := rfl
                    have hay157 : zAt ad (i + 28) (ad (i + 28)) := rfl
                    have hay158 : zAt ad (i + 29) (ad (i + 29)) := rfl
                    obtain ⟨⟨hsyy159, htyy159, hnyy159, hpyy159⟩, hlyy159⟩ := okA.at0 hA_y136
                    simp only [Nat.zero_add] at hsyy159 hnyy159 hpyy159
                    have hmn : ∀ s, s < 4 → 0 ≤ r9b (6 + 86 * s) ∧ r9b (6 + 86 * s) ≤ 12 := fun s hs => (hsyy159 s hs).1
                    have h5 : 0 ≤ r9b 5 ∧ r9b 5 ≤ 6 := hpyy159
                    have h13be : F9b 13 = F 13 := fFb 13 (by decide) (by decide)
                    have h14be : F9b 14 = F 14 := fFb 14 (by decide) (by decide)
                    have h17be : F9b 17 = F 17 := fFb 17 (by decide) (by decide)
                    have h20be : F9b 20 = F 20 := fFb 20 (by decide) (by decide)
                    have h21be : F9b 21 = F 21 := fFb 21 (by decide) (by decide)
                    have h23be : F9b 23 = F 23 := fFb 23 (by decide) (by decide)
                    have h24be : F9b 24 = F 24 := fFb 24 (by decide) (by decide)
                    have h15be : F9b 15 = F 15 := fFb 15 (by decide) (by decide)
                    have h16be : F9b 16 = F 16 := fFb 16 (by decide) (by decide)
                    have h18be : F9b 18 = F 18 := fFb 18 (by decide) (by decide)
                    have h19be : F9b 19 = F 19 := fFb 19 (by decide) (by decide)
                    have h26be : F9b 26 = F 26 := fFb 26 (by decide) (by decide)
                    have h27be : F9b 27 = F 27 := fFb 27 (by decide) (by decide)
                    have h29be : F9b 29 = F 29 := fFb 29 (by decide) (by decide)
                    have hW2b := fWb.2.1
                    refine z_iload C 5 dX10_toWarm_60 rfl ?_
                    refine z_iload_n C 2 dX10_toWarm_62 rfl ?_
                    refine z_icmp_ge (tgt := 98) C dX10_toWarm_63 (by decide) (by omega) (by omega) (fun hby160 => ?_) (fun hby160 => ?_)
                    · refine z_iinc (z := wv + 1) (lv' := [(4, .int (zI (wv + 1))), (0, .ref (ad i)), (1, .int (zI ((n : Int)))), (2, .int (zI (z1))), (3, .int (zI (it))), (5, .int (zI (kk)))]) (j := 4) C dX10_toWarm_98 rfl rfl (by decide) rfl ?_
                      refine z_goto (tgt := 35) C dX10_toWarm_101 (by decide) ?_
                      have hMy161 : okMr cs ad g1 i (x) F9b r9b st op ai fa mu tb tp := okMr.upd fMb hg_y136 fMb.2.1 (fun f _ => rfl) ha1_y136 (hA_y136.mono (by omega)) (fun j a b => by
                          exact Or.inl (by rfl))
                      have hFF : (∀ f, f ≠ 12 → f ≠ 25 → F9b f = F f) := fun f n12 n25 => fFb f n12 n25
                      have hey162 : F9b 13 = F9b 13 := rfl
                      have hey163 : F9b 14 = F9b 14 := rfl
                      refine z_lv (lv' := [(0, .ref (ad i)), (1, .int (zI ((n : Int)))), (2, .int (zI (z1))), (3, .int (zI (it))), (4, .int (zI (wv + 1)))]) [1, 2, 3, 4, 0] rfl ?_
                      exact ih_lp1 _ (by omega) (it) (wv + 1) _ _ g1 rfl hMy161 hFF (fRb) (fun j j1 => by exact f3 j j1) (by omega) (by omega)
                    · refine z_iload_n C 3 dX10_toWarm_66 rfl ?_
                      refine z_iconst (z := -1) C dX10_toWarm_67 rfl ?_
                      refine z_icmp_ne (tgt := 98) C dX10_toWarm_68 (by decide) (by omega) (by omega) (fun hby164 => ?_) (fun hby164 => ?_)
                      · refine z_iinc (z := wv + 1) (lv' := [(4, .int (zI (wv + 1))), (0, .ref (ad i)), (1, .int (zI ((n : Int)))), (2, .int (zI (z1))), (3, .int (zI (it))), (5, .int (zI (kk)))]) (j := 4) C dX10_toWarm_98 rfl rfl (by decide) rfl ?_
                        refine z_goto (tgt := 35) C dX10_toWarm_101 (by decide) ?_
                        have hMy165 : okMr cs ad g1 i (x) F9b r9b st op ai fa mu tb tp := okMr.upd fMb hg_y136 fMb.2.1 (fun f _ => rfl) ha1_y136 (hA_y136.mono (by omega)) (fun j a b => by
                            exact Or.inl (by rfl))
                        have hFF : (∀ f, f ≠ 12 → f ≠ 25 → F9b f = F f) := fun f n12 n25 => fFb f n12 n25
                        have hey166 : F9b 13 = F9b 13 := rfl
                        have hey167 : F9b 14 = F9b 14 := rfl
                        refine z_lv (lv' := [(0, .ref (ad i)), (1, .int (zI ((n : Int)))), (2, .int (zI (z1))), (3, .int (zI (it))), (4, .int (zI (wv + 1)))]) [1, 2, 3, 4, 0] rfl ?_
                        exact ih_lp1 _ (by omega) (it) (wv + 1) _ _ g1 rfl hMy165 hFF (fRb) (fun j j1 => by exact f3 j j1) (by omega) (by omega)
                      · refine z_aload_n C 0 dX10_toWarm_71 rfl ?_
                        refine z_sipush (z := 350) C dX10_toWarm_72 (by decide) ?_
                        have hey169 : F9b 13 = F9b 13 := rfl
                        have hey170 : F9b 14 = F9b 14 := rfl
                        have hey171 : F9b 25 = F9b 25 := rfl
                        have hey172 : F9b 27 = F9b 27 := rfl
                        have hey173 : F9b 28 = F9b 28 := rfl
                        have hey174 : F9b 29 = F9b 29 := rfl
                        have hEvy168 : okEnv F9b _ _ _ _ _ := ⟨by omega, hop, hai, hfa, hT, hT1⟩
                        refine z_cV (As := [.int (zI (350))]) (rest := []) (ci := 12) C (c_X10_hour l D A cs tt N ad _ i hN _ hg_y136 _ ha1_y136 _ ha3_y136 _ ha4_y136 _ ha5_y136 _ ha6_y136 _ ha7_y136 _ ha14_y136 _ ha15_y136 350 (by omega) hEvy168 (x) (by omega) fWb (by omega) (by omega)) (lt_A0 hN rfl) hay137 hg_y136 rfl rfl mv_yX10_hour q_1885 hd_yX10_hour (by decide) (Nat.le_of_ble_eq_true rfl) (by decide) dX10_toWarm_75 rfl (kV0 fun gvy175 hvy175 => ?_)
                        obtain ⟨⟨rvy175, hcvy175, hwvy175, htvy175, hyvy175⟩, ⟨t4vy175, h4vy175⟩, ⟨t5vy175, h5vy175⟩, hfvy175⟩ := hvy175
                        have hAy176 : okA rvy175 (x) := okA.tried hA_y136 (fun j a => hyvy175 j (by omega))
                        obtain ⟨⟨hsyy177, htyy177, hnyy177, hpyy177⟩, hlyy177⟩ := okA.at0 hAy176
                        simp only [Nat.zero_add] at hsyy177 hnyy177 hpyy177
                        have hmn : ∀ s, s < 4 → 0 ≤ rvy175 (6 + 86 * s) ∧ rvy175 (6 + 86 * s) ≤ 12 := fun s hs => (hsyy177 s hs).1
                        have h5 : 0 ≤ rvy175 5 ∧ rvy175 5 ≤ 6 := hpyy177
                        refine z_aload_n C 0 dX10_toWarm_78 rfl ?_
                        refine z_sipush (z := 350) C dX10_toWarm_79 (by decide) ?_
                        refine z_iload_n C 1 dX10_toWarm_82 rfl ?_
                        obtain ⟨py178, hpy178⟩ : ∃ p9 : Nat, 350 + 6 + 86 * n = p9 := ⟨_, rfl⟩
                        have hgy179 := (hfvy175 (i) (ne_o (i := i) (c := 0) (d := 1) rfl) (ne_o (i := i) (c := 0) (d := 14) rfl) (ne_o (i := i) (c := 0) (d := 15) rfl)).trans hg_y136
                        have hgy181 := (hfvy175 (i + 2) (ne_o (i := i) (c := 2) (d := 1) rfl) (ne_o (i := i) (c := 2) (d := 14) rfl) (ne_o (i := i) (c := 2) (d := 15) rfl)).trans ha2_y136
                        have hgy182 := (hfvy175 (i + 7) (ne_o (i := i) (c := 7) (d := 1) rfl) (ne_o (i := i) (c := 7) (d := 14) rfl) (ne_o (i := i) (c := 7) (d := 15) rfl)).trans ha7_y136
                        have hqy183 : qS rvy175 py178 := ((hwvy175.1 n (by omega)).of (p2 := py178) (by omega)).q (by have hb9 := mBb (t := rvy175 350 + x) (by omega); omega)
                        have hmky184 := hqy183.1
                        refine z_cV (As := [.int (zI (350)), .int (zI ((n : Int)))]) (rest := []) (ci := 12) C (c_X10_isUnstable l D A cs tt N ad _ i hN _ hgy179 _ hcvy175 _ hgy181 _ hgy182 350 n py178 hpy178 (by omega) (by omega) hqy183) (lt_A0 hN rfl) hay137 hgy179 rfl rfl mv_yX10_isUnstable q_1811 hd_yX10_isUnstable (by decide) (Nat.le_of_ble_eq_true rfl) (by decide) dX10_toWarm_83 rfl (kI0 fun vy180 gvy180 hvy180 => ?_)
                        obtain ⟨hvy180, rfl⟩ := hvy180
                        refine z_if_eq (tgt := 92) C dX10_toWarm_86 (by decide) (by omega) (fun hby185 => ?_) (fun hby185 => ?_)
                        · refine z_iinc (z := kk + 1) (lv' := [(5, .int (zI (kk + 1))), (0, .ref (ad i)), (1, .int (zI ((n : Int)))), (2, .int (zI (z1))), (3, .int (zI (it))), (4, .int (zI (wv)))]) (j := 5) C dX10_toWarm_92 rfl rfl (by decide) rfl ?_
                          refine z_goto (tgt := 60) C dX10_toWarm_95 (by decide) ?_
                          have hMy186 : okMr cs ad gvy175 i (x) F9b rvy175 st op ai fa mu tb tp := okMr.upd fMb hgy179 fMb.2.1 (fun f _ => rfl) hcvy175 (hAy176.mono (by omega)) (fun j a b => by
                              by_cases e0 : j = i + 14
                              · exact Or.inr ⟨14, _, e0, lsP.l (by decide), by rw [e0]; exact h4vy175⟩
                              by_cases e1 : j = i + 15
                              · exact Or.inr ⟨15, _, e1, lsP.l (by decide), by rw [e1]; exact h5vy175⟩
                              exact Or.inl (by rw [hfvy175 _ (by omega) (by omega) (by omega)]))
                          have hFFb : (∀ f, f ≠ 12 → f ≠ 25 → F9b f = F f) := fun f n12 n25 => fFb f n12 n25
                          have hey187 : F9b 13 = F9b 13 := rfl
                          have hey188 : F9b 14 = F9b 14 := rfl
                          refine z_lv (lv' := [(0, .ref (ad i)), (1, .int (zI ((n : Int)))), (2, .int (zI (z1))), (3, .int (zI (it))), (4, .int (zI (wv))), (5, .int (zI (kk + 1)))]) [1, 2, 3, 4, 5, 0] rfl ?_
                          exact ih_lp2 _ (by omega) (it) (kk + 1) _ _ gvy175 rfl hMy186 hFFb hwvy175 ((fun j a9 => (hyvy175 j (by omega)).trans (fRb j a9))) (fun j j1 => by rw [hfvy175 _ (by omega) (by omega) (by omega)]; exact f3 j j1) (by omega) (by omega) (by omega)
                        · refine z_iload C 4 dX10_toWarm_89 rfl ?_
                          refine z_istore_n (lv' := [(3, .int (zI (wv))), (0, .ref (ad i)), (1, .int (zI ((n : Int)))), (2, .int (zI (z1))), (4, .int (zI (wv))), (5, .int (zI (kk)))]) C dX10_toWarm_91 rfl (by decide) rfl ?_
                          refine z_iinc (z := kk + 1) (lv' := [(5, .int (zI (kk + 1))), (3, .int (zI (wv))), (0, .ref (ad i)), (1, .int (zI ((n : Int)))), (2, .int (zI (z1))), (4, .int (zI (wv)))]) (j := 5) C dX10_toWarm_92 rfl rfl (by decide) rfl ?_
                          refine z_goto (tgt := 60) C dX10_toWarm_95 (by decide) ?_
                          have hMy189 : okMr cs ad gvy175 i (x) F9b rvy175 st op ai fa mu tb tp := okMr.upd fMb hgy179 fMb.2.1 (fun f _ => rfl) hcvy175 (hAy176.mono (by omega)) (fun j a b => by
                              by_cases e0 : j = i + 14
                              · exact Or.inr ⟨14, _, e0, lsP.l (by decide), by rw [e0]; exact h4vy175⟩
                              by_cases e1 : j = i + 15
                              · exact Or.inr ⟨15, _, e1, lsP.l (by decide), by rw [e1]; exact h5vy175⟩
                              exact Or.inl (by rw [hfvy175 _ (by omega) (by omega) (by omega)]))
                          have hFFb : (∀ f, f ≠ 12 → f ≠ 25 → F9b f = F f) := fun f n12 n25 => fFb f n12 n25
                          have hey190 : F9b 13 = F9b 13 := rfl
                          have hey191 : F9b 14 = F9b 14 := rfl
                          refine z_lv (lv' := [(0, .ref (ad i)), (1, .int (zI ((n : Int)))), (2, .int (zI (z1))), (3, .int (zI (wv))), (4, .int (zI (wv))), (5, .int (zI (kk + 1)))]) [2, 3, 4, 1, 5, 0] rfl ?_
                          exact ih_lp2 _ (by omega) (wv) (kk + 1) _ _ gvy175 rfl hMy189 hFFb hwvy175 ((fun j a9 => (hyvy175 j (by omega)).trans (fRb j a9))) (fun j j1 => by rw [hfvy175 _ (by omega) (by omega) (by omega)]; exact f3 j j1) (by omega) (by omega) (by omega)
                have hgy192 := up_n egy134 hdvy130 (ne_o (i := i) (c := 1) (d := 0) rfl)
                have hFy193 : ∀ f, f ≠ 25 → (uZ F9 25 (wv)) f = F9 f := fun f n25 => ((uZ_n _ _ n25).trans rfl)
                have hey194 : (uZ F9 25 (wv)) 13 = F9 13 := (fn rfl (by decide))
                have hey195 : (uZ F9 25 (wv)) 14 = F9 14 := (fn rfl (by decide))
                have hey196 : (uZ F9 25 (wv)) 15 = F9 15 := (fn rfl (by decide))
                have hey197 : (uZ F9 25 (wv)) 16 = F9 16 := (fn rfl (by decide))
                have hey198 : (uZ F9 25 (wv)) 17 = F9 17 := (fn rfl (by decide))
                have hey199 : (uZ F9 25 (wv)) 18 = F9 18 := (fn rfl (by decide))
                have hey200 : (uZ F9 25 (wv)) 19 = F9 19 := (fn rfl (by decide))
                have hey201 : (uZ F9 25 (wv)) 20 = F9 20 := (fn rfl (by decide))
                have hey202 : (uZ F9 25 (wv)) 21 = F9 21 := (fn rfl (by decide))
                have hey203 : (uZ F9 25 (wv)) 23 = F9 23 := (fn rfl (by decide))
                have hey204 : (uZ F9 25 (wv)) 25 = wv := (uZ_s _ _ _)
                have hey205 : (uZ F9 25 (wv)) 27 = F9 27 := (fn rfl (by decide))
                have hey206 : (uZ F9 25 (wv)) 28 = F9 28 := (fn rfl (by decide))
                have hey207 : (uZ F9 25 (wv)) 29 = F9 29 := (fn rfl (by decide))
                have hKy208 : okF (uZ F9 25 (wv)) := by unfold okF; omega
                have hMy209 : okMr cs ad gy133 i (x) (uZ F9 25 (wv)) rvy130 st op ai fa mu tb tp := okMr.upd fM hgy135 hKy208 (fun f a => hFy193 f (by omega)) hgy192 (hAvy130.mono (by omega)) (fun j a b => by
                    exact Or.inl (by rw [egy134, va_up_ne _ _ (by omega)]; rw [hfvy130 _ (by omega)]))
                have hFy210 : ∀ f, f ≠ 25 → (uZ F9 25 (wv)) f = F9 f := fun f n25 => ((uZ_n _ _ n25).trans rfl)
                have hFFb : (∀ f, f ≠ 12 → f ≠ 25 → (uZ F9 25 (wv)) f = F f) := fun f n12 n25 => (hFy210 f n25).trans (fF f n12 n25)
                have hey211 : (uZ F9 25 (wv)) 13 = F9 13 := (fn rfl (by decide))
                have hey212 : (uZ F9 25 (wv)) 14 = F9 14 := (fn rfl (by decide))
                refine z_lv (lv' := [(0, .ref (ad i)), (1, .int (zI ((n : Int)))), (2, .int (zI (z1))), (3, .int (zI (it))), (4, .int (zI (wv))), (5, .int (zI (0)))]) [1, 2, 3, 4, 5, 0] rfl ?_
                exact lp2 _ (it) (0) _ _ gy133 rfl hMy209 hFFb hWvy130 ((fun j a9 => (hyvy130 j a9).trans (fR j a9))) (fun j j1 => by rw [egy134, va_up_ne _ _ (by omega)]; rw [hfvy130 _ (by omega)]; exact f3 j j1) (by omega) (by omega) (by omega)
        have hgy213 := up_n egy25 ha1 (ne_o (i := i) (c := 1) (d := 0) rfl)
        have hgy214 := (hfvy27 (i + 1) (ne_o (i := i) (c := 1) (d := 0) rfl)).trans hgy213
        have hgy215 := (hfvy30 (i + 1) (ne_o (i := i) (c := 1) (d := 0) rfl)).trans hgy214
        have hFy216 : ∀ f, f ≠ 12 → Fvy30 f = F f := fun f n12 => ((hFvy30 f n12).trans ((hFvy27 f n12).trans ((uZ_n _ _ n12).trans rfl)))
        have hey217 : Fvy30 13 = F 13 := ((hFvy30 13 (by decide)).trans ((hFvy27 13 (by decide)).trans (fn rfl (by decide))))
        have hey218 : Fvy30 14 = F 14 := ((hFvy30 14 (by decide)).trans ((hFvy27 14 (by decide)).trans (fn rfl (by decide))))
        have hey219 : Fvy30 15 = F 15 := ((hFvy30 15 (by decide)).trans ((hFvy27 15 (by decide)).trans (fn rfl (by decide))))
        have hey220 : Fvy30 16 = F 16 := ((hFvy30 16 (by decide)).trans ((hFvy27 16 (by decide)).trans (fn rfl (by decide))))
        have hey221 : Fvy30 17 = F 17 := ((hFvy30 17 (by decide)).trans ((hFvy27 17 (by decide)).trans (fn rfl (by decide))))
        have hey222 : Fvy30 18 = F 18 := ((hFvy30 18 (by decide)).trans ((hFvy27 18 (by decide)).trans (fn rfl (by decide))))
        have hey223 : Fvy30 19 = F 19 := ((hFvy30 19 (by decide)).trans ((hFvy27 19 (by decide)).trans (fn rfl (by decide))))
        have hey224 : Fvy30 20 = F 20 := ((hFvy30 20 (by decide)).trans ((hFvy27 20 (by decide)).trans (fn rfl (by decide))))
        have hey225 : Fvy30 21 = F 21 := ((hFvy30 21 (by decide)).trans ((hFvy27 21 (by decide)).trans (fn rfl (by decide))))
        have hey226 : Fvy30 23 = F 23 := ((hFvy30 23 (by decide)).trans ((hFvy27 23 (by decide)).trans (fn rfl (by decide))))
        have hey227 : Fvy30 25 = F 25 := ((hFvy30 25 (by decide)).trans ((hFvy27 25 (by decide)).trans (fn rfl (by decide))))
        have hey228 : Fvy30 27 = F 27 := ((hFvy30 27 (by decide)).trans ((hFvy27 27 (by decide)).trans (fn rfl (by decide))))
        have hey229 : Fvy30 28 = F 28 := ((hFvy30 28 (by decide)).trans ((hFvy27 28 (by decide)).trans (fn rfl (by decide))))
        have hey230 : Fvy30 29 = F 29 := ((hFvy30 29 (by decide)).trans ((hFvy27 29 (by decide)).trans (fn rfl (by decide))))
        have hKy231 : okF Fvy30 := okF.mv hM.2.1 hey217 hey218 hey219 hey220 hey221 hey222 hey223 hey224 hey225 hey226 hey227 hey228 hey229 hey230
        have hMy232 : okMr cs ad gvy30 i (x) Fvy30 r st op ai fa mu tb tp := okMr.upd hM hcvy30 hKy231 (fun f a => hFy216 f (by omega)) hgy215 (hA.mono (by omega)) (fun j a b => by
            exact Or.inl (by rw [hfvy30 _ (by omega)]; rw [hfvy27 _ (by omega)]; rw [egy25, va_up_ne _ _ (by omega)]))
        have hFy233 : ∀ f, f ≠ 12 → Fvy30 f = F f := fun f n12 => ((hFvy30 f n12).trans ((hFvy27 f n12).trans ((uZ_n _ _ n12).trans rfl)))
        have hFF : (∀ f, f ≠ 12 → f ≠ 25 → Fvy30 f = F f) := fun f n12 n25 => (hFy233 f n12)
        have hey234 : Fvy30 13 = F 13 := ((hFvy30 13 (by decide)).trans ((hFvy27 13 (by decide)).trans (fn rfl (by decide))))
        have hey235 : Fvy30 14 = F 14 := ((hFvy30 14 (by decide)).trans ((hFvy27 14 (by decide)).trans (fn rfl (by decide))))
        refine z_lv (lv' := [(0, .ref (ad i)), (1, .int (zI ((n : Int)))), (2, .int (zI (z1))), (3, .int (zI (-1))), (4, .int (zI (1)))]) [2, 3, 4, 1, 0] rfl ?_
        exact lp1 _ (-1) (1) _ _ gvy30 rfl hMy232 hFF ((fun j _ => rfl)) (fun j j1 => by rw [hfvy30 _ (by omega)]; rw [hfvy27 _ (by omega)]; rw [egy25, va_up_ne _ _ (by omega)]) (by omega) (by omega)
      · refine z_if_ne (tgt := 30) C dX10_toWarm_25 (by decide) (by omega) (fun h => absurd h (by omega)) (fun _ => ?_)
        refine z_iconst (z := 0) C dX10_toWarm_28 rfl ?_
        have hgy236 := up_n egy25 ha1 (ne_o (i := i) (c := 1) (d := 0) rfl)
        have hgy237 := (hfvy27 (i + 1) (ne_o (i := i) (c := 1) (d := 0) rfl)).trans hgy236
        have hgy238 := (hfvy30 (i + 1) (ne_o (i := i) (c := 1) (d := 0) rfl)).trans hgy237
        have hFy239 : ∀ f, f ≠ 12 → Fvy30 f = F f := fun f n12 => ((hFvy30 f n12).trans ((hFvy27 f n12).trans ((uZ_n _ _ n12).trans rfl)))
        have hey240 : Fvy30 13 = F 13 := ((hFvy30 13 (by decide)).trans ((hFvy27 13 (by decide)).trans (fn rfl (by decide))))
        have hey241 : Fvy30 14 = F 14 := ((hFvy30 14 (by decide)).trans ((hFvy27 14 (by decide)).trans (fn rfl (by decide))))
        have hey242 : Fvy30 15 = F 15 := ((hFvy30 15 (by decide)).trans ((hFvy27 15 (by decide)).trans (fn rfl (by decide))))
        have hey243 : Fvy30 16 = F 16 := ((hFvy30 16 (by decide)).trans ((hFvy27 16 (by decide)).trans (fn rfl (by decide))))
        have hey244 : Fvy30 17 = F 17 := ((hFvy30 17 (by decide)).trans ((hFvy27 17 (by decide)).trans (fn rfl (by decide))))
        have hey245 : Fvy30 18 = F 18 := ((hFvy30 18 (by decide)).trans ((hFvy27 18 (by decide)).trans (fn rfl (by decide))))
        have hey246 : Fvy30 19 = F 19 := ((hFvy30 19 (by decide)).trans ((hFvy27 19 (by decide)).trans (fn rfl (by decide))))
        have hey247 : Fvy30 20 = F 20 := ((hFvy30 20 (by decide)).trans ((hFvy27 20 (by decide)).trans (fn rfl (by decide))))
        have hey248 : Fvy30 21 = F 21 := ((hFvy30 21 (by decide)).trans ((hFvy27 21 (by decide)).trans (fn rfl (by decide))))
        have hey249 : Fvy30 23 = F 23 := ((hFvy30 23 (by decide)).trans ((hFvy27 23 (by decide)).trans (fn rfl (by decide))))
        have hey250 : Fvy30 25 = F 25 := ((hFvy30 25 (by decide)).trans ((hFvy27 25 (by decide)).trans (fn rfl (by decide))))
        have hey251 : Fvy30 27 = F 27 := ((hFvy30 27 (by decide)).trans ((hFvy27 27 (by decide)).trans (fn rfl (by decide))))
        have hey252 : Fvy30 28 = F 28 := ((hFvy30 28 (by decide)).trans ((hFvy27 28 (by decide)).trans (fn rfl (by decide))))
        have hey253 : Fvy30 29 = F 29 := ((hFvy30 29 (by decide)).trans ((hFvy27 29 (by decide)).trans (fn rfl (by decide))))
        have hKy254 : okF Fvy30 := okF.mv hM.2.1 hey240 hey241 hey242 hey243 hey244 hey245 hey246 hey247 hey248 hey249 hey250 hey251 hey252 hey253
        have hMy255 : okMr cs ad gvy30 i (x + 1) Fvy30 r st op ai fa mu tb tp := okMr.upd hM hcvy30 hKy254 (fun f a => hFy239 f (by omega)) hgy238 (hA.mono (by omega)) (fun j a b => by
            exact Or.inl (by rw [hfvy30 _ (by omega)]; rw [hfvy27 _ (by omega)]; rw [egy25, va_up_ne _ _ (by omega)]))
        have hkpy256 : Fvy30 13 = F 13 := ((hFvy30 13 (by decide)).trans ((hFvy27 13 (by decide)).trans (fn rfl (by decide))))
        have hkpy257 : Fvy30 14 = F 14 := ((hFvy30 14 (by decide)).trans ((hFvy27 14 (by decide)).trans (fn rfl (by decide))))
        have hkpy258 : Fvy30 15 = F 15 := ((hFvy30 15 (by decide)).trans ((hFvy27 15 (by decide)).trans (fn rfl (by decide))))
        have hkpy259 : Fvy30 16 = F 16 := ((hFvy30 16 (by decide)).trans ((hFvy27 16 (by decide)).trans (fn rfl (by decide))))
        have hkpy260 : Fvy30 17 = F 17 := ((hFvy30 17 (by decide)).trans ((hFvy27 17 (by decide)).trans (fn rfl (by decide))))
        have hkpy261 : Fvy30 18 = F 18 := ((hFvy30 18 (by decide)).trans ((hFvy27 18 (by decide)).trans (fn rfl (by decide))))
        have hkpy262 : Fvy30 19 = F 19 := ((hFvy30 19 (by decide)).trans ((hFvy27 19 (by decide)).trans (fn rfl (by decide))))
        have hkpy263 : Fvy30 20 = F 20 := ((hFvy30 20 (by decide)).trans ((hFvy27 20 (by decide)).trans (fn rfl (by decide))))
        have hkpy264 : Fvy30 21 = F 21 := ((hFvy30 21 (by decide)).trans ((hFvy27 21 (by decide)).trans (fn rfl (by decide))))
        have hkpy265 : Fvy30 23 = F 23 := ((hFvy30 23 (by decide)).trans ((hFvy27 23 (by decide)).trans (fn rfl (by decide))))
        have hkpy266 : Fvy30 24 = F 24 := ((hFvy30 24 (by decide)).trans ((hFvy27 24 (by decide)).trans (fn rfl (by decide))))
        have hkpy267 : Fvy30 25 = F 25 := ((hFvy30 25 (by decide)).trans ((hFvy27 25 (by decide)).trans (fn rfl (by decide))))
        have hkpy268 : Fvy30 26 = F 26 := ((hFvy30 26 (by decide)).trans ((hFvy27 26 (by decide)).trans (fn rfl (by decide))))
        have hkpy269 : Fvy30 27 = F 27 := ((hFvy30 27 (by decide)).trans ((hFvy27 27 (by decide)).trans (fn rfl (by decide))))
        have hkpy270 : Fvy30 29 = F 29 := ((hFvy30 29 (by decide)).trans ((hFvy27 29 (by decide)).trans (fn rfl (by decide))))
        exact z_iret C hr hlk dX10_toWarm_29 (by decide) (by decide) ⟨0, rfl, rfl, rfl, by omega, ⟨_, _, hMy255, ⟨hkpy256, hkpy257, hkpy258, hkpy259, hkpy260, hkpy261, hkpy262, hkpy263, hkpy264, hkpy265, hkpy266⟩, ⟨(hkpy267.trans hp25), (hkpy268.trans hp26), (hkpy269.trans hp27), (hkpy270.trans hp29)⟩, (fun j _ => rfl)⟩, fun j j1 => by rw [hfvy30 _ (by omega)]; rw [hfvy27 _ (by omega)]; rw [egy25, va_up_ne _ _ (by omega)]⟩
    · refine z_iconst (z := 2) C dX10_toWarm_21 rfl ?_
      have hey272 : Fvy27 12 = Fvy27 12 := rfl
      refine z_cV (As := [.int (zI (0)), .int (zI (2))]) (rest := []) (ci := 12) C (c_X10_right l D A cs tt N ad _ i hN _ hcvy27 (by omega) (0) (by omega) (2) (by omega)) (lt_A0 hN rfl) hay1 hcvy27 rfl rfl mv_yX10_right q_1648 hd_yX10_right (by decide) (Nat.le_of_ble_eq_true rfl) (by decide) dX10_toWarm_22 rfl (kI0 fun vy271 gvy271 hvy271 => ?_)
      obtain ⟨hrvy271, ⟨Fvy271, hcvy271, htvy271, hFvy271⟩, hfvy271⟩ := hvy271
      obtain rfl : vy271 = 0 := by omega
      refine z_if_ne (tgt := 30) C dX10_toWarm_25 (by decide) (by omega) (fun h => absurd h (by omega)) (fun _ => ?_)
      refine z_iconst (z := 0) C dX10_toWarm_28 rfl ?_
      have hgy273 := up_n egy25 ha1 (ne_o (i := i) (c := 1) (d := 0) rfl)
      have hgy274 := (hfvy27 (i + 1) (ne_o (i := i) (c := 1) (d := 0) rfl)).trans hgy273
      have hgy275 := (hfvy271 (i + 1) (ne_o (i := i) (c := 1) (d := 0) rfl)).trans hgy274
      have hFy276 : ∀ f, f ≠ 12 → Fvy271 f = F f := fun f n12 => ((hFvy271 f n12).trans ((hFvy27 f n12).trans ((uZ_n _ _ n12).trans rfl)))
      have hey277 : Fvy271 13 = F 13 := ((hFvy271 13 (by decide)).trans ((hFvy27 13 (by decide)).trans (fn rfl (by decide))))
      have hey278 : Fvy271 14 = F 14 := ((hFvy271 14 (by decide)).trans ((hFvy27 14 (by decide)).trans (fn rfl (by decide))))
      have hey279 : Fvy271 15 = F 15 := ((hFvy271 15 (by decide)).trans ((hFvy27 15 (by decide)).trans (fn rfl (by decide))))
      have hey280 : Fvy271 16 = F 16 := ((hFvy271 16 (by decide)).trans ((hFvy27 16 (by decide)).trans (fn rfl (by decide))))
      have hey281 : Fvy271 17 = F 17 := ((hFvy271 17 (by decide)).trans ((hFvy27 17 (by decide)).trans (fn rfl (by decide))))
      have hey282 : Fvy271 18 = F 18 := ((hFvy271 18 (by decide)).trans ((hFvy27 18 (by decide)).trans (fn rfl (by decide))))
      have hey283 : Fvy271 19 = F 19 := ((hFvy271 19 (by decide)).trans ((hFvy27 19 (by decide)).trans (fn rfl (by decide))))
      have hey284 : Fvy271 20 = F 20 := ((hFvy271 20 (by decide)).trans ((hFvy27 20 (by decide)).trans (fn rfl (by decide))))
      have hey285 : Fvy271 21 = F 21 := ((hFvy271 21 (by decide)).trans ((hFvy27 21 (by decide)).trans (fn rfl (by decide))))
      have hey286 : Fvy271 23 = F 23 := ((hFvy271 23 (by decide)).trans ((hFvy27 23 (by decide)).trans (fn rfl (by decide))))
      have hey287 : Fvy271 25 = F 25 := ((hFvy271 25 (by decide)).trans ((hFvy27 25 (by decide)).trans (fn rfl (by decide))))
      have hey288 : Fvy271 27 = F 27 := ((hFvy271 27 (by decide)).trans ((hFvy27 27 (by decide)).trans (fn rfl (by decide))))
      have hey289 : Fvy271 28 = F 28 := ((hFvy271 28 (by decide)).trans ((hFvy27 28 (by decide)).trans (fn rfl (by decide))))
      have hey290 : Fvy271 29 = F 29 := ((hFvy271 29 (by decide)).trans ((hFvy27 29 (by decide)).trans (fn rfl (by decide))))
      have hKy291 : okF Fvy271 := okF.mv hM.2.1 hey277 hey278 hey279 hey280 hey281 hey282 hey283 hey284 hey285 hey286 hey287 hey288 hey289 hey290
      have hMy292 : okMr cs ad gvy271 i (x + 1) Fvy271 r st op ai fa mu tb tp := okMr.upd hM hcvy271 hKy291 (fun f a => hFy276 f (by omega)) hgy275 (hA.mono (by omega)) (fun j a b => by
          exact Or.inl (by rw [hfvy271 _ (by omega)]; rw [hfvy27 _ (by omega)]; rw [egy25, va_up_ne _ _ (by omega)]))
      have hkpy293 : Fvy271 13 = F 13 := ((hFvy271 13 (by decide)).trans ((hFvy27 13 (by decide)).trans (fn rfl (by decide))))
      have hkpy294 : Fvy271 14 = F 14 := ((hFvy271 14 (by decide)).trans ((hFvy27 14 (by decide)).trans (fn rfl (by decide))))
      have hkpy295 : Fvy271 15 = F 15 := ((hFvy271 15 (by decide)).trans ((hFvy27 15 (by decide)).trans (fn rfl (by decide))))
      have hkpy296 : Fvy271 16 = F 16 := ((hFvy271 16 (by decide)).trans ((hFvy27 16 (by decide)).trans (fn rfl (by decide))))
      have hkpy297 : Fvy271 17 = F 17 := ((hFvy271 17 (by decide)).trans ((hFvy27 17 (by decide)).trans (fn rfl (by decide))))
      have hkpy298 : Fvy271 18 = F 18 := ((hFvy271 18 (by decide)).trans ((hFvy27 18 (by decide)).trans (fn rfl (by decide))))
      have hkpy299 : Fvy271 19 = F 19 := ((hFvy271 19 (by decide)).trans ((hFvy27 19 (by decide)).trans (fn rfl (by decide))))
      have hkpy300 : Fvy271 20 = F 20 := ((hFvy271 20 (by decide)).trans ((hFvy27 20 (by decide)).trans (fn rfl (by decide))))
      have hkpy301 : Fvy271 21 = F 21 := ((hFvy271 21 (by decide)).trans ((hFvy27 21 (by decide)).trans (fn rfl (by decide))))
      have hkpy302 : Fvy271 23 = F 23 := ((hFvy271 23 (by decide)).trans ((hFvy27 23 (by decide)).trans (fn rfl (by decide))))
      have hkpy303 : Fvy271 24 = F 24 := ((hFvy271 24 (by decide)).trans ((hFvy27 24 (by decide)).trans (fn rfl (by decide))))
      have hkpy304 : Fvy271 25 = F 25 := ((hFvy271 25 (by decide)).trans ((hFvy27 25 (by decide)).trans (fn rfl (by decide))))
      have hkpy305 : Fvy271 26 = F 26 := ((hFvy271 26 (by decide)).trans ((hFvy27 26 (by decide)).trans (fn rfl (by decide))))
      have hkpy306 : Fvy271 27 = F 27 := ((hFvy271 27 (by decide)).trans ((hFvy27 27 (by decide)).trans (fn rfl (by decide))))
      have hkpy307 : Fvy271 29 = F 29 := ((hFvy271 29 (by decide)).trans ((hFvy27 29 (by decide)).trans (fn rfl (by decide))))
      exact z_iret C hr hlk dX10_toWarm_29 (by decide) (by decide) ⟨0, rfl, rfl, rfl, by omega, ⟨_, _, hMy292, ⟨hkpy293, hkpy294, hkpy295, hkpy296, hkpy297, hkpy298, hkpy299, hkpy300, hkpy301, hkpy302, hkpy303⟩, ⟨(hkpy304.trans hp25), (hkpy305.trans hp26), (hkpy306.trans hp27), (hkpy307.trans hp29)⟩, (fun j _ => rfl)⟩, fun j j1 => by rw [hfvy271 _ (by omega)]; rw [hfvy27 _ (by omega)]; rw [egy25, va_up_ne _ _ (by omega)]⟩
  · refine z_if_eq (tgt := 28) C dX10_toWarm_10 (by decide) (by omega) (fun _ => ?_) (fun h => absurd h (by omega))
    refine z_iconst (z := 0) C dX10_toWarm_28 rfl ?_
    have hgy308 := up_n egy25 ha1 (ne_o (i := i) (c := 1) (d := 0) rfl)
    have hgy309 := (hfvy27 (i + 1) (ne_o (i := i) (c := 1) (d := 0) rfl)).trans hgy308
    have hFy310 : ∀ f, f ≠ 12 → Fvy27 f = F f := fun f n12 => ((hFvy27 f n12).trans ((uZ_n _ _ n12).trans rfl))
    have hey311 : Fvy27 13 = F 13 := ((hFvy27 13 (by decide)).trans (fn rfl (by decide)))
    have hey312 : Fvy27 14 = F 14 := ((hFvy27 14 (by decide)).trans (fn rfl (by decide)))
    have hey313 : Fvy27 15 = F 15 := ((hFvy27 15 (by decide)).trans (fn rfl (by decide)))
    have hey314 : Fvy27 16 = F 16 := ((hFvy27 16 (by decide)).trans (fn rfl (by decide)))
    have hey315 : Fvy27 17 = F 17 := ((hFvy27 17 (by decide)).trans (fn rfl (by decide)))
    have hey316 : Fvy27 18 = F 18 := ((hFvy27 18 (by decide)).trans (fn rfl (by decide)))
    have hey317 : Fvy27 19 = F 19 := ((hFvy27 19 (by decide)).trans (fn rfl (by decide)))
    have hey318 : Fvy27 20 = F 20 := ((hFvy27 20 (by decide)).trans (fn rfl (by decide)))
    have hey319 : Fvy27 21 = F 21 := ((hFvy27 21 (by decide)).trans (fn rfl (by decide)))
    have hey320 : Fvy27 23 = F 23 := ((hFvy27 23 (by decide)).trans (fn rfl (by decide)))
    have hey321 : Fvy27 25 = F 25 := ((hFvy27 25 (by decide)).trans (fn rfl (by decide)))
    have hey322 : Fvy27 27 = F 27 := ((hFvy27 27 (by decide)).trans (fn rfl (by decide)))
    have hey323 : Fvy27 28 = F 28 := ((hFvy27 28 (by decide)).trans (fn rfl (by decide)))
    have hey324 : Fvy27 29 = F 29 := ((hFvy27 29 (by decide)).trans (fn rfl (by decide)))
    have hKy325 : okF Fvy27 := okF.mv hM.2.1 hey311 hey312 hey313 hey314 hey315 hey316 hey317 hey318 hey319 hey320 hey321 hey322 hey323 hey324
    have hMy326 : okMr cs ad gvy27 i (x + 1) Fvy27 r st op ai fa mu tb tp := okMr.upd hM hcvy27 hKy325 (fun f a => hFy310 f (by omega)) hgy309 (hA.mono (by omega)) (fun j a b => by
        exact Or.inl (by rw [hfvy27 _ (by omega)]; rw [egy25, va_up_ne _ _ (by omega)]))
    have hkpy327 : Fvy27 13 = F 13 := ((hFvy27 13 (by decide)).trans (fn rfl (by decide)))
    have hkpy328 : Fvy27 14 = F 14 := ((hFvy27 14 (by decide)).trans (fn rfl (by decide)))
    have hkpy329 : Fvy27 15 = F 15 := ((hFvy27 15 (by decide)).trans (fn rfl (by decide)))
    have hkpy330 : Fvy27 16 = F 16 := ((hFvy27 16 (by decide)).trans (fn rfl (by decide)))
    have hkpy331 : Fvy27 17 = F 17 := ((hFvy27 17 (by decide)).trans (fn rfl (by decide)))
    have hkpy332 : Fvy27 18 = F 18 := ((hFvy27 18 (by decide)).trans (fn rfl (by decide)))
    have hkpy333 : Fvy27 19 = F 19 := ((hFvy27 19 (by decide)).trans (fn rfl (by decide)))
    have hkpy334 : Fvy27 20 = F 20 := ((hFvy27 20 (by decide)).trans (fn rfl (by decide)))
    have hkpy335 : Fvy27 21 = F 21 := ((hFvy27 21 (by decide)).trans (fn rfl (by decide)))
    have hkpy336 : Fvy27 23 = F 23 := ((hFvy27 23 (by decide)).trans (fn rfl (by decide)))
    have hkpy337 : Fvy27 24 = F 24 := ((hFvy27 24 (by decide)).trans (fn rfl (by decide)))
    have hkpy338 : Fvy27 25 = F 25 := ((hFvy27 25 (by decide)).trans (fn rfl (by decide)))
    have hkpy339 : Fvy27 26 = F 26 := ((hFvy27 26 (by decide)).trans (fn rfl (by decide)))
    have hkpy340 : Fvy27 27 = F 27 := ((hFvy27 27 (by decide)).trans (fn rfl (by decide)))
    have hkpy341 : Fvy27 29 = F 29 := ((hFvy27 29 (by decide)).trans (fn rfl (by decide)))
    exact z_iret C hr hlk dX10_toWarm_29 (by decide) (by decide) ⟨0, rfl, rfl, rfl, by omega, ⟨_, _, hMy326, ⟨hkpy327, hkpy328, hkpy329, hkpy330, hkpy331, hkpy332, hkpy333, hkpy334, hkpy335, hkpy336, hkpy337⟩, ⟨(hkpy338.trans hp25), (hkpy339.trans hp26), (hkpy340.trans hp27), (hkpy341.trans hp29)⟩, (fun j _ => rfl)⟩, fun j j1 => by rw [hfvy27 _ (by omega)]; rw [egy25, va_up_ne _ _ (by omega)]⟩

set_option maxRecDepth 100000 in
set_option maxHeartbeats 4000000 in
theorem c_X10_toWarm_b (l : Launch) (D : va_G) (A : Nat → Prop) (cs : Nat → ClassId) (tt : Nat) (N : Nat) (ad : Nat → Nat) (g : Nat → va_E) (i : Nat) (hN : i + 30 ≤ N) (x : Int) (hx : 0 ≤ x ∧ x ≤ 512) (F r : Nat → Int) {st op ai fa mu tb tp : Nat → Int} (hM : okMr cs ad g i x F r st op ai fa mu tb tp) (hPl : F 25 = 0 ∧ F 26 = -1 ∧ F 27 = -1 ∧ F 29 = 0) (z : Int) (hz : -2147483648 ≤ z ∧ z ≤ 2147483647) (hzo : z < 0 ∨ 3 < z) (z1 : Int) (hz1 : -2147483648 ≤ z1 ∧ z1 ≤ 2147483647) : zM l yX10_toWarm cX10_toWarm 6 (some .int) ({ frames := 11, cells := 0, slots := 0, locals := 660 } : Room) D A cs tt N ad g [.ref (ad i), .int (zI (z)), .int (zI (z1))] (rI0 N ad fun q g' => (-2147483648 ≤ q ∧ q ≤ 2147483647) ∧ (∃ F' r' : Nat → Int, okMr cs ad g' i (x + 1) F' r' st op ai fa mu tb tp ∧ (F' 13 = F 13 ∧ F' 14 = F 14 ∧ F' 15 = F 15 ∧ F' 16 = F 16 ∧ F' 17 = F 17 ∧ F' 18 = F 18 ∧ F' 19 = F 19 ∧ F' 20 = F 20 ∧ F' 21 = F 21 ∧ F' 23 = F 23 ∧ F' 24 = F 24) ∧ (F' 25 = 0 ∧ F' 26 = -1 ∧ F' 27 = -1 ∧ F' 29 = 0) ∧ (∀ j, j < 350 ∨ 700 ≤ j → r' j = r j)) ∧ ∀ j, j < i ∨ i + 30 ≤ j ∨ (i + 8 ≤ j ∧ j ≤ i + 12) → g' j = g j) := by
  obtain ⟨hg, ⟨⟨e13, e14, e25, e27, e29⟩, k15, k16, k17, k18, k19, k20, k23, k21⟩, hRD, hTx, hA, ns, nh, nd, rf, pi, te, ki, li, ok1, ok2, fo, dd, dps, ⟨ha1, ha2, ha3, ha4, ha5, ha6, ha7, ha8, ha9, ha10, ha11, ha12, ha13, ha14, ha15, ha24, ha25, ha26, ha27, ha28, ha29⟩, hEv, hPt, hns, htp⟩ := id hM
  obtain ⟨-, hop, hai, hfa, hT, hT1⟩ := id hEv
  have hay1 : zAt ad (i) (ad i) := rfl
  have hay2 : zAt ad (i + 1) (ad (i + 1)) := rfl
  have hay3 : zAt ad (i + 2) (ad (i + 2)) := rfl
  have hay4 : zAt ad (i + 3) (ad (i + 3)) := rfl
  have hay5 : zAt ad (i + 4) (ad (i + 4)) := rfl
  have hay6 : zAt ad (i + 5) (ad (i + 5)) := rfl
  have hay7 : zAt ad (i + 6) (ad (i + 6)) := rfl
  have hay8 : zAt ad (i + 7) (ad (i + 7)) := rfl
  have hay9 : zAt ad (i + 8) (ad (i + 8)) := rfl
  have hay10 : zAt ad (i + 9) (ad (i + 9)) := rfl
  have hay11 : zAt ad (i + 10) (ad (i + 10)) := rfl
  have hay12 : zAt ad (i + 11) (ad (i + 11)) := rfl
  have hay13 : zAt ad (i + 12) (ad (i + 12)) := rfl
  have hay14 : zAt ad (i + 13) (ad (i + 13)) := rfl
  have hay15 : zAt ad (i + 14) (ad (i + 14)) := rfl
  have hay16 : zAt ad (i + 15) (ad (i + 15)) := rfl
  have hay17 : zAt ad (i + 24) (ad (i + 24)) := rfl
  have hay18 : zAt ad (i + 25) (ad (i + 25)) := rfl
  have hay19 : zAt ad (i + 26) (ad (i + 26)) := rfl
  have hay20 : zAt ad (i + 27) (ad (i + 27)) := rfl
  have hay21 : zAt ad (i + 28) (ad (i + 28)) := rfl
  have hay22 : zAt ad (i + 29) (ad (i + 29)) := rfl
  obtain ⟨⟨hsyy23, htyy23, hnyy23, hpyy23⟩, hlyy23⟩ := okA.at0 hA
  simp only [Nat.zero_add] at hsyy23 hnyy23 hpyy23
  have hmn : ∀ s, s < 4 → 0 ≤ r (6 + 86 * s) ∧ r (6 + 86 * s) ≤ 12 := fun s hs => (hsyy23 s hs).1
  have h5 : 0 ≤ r 5 ∧ r 5 ≤ 6 := hpyy23
  obtain ⟨hp25, hp26, hp27, hp29⟩ := id hPl
  refine z_of (by decide) (Nat.le_of_ble_eq_true rfl) ?_
  intro pZ eZ sZ mZ below meth cZ C hr hlk hnm
  refine z_lv (lv' := [(0, .ref (ad i)), (1, .int (zI (z))), (2, .int (zI (z1)))]) [0, 1, 2] rfl ?_
  refine z_aload_n C 0 dX10_toWarm_0 rfl ?_
  refine z_iconst (z := 0) C dX10_toWarm_1 rfl ?_
  refine z_put (fs' := mF ad (i) (uZ F 12 (0))) C (lt_A0 hN rfl) hay1 hg tyX10 tyX10_ok nmX10 rfl inA_X10 12 (by decide) q_1471 rfl rfl rfl rfl (Nat.le_of_ble_eq_true rfl) rfl dX10_toWarm_2 (fun gy24 egy25 => ?_)
  have hgy26 := up_s egy25
  refine z_aload_n C 0 dX10_toWarm_5 rfl ?_
  refine z_iload_n C 1 dX10_toWarm_6 rfl ?_
  have h13vy27 : (uZ F 12 (0)) 13 = F 13 := (fn rfl (by decide))
  have hey28 : (uZ F 12 (0)) 12 = 0 := (uZ_s _ _ _)
  refine z_cV (As := [.int (zI (z))]) (rest := []) (ci := 12) C (c_X10_isSlope l D A cs tt N ad _ i hN _ hgy26 (by omega) (by omega) (z) (by omega)) (lt_A0 hN rfl) hay1 hgy26 rfl rfl mv_yX10_isSlope q_1803 hd_yX10_isSlope (by decide) (Nat.le_of_ble_eq_true rfl) (by decide) dX10_toWarm_7 rfl (kI0 fun vy27 gvy27 hvy27 => ?_)
  rw [h13vy27] at hvy27
  obtain ⟨hrvy27, ⟨Fvy27, hcvy27, htvy27, hFvy27⟩, hfvy27⟩ := hvy27
  obtain rfl : vy27 = 0 := by omega
  refine z_if_eq (tgt := 28) C dX10_toWarm_10 (by decide) (by omega) (fun _ => ?_) (fun h => absurd h (by omega))
  refine z_iconst (z := 0) C dX10_toWarm_28 rfl ?_
  have hgy29 := up_n egy25 ha1 (ne_o (i := i) (c := 1) (d := 0) rfl)
  have hgy30 := (hfvy27 (i + 1) (ne_o (i := i) (c := 1) (d := 0) rfl)).trans hgy29
  have hFy31 : ∀ f, f ≠ 12 → Fvy27 f = F f := fun f n12 => ((hFvy27 f n12).trans ((uZ_n _ _ n12).trans rfl))
  have hey32 : Fvy27 13 = F 13 := ((hFvy27 13 (by decide)).trans (fn rfl (by decide)))
  have hey33 : Fvy27 14 = F 14 := ((hFvy27 14 (by decide)).trans (fn rfl (by decide)))
  have hey34 : Fvy27 15 = F 15 := ((hFvy27 15 (by decide)).trans (fn rfl (by decide)))
  have hey35 : Fvy27 16 = F 16 := ((hFvy27 16 (by decide)).trans (fn rfl (by decide)))
  have hey36 : Fvy27 17 = F 17 := ((hFvy27 17 (by decide)).trans (fn rfl (by decide)))
  have hey37 : Fvy27 18 = F 18 := ((hFvy27 18 (by decide)).trans (fn rfl (by decide)))
  have hey38 : Fvy27 19 = F 19 := ((hFvy27 19 (by decide)).trans (fn rfl (by decide)))
  have hey39 : Fvy27 20 = F 20 := ((hFvy27 20 (by decide)).trans (fn rfl (by decide)))
  have hey40 : Fvy27 21 = F 21 := ((hFvy27 21 (by decide)).trans (fn rfl (by decide)))
  have hey41 : Fvy27 23 = F 23 := ((hFvy27 23 (by decide)).trans (fn rfl (by decide)))
  have hey42 : Fvy27 25 = F 25 := ((hFvy27 25 (by decide)).trans (fn rfl (by decide)))
  have hey43 : Fvy27 27 = F 27 := ((hFvy27 27 (by decide)).trans (fn rfl (by decide)))
  have hey44 : Fvy27 28 = F 28 := ((hFvy27 28 (by decide)).trans (fn rfl (by decide)))
  have hey45 : Fvy27 29 = F 29 := ((hFvy27 29 (by decide)).trans (fn rfl (by decide)))
  have hKy46 : okF Fvy27 := okF.mv hM.2.1 hey32 hey33 hey34 hey35 hey36 hey37 hey38 hey39 hey40 hey41 hey42 hey43 hey44 hey45
  have hMy47 : okMr cs ad gvy27 i (x + 1) Fvy27 r st op ai fa mu tb tp := okMr.upd hM hcvy27 hKy46 (fun f a => hFy31 f (by omega)) hgy30 (hA.mono (by omega)) (fun j a b => by
      exact Or.inl (by rw [hfvy27 _ (by omega)]; rw [egy25, va_up_ne _ _ (by omega)]))
  have hkpy48 : Fvy27 13 = F 13 := ((hFvy27 13 (by decide)).trans (fn rfl (by decide)))
  have hkpy49 : Fvy27 14 = F 14 := ((hFvy27 14 (by decide)).trans (fn rfl (by decide)))
  have hkpy50 : Fvy27 15 = F 15 := ((hFvy27 15 (by decide)).trans (fn rfl (by decide)))
  have hkpy51 : Fvy27 16 = F 16 := ((hFvy27 16 (by decide)).trans (fn rfl (by decide)))
  have hkpy52 : Fvy27 17 = F 17 := ((hFvy27 17 (by decide)).trans (fn rfl (by decide)))
  have hkpy53 : Fvy27 18 = F 18 := ((hFvy27 18 (by decide)).trans (fn rfl (by decide)))
  have hkpy54 : Fvy27 19 = F 19 := ((hFvy27 19 (by decide)).trans (fn rfl (by decide)))
  have hkpy55 : Fvy27 20 = F 20 := ((hFvy27 20 (by decide)).trans (fn rfl (by decide)))
  have hkpy56 : Fvy27 21 = F 21 := ((hFvy27 21 (by decide)).trans (fn rfl (by decide)))
  have hkpy57 : Fvy27 23 = F 23 := ((hFvy27 23 (by decide)).trans (fn rfl (by decide)))
  have hkpy58 : Fvy27 24 = F 24 := ((hFvy27 24 (by decide)).trans (fn rfl (by decide)))
  have hkpy59 : Fvy27 25 = F 25 := ((hFvy27 25 (by decide)).trans (fn rfl (by decide)))
  have hkpy60 : Fvy27 26 = F 26 := ((hFvy27 26 (by decide)).trans (fn rfl (by decide)))
  have hkpy61 : Fvy27 27 = F 27 := ((hFvy27 27 (by decide)).trans (fn rfl (by decide)))
  have hkpy62 : Fvy27 29 = F 29 := ((hFvy27 29 (by decide)).trans (fn rfl (by decide)))
  exact z_iret C hr hlk dX10_toWarm_29 (by decide) (by decide) ⟨0, rfl, rfl, rfl, by omega, ⟨_, _, hMy47, ⟨hkpy48, hkpy49, hkpy50, hkpy51, hkpy52, hkpy53, hkpy54, hkpy55, hkpy56, hkpy57, hkpy58⟩, ⟨(hkpy59.trans hp25), (hkpy60.trans hp26), (hkpy61.trans hp27), (hkpy62.trans hp29)⟩, (fun j _ => rfl)⟩, fun j j1 => by rw [hfvy27 _ (by omega)]; rw [egy25, va_up_ne _ _ (by omega)]⟩

set_option maxRecDepth 100000 in
set_option maxHeartbeats 4000000 in
theorem c_X10_toWarm (l : Launch) (D : va_G) (A : Nat → Prop) (cs : Nat → ClassId) (tt : Nat) (N : Nat) (ad : Nat → Nat) (g : Nat → va_E) (i : Nat) (hN : i + 30 ≤ N) (x : Int) (hx : 0 ≤ x ∧ x ≤ 512) (F r : Nat → Int) {st op ai fa mu tb tp : Nat → Int} (hM : okMr cs ad g i x F r st op ai fa mu tb tp) (hPl : F 25 = 0 ∧ F 26 = -1 ∧ F 27 = -1 ∧ F 29 = 0) (z : Int) (hz : -2147483648 ≤ z ∧ z ≤ 2147483647) (z1 : Int) (hz1 : -2147483648 ≤ z1 ∧ z1 ≤ 2147483647) : zM l yX10_toWarm cX10_toWarm 6 (some .int) ({ frames := 11, cells := 0, slots := 0, locals := 660 } : Room) D A cs tt N ad g [.ref (ad i), .int (zI (z)), .int (zI (z1))] (rI0 N ad fun q g' => (-2147483648 ≤ q ∧ q ≤ 2147483647) ∧ (∃ F' r' : Nat → Int, okMr cs ad g' i (x + 1) F' r' st op ai fa mu tb tp ∧ (F' 13 = F 13 ∧ F' 14 = F 14 ∧ F' 15 = F 15 ∧ F' 16 = F 16 ∧ F' 17 = F 17 ∧ F' 18 = F 18 ∧ F' 19 = F 19 ∧ F' 20 = F 20 ∧ F' 21 = F 21 ∧ F' 23 = F 23 ∧ F' 24 = F 24) ∧ (F' 25 = 0 ∧ F' 26 = -1 ∧ F' 27 = -1 ∧ F' 29 = 0) ∧ (∀ j, j < 350 ∨ 700 ≤ j → r' j = r j)) ∧ ∀ j, j < i ∨ i + 30 ≤ j ∨ (i + 8 ≤ j ∧ j ≤ i + 12) → g' j = g j) := by
  by_cases h9 : 0 ≤ z ∧ z ≤ 3
  · obtain ⟨n, rfl⟩ : ∃ n : Nat, z = (n : Int) := ⟨z.toNat, by omega⟩
    exact c_X10_toWarm_a l D A cs tt N ad g i hN x hx F r hM hPl n (by omega) z1 hz1
  · exact c_X10_toWarm_b l D A cs tt N ad g i hN x hx F r hM hPl z hz (by omega) z1 hz1
end
section
-- 99d.words.lean.txt
-- words of refnote
theorem q_1518 : (Jvm.Cond.fieldLink "SnowRecorderModel" (459 : Nat) "SnowRecorderModel" "its" "I") ∈ AW := AW_m7 78 (by decide +kernel) (by decide +kernel)
theorem q_1956 : (Jvm.Cond.methodLink "SnowRecorderModel" (403 : Nat) ({ cls := "SnowRecorderModel", name := "digs", desc := "(II)V" } : Jvm.MethodName)) ∈ AW := AW_m9 36 (by decide +kernel) (by decide +kernel)
theorem q_1958 : (Jvm.Cond.instanceMethod ({ cls := "SnowRecorderModel", name := "digs", desc := "(II)V" } : Jvm.MethodName)) ∈ AW := AW_m9 38 (by decide +kernel) (by decide +kernel)
theorem q_1959 : (Jvm.Cond.code ({ cls := "SnowRecorderModel", name := "digs", desc := "(II)V" } : Jvm.MethodName) prog_12_method_83_code (4 : Nat) (Option.none : Option Jvm.ClassFile.FieldType)) ∈ AW := AW_m9 39 (by decide +kernel) (by decide +kernel)
theorem q_1964 : (Jvm.Cond.methodLink "SnowRecorderModel" (406 : Nat) ({ cls := "SnowRecorderModel", name := "slides", desc := "(II)I" } : Jvm.MethodName)) ∈ AW := AW_m9 44 (by decide +kernel) (by decide +kernel)
theorem q_1966 : (Jvm.Cond.instanceMethod ({ cls := "SnowRecorderModel", name := "slides", desc := "(II)I" } : Jvm.MethodName)) ∈ AW := AW_m9 46 (by decide +kernel) (by decide +kernel)
theorem q_1967 : (Jvm.Cond.code ({ cls := "SnowRecorderModel", name := "slides", desc := "(II)I" } : Jvm.MethodName) prog_12_method_85_code (5 : Nat) (Option.some Jvm.ClassFile.FieldType.int)) ∈ AW := AW_m9 47 (by decide +kernel) (by decide +kernel)
theorem q_2071 : (Jvm.Cond.methodLink "SnowRecorderModel" (450 : Nat) ({ cls := "SnowRecorderModel", name := "isNoted", desc := "()Z" } : Jvm.MethodName)) ∈ AW := AW_m9 151 (by decide +kernel) (by decide +kernel)
theorem q_2073 : (Jvm.Cond.instanceMethod ({ cls := "SnowRecorderModel", name := "isNoted", desc := "()Z" } : Jvm.MethodName)) ∈ AW := AW_m9 153 (by decide +kernel) (by decide +kernel)
theorem q_2074 : (Jvm.Cond.code ({ cls := "SnowRecorderModel", name := "isNoted", desc := "()Z" } : Jvm.MethodName) prog_12_method_112_code (4 : Nat) (Option.some Jvm.ClassFile.FieldType.boolean)) ∈ AW := AW_m9 154 (by decide +kernel) (by decide +kernel)
theorem q_2075 : (Jvm.Cond.methodLink "SnowRecorderModel" (453 : Nat) ({ cls := "SnowRecorderModel", name := "isGuess", desc := "(II)Z" } : Jvm.MethodName)) ∈ AW := AW_m9 155 (by decide +kernel) (by decide +kernel)
theorem q_2077 : (Jvm.Cond.instanceMethod ({ cls := "SnowRecorderModel", name := "isGuess", desc := "(II)Z" } : Jvm.MethodName)) ∈ AW := AW_m9 157 (by decide +kernel) (by decide +kernel)
theorem q_2078 : (Jvm.Cond.code ({ cls := "SnowRecorderModel", name := "isGuess", desc := "(II)Z" } : Jvm.MethodName) prog_12_method_113_code (4 : Nat) (Option.some Jvm.ClassFile.FieldType.boolean)) ∈ AW := AW_m9 158 (by decide +kernel) (by decide +kernel)
theorem q_2083 : (Jvm.Cond.methodLink "SnowRecorderModel" (456 : Nat) ({ cls := "SnowRecorderModel", name := "unlike", desc := "(II)I" } : Jvm.MethodName)) ∈ AW := AW_m9 163 (by decide +kernel) (by decide +kernel)
theorem q_2085 : (Jvm.Cond.instanceMethod ({ cls := "SnowRecorderModel", name := "unlike", desc := "(II)I" } : Jvm.MethodName)) ∈ AW := AW_m9 165 (by decide +kernel) (by decide +kernel)
theorem q_2086 : (Jvm.Cond.code ({ cls := "SnowRecorderModel", name := "unlike", desc := "(II)I" } : Jvm.MethodName) prog_12_method_115_code (7 : Nat) (Option.some Jvm.ClassFile.FieldType.int)) ∈ AW := AW_m9 166 (by decide +kernel) (by decide +kernel)
theorem q_2099 : (Jvm.Cond.methodLink "SnowRecorderModel" (466 : Nat) ({ cls := "SnowRecorderModel", name := "year", desc := "()V" } : Jvm.MethodName)) ∈ AW := AW_m9 179 (by decide +kernel) (by decide +kernel)
theorem q_2101 : (Jvm.Cond.instanceMethod ({ cls := "SnowRecorderModel", name := "year", desc := "()V" } : Jvm.MethodName)) ∈ AW := AW_m9 181 (by decide +kernel) (by decide +kernel)
theorem q_2102 : (Jvm.Cond.code ({ cls := "SnowRecorderModel", name := "year", desc := "()V" } : Jvm.MethodName) prog_12_method_120_code (3 : Nat) (Option.none : Option Jvm.ClassFile.FieldType)) ∈ AW := AW_m9 182 (by decide +kernel) (by decide +kernel)
theorem q_2103 : (Jvm.Cond.methodLink "SnowRecorderModel" (463 : Nat) ({ cls := "SnowRecorderModel", name := "draw", desc := "(I)I" } : Jvm.MethodName)) ∈ AW := AW_m9 183 (by decide +kernel) (by decide +kernel)
theorem q_2105 : (Jvm.Cond.instanceMethod ({ cls := "SnowRecorderModel", name := "draw", desc := "(I)I" } : Jvm.MethodName)) ∈ AW := AW_m9 185 (by decide +kernel) (by decide +kernel)
theorem q_2106 : (Jvm.Cond.code ({ cls := "SnowRecorderModel", name := "draw", desc := "(I)I" } : Jvm.MethodName) prog_12_method_119_code (2 : Nat) (Option.some Jvm.ClassFile.FieldType.int)) ∈ AW := AW_m9 186 (by decide +kernel) (by decide +kernel)
theorem q_2107 : (Jvm.Cond.constant "SnowRecorderModel" (462 : Nat) (1103515245 : Int32)) ∈ AW := AW_m9 187 (by decide +kernel) (by decide +kernel)
theorem s_102 : Cond.selects "SnowRecorderModel" ({ cls := "SnowRecorderModel", name := "digs", desc := "(II)V" } : Jvm.MethodName) ({ cls := "SnowRecorderModel", name := "digs", desc := "(II)V" } : Jvm.MethodName) ∈ AW := AW_m 102 (by decide +kernel) (by decide +kernel)
theorem s_103 : Cond.selects "SnowRecorderModel" ({ cls := "SnowRecorderModel", name := "slides", desc := "(II)I" } : Jvm.MethodName) ({ cls := "SnowRecorderModel", name := "slides", desc := "(II)I" } : Jvm.MethodName) ∈ AW := AW_m 103 (by decide +kernel) (by decide +kernel)
theorem s_114 : Cond.selects "SnowRecorderModel" ({ cls := "SnowRecorderModel", name := "isNoted", desc := "()Z" } : Jvm.MethodName) ({ cls := "SnowRecorderModel", name := "isNoted", desc := "()Z" } : Jvm.MethodName) ∈ AW := AW_m 114 (by decide +kernel) (by decide +kernel)
theorem s_115 : Cond.selects "SnowRecorderModel" ({ cls := "SnowRecorderModel", name := "isGuess", desc := "(II)Z" } : Jvm.MethodName) ({ cls := "SnowRecorderModel", name := "isGuess", desc := "(II)Z" } : Jvm.MethodName) ∈ AW := AW_m 115 (by decide +kernel) (by decide +kernel)
theorem s_116 : Cond.selects "SnowRecorderModel" ({ cls := "SnowRecorderModel", name := "unlike", desc := "(II)I" } : Jvm.MethodName) ({ cls := "SnowRecorderModel", name := "unlike", desc := "(II)I" } : Jvm.MethodName) ∈ AW := AW_m 116 (by decide +kernel) (by decide +kernel)
theorem s_117 : Cond.selects "SnowRecorderModel" ({ cls := "SnowRecorderModel", name := "year", desc := "()V" } : Jvm.MethodName) ({ cls := "SnowRecorderModel", name := "year", desc := "()V" } : Jvm.MethodName) ∈ AW := AW_m 117 (by decide +kernel) (by decide +kernel)
theorem s_118 : Cond.selects "SnowRecorderModel" ({ cls := "SnowRecorderModel", name := "draw", desc := "(I)I" } : Jvm.MethodName) ({ cls := "SnowRecorderModel", name := "draw", desc := "(I)I" } : Jvm.MethodName) ∈ AW := AW_m 118 (by decide +kernel) (by decide +kernel)
theorem hd_yX10_draw : yX10_draw.cls ≠ "java/lang/invoke/MethodHandle" ∧ yX10_draw.cls ≠ "java/lang/invoke/VarHandle" ∧ (parseMethodDescriptor yX10_draw.desc).map (fun d => d.parameters.length) = some 1 := by decide +kernel
theorem hd_yX10_digs : yX10_digs.cls ≠ "java/lang/invoke/MethodHandle" ∧ yX10_digs.cls ≠ "java/lang/invoke/VarHandle" ∧ (parseMethodDescriptor yX10_digs.desc).map (fun d => d.parameters.length) = some 2 := by decide +kernel
theorem hd_yX10_slides : yX10_slides.cls ≠ "java/lang/invoke/MethodHandle" ∧ yX10_slides.cls ≠ "java/lang/invoke/VarHandle" ∧ (parseMethodDescriptor yX10_slides.desc).map (fun d => d.parameters.length) = some 2 := by decide +kernel
theorem hd_yX10_year : yX10_year.cls ≠ "java/lang/invoke/MethodHandle" ∧ yX10_year.cls ≠ "java/lang/invoke/VarHandle" ∧ (parseMethodDescriptor yX10_year.desc).map (fun d => d.parameters.length) = some 0 := by decide +kernel
theorem hd_yX10_isNoted : yX10_isNoted.cls ≠ "java/lang/invoke/MethodHandle" ∧ yX10_isNoted.cls ≠ "java/lang/invoke/VarHandle" ∧ (parseMethodDescriptor yX10_isNoted.desc).map (fun d => d.parameters.length) = some 0 := by decide +kernel
theorem hd_yX10_isGuess : yX10_isGuess.cls ≠ "java/lang/invoke/MethodHandle" ∧ yX10_isGuess.cls ≠ "java/lang/invoke/VarHandle" ∧ (parseMethodDescriptor yX10_isGuess.desc).map (fun d => d.parameters.length) = some 2 := by decide +kernel
theorem hd_yX10_unlike : yX10_unlike.cls ≠ "java/lang/invoke/MethodHandle" ∧ yX10_unlike.cls ≠ "java/lang/invoke/VarHandle" ∧ (parseMethodDescriptor yX10_unlike.desc).map (fun d => d.parameters.length) = some 2 := by decide +kernel
theorem mv_yX10_draw : zWv yX10_draw cX10_draw 2 (some .int) := ⟨q_2105, s_118, q_15, q_2106⟩
theorem mv_yX10_digs : zWv yX10_digs cX10_digs 4 none := ⟨q_1958, s_102, q_15, q_1959⟩
theorem mv_yX10_slides : zWv yX10_slides cX10_slides 5 (some .int) := ⟨q_1966, s_103, q_15, q_1967⟩
theorem mv_yX10_year : zWv yX10_year cX10_year 3 none := ⟨q_2101, s_117, q_15, q_2102⟩
theorem mv_yX10_isNoted : zWv yX10_isNoted cX10_isNoted 4 (some .boolean) := ⟨q_2073, s_114, q_15, q_2074⟩
theorem mv_yX10_isGuess : zWv yX10_isGuess cX10_isGuess 4 (some .boolean) := ⟨q_2077, s_115, q_15, q_2078⟩
theorem mv_yX10_unlike : zWv yX10_unlike cX10_unlike 7 (some .int) := ⟨q_2085, s_116, q_15, q_2086⟩
end
