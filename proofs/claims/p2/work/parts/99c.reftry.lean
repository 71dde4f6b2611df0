set_option maxRecDepth 100000 in
set_option maxHeartbeats 4000000 in
theorem c_X10_once_a (l : Launch) (D : va_G) (A : Nat → Prop) (cs : Nat → ClassId) (tt : Nat) (N : Nat) (ad : Nat → Nat) (g : Nat → va_E) (i : Nat) (hN : i + 30 ≤ N) (x : Int) (hx : 0 ≤ x ∧ x ≤ 512) (F r : Nat → Int) (hM : okMr cs ad g i x F r) (n : Nat) (hn4 : n < 4) (z1 : Int) (hz1 : -2147483648 ≤ z1 ∧ z1 ≤ 2147483647) : zM l yX10_once cX10_once 4 (some .int) ({ frames := 11, cells := 0, slots := 0, locals := 660 } : Room) D A cs tt N ad g [.ref (ad i), .int (zI ((n : Int))), .int (zI (z1))] (rI0 N ad fun q g' => (-2147483648 ≤ q ∧ q ≤ 2147483647) ∧ (∃ F' r' : Nat → Int, okMr cs ad g' i (x + 1) F' r' ∧ F' 23 = F 23) ∧ ∀ j, j < i ∨ i + 30 ≤ j → g' j = g j) := by
  obtain ⟨hg, ⟨⟨e13, e14, e25, e27, e29⟩, k15, k16, k17, k18, k19, k20, k23⟩, hRD, hTx, hA, st, op, ai, fa, mu, tb, ns, nh, nd, rf, pi, tp, te, ki, li, ok1, ok2, fo, dd, dps, ⟨ha1, ha2, ha3, ha4, ha5, ha6, ha7, ha8, ha9, ha10, ha11, ha12, ha13, ha14, ha15, ha24, ha25, ha26, ha27, ha28, ha29⟩, hEv, hPt, hns, htp⟩ := id hM
  obtain ⟨-, hop, hai, hfa, hT, hT1⟩ := id hEv
  have hay1 : zAt ad (i) (ad i) := rfl
  have hay2 : zAt ad (i + 1) (ad (i + 1)) := rfl
  have hay3 : zAt ad (i + 2) (ad (i + 2)) := rfl
  have hay4 : zAt ad (i + 3) (ad (i + 3)) := rfl
  have hay5 : zAt ad (i + 4) (ad (i + 4)) := rfl
  have hay6 : zAt ad (i + 5) (ad (i + 5)) := rfl
  have hay7 : zAt ad (i + 6) (ad (i + 6)) := rfl
  have hay8 : zAt ad (i + 7) (ad (i + 7)) := rfl
  have hay9 : zAt ad (i + 8) (ad (i + 8)) := rfl
  have hay10 : zAt ad (i + 9) (ad (i + 9)) := rfl
  have hay11 : zAt ad (i + 10) (ad (i + 10)) := rfl
  have hay12 : zAt ad (i + 11) (ad (i + 11)) := rfl
  have hay13 : zAt ad (i + 12) (ad (i + 12)) := rfl
  have hay14 : zAt ad (i + 13) (ad (i + 13)) := rfl
  have hay15 : zAt ad (i + 14) (ad (i + 14)) := rfl
  have hay16 : zAt ad (i + 15) (ad (i + 15)) := rfl
  have hay17 : zAt ad (i + 24) (ad (i + 24)) := rfl
  have hay18 : zAt ad (i + 25) (ad (i + 25)) := rfl
  have hay19 : zAt ad (i + 26) (ad (i + 26)) := rfl
  have hay20 : zAt ad (i + 27) (ad (i + 27)) := rfl
  have hay21 : zAt ad (i + 28) (ad (i + 28)) := rfl
  have hay22 : zAt ad (i + 29) (ad (i + 29)) := rfl
  obtain ⟨⟨hsyy23, htyy23, hnyy23, hpyy23⟩, hlyy23⟩ := okA.at0 hA
  simp only [Nat.zero_add] at hsyy23 hnyy23 hpyy23
  have hmn : ∀ s, s < 4 → 0 ≤ r (6 + 86 * s) ∧ r (6 + 86 * s) ≤ 12 := fun s hs => (hsyy23 s hs).1
  have h5 : 0 ≤ r 5 ∧ r 5 ≤ 6 := hpyy23
  refine z_of (by decide) (Nat.le_of_ble_eq_true rfl) ?_
  intro pZ eZ sZ mZ below meth cZ C hr hlk hnm
  refine z_lv (lv' := [(0, .ref (ad i)), (1, .int (zI ((n : Int)))), (2, .int (zI (z1)))]) [0, 1, 2] rfl ?_
  refine z_aload_n C 0 dX10_once_0 rfl ?_
  refine z_iconst (z := 0) C dX10_once_1 rfl ?_
  refine z_put (fs' := mF ad (i) (uZ F 12 (0))) C (by omega) hay1 hg tyX10 tyX10_ok nmX10 rfl inA_X10 12 (by decide) q_1471 rfl rfl rfl rfl (Nat.le_of_ble_eq_true rfl) rfl dX10_once_2 (fun gy24 egy25 => ?_)
  have hgy26 := up_s egy25
  refine z_aload_n C 0 dX10_once_5 rfl ?_
  refine z_iload_n C 1 dX10_once_6 rfl ?_
  have h13vy27 : (uZ F 12 (0)) 13 = F 13 := (fn rfl (by decide))
  have hey28 : (uZ F 12 (0)) 12 = 0 := (uZ_s _ _ _)
  refine z_cV (As := [.int (zI ((n : Int)))]) (rest := []) (ci := 12) C (c_X10_isSlope l D A cs tt N ad _ i hN _ hgy26 (by omega) (by omega) ((n : Int)) (by omega)) (by omega) hay1 hgy26 rfl rfl mv_yX10_isSlope q_1803 hd_yX10_isSlope (by decide) (Nat.le_of_ble_eq_true rfl) (by decide) dX10_once_7 rfl (kI0 fun vy27 gvy27 hvy27 => ?_)
  rw [h13vy27] at hvy27
  obtain ⟨hrvy27, ⟨Fvy27, hcvy27, htvy27, hFvy27⟩, hfvy27⟩ := hvy27
  rcases (show vy27 = 1 ∨ vy27 = 0 by omega) with rfl | rfl
  · have hxvy27 := hrvy27.2 rfl
    refine z_if_eq (tgt := 27) C dX10_once_10 (by decide) (by omega) (fun h => absurd h (by omega)) (fun _ => ?_)
    refine z_aload_n C 0 dX10_once_13 rfl ?_
    refine z_iload_n C 2 dX10_once_14 rfl ?_
    refine z_iconst (z := 0) C dX10_once_15 rfl ?_
    refine z_iconst (z := 1) C dX10_once_16 rfl ?_
    refine z_cS (As := [.int (zI (z1)), .int (zI (0)), .int (zI (1))]) (rest := [.ref (ad i)]) C (c_X10_within l D A cs tt N ad _ (z1) (by omega) (0) (by omega) (1) (by omega)) ms_yX10_within q_1686 hd_yX10_within (by decide) (Nat.le_of_ble_eq_true rfl) (by decide) dX10_once_17 rfl (kI0 fun vy29 gvy29 hvy29 => ?_)
    obtain ⟨hvy29, rfl⟩ := hvy29
    rcases hvy29 with ⟨rfl, hxvy29⟩ | ⟨rfl, hxvy29⟩
    · refine z_iconst (z := 1) C dX10_once_20 rfl ?_
      have hey31 : Fvy27 12 = Fvy27 12 := rfl
      refine z_cV (As := [.int (zI (1)), .int (zI (1))]) (rest := []) (ci := 12) C (c_X10_right l D A cs tt N ad _ i hN _ hcvy27 (by omega) (1) (by omega) (1) (by omega)) (by omega) hay1 hcvy27 rfl rfl mv_yX10_right q_1648 hd_yX10_right (by decide) (Nat.le_of_ble_eq_true rfl) (by decide) dX10_once_21 rfl (kI0 fun vy30 gvy30 hvy30 => ?_)
      obtain ⟨hrvy30, ⟨Fvy30, hcvy30, htvy30, hFvy30⟩, hfvy30⟩ := hvy30
      rcases (show vy30 = 1 ∨ vy30 = 0 by omega) with rfl | rfl
      · refine z_if_ne (tgt := 29) C dX10_once_24 (by decide) (by omega) (fun _ => ?_) (fun h => absurd h (by omega))
        refine z_aload_n C 0 dX10_once_29 rfl ?_
        have hgy32 := up_n egy25 ha1 (ne_o (i := i) (c := 1) (d := 0) rfl)
        have hgy33 := (hfvy27 (i + 1) (ne_o (i := i) (c := 1) (d := 0) rfl)).trans hgy32
        have hgy34 := (hfvy30 (i + 1) (ne_o (i := i) (c := 1) (d := 0) rfl)).trans hgy33
        refine z_cV (As := []) (rest := []) (ci := 12) C (c_X10_tries l D A cs tt N ad _ i hN _ hcvy30 _ hgy34 (x) hA) (by omega) hay1 hcvy30 rfl rfl mv_yX10_tries q_1980 hd_yX10_tries (by decide) (Nat.le_of_ble_eq_true rfl) (by decide) dX10_once_30 rfl (kV0 fun gvy35 hvy35 => ?_)
        obtain ⟨⟨rvy35, hdvy35, hAvy35, hWvy35, h0vy35, hyvy35⟩, hfvy35⟩ := hvy35
        obtain ⟨⟨hsyy36, htyy36, hnyy36, hpyy36⟩, hlyy36⟩ := okA.at0 hAvy35
        simp only [Nat.zero_add] at hsyy36 hnyy36 hpyy36
        have hmn : ∀ s, s < 4 → 0 ≤ rvy35 (6 + 86 * s) ∧ rvy35 (6 + 86 * s) ≤ 12 := fun s hs => (hsyy36 s hs).1
        have h5 : 0 ≤ rvy35 5 ∧ rvy35 5 ≤ 6 := hpyy36
        refine z_iconst (z := 0) C dX10_once_33 rfl ?_
        refine z_istore_n (lv' := [(3, .int (zI (0))), (0, .ref (ad i)), (1, .int (zI ((n : Int)))), (2, .int (zI (z1)))]) C dX10_once_34 rfl (by decide) rfl ?_
        have lp1 : ∀ (n9 : Nat) (nn : Int) (F9 : Nat → Int) (r9 : Nat → Int) (g1 : Nat → va_E), (73 - nn).toNat = n9 → (okMr cs ad g1 i x F9 r9) → ((∀ f, f ≠ 12 → F9 f = F f)) → (okW r9 350 (x)) → (∀ j, j < i ∨ i + 30 ≤ j → g1 j = g j) → (0 ≤ nn ∧ nn ≤ 73) → (r9 350 ≤ 2000 + nn) → zV pZ l eZ ({ frames := 11, cells := 0, slots := 0, locals := 660 } : Room) sZ mZ ([.ref (ad i), .int (zI ((n : Int))), .int (zI (z1))] : List Value).toArray below meth cZ (MQ below (zPost D A (rI0 N ad fun q g' => (-2147483648 ≤ q ∧ q ≤ 2147483647) ∧ (∃ F' r' : Nat → Int, okMr cs ad g' i (x + 1) F' r' ∧ F' 23 = F 23) ∧ ∀ j, j < i ∨ i + 30 ≤ j → g' j = g j)) ([.ref (ad i), .int (zI ((n : Int))), .int (zI (z1))] : List Value).toArray sZ ({ frames := 11, cells := 0, slots := 0, locals := 660 } : Room).cells ({ frames := 11, cells := 0, slots := 0, locals := 660 } : Room).slots A) D A 4 (N) ad g1 (0) (0) 35 [(0, .ref (ad i)), (1, .int (zI ((n : Int)))), (2, .int (zI (z1))), (3, .int (zI (nn)))] [] := by
          intro n9
          induction n9 using Nat.strongRecOn with
          | ind n9 ih_lp1 =>
            intro nn F9 r9 g1 hm9 fM fF fW f3 hvlp10 hvlp11
            obtain ⟨hg_y37, ⟨⟨e13_y37, e14_y37, e25_y37, e27_y37, e29_y37⟩, k15_y37, k16_y37, k17_y37, k18_y37, k19_y37, k20_y37, k23_y37⟩, hRD_y37, hTx_y37, hA_y37, st_y37, op_y37, ai_y37, fa_y37, mu_y37, tb_y37, ns_y37, nh_y37, nd_y37, rf_y37, pi_y37, tp_y37, te_y37, ki_y37, li_y37, ok1_y37, ok2_y37, fo_y37, dd_y37, dps_y37, ⟨ha1_y37, ha2_y37, ha3_y37, ha4_y37, ha5_y37, ha6_y37, ha7_y37, ha8_y37, ha9_y37, ha10_y37, ha11_y37, ha12_y37, ha13_y37, ha14_y37, ha15_y37, ha24_y37, ha25_y37, ha26_y37, ha27_y37, ha28_y37, ha29_y37⟩, hEv_y37, hPt_y37, hns_y37, htp_y37⟩ := id fM
            obtain ⟨-, hop_y37, hai_y37, hfa_y37, hT_y37, hT1_y37⟩ := id hEv_y37
            have e14 := e14_y37
            have e25 := e25_y37
            have e27 := e27_y37
            have e29 := e29_y37
            have hop := hop_y37
            have hai := hai_y37
            have hfa := hfa_y37
            have hT := hT_y37
            have hT1 := hT1_y37
            have hEv := hEv_y37
            have htp := htp_y37
            have hns := hns_y37
            have hPt := hPt_y37
            have hay38 : zAt ad (i) (ad i) := rfl
            have hay39 : zAt ad (i + 1) (ad (i + 1)) := rfl
            have hay40 : zAt ad (i + 2) (ad (i + 2)) := rfl
            have hay41 : zAt ad (i + 3) (ad (i + 3)) := rfl
            have hay42 : zAt ad (i + 4) (ad (i + 4)) := rfl
            have hay43 : zAt ad (i + 5) (ad (i + 5)) := rfl
            have hay44 : zAt ad (i + 6) (ad (i + 6)) := rfl
            have hay45 : zAt ad (i + 7) (ad (i + 7)) := rfl
            have hay46 : zAt ad (i + 8) (ad (i + 8)) := rfl
            have hay47 : zAt ad (i + 9) (ad (i + 9)) := rfl
            have hay48 : zAt ad (i + 10) (ad (i + 10)) := rfl
            have hay49 : zAt ad (i + 11) (ad (i + 11)) := rfl
            have hay50 : zAt ad (i + 12) (ad (i + 12)) := rfl
            have hay51 : zAt ad (i + 13) (ad (i + 13)) := rfl
            have hay52 : zAt ad (i + 14) (ad (i + 14)) := rfl
            have hay53 : zAt ad (i + 15) (ad (i + 15)) := rfl
            have hay54 : zAt ad (i + 24) (ad (i + 24)) := rfl
            have hay55 : zAt ad (i + 25) (ad (i + 25)) := rfl
            have hay56 : zAt ad (i + 26) (ad (i + 26)) := rfl
            have hay57 : zAt ad (i + 27) (ad (i + 27)) := rfl
            have hay58 : zAt ad (i + 28) (ad (i + 28)) := rfl
            have hay59 : zAt ad (i + 29) (ad (i + 29)) := rfl
            obtain ⟨⟨hsyy60, htyy60, hnyy60, hpyy60⟩, hlyy60⟩ := okA.at0 hA_y37
            simp only [Nat.zero_add] at hsyy60 hnyy60 hpyy60
            have hmn : ∀ s, s < 4 → 0 ≤ r9 (6 + 86 * s) ∧ r9 (6 + 86 * s) ≤ 12 := fun s hs => (hsyy60 s hs).1
            have h5 : 0 ≤ r9 5 ∧ r9 5 ≤ 6 := hpyy60
            have h13e : F9 13 = F 13 := fF 13 (by decide)
            have h14e : F9 14 = F 14 := fF 14 (by decide)
            have h17e : F9 17 = F 17 := fF 17 (by decide)
            have h23e : F9 23 = F 23 := fF 23 (by decide)
            have hW2 := fW.2.1
            refine z_iload_n C 3 dX10_once_35 rfl ?_
            refine z_bipush (z := 72) C dX10_once_36 (by decide) ?_
            refine z_icmp_gt (tgt := 85) C dX10_once_38 (by decide) (by omega) (by omega) (fun hby61 => ?_) (fun hby61 => ?_)
            · refine z_iconst (z := -1) C dX10_once_85 rfl ?_
              have hMy62 : okMr cs ad g1 i (x + 1) F9 r9 := okMr.upd fM hg_y37 fM.2.1 (fun f _ => rfl) ha1_y37 (hA_y37.mono (by omega)) (fun j a b => by
                  exact Or.inl (by rfl))
              have h23 : F9 23 = F9 23 := rfl
              exact z_iret C hr hlk dX10_once_86 (by decide) (by decide) ⟨-1, rfl, rfl, rfl, by omega, ⟨_, _, hMy62, by omega⟩, fun j j1 => by exact f3 j j1⟩
            · refine z_iload_n C 2 dX10_once_41 rfl ?_
              refine z_if_ne (tgt := 59) C dX10_once_42 (by decide) (by omega) (fun hby63 => ?_) (fun hby63 => ?_)
              · refine z_aload_n C 0 dX10_once_59 rfl ?_
                refine z_sipush (z := 350) C dX10_once_60 (by decide) ?_
                refine z_iload_n C 1 dX10_once_63 rfl ?_
                obtain ⟨py64, hpy64⟩ : ∃ p9 : Nat, 350 + 6 + 86 * n = p9 := ⟨_, rfl⟩
                have hmyy65 := (fW.1 n (by omega)).1
                rw [hpy64] at hmyy65
                refine z_cV (As := [.int (zI (350)), .int (zI ((n : Int)))]) (rest := []) (ci := 12) C (c_X10_many l D A cs tt N ad _ i hN _ hg_y37 _ ha1_y37 350 n py64 hpy64 (by omega) (by omega)) (by omega) hay38 hg_y37 rfl rfl mv_yX10_many q_1733 hd_yX10_many (by decide) (Nat.le_of_ble_eq_true rfl) (by decide) dX10_once_64 rfl (kI0 fun vy66 gvy66 hvy66 => ?_)
                obtain ⟨rfl, rfl⟩ := hvy66
                refine z_if_ne (tgt := 72) C dX10_once_67 (by decide) (by omega) (fun hby67 => ?_) (fun hby67 => ?_)
                · refine z_aload_n C 0 dX10_once_72 rfl ?_
                  refine z_sipush (z := 350) C dX10_once_73 (by decide) ?_
                  have hey69 : F9 13 = F9 13 := rfl
                  have hey70 : F9 14 = F9 14 := rfl
                  have hey71 : F9 25 = F9 25 := rfl
                  have hey72 : F9 27 = F9 27 := rfl
                  have hey73 : F9 28 = F9 28 := rfl
                  have hey74 : F9 29 = F9 29 := rfl
                  have hEvy68 : okEnv F9 _ _ _ _ _ := ⟨by omega, hop, hai, hfa, hT, hT1⟩
                  refine z_cV (As := [.int (zI (350))]) (rest := []) (ci := 12) C (c_X10_hour l D A cs tt N ad _ i hN _ hg_y37 _ ha1_y37 _ ha3_y37 _ ha4_y37 _ ha5_y37 _ ha6_y37 _ ha7_y37 _ ha14_y37 _ ha15_y37 350 (by omega) hEvy68 (x) (by omega) fW (by omega) (by omega)) (by omega) hay38 hg_y37 rfl rfl mv_yX10_hour q_1885 hd_yX10_hour (by decide) (Nat.le_of_ble_eq_true rfl) (by decide) dX10_once_76 rfl (kV0 fun gvy75 hvy75 => ?_)
                  obtain ⟨⟨rvy75, hcvy75, hwvy75, htvy75, hyvy75⟩, ⟨t4vy75, h4vy75⟩, ⟨t5vy75, h5vy75⟩, hfvy75⟩ := hvy75
                  have hAy76 : okA rvy75 (x) := okA.tried hA_y37 (fun j a => hyvy75 j (by omega))
                  obtain ⟨⟨hsyy77, htyy77, hnyy77, hpyy77⟩, hlyy77⟩ := okA.at0 hAy76
                  simp only [Nat.zero_add] at hsyy77 hnyy77 hpyy77
                  have hmn : ∀ s, s < 4 → 0 ≤ rvy75 (6 + 86 * s) ∧ rvy75 (6 + 86 * s) ≤ 12 := fun s hs => (hsyy77 s hs).1
                  have h5 : 0 ≤ rvy75 5 ∧ rvy75 5 ≤ 6 := hpyy77
                  refine z_iinc (z := nn + 1) (lv' := [(3, .int (zI (nn + 1))), (0, .ref (ad i)), (1, .int (zI ((n : Int)))), (2, .int (zI (z1)))]) (j := 3) C dX10_once_79 rfl rfl (by decide) rfl ?_
                  refine z_goto (tgt := 35) C dX10_once_82 (by decide) ?_
                  have hgy78 := (hfvy75 (i) (ne_o (i := i) (c := 0) (d := 1) rfl) (ne_o (i := i) (c := 0) (d := 14) rfl) (ne_o (i := i) (c := 0) (d := 15) rfl)).trans hg_y37
                  have hMy79 : okMr cs ad gvy75 i (x) F9 rvy75 := okMr.upd fM hgy78 fM.2.1 (fun f _ => rfl) hcvy75 (hAy76.mono (by omega)) (fun j a b => by
                      by_cases e0 : j = i + 14
                      · exact Or.inr ⟨14, _, e0, lsP.l (by decide), by rw [e0]; exact h4vy75⟩
                      by_cases e1 : j = i + 15
                      · exact Or.inr ⟨15, _, e1, lsP.l (by decide), by rw [e1]; exact h5vy75⟩
                      exact Or.inl (by rw [hfvy75 _ (by omega) (by omega) (by omega)]))
                  have hFF : (∀ f, f ≠ 12 → F9 f = F f) := fun f n12 => fF f n12
                  have hey80 : F9 13 = F9 13 := rfl
                  have hey81 : F9 14 = F9 14 := rfl
                  refine z_lv (lv' := [(0, .ref (ad i)), (1, .int (zI ((n : Int)))), (2, .int (zI (z1))), (3, .int (zI (nn + 1)))]) [1, 2, 3, 0] rfl ?_
                  exact ih_lp1 _ (by omega) (nn + 1) _ _ gvy75 rfl hMy79 hFF hwvy75 (fun j j1 => by rw [hfvy75 _ (by omega) (by omega) (by omega)]; exact f3 j j1) (by omega) (by omega)
                · refine z_iload_n C 3 dX10_once_70 rfl ?_
                  have hMy82 : okMr cs ad g1 i (x + 1) F9 r9 := okMr.upd fM hg_y37 fM.2.1 (fun f _ => rfl) ha1_y37 (hA_y37.mono (by omega)) (fun j a b => by
                      exact Or.inl (by rfl))
                  have h23 : F9 23 = F9 23 := rfl
                  exact z_iret C hr hlk dX10_once_71 (by decide) (by decide) ⟨nn, rfl, rfl, rfl, by omega, ⟨_, _, hMy82, by omega⟩, fun j j1 => by exact f3 j j1⟩
              · refine z_aload_n C 0 dX10_once_45 rfl ?_
                refine z_sipush (z := 350) C dX10_once_46 (by decide) ?_
                refine z_iload_n C 1 dX10_once_49 rfl ?_
                obtain ⟨py83, hpy83⟩ : ∃ p9 : Nat, 350 + 6 + 86 * n = p9 := ⟨_, rfl⟩
                have hqy85 : qS r9 py83 := ((fW.1 n (by omega)).of (p2 := py83) (by omega)).q (by have hb9 := mBb (t := r9 350 + x) (by omega); omega)
                have hmky86 := hqy85.1
                refine z_cV (As := [.int (zI (350)), .int (zI ((n : Int)))]) (rest := []) (ci := 12) C (c_X10_isUnstable l D A cs tt N ad _ i hN _ hg_y37 _ ha1_y37 _ ha2_y37 _ ha7_y37 350 n py83 hpy83 (by omega) (by omega) hqy85) (by omega) hay38 hg_y37 rfl rfl mv_yX10_isUnstable q_1811 hd_yX10_isUnstable (by decide) (Nat.le_of_ble_eq_true rfl) (by decide) dX10_once_50 rfl (kI0 fun vy84 gvy84 hvy84 => ?_)
                obtain ⟨hvy84, rfl⟩ := hvy84
                refine z_if_eq (tgt := 72) C dX10_once_53 (by decide) (by omega) (fun hby87 => ?_) (fun hby87 => ?_)
                · refine z_aload_n C 0 dX10_once_72 rfl ?_
                  refine z_sipush (z := 350) C dX10_once_73 (by decide) ?_
                  have hey89 : F9 13 = F9 13 := rfl
                  have hey90 : F9 14 = F9 14 := rfl
                  have hey91 : F9 25 = F9 25 := rfl
                  have hey92 : F9 27 = F9 27 := rfl
                  have hey93 : F9 28 = F9 28 := rfl
                  have hey94 : F9 29 = F9 29 := rfl
                  have hEvy88 : okEnv F9 _ _ _ _ _ := ⟨by omega, hop, hai, hfa, hT, hT1⟩
                  refine z_cV (As := [.int (zI (350))]) (rest := []) (ci := 12) C (c_X10_hour l D A cs tt N ad _ i hN _ hg_y37 _ ha1_y37 _ ha3_y37 _ ha4_y37 _ ha5_y37 _ ha6_y37 _ ha7_y37 _ ha14_y37 _ ha15_y37 350 (by omega) hEvy88 (x) (by omega) fW (by omega) (by omega)) (by omega) hay38 hg_y37 rfl rfl mv_yX10_hour q_1885 hd_yX10_hour (by decide) (Nat.le_of_ble_eq_true rfl) (by decide) dX10_once_76 rfl (kV0 fun gvy95 hvy95 => ?_)
                  obtain ⟨⟨rvy95, hcvy95, hwvy95, htvy95, hyvy95⟩, ⟨t4vy95, h4vy95⟩, ⟨t5vy95, h5vy95⟩, hfvy95⟩ := hvy95
                  have hAy96 : okA rvy95 (x) := okA.tried hA_y37 (fun j a => hyvy95 j (by omega))
                  obtain ⟨⟨hsyy97, htyy97, hnyy97, hpyy97⟩, hlyy97⟩ := okA.at0 hAy96
                  simp only [Nat.zero_add] at hsyy97 hnyy97 hpyy97
                  have hmn : ∀ s, s < 4 → 0 ≤ rvy95 (6 + 86 * s) ∧ rvy95 (6 + 86 * s) ≤ 12 := fun s hs => (hsyy97 s hs).1
                  have h5 : 0 ≤ rvy95 5 ∧ rvy95 5 ≤ 6 := hpyy97
                  refine z_iinc (z := nn + 1) (lv' := [(3, .int (zI (nn + 1))), (0, .ref (ad i)), (1, .int (zI ((n : Int)))), (2, .int (zI (z1)))]) (j := 3) C dX10_once_79 rfl rfl (by decide) rfl ?_
                  refine z_goto (tgt := 35) C dX10_once_82 (by decide) ?_
                  have hgy98 := (hfvy95 (i) (ne_o (i := i) (c := 0) (d := 1) rfl) (ne_o (i := i) (c := 0) (d := 14) rfl) (ne_o (i := i) (c := 0) (d := 15) rfl)).trans hg_y37
                  have hMy99 : okMr cs ad gvy95 i (x) F9 rvy95 := okMr.upd fM hgy98 fM.2.1 (fun f _ => rfl) hcvy95 (hAy96.mono (by omega)) (fun j a b => by
                      by_cases e0 : j = i + 14
                      · exact Or.inr ⟨14, _, e0, lsP.l (by decide), by rw [e0]; exact h4vy95⟩
                      by_cases e1 : j = i + 15
                      · exact Or.inr ⟨15, _, e1, lsP.l (by decide), by rw [e1]; exact h5vy95⟩
                      exact Or.inl (by rw [hfvy95 _ (by omega) (by omega) (by omega)]))
                  have hFF : (∀ f, f ≠ 12 → F9 f = F f) := fun f n12 => fF f n12
                  have hey100 : F9 13 = F9 13 := rfl
                  have hey101 : F9 14 = F9 14 := rfl
                  refine z_lv (lv' := [(0, .ref (ad i)), (1, .int (zI ((n : Int)))), (2, .int (zI (z1))), (3, .int (zI (nn + 1)))]) [1, 2, 3, 0] rfl ?_
                  exact ih_lp1 _ (by omega) (nn + 1) _ _ gvy95 rfl hMy99 hFF hwvy95 (fun j j1 => by rw [hfvy95 _ (by omega) (by omega) (by omega)]; exact f3 j j1) (by omega) (by omega)
                · refine z_goto (tgt := 70) C dX10_once_56 (by decide) ?_
                  refine z_iload_n C 3 dX10_once_70 rfl ?_
                  have hMy102 : okMr cs ad g1 i (x + 1) F9 r9 := okMr.upd fM hg_y37 fM.2.1 (fun f _ => rfl) ha1_y37 (hA_y37.mono (by omega)) (fun j a b => by
                      exact Or.inl (by rfl))
                  have h23 : F9 23 = F9 23 := rfl
                  exact z_iret C hr hlk dX10_once_71 (by decide) (by decide) ⟨nn, rfl, rfl, rfl, by omega, ⟨_, _, hMy102, by omega⟩, fun j j1 => by exact f3 j j1⟩
        have hgy103 := (hfvy35 (i) (ne_o (i := i) (c := 0) (d := 1) rfl)).trans hcvy30
        have hFy104 : ∀ f, f ≠ 12 → Fvy30 f = F f := fun f n12 => ((hFvy30 f n12).trans ((hFvy27 f n12).trans ((uZ_n _ _ n12).trans rfl)))
        have hey105 : Fvy30 13 = F 13 := ((hFvy30 13 (by decide)).trans ((hFvy27 13 (by decide)).trans (fn rfl (by decide))))
        have hey106 : Fvy30 14 = F 14 := ((hFvy30 14 (by decide)).trans ((hFvy27 14 (by decide)).trans (fn rfl (by decide))))
        have hey107 : Fvy30 15 = F 15 := ((hFvy30 15 (by decide)).trans ((hFvy27 15 (by decide)).trans (fn rfl (by decide))))
        have hey108 : Fvy30 16 = F 16 := ((hFvy30 16 (by decide)).trans ((hFvy27 16 (by decide)).trans (fn rfl (by decide))))
        have hey109 : Fvy30 17 = F 17 := ((hFvy30 17 (by decide)).trans ((hFvy27 17 (by decide)).trans (fn rfl (by decide))))
        have hey110 : Fvy30 18 = F 18 := ((hFvy30 18 (by decide)).trans ((hFvy27 18 (by decide)).trans (fn rfl (by decide))))
        have hey111 : Fvy30 19 = F 19 := ((hFvy30 19 (by decide)).trans ((hFvy27 19 (by decide)).trans (fn rfl (by decide))))
        have hey112 : Fvy30 20 = F 20 := ((hFvy30 20 (by decide)).trans ((hFvy27 20 (by decide)).trans (fn rfl (by decide))))
        have hey113 : Fvy30 23 = F 23 := ((hFvy30 23 (by decide)).trans ((hFvy27 23 (by decide)).trans (fn rfl (by decide))))
        have hey114 : Fvy30 25 = F 25 := ((hFvy30 25 (by decide)).trans ((hFvy27 25 (by decide)).trans (fn rfl (by decide))))
        have hey115 : Fvy30 27 = F 27 := ((hFvy30 27 (by decide)).trans ((hFvy27 27 (by decide)).trans (fn rfl (by decide))))
        have hey116 : Fvy30 28 = F 28 := ((hFvy30 28 (by decide)).trans ((hFvy27 28 (by decide)).trans (fn rfl (by decide))))
        have hey117 : Fvy30 29 = F 29 := ((hFvy30 29 (by decide)).trans ((hFvy27 29 (by decide)).trans (fn rfl (by decide))))
        have hKy118 : okF Fvy30 := by unfold okF; omega
        have hMy119 : okMr cs ad gvy35 i (x) Fvy30 rvy35 := okMr.upd hM hgy103 hKy118 (fun f a => hFy104 f (by omega)) hdvy35 (hAvy35.mono (by omega)) (fun j a b => by
            exact Or.inl (by rw [hfvy35 _ (by omega)]; rw [hfvy30 _ (by omega)]; rw [hfvy27 _ (by omega)]; rw [egy25, va_up_ne _ _ (by omega)]))
        have hFy120 : ∀ f, f ≠ 12 → Fvy30 f = F f := fun f n12 => ((hFvy30 f n12).trans ((hFvy27 f n12).trans ((uZ_n _ _ n12).trans rfl)))
        have hFF : (∀ f, f ≠ 12 → Fvy30 f = F f) := fun f n12 => (hFy120 f n12)
        have hey121 : Fvy30 13 = F 13 := ((hFvy30 13 (by decide)).trans ((hFvy27 13 (by decide)).trans (fn rfl (by decide))))
        have hey122 : Fvy30 14 = F 14 := ((hFvy30 14 (by decide)).trans ((hFvy27 14 (by decide)).trans (fn rfl (by decide))))
        refine z_lv (lv' := [(0, .ref (ad i)), (1, .int (zI ((n : Int)))), (2, .int (zI (z1))), (3, .int (zI (0)))]) [1, 2, 3, 0] rfl ?_
        exact lp1 _ (0) _ _ gvy35 rfl hMy119 hFF hWvy35 (fun j j1 => by rw [hfvy35 _ (by omega)]; rw [hfvy30 _ (by omega)]; rw [hfvy27 _ (by omega)]; rw [egy25, va_up_ne _ _ (by omega)]) (by omega) (by omega)
      · refine z_if_ne (tgt := 29) C dX10_once_24 (by decide) (by omega) (fun h => absurd h (by omega)) (fun _ => ?_)
        refine z_iconst (z := 0) C dX10_once_27 rfl ?_
        have hgy123 := up_n egy25 ha1 (ne_o (i := i) (c := 1) (d := 0) rfl)
        have hgy124 := (hfvy27 (i + 1) (ne_o (i := i) (c := 1) (d := 0) rfl)).trans hgy123
        have hgy125 := (hfvy30 (i + 1) (ne_o (i := i) (c := 1) (d := 0) rfl)).trans hgy124
        have hFy126 : ∀ f, f ≠ 12 → Fvy30 f = F f := fun f n12 => ((hFvy30 f n12).trans ((hFvy27 f n12).trans ((uZ_n _ _ n12).trans rfl)))
        have hey127 : Fvy30 13 = F 13 := ((hFvy30 13 (by decide)).trans ((hFvy27 13 (by decide)).trans (fn rfl (by decide))))
        have hey128 : Fvy30 14 = F 14 := ((hFvy30 14 (by decide)).trans ((hFvy27 14 (by decide)).trans (fn rfl (by decide))))
        have hey129 : Fvy30 15 = F 15 := ((hFvy30 15 (by decide)).trans ((hFvy27 15 (by decide)).trans (fn rfl (by decide))))
        have hey130 : Fvy30 16 = F 16 := ((hFvy30 16 (by decide)).trans ((hFvy27 16 (by decide)).trans (fn rfl (by decide))))
        have hey131 : Fvy30 17 = F 17 := ((hFvy30 17 (by decide)).trans ((hFvy27 17 (by decide)).trans (fn rfl (by decide))))
        have hey132 : Fvy30 18 = F 18 := ((hFvy30 18 (by decide)).trans ((hFvy27 18 (by decide)).trans (fn rfl (by decide))))
        have hey133 : Fvy30 19 = F 19 := ((hFvy30 19 (by decide)).trans ((hFvy27 19 (by decide)).trans (fn rfl (by decide))))
        have hey134 : Fvy30 20 = F 20 := ((hFvy30 20 (by decide)).trans ((hFvy27 20 (by decide)).trans (fn rfl (by decide))))
        have hey135 : Fvy30 23 = F 23 := ((hFvy30 23 (by decide)).trans ((hFvy27 23 (by decide)).trans (fn rfl (by decide))))
        have hey136 : Fvy30 25 = F 25 := ((hFvy30 25 (by decide)).trans ((hFvy27 25 (by decide)).trans (fn rfl (by decide))))
        have hey137 : Fvy30 27 = F 27 := ((hFvy30 27 (by decide)).trans ((hFvy27 27 (by decide)).trans (fn rfl (by decide))))
        have hey138 : Fvy30 28 = F 28 := ((hFvy30 28 (by decide)).trans ((hFvy27 28 (by decide)).trans (fn rfl (by decide))))
        have hey139 : Fvy30 29 = F 29 := ((hFvy30 29 (by decide)).trans ((hFvy27 29 (by decide)).trans (fn rfl (by decide))))
        have hKy140 : okF Fvy30 := by unfold okF; omega
        have hMy141 : okMr cs ad gvy30 i (x + 1) Fvy30 r := okMr.upd hM hcvy30 hKy140 (fun f a => hFy126 f (by omega)) hgy125 (hA.mono (by omega)) (fun j a b => by
            exact Or.inl (by rw [hfvy30 _ (by omega)]; rw [hfvy27 _ (by omega)]; rw [egy25, va_up_ne _ _ (by omega)]))
        have h23 : Fvy30 23 = F 23 := ((hFvy30 23 (by decide)).trans ((hFvy27 23 (by decide)).trans (fn rfl (by decide))))
        exact z_iret C hr hlk dX10_once_28 (by decide) (by decide) ⟨0, rfl, rfl, rfl, by omega, ⟨_, _, hMy141, by omega⟩, fun j j1 => by rw [hfvy30 _ (by omega)]; rw [hfvy27 _ (by omega)]; rw [egy25, va_up_ne _ _ (by omega)]⟩
    · refine z_iconst (z := 1) C dX10_once_20 rfl ?_
      have hey143 : Fvy27 12 = Fvy27 12 := rfl
      refine z_cV (As := [.int (zI (0)), .int (zI (1))]) (rest := []) (ci := 12) C (c_X10_right l D A cs tt N ad _ i hN _ hcvy27 (by omega) (0) (by omega) (1) (by omega)) (by omega) hay1 hcvy27 rfl rfl mv_yX10_right q_1648 hd_yX10_right (by decide) (Nat.le_of_ble_eq_true rfl) (by decide) dX10_once_21 rfl (kI0 fun vy142 gvy142 hvy142 => ?_)
      obtain ⟨hrvy142, ⟨Fvy142, hcvy142, htvy142, hFvy142⟩, hfvy142⟩ := hvy142
      obtain rfl : vy142 = 0 := by omega
      refine z_if_ne (tgt := 29) C dX10_once_24 (by decide) (by omega) (fun h => absurd h (by omega)) (fun _ => ?_)
      refine z_iconst (z := 0) C dX10_once_27 rfl ?_
      have hgy144 := up_n egy25 ha1 (ne_o (i := i) (c := 1) (d := 0) rfl)
      have hgy145 := (hfvy27 (i + 1) (ne_o (i := i) (c := 1) (d := 0) rfl)).trans hgy144
      have hgy146 := (hfvy142 (i + 1) (ne_o (i := i) (c := 1) (d := 0) rfl)).trans hgy145
      have hFy147 : ∀ f, f ≠ 12 → Fvy142 f = F f := fun f n12 => ((hFvy142 f n12).trans ((hFvy27 f n12).trans ((uZ_n _ _ n12).trans rfl)))
      have hey148 : Fvy142 13 = F 13 := ((hFvy142 13 (by decide)).trans ((hFvy27 13 (by decide)).trans (fn rfl (by decide))))
      have hey149 : Fvy142 14 = F 14 := ((hFvy142 14 (by decide)).trans ((hFvy27 14 (by decide)).trans (fn rfl (by decide))))
      have hey150 : Fvy142 15 = F 15 := ((hFvy142 15 (by decide)).trans ((hFvy27 15 (by decide)).trans (fn rfl (by decide))))
      have hey151 : Fvy142 16 = F 16 := ((hFvy142 16 (by decide)).trans ((hFvy27 16 (by decide)).trans (fn rfl (by decide))))
      have hey152 : Fvy142 17 = F 17 := ((hFvy142 17 (by decide)).trans ((hFvy27 17 (by decide)).trans (fn rfl (by decide))))
      have hey153 : Fvy142 18 = F 18 := ((hFvy142 18 (by decide)).trans ((hFvy27 18 (by decide)).trans (fn rfl (by decide))))
      have hey154 : Fvy142 19 = F 19 := ((hFvy142 19 (by decide)).trans ((hFvy27 19 (by decide)).trans (fn rfl (by decide))))
      have hey155 : Fvy142 20 = F 20 := ((hFvy142 20 (by decide)).trans ((hFvy27 20 (by decide)).trans (fn rfl (by decide))))
      have hey156 : Fvy142 23 = F 23 := ((hFvy142 23 (by decide)).trans ((hFvy27 23 (by decide)).trans (fn rfl (by decide))))
      have hey157 : Fvy142 25 = F 25 := ((hFvy142 25 (by decide)).trans ((hFvy27 25 (by decide)).trans (fn rfl (by decide))))
      have hey158 : Fvy142 27 = F 27 := ((hFvy142 27 (by decide)).trans ((hFvy27 27 (by decide)).trans (fn rfl (by decide))))
      have hey159 : Fvy142 28 = F 28 := ((hFvy142 28 (by decide)).trans ((hFvy27 28 (by decide)).trans (fn rfl (by decide))))
      have hey160 : Fvy142 29 = F 29 := ((hFvy142 29 (by decide)).trans ((hFvy27 29 (by decide)).trans (fn rfl (by decide))))
      have hKy161 : okF Fvy142 := by unfold okF; omega
      have hMy162 : okMr cs ad gvy142 i (x + 1) Fvy142 r := okMr.upd hM hcvy142 hKy161 (fun f a => hFy147 f (by omega)) hgy146 (hA.mono (by omega)) (fun j a b => by
          exact Or.inl (by rw [hfvy142 _ (by omega)]; rw [hfvy27 _ (by omega)]; rw [egy25, va_up_ne _ _ (by omega)]))
      have h23 : Fvy142 23 = F 23 := ((hFvy142 23 (by decide)).trans ((hFvy27 23 (by decide)).trans (fn rfl (by decide))))
      exact z_iret C hr hlk dX10_once_28 (by decide) (by decide) ⟨0, rfl, rfl, rfl, by omega, ⟨_, _, hMy162, by omega⟩, fun j j1 => by rw [hfvy142 _ (by omega)]; rw [hfvy27 _ (by omega)]; rw [egy25, va_up_ne _ _ (by omega)]⟩
  · refine z_if_eq (tgt := 27) C dX10_once_10 (by decide) (by omega) (fun _ => ?_) (fun h => absurd h (by omega))
    refine z_iconst (z := 0) C dX10_once_27 rfl ?_
    have hgy163 := up_n egy25 ha1 (ne_o (i := i) (c := 1) (d := 0) rfl)
    have hgy164 := (hfvy27 (i + 1) (ne_o (i := i) (c := 1) (d := 0) rfl)).trans hgy163
    have hFy165 : ∀ f, f ≠ 12 → Fvy27 f = F f := fun f n12 => ((hFvy27 f n12).trans ((uZ_n _ _ n12).trans rfl))
    have hey166 : Fvy27 13 = F 13 := ((hFvy27 13 (by decide)).trans (fn rfl (by decide)))
    have hey167 : Fvy27 14 = F 14 := ((hFvy27 14 (by decide)).trans (fn rfl (by decide)))
    have hey168 : Fvy27 15 = F 15 := ((hFvy27 15 (by decide)).trans (fn rfl (by decide)))
    have hey169 : Fvy27 16 = F 16 := ((hFvy27 16 (by decide)).trans (fn rfl (by decide)))
    have hey170 : Fvy27 17 = F 17 := ((hFvy27 17 (by decide)).trans (fn rfl (by decide)))
    have hey171 : Fvy27 18 = F 18 := ((hFvy27 18 (by decide)).trans (fn rfl (by decide)))
    have hey172 : Fvy27 19 = F 19 := ((hFvy27 19 (by decide)).trans (fn rfl (by decide)))
    have hey173 : Fvy27 20 = F 20 := ((hFvy27 20 (by decide)).trans (fn rfl (by decide)))
    have hey174 : Fvy27 23 = F 23 := ((hFvy27 23 (by decide)).trans (fn rfl (by decide)))
    have hey175 : Fvy27 25 = F 25 := ((hFvy27 25 (by decide)).trans (fn rfl (by decide)))
    have hey176 : Fvy27 27 = F 27 := ((hFvy27 27 (by decide)).trans (fn rfl (by decide)))
    have hey177 : Fvy27 28 = F 28 := ((hFvy27 28 (by decide)).trans (fn rfl (by decide)))
    have hey178 : Fvy27 29 = F 29 := ((hFvy27 29 (by decide)).trans (fn rfl (by decide)))
    have hKy179 : okF Fvy27 := by unfold okF; omega
    have hMy180 : okMr cs ad gvy27 i (x + 1) Fvy27 r := okMr.upd hM hcvy27 hKy179 (fun f a => hFy165 f (by omega)) hgy164 (hA.mono (by omega)) (fun j a b => by
        exact Or.inl (by rw [hfvy27 _ (by omega)]; rw [egy25, va_up_ne _ _ (by omega)]))
    have h23 : Fvy27 23 = F 23 := ((hFvy27 23 (by decide)).trans (fn rfl (by decide)))
    exact z_iret C hr hlk dX10_once_28 (by decide) (by decide) ⟨0, rfl, rfl, rfl, by omega, ⟨_, _, hMy180, by omega⟩, fun j j1 => by rw [hfvy27 _ (by omega)]; rw [egy25, va_up_ne _ _ (by omega)]⟩

set_option maxRecDepth 100000 in
set_option maxHeartbeats 4000000 in
theorem c_X10_once_b (l : Launch) (D : va_G) (A : Nat → Prop) (cs : Nat → ClassId) (tt : Nat) (N : Nat) (ad : Nat → Nat) (g : Nat → va_E) (i : Nat) (hN : i + 30 ≤ N) (x : Int) (hx : 0 ≤ x ∧ x ≤ 512) (F r : Nat → Int) (hM : okMr cs ad g i x F r) (z : Int) (hz : -2147483648 ≤ z ∧ z ≤ 2147483647) (hzo : z < 0 ∨ 3 < z) (z1 : Int) (hz1 : -2147483648 ≤ z1 ∧ z1 ≤ 2147483647) : zM l yX10_once cX10_once 4 (some .int) ({ frames := 11, cells := 0, slots := 0, locals := 660 } : Room) D A cs tt N ad g [.ref (ad i), .int (zI (z)), .int (zI (z1))] (rI0 N ad fun q g' => (-2147483648 ≤ q ∧ q ≤ 2147483647) ∧ (∃ F' r' : Nat → Int, okMr cs ad g' i (x + 1) F' r' ∧ F' 23 = F 23) ∧ ∀ j, j < i ∨ i + 30 ≤ j → g' j = g j) := by
  obtain ⟨hg, ⟨⟨e13, e14, e25, e27, e29⟩, k15, k16, k17, k18, k19, k20, k23⟩, hRD, hTx, hA, st, op, ai, fa, mu, tb, ns, nh, nd, rf, pi, tp, te, ki, li, ok1, ok2, fo, dd, dps, ⟨ha1, ha2, ha3, ha4, ha5, ha6, ha7, ha8, ha9, ha10, ha11, ha12, ha13, ha14, ha15, ha24, ha25, ha26, ha27, ha28, ha29⟩, hEv, hPt, hns, htp⟩ := id hM
  obtain ⟨-, hop, hai, hfa, hT, hT1⟩ := id hEv
  have hay1 : zAt ad (i) (ad i) := rfl
  have hay2 : zAt ad (i + 1) (ad (i + 1)) := rfl
  have hay3 : zAt ad (i + 2) (ad (i + 2)) := rfl
  have hay4 : zAt ad (i + 3) (ad (i + 3)) := rfl
  have hay5 : zAt ad (i + 4) (ad (i + 4)) := rfl
  have hay6 : zAt ad (i + 5) (ad (i + 5)) := rfl
  have hay7 : zAt ad (i + 6) (ad (i + 6)) := rfl
  have hay8 : zAt ad (i + 7) (ad (i + 7)) := rfl
  have hay9 : zAt ad (i + 8) (ad (i + 8)) := rfl
  have hay10 : zAt ad (i + 9) (ad (i + 9)) := rfl
  have hay11 : zAt ad (i + 10) (ad (i + 10)) := rfl
  have hay12 : zAt ad (i + 11) (ad (i + 11)) := rfl
  have hay13 : zAt ad (i + 12) (ad (i + 12)) := rfl
  have hay14 : zAt ad (i + 13) (ad (i + 13)) := rfl
  have hay15 : zAt ad (i + 14) (ad (i + 14)) := rfl
  have hay16 : zAt ad (i + 15) (ad (i + 15)) := rfl
  have hay17 : zAt ad (i + 24) (ad (i + 24)) := rfl
  have hay18 : zAt ad (i + 25) (ad (i + 25)) := rfl
  have hay19 : zAt ad (i + 26) (ad (i + 26)) := rfl
  have hay20 : zAt ad (i + 27) (ad (i + 27)) := rfl
  have hay21 : zAt ad (i + 28) (ad (i + 28)) := rfl
  have hay22 : zAt ad (i + 29) (ad (i + 29)) := rfl
  obtain ⟨⟨hsyy23, htyy23, hnyy23, hpyy23⟩, hlyy23⟩ := okA.at0 hA
  simp only [Nat.zero_add] at hsyy23 hnyy23 hpyy23
  have hmn : ∀ s, s < 4 → 0 ≤ r (6 + 86 * s) ∧ r (6 + 86 * s) ≤ 12 := fun s hs => (hsyy23 s hs).1
  have h5 : 0 ≤ r 5 ∧ r 5 ≤ 6 := hpyy23
  refine z_of (by decide) (Nat.le_of_ble_eq_true rfl) ?_
  intro pZ eZ sZ mZ below meth cZ C hr hlk hnm
  refine z_lv (lv' := [(0, .ref (ad i)), (1, .int (zI (z))), (2, .int (zI (z1)))]) [0, 1, 2] rfl ?_
  refine z_aload_n C 0 dX10_once_0 rfl ?_
  refine z_iconst (z := 0) C dX10_once_1 rfl ?_
  refine z_put (fs' := mF ad (i) (uZ F 12 (0))) C (by omega) hay1 hg tyX10 tyX10_ok nmX10 rfl inA_X10 12 (by decide) q_1471 rfl rfl rfl rfl (Nat.le_of_ble_eq_true rfl) rfl dX10_once_2 (fun gy24 egy25 => ?_)
  have hgy26 := up_s egy25
  refine z_aload_n C 0 dX10_once_5 rfl ?_
  refine z_iload_n C 1 dX10_once_6 rfl ?_
  have h13vy27 : (uZ F 12 (0)) 13 = F 13 := (fn rfl (by decide))
  have hey28 : (uZ F 12 (0)) 12 = 0 := (uZ_s _ _ _)
  refine z_cV (As := [.int (zI (z))]) (rest := []) (ci := 12) C (c_X10_isSlope l D A cs tt N ad _ i hN _ hgy26 (by omega) (by omega) (z) (by omega)) (by omega) hay1 hgy26 rfl rfl mv_yX10_isSlope q_1803 hd_yX10_isSlope (by decide) (Nat.le_of_ble_eq_true rfl) (by decide) dX10_once_7 rfl (kI0 fun vy27 gvy27 hvy27 => ?_)
  rw [h13vy27] at hvy27
  obtain ⟨hrvy27, ⟨Fvy27, hcvy27, htvy27, hFvy27⟩, hfvy27⟩ := hvy27
  obtain rfl : vy27 = 0 := by omega
  refine z_if_eq (tgt := 27) C dX10_once_10 (by decide) (by omega) (fun _ => ?_) (fun h => absurd h (by omega))
  refine z_iconst (z := 0) C dX10_once_27 rfl ?_
  have hgy29 := up_n egy25 ha1 (ne_o (i := i) (c := 1) (d := 0) rfl)
  have hgy30 := (hfvy27 (i + 1) (ne_o (i := i) (c := 1) (d := 0) rfl)).trans hgy29
  have hFy31 : ∀ f, f ≠ 12 → Fvy27 f = F f := fun f n12 => ((hFvy27 f n12).trans ((uZ_n _ _ n12).trans rfl))
  have hey32 : Fvy27 13 = F 13 := ((hFvy27 13 (by decide)).trans (fn rfl (by decide)))
  have hey33 : Fvy27 14 = F 14 := ((hFvy27 14 (by decide)).trans (fn rfl (by decide)))
  have hey34 : Fvy27 15 = F 15 := ((hFvy27 15 (by decide)).trans (fn rfl (by decide)))
  have hey35 : Fvy27 16 = F 16 := ((hFvy27 16 (by decide)).trans (fn rfl (by decide)))
  have hey36 : Fvy27 17 = F 17 := ((hFvy27 17 (by decide)).trans (fn rfl (by decide)))
  have hey37 : Fvy27 18 = F 18 := ((hFvy27 18 (by decide)).trans (fn rfl (by decide)))
  have hey38 : Fvy27 19 = F 19 := ((hFvy27 19 (by decide)).trans (fn rfl (by decide)))
  have hey39 : Fvy27 20 = F 20 := ((hFvy27 20 (by decide)).trans (fn rfl (by decide)))
  have hey40 : Fvy27 23 = F 23 := ((hFvy27 23 (by decide)).trans (fn rfl (by decide)))
  have hey41 : Fvy27 25 = F 25 := ((hFvy27 25 (by decide)).trans (fn rfl (by decide)))
  have hey42 : Fvy27 27 = F 27 := ((hFvy27 27 (by decide)).trans (fn rfl (by decide)))
  have hey43 : Fvy27 28 = F 28 := ((hFvy27 28 (by decide)).trans (fn rfl (by decide)))
  have hey44 : Fvy27 29 = F 29 := ((hFvy27 29 (by decide)).trans (fn rfl (by decide)))
  have hKy45 : okF Fvy27 := by unfold okF; omega
  have hMy46 : okMr cs ad gvy27 i (x + 1) Fvy27 r := okMr.upd hM hcvy27 hKy45 (fun f a => hFy31 f (by omega)) hgy30 (hA.mono (by omega)) (fun j a b => by
      exact Or.inl (by rw [hfvy27 _ (by omega)]; rw [egy25, va_up_ne _ _ (by omega)]))
  have h23 : Fvy27 23 = F 23 := ((hFvy27 23 (by decide)).trans (fn rfl (by decide)))
  exact z_iret C hr hlk dX10_once_28 (by decide) (by decide) ⟨0, rfl, rfl, rfl, by omega, ⟨_, _, hMy46, by omega⟩, fun j j1 => by rw [hfvy27 _ (by omega)]; rw [egy25, va_up_ne _ _ (by omega)]⟩

set_option maxRecDepth 100000 in
set_option maxHeartbeats 4000000 in
theorem c_X10_once (l : Launch) (D : va_G) (A : Nat → Prop) (cs : Nat → ClassId) (tt : Nat) (N : Nat) (ad : Nat → Nat) (g : Nat → va_E) (i : Nat) (hN : i + 30 ≤ N) (x : Int) (hx : 0 ≤ x ∧ x ≤ 512) (F r : Nat → Int) (hM : okMr cs ad g i x F r) (z : Int) (hz : -2147483648 ≤ z ∧ z ≤ 2147483647) (z1 : Int) (hz1 : -2147483648 ≤ z1 ∧ z1 ≤ 2147483647) : zM l yX10_once cX10_once 4 (some .int) ({ frames := 11, cells := 0, slots := 0, locals := 660 } : Room) D A cs tt N ad g [.ref (ad i), .int (zI (z)), .int (zI (z1))] (rI0 N ad fun q g' => (-2147483648 ≤ q ∧ q ≤ 2147483647) ∧ (∃ F' r' : Nat → Int, okMr cs ad g' i (x + 1) F' r' ∧ F' 23 = F 23) ∧ ∀ j, j < i ∨ i + 30 ≤ j → g' j = g j) := by
  by_cases h9 : 0 ≤ z ∧ z ≤ 3
  · obtain ⟨n, rfl⟩ : ∃ n : Nat, z = (n : Int) := ⟨z.toNat, by omega⟩
    exact c_X10_once_a l D A cs tt N ad g i hN x hx F r hM n (by omega) z1 hz1
  · exact c_X10_once_b l D A cs tt N ad g i hN x hx F r hM z hz (by omega) z1 hz1

set_option maxRecDepth 100000 in
set_option maxHeartbeats 4000000 in
theorem c_X10_isNamed (l : Launch) (D : va_G) (A : Nat → Prop) (cs : Nat → ClassId) (tt : Nat) (N : Nat) (ad : Nat → Nat) (g : Nat → va_E) (i : Nat) (hN : i + 30 ≤ N) (F : Nat → Int) (hg : g i = mC ad i F) (r : Nat → Int) (ha1 : g (i + 1) = iA cs 29200 r) (b : Nat) (hb : b + 350 ≤ 29200) (hmn : ∀ s, s < 4 → 0 ≤ r (b + 6 + 86 * s) ∧ r (b + 6 + 86 * s) ≤ 12) (h13 : 0 ≤ F 13 ∧ F 13 ≤ 4) (z : Int) (hz : -2147483648 ≤ z ∧ z ≤ 2147483647) : zM l yX10_isNamed cX10_isNamed 5 (some .boolean) ({ frames := 3, cells := 0, slots := 0, locals := 180 } : Room) D A cs tt N ad g [.ref (ad i), .int (zI ((b : Int))), .int (zI (z))] (rI0 N ad fun r g' => (0 ≤ r ∧ r ≤ 1) ∧ g = g') := by
  have hay1 : zAt ad (i) (ad i) := rfl
  have hay2 : zAt ad (i + 1) (ad (i + 1)) := rfl
  refine z_of (by decide) (Nat.le_of_ble_eq_true rfl) ?_
  intro pZ eZ sZ mZ below meth cZ C hr hlk hnm
  refine z_lv (lv' := [(0, .ref (ad i)), (1, .int (zI ((b : Int)))), (2, .int (zI (z)))]) [0, 1, 2] rfl ?_
  have lpo : ∀ (n9 : Nat) (ss : Int) (g1 : Nat → va_E), (5 - ss).toNat = n9 → (g = g1) → (0 ≤ ss ∧ ss ≤ F 13) → zV pZ l eZ ({ frames := 3, cells := 0, slots := 0, locals := 180 } : Room) sZ mZ ([.ref (ad i), .int (zI ((b : Int))), .int (zI (z))] : List Value).toArray below meth cZ (MQ below (zPost D A (rI0 N ad fun r g' => (0 ≤ r ∧ r ≤ 1) ∧ g = g')) ([.ref (ad i), .int (zI ((b : Int))), .int (zI (z))] : List Value).toArray sZ ({ frames := 3, cells := 0, slots := 0, locals := 180 } : Room).cells ({ frames := 3, cells := 0, slots := 0, locals := 180 } : Room).slots A) D A 5 (N) ad g1 (0) (0) 2 [(0, .ref (ad i)), (1, .int (zI ((b : Int)))), (2, .int (zI (z))), (3, .int (zI (ss)))] [] := by
    intro n9
    induction n9 using Nat.strongRecOn with
    | ind n9 ih_lpo =>
      intro ss g1 hm9 hg1 hvo
      subst hg1
      refine z_iload_n C 3 dX10_isNamed_2 rfl ?_
      refine z_aload_n C 0 dX10_isNamed_3 rfl ?_
      refine z_get (v := .int (zI (F 13))) C (by omega) hay1 hg rfl inA_X10 13 (by decide) q_1472 rfl (fv (F := F) (f := 13) rfl) dX10_isNamed_4 ?_
      refine z_icmp_ge (tgt := 52) C dX10_isNamed_7 (by decide) (by omega) (by omega) (fun hby3 => ?_) (fun hby3 => ?_)
      · refine z_iconst (z := 0) C dX10_isNamed_52 rfl ?_
        exact z_zret C hr hlk dX10_isNamed_53 (by decide) (by decide) (by decide) ⟨0, rfl, rfl, rfl, by omega, rfl⟩
      · refine z_iconst (z := 0) C dX10_isNamed_10 rfl ?_
        refine z_istore (lv' := [(4, .int (zI (0))), (0, .ref (ad i)), (1, .int (zI ((b : Int)))), (2, .int (zI (z))), (3, .int (zI (ss)))]) C dX10_isNamed_11 (by decide) rfl ?_
        have lpi : ∀ (n9 : Nat) (s2 : Int) (ll : Int) (g1 : Nat → va_E), (13 - ll).toNat = n9 → (g = g1) → (s2 = ss) → (0 ≤ ll ∧ ll ≤ 12) → zV pZ l eZ ({ frames := 3, cells := 0, slots := 0, locals := 180 } : Room) sZ mZ ([.ref (ad i), .int (zI ((b : Int))), .int (zI (z))] : List Value).toArray below meth cZ (MQ below (zPost D A (rI0 N ad fun r g' => (0 ≤ r ∧ r ≤ 1) ∧ g = g')) ([.ref (ad i), .int (zI ((b : Int))), .int (zI (z))] : List Value).toArray sZ ({ frames := 3, cells := 0, slots := 0, locals := 180 } : Room).cells ({ frames := 3, cells := 0, slots := 0, locals := 180 } : Room).slots A) D A 5 (N) ad g1 (0) (0) 13 [(0, .ref (ad i)), (1, .int (zI ((b : Int)))), (2, .int (zI (z))), (3, .int (zI (s2))), (4, .int (zI (ll)))] [] := by
          intro n9
          induction n9 using Nat.strongRecOn with
          | ind n9 ih_lpi =>
            intro s2 ll g1 hm9 hg2 hvs hvi
            subst hg2
            refine z_iload C 4 dX10_isNamed_13 rfl ?_
            refine z_aload_n C 0 dX10_isNamed_15 rfl ?_
            refine z_iload_n C 1 dX10_isNamed_16 rfl ?_
            refine z_iload_n C 3 dX10_isNamed_17 rfl ?_
            obtain ⟨ny4, hny4⟩ : ∃ n9 : Nat, s2 = (n9 : Int) := ⟨(s2).toNat, by omega⟩
            rw [hny4]
            obtain ⟨py5, hpy5⟩ : ∃ p9 : Nat, b + 6 + 86 * ny4 = p9 := ⟨_, rfl⟩
            have hmpy5 := hmn ny4 (by omega)
            rw [hpy5] at hmpy5
            refine z_cV (As := [.int (zI ((b : Int))), .int (zI ((ny4 : Int)))]) (rest := [.int (zI (ll))]) (ci := 12) C (c_X10_many l D A cs tt N ad _ i hN _ hg _ ha1 b ny4 py5 hpy5 (by omega) (by omega)) (by omega) hay1 hg rfl rfl mv_yX10_many q_1733 hd_yX10_many (by decide) (Nat.le_of_ble_eq_true rfl) (by decide) dX10_isNamed_18 rfl (kI0 fun vy6 gvy6 hvy6 => ?_)
            obtain ⟨rfl, rfl⟩ := hvy6
            refine z_icmp_ge (tgt := 46) C dX10_isNamed_21 (by decide) (by omega) (by omega) (fun hby7 => ?_) (fun hby7 => ?_)
            · refine z_iinc (z := (ny4 : Int) + 1) (lv' := [(3, .int (zI ((ny4 : Int) + 1))), (0, .ref (ad i)), (1, .int (zI ((b : Int)))), (2, .int (zI (z))), (4, .int (zI (ll)))]) (j := 3) C dX10_isNamed_46 rfl rfl (by decide) rfl ?_
              refine z_goto (tgt := 2) C dX10_isNamed_49 (by decide) ?_
              refine z_lv (lv' := [(0, .ref (ad i)), (1, .int (zI ((b : Int)))), (2, .int (zI (z))), (3, .int (zI ((ny4 : Int) + 1)))]) [1, 2, 3, 0] rfl ?_
              exact ih_lpo _ (by omega) ((ny4 : Int) + 1) _ rfl rfl (by omega)
            · refine z_aload_n C 0 dX10_isNamed_24 rfl ?_
              refine z_iload_n C 1 dX10_isNamed_25 rfl ?_
              refine z_iload_n C 3 dX10_isNamed_26 rfl ?_
              refine z_iload C 4 dX10_isNamed_27 rfl ?_
              refine z_bipush (z := 6) C dX10_isNamed_29 (by decide) ?_
              obtain ⟨ky8, hky8⟩ : ∃ k9 : Nat, (ll) = (k9 : Int) := ⟨((ll) : Int).toNat, by omega⟩
              obtain ⟨qy9, hqy9⟩ : ∃ q9 : Nat, py5 + 2 + 7 * ky8 = q9 := ⟨_, rfl⟩
              refine z_cV (As := [.int (zI ((b : Int))), .int (zI ((ny4 : Int))), .int (zI (ll)), .int (zI (6))]) (rest := []) (ci := 12) C (c_X10_of l D A cs tt N ad _ i hN _ hg _ ha1 b ny4 py5 hpy5 (by omega) (by omega) (ll) (6) (qy9 + 6) (by omega) (by omega) (by omega)) (by omega) hay1 hg rfl rfl mv_yX10_of q_1749 hd_yX10_of (by decide) (Nat.le_of_ble_eq_true rfl) (by decide) dX10_isNamed_31 rfl (kI0 fun vy10 gvy10 hvy10 => ?_)
              obtain ⟨rfl, rfl⟩ := hvy10
              refine z_iload_n C 2 dX10_isNamed_34 rfl ?_
              obtain ⟨xy11, exy12, hxy13⟩ := zI_of (zI (r (qy9 + 6)))
              rw [exy12]
              refine z_icmp_ne (tgt := 40) C dX10_isNamed_35 (by decide) (by omega) (by omega) (fun hby14 => ?_) (fun hby14 => ?_)
              · refine z_iinc (z := ll + 1) (lv' := [(4, .int (zI (ll + 1))), (0, .ref (ad i)), (1, .int (zI ((b : Int)))), (2, .int (zI (z))), (3, .int (zI ((ny4 : Int))))]) (j := 4) C dX10_isNamed_40 rfl rfl (by decide) rfl ?_
                refine z_goto (tgt := 13) C dX10_isNamed_43 (by decide) ?_
                refine z_lv (lv' := [(0, .ref (ad i)), (1, .int (zI ((b : Int)))), (2, .int (zI (z))), (3, .int (zI ((ny4 : Int)))), (4, .int (zI (ll + 1)))]) [1, 2, 3, 4, 0] rfl ?_
                exact ih_lpi _ (by omega) ((ny4 : Int)) (ll + 1) _ rfl rfl (by omega) (by omega)
              · refine z_iconst (z := 1) C dX10_isNamed_38 rfl ?_
                exact z_zret C hr hlk dX10_isNamed_39 (by decide) (by decide) (by decide) ⟨1, rfl, rfl, rfl, by omega, rfl⟩
        refine z_lv (lv' := [(0, .ref (ad i)), (1, .int (zI ((b : Int)))), (2, .int (zI (z))), (3, .int (zI (ss))), (4, .int (zI (0)))]) [1, 2, 3, 4, 0] rfl ?_
        exact lpi _ (ss) (0) _ rfl rfl (by omega) (by omega)
  refine z_iconst (z := 0) C dX10_isNamed_0 rfl ?_
  refine z_istore_n (lv' := [(3, .int (zI (0))), (0, .ref (ad i)), (1, .int (zI ((b : Int)))), (2, .int (zI (z)))]) C dX10_isNamed_1 rfl (by decide) rfl ?_
  refine z_lv (lv' := [(0, .ref (ad i)), (1, .int (zI ((b : Int)))), (2, .int (zI (z))), (3, .int (zI (0)))]) [1, 2, 3, 0] rfl ?_
  exact lpo _ (0) _ rfl rfl (by omega)

set_option maxRecDepth 100000 in
set_option maxHeartbeats 4000000 in
theorem c_X10_gone (l : Launch) (D : va_G) (A : Nat → Prop) (cs : Nat → ClassId) (tt : Nat) (N : Nat) (ad : Nat → Nat) (g : Nat → va_E) (i : Nat) (hN : i + 30 ≤ N) (x : Int) (hx : 0 ≤ x ∧ x ≤ 512) (F r : Nat → Int) (hM : okMr cs ad g i x F r) (z : Int) (hz : -2147483648 ≤ z ∧ z ≤ 2147483647) : zM l yX10_gone cX10_gone 3 (some .int) ({ frames := 9, cells := 0, slots := 0, locals := 540 } : Room) D A cs tt N ad g [.ref (ad i), .int (zI (z))] (rI0 N ad fun q g' => (-2147483648 ≤ q ∧ q ≤ 2147483647) ∧ (∃ F' r' : Nat → Int, okMr cs ad g' i (x + 1) F' r' ∧ F' 23 = F 23) ∧ ∀ j, j < i ∨ i + 30 ≤ j → g' j = g j) := by
  obtain ⟨hg, ⟨⟨e13, e14, e25, e27, e29⟩, k15, k16, k17, k18, k19, k20, k23⟩, hRD, hTx, hA, st, op, ai, fa, mu, tb, ns, nh, nd, rf, pi, tp, te, ki, li, ok1, ok2, fo, dd, dps, ⟨ha1, ha2, ha3, ha4, ha5, ha6, ha7, ha8, ha9, ha10, ha11, ha12, ha13, ha14, ha15, ha24, ha25, ha26, ha27, ha28, ha29⟩, hEv, hPt, hns, htp⟩ := id hM
  obtain ⟨-, hop, hai, hfa, hT, hT1⟩ := id hEv
  have hay1 : zAt ad (i) (ad i) := rfl
  have hay2 : zAt ad (i + 1) (ad (i + 1)) := rfl
  have hay3 : zAt ad (i + 2) (ad (i + 2)) := rfl
  have hay4 : zAt ad (i + 3) (ad (i + 3)) := rfl
  have hay5 : zAt ad (i + 4) (ad (i + 4)) := rfl
  have hay6 : zAt ad (i + 5) (ad (i + 5)) := rfl
  have hay7 : zAt ad (i + 6) (ad (i + 6)) := rfl
  have hay8 : zAt ad (i + 7) (ad (i + 7)) := rfl
  have hay9 : zAt ad (i + 8) (ad (i + 8)) := rfl
  have hay10 : zAt ad (i + 9) (ad (i + 9)) := rfl
  have hay11 : zAt ad (i + 10) (ad (i + 10)) := rfl
  have hay12 : zAt ad (i + 11) (ad (i + 11)) := rfl
  have hay13 : zAt ad (i + 12) (ad (i + 12)) := rfl
  have hay14 : zAt ad (i + 13) (ad (i + 13)) := rfl
  have hay15 : zAt ad (i + 14) (ad (i + 14)) := rfl
  have hay16 : zAt ad (i + 15) (ad (i + 15)) := rfl
  have hay17 : zAt ad (i + 24) (ad (i + 24)) := rfl
  have hay18 : zAt ad (i + 25) (ad (i + 25)) := rfl
  have hay19 : zAt ad (i + 26) (ad (i + 26)) := rfl
  have hay20 : zAt ad (i + 27) (ad (i + 27)) := rfl
  have hay21 : zAt ad (i + 28) (ad (i + 28)) := rfl
  have hay22 : zAt ad (i + 29) (ad (i + 29)) := rfl
  obtain ⟨⟨hsyy23, htyy23, hnyy23, hpyy23⟩, hlyy23⟩ := okA.at0 hA
  simp only [Nat.zero_add] at hsyy23 hnyy23 hpyy23
  have hmn : ∀ s, s < 4 → 0 ≤ r (6 + 86 * s) ∧ r (6 + 86 * s) ≤ 12 := fun s hs => (hsyy23 s hs).1
  have h5 : 0 ≤ r 5 ∧ r 5 ≤ 6 := hpyy23
  refine z_of (by decide) (Nat.le_of_ble_eq_true rfl) ?_
  intro pZ eZ sZ mZ below meth cZ C hr hlk hnm
  refine z_lv (lv' := [(0, .ref (ad i)), (1, .int (zI (z)))]) [0, 1] rfl ?_
  refine z_aload_n C 0 dX10_gone_0 rfl ?_
  refine z_iconst (z := 0) C dX10_gone_1 rfl ?_
  refine z_put (fs' := mF ad (i) (uZ F 12 (0))) C (by omega) hay1 hg tyX10 tyX10_ok nmX10 rfl inA_X10 12 (by decide) q_1471 rfl rfl rfl rfl (Nat.le_of_ble_eq_true rfl) rfl dX10_gone_2 (fun gy24 egy25 => ?_)
  have hgy26 := up_s egy25
  refine z_aload_n C 0 dX10_gone_5 rfl ?_
  refine z_iload_n C 1 dX10_gone_6 rfl ?_
  refine z_iconst (z := 0) C dX10_gone_7 rfl ?_
  refine z_aload_n C 0 dX10_gone_8 rfl ?_
  refine z_get (v := .ref (ad (i + 1))) C (by omega) hay1 hgy26 rfl inA_X10 0 (by decide) q_1459 rfl rfl dX10_gone_9 ?_
  refine z_iconst (z := 1) C dX10_gone_12 rfl ?_
  have hgy27 := up_n egy25 ha1 (ne_o (i := i) (c := 1) (d := 0) rfl)
  refine z_iald C (by omega) hay2 hgy27 (1) (by omega) (by omega) (by decide) dX10_gone_13 ?_
  refine z_iconst (z := 1) C dX10_gone_14 rfl ?_
  refine z_isub C dX10_gone_15 ?_
  refine z_cS (As := [.int (zI (z)), .int (zI (0)), .int (zI ((r (1)) - 1))]) (rest := [.ref (ad i)]) C (c_X10_within l D A cs tt N ad _ (z) (by omega) (0) (by omega) ((r (1)) - 1) (by omega)) ms_yX10_within q_1686 hd_yX10_within (by decide) (Nat.le_of_ble_eq_true rfl) (by decide) dX10_gone_16 rfl (kI0 fun vy28 gvy28 hvy28 => ?_)
  obtain ⟨hvy28, rfl⟩ := hvy28
  rcases hvy28 with ⟨rfl, hxvy28⟩ | ⟨rfl, hxvy28⟩
  · refine z_iconst (z := 1) C dX10_gone_19 rfl ?_
    have hey30 : (uZ F 12 (0)) 12 = 0 := (uZ_s _ _ _)
    refine z_cV (As := [.int (zI (1)), .int (zI (1))]) (rest := []) (ci := 12) C (c_X10_right l D A cs tt N ad _ i hN _ hgy26 (by omega) (1) (by omega) (1) (by omega)) (by omega) hay1 hgy26 rfl rfl mv_yX10_right q_1648 hd_yX10_right (by decide) (Nat.le_of_ble_eq_true rfl) (by decide) dX10_gone_20 rfl (kI0 fun vy29 gvy29 hvy29 => ?_)
    obtain ⟨hrvy29, ⟨Fvy29, hcvy29, htvy29, hFvy29⟩, hfvy29⟩ := hvy29
    rcases (show vy29 = 1 ∨ vy29 = 0 by omega) with rfl | rfl
    · refine z_if_ne (tgt := 28) C dX10_gone_23 (by decide) (by omega) (fun _ => ?_) (fun h => absurd h (by omega))
      refine z_aload_n C 0 dX10_gone_28 rfl ?_
      have hgy31 := (hfvy29 (i + 1) (ne_o (i := i) (c := 1) (d := 0) rfl)).trans hgy27
      refine z_cV (As := []) (rest := []) (ci := 12) C (c_X10_tries l D A cs tt N ad _ i hN _ hcvy29 _ hgy31 (x) hA) (by omega) hay1 hcvy29 rfl rfl mv_yX10_tries q_1980 hd_yX10_tries (by decide) (Nat.le_of_ble_eq_true rfl) (by decide) dX10_gone_29 rfl (kV0 fun gvy32 hvy32 => ?_)
      obtain ⟨⟨rvy32, hdvy32, hAvy32, hWvy32, h0vy32, hyvy32⟩, hfvy32⟩ := hvy32
      obtain ⟨⟨hsyy33, htyy33, hnyy33, hpyy33⟩, hlyy33⟩ := okA.at0 hAvy32
      simp only [Nat.zero_add] at hsyy33 hnyy33 hpyy33
      have hmn : ∀ s, s < 4 → 0 ≤ rvy32 (6 + 86 * s) ∧ rvy32 (6 + 86 * s) ≤ 12 := fun s hs => (hsyy33 s hs).1
      have h5 : 0 ≤ rvy32 5 ∧ rvy32 5 ≤ 6 := hpyy33
      refine z_iconst (z := 0) C dX10_gone_32 rfl ?_
      refine z_istore_n (lv' := [(2, .int (zI (0))), (0, .ref (ad i)), (1, .int (zI (z)))]) C dX10_gone_33 rfl (by decide) rfl ?_
      have lp1 : ∀ (n9 : Nat) (nn : Int) (F9 : Nat → Int) (r9 : Nat → Int) (g1 : Nat → va_E), (73 - nn).toNat = n9 → (okMr cs ad g1 i x F9 r9) → ((∀ f, f ≠ 12 → F9 f = F f)) → (okW r9 350 (x)) → (∀ j, j < i ∨ i + 30 ≤ j → g1 j = g j) → (0 ≤ nn ∧ nn ≤ 73) → (r9 350 ≤ 2000 + nn) → zV pZ l eZ ({ frames := 9, cells := 0, slots := 0, locals := 540 } : Room) sZ mZ ([.ref (ad i), .int (zI (z))] : List Value).toArray below meth cZ (MQ below (zPost D A (rI0 N ad fun q g' => (-2147483648 ≤ q ∧ q ≤ 2147483647) ∧ (∃ F' r' : Nat → Int, okMr cs ad g' i (x + 1) F' r' ∧ F' 23 = F 23) ∧ ∀ j, j < i ∨ i + 30 ≤ j → g' j = g j)) ([.ref (ad i), .int (zI (z))] : List Value).toArray sZ ({ frames := 9, cells := 0, slots := 0, locals := 540 } : Room).cells ({ frames := 9, cells := 0, slots := 0, locals := 540 } : Room).slots A) D A 3 (N) ad g1 (0) (0) 34 [(0, .ref (ad i)), (1, .int (zI (z))), (2, .int (zI (nn)))] [] := by
        intro n9
        induction n9 using Nat.strongRecOn with
        | ind n9 ih_lp1 =>
          intro nn F9 r9 g1 hm9 fM fF fW f3 hvlp10 hvlp11
          obtain ⟨hg_y34, ⟨⟨e13_y34, e14_y34, e25_y34, e27_y34, e29_y34⟩, k15_y34, k16_y34, k17_y34, k18_y34, k19_y34, k20_y34, k23_y34⟩, hRD_y34, hTx_y34, hA_y34, st_y34, op_y34, ai_y34, fa_y34, mu_y34, tb_y34, ns_y34, nh_y34, nd_y34, rf_y34, pi_y34, tp_y34, te_y34, ki_y34, li_y34, ok1_y34, ok2_y34, fo_y34, dd_y34, dps_y34, ⟨ha1_y34, ha2_y34, ha3_y34, ha4_y34, ha5_y34, ha6_y34, ha7_y34, ha8_y34, ha9_y34, ha10_y34, ha11_y34, ha12_y34, ha13_y34, ha14_y34, ha15_y34, ha24_y34, ha25_y34, ha26_y34, ha27_y34, ha28_y34, ha29_y34⟩, hEv_y34, hPt_y34, hns_y34, htp_y34⟩ := id fM
          obtain ⟨-, hop_y34, hai_y34, hfa_y34, hT_y34, hT1_y34⟩ := id hEv_y34
          have e14 := e14_y34
          have e25 := e25_y34
          have e27 := e27_y34
          have e29 := e29_y34
          have hop := hop_y34
          have hai := hai_y34
          have hfa := hfa_y34
          have hT := hT_y34
          have hT1 := hT1_y34
          have hEv := hEv_y34
          have htp := htp_y34
          have hns := hns_y34
          have hPt := hPt_y34
          have hay35 : zAt ad (i) (ad i) := rfl
          have hay36 : zAt ad (i + 1) (ad (i + 1)) := rfl
          have hay37 : zAt ad (i + 2) (ad (i + 2)) := rfl
          have hay38 : zAt ad (i + 3) (ad (i + 3)) := rfl
          have hay39 : zAt ad (i + 4) (ad (i + 4)) := rfl
          have hay40 : zAt ad (i + 5) (ad (i + 5)) := rfl
          have hay41 : zAt ad (i + 6) (ad (i + 6)) := rfl
          have hay42 : zAt ad (i + 7) (ad (i + 7)) := rfl
          have hay43 : zAt ad (i + 8) (ad (i + 8)) := rfl
          have hay44 : zAt ad (i + 9) (ad (i + 9)) := rfl
          have hay45 : zAt ad (i + 10) (ad (i + 10)) := rfl
          have hay46 : zAt ad (i + 11) (ad (i + 11)) := rfl
          have hay47 : zAt ad (i + 12) (ad (i + 12)) := rfl
          have hay48 : zAt ad (i + 13) (ad (i + 13)) := rfl
          have hay49 : zAt ad (i + 14) (ad (i + 14)) := rfl
          have hay50 : zAt ad (i + 15) (ad (i + 15)) := rfl
          have hay51 : zAt ad (i + 24) (ad (i + 24)) := rfl
          have hay52 : zAt ad (i + 25) (ad (i + 25)) := rfl
          have hay53 : zAt ad (i + 26) (ad (i + 26)) := rfl
          have hay54 : zAt ad (i + 27) (ad (i + 27)) := rfl
          have hay55 : zAt ad (i + 28) (ad (i + 28)) := rfl
          have hay56 : zAt ad (i + 29) (ad (i + 29)) := rfl
          obtain ⟨⟨hsyy57, htyy57, hnyy57, hpyy57⟩, hlyy57⟩ := okA.at0 hA_y34
          simp only [Nat.zero_add] at hsyy57 hnyy57 hpyy57
          have hmn : ∀ s, s < 4 → 0 ≤ r9 (6 + 86 * s) ∧ r9 (6 + 86 * s) ≤ 12 := fun s hs => (hsyy57 s hs).1
          have h5 : 0 ≤ r9 5 ∧ r9 5 ≤ 6 := hpyy57
          have h13e : F9 13 = F 13 := fF 13 (by decide)
          have h14e : F9 14 = F 14 := fF 14 (by decide)
          have h17e : F9 17 = F 17 := fF 17 (by decide)
          have h23e : F9 23 = F 23 := fF 23 (by decide)
          have hW2 := fW.2.1
          refine z_iload_n C 2 dX10_gone_34 rfl ?_
          refine z_bipush (z := 72) C dX10_gone_35 (by decide) ?_
          refine z_icmp_gt (tgt := 66) C dX10_gone_37 (by decide) (by omega) (by omega) (fun hby58 => ?_) (fun hby58 => ?_)
          · refine z_iconst (z := -1) C dX10_gone_66 rfl ?_
            have hMy59 : okMr cs ad g1 i (x + 1) F9 r9 := okMr.upd fM hg_y34 fM.2.1 (fun f _ => rfl) ha1_y34 (hA_y34.mono (by omega)) (fun j a b => by
                exact Or.inl (by rfl))
            have h23 : F9 23 = F9 23 := rfl
            exact z_iret C hr hlk dX10_gone_67 (by decide) (by decide) ⟨-1, rfl, rfl, rfl, by omega, ⟨_, _, hMy59, by omega⟩, fun j j1 => by exact f3 j j1⟩
          · refine z_aload_n C 0 dX10_gone_40 rfl ?_
            refine z_sipush (z := 350) C dX10_gone_41 (by decide) ?_
            refine z_iload_n C 1 dX10_gone_44 rfl ?_
            have hey61 : F9 13 = F9 13 := rfl
            refine z_cV (As := [.int (zI (350)), .int (zI (z))]) (rest := []) (ci := 12) C (c_X10_isNamed l D A cs tt N ad _ i hN _ hg_y34 _ ha1_y34 350 (by omega) (fun s hs => (fW.1 s hs).1) (by omega) (z) (by omega)) (by omega) hay35 hg_y34 rfl rfl mv_yX10_isNamed q_1992 hd_yX10_isNamed (by decide) (Nat.le_of_ble_eq_true rfl) (by decide) dX10_gone_45 rfl (kI0 fun vy60 gvy60 hvy60 => ?_)
            obtain ⟨hvy60, rfl⟩ := hvy60
            refine z_if_ne (tgt := 53) C dX10_gone_48 (by decide) (by omega) (fun hby62 => ?_) (fun hby62 => ?_)
            · refine z_aload_n C 0 dX10_gone_53 rfl ?_
              refine z_sipush (z := 350) C dX10_gone_54 (by decide) ?_
              have hey64 : F9 13 = F9 13 := rfl
              have hey65 : F9 14 = F9 14 := rfl
              have hey66 : F9 25 = F9 25 := rfl
              have hey67 : F9 27 = F9 27 := rfl
              have hey68 : F9 28 = F9 28 := rfl
              have hey69 : F9 29 = F9 29 := rfl
              have hEvy63 : okEnv F9 _ _ _ _ _ := ⟨by omega, hop, hai, hfa, hT, hT1⟩
              refine z_cV (As := [.int (zI (350))]) (rest := []) (ci := 12) C (c_X10_hour l D A cs tt N ad _ i hN _ hg_y34 _ ha1_y34 _ ha3_y34 _ ha4_y34 _ ha5_y34 _ ha6_y34 _ ha7_y34 _ ha14_y34 _ ha15_y34 350 (by omega) hEvy63 (x) (by omega) fW (by omega) (by omega)) (by omega) hay35 hg_y34 rfl rfl mv_yX10_hour q_1885 hd_yX10_hour (by decide) (Nat.le_of_ble_eq_true rfl) (by decide) dX10_gone_57 rfl (kV0 fun gvy70 hvy70 => ?_)
              obtain ⟨⟨rvy70, hcvy70, hwvy70, htvy70, hyvy70⟩, ⟨t4vy70, h4vy70⟩, ⟨t5vy70, h5vy70⟩, hfvy70⟩ := hvy70
              have hAy71 : okA rvy70 (x) := okA.tried hA_y34 (fun j a => hyvy70 j (by omega))
              obtain ⟨⟨hsyy72, htyy72, hnyy72, hpyy72⟩, hlyy72⟩ := okA.at0 hAy71
              simp only [Nat.zero_add] at hsyy72 hnyy72 hpyy72
              have hmn : ∀ s, s < 4 → 0 ≤ rvy70 (6 + 86 * s) ∧ rvy70 (6 + 86 * s) ≤ 12 := fun s hs => (hsyy72 s hs).1
              have h5 : 0 ≤ rvy70 5 ∧ rvy70 5 ≤ 6 := hpyy72
              refine z_iinc (z := nn + 1) (lv' := [(2, .int (zI (nn + 1))), (0, .ref (ad i)), (1, .int (zI (z)))]) (j := 2) C dX10_gone_60 rfl rfl (by decide) rfl ?_
              refine z_goto (tgt := 34) C dX10_gone_63 (by decide) ?_
              have hgy73 := (hfvy70 (i) (ne_o (i := i) (c := 0) (d := 1) rfl) (ne_o (i := i) (c := 0) (d := 14) rfl) (ne_o (i := i) (c := 0) (d := 15) rfl)).trans hg_y34
              have hMy74 : okMr cs ad gvy70 i (x) F9 rvy70 := okMr.upd fM hgy73 fM.2.1 (fun f _ => rfl) hcvy70 (hAy71.mono (by omega)) (fun j a b => by
                  by_cases e0 : j = i + 14
                  · exact Or.inr ⟨14, _, e0, lsP.l (by decide), by rw [e0]; exact h4vy70⟩
                  by_cases e1 : j = i + 15
                  · exact Or.inr ⟨15, _, e1, lsP.l (by decide), by rw [e1]; exact h5vy70⟩
                  exact Or.inl (by rw [hfvy70 _ (by omega) (by omega) (by omega)]))
              have hFF : (∀ f, f ≠ 12 → F9 f = F f) := fun f n12 => fF f n12
              have hey75 : F9 13 = F9 13 := rfl
              have hey76 : F9 14 = F9 14 := rfl
              refine z_lv (lv' := [(0, .ref (ad i)), (1, .int (zI (z))), (2, .int (zI (nn + 1)))]) [1, 2, 0] rfl ?_
              exact ih_lp1 _ (by omega) (nn + 1) _ _ gvy70 rfl hMy74 hFF hwvy70 (fun j j1 => by rw [hfvy70 _ (by omega) (by omega) (by omega)]; exact f3 j j1) (by omega) (by omega)
            · refine z_iload_n C 2 dX10_gone_51 rfl ?_
              have hMy77 : okMr cs ad g1 i (x + 1) F9 r9 := okMr.upd fM hg_y34 fM.2.1 (fun f _ => rfl) ha1_y34 (hA_y34.mono (by omega)) (fun j a b => by
                  exact Or.inl (by rfl))
              have h23 : F9 23 = F9 23 := rfl
              exact z_iret C hr hlk dX10_gone_52 (by decide) (by decide) ⟨nn, rfl, rfl, rfl, by omega, ⟨_, _, hMy77, by omega⟩, fun j j1 => by exact f3 j j1⟩
      have hgy78 := (hfvy32 (i) (ne_o (i := i) (c := 0) (d := 1) rfl)).trans hcvy29
      have hFy79 : ∀ f, f ≠ 12 → Fvy29 f = F f := fun f n12 => ((hFvy29 f n12).trans ((uZ_n _ _ n12).trans rfl))
      have hey80 : Fvy29 13 = F 13 := ((hFvy29 13 (by decide)).trans (fn rfl (by decide)))
      have hey81 : Fvy29 14 = F 14 := ((hFvy29 14 (by decide)).trans (fn rfl (by decide)))
      have hey82 : Fvy29 15 = F 15 := ((hFvy29 15 (by decide)).trans (fn rfl (by decide)))
      have hey83 : Fvy29 16 = F 16 := ((hFvy29 16 (by decide)).trans (fn rfl (by decide)))
      have hey84 : Fvy29 17 = F 17 := ((hFvy29 17 (by decide)).trans (fn rfl (by decide)))
      have hey85 : Fvy29 18 = F 18 := ((hFvy29 18 (by decide)).trans (fn rfl (by decide)))
      have hey86 : Fvy29 19 = F 19 := ((hFvy29 19 (by decide)).trans (fn rfl (by decide)))
      have hey87 : Fvy29 20 = F 20 := ((hFvy29 20 (by decide)).trans (fn rfl (by decide)))
      have hey88 : Fvy29 23 = F 23 := ((hFvy29 23 (by decide)).trans (fn rfl (by decide)))
      have hey89 : Fvy29 25 = F 25 := ((hFvy29 25 (by decide)).trans (fn rfl (by decide)))
      have hey90 : Fvy29 27 = F 27 := ((hFvy29 27 (by decide)).trans (fn rfl (by decide)))
      have hey91 : Fvy29 28 = F 28 := ((hFvy29 28 (by decide)).trans (fn rfl (by decide)))
      have hey92 : Fvy29 29 = F 29 := ((hFvy29 29 (by decide)).trans (fn rfl (by decide)))
      have hKy93 : okF Fvy29 := by unfold okF; omega
      have hMy94 : okMr cs ad gvy32 i (x) Fvy29 rvy32 := okMr.upd hM hgy78 hKy93 (fun f a => hFy79 f (by omega)) hdvy32 (hAvy32.mono (by omega)) (fun j a b => by
          exact Or.inl (by rw [hfvy32 _ (by omega)]; rw [hfvy29 _ (by omega)]; rw [egy25, va_up_ne _ _ (by omega)]))
      have hFy95 : ∀ f, f ≠ 12 → Fvy29 f = F f := fun f n12 => ((hFvy29 f n12).trans ((uZ_n _ _ n12).trans rfl))
      have hFF : (∀ f, f ≠ 12 → Fvy29 f = F f) := fun f n12 => (hFy95 f n12)
      have hey96 : Fvy29 13 = F 13 := ((hFvy29 13 (by decide)).trans (fn rfl (by decide)))
      have hey97 : Fvy29 14 = F 14 := ((hFvy29 14 (by decide)).trans (fn rfl (by decide)))
      refine z_lv (lv' := [(0, .ref (ad i)), (1, .int (zI (z))), (2, .int (zI (0)))]) [1, 2, 0] rfl ?_
      exact lp1 _ (0) _ _ gvy32 rfl hMy94 hFF hWvy32 (fun j j1 => by rw [hfvy32 _ (by omega)]; rw [hfvy29 _ (by omega)]; rw [egy25, va_up_ne _ _ (by omega)]) (by omega) (by omega)
    · refine z_if_ne (tgt := 28) C dX10_gone_23 (by decide) (by omega) (fun h => absurd h (by omega)) (fun _ => ?_)
      refine z_iconst (z := 0) C dX10_gone_26 rfl ?_
      have hgy98 := (hfvy29 (i + 1) (ne_o (i := i) (c := 1) (d := 0) rfl)).trans hgy27
      have hFy99 : ∀ f, f ≠ 12 → Fvy29 f = F f := fun f n12 => ((hFvy29 f n12).trans ((uZ_n _ _ n12).trans rfl))
      have hey100 : Fvy29 13 = F 13 := ((hFvy29 13 (by decide)).trans (fn rfl (by decide)))
      have hey101 : Fvy29 14 = F 14 := ((hFvy29 14 (by decide)).trans (fn rfl (by decide)))
      have hey102 : Fvy29 15 = F 15 := ((hFvy29 15 (by decide)).trans (fn rfl (by decide)))
      have hey103 : Fvy29 16 = F 16 := ((hFvy29 16 (by decide)).trans (fn rfl (by decide)))
      have hey104 : Fvy29 17 = F 17 := ((hFvy29 17 (by decide)).trans (fn rfl (by decide)))
      have hey105 : Fvy29 18 = F 18 := ((hFvy29 18 (by decide)).trans (fn rfl (by decide)))
      have hey106 : Fvy29 19 = F 19 := ((hFvy29 19 (by decide)).trans (fn rfl (by decide)))
      have hey107 : Fvy29 20 = F 20 := ((hFvy29 20 (by decide)).trans (fn rfl (by decide)))
      have hey108 : Fvy29 23 = F 23 := ((hFvy29 23 (by decide)).trans (fn rfl (by decide)))
      have hey109 : Fvy29 25 = F 25 := ((hFvy29 25 (by decide)).trans (fn rfl (by decide)))
      have hey110 : Fvy29 27 = F 27 := ((hFvy29 27 (by decide)).trans (fn rfl (by decide)))
      have hey111 : Fvy29 28 = F 28 := ((hFvy29 28 (by decide)).trans (fn rfl (by decide)))
      have hey112 : Fvy29 29 = F 29 := ((hFvy29 29 (by decide)).trans (fn rfl (by decide)))
      have hKy113 : okF Fvy29 := by unfold okF; omega
      have hMy114 : okMr cs ad gvy29 i (x + 1) Fvy29 r := okMr.upd hM hcvy29 hKy113 (fun f a => hFy99 f (by omega)) hgy98 (hA.mono (by omega)) (fun j a b => by
          exact Or.inl (by rw [hfvy29 _ (by omega)]; rw [egy25, va_up_ne _ _ (by omega)]))
      have h23 : Fvy29 23 = F 23 := ((hFvy29 23 (by decide)).trans (fn rfl (by decide)))
      exact z_iret C hr hlk dX10_gone_27 (by decide) (by decide) ⟨0, rfl, rfl, rfl, by omega, ⟨_, _, hMy114, by omega⟩, fun j j1 => by rw [hfvy29 _ (by omega)]; rw [egy25, va_up_ne _ _ (by omega)]⟩
  · refine z_iconst (z := 1) C dX10_gone_19 rfl ?_
    have hey116 : (uZ F 12 (0)) 12 = 0 := (uZ_s _ _ _)
    refine z_cV (As := [.int (zI (0)), .int (zI (1))]) (rest := []) (ci := 12) C (c_X10_right l D A cs tt N ad _ i hN _ hgy26 (by omega) (0) (by omega) (1) (by omega)) (by omega) hay1 hgy26 rfl rfl mv_yX10_right q_1648 hd_yX10_right (by decide) (Nat.le_of_ble_eq_true rfl) (by decide) dX10_gone_20 rfl (kI0 fun vy115 gvy115 hvy115 => ?_)
    obtain ⟨hrvy115, ⟨Fvy115, hcvy115, htvy115, hFvy115⟩, hfvy115⟩ := hvy115
    obtain rfl : vy115 = 0 := by omega
    refine z_if_ne (tgt := 28) C dX10_gone_23 (by decide) (by omega) (fun h => absurd h (by omega)) (fun _ => ?_)
    refine z_iconst (z := 0) C dX10_gone_26 rfl ?_
    have hgy117 := (hfvy115 (i + 1) (ne_o (i := i) (c := 1) (d := 0) rfl)).trans hgy27
    have hFy118 : ∀ f, f ≠ 12 → Fvy115 f = F f := fun f n12 => ((hFvy115 f n12).trans ((uZ_n _ _ n12).trans rfl))
    have hey119 : Fvy115 13 = F 13 := ((hFvy115 13 (by decide)).trans (fn rfl (by decide)))
    have hey120 : Fvy115 14 = F 14 := ((hFvy115 14 (by decide)).trans (fn rfl (by decide)))
    have hey121 : Fvy115 15 = F 15 := ((hFvy115 15 (by decide)).trans (fn rfl (by decide)))
    have hey122 : Fvy115 16 = F 16 := ((hFvy115 16 (by decide)).trans (fn rfl (by decide)))
    have hey123 : Fvy115 17 = F 17 := ((hFvy115 17 (by decide)).trans (fn rfl (by decide)))
    have hey124 : Fvy115 18 = F 18 := ((hFvy115 18 (by decide)).trans (fn rfl (by decide)))
    have hey125 : Fvy115 19 = F 19 := ((hFvy115 19 (by decide)).trans (fn rfl (by decide)))
    have hey126 : Fvy115 20 = F 20 := ((hFvy115 20 (by decide)).trans (fn rfl (by decide)))
    have hey127 : Fvy115 23 = F 23 := ((hFvy115 23 (by decide)).trans (fn rfl (by decide)))
    have hey128 : Fvy115 25 = F 25 := ((hFvy115 25 (by decide)).trans (fn rfl (by decide)))
    have hey129 : Fvy115 27 = F 27 := ((hFvy115 27 (by decide)).trans (fn rfl (by decide)))
    have hey130 : Fvy115 28 = F 28 := ((hFvy115 28 (by decide)).trans (fn rfl (by decide)))
    have hey131 : Fvy115 29 = F 29 := ((hFvy115 29 (by decide)).trans (fn rfl (by decide)))
    have hKy132 : okF Fvy115 := by unfold okF; omega
    have hMy133 : okMr cs ad gvy115 i (x + 1) Fvy115 r := okMr.upd hM hcvy115 hKy132 (fun f a => hFy118 f (by omega)) hgy117 (hA.mono (by omega)) (fun j a b => by
        exact Or.inl (by rw [hfvy115 _ (by omega)]; rw [egy25, va_up_ne _ _ (by omega)]))
    have h23 : Fvy115 23 = F 23 := ((hFvy115 23 (by decide)).trans (fn rfl (by decide)))
    exact z_iret C hr hlk dX10_gone_27 (by decide) (by decide) ⟨0, rfl, rfl, rfl, by omega, ⟨_, _, hMy133, by omega⟩, fun j j1 => by rw [hfvy115 _ (by omega)]; rw [egy25, va_up_ne _ _ (by omega)]⟩

set_option maxRecDepth 100000 in
set_option maxHeartbeats 4000000 in
theorem c_X10_ratioBehind (l : Launch) (D : va_G) (A : Nat → Prop) (cs : Nat → ClassId) (tt : Nat) (N : Nat) (ad : Nat → Nat) (g : Nat → va_E) (i : Nat) (hN : i + 30 ≤ N) (x : Int) (hx : 0 ≤ x ∧ x ≤ 512) (F r : Nat → Int) (hM : okMr cs ad g i x F r) (n : Nat) (hn4 : n < 4) (z : Int) (hz : 0 ≤ z ∧ z ≤ 72) : zM l yX10_ratioBehind cX10_ratioBehind 3 (some .int) ({ frames := 10, cells := 0, slots := 0, locals := 600 } : Room) D A cs tt N ad g [.ref (ad i), .int (zI ((n : Int))), .int (zI (z))] (rI0 N ad fun q g' => (-2147483648 ≤ q ∧ q ≤ 2147483647) ∧ (∃ F' r' : Nat → Int, okMr cs ad g' i x F' r' ∧ (∀ f, F' f = F f)) ∧ ∀ j, j < i ∨ i + 30 ≤ j → g' j = g j) := by
  obtain ⟨hg, ⟨⟨e13, e14, e25, e27, e29⟩, k15, k16, k17, k18, k19, k20, k23⟩, hRD, hTx, hA, st, op, ai, fa, mu, tb, ns, nh, nd, rf, pi, tp, te, ki, li, ok1, ok2, fo, dd, dps, ⟨ha1, ha2, ha3, ha4, ha5, ha6, ha7, ha8, ha9, ha10, ha11, ha12, ha13, ha14, ha15, ha24, ha25, ha26, ha27, ha28, ha29⟩, hEv, hPt, hns, htp⟩ := id hM
  obtain ⟨-, hop, hai, hfa, hT, hT1⟩ := id hEv
  have hay1 : zAt ad (i) (ad i) := rfl
  have hay2 : zAt ad (i + 1) (ad (i + 1)) := rfl
  have hay3 : zAt ad (i + 2) (ad (i + 2)) := rfl
  have hay4 : zAt ad (i + 3) (ad (i + 3)) := rfl
  have hay5 : zAt ad (i + 4) (ad (i + 4)) := rfl
  have hay6 : zAt ad (i + 5) (ad (i + 5)) := rfl
  have hay7 : zAt ad (i + 6) (ad (i + 6)) := rfl
  have hay8 : zAt ad (i + 7) (ad (i + 7)) := rfl
  have hay9 : zAt ad (i + 8) (ad (i + 8)) := rfl
  have hay10 : zAt ad (i + 9) (ad (i + 9)) := rfl
  have hay11 : zAt ad (i + 10) (ad (i + 10)) := rfl
  have hay12 : zAt ad (i + 11) (ad (i + 11)) := rfl
  have hay13 : zAt ad (i + 12) (ad (i + 12)) := rfl
  have hay14 : zAt ad (i + 13) (ad (i + 13)) := rfl
  have hay15 : zAt ad (i + 14) (ad (i + 14)) := rfl
  have hay16 : zAt ad (i + 15) (ad (i + 15)) := rfl
  have hay17 : zAt ad (i + 24) (ad (i + 24)) := rfl
  have hay18 : zAt ad (i + 25) (ad (i + 25)) := rfl
  have hay19 : zAt ad (i + 26) (ad (i + 26)) := rfl
  have hay20 : zAt ad (i + 27) (ad (i + 27)) := rfl
  have hay21 : zAt ad (i + 28) (ad (i + 28)) := rfl
  have hay22 : zAt ad (i + 29) (ad (i + 29)) := rfl
  obtain ⟨⟨hsyy23, htyy23, hnyy23, hpyy23⟩, hlyy23⟩ := okA.at0 hA
  simp only [Nat.zero_add] at hsyy23 hnyy23 hpyy23
  have hmn : ∀ s, s < 4 → 0 ≤ r (6 + 86 * s) ∧ r (6 + 86 * s) ≤ 12 := fun s hs => (hsyy23 s hs).1
  have h5 : 0 ≤ r 5 ∧ r 5 ≤ 6 := hpyy23
  refine z_of (by decide) (Nat.le_of_ble_eq_true rfl) ?_
  intro pZ eZ sZ mZ below meth cZ C hr hlk hnm
  refine z_lv (lv' := [(0, .ref (ad i)), (1, .int (zI ((n : Int)))), (2, .int (zI (z)))]) [0, 1, 2] rfl ?_
  refine z_aload_n C 0 dX10_ratioBehind_0 rfl ?_
  refine z_cV (As := []) (rest := []) (ci := 12) C (c_X10_tries l D A cs tt N ad _ i hN _ hg _ ha1 (x) hA) (by omega) hay1 hg rfl rfl mv_yX10_tries q_1980 hd_yX10_tries (by decide) (Nat.le_of_ble_eq_true rfl) (by decide) dX10_ratioBehind_1 rfl (kV0 fun gvy24 hvy24 => ?_)
  obtain ⟨⟨rvy24, hdvy24, hAvy24, hWvy24, h0vy24, hyvy24⟩, hfvy24⟩ := hvy24
  obtain ⟨⟨hsyy25, htyy25, hnyy25, hpyy25⟩, hlyy25⟩ := okA.at0 hAvy24
  simp only [Nat.zero_add] at hsyy25 hnyy25 hpyy25
  have hmn : ∀ s, s < 4 → 0 ≤ rvy24 (6 + 86 * s) ∧ rvy24 (6 + 86 * s) ≤ 12 := fun s hs => (hsyy25 s hs).1
  have h5 : 0 ≤ rvy24 5 ∧ rvy24 5 ≤ 6 := hpyy25
  refine z_aload_n C 0 dX10_ratioBehind_4 rfl ?_
  refine z_sipush (z := 350) C dX10_ratioBehind_5 (by decide) ?_
  refine z_iload_n C 2 dX10_ratioBehind_8 rfl ?_
  have hgy26 := (hfvy24 (i) (ne_o (i := i) (c := 0) (d := 1) rfl)).trans hg
  have hey28 : F 13 = F 13 := rfl
  have hey29 : F 14 = F 14 := rfl
  have hey30 : F 25 = F 25 := rfl
  have hey31 : F 27 = F 27 := rfl
  have hey32 : F 28 = F 28 := rfl
  have hey33 : F 29 = F 29 := rfl
  have hEvy27 : okEnv F _ _ _ _ _ := ⟨by omega, hop, hai, hfa, hT, hT1⟩
  have hgy35 := (hfvy24 (i + 3) (ne_o (i := i) (c := 3) (d := 1) rfl)).trans ha3
  have hgy36 := (hfvy24 (i + 4) (ne_o (i := i) (c := 4) (d := 1) rfl)).trans ha4
  have hgy37 := (hfvy24 (i + 5) (ne_o (i := i) (c := 5) (d := 1) rfl)).trans ha5
  have hgy38 := (hfvy24 (i + 6) (ne_o (i := i) (c := 6) (d := 1) rfl)).trans ha6
  have hgy39 := (hfvy24 (i + 7) (ne_o (i := i) (c := 7) (d := 1) rfl)).trans ha7
  have hgy40 := (hfvy24 (i + 14) (ne_o (i := i) (c := 14) (d := 1) rfl)).trans ha14
  have hgy41 := (hfvy24 (i + 15) (ne_o (i := i) (c := 15) (d := 1) rfl)).trans ha15
  refine z_cV (As := [.int (zI (350)), .int (zI (z))]) (rest := []) (ci := 12) C (c_X10_goes l D A cs tt N ad _ i hN _ hgy26 _ hdvy24 _ hgy35 _ hgy36 _ hgy37 _ hgy38 _ hgy39 _ hgy40 _ hgy41 350 (by omega) hEvy27 (x) (by omega) hWvy24 (z) (by omega) (by omega) (by omega)) (by omega) hay1 hgy26 rfl rfl mv_yX10_goes q_1881 hd_yX10_goes (by decide) (Nat.le_of_ble_eq_true rfl) (by decide) dX10_ratioBehind_9 rfl (kV0 fun gvy34 hvy34 => ?_)
  obtain ⟨⟨rvy34, hcvy34, hwvy34, htvy34, hyvy34⟩, ⟨t4vy34, h4vy34⟩, ⟨t5vy34, h5vy34⟩, hfvy34⟩ := hvy34
  have hAy42 : okA rvy34 (x) := okA.tried hAvy24 (fun j a => hyvy34 j (by omega))
  obtain ⟨⟨hsyy43, htyy43, hnyy43, hpyy43⟩, hlyy43⟩ := okA.at0 hAy42
  simp only [Nat.zero_add] at hsyy43 hnyy43 hpyy43
  have hmn : ∀ s, s < 4 → 0 ≤ rvy34 (6 + 86 * s) ∧ rvy34 (6 + 86 * s) ≤ 12 := fun s hs => (hsyy43 s hs).1
  have h5 : 0 ≤ rvy34 5 ∧ rvy34 5 ≤ 6 := hpyy43
  refine z_aload_n C 0 dX10_ratioBehind_12 rfl ?_
  refine z_sipush (z := 350) C dX10_ratioBehind_13 (by decide) ?_
  refine z_iload_n C 1 dX10_ratioBehind_16 rfl ?_
  obtain ⟨py44, hpy44⟩ : ∃ p9 : Nat, 350 + 6 + 86 * n = p9 := ⟨_, rfl⟩
  have hgy45 := (hfvy34 (i) (ne_o (i := i) (c := 0) (d := 1) rfl) (ne_o (i := i) (c := 0) (d := 14) rfl) (ne_o (i := i) (c := 0) (d := 15) rfl)).trans hgy26
  have hgy47 := (hfvy24 (i + 2) (ne_o (i := i) (c := 2) (d := 1) rfl)).trans ha2
  have hgy48 := (hfvy34 (i + 2) (ne_o (i := i) (c := 2) (d := 1) rfl) (ne_o (i := i) (c := 2) (d := 14) rfl) (ne_o (i := i) (c := 2) (d := 15) rfl)).trans hgy47
  have hgy49 := (hfvy34 (i + 7) (ne_o (i := i) (c := 7) (d := 1) rfl) (ne_o (i := i) (c := 7) (d := 14) rfl) (ne_o (i := i) (c := 7) (d := 15) rfl)).trans hgy39
  have hqy50 : qS rvy34 py44 := ((hwvy34.1 n (by omega)).of (p2 := py44) (by omega)).q (by have hb9 := mBb (t := rvy34 350 + x) (by omega); omega)
  have hmky51 := hqy50.1
  refine z_cV (As := [.int (zI (350)), .int (zI ((n : Int)))]) (rest := []) (ci := 12) C (c_X10_leastRatio l D A cs tt N ad _ i hN _ hgy45 _ hcvy34 _ hgy48 _ hgy49 350 n py44 hpy44 (by omega) (by omega) hqy50) (by omega) hay1 hgy45 rfl rfl mv_yX10_leastRatio q_1760 hd_yX10_leastRatio (by decide) (Nat.le_of_ble_eq_true rfl) (by decide) dX10_ratioBehind_17 rfl (kI0 fun vy46 gvy46 hvy46 => ?_)
  obtain ⟨hvy46, rfl⟩ := hvy46
  have hMy52 : okMr cs ad gvy34 i (x) F rvy34 := okMr.upd hM hgy45 hM.2.1 (fun f _ => rfl) hcvy34 (hAy42.mono (by omega)) (fun j a b => by
      by_cases e0 : j = i + 14
      · exact Or.inr ⟨14, _, e0, lsP.l (by decide), by rw [e0]; exact h4vy34⟩
      by_cases e1 : j = i + 15
      · exact Or.inr ⟨15, _, e1, lsP.l (by decide), by rw [e1]; exact h5vy34⟩
      exact Or.inl (by rw [hfvy34 _ (by omega) (by omega) (by omega)]; rw [hfvy24 _ (by omega)]))
  exact z_iret C hr hlk dX10_ratioBehind_20 (by decide) (by decide) ⟨vy46, rfl, rfl, rfl, by omega, ⟨_, _, hMy52, fun f  => rfl⟩, fun j j1 => by rw [hfvy34 _ (by omega) (by omega) (by omega)]; rw [hfvy24 _ (by omega)]⟩

set_option maxRecDepth 100000 in
set_option maxHeartbeats 4000000 in
theorem c_X10_matters_a (l : Launch) (D : va_G) (A : Nat → Prop) (cs : Nat → ClassId) (tt : Nat) (N : Nat) (ad : Nat → Nat) (g : Nat → va_E) (i : Nat) (hN : i + 30 ≤ N) (x : Int) (hx : 0 ≤ x ∧ x ≤ 512) (F r : Nat → Int) (hM : okMr cs ad g i x F r) (n : Nat) (hn4 : n < 4) (z1 : Int) (hz1 : -2147483648 ≤ z1 ∧ z1 ≤ 2147483647) (z2 : Int) (hz2 : -2147483648 ≤ z2 ∧ z2 ≤ 2147483647) : zM l yX10_matters cX10_matters 9 (some .int) ({ frames := 11, cells := 0, slots := 0, locals := 660 } : Room) D A cs tt N ad g [.ref (ad i), .int (zI ((n : Int))), .int (zI (z1)), .int (zI (z2))] (rI0 N ad fun q g' => (-2147483648 ≤ q ∧ q ≤ 2147483647) ∧ (∃ F' r' : Nat → Int, okMr cs ad g' i (x + 1) F' r' ∧ F' 23 = F 23) ∧ ∀ j, j < i ∨ i + 30 ≤ j → g' j = g j) := by
  obtain ⟨hg, ⟨⟨e13, e14, e25, e27, e29⟩, k15, k16, k17, k18, k19, k20, k23⟩, hRD, hTx, hA, st, op, ai, fa, mu, tb, ns, nh, nd, rf, pi, tp, te, ki, li, ok1, ok2, fo, dd, dps, ⟨ha1, ha2, ha3, ha4, ha5, ha6, ha7, ha8, ha9, ha10, ha11, ha12, ha13, ha14, ha15, ha24, ha25, ha26, ha27, ha28, ha29⟩, hEv, hPt, hns, htp⟩ := id hM
  obtain ⟨-, hop, hai, hfa, hT, hT1⟩ := id hEv
  have hay1 : zAt ad (i) (ad i) := rfl
  have hay2 : zAt ad (i + 1) (ad (i + 1)) := rfl
  have hay3 : zAt ad (i + 2) (ad (i + 2)) := rfl
  have hay4 : zAt ad (i + 3) (ad (i + 3)) := rfl
  have hay5 : zAt ad (i + 4) (ad (i + 4)) := rfl
  have hay6 : zAt ad (i + 5) (ad (i + 5)) := rfl
  have hay7 : zAt ad (i + 6) (ad (i + 6)) := rfl
  have hay8 : zAt ad (i + 7) (ad (i + 7)) := rfl
  have hay9 : zAt ad (i + 8) (ad (i + 8)) := rfl
  have hay10 : zAt ad (i + 9) (ad (i + 9)) := rfl
  have hay11 : zAt ad (i + 10) (ad (i + 10)) := rfl
  have hay12 : zAt ad (i + 11) (ad (i + 11)) := rfl
  have hay13 : zAt ad (i + 12) (ad (i + 12)) := rfl
  have hay14 : zAt ad (i + 13) (ad (i + 13)) := rfl
  have hay15 : zAt ad (i + 14) (ad (i + 14)) := rfl
  have hay16 : zAt ad (i + 15) (ad (i + 15)) := rfl
  have hay17 : zAt ad (i + 24) (ad (i + 24)) := rfl
  have hay18 : zAt ad (i + 25) (ad (i + 25)) := rfl
  have hay19 : zAt ad (i + 26) (ad (i + 26)) := rfl
  have hay20 : zAt ad (i + 27) (ad (i + 27)) := rfl
  have hay21 : zAt ad (i + 28) (ad (i + 28)) := rfl
  have hay22 : zAt ad (i + 29) (ad (i + 29)) := rfl
  obtain ⟨⟨hsyy23, htyy23, hnyy23, hpyy23⟩, hlyy23⟩ := okA.at0 hA
  simp only [Nat.zero_add] at hsyy23 hnyy23 hpyy23
  have hmn : ∀ s, s < 4 → 0 ≤ r (6 + 86 * s) ∧ r (6 + 86 * s) ≤ 12 := fun s hs => (hsyy23 s hs).1
  have h5 : 0 ≤ r 5 ∧ r 5 ≤ 6 := hpyy23
  refine z_of (by decide) (Nat.le_of_ble_eq_true rfl) ?_
  intro pZ eZ sZ mZ below meth cZ C hr hlk hnm
  refine z_lv (lv' := [(0, .ref (ad i)), (1, .int (zI ((n : Int)))), (2, .int (zI (z1))), (3, .int (zI (z2)))]) [0, 1, 2, 3] rfl ?_
  refine z_aload_n C 0 dX10_matters_0 rfl ?_
  refine z_iconst (z := 0) C dX10_matters_1 rfl ?_
  refine z_put (fs' := mF ad (i) (uZ F 12 (0))) C (by omega) hay1 hg tyX10 tyX10_ok nmX10 rfl inA_X10 12 (by decide) q_1471 rfl rfl rfl rfl (Nat.le_of_ble_eq_true rfl) rfl dX10_matters_2 (fun gy24 egy25 => ?_)
  have hgy26 := up_s egy25
  refine z_aload_n C 0 dX10_matters_5 rfl ?_
  refine z_iload_n C 1 dX10_matters_6 rfl ?_
  have h13vy27 : (uZ F 12 (0)) 13 = F 13 := (fn rfl (by decide))
  have hey28 : (uZ F 12 (0)) 12 = 0 := (uZ_s _ _ _)
  refine z_cV (As := [.int (zI ((n : Int)))]) (rest := []) (ci := 12) C (c_X10_isSlope l D A cs tt N ad _ i hN _ hgy26 (by omega) (by omega) ((n : Int)) (by omega)) (by omega) hay1 hgy26 rfl rfl mv_yX10_isSlope q_1803 hd_yX10_isSlope (by decide) (Nat.le_of_ble_eq_true rfl) (by decide) dX10_matters_7 rfl (kI0 fun vy27 gvy27 hvy27 => ?_)
  rw [h13vy27] at hvy27
  obtain ⟨hrvy27, ⟨Fvy27, hcvy27, htvy27, hFvy27⟩, hfvy27⟩ := hvy27
  rcases (show vy27 = 1 ∨ vy27 = 0 by omega) with rfl | rfl
  · have hxvy27 := hrvy27.2 rfl
    refine z_if_eq (tgt := 42) C dX10_matters_10 (by decide) (by omega) (fun h => absurd h (by omega)) (fun _ => ?_)
    refine z_aload_n C 0 dX10_matters_13 rfl ?_
    refine z_iload_n C 3 dX10_matters_14 rfl ?_
    refine z_iconst (z := 0) C dX10_matters_15 rfl ?_
    refine z_iconst (z := 1) C dX10_matters_16 rfl ?_
    refine z_cS (As := [.int (zI (z2)), .int (zI (0)), .int (zI (1))]) (rest := [.ref (ad i)]) C (c_X10_within l D A cs tt N ad _ (z2) (by omega) (0) (by omega) (1) (by omega)) ms_yX10_within q_1686 hd_yX10_within (by decide) (Nat.le_of_ble_eq_true rfl) (by decide) dX10_matters_17 rfl (kI0 fun vy29 gvy29 hvy29 => ?_)
    obtain ⟨hvy29, rfl⟩ := hvy29
    rcases hvy29 with ⟨rfl, hxvy29⟩ | ⟨rfl, hxvy29⟩
    · refine z_iconst (z := 1) C dX10_matters_20 rfl ?_
      have hey31 : Fvy27 12 = Fvy27 12 := rfl
      refine z_cV (As := [.int (zI (1)), .int (zI (1))]) (rest := []) (ci := 12) C (c_X10_right l D A cs tt N ad _ i hN _ hcvy27 (by omega) (1) (by omega) (1) (by omega)) (by omega) hay1 hcvy27 rfl rfl mv_yX10_right q_1648 hd_yX10_right (by decide) (Nat.le_of_ble_eq_true rfl) (by decide) dX10_matters_21 rfl (kI0 fun vy30 gvy30 hvy30 => ?_)
      obtain ⟨hrvy30, ⟨Fvy30, hcvy30, htvy30, hFvy30⟩, hfvy30⟩ := hvy30
      rcases (show vy30 = 1 ∨ vy30 = 0 by omega) with rfl | rfl
      · refine z_if_eq (tgt := 42) C dX10_matters_24 (by decide) (by omega) (fun h => absurd h (by omega)) (fun _ => ?_)
        refine z_aload_n C 0 dX10_matters_27 rfl ?_
        refine z_iload_n C 2 dX10_matters_28 rfl ?_
        refine z_iconst (z := 1) C dX10_matters_29 rfl ?_
        refine z_bipush (z := 48) C dX10_matters_30 (by decide) ?_
        refine z_cS (As := [.int (zI (z1)), .int (zI (1)), .int (zI (48))]) (rest := [.ref (ad i)]) C (c_X10_within l D A cs tt N ad _ (z1) (by omega) (1) (by omega) (48) (by omega)) ms_yX10_within q_1686 hd_yX10_within (by decide) (Nat.le_of_ble_eq_true rfl) (by decide) dX10_matters_32 rfl (kI0 fun vy32 gvy32 hvy32 => ?_)
        obtain ⟨hvy32, rfl⟩ := hvy32
        rcases hvy32 with ⟨rfl, hxvy32⟩ | ⟨rfl, hxvy32⟩
        · refine z_iconst (z := 2) C dX10_matters_35 rfl ?_
          have hey34 : Fvy30 12 = Fvy30 12 := rfl
          refine z_cV (As := [.int (zI (1)), .int (zI (2))]) (rest := []) (ci := 12) C (c_X10_right l D A cs tt N ad _ i hN _ hcvy30 (by omega) (1) (by omega) (2) (by omega)) (by omega) hay1 hcvy30 rfl rfl mv_yX10_right q_1648 hd_yX10_right (by decide) (Nat.le_of_ble_eq_true rfl) (by decide) dX10_matters_36 rfl (kI0 fun vy33 gvy33 hvy33 => ?_)
          obtain ⟨hrvy33, ⟨Fvy33, hcvy33, htvy33, hFvy33⟩, hfvy33⟩ := hvy33
          rcases (show vy33 = 1 ∨ vy33 = 0 by omega) with rfl | rfl
          · refine z_if_ne (tgt := 44) C dX10_matters_39 (by decide) (by omega) (fun _ => ?_) (fun h => absurd h (by omega))
            refine z_aload_n C 0 dX10_matters_44 rfl ?_
            refine z_iload_n C 1 dX10_matters_45 rfl ?_
            refine z_iload_n C 2 dX10_matters_46 rfl ?_
            have hgy35 := up_n egy25 ha1 (ne_o (i := i) (c := 1) (d := 0) rfl)
            have hgy36 := (hfvy27 (i + 1) (ne_o (i := i) (c := 1) (d := 0) rfl)).trans hgy35
            have hgy37 := (hfvy30 (i + 1) (ne_o (i := i) (c := 1) (d := 0) rfl)).trans hgy36
            have hgy38 := (hfvy33 (i + 1) (ne_o (i := i) (c := 1) (d := 0) rfl)).trans hgy37
            have hFy39 : ∀ f, f ≠ 12 → Fvy33 f = F f := fun f n12 => ((hFvy33 f n12).trans ((hFvy30 f n12).trans ((hFvy27 f n12).trans ((uZ_n _ _ n12).trans rfl))))
            have hey40 : Fvy33 13 = F 13 := ((hFvy33 13 (by decide)).trans ((hFvy30 13 (by decide)).trans ((hFvy27 13 (by decide)).trans (fn rfl (by decide)))))
            have hey41 : Fvy33 14 = F 14 := ((hFvy33 14 (by decide)).trans ((hFvy30 14 (by decide)).trans ((hFvy27 14 (by decide)).trans (fn rfl (by decide)))))
            have hey42 : Fvy33 15 = F 15 := ((hFvy33 15 (by decide)).trans ((hFvy30 15 (by decide)).trans ((hFvy27 15 (by decide)).trans (fn rfl (by decide)))))
            have hey43 : Fvy33 16 = F 16 := ((hFvy33 16 (by decide)).trans ((hFvy30 16 (by decide)).trans ((hFvy27 16 (by decide)).trans (fn rfl (by decide)))))
            have hey44 : Fvy33 17 = F 17 := ((hFvy33 17 (by decide)).trans ((hFvy30 17 (by decide)).trans ((hFvy27 17 (by decide)).trans (fn rfl (by decide)))))
            have hey45 : Fvy33 18 = F 18 := ((hFvy33 18 (by decide)).trans ((hFvy30 18 (by decide)).trans ((hFvy27 18 (by decide)).trans (fn rfl (by decide)))))
            have hey46 : Fvy33 19 = F 19 := ((hFvy33 19 (by decide)).trans ((hFvy30 19 (by decide)).trans ((hFvy27 19 (by decide)).trans (fn rfl (by decide)))))
            have hey47 : Fvy33 20 = F 20 := ((hFvy33 20 (by decide)).trans ((hFvy30 20 (by decide)).trans ((hFvy27 20 (by decide)).trans (fn rfl (by decide)))))
            have hey48 : Fvy33 23 = F 23 := ((hFvy33 23 (by decide)).trans ((hFvy30 23 (by decide)).trans ((hFvy27 23 (by decide)).trans (fn rfl (by decide)))))
            have hey49 : Fvy33 25 = F 25 := ((hFvy33 25 (by decide)).trans ((hFvy30 25 (by decide)).trans ((hFvy27 25 (by decide)).trans (fn rfl (by decide)))))
            have hey50 : Fvy33 27 = F 27 := ((hFvy33 27 (by decide)).trans ((hFvy30 27 (by decide)).trans ((hFvy27 27 (by decide)).trans (fn rfl (by decide)))))
            have hey51 : Fvy33 28 = F 28 := ((hFvy33 28 (by decide)).trans ((hFvy30 28 (by decide)).trans ((hFvy27 28 (by decide)).trans (fn rfl (by decide)))))
            have hey52 : Fvy33 29 = F 29 := ((hFvy33 29 (by decide)).trans ((hFvy30 29 (by decide)).trans ((hFvy27 29 (by decide)).trans (fn rfl (by decide)))))
            have hKy53 : okF Fvy33 := by unfold okF; omega
            have hMy54 : okMr cs ad gvy33 i (x) Fvy33 r := okMr.upd hM hcvy33 hKy53 (fun f a => hFy39 f (by omega)) hgy38 (hA.mono (by omega)) (fun j a b => by
                exact Or.inl (by rw [hfvy33 _ (by omega)]; rw [hfvy30 _ (by omega)]; rw [hfvy27 _ (by omega)]; rw [egy25, va_up_ne _ _ (by omega)]))
            refine z_cV (As := [.int (zI ((n : Int))), .int (zI (z1))]) (rest := []) (ci := 12) C (c_X10_ratioBehind l D A cs tt N ad _ i hN x hx _ _ hMy54 n (by omega) (z1) (by omega)) (by omega) hay1 hcvy33 rfl rfl mv_yX10_ratioBehind q_2019 hd_yX10_ratioBehind (by decide) (Nat.le_of_ble_eq_true rfl) (by decide) dX10_matters_47 rfl (kI0 fun vy55 gvy55 hvy55 => ?_)
            obtain ⟨hrvy55, ⟨Fvy55, rvy55, hMvy55, hFvy55⟩, hfvy55⟩ := hvy55
            have hFy56 : ∀ f, f ≠ 12 → Fvy33 f = F f := fun f n12 => ((hFvy33 f n12).trans ((hFvy30 f n12).trans ((hFvy27 f n12).trans ((uZ_n _ _ n12).trans rfl))))
            have hBvy55 : (∀ f, f ≠ 12 → Fvy55 f = F f) := fun f n12 => (hFvy55 f ).trans (hFy56 f n12)
            have hCvy55 := hBvy55
            have hq13vy55 : Fvy55 13 = F 13 := (hFvy55 13).trans ((hFvy33 13 (by decide)).trans ((hFvy30 13 (by decide)).trans ((hFvy27 13 (by decide)).trans (fn rfl (by decide)))))
            have hq14vy55 : Fvy55 14 = F 14 := (hFvy55 14).trans ((hFvy33 14 (by decide)).trans ((hFvy30 14 (by decide)).trans ((hFvy27 14 (by decide)).trans (fn rfl (by decide)))))
            have hq15vy55 : Fvy55 15 = F 15 := (hFvy55 15).trans ((hFvy33 15 (by decide)).trans ((hFvy30 15 (by decide)).trans ((hFvy27 15 (by decide)).trans (fn rfl (by decide)))))
            have hq17vy55 : Fvy55 17 = F 17 := (hFvy55 17).trans ((hFvy33 17 (by decide)).trans ((hFvy30 17 (by decide)).trans ((hFvy27 17 (by decide)).trans (fn rfl (by decide)))))
            have hq23vy55 : Fvy55 23 = F 23 := (hFvy55 23).trans ((hFvy33 23 (by decide)).trans ((hFvy30 23 (by decide)).trans ((hFvy27 23 (by decide)).trans (fn rfl (by decide)))))
            obtain ⟨hg_y57, ⟨⟨e13_y57, e14_y57, e25_y57, e27_y57, e29_y57⟩, k15_y57, k16_y57, k17_y57, k18_y57, k19_y57, k20_y57, k23_y57⟩, hRD_y57, hTx_y57, hA_y57, st_y57, op_y57, ai_y57, fa_y57, mu_y57, tb_y57, ns_y57, nh_y57, nd_y57, rf_y57, pi_y57, tp_y57, te_y57, ki_y57, li_y57, ok1_y57, ok2_y57, fo_y57, dd_y57, dps_y57, ⟨ha1_y57, ha2_y57, ha3_y57, ha4_y57, ha5_y57, ha6_y57, ha7_y57, ha8_y57, ha9_y57, ha10_y57, ha11_y57, ha12_y57, ha13_y57, ha14_y57, ha15_y57, ha24_y57, ha25_y57, ha26_y57, ha27_y57, ha28_y57, ha29_y57⟩, hEv_y57, hPt_y57, hns_y57, htp_y57⟩ := id hMvy55
            obtain ⟨-, hop_y57, hai_y57, hfa_y57, hT_y57, hT1_y57⟩ := id hEv_y57
            have e14 := e14_y57
            have e25 := e25_y57
            have e27 := e27_y57
            have e29 := e29_y57
            have hop := hop_y57
            have hai := hai_y57
            have hfa := hfa_y57
            have hT := hT_y57
            have hT1 := hT1_y57
            have hEv := hEv_y57
            have htp := htp_y57
            have hns := hns_y57
            have hPt := hPt_y57
            obtain ⟨⟨hsyy58, htyy58, hnyy58, hpyy58⟩, hlyy58⟩ := okA.at0 hA_y57
            simp only [Nat.zero_add] at hsyy58 hnyy58 hpyy58
            have hmn : ∀ s, s < 4 → 0 ≤ rvy55 (6 + 86 * s) ∧ rvy55 (6 + 86 * s) ≤ 12 := fun s hs => (hsyy58 s hs).1
            have h5 : 0 ≤ rvy55 5 ∧ rvy55 5 ≤ 6 := hpyy58
            refine z_istore (lv' := [(4, .int (zI (vy55))), (0, .ref (ad i)), (1, .int (zI ((n : Int)))), (2, .int (zI (z1))), (3, .int (zI (z2)))]) C dX10_matters_50 (by decide) rfl ?_
            refine z_iconst (z := -1) C dX10_matters_52 rfl ?_
            refine z_istore (lv' := [(5, .int (zI (-1))), (4, .int (zI (vy55))), (0, .ref (ad i)), (1, .int (zI ((n : Int)))), (2, .int (zI (z1))), (3, .int (zI (z2)))]) C dX10_matters_53 (by decide) rfl ?_
            refine z_iconst (z := 0) C dX10_matters_55 rfl ?_
            refine z_istore (lv' := [(6, .int (zI (0))), (5, .int (zI (-1))), (4, .int (zI (vy55))), (0, .ref (ad i)), (1, .int (zI ((n : Int)))), (2, .int (zI (z1))), (3, .int (zI (z2)))]) C dX10_matters_56 (by decide) rfl ?_
            refine z_iconst (z := 0) C dX10_matters_58 rfl ?_
            refine z_istore (lv' := [(7, .int (zI (0))), (6, .int (zI (0))), (5, .int (zI (-1))), (4, .int (zI (vy55))), (0, .ref (ad i)), (1, .int (zI ((n : Int)))), (2, .int (zI (z1))), (3, .int (zI (z2)))]) C dX10_matters_59 (by decide) rfl ?_
            obtain ⟨al, hal⟩ : ∃ al : Int, al = vy55 := ⟨_, rfl⟩
            rw [← hal]
            have halr : -2147483648 ≤ al ∧ al ≤ 2147483647 := by omega
            have lp1 : ∀ (n9 : Nat) (wh : Int) (mo : Int) (hh : Int) (F9 : Nat → Int) (r9 : Nat → Int) (g1 : Nat → va_E), (25 - hh).toNat = n9 → (okMr cs ad g1 i x F9 r9) → ((∀ f, f ≠ 12 → f ≠ 26 → F9 f = F f)) → (∀ j, j < i ∨ i + 30 ≤ j → g1 j = g j) → (-2147483648 ≤ wh ∧ wh ≤ 2147483647) → (-2147483648 ≤ mo ∧ mo ≤ 2147483647) → (0 ≤ hh ∧ hh ≤ F 14) → zV pZ l eZ ({ frames := 11, cells := 0, slots := 0, locals := 660 } : Room) sZ mZ ([.ref (ad i), .int (zI ((n : Int))), .int (zI (z1)), .int (zI (z2))] : List Value).toArray below meth cZ (MQ below (zPost D A (rI0 N ad fun q g' => (-2147483648 ≤ q ∧ q ≤ 2147483647) ∧ (∃ F' r' : Nat → Int, okMr cs ad g' i (x + 1) F' r' ∧ F' 23 = F 23) ∧ ∀ j, j < i ∨ i + 30 ≤ j → g' j = g j)) ([.ref (ad i), .int (zI ((n : Int))), .int (zI (z1)), .int (zI (z2))] : List Value).toArray sZ ({ frames := 11, cells := 0, slots := 0, locals := 660 } : Room).cells ({ frames := 11, cells := 0, slots := 0, locals := 660 } : Room).slots A) D A 9 (N) ad g1 (0) (0) 61 [(0, .ref (ad i)), (1, .int (zI ((n : Int)))), (2, .int (zI (z1))), (3, .int (zI (z2))), (4, .int (zI (al))), (5, .int (zI (wh))), (6, .int (zI (mo))), (7, .int (zI (hh)))] [] := by
              intro n9
              induction n9 using Nat.strongRecOn with
              | ind n9 ih_lp1 =>
                intro wh mo hh F9 r9 g1 hm9 fM fF f3 hvlp10 hvlp11 hvlp12
                obtain ⟨hg_y59, ⟨⟨e13_y59, e14_y59, e25_y59, e27_y59, e29_y59⟩, k15_y59, k16_y59, k17_y59, k18_y59, k19_y59, k20_y59, k23_y59⟩, hRD_y59, hTx_y59, hA_y59, st_y59, op_y59, ai_y59, fa_y59, mu_y59, tb_y59, ns_y59, nh_y59, nd_y59, rf_y59, pi_y59, tp_y59, te_y59, ki_y59, li_y59, ok1_y59, ok2_y59, fo_y59, dd_y59, dps_y59, ⟨ha1_y59, ha2_y59, ha3_y59, ha4_y59, ha5_y59, ha6_y59, ha7_y59, ha8_y59, ha9_y59, ha10_y59, ha11_y59, ha12_y59, ha13_y59, ha14_y59, ha15_y59, ha24_y59, ha25_y59, ha26_y59, ha27_y59, ha28_y59, ha29_y59⟩, hEv_y59, hPt_y59, hns_y59, htp_y59⟩ := id fM
                obtain ⟨-, hop_y59, hai_y59, hfa_y59, hT_y59, hT1_y59⟩ := id hEv_y59
                have e14 := e14_y59
                have e25 := e25_y59
                have e27 := e27_y59
                have e29 := e29_y59
                have hop := hop_y59
                have hai := hai_y59
                have hfa := hfa_y59
                have hT := hT_y59
                have hT1 := hT1_y59
                have hEv := hEv_y59
                have htp := htp_y59
                have hns := hns_y59
                have hPt := hPt_y59
                have hay60 : zAt ad (i) (ad i) := rfl
                have hay61 : zAt ad (i + 1) (ad (i + 1)) := rfl
                have hay62 : zAt ad (i + 2) (ad (i + 2)) := rfl
                have hay63 : zAt ad (i + 3) (ad (i + 3)) := rfl
                have hay64 : zAt ad (i + 4) (ad (i + 4)) := rfl
                have hay65 : zAt ad (i + 5) (ad (i + 5)) := rfl
                have hay66 : zAt ad (i + 6) (ad (i + 6)) := rfl
                have hay67 : zAt ad (i + 7) (ad (i + 7)) := rfl
                have hay68 : zAt ad (i + 8) (ad (i + 8)) := rfl
                have hay69 : zAt ad (i + 9) (ad (i + 9)) := rfl
                have hay70 : zAt ad (i + 10) (ad (i + 10)) := rfl
                have hay71 : zAt ad (i + 11) (ad (i + 11)) := rfl
                have hay72 : zAt ad (i + 12) (ad (i + 12)) := rfl
                have hay73 : zAt ad (i + 13) (ad (i + 13)) := rfl
                have hay74 : zAt ad (i + 14) (ad (i + 14)) := rfl
                have hay75 : zAt ad (i + 15) (ad (i + 15)) := rfl
                have hay76 : zAt ad (i + 24) (ad (i + 24)) := rfl
                have hay77 : zAt ad (i + 25) (ad (i + 25)) := rfl
                have hay78 : zAt ad (i + 26) (ad (i + 26)) := rfl
                have hay79 : zAt ad (i + 27) (ad (i + 27)) := rfl
                have hay80 : zAt ad (i + 28) (ad (i + 28)) := rfl
                have hay81 : zAt ad (i + 29) (ad (i + 29)) := rfl
                obtain ⟨⟨hsyy82, htyy82, hnyy82, hpyy82⟩, hlyy82⟩ := okA.at0 hA_y59
                simp only [Nat.zero_add] at hsyy82 hnyy82 hpyy82
                have hmn : ∀ s, s < 4 → 0 ≤ r9 (6 + 86 * s) ∧ r9 (6 + 86 * s) ≤ 12 := fun s hs => (hsyy82 s hs).1
                have h5 : 0 ≤ r9 5 ∧ r9 5 ≤ 6 := hpyy82
                have h13e : F9 13 = F 13 := fF 13 (by decide) (by decide)
                have h14e : F9 14 = F 14 := fF 14 (by decide) (by decide)
                have h17e : F9 17 = F 17 := fF 17 (by decide) (by decide)
                have h23e : F9 23 = F 23 := fF 23 (by decide) (by decide)
                refine z_iload C 7 dX10_matters_61 rfl ?_
                refine z_aload_n C 0 dX10_matters_63 rfl ?_
                refine z_get (v := .int (zI (F9 14))) C (by omega) hay60 hg_y59 rfl inA_X10 14 (by decide) q_1473 rfl (fv (F := F9) (f := 14) rfl) dX10_matters_64 ?_
                refine z_icmp_ge (tgt := 114) C dX10_matters_67 (by decide) (by omega) (by omega) (fun hby83 => ?_) (fun hby83 => ?_)
                · refine z_aload_n C 0 dX10_matters_114 rfl ?_
                  refine z_iconst (z := -1) C dX10_matters_115 rfl ?_
                  refine z_put (fs' := mF ad (i) (uZ F9 26 (-1))) C (by omega) hay60 hg_y59 tyX10 tyX10_ok nmX10 rfl inA_X10 26 (by decide) q_1485 rfl rfl rfl rfl (Nat.le_of_ble_eq_true rfl) rfl dX10_matters_116 (fun gy84 egy85 => ?_)
                  have hgy86 := up_s egy85
                  refine z_iload_n C 3 dX10_matters_119 rfl ?_
                  refine z_if_ne (tgt := 128) C dX10_matters_120 (by decide) (by omega) (fun hby87 => ?_) (fun hby87 => ?_)
                  · refine z_iload C 6 dX10_matters_128 rfl ?_
                    have hgy88 := up_n egy85 ha1_y59 (ne_o (i := i) (c := 1) (d := 0) rfl)
                    have hFy89 : ∀ f, f ≠ 26 → (uZ F9 26 (-1)) f = F9 f := fun f n26 => ((uZ_n _ _ n26).trans rfl)
                    have hey90 : (uZ F9 26 (-1)) 13 = F9 13 := (fn rfl (by decide))
                    have hey91 : (uZ F9 26 (-1)) 14 = F9 14 := (fn rfl (by decide))
                    have hey92 : (uZ F9 26 (-1)) 15 = F9 15 := (fn rfl (by decide))
                    have hey93 : (uZ F9 26 (-1)) 16 = F9 16 := (fn rfl (by decide))
                    have hey94 : (uZ F9 26 (-1)) 17 = F9 17 := (fn rfl (by decide))
                    have hey95 : (uZ F9 26 (-1)) 18 = F9 18 := (fn rfl (by decide))
                    have hey96 : (uZ F9 26 (-1)) 19 = F9 19 := (fn rfl (by decide))
                    have hey97 : (uZ F9 26 (-1)) 20 = F9 20 := (fn rfl (by decide))
                    have hey98 : (uZ F9 26 (-1)) 23 = F9 23 := (fn rfl (by decide))
                    have hey99 : (uZ F9 26 (-1)) 25 = F9 25 := (fn rfl (by decide))
                    have hey100 : (uZ F9 26 (-1)) 27 = F9 27 := (fn rfl (by decide))
                    have hey101 : (uZ F9 26 (-1)) 28 = F9 28 := (fn rfl (by decide))
                    have hey102 : (uZ F9 26 (-1)) 29 = F9 29 := (fn rfl (by decide))
                    have hKy103 : okF (uZ F9 26 (-1)) := by unfold okF; omega
                    have hMy104 : okMr cs ad gy84 i (x + 1) (uZ F9 26 (-1)) r9 := okMr.upd fM hgy86 hKy103 (fun f a => hFy89 f (by omega)) hgy88 (hA_y59.mono (by omega)) (fun j a b => by
                        exact Or.inl (by rw [egy85, va_up_ne _ _ (by omega)]))
                    have h23 : (uZ F9 26 (-1)) 23 = F9 23 := (fn rfl (by decide))
                    exact z_iret C hr hlk dX10_matters_130 (by decide) (by decide) ⟨mo, rfl, rfl, rfl, by omega, ⟨_, _, hMy104, by omega⟩, fun j j1 => by rw [egy85, va_up_ne _ _ (by omega)]; exact f3 j j1⟩
                  · refine z_iload C 5 dX10_matters_123 rfl ?_
                    refine z_goto (tgt := 130) C dX10_matters_125 (by decide) ?_
                    have hgy105 := up_n egy85 ha1_y59 (ne_o (i := i) (c := 1) (d := 0) rfl)
                    have hFy106 : ∀ f, f ≠ 26 → (uZ F9 26 (-1)) f = F9 f := fun f n26 => ((uZ_n _ _ n26).trans rfl)
                    have hey107 : (uZ F9 26 (-1)) 13 = F9 13 := (fn rfl (by decide))
                    have hey108 : (uZ F9 26 (-1)) 14 = F9 14 := (fn rfl (by decide))
                    have hey109 : (uZ F9 26 (-1)) 15 = F9 15 := (fn rfl (by decide))
                    have hey110 : (uZ F9 26 (-1)) 16 = F9 16 := (fn rfl (by decide))
                    have hey111 : (uZ F9 26 (-1)) 17 = F9 17 := (fn rfl (by decide))
                    have hey112 : (uZ F9 26 (-1)) 18 = F9 18 := (fn rfl (by decide))
                    have hey113 : (uZ F9 26 (-1)) 19 = F9 19 := (fn rfl (by decide))
                    have hey114 : (uZ F9 26 (-1)) 20 = F9 20 := (fn rfl (by decide))
                    have hey115 : (uZ F9 26 (-1)) 23 = F9 23 := (fn rfl (by decide))
                    have hey116 : (uZ F9 26 (-1)) 25 = F9 25 := (fn rfl (by decide))
                    have hey117 : (uZ F9 26 (-1)) 27 = F9 27 := (fn rfl (by decide))
                    have hey118 : (uZ F9 26 (-1)) 28 = F9 28 := (fn rfl (by decide))
                    have hey119 : (uZ F9 26 (-1)) 29 = F9 29 := (fn rfl (by decide))
                    have hKy120 : okF (uZ F9 26 (-1)) := by unfold okF; omega
                    have hMy121 : okMr cs ad gy84 i (x + 1) (uZ F9 26 (-1)) r9 := okMr.upd fM hgy86 hKy120 (fun f a => hFy106 f (by omega)) hgy105 (hA_y59.mono (by omega)) (fun j a b => by
                        exact Or.inl (by rw [egy85, va_up_ne _ _ (by omega)]))
                    have h23 : (uZ F9 26 (-1)) 23 = F9 23 := (fn rfl (by decide))
                    exact z_iret C hr hlk dX10_matters_130 (by decide) (by decide) ⟨wh, rfl, rfl, rfl, by omega, ⟨_, _, hMy121, by omega⟩, fun j j1 => by rw [egy85, va_up_ne _ _ (by omega)]; exact f3 j j1⟩
                · refine z_aload_n C 0 dX10_matters_70 rfl ?_
                  refine z_iload C 7 dX10_matters_71 rfl ?_
                  refine z_put (fs' := mF ad (i) (uZ F9 26 (hh))) C (by omega) hay60 hg_y59 tyX10 tyX10_ok nmX10 rfl inA_X10 26 (by decide) q_1485 rfl rfl rfl rfl (Nat.le_of_ble_eq_true rfl) rfl dX10_matters_73 (fun gy122 egy123 => ?_)
                  have hgy124 := up_s egy123
                  refine z_aload_n C 0 dX10_matters_76 rfl ?_
                  refine z_iload_n C 1 dX10_matters_77 rfl ?_
                  refine z_iload_n C 2 dX10_matters_78 rfl ?_
                  have hgy125 := up_n egy123 ha1_y59 (ne_o (i := i) (c := 1) (d := 0) rfl)
                  have hFy126 : ∀ f, f ≠ 26 → (uZ F9 26 (hh)) f = F9 f := fun f n26 => ((uZ_n _ _ n26).trans rfl)
                  have hey127 : (uZ F9 26 (hh)) 13 = F9 13 := (fn rfl (by decide))
                  have hey128 : (uZ F9 26 (hh)) 14 = F9 14 := (fn rfl (by decide))
                  have hey129 : (uZ F9 26 (hh)) 15 = F9 15 := (fn rfl (by decide))
                  have hey130 : (uZ F9 26 (hh)) 16 = F9 16 := (fn rfl (by decide))
                  have hey131 : (uZ F9 26 (hh)) 17 = F9 17 := (fn rfl (by decide))
                  have hey132 : (uZ F9 26 (hh)) 18 = F9 18 := (fn rfl (by decide))
                  have hey133 : (uZ F9 26 (hh)) 19 = F9 19 := (fn rfl (by decide))
                  have hey134 : (uZ F9 26 (hh)) 20 = F9 20 := (fn rfl (by decide))
                  have hey135 : (uZ F9 26 (hh)) 23 = F9 23 := (fn rfl (by decide))
                  have hey136 : (uZ F9 26 (hh)) 25 = F9 25 := (fn rfl (by decide))
                  have hey137 : (uZ F9 26 (hh)) 27 = F9 27 := (fn rfl (by decide))
                  have hey138 : (uZ F9 26 (hh)) 28 = F9 28 := (fn rfl (by decide))
                  have hey139 : (uZ F9 26 (hh)) 29 = F9 29 := (fn rfl (by decide))
                  have hKy140 : okF (uZ F9 26 (hh)) := by unfold okF; omega
                  have hMy141 : okMr cs ad gy122 i (x) (uZ F9 26 (hh)) r9 := okMr.upd fM hgy124 hKy140 (fun f a => hFy126 f (by omega)) hgy125 (hA_y59.mono (by omega)) (fun j a b => by
                      exact Or.inl (by rw [egy123, va_up_ne _ _ (by omega)]))
                  refine z_cV (As := [.int (zI ((n : Int))), .int (zI (z1))]) (rest := []) (ci := 12) C (c_X10_ratioBehind l D A cs tt N ad _ i hN x hx _ _ hMy141 n (by omega) (z1) (by omega)) (by omega) hay60 hgy124 rfl rfl mv_yX10_ratioBehind q_2019 hd_yX10_ratioBehind (by decide) (Nat.le_of_ble_eq_true rfl) (by decide) dX10_matters_79 rfl (kI0 fun vy142 gvy142 hvy142 => ?_)
                  obtain ⟨hrvy142, ⟨Fvy142, rvy142, hMvy142, hFvy142⟩, hfvy142⟩ := hvy142
                  have hFy143 : ∀ f, f ≠ 26 → (uZ F9 26 (hh)) f = F9 f := fun f n26 => ((uZ_n _ _ n26).trans rfl)
                  have hBvy142 : (∀ f, f ≠ 26 → Fvy142 f = F9 f) := fun f n26 => (hFvy142 f ).trans (hFy143 f n26)
                  have hCvy142 : (∀ f, f ≠ 12 → f ≠ 26 → Fvy142 f = F f) := fun f n12 n26 => (hBvy142 f n26).trans (fF f n12 n26)
                  have hq13vy142 : Fvy142 13 = F9 13 := (hFvy142 13).trans (fn rfl (by decide))
                  have hq14vy142 : Fvy142 14 = F9 14 := (hFvy142 14).trans (fn rfl (by decide))
                  have hq15vy142 : Fvy142 15 = F9 15 := (hFvy142 15).trans (fn rfl (by decide))
                  have hq17vy142 : Fvy142 17 = F9 17 := (hFvy142 17).trans (fn rfl (by decide))
                  have hq23vy142 : Fvy142 23 = F9 23 := (hFvy142 23).trans (fn rfl (by decide))
                  obtain ⟨hg_y144, ⟨⟨e13_y144, e14_y144, e25_y144, e27_y144, e29_y144⟩, k15_y144, k16_y144, k17_y144, k18_y144, k19_y144, k20_y144, k23_y144⟩, hRD_y144, hTx_y144, hA_y144, st_y144, op_y144, ai_y144, fa_y144, mu_y144, tb_y144, ns_y144, nh_y144, nd_y144, rf_y144, pi_y144, tp_y144, te_y144, ki_y144, li_y144, ok1_y144, ok2_y144, fo_y144, dd_y144, dps_y144, ⟨ha1_y144, ha2_y144, ha3_y144, ha4_y144, ha5_y144, ha6_y144, ha7_y144, ha8_y144, ha9_y144, ha10_y144, ha11_y144, ha12_y144, ha13_y144, ha14_y144, ha15_y144, ha24_y144, ha25_y144, ha26_y144, ha27_y144, ha28_y144, ha29_y144⟩, hEv_y144, hPt_y144, hns_y144, htp_y144⟩ := id hMvy142
                  obtain ⟨-, hop_y144, hai_y144, hfa_y144, hT_y144, hT1_y144⟩ := id hEv_y144
                  have e14 := e14_y144
                  have e25 := e25_y144
                  have e27 := e27_y144
                  have e29 := e29_y144
                  have hop := hop_y144
                  have hai := hai_y144
                  have hfa := hfa_y144
                  have hT := hT_y144
                  have hT1 := hT1_y144
                  have hEv := hEv_y144
                  have htp := htp_y144
                  have hns := hns_y144
                  have hPt := hPt_y144
                  obtain ⟨⟨hsyy145, htyy145, hnyy145, hpyy145⟩, hlyy145⟩ := okA.at0 hA_y144
                  simp only [Nat.zero_add] at hsyy145 hnyy145 hpyy145
                  have hmn : ∀ s, s < 4 → 0 ≤ rvy142 (6 + 86 * s) ∧ rvy142 (6 + 86 * s) ≤ 12 := fun s hs => (hsyy145 s hs).1
                  have h5 : 0 ≤ rvy142 5 ∧ rvy142 5 ≤ 6 := hpyy145
                  refine z_iload C 4 dX10_matters_82 rfl ?_
                  refine z_isub C dX10_matters_84 ?_
                  obtain ⟨xy146, exy147, hxy148⟩ := zI_of (zI (vy142 - al))
                  rw [exy147]
                  refine z_cS (As := [.int (zI (xy146))]) (rest := []) C (c_X10_span l D A cs tt N ad _ (xy146) (by omega)) ms_yX10_span q_1839 hd_yX10_span (by decide) (Nat.le_of_ble_eq_true rfl) (by decide) dX10_matters_85 rfl (kI0 fun vy149 gvy149 hvy149 => ?_)
                  obtain ⟨hvy149, rfl⟩ := hvy149
                  refine z_istore (lv' := [(8, .int (zI (vy149))), (0, .ref (ad i)), (1, .int (zI ((n : Int)))), (2, .int (zI (z1))), (3, .int (zI (z2))), (4, .int (zI (al))), (5, .int (zI (wh))), (6, .int (zI (mo))), (7, .int (zI (hh)))]) C dX10_matters_88 (by decide) rfl ?_
                  refine z_iload C 0 dX10_matters_90 rfl ?_
                  refine z_iload C 7 dX10_matters_92 rfl ?_
                  refine z_icmp_gt (tgt := 100) C dX10_matters_94 (by decide) (by omega) (by omega) (fun hby150 => ?_) (fun hby150 => ?_)
                  · refine z_iload C 8 dX10_matters_100 rfl ?_
                    refine z_istore (lv' := [(5, .int (zI (hh))), (8, .int (zI (vy149))), (0, .ref (ad i)), (1, .int (zI ((n : Int)))), (2, .int (zI (z1))), (3, .int (zI (z2))), (4, .int (zI (al))), (6, .int (zI (mo))), (7, .int (zI (hh)))]) C dX10_matters_102 (by decide) rfl ?_
                    refine z_iload C 1 dX10_matters_104 rfl ?_
                    refine z_istore (lv' := [(6, .int (zI (vy149))), (5, .int (zI (hh))), (8, .int (zI (vy149))), (0, .ref (ad i)), (1, .int (zI ((n : Int)))), (2, .int (zI (z1))), (3, .int (zI (z2))), (4, .int (zI (al))), (7, .int (zI (hh)))]) C dX10_matters_106 (by decide) rfl ?_
                    refine z_iinc (z := hh + 1) (lv' := [(7, .int (zI (hh + 1))), (6, .int (zI (vy149))), (5, .int (zI (hh))), (8, .int (zI (vy149))), (0, .ref (ad i)), (1, .int (zI ((n : Int)))), (2, .int (zI (z1))), (3, .int (zI (z2))), (4, .int (zI (al)))]) (j := 8) C dX10_matters_108 rfl rfl (by decide) rfl ?_
                    refine z_goto (tgt := 61) C dX10_matters_111 (by decide) ?_
                    have hMy151 : okMr cs ad gvy142 i (x) Fvy142 rvy142 := okMr.upd hMvy142 hg_y144 hMvy142.2.1 (fun f _ => rfl) ha1_y144 (hA_y144.mono (by omega)) (fun j a b => by
                        exact Or.inl (by rfl))
                    have hFF : (∀ f, f ≠ 12 → f ≠ 26 → Fvy142 f = F f) := fun f n12 n26 => hCvy142 f n12 n26
                    have hey152 : Fvy142 13 = F9 13 := hq13vy142
                    have hey153 : Fvy142 14 = F9 14 := hq14vy142
                    refine z_lv (lv' := [(0, .ref (ad i)), (1, .int (zI ((n : Int)))), (2, .int (zI (z1))), (3, .int (zI (z2))), (4, .int (zI (al))), (5, .int (zI (hh))), (6, .int (zI (vy149))), (7, .int (zI (hh + 1)))]) [4, 5, 6, 7, 8, 2, 1, 0] rfl ?_
                    exact ih_lp1 _ (by omega) (hh) (vy149) (hh + 1) _ _ gvy142 rfl hMy151 hFF (fun j j1 => by rw [hfvy142 _ (by omega)]; rw [egy123, va_up_ne _ _ (by omega)]; exact f3 j j1) (by omega) (by omega) (by omega)
                  · refine z_goto (tgt := 108) C dX10_matters_97 (by decide) ?_
                    refine z_iinc (z := hh + 1) (lv' := [(7, .int (zI (hh + 1))), (8, .int (zI (vy149))), (0, .ref (ad i)), (1, .int (zI ((n : Int)))), (2, .int (zI (z1))), (3, .int (zI (z2))), (4, .int (zI (al))), (5, .int (zI (wh))), (6, .int (zI (mo)))]) (j := 8) C dX10_matters_108 rfl rfl (by decide) rfl ?_
                    refine z_goto (tgt := 61) C dX10_matters_111 (by decide) ?_
                    have hMy154 : okMr cs ad gvy142 i (x) Fvy142 rvy142 := okMr.upd hMvy142 hg_y144 hMvy142.2.1 (fun f _ => rfl) ha1_y144 (hA_y144.mono (by omega)) (fun j a b => by
                        exact Or.inl (by rfl))
                    have hFF : (∀ f, f ≠ 12 → f ≠ 26 → Fvy142 f = F f) := fun f n12 n26 => hCvy142 f n12 n26
                    have hey155 : Fvy142 13 = F9 13 := hq13vy142
                    have hey156 : Fvy142 14 = F9 14 := hq14vy142
                    refine z_lv (lv' := [(0, .ref (ad i)), (1, .int (zI ((n : Int)))), (2, .int (zI (z1))), (3, .int (zI (z2))), (4, .int (zI (al))), (5, .int (zI (wh))), (6, .int (zI (mo))), (7, .int (zI (hh + 1)))]) [2, 3, 4, 5, 6, 7, 8, 0] rfl ?_
                    exact ih_lp1 _ (by omega) (wh) (mo) (hh + 1) _ _ gvy142 rfl hMy154 hFF (fun j j1 => by rw [hfvy142 _ (by omega)]; rw [egy123, va_up_ne _ _ (by omega)]; exact f3 j j1) (by omega) (by omega) (by omega)
            have hMy157 : okMr cs ad gvy55 i (x) Fvy55 rvy55 := okMr.upd hMvy55 hg_y57 hMvy55.2.1 (fun f _ => rfl) ha1_y57 (hA_y57.mono (by omega)) (fun j a b => by
                exact Or.inl (by rfl))
            have hFF : (∀ f, f ≠ 12 → f ≠ 26 → Fvy55 f = F f) := fun f n12 n26 => hCvy55 f n12
            have hey158 : Fvy55 13 = F 13 := hq13vy55
            have hey159 : Fvy55 14 = F 14 := hq14vy55
            refine z_lv (lv' := [(0, .ref (ad i)), (1, .int (zI ((n : Int)))), (2, .int (zI (z1))), (3, .int (zI (z2))), (4, .int (zI (al))), (5, .int (zI (-1))), (6, .int (zI (0))), (7, .int (zI (0)))]) [4, 5, 6, 7, 3, 2, 1, 0] rfl ?_
            exact lp1 _ (-1) (0) (0) _ _ gvy55 rfl hMy157 hFF (fun j j1 => by rw [hfvy55 _ (by omega)]; rw [hfvy33 _ (by omega)]; rw [hfvy30 _ (by omega)]; rw [hfvy27 _ (by omega)]; rw [egy25, va_up_ne _ _ (by omega)]) (by omega) (by omega) (by omega)
          · refine z_if_ne (tgt := 44) C dX10_matters_39 (by decide) (by omega) (fun h => absurd h (by omega)) (fun _ => ?_)
            refine z_iconst (z := 0) C dX10_matters_42 rfl ?_
            have hgy160 := up_n egy25 ha1 (ne_o (i := i) (c := 1) (d := 0) rfl)
            have hgy161 := (hfvy27 (i + 1) (ne_o (i := i) (c := 1) (d := 0) rfl)).trans hgy160
            have hgy162 := (hfvy30 (i + 1) (ne_o (i := i) (c := 1) (d := 0) rfl)).trans hgy161
            have hgy163 := (hfvy33 (i + 1) (ne_o (i := i) (c := 1) (d := 0) rfl)).trans hgy162
            have hFy164 : ∀ f, f ≠ 12 → Fvy33 f = F f := fun f n12 => ((hFvy33 f n12).trans ((hFvy30 f n12).trans ((hFvy27 f n12).trans ((uZ_n _ _ n12).trans rfl))))
            have hey165 : Fvy33 13 = F 13 := ((hFvy33 13 (by decide)).trans ((hFvy30 13 (by decide)).trans ((hFvy27 13 (by decide)).trans (fn rfl (by decide)))))
            have hey166 : Fvy33 14 = F 14 := ((hFvy33 14 (by decide)).trans ((hFvy30 14 (by decide)).trans ((hFvy27 14 (by decide)).trans (fn rfl (by decide)))))
            have hey167 : Fvy33 15 = F 15 := ((hFvy33 15 (by decide)).trans ((hFvy30 15 (by decide)).trans ((hFvy27 15 (by decide)).trans (fn rfl (by decide)))))
            have hey168 : Fvy33 16 = F 16 := ((hFvy33 16 (by decide)).trans ((hFvy30 16 (by decide)).trans ((hFvy27 16 (by decide)).trans (fn rfl (by decide)))))
            have hey169 : Fvy33 17 = F 17 := ((hFvy33 17 (by decide)).trans ((hFvy30 17 (by decide)).trans ((hFvy27 17 (by decide)).trans (fn rfl (by decide)))))
            have hey170 : Fvy33 18 = F 18 := ((hFvy33 18 (by decide)).trans ((hFvy30 18 (by decide)).trans ((hFvy27 18 (by decide)).trans (fn rfl (by decide)))))
            have hey171 : Fvy33 19 = F 19 := ((hFvy33 19 (by decide)).trans ((hFvy30 19 (by decide)).trans ((hFvy27 19 (by decide)).trans (fn rfl (by decide)))))
            have hey172 : Fvy33 20 = F 20 := ((hFvy33 20 (by decide)).trans ((hFvy30 20 (by decide)).trans ((hFvy27 20 (by decide)).trans (fn rfl (by decide)))))
            have hey173 : Fvy33 23 = F 23 := ((hFvy33 23 (by decide)).trans ((hFvy30 23 (by decide)).trans ((hFvy27 23 (by decide)).trans (fn rfl (by decide)))))
            have hey174 : Fvy33 25 = F 25 := ((hFvy33 25 (by decide)).trans ((hFvy30 25 (by decide)).trans ((hFvy27 25 (by decide)).trans (fn rfl (by decide)))))
            have hey175 : Fvy33 27 = F 27 := ((hFvy33 27 (by decide)).trans ((hFvy30 27 (by decide)).trans ((hFvy27 27 (by decide)).trans (fn rfl (by decide)))))
            have hey176 : Fvy33 28 = F 28 := ((hFvy33 28 (by decide)).trans ((hFvy30 28 (by decide)).trans ((hFvy27 28 (by decide)).trans (fn rfl (by decide)))))
            have hey177 : Fvy33 29 = F 29 := ((hFvy33 29 (by decide)).trans ((hFvy30 29 (by decide)).trans ((hFvy27 29 (by decide)).trans (fn rfl (by decide)))))
            have hKy178 : okF Fvy33 := by unfold okF; omega
            have hMy179 : okMr cs ad gvy33 i (x + 1) Fvy33 r := okMr.upd hM hcvy33 hKy178 (fun f a => hFy164 f (by omega)) hgy163 (hA.mono (by omega)) (fun j a b => by
                exact Or.inl (by rw [hfvy33 _ (by omega)]; rw [hfvy30 _ (by omega)]; rw [hfvy27 _ (by omega)]; rw [egy25, va_up_ne _ _ (by omega)]))
            have h23 : Fvy33 23 = F 23 := ((hFvy33 23 (by decide)).trans ((hFvy30 23 (by decide)).trans ((hFvy27 23 (by decide)).trans (fn rfl (by decide)))))
            exact z_iret C hr hlk dX10_matters_43 (by decide) (by decide) ⟨0, rfl, rfl, rfl, by omega, ⟨_, _, hMy179, by omega⟩, fun j j1 => by rw [hfvy33 _ (by omega)]; rw [hfvy30 _ (by omega)]; rw [hfvy27 _ (by omega)]; rw [egy25, va_up_ne _ _ (by omega)]⟩
        · refine z_iconst (z := 2) C dX10_matters_35 rfl ?_
          have hey181 : Fvy30 12 = Fvy30 12 := rfl
          refine z_cV (As := [.int (zI (0)), .int (zI (2))]) (rest := []) (ci := 12) C (c_X10_right l D A cs tt N ad _ i hN _ hcvy30 (by omega) (0) (by omega) (2) (by omega)) (by omega) hay1 hcvy30 rfl rfl mv_yX10_right q_1648 hd_yX10_right (by decide) (Nat.le_of_ble_eq_true rfl) (by decide) dX10_matters_36 rfl (kI0 fun vy180 gvy180 hvy180 => ?_)
          obtain ⟨hrvy180, ⟨Fvy180, hcvy180, htvy180, hFvy180⟩, hfvy180⟩ := hvy180
          obtain rfl : vy180 = 0 := by omega
          refine z_if_ne (tgt := 44) C dX10_matters_39 (by decide) (by omega) (fun h => absurd h (by omega)) (fun _ => ?_)
          refine z_iconst (z := 0) C dX10_matters_42 rfl ?_
          have hgy182 := up_n egy25 ha1 (ne_o (i := i) (c := 1) (d := 0) rfl)
          have hgy183 := (hfvy27 (i + 1) (ne_o (i := i) (c := 1) (d := 0) rfl)).trans hgy182
          have hgy184 := (hfvy30 (i + 1) (ne_o (i := i) (c := 1) (d := 0) rfl)).trans hgy183
          have hgy185 := (hfvy180 (i + 1) (ne_o (i := i) (c := 1) (d := 0) rfl)).trans hgy184
          have hFy186 : ∀ f, f ≠ 12 → Fvy180 f = F f := fun f n12 => ((hFvy180 f n12).trans ((hFvy30 f n12).trans ((hFvy27 f n12).trans ((uZ_n _ _ n12).trans rfl))))
          have hey187 : Fvy180 13 = F 13 := ((hFvy180 13 (by decide)).trans ((hFvy30 13 (by decide)).trans ((hFvy27 13 (by decide)).trans (fn rfl (by decide)))))
          have hey188 : Fvy180 14 = F 14 := ((hFvy180 14 (by decide)).trans ((hFvy30 14 (by decide)).trans ((hFvy27 14 (by decide)).trans (fn rfl (by decide)))))
          have hey189 : Fvy180 15 = F 15 := ((hFvy180 15 (by decide)).trans ((hFvy30 15 (by decide)).trans ((hFvy27 15 (by decide)).trans (fn rfl (by decide)))))
          have hey190 : Fvy180 16 = F 16 := ((hFvy180 16 (by decide)).trans ((hFvy30 16 (by decide)).trans ((hFvy27 16 (by decide)).trans (fn rfl (by decide)))))
          have hey191 : Fvy180 17 = F 17 := ((hFvy180 17 (by decide)).trans ((hFvy30 17 (by decide)).trans ((hFvy27 17 (by decide)).trans (fn rfl (by decide)))))
          have hey192 : Fvy180 18 = F 18 := ((hFvy180 18 (by decide)).trans ((hFvy30 18 (by decide)).trans ((hFvy27 18 (by decide)).trans (fn rfl (by decide)))))
          have hey193 : Fvy180 19 = F 19 := ((hFvy180 19 (by decide)).trans ((hFvy30 19 (by decide)).trans ((hFvy27 19 (by decide)).trans (fn rfl (by decide)))))
          have hey194 : Fvy180 20 = F 20 := ((hFvy180 20 (by decide)).trans ((hFvy30 20 (by decide)).trans ((hFvy27 20 (by decide)).trans (fn rfl (by decide)))))
          have hey195 : Fvy180 23 = F 23 := ((hFvy180 23 (by decide)).trans ((hFvy30 23 (by decide)).trans ((hFvy27 23 (by decide)).trans (fn rfl (by decide)))))
          have hey196 : Fvy180 25 = F 25 := ((hFvy180 25 (by decide)).trans ((hFvy30 25 (by decide)).trans ((hFvy27 25 (by decide)).trans (fn rfl (by decide)))))
          have hey197 : Fvy180 27 = F 27 := ((hFvy180 27 (by decide)).trans ((hFvy30 27 (by decide)).trans ((hFvy27 27 (by decide)).trans (fn rfl (by decide)))))
          have hey198 : Fvy180 28 = F 28 := ((hFvy180 28 (by decide)).trans ((hFvy30 28 (by decide)).trans ((hFvy27 28 (by decide)).trans (fn rfl (by decide)))))
          have hey199 : Fvy180 29 = F 29 := ((hFvy180 29 (by decide)).trans ((hFvy30 29 (by decide)).trans ((hFvy27 29 (by decide)).trans (fn rfl (by decide)))))
          have hKy200 : okF Fvy180 := by unfold okF; omega
          have hMy201 : okMr cs ad gvy180 i (x + 1) Fvy180 r := okMr.upd hM hcvy180 hKy200 (fun f a => hFy186 f (by omega)) hgy185 (hA.mono (by omega)) (fun j a b => by
              exact Or.inl (by rw [hfvy180 _ (by omega)]; rw [hfvy30 _ (by omega)]; rw [hfvy27 _ (by omega)]; rw [egy25, va_up_ne _ _ (by omega)]))
          have h23 : Fvy180 23 = F 23 := ((hFvy180 23 (by decide)).trans ((hFvy30 23 (by decide)).trans ((hFvy27 23 (by decide)).trans (fn rfl (by decide)))))
          exact z_iret C hr hlk dX10_matters_43 (by decide) (by decide) ⟨0, rfl, rfl, rfl, by omega, ⟨_, _, hMy201, by omega⟩, fun j j1 => by rw [hfvy180 _ (by omega)]; rw [hfvy30 _ (by omega)]; rw [hfvy27 _ (by omega)]; rw [egy25, va_up_ne _ _ (by omega)]⟩
      · refine z_if_eq (tgt := 42) C dX10_matters_24 (by decide) (by omega) (fun _ => ?_) (fun h => absurd h (by omega))
        refine z_iconst (z := 0) C dX10_matters_42 rfl ?_
        have hgy202 := up_n egy25 ha1 (ne_o (i := i) (c := 1) (d := 0) rfl)
        have hgy203 := (hfvy27 (i + 1) (ne_o (i := i) (c := 1) (d := 0) rfl)).trans hgy202
        have hgy204 := (hfvy30 (i + 1) (ne_o (i := i) (c := 1) (d := 0) rfl)).trans hgy203
        have hFy205 : ∀ f, f ≠ 12 → Fvy30 f = F f := fun f n12 => ((hFvy30 f n12).trans ((hFvy27 f n12).trans ((uZ_n _ _ n12).trans rfl)))
        have hey206 : Fvy30 13 = F 13 := ((hFvy30 13 (by decide)).trans ((hFvy27 13 (by decide)).trans (fn rfl (by decide))))
        have hey207 : Fvy30 14 = F 14 := ((hFvy30 14 (by decide)).trans ((hFvy27 14 (by decide)).trans (fn rfl (by decide))))
        have hey208 : Fvy30 15 = F 15 := ((hFvy30 15 (by decide)).trans ((hFvy27 15 (by decide)).trans (fn rfl (by decide))))
        have hey209 : Fvy30 16 = F 16 := ((hFvy30 16 (by decide)).trans ((hFvy27 16 (by decide)).trans (fn rfl (by decide))))
        have hey210 : Fvy30 17 = F 17 := ((hFvy30 17 (by decide)).trans ((hFvy27 17 (by decide)).trans (fn rfl (by decide))))
        have hey211 : Fvy30 18 = F 18 := ((hFvy30 18 (by decide)).trans ((hFvy27 18 (by decide)).trans (fn rfl (by decide))))
        have hey212 : Fvy30 19 = F 19 := ((hFvy30 19 (by decide)).trans ((hFvy27 19 (by decide)).trans (fn rfl (by decide))))
        have hey213 : Fvy30 20 = F 20 := ((hFvy30 20 (by decide)).trans ((hFvy27 20 (by decide)).trans (fn rfl (by decide))))
        have hey214 : Fvy30 23 = F 23 := ((hFvy30 23 (by decide)).trans ((hFvy27 23 (by decide)).trans (fn rfl (by decide))))
        have hey215 : Fvy30 25 = F 25 := ((hFvy30 25 (by decide)).trans ((hFvy27 25 (by decide)).trans (fn rfl (by decide))))
        have hey216 : Fvy30 27 = F 27 := ((hFvy30 27 (by decide)).trans ((hFvy27 27 (by decide)).trans (fn rfl (by decide))))
        have hey217 : Fvy30 28 = F 28 := ((hFvy30 28 (by decide)).trans ((hFvy27 28 (by decide)).trans (fn rfl (by decide))))
        have hey218 : Fvy30 29 = F 29 := ((hFvy30 29 (by decide)).trans ((hFvy27 29 (by decide)).trans (fn rfl (by decide))))
        have hKy219 : okF Fvy30 := by unfold okF; omega
        have hMy220 : okMr cs ad gvy30 i (x + 1) Fvy30 r := okMr.upd hM hcvy30 hKy219 (fun f a => hFy205 f (by omega)) hgy204 (hA.mono (by omega)) (fun j a b => by
            exact Or.inl (by rw [hfvy30 _ (by omega)]; rw [hfvy27 _ (by omega)]; rw [egy25, va_up_ne _ _ (by omega)]))
        have h23 : Fvy30 23 = F 23 := ((hFvy30 23 (by decide)).trans ((hFvy27 23 (by decide)).trans (fn rfl (by decide))))
        exact z_iret C hr hlk dX10_matters_43 (by decide) (by decide) ⟨0, rfl, rfl, rfl, by omega, ⟨_, _, hMy220, by omega⟩, fun j j1 => by rw [hfvy30 _ (by omega)]; rw [hfvy27 _ (by omega)]; rw [egy25, va_up_ne _ _ (by omega)]⟩
    · refine z_iconst (z := 1) C dX10_matters_20 rfl ?_
      have hey222 : Fvy27 12 = Fvy27 12 := rfl
      refine z_cV (As := [.int (zI (0)), .int (zI (1))]) (rest := []) (ci := 12) C (c_X10_right l D A cs tt N ad _ i hN _ hcvy27 (by omega) (0) (by omega) (1) (by omega)) (by omega) hay1 hcvy27 rfl rfl mv_yX10_right q_1648 hd_yX10_right (by decide) (Nat.le_of_ble_eq_true rfl) (by decide) dX10_matters_21 rfl (kI0 fun vy221 gvy221 hvy221 => ?_)
      obtain ⟨hrvy221, ⟨Fvy221, hcvy221, htvy221, hFvy221⟩, hfvy221⟩ := hvy221
      obtain rfl : vy221 = 0 := by omega
      refine z_if_eq (tgt := 42) C dX10_matters_24 (by decide) (by omega) (fun _ => ?_) (fun h => absurd h (by omega))
      refine z_iconst (z := 0) C dX10_matters_42 rfl ?_
      have hgy223 := up_n egy25 ha1 (ne_o (i := i) (c := 1) (d := 0) rfl)
      have hgy224 := (hfvy27 (i + 1) (ne_o (i := i) (c := 1) (d := 0) rfl)).trans hgy223
      have hgy225 := (hfvy221 (i + 1) (ne_o (i := i) (c := 1) (d := 0) rfl)).trans hgy224
      have hFy226 : ∀ f, f ≠ 12 → Fvy221 f = F f := fun f n12 => ((hFvy221 f n12).trans ((hFvy27 f n12).trans ((uZ_n _ _ n12).trans rfl)))
      have hey227 : Fvy221 13 = F 13 := ((hFvy221 13 (by decide)).trans ((hFvy27 13 (by decide)).trans (fn rfl (by decide))))
      have hey228 : Fvy221 14 = F 14 := ((hFvy221 14 (by decide)).trans ((hFvy27 14 (by decide)).trans (fn rfl (by decide))))
      have hey229 : Fvy221 15 = F 15 := ((hFvy221 15 (by decide)).trans ((hFvy27 15 (by decide)).trans (fn rfl (by decide))))
      have hey230 : Fvy221 16 = F 16 := ((hFvy221 16 (by decide)).trans ((hFvy27 16 (by decide)).trans (fn rfl (by decide))))
      have hey231 : Fvy221 17 = F 17 := ((hFvy221 17 (by decide)).trans ((hFvy27 17 (by decide)).trans (fn rfl (by decide))))
      have hey232 : Fvy221 18 = F 18 := ((hFvy221 18 (by decide)).trans ((hFvy27 18 (by decide)).trans (fn rfl (by decide))))
      have hey233 : Fvy221 19 = F 19 := ((hFvy221 19 (by decide)).trans ((hFvy27 19 (by decide)).trans (fn rfl (by decide))))
      have hey234 : Fvy221 20 = F 20 := ((hFvy221 20 (by decide)).trans ((hFvy27 20 (by decide)).trans (fn rfl (by decide))))
      have hey235 : Fvy221 23 = F 23 := ((hFvy221 23 (by decide)).trans ((hFvy27 23 (by decide)).trans (fn rfl (by decide))))
      have hey236 : Fvy221 25 = F 25 := ((hFvy221 25 (by decide)).trans ((hFvy27 25 (by decide)).trans (fn rfl (by decide))))
      have hey237 : Fvy221 27 = F 27 := ((hFvy221 27 (by decide)).trans ((hFvy27 27 (by decide)).trans (fn rfl (by decide))))
      have hey238 : Fvy221 28 = F 28 := ((hFvy221 28 (by decide)).trans ((hFvy27 28 (by decide)).trans (fn rfl (by decide))))
      have hey239 : Fvy221 29 = F 29 := ((hFvy221 29 (by decide)).trans ((hFvy27 29 (by decide)).trans (fn rfl (by decide))))
      have hKy240 : okF Fvy221 := by unfold okF; omega
      have hMy241 : okMr cs ad gvy221 i (x + 1) Fvy221 r := okMr.upd hM hcvy221 hKy240 (fun f a => hFy226 f (by omega)) hgy225 (hA.mono (by omega)) (fun j a b => by
          exact Or.inl (by rw [hfvy221 _ (by omega)]; rw [hfvy27 _ (by omega)]; rw [egy25, va_up_ne _ _ (by omega)]))
      have h23 : Fvy221 23 = F 23 := ((hFvy221 23 (by decide)).trans ((hFvy27 23 (by decide)).trans (fn rfl (by decide))))
      exact z_iret C hr hlk dX10_matters_43 (by decide) (by decide) ⟨0, rfl, rfl, rfl, by omega, ⟨_, _, hMy241, by omega⟩, fun j j1 => by rw [hfvy221 _ (by omega)]; rw [hfvy27 _ (by omega)]; rw [egy25, va_up_ne _ _ (by omega)]⟩
  · refine z_if_eq (tgt := 42) C dX10_matters_10 (by decide) (by omega) (fun _ => ?_) (fun h => absurd h (by omega))
    refine z_iconst (z := 0) C dX10_matters_42 rfl ?_
    have hgy242 := up_n egy25 ha1 (ne_o (i := i) (c := 1) (d := 0) rfl)
    have hgy243 := (hfvy27 (i + 1) (ne_o (i := i) (c := 1) (d := 0) rfl)).trans hgy242
    have hFy244 : ∀ f, f ≠ 12 → Fvy27 f = F f := fun f n12 => ((hFvy27 f n12).trans ((uZ_n _ _ n12).trans rfl))
    have hey245 : Fvy27 13 = F 13 := ((hFvy27 13 (by decide)).trans (fn rfl (by decide)))
    have hey246 : Fvy27 14 = F 14 := ((hFvy27 14 (by decide)).trans (fn rfl (by decide)))
    have hey247 : Fvy27 15 = F 15 := ((hFvy27 15 (by decide)).trans (fn rfl (by decide)))
    have hey248 : Fvy27 16 = F 16 := ((hFvy27 16 (by decide)).trans (fn rfl (by decide)))
    have hey249 : Fvy27 17 = F 17 := ((hFvy27 17 (by decide)).trans (fn rfl (by decide)))
    have hey250 : Fvy27 18 = F 18 := ((hFvy27 18 (by decide)).trans (fn rfl (by decide)))
    have hey251 : Fvy27 19 = F 19 := ((hFvy27 19 (by decide)).trans (fn rfl (by decide)))
    have hey252 : Fvy27 20 = F 20 := ((hFvy27 20 (by decide)).trans (fn rfl (by decide)))
    have hey253 : Fvy27 23 = F 23 := ((hFvy27 23 (by decide)).trans (fn rfl (by decide)))
    have hey254 : Fvy27 25 = F 25 := ((hFvy27 25 (by decide)).trans (fn rfl (by decide)))
    have hey255 : Fvy27 27 = F 27 := ((hFvy27 27 (by decide)).trans (fn rfl (by decide)))
    have hey256 : Fvy27 28 = F 28 := ((hFvy27 28 (by decide)).trans (fn rfl (by decide)))
    have hey257 : Fvy27 29 = F 29 := ((hFvy27 29 (by decide)).trans (fn rfl (by decide)))
    have hKy258 : okF Fvy27 := by unfold okF; omega
    have hMy259 : okMr cs ad gvy27 i (x + 1) Fvy27 r := okMr.upd hM hcvy27 hKy258 (fun f a => hFy244 f (by omega)) hgy243 (hA.mono (by omega)) (fun j a b => by
        exact Or.inl (by rw [hfvy27 _ (by omega)]; rw [egy25, va_up_ne _ _ (by omega)]))
    have h23 : Fvy27 23 = F 23 := ((hFvy27 23 (by decide)).trans (fn rfl (by decide)))
    exact z_iret C hr hlk dX10_matters_43 (by decide) (by decide) ⟨0, rfl, rfl, rfl, by omega, ⟨_, _, hMy259, by omega⟩, fun j j1 => by rw [hfvy27 _ (by omega)]; rw [egy25, va_up_ne _ _ (by omega)]⟩

set_option maxRecDepth 100000 in
set_option maxHeartbeats 4000000 in
theorem c_X10_matters_b (l : Launch) (D : va_G) (A : Nat → Prop) (cs : Nat → ClassId) (tt : Nat) (N : Nat) (ad : Nat → Nat) (g : Nat → va_E) (i : Nat) (hN : i + 30 ≤ N) (x : Int) (hx : 0 ≤ x ∧ x ≤ 512) (F r : Nat → Int) (hM : okMr cs ad g i x F r) (z : Int) (hz : -2147483648 ≤ z ∧ z ≤ 2147483647) (hzo : z < 0 ∨ 3 < z) (z1 : Int) (hz1 : -2147483648 ≤ z1 ∧ z1 ≤ 2147483647) (z2 : Int) (hz2 : -2147483648 ≤ z2 ∧ z2 ≤ 2147483647) : zM l yX10_matters cX10_matters 9 (some .int) ({ frames := 11, cells := 0, slots := 0, locals := 660 } : Room) D A cs tt N ad g [.ref (ad i), .int (zI (z)), .int (zI (z1)), .int (zI (z2))] (rI0 N ad fun q g' => (-2147483648 ≤ q ∧ q ≤ 2147483647) ∧ (∃ F' r' : Nat → Int, okMr cs ad g' i (x + 1) F' r' ∧ F' 23 = F 23) ∧ ∀ j, j < i ∨ i + 30 ≤ j → g' j = g j) := by
  obtain ⟨hg, ⟨⟨e13, e14, e25, e27, e29⟩, k15, k16, k17, k18, k19, k20, k23⟩, hRD, hTx, hA, st, op, ai, fa, mu, tb, ns, nh, nd, rf, pi, tp, te, ki, li, ok1, ok2, fo, dd, dps, ⟨ha1, ha2, ha3, ha4, ha5, ha6, ha7, ha8, ha9, ha10, ha11, ha12, ha13, ha14, ha15, ha24, ha25, ha26, ha27, ha28, ha29⟩, hEv, hPt, hns, htp⟩ := id hM
  obtain ⟨-, hop, hai, hfa, hT, hT1⟩ := id hEv
  have hay1 : zAt ad (i) (ad i) := rfl
  have hay2 : zAt ad (i + 1) (ad (i + 1)) := rfl
  have hay3 : zAt ad (i + 2) (ad (i + 2)) := rfl
  have hay4 : zAt ad (i + 3) (ad (i + 3)) := rfl
  have hay5 : zAt ad (i + 4) (ad (i + 4)) := rfl
  have hay6 : zAt ad (i + 5) (ad (i + 5)) := rfl
  have hay7 : zAt ad (i + 6) (ad (i + 6)) := rfl
  have hay8 : zAt ad (i + 7) (ad (i + 7)) := rfl
  have hay9 : zAt ad (i + 8) (ad (i + 8)) := rfl
  have hay10 : zAt ad (i + 9) (ad (i + 9)) := rfl
  have hay11 : zAt ad (i + 10) (ad (i + 10)) := rfl
  have hay12 : zAt ad (i + 11) (ad (i + 11)) := rfl
  have hay13 : zAt ad (i + 12) (ad (i + 12)) := rfl
  have hay14 : zAt ad (i + 13) (ad (i + 13)) := rfl
  have hay15 : zAt ad (i + 14) (ad (i + 14)) := rfl
  have hay16 : zAt ad (i + 15) (ad (i + 15)) := rfl
  have hay17 : zAt ad (i + 24) (ad (i + 24)) := rfl
  have hay18 : zAt ad (i + 25) (ad (i + 25)) := rfl
  have hay19 : zAt ad (i + 26) (ad (i + 26)) := rfl
  have hay20 : zAt ad (i + 27) (ad (i + 27)) := rfl
  have hay21 : zAt ad (i + 28) (ad (i + 28)) := rfl
  have hay22 : zAt ad (i + 29) (ad (i + 29)) := rfl
  obtain ⟨⟨hsyy23, htyy23, hnyy23, hpyy23⟩, hlyy23⟩ := okA.at0 hA
  simp only [Nat.zero_add] at hsyy23 hnyy23 hpyy23
  have hmn : ∀ s, s < 4 → 0 ≤ r (6 + 86 * s) ∧ r (6 + 86 * s) ≤ 12 := fun s hs => (hsyy23 s hs).1
  have h5 : 0 ≤ r 5 ∧ r 5 ≤ 6 := hpyy23
  refine z_of (by decide) (Nat.le_of_ble_eq_true rfl) ?_
  intro pZ eZ sZ mZ below meth cZ C hr hlk hnm
  refine z_lv (lv' := [(0, .ref (ad i)), (1, .int (zI (z))), (2, .int (zI (z1))), (3, .int (zI (z2)))]) [0, 1, 2, 3] rfl ?_
  refine z_aload_n C 0 dX10_matters_0 rfl ?_
  refine z_iconst (z := 0) C dX10_matters_1 rfl ?_
  refine z_put (fs' := mF ad (i) (uZ F 12 (0))) C (by omega) hay1 hg tyX10 tyX10_ok nmX10 rfl inA_X10 12 (by decide) q_1471 rfl rfl rfl rfl (Nat.le_of_ble_eq_true rfl) rfl dX10_matters_2 (fun gy24 egy25 => ?_)
  have hgy26 := up_s egy25
  refine z_aload_n C 0 dX10_matters_5 rfl ?_
  refine z_iload_n C 1 dX10_matters_6 rfl ?_
  have h13vy27 : (uZ F 12 (0)) 13 = F 13 := (fn rfl (by decide))
  have hey28 : (uZ F 12 (0)) 12 = 0 := (uZ_s _ _ _)
  refine z_cV (As := [.int (zI (z))]) (rest := []) (ci := 12) C (c_X10_isSlope l D A cs tt N ad _ i hN _ hgy26 (by omega) (by omega) (z) (by omega)) (by omega) hay1 hgy26 rfl rfl mv_yX10_isSlope q_1803 hd_yX10_isSlope (by decide) (Nat.le_of_ble_eq_true rfl) (by decide) dX10_matters_7 rfl (kI0 fun vy27 gvy27 hvy27 => ?_)
  rw [h13vy27] at hvy27
  obtain ⟨hrvy27, ⟨Fvy27, hcvy27, htvy27, hFvy27⟩, hfvy27⟩ := hvy27
  obtain rfl : vy27 = 0 := by omega
  refine z_if_eq (tgt := 42) C dX10_matters_10 (by decide) (by omega) (fun _ => ?_) (fun h => absurd h (by omega))
  refine z_iconst (z := 0) C dX10_matters_42 rfl ?_
  have hgy29 := up_n egy25 ha1 (ne_o (i := i) (c := 1) (d := 0) rfl)
  have hgy30 := (hfvy27 (i + 1) (ne_o (i := i) (c := 1) (d := 0) rfl)).trans hgy29
  have hFy31 : ∀ f, f ≠ 12 → Fvy27 f = F f := fun f n12 => ((hFvy27 f n12).trans ((uZ_n _ _ n12).trans rfl))
  have hey32 : Fvy27 13 = F 13 := ((hFvy27 13 (by decide)).trans (fn rfl (by decide)))
  have hey33 : Fvy27 14 = F 14 := ((hFvy27 14 (by decide)).trans (fn rfl (by decide)))
  have hey34 : Fvy27 15 = F 15 := ((hFvy27 15 (by decide)).trans (fn rfl (by decide)))
  have hey35 : Fvy27 16 = F 16 := ((hFvy27 16 (by decide)).trans (fn rfl (by decide)))
  have hey36 : Fvy27 17 = F 17 := ((hFvy27 17 (by decide)).trans (fn rfl (by decide)))
  have hey37 : Fvy27 18 = F 18 := ((hFvy27 18 (by decide)).trans (fn rfl (by decide)))
  have hey38 : Fvy27 19 = F 19 := ((hFvy27 19 (by decide)).trans (fn rfl (by decide)))
  have hey39 : Fvy27 20 = F 20 := ((hFvy27 20 (by decide)).trans (fn rfl (by decide)))
  have hey40 : Fvy27 23 = F 23 := ((hFvy27 23 (by decide)).trans (fn rfl (by decide)))
  have hey41 : Fvy27 25 = F 25 := ((hFvy27 25 (by decide)).trans (fn rfl (by decide)))
  have hey42 : Fvy27 27 = F 27 := ((hFvy27 27 (by decide)).trans (fn rfl (by decide)))
  have hey43 : Fvy27 28 = F 28 := ((hFvy27 28 (by decide)).trans (fn rfl (by decide)))
  have hey44 : Fvy27 29 = F 29 := ((hFvy27 29 (by decide)).trans (fn rfl (by decide)))
  have hKy45 : okF Fvy27 := by unfold okF; omega
  have hMy46 : okMr cs ad gvy27 i (x + 1) Fvy27 r := okMr.upd hM hcvy27 hKy45 (fun f a => hFy31 f (by omega)) hgy30 (hA.mono (by omega)) (fun j a b => by
      exact Or.inl (by rw [hfvy27 _ (by omega)]; rw [egy25, va_up_ne _ _ (by omega)]))
  have h23 : Fvy27 23 = F 23 := ((hFvy27 23 (by decide)).trans (fn rfl (by decide)))
  exact z_iret C hr hlk dX10_matters_43 (by decide) (by decide) ⟨0, rfl, rfl, rfl, by omega, ⟨_, _, hMy46, by omega⟩, fun j j1 => by rw [hfvy27 _ (by omega)]; rw [egy25, va_up_ne _ _ (by omega)]⟩

set_option maxRecDepth 100000 in
set_option maxHeartbeats 4000000 in
theorem c_X10_matters (l : Launch) (D : va_G) (A : Nat → Prop) (cs : Nat → ClassId) (tt : Nat) (N : Nat) (ad : Nat → Nat) (g : Nat → va_E) (i : Nat) (hN : i + 30 ≤ N) (x : Int) (hx : 0 ≤ x ∧ x ≤ 512) (F r : Nat → Int) (hM : okMr cs ad g i x F r) (z : Int) (hz : -2147483648 ≤ z ∧ z ≤ 2147483647) (z1 : Int) (hz1 : -2147483648 ≤ z1 ∧ z1 ≤ 2147483647) (z2 : Int) (hz2 : -2147483648 ≤ z2 ∧ z2 ≤ 2147483647) : zM l yX10_matters cX10_matters 9 (some .int) ({ frames := 11, cells := 0, slots := 0, locals := 660 } : Room) D A cs tt N ad g [.ref (ad i), .int (zI (z)), .int (zI (z1)), .int (zI (z2))] (rI0 N ad fun q g' => (-2147483648 ≤ q ∧ q ≤ 2147483647) ∧ (∃ F' r' : Nat → Int, okMr cs ad g' i (x + 1) F' r' ∧ F' 23 = F 23) ∧ ∀ j, j < i ∨ i + 30 ≤ j → g' j = g j) := by
  by_cases h9 : 0 ≤ z ∧ z ≤ 3
  · obtain ⟨n, rfl⟩ : ∃ n : Nat, z = (n : Int) := ⟨z.toNat, by omega⟩
    exact c_X10_matters_a l D A cs tt N ad g i hN x hx F r hM n (by omega) z1 hz1 z2 hz2
  · exact c_X10_matters_b l D A cs tt N ad g i hN x hx F r hM z hz (by omega) z1 hz1 z2 hz2

set_option maxRecDepth 100000 in
set_option maxHeartbeats 4000000 in
theorem c_X10_toWarm_a (l : Launch) (D : va_G) (A : Nat → Prop) (cs : Nat → ClassId) (tt : Nat) (N : Nat) (ad : Nat → Nat) (g : Nat → va_E) (i : Nat) (hN : i + 30 ≤ N) (x : Int) (hx : 0 ≤ x ∧ x ≤ 512) (F r : Nat → Int) (hM : okMr cs ad g i x F r) (n : Nat) (hn4 : n < 4) (z1 : Int) (hz1 : -2147483648 ≤ z1 ∧ z1 ≤ 2147483647) : zM l yX10_toWarm cX10_toWarm 6 (some .int) ({ frames := 11, cells := 0, slots := 0, locals := 660 } : Room) D A cs tt N ad g [.ref (ad i), .int (zI ((n : Int))), .int (zI (z1))] (rI0 N ad fun q g' => (-2147483648 ≤ q ∧ q ≤ 2147483647) ∧ (∃ F' r' : Nat → Int, okMr cs ad g' i (x + 1) F' r' ∧ F' 23 = F 23) ∧ ∀ j, j < i ∨ i + 30 ≤ j → g' j = g j) := by
  obtain ⟨hg, ⟨⟨e13, e14, e25, e27, e29⟩, k15, k16, k17, k18, k19, k20, k23⟩, hRD, hTx, hA, st, op, ai, fa, mu, tb, ns, nh, nd, rf, pi, tp, te, ki, li, ok1, ok2, fo, dd, dps, ⟨ha1, ha2, ha3, ha4, ha5, ha6, ha7, ha8, ha9, ha10, ha11, ha12, ha13, ha14, ha15, ha24, ha25, ha26, ha27, ha28, ha29⟩, hEv, hPt, hns, htp⟩ := id hM
  obtain ⟨-, hop, hai, hfa, hT, hT1⟩ := id hEv
  have hay1 : zAt ad (i) (ad i) := rfl
  have hay2 : zAt ad (i + 1) (ad (i + 1)) := rfl
  have hay3 : zAt ad (i + 2) (ad (i + 2)) := rfl
  have hay4 : zAt ad (i + 3) (ad (i + 3)) := rfl
  have hay5 : zAt ad (i + 4) (ad (i + 4)) := rfl
  have hay6 : zAt ad (i + 5) (ad (i + 5)) := rfl
  have hay7 : zAt ad (i + 6) (ad (i + 6)) := rfl
  have hay8 : zAt ad (i + 7) (ad (i + 7)) := rfl
  have hay9 : zAt ad (i + 8) (ad (i + 8)) := rfl
  have hay10 : zAt ad (i + 9) (ad (i + 9)) := rfl
  have hay11 : zAt ad (i + 10) (ad (i + 10)) := rfl
  have hay12 : zAt ad (i + 11) (ad (i + 11)) := rfl
  have hay13 : zAt ad (i + 12) (ad (i + 12)) := rfl
  have hay14 : zAt ad (i + 13) (ad (i + 13)) := rfl
  have hay15 : zAt ad (i + 14) (ad (i + 14)) := rfl
  have hay16 : zAt ad (i + 15) (ad (i + 15)) := rfl
  have hay17 : zAt ad (i + 24) (ad (i + 24)) := rfl
  have hay18 : zAt ad (i + 25) (ad (i + 25)) := rfl
  have hay19 : zAt ad (i + 26) (ad (i + 26)) := rfl
  have hay20 : zAt ad (i + 27) (ad (i + 27)) := rfl
  have hay21 : zAt ad (i + 28) (ad (i + 28)) := rfl
  have hay22 : zAt ad (i + 29) (ad (i + 29)) := rfl
  obtain ⟨⟨hsyy23, htyy23, hnyy23, hpyy23⟩, hlyy23⟩ := okA.at0 hA
  simp only [Nat.zero_add] at hsyy23 hnyy23 hpyy23
  have hmn : ∀ s, s < 4 → 0 ≤ r (6 + 86 * s) ∧ r (6 + 86 * s) ≤ 12 := fun s hs => (hsyy23 s hs).1
  have h5 : 0 ≤ r 5 ∧ r 5 ≤ 6 := hpyy23
  refine z_of (by decide) (Nat.le_of_ble_eq_true rfl) ?_
  intro pZ eZ sZ mZ below meth cZ C hr hlk hnm
  refine z_lv (lv' := [(0, .ref (ad i)), (1, .int (zI ((n : Int)))), (2, .int (zI (z1)))]) [0, 1, 2] rfl ?_
  refine z_aload_n C 0 dX10_toWarm_0 rfl ?_
  refine z_iconst (z := 0) C dX10_toWarm_1 rfl ?_
  refine z_put (fs' := mF ad (i) (uZ F 12 (0))) C (by omega) hay1 hg tyX10 tyX10_ok nmX10 rfl inA_X10 12 (by decide) q_1471 rfl rfl rfl rfl (Nat.le_of_ble_eq_true rfl) rfl dX10_toWarm_2 (fun gy24 egy25 => ?_)
  have hgy26 := up_s egy25
  refine z_aload_n C 0 dX10_toWarm_5 rfl ?_
  refine z_iload_n C 1 dX10_toWarm_6 rfl ?_
  have h13vy27 : (uZ F 12 (0)) 13 = F 13 := (fn rfl (by decide))
  have hey28 : (uZ F 12 (0)) 12 = 0 := (uZ_s _ _ _)
  refine z_cV (As := [.int (zI ((n : Int)))]) (rest := []) (ci := 12) C (c_X10_isSlope l D A cs tt N ad _ i hN _ hgy26 (by omega) (by omega) ((n : Int)) (by omega)) (by omega) hay1 hgy26 rfl rfl mv_yX10_isSlope q_1803 hd_yX10_isSlope (by decide) (Nat.le_of_ble_eq_true rfl) (by decide) dX10_toWarm_7 rfl (kI0 fun vy27 gvy27 hvy27 => ?_)
  rw [h13vy27] at hvy27
  obtain ⟨hrvy27, ⟨Fvy27, hcvy27, htvy27, hFvy27⟩, hfvy27⟩ := hvy27
  rcases (show vy27 = 1 ∨ vy27 = 0 by omega) with rfl | rfl
  · have hxvy27 := hrvy27.2 rfl
    refine z_if_eq (tgt := 28) C dX10_toWarm_10 (by decide) (by omega) (fun h => absurd h (by omega)) (fun _ => ?_)
    refine z_aload_n C 0 dX10_toWarm_13 rfl ?_
    refine z_iload_n C 2 dX10_toWarm_14 rfl ?_
    refine z_iconst (z := 1) C dX10_toWarm_15 rfl ?_
    refine z_bipush (z := 24) C dX10_toWarm_16 (by decide) ?_
    refine z_cS (As := [.int (zI (z1)), .int (zI (1)), .int (zI (24))]) (rest := [.ref (ad i)]) C (c_X10_within l D A cs tt N ad _ (z1) (by omega) (1) (by omega) (24) (by omega)) ms_yX10_within q_1686 hd_yX10_within (by decide) (Nat.le_of_ble_eq_true rfl) (by decide) dX10_toWarm_18 rfl (kI0 fun vy29 gvy29 hvy29 => ?_)
    obtain ⟨hvy29, rfl⟩ := hvy29
    rcases hvy29 with ⟨rfl, hxvy29⟩ | ⟨rfl, hxvy29⟩
    · refine z_iconst (z := 2) C dX10_toWarm_21 rfl ?_
      have hey31 : Fvy27 12 = Fvy27 12 := rfl
      refine z_cV (As := [.int (zI (1)), .int (zI (2))]) (rest := []) (ci := 12) C (c_X10_right l D A cs tt N ad _ i hN _ hcvy27 (by omega) (1) (by omega) (2) (by omega)) (by omega) hay1 hcvy27 rfl rfl mv_yX10_right q_1648 hd_yX10_right (by decide) (Nat.le_of_ble_eq_true rfl) (by decide) dX10_toWarm_22 rfl (kI0 fun vy30 gvy30 hvy30 => ?_)
      obtain ⟨hrvy30, ⟨Fvy30, hcvy30, htvy30, hFvy30⟩, hfvy30⟩ := hvy30
      rcases (show vy30 = 1 ∨ vy30 = 0 by omega) with rfl | rfl
      · refine z_if_ne (tgt := 30) C dX10_toWarm_25 (by decide) (by omega) (fun _ => ?_) (fun h => absurd h (by omega))
        refine z_iconst (z := -1) C dX10_toWarm_30 rfl ?_
        refine z_istore_n (lv' := [(3, .int (zI (-1))), (0, .ref (ad i)), (1, .int (zI ((n : Int)))), (2, .int (zI (z1)))]) C dX10_toWarm_31 rfl (by decide) rfl ?_
        refine z_iconst (z := 1) C dX10_toWarm_32 rfl ?_
        refine z_istore (lv' := [(4, .int (zI (1))), (3, .int (zI (-1))), (0, .ref (ad i)), (1, .int (zI ((n : Int)))), (2, .int (zI (z1)))]) C dX10_toWarm_33 (by decide) rfl ?_
        have lp1 : ∀ (n9 : Nat) (it : Int) (wv : Int) (F9 : Nat → Int) (r9 : Nat → Int) (g1 : Nat → va_E), (51 - wv).toNat = n9 → (okMr cs ad g1 i x F9 r9) → ((∀ f, f ≠ 12 → f ≠ 25 → F9 f = F f)) → (∀ j, j < i ∨ i + 30 ≤ j → g1 j = g j) → (-2147483648 ≤ it ∧ it ≤ 2147483647) → (1 ≤ wv ∧ wv ≤ 51) → zV pZ l eZ ({ frames := 11, cells := 0, slots := 0, locals := 660 } : Room) sZ mZ ([.ref (ad i), .int (zI ((n : Int))), .int (zI (z1))] : List Value).toArray below meth cZ (MQ below (zPost D A (rI0 N ad fun q g' => (-2147483648 ≤ q ∧ q ≤ 2147483647) ∧ (∃ F' r' : Nat → Int, okMr cs ad g' i (x + 1) F' r' ∧ F' 23 = F 23) ∧ ∀ j, j < i ∨ i + 30 ≤ j → g' j = g j)) ([.ref (ad i), .int (zI ((n : Int))), .int (zI (z1))] : List Value).toArray sZ ({ frames := 11, cells := 0, slots := 0, locals := 660 } : Room).cells ({ frames := 11, cells := 0, slots := 0, locals := 660 } : Room).slots A) D A 6 (N) ad g1 (0) (0) 35 [(0, .ref (ad i)), (1, .int (zI ((n : Int)))), (2, .int (zI (z1))), (3, .int (zI (it))), (4, .int (zI (wv)))] [] := by
          intro n9
          induction n9 using Nat.strongRecOn with
          | ind n9 ih_lp1 =>
            intro it wv F9 r9 g1 hm9 fM fF f3 hvlp10 hvlp11
            obtain ⟨hg_y32, ⟨⟨e13_y32, e14_y32, e25_y32, e27_y32, e29_y32⟩, k15_y32, k16_y32, k17_y32, k18_y32, k19_y32, k20_y32, k23_y32⟩, hRD_y32, hTx_y32, hA_y32, st_y32, op_y32, ai_y32, fa_y32, mu_y32, tb_y32, ns_y32, nh_y32, nd_y32, rf_y32, pi_y32, tp_y32, te_y32, ki_y32, li_y32, ok1_y32, ok2_y32, fo_y32, dd_y32, dps_y32, ⟨ha1_y32, ha2_y32, ha3_y32, ha4_y32, ha5_y32, ha6_y32, ha7_y32, ha8_y32, ha9_y32, ha10_y32, ha11_y32, ha12_y32, ha13_y32, ha14_y32, ha15_y32, ha24_y32, ha25_y32, ha26_y32, ha27_y32, ha28_y32, ha29_y32⟩, hEv_y32, hPt_y32, hns_y32, htp_y32⟩ := id fM
            obtain ⟨-, hop_y32, hai_y32, hfa_y32, hT_y32, hT1_y32⟩ := id hEv_y32
            have e14 := e14_y32
            have e25 := e25_y32
            have e27 := e27_y32
            have e29 := e29_y32
            have hop := hop_y32
            have hai := hai_y32
            have hfa := hfa_y32
            have hT := hT_y32
            have hT1 := hT1_y32
            have hEv := hEv_y32
            have htp := htp_y32
            have hns := hns_y32
            have hPt := hPt_y32
            have hay33 : zAt ad (i) (ad i) := rfl
            have hay34 : zAt ad (i + 1) (ad (i + 1)) := rfl
            have hay35 : zAt ad (i + 2) (ad (i + 2)) := rfl
            have hay36 : zAt ad (i + 3) (ad (i + 3)) := rfl
            have hay37 : zAt ad (i + 4) (ad (i + 4)) := rfl
            have hay38 : zAt ad (i + 5) (ad (i + 5)) := rfl
            have hay39 : zAt ad (i + 6) (ad (i + 6)) := rfl
            have hay40 : zAt ad (i + 7) (ad (i + 7)) := rfl
            have hay41 : zAt ad (i + 8) (ad (i + 8)) := rfl
            have hay42 : zAt ad (i + 9) (ad (i + 9)) := rfl
            have hay43 : zAt ad (i + 10) (ad (i + 10)) := rfl
            have hay44 : zAt ad (i + 11) (ad (i + 11)) := rfl
            have hay45 : zAt ad (i + 12) (ad (i + 12)) := rfl
            have hay46 : zAt ad (i + 13) (ad (i + 13)) := rfl
            have hay47 : zAt ad (i + 14) (ad (i + 14)) := rfl
            have hay48 : zAt ad (i + 15) (ad (i + 15)) := rfl
            have hay49 : zAt ad (i + 24) (ad (i + 24)) := rfl
            have hay50 : zAt ad (i + 25) (ad (i + 25)) := rfl
            have hay51 : zAt ad (i + 26) (ad (i + 26)) := rfl
            have hay52 : zAt ad (i + 27) (ad (i + 27)) := rfl
            have hay53 : zAt ad (i + 28) (ad (i + 28)) := rfl
            have hay54 : zAt ad (i + 29) (ad (i + 29)) := rfl
            obtain ⟨⟨hsyy55, htyy55, hnyy55, hpyy55⟩, hlyy55⟩ := okA.at0 hA_y32
            simp only [Nat.zero_add] at hsyy55 hnyy55 hpyy55
            have hmn : ∀ s, s < 4 → 0 ≤ r9 (6 + 86 * s) ∧ r9 (6 + 86 * s) ≤ 12 := fun s hs => (hsyy55 s hs).1
            have h5 : 0 ≤ r9 5 ∧ r9 5 ≤ 6 := hpyy55
            have h13e : F9 13 = F 13 := fF 13 (by decide) (by decide)
            have h14e : F9 14 = F 14 := fF 14 (by decide) (by decide)
            have h17e : F9 17 = F 17 := fF 17 (by decide) (by decide)
            have h23e : F9 23 = F 23 := fF 23 (by decide) (by decide)
            refine z_iload C 4 dX10_toWarm_35 rfl ?_
            refine z_bipush (z := 50) C dX10_toWarm_37 (by decide) ?_
            refine z_icmp_gt (tgt := 104) C dX10_toWarm_39 (by decide) (by omega) (by omega) (fun hby56 => ?_) (fun hby56 => ?_)
            · refine z_aload_n C 0 dX10_toWarm_104 rfl ?_
              refine z_iconst (z := 0) C dX10_toWarm_105 rfl ?_
              refine z_put (fs' := mF ad (i) (uZ F9 25 (0))) C (by omega) hay33 hg_y32 tyX10 tyX10_ok nmX10 rfl inA_X10 25 (by decide) q_1484 rfl rfl rfl rfl (Nat.le_of_ble_eq_true rfl) rfl dX10_toWarm_106 (fun gy57 egy58 => ?_)
              have hgy59 := up_s egy58
              refine z_iload_n C 3 dX10_toWarm_109 rfl ?_
              have hgy60 := up_n egy58 ha1_y32 (ne_o (i := i) (c := 1) (d := 0) rfl)
              have hFy61 : ∀ f, f ≠ 25 → (uZ F9 25 (0)) f = F9 f := fun f n25 => ((uZ_n _ _ n25).trans rfl)
              have hey62 : (uZ F9 25 (0)) 13 = F9 13 := (fn rfl (by decide))
              have hey63 : (uZ F9 25 (0)) 14 = F9 14 := (fn rfl (by decide))
              have hey64 : (uZ F9 25 (0)) 15 = F9 15 := (fn rfl (by decide))
              have hey65 : (uZ F9 25 (0)) 16 = F9 16 := (fn rfl (by decide))
              have hey66 : (uZ F9 25 (0)) 17 = F9 17 := (fn rfl (by decide))
              have hey67 : (uZ F9 25 (0)) 18 = F9 18 := (fn rfl (by decide))
              have hey68 : (uZ F9 25 (0)) 19 = F9 19 := (fn rfl (by decide))
              have hey69 : (uZ F9 25 (0)) 20 = F9 20 := (fn rfl (by decide))
              have hey70 : (uZ F9 25 (0)) 23 = F9 23 := (fn rfl (by decide))
              have hey71 : (uZ F9 25 (0)) 25 = 0 := (uZ_s _ _ _)
              have hey72 : (uZ F9 25 (0)) 27 = F9 27 := (fn rfl (by decide))
              have hey73 : (uZ F9 25 (0)) 28 = F9 28 := (fn rfl (by decide))
              have hey74 : (uZ F9 25 (0)) 29 = F9 29 := (fn rfl (by decide))
              have hKy75 : okF (uZ F9 25 (0)) := by unfold okF; omega
              have hMy76 : okMr cs ad gy57 i (x + 1) (uZ F9 25 (0)) r9 := okMr.upd fM hgy59 hKy75 (fun f a => hFy61 f (by omega)) hgy60 (hA_y32.mono (by omega)) (fun j a b => by
                  exact Or.inl (by rw [egy58, va_up_ne _ _ (by omega)]))
              have h23 : (uZ F9 25 (0)) 23 = F9 23 := (fn rfl (by decide))
              exact z_iret C hr hlk dX10_toWarm_110 (by decide) (by decide) ⟨it, rfl, rfl, rfl, by omega, ⟨_, _, hMy76, by omega⟩, fun j j1 => by rw [egy58, va_up_ne _ _ (by omega)]; exact f3 j j1⟩
            · refine z_iload_n C 3 dX10_toWarm_42 rfl ?_
              refine z_iconst (z := -1) C dX10_toWarm_43 rfl ?_
              refine z_icmp_ne (tgt := 104) C dX10_toWarm_44 (by decide) (by omega) (by omega) (fun hby77 => ?_) (fun hby77 => ?_)
              · refine z_aload_n C 0 dX10_toWarm_104 rfl ?_
                refine z_iconst (z := 0) C dX10_toWarm_105 rfl ?_
                refine z_put (fs' := mF ad (i) (uZ F9 25 (0))) C (by omega) hay33 hg_y32 tyX10 tyX10_ok nmX10 rfl inA_X10 25 (by decide) q_1484 rfl rfl rfl rfl (Nat.le_of_ble_eq_true rfl) rfl dX10_toWarm_106 (fun gy78 egy79 => ?_)
                have hgy80 := up_s egy79
                refine z_iload_n C 3 dX10_toWarm_109 rfl ?_
                have hgy81 := up_n egy79 ha1_y32 (ne_o (i := i) (c := 1) (d := 0) rfl)
                have hFy82 : ∀ f, f ≠ 25 → (uZ F9 25 (0)) f = F9 f := fun f n25 => ((uZ_n _ _ n25).trans rfl)
                have hey83 : (uZ F9 25 (0)) 13 = F9 13 := (fn rfl (by decide))
                have hey84 : (uZ F9 25 (0)) 14 = F9 14 := (fn rfl (by decide))
                have hey85 : (uZ F9 25 (0)) 15 = F9 15 := (fn rfl (by decide))
                have hey86 : (uZ F9 25 (0)) 16 = F9 16 := (fn rfl (by decide))
                have hey87 : (uZ F9 25 (0)) 17 = F9 17 := (fn rfl (by decide))
                have hey88 : (uZ F9 25 (0)) 18 = F9 18 := (fn rfl (by decide))
                have hey89 : (uZ F9 25 (0)) 19 = F9 19 := (fn rfl (by decide))
                have hey90 : (uZ F9 25 (0)) 20 = F9 20 := (fn rfl (by decide))
                have hey91 : (uZ F9 25 (0)) 23 = F9 23 := (fn rfl (by decide))
                have hey92 : (uZ F9 25 (0)) 25 = 0 := (uZ_s _ _ _)
                have hey93 : (uZ F9 25 (0)) 27 = F9 27 := (fn rfl (by decide))
                have hey94 : (uZ F9 25 (0)) 28 = F9 28 := (fn rfl (by decide))
                have hey95 : (uZ F9 25 (0)) 29 = F9 29 := (fn rfl (by decide))
                have hKy96 : okF (uZ F9 25 (0)) := by unfold okF; omega
                have hMy97 : okMr cs ad gy78 i (x + 1) (uZ F9 25 (0)) r9 := okMr.upd fM hgy80 hKy96 (fun f a => hFy82 f (by omega)) hgy81 (hA_y32.mono (by omega)) (fun j a b => by
                    exact Or.inl (by rw [egy79, va_up_ne _ _ (by omega)]))
                have h23 : (uZ F9 25 (0)) 23 = F9 23 := (fn rfl (by decide))
                exact z_iret C hr hlk dX10_toWarm_110 (by decide) (by decide) ⟨it, rfl, rfl, rfl, by omega, ⟨_, _, hMy97, by omega⟩, fun j j1 => by rw [egy79, va_up_ne _ _ (by omega)]; exact f3 j j1⟩
              · refine z_aload_n C 0 dX10_toWarm_47 rfl ?_
                refine z_cV (As := []) (rest := []) (ci := 12) C (c_X10_tries l D A cs tt N ad _ i hN _ hg_y32 _ ha1_y32 (x) hA_y32) (by omega) hay33 hg_y32 rfl rfl mv_yX10_tries q_1980 hd_yX10_tries (by decide) (Nat.le_of_ble_eq_true rfl) (by decide) dX10_toWarm_48 rfl (kV0 fun gvy98 hvy98 => ?_)
                obtain ⟨⟨rvy98, hdvy98, hAvy98, hWvy98, h0vy98, hyvy98⟩, hfvy98⟩ := hvy98
                obtain ⟨⟨hsyy99, htyy99, hnyy99, hpyy99⟩, hlyy99⟩ := okA.at0 hAvy98
                simp only [Nat.zero_add] at hsyy99 hnyy99 hpyy99
                have hmn : ∀ s, s < 4 → 0 ≤ rvy98 (6 + 86 * s) ∧ rvy98 (6 + 86 * s) ≤ 12 := fun s hs => (hsyy99 s hs).1
                have h5 : 0 ≤ rvy98 5 ∧ rvy98 5 ≤ 6 := hpyy99
                refine z_aload_n C 0 dX10_toWarm_51 rfl ?_
                refine z_iload C 4 dX10_toWarm_52 rfl ?_
                have hgy100 := (hfvy98 (i) (ne_o (i := i) (c := 0) (d := 1) rfl)).trans hg_y32
                refine z_put (fs' := mF ad (i) (uZ F9 25 (wv))) C (by omega) hay33 hgy100 tyX10 tyX10_ok nmX10 rfl inA_X10 25 (by decide) q_1484 rfl rfl rfl rfl (Nat.le_of_ble_eq_true rfl) rfl dX10_toWarm_54 (fun gy101 egy102 => ?_)
                have hgy103 := up_s egy102
                refine z_iconst (z := 0) C dX10_toWarm_57 rfl ?_
                refine z_istore (lv' := [(5, .int (zI (0))), (0, .ref (ad i)), (1, .int (zI ((n : Int)))), (2, .int (zI (z1))), (3, .int (zI (it))), (4, .int (zI (wv)))]) C dX10_toWarm_58 (by decide) rfl ?_
                have lp2 : ∀ (n9 : Nat) (it : Int) (kk : Int) (F9b : Nat → Int) (r9b : Nat → Int) (g1 : Nat → va_E), (25 - kk).toNat = n9 → (okMr cs ad g1 i x F9b r9b) → ((∀ f, f ≠ 12 → f ≠ 25 → F9b f = F f)) → (okW r9b 350 (x)) → (∀ j, j < i ∨ i + 30 ≤ j → g1 j = g j) → (-2147483648 ≤ it ∧ it ≤ 2147483647) → (0 ≤ kk ∧ kk ≤ z1) → (r9b 350 ≤ 2000 + kk) → zV pZ l eZ ({ frames := 11, cells := 0, slots := 0, locals := 660 } : Room) sZ mZ ([.ref (ad i), .int (zI ((n : Int))), .int (zI (z1))] : List Value).toArray below meth cZ (MQ below (zPost D A (rI0 N ad fun q g' => (-2147483648 ≤ q ∧ q ≤ 2147483647) ∧ (∃ F' r' : Nat → Int, okMr cs ad g' i (x + 1) F' r' ∧ F' 23 = F 23) ∧ ∀ j, j < i ∨ i + 30 ≤ j → g' j = g j)) ([.ref (ad i), .int (zI ((n : Int))), .int (zI (z1))] : List Value).toArray sZ ({ frames := 11, cells := 0, slots := 0, locals := 660 } : Room).cells ({ frames := 11, cells := 0, slots := 0, locals := 660 } : Room).slots A) D A 6 (N) ad g1 (0) (0) 60 [(0, .ref (ad i)), (1, .int (zI ((n : Int)))), (2, .int (zI (z1))), (3, .int (zI (it))), (4, .int (zI (wv))), (5, .int (zI (kk)))] [] := by
                  intro n9
                  induction n9 using Nat.strongRecOn with
                  | ind n9 ih_lp2 =>
                    intro it kk F9b r9b g1 hm9 fMb fFb fWb f3 hvlp20 hvlp21 hvlp22
                    obtain ⟨hg_y104, ⟨⟨e13_y104, e14_y104, e25_y104, e27_y104, e29_y104⟩, k15_y104, k16_y104, k17_y104, k18_y104, k19_y104, k20_y104, k23_y104⟩, hRD_y104, hTx_y104, hA_y104, st_y104, op_y104, ai_y104, fa_y104, mu_y104, tb_y104, ns_y104, nh_y104, nd_y104, rf_y104, pi_y104, tp_y104, te_y104, ki_y104, li_y104, ok1_y104, ok2_y104, fo_y104, dd_y104, dps_y104, ⟨ha1_y104, ha2_y104, ha3_y104, ha4_y104, ha5_y104, ha6_y104, ha7_y104, ha8_y104, ha9_y104, ha10_y104, ha11_y104, ha12_y104, ha13_y104, ha14_y104, ha15_y104, ha24_y104, ha25_y104, ha26_y104, ha27_y104, ha28_y104, ha29_y104⟩, hEv_y104, hPt_y104, hns_y104, htp_y104⟩ := id fMb
                    obtain ⟨-, hop_y104, hai_y104, hfa_y104, hT_y104, hT1_y104⟩ := id hEv_y104
                    have e14 := e14_y104
                    have e25 := e25_y104
                    have e27 := e27_y104
                    have e29 := e29_y104
                    have hop := hop_y104
                    have hai := hai_y104
                    have hfa := hfa_y104
                    have hT := hT_y104
                    have hT1 := hT1_y104
                    have hEv := hEv_y104
                    have htp := htp_y104
                    have hns := hns_y104
                    have hPt := hPt_y104
                    have hay105 : zAt ad (i) (ad i) := rfl
                    have hay106 : zAt ad (i + 1) (ad (i + 1)) := rfl
                    have hay107 : zAt ad (i + 2) (ad (i + 2)) := rfl
                    have hay108 : zAt ad (i + 3) (ad (i + 3)) := rfl
                    have hay109 : zAt ad (i + 4) (ad (i + 4)) := rfl
                    have hay110 : zAt ad (i + 5) (ad (i + 5)) := rfl
                    have hay111 : zAt ad (i + 6) (ad (i + 6)) := rfl
                    have hay112 : zAt ad (i + 7) (ad (i + 7)) := rfl
                    have hay113 : zAt ad (i + 8) (ad (i + 8)) := rfl
                    have hay114 : zAt ad (i + 9) (ad (i + 9)) := rfl
                    have hay115 : zAt ad (i + 10) (ad (i + 10)) := rfl
                    have hay116 : zAt ad (i + 11) (ad (i + 11)) := rfl
                    have hay117 : zAt ad (i + 12) (ad (i + 12)) := rfl
                    have hay118 : zAt ad (i + 13) (ad (i + 13)) := rfl
                    have hay119 : zAt ad (i + 14) (ad (i + 14)) := rfl
                    have hay120 : zAt ad (i + 15) (ad (i + 15)) := rfl
                    have hay121 : zAt ad (i + 24) (ad (i + 24)) := rfl
                    have hay122 : zAt ad (i + 25) (ad (i + 25)) := rfl
                    have hay123 : zAt ad (i + 26) (ad (i + 26)) := rfl
                    have hay124 : zAt ad (i + 27) (ad (i + 27)) := rfl
                    have hay125 : zAt ad (i + 28) (ad (i + 28)) := rfl
                    have hay126 : zAt ad (i + 29) (ad (i + 29)) := rfl
                    obtain ⟨⟨hsyy127, htyy127, hnyy127, hpyy127⟩, hlyy127⟩ := okA.at0 hA_y104
                    simp only [Nat.zero_add] at hsyy127 hnyy127 hpyy127
                    have hmn : ∀ s, s < 4 → 0 ≤ r9b (6 + 86 * s) ∧ r9b (6 + 86 * s) ≤ 12 := fun s hs => (hsyy127 s hs).1
                    have h5 : 0 ≤ r9b 5 ∧ r9b 5 ≤ 6 := hpyy127
                    have h13be : F9b 13 = F 13 := fFb 13 (by decide) (by decide)
                    have h14be : F9b 14 = F 14 := fFb 14 (by decide) (by decide)
                    have h17be : F9b 17 = F 17 := fFb 17 (by decide) (by decide)
                    have h23be : F9b 23 = F 23 := fFb 23 (by decide) (by decide)
                    have hW2b := fWb.2.1
                    refine z_iload C 5 dX10_toWarm_60 rfl ?_
                    refine z_iload_n C 2 dX10_toWarm_62 rfl ?_
                    refine z_icmp_ge (tgt := 98) C dX10_toWarm_63 (by decide) (by omega) (by omega) (fun hby128 => ?_) (fun hby128 => ?_)
                    · refine z_iinc (z := wv + 1) (lv' := [(4, .int (zI (wv + 1))), (0, .ref (ad i)), (1, .int (zI ((n : Int)))), (2, .int (zI (z1))), (3, .int (zI (it))), (5, .int (zI (kk)))]) (j := 4) C dX10_toWarm_98 rfl rfl (by decide) rfl ?_
                      refine z_goto (tgt := 35) C dX10_toWarm_101 (by decide) ?_
                      have hMy129 : okMr cs ad g1 i (x) F9b r9b := okMr.upd fMb hg_y104 fMb.2.1 (fun f _ => rfl) ha1_y104 (hA_y104.mono (by omega)) (fun j a b => by
                          exact Or.inl (by rfl))
                      have hFF : (∀ f, f ≠ 12 → f ≠ 25 → F9b f = F f) := fun f n12 n25 => fFb f n12 n25
                      have hey130 : F9b 13 = F9b 13 := rfl
                      have hey131 : F9b 14 = F9b 14 := rfl
                      refine z_lv (lv' := [(0, .ref (ad i)), (1, .int (zI ((n : Int)))), (2, .int (zI (z1))), (3, .int (zI (it))), (4, .int (zI (wv + 1)))]) [1, 2, 3, 4, 0] rfl ?_
                      exact ih_lp1 _ (by omega) (it) (wv + 1) _ _ g1 rfl hMy129 hFF (fun j j1 => by exact f3 j j1) (by omega) (by omega)
                    · refine z_iload_n C 3 dX10_toWarm_66 rfl ?_
                      refine z_iconst (z := -1) C dX10_toWarm_67 rfl ?_
                      refine z_icmp_ne (tgt := 98) C dX10_toWarm_68 (by decide) (by omega) (by omega) (fun hby132 => ?_) (fun hby132 => ?_)
                      · refine z_iinc (z := wv + 1) (lv' := [(4, .int (zI (wv + 1))), (0, .ref (ad i)), (1, .int (zI ((n : Int)))), (2, .int (zI (z1))), (3, .int (zI (it))), (5, .int (zI (kk)))]) (j := 4) C dX10_toWarm_98 rfl rfl (by decide) rfl ?_
                        refine z_goto (tgt := 35) C dX10_toWarm_101 (by decide) ?_
                        have hMy133 : okMr cs ad g1 i (x) F9b r9b := okMr.upd fMb hg_y104 fMb.2.1 (fun f _ => rfl) ha1_y104 (hA_y104.mono (by omega)) (fun j a b => by
                            exact Or.inl (by rfl))
                        have hFF : (∀ f, f ≠ 12 → f ≠ 25 → F9b f = F f) := fun f n12 n25 => fFb f n12 n25
                        have hey134 : F9b 13 = F9b 13 := rfl
                        have hey135 : F9b 14 = F9b 14 := rfl
                        refine z_lv (lv' := [(0, .ref (ad i)), (1, .int (zI ((n : Int)))), (2, .int (zI (z1))), (3, .int (zI (it))), (4, .int (zI (wv + 1)))]) [1, 2, 3, 4, 0] rfl ?_
                        exact ih_lp1 _ (by omega) (it) (wv + 1) _ _ g1 rfl hMy133 hFF (fun j j1 => by exact f3 j j1) (by omega) (by omega)
                      · refine z_aload_n C 0 dX10_toWarm_71 rfl ?_
                        refine z_sipush (z := 350) C dX10_toWarm_72 (by decide) ?_
                        have hey137 : F9b 13 = F9b 13 := rfl
                        have hey138 : F9b 14 = F9b 14 := rfl
                        have hey139 : F9b 25 = F9b 25 := rfl
                        have hey140 : F9b 27 = F9b 27 := rfl
                        have hey141 : F9b 28 = F9b 28 := rfl
                        have hey142 : F9b 29 = F9b 29 := rfl
                        have hEvy136 : okEnv F9b _ _ _ _ _ := ⟨by omega, hop, hai, hfa, hT, hT1⟩
                        refine z_cV (As := [.int (zI (350))]) (rest := []) (ci := 12) C (c_X10_hour l D A cs tt N ad _ i hN _ hg_y104 _ ha1_y104 _ ha3_y104 _ ha4_y104 _ ha5_y104 _ ha6_y104 _ ha7_y104 _ ha14_y104 _ ha15_y104 350 (by omega) hEvy136 (x) (by omega) fWb (by omega) (by omega)) (by omega) hay105 hg_y104 rfl rfl mv_yX10_hour q_1885 hd_yX10_hour (by decide) (Nat.le_of_ble_eq_true rfl) (by decide) dX10_toWarm_75 rfl (kV0 fun gvy143 hvy143 => ?_)
                        obtain ⟨⟨rvy143, hcvy143, hwvy143, htvy143, hyvy143⟩, ⟨t4vy143, h4vy143⟩, ⟨t5vy143, h5vy143⟩, hfvy143⟩ := hvy143
                        have hAy144 : okA rvy143 (x) := okA.tried hA_y104 (fun j a => hyvy143 j (by omega))
                        obtain ⟨⟨hsyy145, htyy145, hnyy145, hpyy145⟩, hlyy145⟩ := okA.at0 hAy144
                        simp only [Nat.zero_add] at hsyy145 hnyy145 hpyy145
                        have hmn : ∀ s, s < 4 → 0 ≤ rvy143 (6 + 86 * s) ∧ rvy143 (6 + 86 * s) ≤ 12 := fun s hs => (hsyy145 s hs).1
                        have h5 : 0 ≤ rvy143 5 ∧ rvy143 5 ≤ 6 := hpyy145
                        refine z_aload_n C 0 dX10_toWarm_78 rfl ?_
                        refine z_sipush (z := 350) C dX10_toWarm_79 (by decide) ?_
                        refine z_iload_n C 1 dX10_toWarm_82 rfl ?_
                        obtain ⟨py146, hpy146⟩ : ∃ p9 : Nat, 350 + 6 + 86 * n = p9 := ⟨_, rfl⟩
                        have hgy147 := (hfvy143 (i) (ne_o (i := i) (c := 0) (d := 1) rfl) (ne_o (i := i) (c := 0) (d := 14) rfl) (ne_o (i := i) (c := 0) (d := 15) rfl)).trans hg_y104
                        have hgy149 := (hfvy143 (i + 2) (ne_o (i := i) (c := 2) (d := 1) rfl) (ne_o (i := i) (c := 2) (d := 14) rfl) (ne_o (i := i) (c := 2) (d := 15) rfl)).trans ha2_y104
                        have hgy150 := (hfvy143 (i + 7) (ne_o (i := i) (c := 7) (d := 1) rfl) (ne_o (i := i) (c := 7) (d := 14) rfl) (ne_o (i := i) (c := 7) (d := 15) rfl)).trans ha7_y104
                        have hqy151 : qS rvy143 py146 := ((hwvy143.1 n (by omega)).of (p2 := py146) (by omega)).q (by have hb9 := mBb (t := rvy143 350 + x) (by omega); omega)
                        have hmky152 := hqy151.1
                        refine z_cV (As := [.int (zI (350)), .int (zI ((n : Int)))]) (rest := []) (ci := 12) C (c_X10_isUnstable l D A cs tt N ad _ i hN _ hgy147 _ hcvy143 _ hgy149 _ hgy150 350 n py146 hpy146 (by omega) (by omega) hqy151) (by omega) hay105 hgy147 rfl rfl mv_yX10_isUnstable q_1811 hd_yX10_isUnstable (by decide) (Nat.le_of_ble_eq_true rfl) (by decide) dX10_toWarm_83 rfl (kI0 fun vy148 gvy148 hvy148 => ?_)
                        obtain ⟨hvy148, rfl⟩ := hvy148
                        refine z_if_eq (tgt := 92) C dX10_toWarm_86 (by decide) (by omega) (fun hby153 => ?_) (fun hby153 => ?_)
                        · refine z_iinc (z := kk + 1) (lv' := [(5, .int (zI (kk + 1))), (0, .ref (ad i)), (1, .int (zI ((n : Int)))), (2, .int (zI (z1))), (3, .int (zI (it))), (4, .int (zI (wv)))]) (j := 5) C dX10_toWarm_92 rfl rfl (by decide) rfl ?_
                          refine z_goto (tgt := 60) C dX10_toWarm_95 (by decide) ?_
                          have hMy154 : okMr cs ad gvy143 i (x) F9b rvy143 := okMr.upd fMb hgy147 fMb.2.1 (fun f _ => rfl) hcvy143 (hAy144.mono (by omega)) (fun j a b => by
                              by_cases e0 : j = i + 14
                              · exact Or.inr ⟨14, _, e0, lsP.l (by decide), by rw [e0]; exact h4vy143⟩
                              by_cases e1 : j = i + 15
                              · exact Or.inr ⟨15, _, e1, lsP.l (by decide), by rw [e1]; exact h5vy143⟩
                              exact Or.inl (by rw [hfvy143 _ (by omega) (by omega) (by omega)]))
                          have hFFb : (∀ f, f ≠ 12 → f ≠ 25 → F9b f = F f) := fun f n12 n25 => fFb f n12 n25
                          have hey155 : F9b 13 = F9b 13 := rfl
                          have hey156 : F9b 14 = F9b 14 := rfl
                          refine z_lv (lv' := [(0, .ref (ad i)), (1, .int (zI ((n : Int)))), (2, .int (zI (z1))), (3, .int (zI (it))), (4, .int (zI (wv))), (5, .int (zI (kk + 1)))]) [1, 2, 3, 4, 5, 0] rfl ?_
                          exact ih_lp2 _ (by omega) (it) (kk + 1) _ _ gvy143 rfl hMy154 hFFb hwvy143 (fun j j1 => by rw [hfvy143 _ (by omega) (by omega) (by omega)]; exact f3 j j1) (by omega) (by omega) (by omega)
                        · refine z_iload C 4 dX10_toWarm_89 rfl ?_
                          refine z_istore_n (lv' := [(3, .int (zI (wv))), (0, .ref (ad i)), (1, .int (zI ((n : Int)))), (2, .int (zI (z1))), (4, .int (zI (wv))), (5, .int (zI (kk)))]) C dX10_toWarm_91 rfl (by decide) rfl ?_
                          refine z_iinc (z := kk + 1) (lv' := [(5, .int (zI (kk + 1))), (3, .int (zI (wv))), (0, .ref (ad i)), (1, .int (zI ((n : Int)))), (2, .int (zI (z1))), (4, .int (zI (wv)))]) (j := 5) C dX10_toWarm_92 rfl rfl (by decide) rfl ?_
                          refine z_goto (tgt := 60) C dX10_toWarm_95 (by decide) ?_
                          have hMy157 : okMr cs ad gvy143 i (x) F9b rvy143 := okMr.upd fMb hgy147 fMb.2.1 (fun f _ => rfl) hcvy143 (hAy144.mono (by omega)) (fun j a b => by
                              by_cases e0 : j = i + 14
                              · exact Or.inr ⟨14, _, e0, lsP.l (by decide), by rw [e0]; exact h4vy143⟩
                              by_cases e1 : j = i + 15
                              · exact Or.inr ⟨15, _, e1, lsP.l (by decide), by rw [e1]; exact h5vy143⟩
                              exact Or.inl (by rw [hfvy143 _ (by omega) (by omega) (by omega)]))
                          have hFFb : (∀ f, f ≠ 12 → f ≠ 25 → F9b f = F f) := fun f n12 n25 => fFb f n12 n25
                          have hey158 : F9b 13 = F9b 13 := rfl
                          have hey159 : F9b 14 = F9b 14 := rfl
                          refine z_lv (lv' := [(0, .ref (ad i)), (1, .int (zI ((n : Int)))), (2, .int (zI (z1))), (3, .int (zI (wv))), (4, .int (zI (wv))), (5, .int (zI (kk + 1)))]) [2, 3, 4, 1, 5, 0] rfl ?_
                          exact ih_lp2 _ (by omega) (wv) (kk + 1) _ _ gvy143 rfl hMy157 hFFb hwvy143 (fun j j1 => by rw [hfvy143 _ (by omega) (by omega) (by omega)]; exact f3 j j1) (by omega) (by omega) (by omega)
                have hgy160 := up_n egy102 hdvy98 (ne_o (i := i) (c := 1) (d := 0) rfl)
                have hFy161 : ∀ f, f ≠ 25 → (uZ F9 25 (wv)) f = F9 f := fun f n25 => ((uZ_n _ _ n25).trans rfl)
                have hey162 : (uZ F9 25 (wv)) 13 = F9 13 := (fn rfl (by decide))
                have hey163 : (uZ F9 25 (wv)) 14 = F9 14 := (fn rfl (by decide))
                have hey164 : (uZ F9 25 (wv)) 15 = F9 15 := (fn rfl (by decide))
                have hey165 : (uZ F9 25 (wv)) 16 = F9 16 := (fn rfl (by decide))
                have hey166 : (uZ F9 25 (wv)) 17 = F9 17 := (fn rfl (by decide))
                have hey167 : (uZ F9 25 (wv)) 18 = F9 18 := (fn rfl (by decide))
                have hey168 : (uZ F9 25 (wv)) 19 = F9 19 := (fn rfl (by decide))
                have hey169 : (uZ F9 25 (wv)) 20 = F9 20 := (fn rfl (by decide))
                have hey170 : (uZ F9 25 (wv)) 23 = F9 23 := (fn rfl (by decide))
                have hey171 : (uZ F9 25 (wv)) 25 = wv := (uZ_s _ _ _)
                have hey172 : (uZ F9 25 (wv)) 27 = F9 27 := (fn rfl (by decide))
                have hey173 : (uZ F9 25 (wv)) 28 = F9 28 := (fn rfl (by decide))
                have hey174 : (uZ F9 25 (wv)) 29 = F9 29 := (fn rfl (by decide))
                have hKy175 : okF (uZ F9 25 (wv)) := by unfold okF; omega
                have hMy176 : okMr cs ad gy101 i (x) (uZ F9 25 (wv)) rvy98 := okMr.upd fM hgy103 hKy175 (fun f a => hFy161 f (by omega)) hgy160 (hAvy98.mono (by omega)) (fun j a b => by
                    exact Or.inl (by rw [egy102, va_up_ne _ _ (by omega)]; rw [hfvy98 _ (by omega)]))
                have hFy177 : ∀ f, f ≠ 25 → (uZ F9 25 (wv)) f = F9 f := fun f n25 => ((uZ_n _ _ n25).trans rfl)
                have hFFb : (∀ f, f ≠ 12 → f ≠ 25 → (uZ F9 25 (wv)) f = F f) := fun f n12 n25 => (hFy177 f n25).trans (fF f n12 n25)
                have hey178 : (uZ F9 25 (wv)) 13 = F9 13 := (fn rfl (by decide))
                have hey179 : (uZ F9 25 (wv)) 14 = F9 14 := (fn rfl (by decide))
                refine z_lv (lv' := [(0, .ref (ad i)), (1, .int (zI ((n : Int)))), (2, .int (zI (z1))), (3, .int (zI (it))), (4, .int (zI (wv))), (5, .int (zI (0)))]) [1, 2, 3, 4, 5, 0] rfl ?_
                exact lp2 _ (it) (0) _ _ gy101 rfl hMy176 hFFb hWvy98 (fun j j1 => by rw [egy102, va_up_ne _ _ (by omega)]; rw [hfvy98 _ (by omega)]; exact f3 j j1) (by omega) (by omega) (by omega)
        have hgy180 := up_n egy25 ha1 (ne_o (i := i) (c := 1) (d := 0) rfl)
        have hgy181 := (hfvy27 (i + 1) (ne_o (i := i) (c := 1) (d := 0) rfl)).trans hgy180
        have hgy182 := (hfvy30 (i + 1) (ne_o (i := i) (c := 1) (d := 0) rfl)).trans hgy181
        have hFy183 : ∀ f, f ≠ 12 → Fvy30 f = F f := fun f n12 => ((hFvy30 f n12).trans ((hFvy27 f n12).trans ((uZ_n _ _ n12).trans rfl)))
        have hey184 : Fvy30 13 = F 13 := ((hFvy30 13 (by decide)).trans ((hFvy27 13 (by decide)).trans (fn rfl (by decide))))
        have hey185 : Fvy30 14 = F 14 := ((hFvy30 14 (by decide)).trans ((hFvy27 14 (by decide)).trans (fn rfl (by decide))))
        have hey186 : Fvy30 15 = F 15 := ((hFvy30 15 (by decide)).trans ((hFvy27 15 (by decide)).trans (fn rfl (by decide))))
        have hey187 : Fvy30 16 = F 16 := ((hFvy30 16 (by decide)).trans ((hFvy27 16 (by decide)).trans (fn rfl (by decide))))
        have hey188 : Fvy30 17 = F 17 := ((hFvy30 17 (by decide)).trans ((hFvy27 17 (by decide)).trans (fn rfl (by decide))))
        have hey189 : Fvy30 18 = F 18 := ((hFvy30 18 (by decide)).trans ((hFvy27 18 (by decide)).trans (fn rfl (by decide))))
        have hey190 : Fvy30 19 = F 19 := ((hFvy30 19 (by decide)).trans ((hFvy27 19 (by decide)).trans (fn rfl (by decide))))
        have hey191 : Fvy30 20 = F 20 := ((hFvy30 20 (by decide)).trans ((hFvy27 20 (by decide)).trans (fn rfl (by decide))))
        have hey192 : Fvy30 23 = F 23 := ((hFvy30 23 (by decide)).trans ((hFvy27 23 (by decide)).trans (fn rfl (by decide))))
        have hey193 : Fvy30 25 = F 25 := ((hFvy30 25 (by decide)).trans ((hFvy27 25 (by decide)).trans (fn rfl (by decide))))
        have hey194 : Fvy30 27 = F 27 := ((hFvy30 27 (by decide)).trans ((hFvy27 27 (by decide)).trans (fn rfl (by decide))))
        have hey195 : Fvy30 28 = F 28 := ((hFvy30 28 (by decide)).trans ((hFvy27 28 (by decide)).trans (fn rfl (by decide))))
        have hey196 : Fvy30 29 = F 29 := ((hFvy30 29 (by decide)).trans ((hFvy27 29 (by decide)).trans (fn rfl (by decide))))
        have hKy197 : okF Fvy30 := by unfold okF; omega
        have hMy198 : okMr cs ad gvy30 i (x) Fvy30 r := okMr.upd hM hcvy30 hKy197 (fun f a => hFy183 f (by omega)) hgy182 (hA.mono (by omega)) (fun j a b => by
            exact Or.inl (by rw [hfvy30 _ (by omega)]; rw [hfvy27 _ (by omega)]; rw [egy25, va_up_ne _ _ (by omega)]))
        have hFy199 : ∀ f, f ≠ 12 → Fvy30 f = F f := fun f n12 => ((hFvy30 f n12).trans ((hFvy27 f n12).trans ((uZ_n _ _ n12).trans rfl)))
        have hFF : (∀ f, f ≠ 12 → f ≠ 25 → Fvy30 f = F f) := fun f n12 n25 => (hFy199 f n12)
        have hey200 : Fvy30 13 = F 13 := ((hFvy30 13 (by decide)).trans ((hFvy27 13 (by decide)).trans (fn rfl (by decide))))
        have hey201 : Fvy30 14 = F 14 := ((hFvy30 14 (by decide)).trans ((hFvy27 14 (by decide)).trans (fn rfl (by decide))))
        refine z_lv (lv' := [(0, .ref (ad i)), (1, .int (zI ((n : Int)))), (2, .int (zI (z1))), (3, .int (zI (-1))), (4, .int (zI (1)))]) [2, 3, 4, 1, 0] rfl ?_
        exact lp1 _ (-1) (1) _ _ gvy30 rfl hMy198 hFF (fun j j1 => by rw [hfvy30 _ (by omega)]; rw [hfvy27 _ (by omega)]; rw [egy25, va_up_ne _ _ (by omega)]) (by omega) (by omega)
      · refine z_if_ne (tgt := 30) C dX10_toWarm_25 (by decide) (by omega) (fun h => absurd h (by omega)) (fun _ => ?_)
        refine z_iconst (z := 0) C dX10_toWarm_28 rfl ?_
        have hgy202 := up_n egy25 ha1 (ne_o (i := i) (c := 1) (d := 0) rfl)
        have hgy203 := (hfvy27 (i + 1) (ne_o (i := i) (c := 1) (d := 0) rfl)).trans hgy202
        have hgy204 := (hfvy30 (i + 1) (ne_o (i := i) (c := 1) (d := 0) rfl)).trans hgy203
        have hFy205 : ∀ f, f ≠ 12 → Fvy30 f = F f := fun f n12 => ((hFvy30 f n12).trans ((hFvy27 f n12).trans ((uZ_n _ _ n12).trans rfl)))
        have hey206 : Fvy30 13 = F 13 := ((hFvy30 13 (by decide)).trans ((hFvy27 13 (by decide)).trans (fn rfl (by decide))))
        have hey207 : Fvy30 14 = F 14 := ((hFvy30 14 (by decide)).trans ((hFvy27 14 (by decide)).trans (fn rfl (by decide))))
        have hey208 : Fvy30 15 = F 15 := ((hFvy30 15 (by decide)).trans ((hFvy27 15 (by decide)).trans (fn rfl (by decide))))
        have hey209 : Fvy30 16 = F 16 := ((hFvy30 16 (by decide)).trans ((hFvy27 16 (by decide)).trans (fn rfl (by decide))))
        have hey210 : Fvy30 17 = F 17 := ((hFvy30 17 (by decide)).trans ((hFvy27 17 (by decide)).trans (fn rfl (by decide))))
        have hey211 : Fvy30 18 = F 18 := ((hFvy30 18 (by decide)).trans ((hFvy27 18 (by decide)).trans (fn rfl (by decide))))
        have hey212 : Fvy30 19 = F 19 := ((hFvy30 19 (by decide)).trans ((hFvy27 19 (by decide)).trans (fn rfl (by decide))))
        have hey213 : Fvy30 20 = F 20 := ((hFvy30 20 (by decide)).trans ((hFvy27 20 (by decide)).trans (fn rfl (by decide))))
        have hey214 : Fvy30 23 = F 23 := ((hFvy30 23 (by decide)).trans ((hFvy27 23 (by decide)).trans (fn rfl (by decide))))
        have hey215 : Fvy30 25 = F 25 := ((hFvy30 25 (by decide)).trans ((hFvy27 25 (by decide)).trans (fn rfl (by decide))))
        have hey216 : Fvy30 27 = F 27 := ((hFvy30 27 (by decide)).trans ((hFvy27 27 (by decide)).trans (fn rfl (by decide))))
        have hey217 : Fvy30 28 = F 28 := ((hFvy30 28 (by decide)).trans ((hFvy27 28 (by decide)).trans (fn rfl (by decide))))
        have hey218 : Fvy30 29 = F 29 := ((hFvy30 29 (by decide)).trans ((hFvy27 29 (by decide)).trans (fn rfl (by decide))))
        have hKy219 : okF Fvy30 := by unfold okF; omega
        have hMy220 : okMr cs ad gvy30 i (x + 1) Fvy30 r := okMr.upd hM hcvy30 hKy219 (fun f a => hFy205 f (by omega)) hgy204 (hA.mono (by omega)) (fun j a b => by
            exact Or.inl (by rw [hfvy30 _ (by omega)]; rw [hfvy27 _ (by omega)]; rw [egy25, va_up_ne _ _ (by omega)]))
        have h23 : Fvy30 23 = F 23 := ((hFvy30 23 (by decide)).trans ((hFvy27 23 (by decide)).trans (fn rfl (by decide))))
        exact z_iret C hr hlk dX10_toWarm_29 (by decide) (by decide) ⟨0, rfl, rfl, rfl, by omega, ⟨_, _, hMy220, by omega⟩, fun j j1 => by rw [hfvy30 _ (by omega)]; rw [hfvy27 _ (by omega)]; rw [egy25, va_up_ne _ _ (by omega)]⟩
    · refine z_iconst (z := 2) C dX10_toWarm_21 rfl ?_
      have hey222 : Fvy27 12 = Fvy27 12 := rfl
      refine z_cV (As := [.int (zI (0)), .int (zI (2))]) (rest := []) (ci := 12) C (c_X10_right l D A cs tt N ad _ i hN _ hcvy27 (by omega) (0) (by omega) (2) (by omega)) (by omega) hay1 hcvy27 rfl rfl mv_yX10_right q_1648 hd_yX10_right (by decide) (Nat.le_of_ble_eq_true rfl) (by decide) dX10_toWarm_22 rfl (kI0 fun vy221 gvy221 hvy221 => ?_)
      obtain ⟨hrvy221, ⟨Fvy221, hcvy221, htvy221, hFvy221⟩, hfvy221⟩ := hvy221
      obtain rfl : vy221 = 0 := by omega
      refine z_if_ne (tgt := 30) C dX10_toWarm_25 (by decide) (by omega) (fun h => absurd h (by omega)) (fun _ => ?_)
      refine z_iconst (z := 0) C dX10_toWarm_28 rfl ?_
      have hgy223 := up_n egy25 ha1 (ne_o (i := i) (c := 1) (d := 0) rfl)
      have hgy224 := (hfvy27 (i + 1) (ne_o (i := i) (c := 1) (d := 0) rfl)).trans hgy223
      have hgy225 := (hfvy221 (i + 1) (ne_o (i := i) (c := 1) (d := 0) rfl)).trans hgy224
      have hFy226 : ∀ f, f ≠ 12 → Fvy221 f = F f := fun f n12 => ((hFvy221 f n12).trans ((hFvy27 f n12).trans ((uZ_n _ _ n12).trans rfl)))
      have hey227 : Fvy221 13 = F 13 := ((hFvy221 13 (by decide)).trans ((hFvy27 13 (by decide)).trans (fn rfl (by decide))))
      have hey228 : Fvy221 14 = F 14 := ((hFvy221 14 (by decide)).trans ((hFvy27 14 (by decide)).trans (fn rfl (by decide))))
      have hey229 : Fvy221 15 = F 15 := ((hFvy221 15 (by decide)).trans ((hFvy27 15 (by decide)).trans (fn rfl (by decide))))
      have hey230 : Fvy221 16 = F 16 := ((hFvy221 16 (by decide)).trans ((hFvy27 16 (by decide)).trans (fn rfl (by decide))))
      have hey231 : Fvy221 17 = F 17 := ((hFvy221 17 (by decide)).trans ((hFvy27 17 (by decide)).trans (fn rfl (by decide))))
      have hey232 : Fvy221 18 = F 18 := ((hFvy221 18 (by decide)).trans ((hFvy27 18 (by decide)).trans (fn rfl (by decide))))
      have hey233 : Fvy221 19 = F 19 := ((hFvy221 19 (by decide)).trans ((hFvy27 19 (by decide)).trans (fn rfl (by decide))))
      have hey234 : Fvy221 20 = F 20 := ((hFvy221 20 (by decide)).trans ((hFvy27 20 (by decide)).trans (fn rfl (by decide))))
      have hey235 : Fvy221 23 = F 23 := ((hFvy221 23 (by decide)).trans ((hFvy27 23 (by decide)).trans (fn rfl (by decide))))
      have hey236 : Fvy221 25 = F 25 := ((hFvy221 25 (by decide)).trans ((hFvy27 25 (by decide)).trans (fn rfl (by decide))))
      have hey237 : Fvy221 27 = F 27 := ((hFvy221 27 (by decide)).trans ((hFvy27 27 (by decide)).trans (fn rfl (by decide))))
      have hey238 : Fvy221 28 = F 28 := ((hFvy221 28 (by decide)).trans ((hFvy27 28 (by decide)).trans (fn rfl (by decide))))
      have hey239 : Fvy221 29 = F 29 := ((hFvy221 29 (by decide)).trans ((hFvy27 29 (by decide)).trans (fn rfl (by decide))))
      have hKy240 : okF Fvy221 := by unfold okF; omega
      have hMy241 : okMr cs ad gvy221 i (x + 1) Fvy221 r := okMr.upd hM hcvy221 hKy240 (fun f a => hFy226 f (by omega)) hgy225 (hA.mono (by omega)) (fun j a b => by
          exact Or.inl (by rw [hfvy221 _ (by omega)]; rw [hfvy27 _ (by omega)]; rw [egy25, va_up_ne _ _ (by omega)]))
      have h23 : Fvy221 23 = F 23 := ((hFvy221 23 (by decide)).trans ((hFvy27 23 (by decide)).trans (fn rfl (by decide))))
      exact z_iret C hr hlk dX10_toWarm_29 (by decide) (by decide) ⟨0, rfl, rfl, rfl, by omega, ⟨_, _, hMy241, by omega⟩, fun j j1 => by rw [hfvy221 _ (by omega)]; rw [hfvy27 _ (by omega)]; rw [egy25, va_up_ne _ _ (by omega)]⟩
  · refine z_if_eq (tgt := 28) C dX10_toWarm_10 (by decide) (by omega) (fun _ => ?_) (fun h => absurd h (by omega))
    refine z_iconst (z := 0) C dX10_toWarm_28 rfl ?_
    have hgy242 := up_n egy25 ha1 (ne_o (i := i) (c := 1) (d := 0) rfl)
    have hgy243 := (hfvy27 (i + 1) (ne_o (i := i) (c := 1) (d := 0) rfl)).trans hgy242
    have hFy244 : ∀ f, f ≠ 12 → Fvy27 f = F f := fun f n12 => ((hFvy27 f n12).trans ((uZ_n _ _ n12).trans rfl))
    have hey245 : Fvy27 13 = F 13 := ((hFvy27 13 (by decide)).trans (fn rfl (by decide)))
    have hey246 : Fvy27 14 = F 14 := ((hFvy27 14 (by decide)).trans (fn rfl (by decide)))
    have hey247 : Fvy27 15 = F 15 := ((hFvy27 15 (by decide)).trans (fn rfl (by decide)))
    have hey248 : Fvy27 16 = F 16 := ((hFvy27 16 (by decide)).trans (fn rfl (by decide)))
    have hey249 : Fvy27 17 = F 17 := ((hFvy27 17 (by decide)).trans (fn rfl (by decide)))
    have hey250 : Fvy27 18 = F 18 := ((hFvy27 18 (by decide)).trans (fn rfl (by decide)))
    have hey251 : Fvy27 19 = F 19 := ((hFvy27 19 (by decide)).trans (fn rfl (by decide)))
    have hey252 : Fvy27 20 = F 20 := ((hFvy27 20 (by decide)).trans (fn rfl (by decide)))
    have hey253 : Fvy27 23 = F 23 := ((hFvy27 23 (by decide)).trans (fn rfl (by decide)))
    have hey254 : Fvy27 25 = F 25 := ((hFvy27 25 (by decide)).trans (fn rfl (by decide)))
    have hey255 : Fvy27 27 = F 27 := ((hFvy27 27 (by decide)).trans (fn rfl (by decide)))
    have hey256 : Fvy27 28 = F 28 := ((hFvy27 28 (by decide)).trans (fn rfl (by decide)))
    have hey257 : Fvy27 29 = F 29 := ((hFvy27 29 (by decide)).trans (fn rfl (by decide)))
    have hKy258 : okF Fvy27 := by unfold okF; omega
    have hMy259 : okMr cs ad gvy27 i (x + 1) Fvy27 r := okMr.upd hM hcvy27 hKy258 (fun f a => hFy244 f (by omega)) hgy243 (hA.mono (by omega)) (fun j a b => by
        exact Or.inl (by rw [hfvy27 _ (by omega)]; rw [egy25, va_up_ne _ _ (by omega)]))
    have h23 : Fvy27 23 = F 23 := ((hFvy27 23 (by decide)).trans (fn rfl (by decide)))
    exact z_iret C hr hlk dX10_toWarm_29 (by decide) (by decide) ⟨0, rfl, rfl, rfl, by omega, ⟨_, _, hMy259, by omega⟩, fun j j1 => by rw [hfvy27 _ (by omega)]; rw [egy25, va_up_ne _ _ (by omega)]⟩

set_option maxRecDepth 100000 in
set_option maxHeartbeats 4000000 in
theorem c_X10_toWarm_b (l : Launch) (D : va_G) (A : Nat → Prop) (cs : Nat → ClassId) (tt : Nat) (N : Nat) (ad : Nat → Nat) (g : Nat → va_E) (i : Nat) (hN : i + 30 ≤ N) (x : Int) (hx : 0 ≤ x ∧ x ≤ 512) (F r : Nat → Int) (hM : okMr cs ad g i x F r) (z : Int) (hz : -2147483648 ≤ z ∧ z ≤ 2147483647) (hzo : z < 0 ∨ 3 < z) (z1 : Int) (hz1 : -2147483648 ≤ z1 ∧ z1 ≤ 2147483647) : zM l yX10_toWarm cX10_toWarm 6 (some .int) ({ frames := 11, cells := 0, slots := 0, locals := 660 } : Room) D A cs tt N ad g [.ref (ad i), .int (zI (z)), .int (zI (z1))] (rI0 N ad fun q g' => (-2147483648 ≤ q ∧ q ≤ 2147483647) ∧ (∃ F' r' : Nat → Int, okMr cs ad g' i (x + 1) F' r' ∧ F' 23 = F 23) ∧ ∀ j, j < i ∨ i + 30 ≤ j → g' j = g j) := by
  obtain ⟨hg, ⟨⟨e13, e14, e25, e27, e29⟩, k15, k16, k17, k18, k19, k20, k23⟩, hRD, hTx, hA, st, op, ai, fa, mu, tb, ns, nh, nd, rf, pi, tp, te, ki, li, ok1, ok2, fo, dd, dps, ⟨ha1, ha2, ha3, ha4, ha5, ha6, ha7, ha8, ha9, ha10, ha11, ha12, ha13, ha14, ha15, ha24, ha25, ha26, ha27, ha28, ha29⟩, hEv, hPt, hns, htp⟩ := id hM
  obtain ⟨-, hop, hai, hfa, hT, hT1⟩ := id hEv
  have hay1 : zAt ad (i) (ad i) := rfl
  have hay2 : zAt ad (i + 1) (ad (i + 1)) := rfl
  have hay3 : zAt ad (i + 2) (ad (i + 2)) := rfl
  have hay4 : zAt ad (i + 3) (ad (i + 3)) := rfl
  have hay5 : zAt ad (i + 4) (ad (i + 4)) := rfl
  have hay6 : zAt ad (i + 5) (ad (i + 5)) := rfl
  have hay7 : zAt ad (i + 6) (ad (i + 6)) := rfl
  have hay8 : zAt ad (i + 7) (ad (i + 7)) := rfl
  have hay9 : zAt ad (i + 8) (ad (i + 8)) := rfl
  have hay10 : zAt ad (i + 9) (ad (i + 9)) := rfl
  have hay11 : zAt ad (i + 10) (ad (i + 10)) := rfl
  have hay12 : zAt ad (i + 11) (ad (i + 11)) := rfl
  have hay13 : zAt ad (i + 12) (ad (i + 12)) := rfl
  have hay14 : zAt ad (i + 13) (ad (i + 13)) := rfl
  have hay15 : zAt ad (i + 14) (ad (i + 14)) := rfl
  have hay16 : zAt ad (i + 15) (ad (i + 15)) := rfl
  have hay17 : zAt ad (i + 24) (ad (i + 24)) := rfl
  have hay18 : zAt ad (i + 25) (ad (i + 25)) := rfl
  have hay19 : zAt ad (i + 26) (ad (i + 26)) := rfl
  have hay20 : zAt ad (i + 27) (ad (i + 27)) := rfl
  have hay21 : zAt ad (i + 28) (ad (i + 28)) := rfl
  have hay22 : zAt ad (i + 29) (ad (i + 29)) := rfl
  obtain ⟨⟨hsyy23, htyy23, hnyy23, hpyy23⟩, hlyy23⟩ := okA.at0 hA
  simp only [Nat.zero_add] at hsyy23 hnyy23 hpyy23
  have hmn : ∀ s, s < 4 → 0 ≤ r (6 + 86 * s) ∧ r (6 + 86 * s) ≤ 12 := fun s hs => (hsyy23 s hs).1
  have h5 : 0 ≤ r 5 ∧ r 5 ≤ 6 := hpyy23
  refine z_of (by decide) (Nat.le_of_ble_eq_true rfl) ?_
  intro pZ eZ sZ mZ below meth cZ C hr hlk hnm
  refine z_lv (lv' := [(0, .ref (ad i)), (1, .int (zI (z))), (2, .int (zI (z1)))]) [0, 1, 2] rfl ?_
  refine z_aload_n C 0 dX10_toWarm_0 rfl ?_
  refine z_iconst (z := 0) C dX10_toWarm_1 rfl ?_
  refine z_put (fs' := mF ad (i) (uZ F 12 (0))) C (by omega) hay1 hg tyX10 tyX10_ok nmX10 rfl inA_X10 12 (by decide) q_1471 rfl rfl rfl rfl (Nat.le_of_ble_eq_true rfl) rfl dX10_toWarm_2 (fun gy24 egy25 => ?_)
  have hgy26 := up_s egy25
  refine z_aload_n C 0 dX10_toWarm_5 rfl ?_
  refine z_iload_n C 1 dX10_toWarm_6 rfl ?_
  have h13vy27 : (uZ F 12 (0)) 13 = F 13 := (fn rfl (by decide))
  have hey28 : (uZ F 12 (0)) 12 = 0 := (uZ_s _ _ _)
  refine z_cV (As := [.int (zI (z))]) (rest := []) (ci := 12) C (c_X10_isSlope l D A cs tt N ad _ i hN _ hgy26 (by omega) (by omega) (z) (by omega)) (by omega) hay1 hgy26 rfl rfl mv_yX10_isSlope q_1803 hd_yX10_isSlope (by decide) (Nat.le_of_ble_eq_true rfl) (by decide) dX10_toWarm_7 rfl (kI0 fun vy27 gvy27 hvy27 => ?_)
  rw [h13vy27] at hvy27
  obtain ⟨hrvy27, ⟨Fvy27, hcvy27, htvy27, hFvy27⟩, hfvy27⟩ := hvy27
  obtain rfl : vy27 = 0 := by omega
  refine z_if_eq (tgt := 28) C dX10_toWarm_10 (by decide) (by omega) (fun _ => ?_) (fun h => absurd h (by omega))
  refine z_iconst (z := 0) C dX10_toWarm_28 rfl ?_
  have hgy29 := up_n egy25 ha1 (ne_o (i := i) (c := 1) (d := 0) rfl)
  have hgy30 := (hfvy27 (i + 1) (ne_o (i := i) (c := 1) (d := 0) rfl)).trans hgy29
  have hFy31 : ∀ f, f ≠ 12 → Fvy27 f = F f := fun f n12 => ((hFvy27 f n12).trans ((uZ_n _ _ n12).trans rfl))
  have hey32 : Fvy27 13 = F 13 := ((hFvy27 13 (by decide)).trans (fn rfl (by decide)))
  have hey33 : Fvy27 14 = F 14 := ((hFvy27 14 (by decide)).trans (fn rfl (by decide)))
  have hey34 : Fvy27 15 = F 15 := ((hFvy27 15 (by decide)).trans (fn rfl (by decide)))
  have hey35 : Fvy27 16 = F 16 := ((hFvy27 16 (by decide)).trans (fn rfl (by decide)))
  have hey36 : Fvy27 17 = F 17 := ((hFvy27 17 (by decide)).trans (fn rfl (by decide)))
  have hey37 : Fvy27 18 = F 18 := ((hFvy27 18 (by decide)).trans (fn rfl (by decide)))
  have hey38 : Fvy27 19 = F 19 := ((hFvy27 19 (by decide)).trans (fn rfl (by decide)))
  have hey39 : Fvy27 20 = F 20 := ((hFvy27 20 (by decide)).trans (fn rfl (by decide)))
  have hey40 : Fvy27 23 = F 23 := ((hFvy27 23 (by decide)).trans (fn rfl (by decide)))
  have hey41 : Fvy27 25 = F 25 := ((hFvy27 25 (by decide)).trans (fn rfl (by decide)))
  have hey42 : Fvy27 27 = F 27 := ((hFvy27 27 (by decide)).trans (fn rfl (by decide)))
  have hey43 : Fvy27 28 = F 28 := ((hFvy27 28 (by decide)).trans (fn rfl (by decide)))
  have hey44 : Fvy27 29 = F 29 := ((hFvy27 29 (by decide)).trans (fn rfl (by decide)))
  have hKy45 : okF Fvy27 := by unfold okF; omega
  have hMy46 : okMr cs ad gvy27 i (x + 1) Fvy27 r := okMr.upd hM hcvy27 hKy45 (fun f a => hFy31 f (by omega)) hgy30 (hA.mono (by omega)) (fun j a b => by
      exact Or.inl (by rw [hfvy27 _ (by omega)]; rw [egy25, va_up_ne _ _ (by omega)]))
  have h23 : Fvy27 23 = F 23 := ((hFvy27 23 (by decide)).trans (fn rfl (by decide)))
  exact z_iret C hr hlk dX10_toWarm_29 (by decide) (by decide) ⟨0, rfl, rfl, rfl, by omega, ⟨_, _, hMy46, by omega⟩, fun j j1 => by rw [hfvy27 _ (by omega)]; rw [egy25, va_up_ne _ _ (by omega)]⟩

set_option maxRecDepth 100000 in
set_option maxHeartbeats 4000000 in
theorem c_X10_toWarm (l : Launch) (D : va_G) (A : Nat → Prop) (cs : Nat → ClassId) (tt : Nat) (N : Nat) (ad : Nat → Nat) (g : Nat → va_E) (i : Nat) (hN : i + 30 ≤ N) (x : Int) (hx : 0 ≤ x ∧ x ≤ 512) (F r : Nat → Int) (hM : okMr cs ad g i x F r) (z : Int) (hz : -2147483648 ≤ z ∧ z ≤ 2147483647) (z1 : Int) (hz1 : -2147483648 ≤ z1 ∧ z1 ≤ 2147483647) : zM l yX10_toWarm cX10_toWarm 6 (some .int) ({ frames := 11, cells := 0, slots := 0, locals := 660 } : Room) D A cs tt N ad g [.ref (ad i), .int (zI (z)), .int (zI (z1))] (rI0 N ad fun q g' => (-2147483648 ≤ q ∧ q ≤ 2147483647) ∧ (∃ F' r' : Nat → Int, okMr cs ad g' i (x + 1) F' r' ∧ F' 23 = F 23) ∧ ∀ j, j < i ∨ i + 30 ≤ j → g' j = g j) := by
  by_cases h9 : 0 ≤ z ∧ z ≤ 3
  · obtain ⟨n, rfl⟩ : ∃ n : Nat, z = (n : Int) := ⟨z.toNat, by omega⟩
    exact c_X10_toWarm_a l D A cs tt N ad g i hN x hx F r hM n (by omega) z1 hz1
  · exact c_X10_toWarm_b l D A cs tt N ad g i hN x hx F r hM z hz (by omega) z1 hz1

