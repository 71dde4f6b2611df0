theorem okW.slope0 {r r' : Nat → Int} {b s p : Nat} {x : Int} (h : okW r b x) (hs : s < 4) (hp : b + 6 + 86 * s = p) (hS : okS r' p (mB (r b + x)) (eB (r b + x))) (he : ∀ j, b ≤ j → j < b + 350 → j < p ∨ p + 86 ≤ j → j ≠ b + 2 → j ≠ b + 3 → j ≠ b + 4 → r' j = r j) : okW r' b x := by
  obtain ⟨h1, h2, h3, h4⟩ := h
  have h0 : r' b = r b := he b (by omega) (by omega) (by omega) (by omega) (by omega) (by omega)
  have hn : r' (b + 1) = r (b + 1) := he (b + 1) (by omega) (by omega) (by omega) (by omega) (by omega) (by omega)
  have h5 : r' (b + 5) = r (b + 5) := he (b + 5) (by omega) (by omega) (by omega) (by omega) (by omega) (by omega)
  refine ⟨fun k hk => ?_, by rw [h0]; exact h2, by rw [h0, hn]; exact h3, by rw [h5]; exact h4⟩
  rw [h0]
  by_cases e : k = s
  · subst e; rw [hp]; exact hS
  · exact (h1 k hk).ext (fun j a1 a2 => he j (by omega) (by omega) (by omega) (by omega) (by omega) (by omega))

set_option maxRecDepth 100000 in
set_option maxHeartbeats 4000000 in
theorem c_X10_extra (l : Launch) (D : va_G) (A : Nat → Prop) (cs : Nat → ClassId) (tt : Nat) (N : Nat) (ad : Nat → Nat) (g : Nat → va_E) (z : Int) (hz : 0 ≤ z ∧ z ≤ 30) : zM l yX10_extra cX10_extra 1 (some .int) ({ frames := 2, cells := 0, slots := 0, locals := 120 } : Room) D A cs tt N ad g [.int (zI (z))] (rI0 N ad fun r g' => (-2147483648 ≤ r ∧ r ≤ 2147483647) ∧ g = g') := by
  refine z_of (by decide) (Nat.le_of_ble_eq_true rfl) ?_
  intro pZ eZ sZ mZ below meth cZ C hr hlk hnm
  refine z_lv (lv' := [(0, .int (zI (z)))]) [0] rfl ?_
  refine z_iload_n C 0 dX10_extra_0 rfl ?_
  refine z_bipush (z := 10) C dX10_extra_1 (by decide) ?_
  refine z_cS (As := [.int (zI (z)), .int (zI (10))]) (rest := []) C (c_X10_lesser l D A cs tt N ad _ (z) (by omega) (10) (by omega)) ms_yX10_lesser q_1792 hd_yX10_lesser (by decide) (Nat.le_of_ble_eq_true rfl) (by decide) dX10_extra_3 rfl (kI0 fun vy1 gvy1 hvy1 => ?_)
  obtain ⟨hvy1, rfl⟩ := hvy1
  refine z_iconst (z := 2) C dX10_extra_6 rfl ?_
  refine z_iload_n C 0 dX10_extra_7 rfl ?_
  refine z_bipush (z := 10) C dX10_extra_8 (by decide) ?_
  refine z_isub C dX10_extra_10 ?_
  refine z_iconst (z := 0) C dX10_extra_11 rfl ?_
  refine z_cS (As := [.int (zI (z - 10)), .int (zI (0))]) (rest := [.int (zI (2)), .int (zI (vy1))]) C (c_X10_greater l D A cs tt N ad _ (z - 10) (by omega) (0) (by omega)) ms_yX10_greater q_1905 hd_yX10_greater (by decide) (Nat.le_of_ble_eq_true rfl) (by decide) dX10_extra_12 rfl (kI0 fun vy2 gvy2 hvy2 => ?_)
  obtain ⟨hvy2, rfl⟩ := hvy2
  refine z_bipush (z := 10) C dX10_extra_15 (by decide) ?_
  refine z_cS (As := [.int (zI (vy2)), .int (zI (10))]) (rest := [.int (zI (2)), .int (zI (vy1))]) C (c_X10_lesser l D A cs tt N ad _ (vy2) (by omega) (10) (by omega)) ms_yX10_lesser q_1792 hd_yX10_lesser (by decide) (Nat.le_of_ble_eq_true rfl) (by decide) dX10_extra_17 rfl (kI0 fun vy3 gvy3 hvy3 => ?_)
  obtain ⟨hvy3, rfl⟩ := hvy3
  refine z_imul C dX10_extra_20 ?_
  refine z_iadd C dX10_extra_21 ?_
  refine z_iconst (z := 4) C dX10_extra_22 rfl ?_
  refine z_iload_n C 0 dX10_extra_23 rfl ?_
  refine z_bipush (z := 20) C dX10_extra_24 (by decide) ?_
  refine z_isub C dX10_extra_26 ?_
  refine z_iconst (z := 0) C dX10_extra_27 rfl ?_
  refine z_cS (As := [.int (zI (z - 20)), .int (zI (0))]) (rest := [.int (zI (4)), .int (zI (vy1 + (2 * vy3)))]) C (c_X10_greater l D A cs tt N ad _ (z - 20) (by omega) (0) (by omega)) ms_yX10_greater q_1905 hd_yX10_greater (by decide) (Nat.le_of_ble_eq_true rfl) (by decide) dX10_extra_28 rfl (kI0 fun vy4 gvy4 hvy4 => ?_)
  obtain ⟨hvy4, rfl⟩ := hvy4
  refine z_imul C dX10_extra_31 ?_
  refine z_iadd C dX10_extra_32 ?_
  exact z_iret C hr hlk dX10_extra_33 (by decide) (by decide) ⟨(vy1 + (2 * vy3)) + (4 * vy4), rfl, rfl, rfl, by omega, rfl⟩

set_option maxRecDepth 100000 in
set_option maxHeartbeats 4000000 in
theorem c_X10_stands_a (l : Launch) (D : va_G) (A : Nat → Prop) (cs : Nat → ClassId) (tt : Nat) (N : Nat) (ad : Nat → Nat) (g : Nat → va_E) (i : Nat) (hN : i + 30 ≤ N) (x : Int) (hx : 0 ≤ x ∧ x ≤ 512) (F r : Nat → Int) {st op ai fa mu tb tp : Nat → Int} (hM : okMr cs ad g i x F r st op ai fa mu tb tp) (n : Nat) (hn4 : n < 4) (z1 : Int) (hz1 : -2147483648 ≤ z1 ∧ z1 ≤ 2147483647) : zM l yX10_stands cX10_stands 5 (some .int) ({ frames := 8, cells := 0, slots := 0, locals := 480 } : Room) D A cs tt N ad g [.ref (ad i), .int (zI ((n : Int))), .int (zI (z1))] (rI0 N ad fun q g' => (-2147483648 ≤ q ∧ q ≤ 2147483647) ∧ (∃ F' r' : Nat → Int, okMr cs ad g' i (x + 1) F' r' st op ai fa mu tb tp ∧ (F' 13 = F 13 ∧ F' 14 = F 14 ∧ F' 17 = F 17 ∧ F' 20 = F 20 ∧ F' 21 = F 21 ∧ F' 23 = F 23 ∧ F' 24 = F 24)) ∧ ∀ j, j < i ∨ i + 30 ≤ j → g' j = g j) := by
  obtain ⟨hg, ⟨⟨e13, e14, e25, e27, e29⟩, k15, k16, k17, k18, k19, k20, k23, k21⟩, hRD, hTx, hA, ns, nh, nd, rf, pi, te, ki, li, ok1, ok2, fo, dd, dps, ⟨ha1, ha2, ha3, ha4, ha5, ha6, ha7, ha8, ha9, ha10, ha11, ha12, ha13, ha14, ha15, ha24, ha25, ha26, ha27, ha28, ha29⟩, hEv, hPt, hns, htp⟩ := id hM
  obtain ⟨-, hop, hai, hfa, hT, hT1⟩ := id hEv
  have hay1 : zAt ad (i) (ad i) := rfl
  have hay2 : zAt ad (i + 1) (ad (i + 1)) := rfl
  have hay3 : zAt ad (i + 2) (ad (i + 2)) := rfl
  have hay4 : zAt ad (i + 3) (ad (i + 3)) := rfl
  have hay5 : zAt ad (i + 4) (ad (i + 4)) := rfl
  have hay6 : zAt ad (i + 5) (ad (i + 5)) := rfl
  have hay7 : zAt ad (i + 6) (ad (i + 6)) := rfl
  have hay8 : zAt ad (i + 7) (ad (i + 7)) := rfl
  have hay9 : zAt ad (i + 8) (ad (i + 8)) := rfl
  have hay10 : zAt ad (i + 9) (ad (i + 9)) := rfl
  have hay11 : zAt ad (i + 10) (ad (i + 10)) := rfl
  have hay12 : zAt ad (i + 11) (ad (i + 11)) := rfl
  have hay13 : zAt ad (i + 12) (ad (i + 12)) := rfl
  have hay14 : zAt ad (i + 13) (ad (i + 13)) := rfl
  have hay15 : zAt ad (i + 14) (ad (i + 14)) := rfl
  have hay16 : zAt ad (i + 15) (ad (i + 15)) := rfl
  have hay17 : zAt ad (i + 24) (ad (i + 24)) := rfl
  have hay18 : zAt ad (i + 25) (ad (i + 25)) := rfl
  have hay19 : zAt ad (i + 26) (ad (i + 26)) := rfl
  have hay20 : zAt ad (i + 27) (ad (i + 27)) := rfl
  have hay21 : zAt ad (i + 28) (ad (i + 28)) := rfl
  have hay22 : zAt ad (i + 29) (ad (i + 29)) := rfl
  obtain ⟨⟨hsyy23, htyy23, hnyy23, hpyy23⟩, hlyy23⟩ := okA.at0 hA
  simp only [Nat.zero_add] at hsyy23 hnyy23 hpyy23
  have hmn : ∀ s, s < 4 → 0 ≤ r (6 + 86 * s) ∧ r (6 + 86 * s) ≤ 12 := fun s hs => (hsyy23 s hs).1
  have h5 : 0 ≤ r 5 ∧ r 5 ≤ 6 := hpyy23
  refine z_of (by decide) (Nat.le_of_ble_eq_true rfl) ?_
  intro pZ eZ sZ mZ below meth cZ C hr hlk hnm
  refine z_lv (lv' := [(0, .ref (ad i)), (1, .int (zI ((n : Int)))), (2, .int (zI (z1)))]) [0, 1, 2] rfl ?_
  refine z_aload_n C 0 dX10_stands_0 rfl ?_
  refine z_iconst (z := 0) C dX10_stands_1 rfl ?_
  refine z_put (fs' := mF ad (i) (uZ F 12 (0))) C (lt_A0 hN rfl) hay1 hg tyX10 tyX10_ok nmX10 rfl inA_X10 12 (by decide) q_1471 rfl rfl rfl rfl (Nat.le_of_ble_eq_true rfl) rfl dX10_stands_2 (fun gy24 egy25 => ?_)
  have hgy26 := up_s egy25
  refine z_aload_n C 0 dX10_stands_5 rfl ?_
  refine z_iload_n C 1 dX10_stands_6 rfl ?_
  have h13vy27 : (uZ F 12 (0)) 13 = F 13 := (fn rfl (by decide))
  have hey28 : (uZ F 12 (0)) 12 = 0 := (uZ_s _ _ _)
  refine z_cV (As := [.int (zI ((n : Int)))]) (rest := []) (ci := 12) C (c_X10_isSlope l D A cs tt N ad _ i hN _ hgy26 (by omega) (by omega) ((n : Int)) (by omega)) (lt_A0 hN rfl) hay1 hgy26 rfl rfl mv_yX10_isSlope q_1803 hd_yX10_isSlope (by decide) (Nat.le_of_ble_eq_true rfl) (by decide) dX10_stands_7 rfl (kI0 fun vy27 gvy27 hvy27 => ?_)
  rw [h13vy27] at hvy27
  obtain ⟨hrvy27, ⟨Fvy27, hcvy27, htvy27, hFvy27⟩, hfvy27⟩ := hvy27
  rcases (show vy27 = 1 ∨ vy27 = 0 by omega) with rfl | rfl
  · have hxvy27 := hrvy27.2 rfl
    refine z_if_eq (tgt := 27) C dX10_stands_10 (by decide) (by omega) (fun h => absurd h (by omega)) (fun _ => ?_)
    refine z_aload_n C 0 dX10_stands_13 rfl ?_
    refine z_iload_n C 2 dX10_stands_14 rfl ?_
    refine z_iconst (z := 0) C dX10_stands_15 rfl ?_
    refine z_iconst (z := 1) C dX10_stands_16 rfl ?_
    refine z_cS (As := [.int (zI (z1)), .int (zI (0)), .int (zI (1))]) (rest := [.ref (ad i)]) C (c_X10_within l D A cs tt N ad _ (z1) (by omega) (0) (by omega) (1) (by omega)) ms_yX10_within q_1686 hd_yX10_within (by decide) (Nat.le_of_ble_eq_true rfl) (by decide) dX10_stands_17 rfl (kI0 fun vy29 gvy29 hvy29 => ?_)
    obtain ⟨hvy29, rfl⟩ := hvy29
    rcases hvy29 with ⟨rfl, hxvy29⟩ | ⟨rfl, hxvy29⟩
    · refine z_iconst (z := 1) C dX10_stands_20 rfl ?_
      have hey31 : Fvy27 12 = Fvy27 12 := rfl
      refine z_cV (As := [.int (zI (1)), .int (zI (1))]) (rest := []) (ci := 12) C (c_X10_right l D A cs tt N ad _ i hN _ hcvy27 (by omega) (1) (by omega) (1) (by omega)) (lt_A0 hN rfl) hay1 hcvy27 rfl rfl mv_yX10_right q_1648 hd_yX10_right (by decide) (Nat.le_of_ble_eq_true rfl) (by decide) dX10_stands_21 rfl (kI0 fun vy30 gvy30 hvy30 => ?_)
      obtain ⟨hrvy30, ⟨Fvy30, hcvy30, htvy30, hFvy30⟩, hfvy30⟩ := hvy30
      rcases (show vy30 = 1 ∨ vy30 = 0 by omega) with rfl | rfl
      · refine z_if_ne (tgt := 29) C dX10_stands_24 (by decide) (by omega) (fun _ => ?_) (fun h => absurd h (by omega))
        refine z_iconst (z := 0) C dX10_stands_29 rfl ?_
        refine z_istore_n (lv' := [(3, .int (zI (0))), (0, .ref (ad i)), (1, .int (zI ((n : Int)))), (2, .int (zI (z1)))]) C dX10_stands_30 rfl (by decide) rfl ?_
        have lp1 : ∀ (n9 : Nat) (tt9 : Int) (g1 : Nat → va_E), (31 - tt9).toNat = n9 → (gvy30 = g1) → (0 ≤ tt9 ∧ tt9 ≤ 31) → zV pZ l eZ ({ frames := 8, cells := 0, slots := 0, locals := 480 } : Room) sZ mZ ([.ref (ad i), .int (zI ((n : Int))), .int (zI (z1))] : List Value).toArray below meth cZ (MQ below (zPost D A (rI0 N ad fun q g' => (-2147483648 ≤ q ∧ q ≤ 2147483647) ∧ (∃ F' r' : Nat → Int, okMr cs ad g' i (x + 1) F' r' st op ai fa mu tb tp ∧ (F' 13 = F 13 ∧ F' 14 = F 14 ∧ F' 17 = F 17 ∧ F' 20 = F 20 ∧ F' 21 = F 21 ∧ F' 23 = F 23 ∧ F' 24 = F 24)) ∧ ∀ j, j < i ∨ i + 30 ≤ j → g' j = g j)) ([.ref (ad i), .int (zI ((n : Int))), .int (zI (z1))] : List Value).toArray sZ ({ frames := 8, cells := 0, slots := 0, locals := 480 } : Room).cells ({ frames := 8, cells := 0, slots := 0, locals := 480 } : Room).slots A) D A 5 (N) ad g1 (0) (0) 31 [(0, .ref (ad i)), (1, .int (zI ((n : Int)))), (2, .int (zI (z1))), (3, .int (zI (tt9)))] [] := by
          intro n9
          induction n9 using Nat.strongRecOn with
          | ind n9 ih_lp1 =>
            intro tt9 g1 hm9 hgz hvlp10
            subst hgz
            refine z_iload_n C 3 dX10_stands_31 rfl ?_
            refine z_bipush (z := 30) C dX10_stands_32 (by decide) ?_
            refine z_icmp_gt (tgt := 97) C dX10_stands_34 (by decide) (by omega) (by omega) (fun hby32 => ?_) (fun hby32 => ?_)
            · refine z_iconst (z := -1) C dX10_stands_97 rfl ?_
              have hgy33 := up_n egy25 ha1 (ne_o (i := i) (c := 1) (d := 0) rfl)
              have hgy34 := (hfvy27 (i + 1) (ne_o (i := i) (c := 1) (d := 0) rfl)).trans hgy33
              have hgy35 := (hfvy30 (i + 1) (ne_o (i := i) (c := 1) (d := 0) rfl)).trans hgy34
              have hFy36 : ∀ f, f ≠ 12 → Fvy30 f = F f := fun f n12 => ((hFvy30 f n12).trans ((hFvy27 f n12).trans ((uZ_n _ _ n12).trans rfl)))
              have hey37 : Fvy30 13 = F 13 := ((hFvy30 13 (by decide)).trans ((hFvy27 13 (by decide)).trans (fn rfl (by decide))))
              have hey38 : Fvy30 14 = F 14 := ((hFvy30 14 (by decide)).trans ((hFvy27 14 (by decide)).trans (fn rfl (by decide))))
              have hey39 : Fvy30 15 = F 15 := ((hFvy30 15 (by decide)).trans ((hFvy27 15 (by decide)).trans (fn rfl (by decide))))
              have hey40 : Fvy30 16 = F 16 := ((hFvy30 16 (by decide)).trans ((hFvy27 16 (by decide)).trans (fn rfl (by decide))))
              have hey41 : Fvy30 17 = F 17 := ((hFvy30 17 (by decide)).trans ((hFvy27 17 (by decide)).trans (fn rfl (by decide))))
              have hey42 : Fvy30 18 = F 18 := ((hFvy30 18 (by decide)).trans ((hFvy27 18 (by decide)).trans (fn rfl (by decide))))
              have hey43 : Fvy30 19 = F 19 := ((hFvy30 19 (by decide)).trans ((hFvy27 19 (by decide)).trans (fn rfl (by decide))))
              have hey44 : Fvy30 20 = F 20 := ((hFvy30 20 (by decide)).trans ((hFvy27 20 (by decide)).trans (fn rfl (by decide))))
              have hey45 : Fvy30 21 = F 21 := ((hFvy30 21 (by decide)).trans ((hFvy27 21 (by decide)).trans (fn rfl (by decide))))
              have hey46 : Fvy30 23 = F 23 := ((hFvy30 23 (by decide)).trans ((hFvy27 23 (by decide)).trans (fn rfl (by decide))))
              have hey47 : Fvy30 25 = F 25 := ((hFvy30 25 (by decide)).trans ((hFvy27 25 (by decide)).trans (fn rfl (by decide))))
              have hey48 : Fvy30 27 = F 27 := ((hFvy30 27 (by decide)).trans ((hFvy27 27 (by decide)).trans (fn rfl (by decide))))
              have hey49 : Fvy30 28 = F 28 := ((hFvy30 28 (by decide)).trans ((hFvy27 28 (by decide)).trans (fn rfl (by decide))))
              have hey50 : Fvy30 29 = F 29 := ((hFvy30 29 (by decide)).trans ((hFvy27 29 (by decide)).trans (fn rfl (by decide))))
              have hKy51 : okF Fvy30 := okF.mv hM.2.1 hey37 hey38 hey39 hey40 hey41 hey42 hey43 hey44 hey45 hey46 hey47 hey48 hey49 hey50
              have hMy52 : okMr cs ad gvy30 i (x + 1) Fvy30 r st op ai fa mu tb tp := okMr.upd hM hcvy30 hKy51 (fun f a => hFy36 f (by omega)) hgy35 (hA.mono (by omega)) (fun j a b => by
                  exact Or.inl (by rw [hfvy30 _ (by omega)]; rw [hfvy27 _ (by omega)]; rw [egy25, va_up_ne _ _ (by omega)]))
              have hkpy53 : Fvy30 13 = F 13 := ((hFvy30 13 (by decide)).trans ((hFvy27 13 (by decide)).trans (fn rfl (by decide))))
              have hkpy54 : Fvy30 14 = F 14 := ((hFvy30 14 (by decide)).trans ((hFvy27 14 (by decide)).trans (fn rfl (by decide))))
              have hkpy55 : Fvy30 17 = F 17 := ((hFvy30 17 (by decide)).trans ((hFvy27 17 (by decide)).trans (fn rfl (by decide))))
              have hkpy56 : Fvy30 20 = F 20 := ((hFvy30 20 (by decide)).trans ((hFvy27 20 (by decide)).trans (fn rfl (by decide))))
              have hkpy57 : Fvy30 21 = F 21 := ((hFvy30 21 (by decide)).trans ((hFvy27 21 (by decide)).trans (fn rfl (by decide))))
              have hkpy58 : Fvy30 23 = F 23 := ((hFvy30 23 (by decide)).trans ((hFvy27 23 (by decide)).trans (fn rfl (by decide))))
              have hkpy59 : Fvy30 24 = F 24 := ((hFvy30 24 (by decide)).trans ((hFvy27 24 (by decide)).trans (fn rfl (by decide))))
              exact z_iret C hr hlk dX10_stands_98 (by decide) (by decide) ⟨-1, rfl, rfl, rfl, by omega, ⟨_, _, hMy52, ⟨hkpy53, hkpy54, hkpy55, hkpy56, hkpy57, hkpy58, hkpy59⟩⟩, fun j j1 => by rw [hfvy30 _ (by omega)]; rw [hfvy27 _ (by omega)]; rw [egy25, va_up_ne _ _ (by omega)]⟩
            · refine z_iconst (z := 0) C dX10_stands_37 rfl ?_
              refine z_istore (lv' := [(4, .int (zI (0))), (0, .ref (ad i)), (1, .int (zI ((n : Int)))), (2, .int (zI (z1))), (3, .int (zI (tt9)))]) C dX10_stands_38 (by decide) rfl ?_
              have lp2 : ∀ (n9 : Nat) (ll : Int) (g1 : Nat → va_E), (13 - ll).toNat = n9 → (gvy30 = g1) → (0 ≤ ll ∧ ll ≤ 12) → zV pZ l eZ ({ frames := 8, cells := 0, slots := 0, locals := 480 } : Room) sZ mZ ([.ref (ad i), .int (zI ((n : Int))), .int (zI (z1))] : List Value).toArray below meth cZ (MQ below (zPost D A (rI0 N ad fun q g' => (-2147483648 ≤ q ∧ q ≤ 2147483647) ∧ (∃ F' r' : Nat → Int, okMr cs ad g' i (x + 1) F' r' st op ai fa mu tb tp ∧ (F' 13 = F 13 ∧ F' 14 = F 14 ∧ F' 17 = F 17 ∧ F' 20 = F 20 ∧ F' 21 = F 21 ∧ F' 23 = F 23 ∧ F' 24 = F 24)) ∧ ∀ j, j < i ∨ i + 30 ≤ j → g' j = g j)) ([.ref (ad i), .int (zI ((n : Int))), .int (zI (z1))] : List Value).toArray sZ ({ frames := 8, cells := 0, slots := 0, locals := 480 } : Room).cells ({ frames := 8, cells := 0, slots := 0, locals := 480 } : Room).slots A) D A 5 (N) ad g1 (0) (0) 40 [(0, .ref (ad i)), (1, .int (zI ((n : Int)))), (2, .int (zI (z1))), (3, .int (zI (tt9))), (4, .int (zI (ll)))] [] := by
                intro n9
                induction n9 using Nat.strongRecOn with
                | ind n9 ih_lp2 =>
                  intro ll g1 hm9 hgz hvlp20
                  subst hgz
                  refine z_iload C 4 dX10_stands_40 rfl ?_
                  refine z_aload_n C 0 dX10_stands_42 rfl ?_
                  refine z_iconst (z := 0) C dX10_stands_43 rfl ?_
                  refine z_iload_n C 1 dX10_stands_44 rfl ?_
                  obtain ⟨py60, hpy60⟩ : ∃ p9 : Nat, 0 + 6 + 86 * n = p9 := ⟨_, rfl⟩
                  have hmyy61 := ((okA.at0 hA).1.1 n (by omega)).1
                  rw [hpy60] at hmyy61
                  have hgy62 := up_n egy25 ha1 (ne_o (i := i) (c := 1) (d := 0) rfl)
                  have hgy63 := (hfvy27 (i + 1) (ne_o (i := i) (c := 1) (d := 0) rfl)).trans hgy62
                  have hgy64 := (hfvy30 (i + 1) (ne_o (i := i) (c := 1) (d := 0) rfl)).trans hgy63
                  refine z_cV (As := [.int (zI (0)), .int (zI ((n : Int)))]) (rest := [.int (zI (ll))]) (ci := 12) C (c_X10_many l D A cs tt N ad _ i hN _ hcvy30 _ hgy64 0 n py60 hpy60 (by omega) (by omega)) (lt_A0 hN rfl) hay1 hcvy30 rfl rfl mv_yX10_many q_1733 hd_yX10_many (by decide) (Nat.le_of_ble_eq_true rfl) (by decide) dX10_stands_45 rfl (kI0 fun vy65 gvy65 hvy65 => ?_)
                  obtain ⟨rfl, rfl⟩ := hvy65
                  refine z_icmp_ge (tgt := 91) C dX10_stands_48 (by decide) (by omega) (by omega) (fun hby66 => ?_) (fun hby66 => ?_)
                  · refine z_iinc (z := tt9 + 1) (lv' := [(3, .int (zI (tt9 + 1))), (0, .ref (ad i)), (1, .int (zI ((n : Int)))), (2, .int (zI (z1))), (4, .int (zI (ll)))]) (j := 3) C dX10_stands_91 rfl rfl (by decide) rfl ?_
                    refine z_goto (tgt := 31) C dX10_stands_94 (by decide) ?_
                    refine z_lv (lv' := [(0, .ref (ad i)), (1, .int (zI ((n : Int)))), (2, .int (zI (z1))), (3, .int (zI (tt9 + 1)))]) [1, 2, 3, 0] rfl ?_
                    exact ih_lp1 _ (by omega) (tt9 + 1) _ rfl rfl (by omega)
                  · refine z_aload_n C 0 dX10_stands_51 rfl ?_
                    refine z_iconst (z := 0) C dX10_stands_52 rfl ?_
                    refine z_iload_n C 1 dX10_stands_53 rfl ?_
                    refine z_iload C 4 dX10_stands_54 rfl ?_
                    refine z_iload_n C 3 dX10_stands_56 rfl ?_
                    refine z_cS (As := [.int (zI (tt9))]) (rest := [.int (zI (ll)), .int (zI ((n : Int))), .int (zI (0)), .ref (ad i)]) C (c_X10_extra l D A cs tt N ad _ (tt9) (by omega)) ms_yX10_extra q_2000 hd_yX10_extra (by decide) (Nat.le_of_ble_eq_true rfl) (by decide) dX10_stands_57 rfl (kI0 fun vy67 gvy67 hvy67 => ?_)
                    obtain ⟨hvy67, rfl⟩ := hvy67
                    refine z_aload_n C 0 dX10_stands_60 rfl ?_
                    refine z_get (v := .ref (ad (i + 2))) C (lt_A0 hN rfl) hay1 hcvy30 rfl inA_X10 1 (by decide) q_1460 rfl rfl dX10_stands_61 ?_
                    refine z_iload_n C 1 dX10_stands_64 rfl ?_
                    have hgy68 := up_n egy25 ha2 (ne_o (i := i) (c := 2) (d := 0) rfl)
                    have hgy69 := (hfvy27 (i + 2) (ne_o (i := i) (c := 2) (d := 0) rfl)).trans hgy68
                    have hgy70 := (hfvy30 (i + 2) (ne_o (i := i) (c := 2) (d := 0) rfl)).trans hgy69
                    refine z_iald C (lt_A (c := 2) hN rfl) hay3 hgy70 (n) (by omega) (by omega) (by decide) dX10_stands_65 ?_
                    obtain ⟨xy71, exy72, hxy73⟩ := zI_of (zI (st (n)))
                    rw [exy72]
                    have hgy75 := up_n egy25 ha7 (ne_o (i := i) (c := 7) (d := 0) rfl)
                    have hgy76 := (hfvy27 (i + 7) (ne_o (i := i) (c := 7) (d := 0) rfl)).trans hgy75
                    have hgy77 := (hfvy30 (i + 7) (ne_o (i := i) (c := 7) (d := 0) rfl)).trans hgy76
                    have hqy78 : qS r py60 := (((okA.at0 hA).1.1 n (by omega)).of (p2 := py60) (by omega)).q (by have hb9 := mBb (t := r 0 + x) (by omega); omega)
                    have hmky79 := hqy78.1
                    refine z_cV (As := [.int (zI (0)), .int (zI ((n : Int))), .int (zI (ll)), .int (zI (vy67)), .int (zI (xy71))]) (rest := []) (ci := 12) C (c_X10_ratio l D A cs tt N ad _ i hN _ hcvy30 _ hgy64 _ hgy77 0 n py60 hpy60 (by omega) (by omega) hqy78 (ll) (by omega) (vy67) (by omega) (xy71) (by omega)) (lt_A0 hN rfl) hay1 hcvy30 rfl rfl mv_yX10_ratio q_1772 hd_yX10_ratio (by decide) (Nat.le_of_ble_eq_true rfl) (by decide) dX10_stands_66 rfl (kI0 fun vy74 gvy74 hvy74 => ?_)
                    obtain ⟨hvy74, hzvy74, rfl⟩ := hvy74
                    refine z_bipush (z := 100) C dX10_stands_69 (by decide) ?_
                    refine z_icmp_ge (tgt := 85) C dX10_stands_71 (by decide) (by omega) (by omega) (fun hby80 => ?_) (fun hby80 => ?_)
                    · refine z_iinc (z := ll + 1) (lv' := [(4, .int (zI (ll + 1))), (0, .ref (ad i)), (1, .int (zI ((n : Int)))), (2, .int (zI (z1))), (3, .int (zI (tt9)))]) (j := 4) C dX10_stands_85 rfl rfl (by decide) rfl ?_
                      refine z_goto (tgt := 40) C dX10_stands_88 (by decide) ?_
                      refine z_lv (lv' := [(0, .ref (ad i)), (1, .int (zI ((n : Int)))), (2, .int (zI (z1))), (3, .int (zI (tt9))), (4, .int (zI (ll + 1)))]) [1, 2, 3, 4, 0] rfl ?_
                      exact ih_lp2 _ (by omega) (ll + 1) _ rfl rfl (by omega)
                    · refine z_iload_n C 2 dX10_stands_74 rfl ?_
                      refine z_if_ne (tgt := 82) C dX10_stands_75 (by decide) (by omega) (fun hby81 => ?_) (fun hby81 => ?_)
                      · refine z_iload C 4 dX10_stands_82 rfl ?_
                        have hFy82 : ∀ f, f ≠ 12 → Fvy30 f = F f := fun f n12 => ((hFvy30 f n12).trans ((hFvy27 f n12).trans ((uZ_n _ _ n12).trans rfl)))
                        have hey83 : Fvy30 13 = F 13 := ((hFvy30 13 (by decide)).trans ((hFvy27 13 (by decide)).trans (fn rfl (by decide))))
                        have hey84 : Fvy30 14 = F 14 := ((hFvy30 14 (by decide)).trans ((hFvy27 14 (by decide)).trans (fn rfl (by decide))))
                        have hey85 : Fvy30 15 = F 15 := ((hFvy30 15 (by decide)).trans ((hFvy27 15 (by decide)).trans (fn rfl (by decide))))
                        have hey86 : Fvy30 16 = F 16 := ((hFvy30 16 (by decide)).trans ((hFvy27 16 (by decide)).trans (fn rfl (by decide))))
                        have hey87 : Fvy30 17 = F 17 := ((hFvy30 17 (by decide)).trans ((hFvy27 17 (by decide)).trans (fn rfl (by decide))))
                        have hey88 : Fvy30 18 = F 18 := ((hFvy30 18 (by decide)).trans ((hFvy27 18 (by decide)).trans (fn rfl (by decide))))
                        have hey89 : Fvy30 19 = F 19 := ((hFvy30 19 (by decide)).trans ((hFvy27 19 (by decide)).trans (fn rfl (by decide))))
                        have hey90 : Fvy30 20 = F 20 := ((hFvy30 20 (by decide)).trans ((hFvy27 20 (by decide)).trans (fn rfl (by decide))))
                        have hey91 : Fvy30 21 = F 21 := ((hFvy30 21 (by decide)).trans ((hFvy27 21 (by decide)).trans (fn rfl (by decide))))
                        have hey92 : Fvy30 23 = F 23 := ((hFvy30 23 (by decide)).trans ((hFvy27 23 (by decide)).trans (fn rfl (by decide))))
                        have hey93 : Fvy30 25 = F 25 := ((hFvy30 25 (by decide)).trans ((hFvy27 25 (by decide)).trans (fn rfl (by decide))))
                        have hey94 : Fvy30 27 = F 27 := ((hFvy30 27 (by decide)).trans ((hFvy27 27 (by decide)).trans (fn rfl (by decide))))
                        have hey95 : Fvy30 28 = F 28 := ((hFvy30 28 (by decide)).trans ((hFvy27 28 (by decide)).trans (fn rfl (by decide))))
                        have hey96 : Fvy30 29 = F 29 := ((hFvy30 29 (by decide)).trans ((hFvy27 29 (by decide)).trans (fn rfl (by decide))))
                        have hKy97 : okF Fvy30 := okF.mv hM.2.1 hey83 hey84 hey85 hey86 hey87 hey88 hey89 hey90 hey91 hey92 hey93 hey94 hey95 hey96
                        have hMy98 : okMr cs ad gvy30 i (x + 1) Fvy30 r st op ai fa mu tb tp := okMr.upd hM hcvy30 hKy97 (fun f a => hFy82 f (by omega)) hgy64 (hA.mono (by omega)) (fun j a b => by
                            exact Or.inl (by rw [hfvy30 _ (by omega)]; rw [hfvy27 _ (by omega)]; rw [egy25, va_up_ne _ _ (by omega)]))
                        have hkpy99 : Fvy30 13 = F 13 := ((hFvy30 13 (by decide)).trans ((hFvy27 13 (by decide)).trans (fn rfl (by decide))))
                        have hkpy100 : Fvy30 14 = F 14 := ((hFvy30 14 (by decide)).trans ((hFvy27 14 (by decide)).trans (fn rfl (by decide))))
                        have hkpy101 : Fvy30 17 = F 17 := ((hFvy30 17 (by decide)).trans ((hFvy27 17 (by decide)).trans (fn rfl (by decide))))
                        have hkpy102 : Fvy30 20 = F 20 := ((hFvy30 20 (by decide)).trans ((hFvy27 20 (by decide)).trans (fn rfl (by decide))))
                        have hkpy103 : Fvy30 21 = F 21 := ((hFvy30 21 (by decide)).trans ((hFvy27 21 (by decide)).trans (fn rfl (by decide))))
                        have hkpy104 : Fvy30 23 = F 23 := ((hFvy30 23 (by decide)).trans ((hFvy27 23 (by decide)).trans (fn rfl (by decide))))
                        have hkpy105 : Fvy30 24 = F 24 := ((hFvy30 24 (by decide)).trans ((hFvy27 24 (by decide)).trans (fn rfl (by decide))))
                        exact z_iret C hr hlk dX10_stands_84 (by decide) (by decide) ⟨ll, rfl, rfl, rfl, by omega, ⟨_, _, hMy98, ⟨hkpy99, hkpy100, hkpy101, hkpy102, hkpy103, hkpy104, hkpy105⟩⟩, fun j j1 => by rw [hfvy30 _ (by omega)]; rw [hfvy27 _ (by omega)]; rw [egy25, va_up_ne _ _ (by omega)]⟩
                      · refine z_iload_n C 3 dX10_stands_78 rfl ?_
                        refine z_goto (tgt := 84) C dX10_stands_79 (by decide) ?_
                        have hFy106 : ∀ f, f ≠ 12 → Fvy30 f = F f := fun f n12 => ((hFvy30 f n12).trans ((hFvy27 f n12).trans ((uZ_n _ _ n12).trans rfl)))
                        have hey107 : Fvy30 13 = F 13 := ((hFvy30 13 (by decide)).trans ((hFvy27 13 (by decide)).trans (fn rfl (by decide))))
                        have hey108 : Fvy30 14 = F 14 := ((hFvy30 14 (by decide)).trans ((hFvy27 14 (by decide)).trans (fn rfl (by decide))))
                        have hey109 : Fvy30 15 = F 15 := ((hFvy30 15 (by decide)).trans ((hFvy27 15 (by decide)).trans (fn rfl (by decide))))
                        have hey110 : Fvy30 16 = F 16 := ((hFvy30 16 (by decide)).trans ((hFvy27 16 (by decide)).trans (fn rfl (by decide))))
                        have hey111 : Fvy30 17 = F 17 := ((hFvy30 17 (by decide)).trans ((hFvy27 17 (by decide)).trans (fn rfl (by decide))))
                        have hey112 : Fvy30 18 = F 18 := ((hFvy30 18 (by decide)).trans ((hFvy27 18 (by decide)).trans (fn rfl (by decide))))
                        have hey113 : Fvy30 19 = F 19 := ((hFvy30 19 (by decide)).trans ((hFvy27 19 (by decide)).trans (fn rfl (by decide))))
                        have hey114 : Fvy30 20 = F 20 := ((hFvy30 20 (by decide)).trans ((hFvy27 20 (by decide)).trans (fn rfl (by decide))))
                        have hey115 : Fvy30 21 = F 21 := ((hFvy30 21 (by decide)).trans ((hFvy27 21 (by decide)).trans (fn rfl (by decide))))
                        have hey116 : Fvy30 23 = F 23 := ((hFvy30 23 (by decide)).trans ((hFvy27 23 (by decide)).trans (fn rfl (by decide))))
                        have hey117 : Fvy30 25 = F 25 := ((hFvy30 25 (by decide)).trans ((hFvy27 25 (by decide)).trans (fn rfl (by decide))))
                        have hey118 : Fvy30 27 = F 27 := ((hFvy30 27 (by decide)).trans ((hFvy27 27 (by decide)).trans (fn rfl (by decide))))
                        have hey119 : Fvy30 28 = F 28 := ((hFvy30 28 (by decide)).trans ((hFvy27 28 (by decide)).trans (fn rfl (by decide))))
                        have hey120 : Fvy30 29 = F 29 := ((hFvy30 29 (by decide)).trans ((hFvy27 29 (by decide)).trans (fn rfl (by decide))))
                        have hKy121 : okF Fvy30 := okF.mv hM.2.1 hey107 hey108 hey109 hey110 hey111 hey112 hey113 hey114 hey115 hey116 hey117 hey118 hey119 hey120
                        have hMy122 : okMr cs ad gvy30 i (x + 1) Fvy30 r st op ai fa mu tb tp := okMr.upd hM hcvy30 hKy121 (fun f a => hFy106 f (by omega)) hgy64 (hA.mono (by omega)) (fun j a b => by
                            exact Or.inl (by rw [hfvy30 _ (by omega)]; rw [hfvy27 _ (by omega)]; rw [egy25, va_up_ne _ _ (by omega)]))
                        have hkpy123 : Fvy30 13 = F 13 := ((hFvy30 13 (by decide)).trans ((hFvy27 13 (by decide)).trans (fn rfl (by decide))))
                        have hkpy124 : Fvy30 14 = F 14 := ((hFvy30 14 (by decide)).trans ((hFvy27 14 (by decide)).trans (fn rfl (by decide))))
                        have hkpy125 : Fvy30 17 = F 17 := ((hFvy30 17 (by decide)).trans ((hFvy27 17 (by decide)).trans (fn rfl (by decide))))
                        have hkpy126 : Fvy30 20 = F 20 := ((hFvy30 20 (by decide)).trans ((hFvy27 20 (by decide)).trans (fn rfl (by decide))))
                        have hkpy127 : Fvy30 21 = F 21 := ((hFvy30 21 (by decide)).trans ((hFvy27 21 (by decide)).trans (fn rfl (by decide))))
                        have hkpy128 : Fvy30 23 = F 23 := ((hFvy30 23 (by decide)).trans ((hFvy27 23 (by decide)).trans (fn rfl (by decide))))
                        have hkpy129 : Fvy30 24 = F 24 := ((hFvy30 24 (by decide)).trans ((hFvy27 24 (by decide)).trans (fn rfl (by decide))))
                        exact z_iret C hr hlk dX10_stands_84 (by decide) (by decide) ⟨tt9, rfl, rfl, rfl, by omega, ⟨_, _, hMy122, ⟨hkpy123, hkpy124, hkpy125, hkpy126, hkpy127, hkpy128, hkpy129⟩⟩, fun j j1 => by rw [hfvy30 _ (by omega)]; rw [hfvy27 _ (by omega)]; rw [egy25, va_up_ne _ _ (by omega)]⟩
              refine z_lv (lv' := [(0, .ref (ad i)), (1, .int (zI ((n : Int)))), (2, .int (zI (z1))), (3, .int (zI (tt9))), (4, .int (zI (0)))]) [1, 2, 3, 4, 0] rfl ?_
              exact lp2 _ (0) _ rfl rfl (by omega)
        refine z_lv (lv' := [(0, .ref (ad i)), (1, .int (zI ((n : Int)))), (2, .int (zI (z1))), (3, .int (zI (0)))]) [1, 2, 3, 0] rfl ?_
        exact lp1 _ (0) _ rfl rfl (by omega)
      · refine z_if_ne (tgt := 29) C dX10_stands_24 (by decide) (by omega) (fun h => absurd h (by omega)) (fun _ => ?_)
        refine z_iconst (z := 0) C dX10_stands_27 rfl ?_
        have hgy130 := up_n egy25 ha1 (ne_o (i := i) (c := 1) (d := 0) rfl)
        have hgy131 := (hfvy27 (i + 1) (ne_o (i := i) (c := 1) (d := 0) rfl)).trans hgy130
        have hgy132 := (hfvy30 (i + 1) (ne_o (i := i) (c := 1) (d := 0) rfl)).trans hgy131
        have hFy133 : ∀ f, f ≠ 12 → Fvy30 f = F f := fun f n12 => ((hFvy30 f n12).trans ((hFvy27 f n12).trans ((uZ_n _ _ n12).trans rfl)))
        have hey134 : Fvy30 13 = F 13 := ((hFvy30 13 (by decide)).trans ((hFvy27 13 (by decide)).trans (fn rfl (by decide))))
        have hey135 : Fvy30 14 = F 14 := ((hFvy30 14 (by decide)).trans ((hFvy27 14 (by decide)).trans (fn rfl (by decide))))
        have hey136 : Fvy30 15 = F 15 := ((hFvy30 15 (by decide)).trans ((hFvy27 15 (by decide)).trans (fn rfl (by decide))))
        have hey137 : Fvy30 16 = F 16 := ((hFvy30 16 (by decide)).trans ((hFvy27 16 (by decide)).trans (fn rfl (by decide))))
        have hey138 : Fvy30 17 = F 17 := ((hFvy30 17 (by decide)).trans ((hFvy27 17 (by decide)).trans (fn rfl (by decide))))
        have hey139 : Fvy30 18 = F 18 := ((hFvy30 18 (by decide)).trans ((hFvy27 18 (by decide)).trans (fn rfl (by decide))))
        have hey140 : Fvy30 19 = F 19 := ((hFvy30 19 (by decide)).trans ((hFvy27 19 (by decide)).trans (fn rfl (by decide))))
        have hey141 : Fvy30 20 = F 20 := ((hFvy30 20 (by decide)).trans ((hFvy27 20 (by decide)).trans (fn rfl (by decide))))
        have hey142 : Fvy30 21 = F 21 := ((hFvy30 21 (by decide)).trans ((hFvy27 21 (by decide)).trans (fn rfl (by decide))))
        have hey143 : Fvy30 23 = F 23 := ((hFvy30 23 (by decide)).trans ((hFvy27 23 (by decide)).trans (fn rfl (by decide))))
        have hey144 : Fvy30 25 = F 25 := ((hFvy30 25 (by decide)).trans ((hFvy27 25 (by decide)).trans (fn rfl (by decide))))
        have hey145 : Fvy30 27 = F 27 := ((hFvy30 27 (by decide)).trans ((hFvy27 27 (by decide)).trans (fn rfl (by decide))))
        have hey146 : Fvy30 28 = F 28 := ((hFvy30 28 (by decide)).trans ((hFvy27 28 (by decide)).trans (fn rfl (by decide))))
        have hey147 : Fvy30 29 = F 29 := ((hFvy30 29 (by decide)).trans ((hFvy27 29 (by decide)).trans (fn rfl (by decide))))
        have hKy148 : okF Fvy30 := okF.mv hM.2.1 hey134 hey135 hey136 hey137 hey138 hey139 hey140 hey141 hey142 hey143 hey144 hey145 hey146 hey147
        have hMy149 : okMr cs ad gvy30 i (x + 1) Fvy30 r st op ai fa mu tb tp := okMr.upd hM hcvy30 hKy148 (fun f a => hFy133 f (by omega)) hgy132 (hA.mono (by omega)) (fun j a b => by
            exact Or.inl (by rw [hfvy30 _ (by omega)]; rw [hfvy27 _ (by omega)]; rw [egy25, va_up_ne _ _ (by omega)]))
        have hkpy150 : Fvy30 13 = F 13 := ((hFvy30 13 (by decide)).trans ((hFvy27 13 (by decide)).trans (fn rfl (by decide))))
        have hkpy151 : Fvy30 14 = F 14 := ((hFvy30 14 (by decide)).trans ((hFvy27 14 (by decide)).trans (fn rfl (by decide))))
        have hkpy152 : Fvy30 17 = F 17 := ((hFvy30 17 (by decide)).trans ((hFvy27 17 (by decide)).trans (fn rfl (by decide))))
        have hkpy153 : Fvy30 20 = F 20 := ((hFvy30 20 (by decide)).trans ((hFvy27 20 (by decide)).trans (fn rfl (by decide))))
        have hkpy154 : Fvy30 21 = F 21 := ((hFvy30 21 (by decide)).trans ((hFvy27 21 (by decide)).trans (fn rfl (by decide))))
        have hkpy155 : Fvy30 23 = F 23 := ((hFvy30 23 (by decide)).trans ((hFvy27 23 (by decide)).trans (fn rfl (by decide))))
        have hkpy156 : Fvy30 24 = F 24 := ((hFvy30 24 (by decide)).trans ((hFvy27 24 (by decide)).trans (fn rfl (by decide))))
        exact z_iret C hr hlk dX10_stands_28 (by decide) (by decide) ⟨0, rfl, rfl, rfl, by omega, ⟨_, _, hMy149, ⟨hkpy150, hkpy151, hkpy152, hkpy153, hkpy154, hkpy155, hkpy156⟩⟩, fun j j1 => by rw [hfvy30 _ (by omega)]; rw [hfvy27 _ (by omega)]; rw [egy25, va_up_ne _ _ (by omega)]⟩
    · refine z_iconst (z := 1) C dX10_stands_20 rfl ?_
      have hey158 : Fvy27 12 = Fvy27 12 := rfl
      refine z_cV (As := [.int (zI (0)), .int (zI (1))]) (rest := []) (ci := 12) C (c_X10_right l D A cs tt N ad _ i hN _ hcvy27 (by omega) (0) (by omega) (1) (by omega)) (lt_A0 hN rfl) hay1 hcvy27 rfl rfl mv_yX10_right q_1648 hd_yX10_right (by decide) (Nat.le_of_ble_eq_true rfl) (by decide) dX10_stands_21 rfl (kI0 fun vy157 gvy157 hvy157 => ?_)
      obtain ⟨hrvy157, ⟨Fvy157, hcvy157, htvy157, hFvy157⟩, hfvy157⟩ := hvy157
      obtain rfl : vy157 = 0 := by omega
      refine z_if_ne (tgt := 29) C dX10_stands_24 (by decide) (by omega) (fun h => absurd h (by omega)) (fun _ => ?_)
      refine z_iconst (z := 0) C dX10_stands_27 rfl ?_
      have hgy159 := up_n egy25 ha1 (ne_o (i := i) (c := 1) (d := 0) rfl)
      have hgy160 := (hfvy27 (i + 1) (ne_o (i := i) (c := 1) (d := 0) rfl)).trans hgy159
      have hgy161 := (hfvy157 (i + 1) (ne_o (i := i) (c := 1) (d := 0) rfl)).trans hgy160
      have hFy162 : ∀ f, f ≠ 12 → Fvy157 f = F f := fun f n12 => ((hFvy157 f n12).trans ((hFvy27 f n12).trans ((uZ_n _ _ n12).trans rfl)))
      have hey163 : Fvy157 13 = F 13 := ((hFvy157 13 (by decide)).trans ((hFvy27 13 (by decide)).trans (fn rfl (by decide))))
      have hey164 : Fvy157 14 = F 14 := ((hFvy157 14 (by decide)).trans ((hFvy27 14 (by decide)).trans (fn rfl (by decide))))
      have hey165 : Fvy157 15 = F 15 := ((hFvy157 15 (by decide)).trans ((hFvy27 15 (by decide)).trans (fn rfl (by decide))))
      have hey166 : Fvy157 16 = F 16 := ((hFvy157 16 (by decide)).trans ((hFvy27 16 (by decide)).trans (fn rfl (by decide))))
      have hey167 : Fvy157 17 = F 17 := ((hFvy157 17 (by decide)).trans ((hFvy27 17 (by decide)).trans (fn rfl (by decide))))
      have hey168 : Fvy157 18 = F 18 := ((hFvy157 18 (by decide)).trans ((hFvy27 18 (by decide)).trans (fn rfl (by decide))))
      have hey169 : Fvy157 19 = F 19 := ((hFvy157 19 (by decide)).trans ((hFvy27 19 (by decide)).trans (fn rfl (by decide))))
      have hey170 : Fvy157 20 = F 20 := ((hFvy157 20 (by decide)).trans ((hFvy27 20 (by decide)).trans (fn rfl (by decide))))
      have hey171 : Fvy157 21 = F 21 := ((hFvy157 21 (by decide)).trans ((hFvy27 21 (by decide)).trans (fn rfl (by decide))))
      have hey172 : Fvy157 23 = F 23 := ((hFvy157 23 (by decide)).trans ((hFvy27 23 (by decide)).trans (fn rfl (by decide))))
      have hey173 : Fvy157 25 = F 25 := ((hFvy157 25 (by decide)).trans ((hFvy27 25 (by decide)).trans (fn rfl (by decide))))
      have hey174 : Fvy157 27 = F 27 := ((hFvy157 27 (by decide)).trans ((hFvy27 27 (by decide)).trans (fn rfl (by decide))))
      have hey175 : Fvy157 28 = F 28 := ((hFvy157 28 (by decide)).trans ((hFvy27 28 (by decide)).trans (fn rfl (by decide))))
      have hey176 : Fvy157 29 = F 29 := ((hFvy157 29 (by decide)).trans ((hFvy27 29 (by decide)).trans (fn rfl (by decide))))
      have hKy177 : okF Fvy157 := okF.mv hM.2.1 hey163 hey164 hey165 hey166 hey167 hey168 hey169 hey170 hey171 hey172 hey173 hey174 hey175 hey176
      have hMy178 : okMr cs ad gvy157 i (x + 1) Fvy157 r st op ai fa mu tb tp := okMr.upd hM hcvy157 hKy177 (fun f a => hFy162 f (by omega)) hgy161 (hA.mono (by omega)) (fun j a b => by
          exact Or.inl (by rw [hfvy157 _ (by omega)]; rw [hfvy27 _ (by omega)]; rw [egy25, va_up_ne _ _ (by omega)]))
      have hkpy179 : Fvy157 13 = F 13 := ((hFvy157 13 (by decide)).trans ((hFvy27 13 (by decide)).trans (fn rfl (by decide))))
      have hkpy180 : Fvy157 14 = F 14 := ((hFvy157 14 (by decide)).trans ((hFvy27 14 (by decide)).trans (fn rfl (by decide))))
      have hkpy181 : Fvy157 17 = F 17 := ((hFvy157 17 (by decide)).trans ((hFvy27 17 (by decide)).trans (fn rfl (by decide))))
      have hkpy182 : Fvy157 20 = F 20 := ((hFvy157 20 (by decide)).trans ((hFvy27 20 (by decide)).trans (fn rfl (by decide))))
      have hkpy183 : Fvy157 21 = F 21 := ((hFvy157 21 (by decide)).trans ((hFvy27 21 (by decide)).trans (fn rfl (by decide))))
      have hkpy184 : Fvy157 23 = F 23 := ((hFvy157 23 (by decide)).trans ((hFvy27 23 (by decide)).trans (fn rfl (by decide))))
      have hkpy185 : Fvy157 24 = F 24 := ((hFvy157 24 (by decide)).trans ((hFvy27 24 (by decide)).trans (fn rfl (by decide))))
      exact z_iret C hr hlk dX10_stands_28 (by decide) (by decide) ⟨0, rfl, rfl, rfl, by omega, ⟨_, _, hMy178, ⟨hkpy179, hkpy180, hkpy181, hkpy182, hkpy183, hkpy184, hkpy185⟩⟩, fun j j1 => by rw [hfvy157 _ (by omega)]; rw [hfvy27 _ (by omega)]; rw [egy25, va_up_ne _ _ (by omega)]⟩
  · refine z_if_eq (tgt := 27) C dX10_stands_10 (by decide) (by omega) (fun _ => ?_) (fun h => absurd h (by omega))
    refine z_iconst (z := 0) C dX10_stands_27 rfl ?_
    have hgy186 := up_n egy25 ha1 (ne_o (i := i) (c := 1) (d := 0) rfl)
    have hgy187 := (hfvy27 (i + 1) (ne_o (i := i) (c := 1) (d := 0) rfl)).trans hgy186
    have hFy188 : ∀ f, f ≠ 12 → Fvy27 f = F f := fun f n12 => ((hFvy27 f n12).trans ((uZ_n _ _ n12).trans rfl))
    have hey189 : Fvy27 13 = F 13 := ((hFvy27 13 (by decide)).trans (fn rfl (by decide)))
    have hey190 : Fvy27 14 = F 14 := ((hFvy27 14 (by decide)).trans (fn rfl (by decide)))
    have hey191 : Fvy27 15 = F 15 := ((hFvy27 15 (by decide)).trans (fn rfl (by decide)))
    have hey192 : Fvy27 16 = F 16 := ((hFvy27 16 (by decide)).trans (fn rfl (by decide)))
    have hey193 : Fvy27 17 = F 17 := ((hFvy27 17 (by decide)).trans (fn rfl (by decide)))
    have hey194 : Fvy27 18 = F 18 := ((hFvy27 18 (by decide)).trans (fn rfl (by decide)))
    have hey195 : Fvy27 19 = F 19 := ((hFvy27 19 (by decide)).trans (fn rfl (by decide)))
    have hey196 : Fvy27 20 = F 20 := ((hFvy27 20 (by decide)).trans (fn rfl (by decide)))
    have hey197 : Fvy27 21 = F 21 := ((hFvy27 21 (by decide)).trans (fn rfl (by decide)))
    have hey198 : Fvy27 23 = F 23 := ((hFvy27 23 (by decide)).trans (fn rfl (by decide)))
    have hey199 : Fvy27 25 = F 25 := ((hFvy27 25 (by decide)).trans (fn rfl (by decide)))
    have hey200 : Fvy27 27 = F 27 := ((hFvy27 27 (by decide)).trans (fn rfl (by decide)))
    have hey201 : Fvy27 28 = F 28 := ((hFvy27 28 (by decide)).trans (fn rfl (by decide)))
    have hey202 : Fvy27 29 = F 29 := ((hFvy27 29 (by decide)).trans (fn rfl (by decide)))
    have hKy203 : okF Fvy27 := okF.mv hM.2.1 hey189 hey190 hey191 hey192 hey193 hey194 hey195 hey196 hey197 hey198 hey199 hey200 hey201 hey202
    have hMy204 : okMr cs ad gvy27 i (x + 1) Fvy27 r st op ai fa mu tb tp := okMr.upd hM hcvy27 hKy203 (fun f a => hFy188 f (by omega)) hgy187 (hA.mono (by omega)) (fun j a b => by
        exact Or.inl (by rw [hfvy27 _ (by omega)]; rw [egy25, va_up_ne _ _ (by omega)]))
    have hkpy205 : Fvy27 13 = F 13 := ((hFvy27 13 (by decide)).trans (fn rfl (by decide)))
    have hkpy206 : Fvy27 14 = F 14 := ((hFvy27 14 (by decide)).trans (fn rfl (by decide)))
    have hkpy207 : Fvy27 17 = F 17 := ((hFvy27 17 (by decide)).trans (fn rfl (by decide)))
    have hkpy208 : Fvy27 20 = F 20 := ((hFvy27 20 (by decide)).trans (fn rfl (by decide)))
    have hkpy209 : Fvy27 21 = F 21 := ((hFvy27 21 (by decide)).trans (fn rfl (by decide)))
    have hkpy210 : Fvy27 23 = F 23 := ((hFvy27 23 (by decide)).trans (fn rfl (by decide)))
    have hkpy211 : Fvy27 24 = F 24 := ((hFvy27 24 (by decide)).trans (fn rfl (by decide)))
    exact z_iret C hr hlk dX10_stands_28 (by decide) (by decide) ⟨0, rfl, rfl, rfl, by omega, ⟨_, _, hMy204, ⟨hkpy205, hkpy206, hkpy207, hkpy208, hkpy209, hkpy210, hkpy211⟩⟩, fun j j1 => by rw [hfvy27 _ (by omega)]; rw [egy25, va_up_ne _ _ (by omega)]⟩

set_option maxRecDepth 100000 in
set_option maxHeartbeats 4000000 in
theorem c_X10_stands_b (l : Launch) (D : va_G) (A : Nat → Prop) (cs : Nat → ClassId) (tt : Nat) (N : Nat) (ad : Nat → Nat) (g : Nat → va_E) (i : Nat) (hN : i + 30 ≤ N) (x : Int) (hx : 0 ≤ x ∧ x ≤ 512) (F r : Nat → Int) {st op ai fa mu tb tp : Nat → Int} (hM : okMr cs ad g i x F r st op ai fa mu tb tp) (z : Int) (hz : -2147483648 ≤ z ∧ z ≤ 2147483647) (hzo : z < 0 ∨ 3 < z) (z1 : Int) (hz1 : -2147483648 ≤ z1 ∧ z1 ≤ 2147483647) : zM l yX10_stands cX10_stands 5 (some .int) ({ frames := 8, cells := 0, slots := 0, locals := 480 } : Room) D A cs tt N ad g [.ref (ad i), .int (zI (z)), .int (zI (z1))] (rI0 N ad fun q g' => (-2147483648 ≤ q ∧ q ≤ 2147483647) ∧ (∃ F' r' : Nat → Int, okMr cs ad g' i (x + 1) F' r' st op ai fa mu tb tp ∧ (F' 13 = F 13 ∧ F' 14 = F 14 ∧ F' 17 = F 17 ∧ F' 20 = F 20 ∧ F' 21 = F 21 ∧ F' 23 = F 23 ∧ F' 24 = F 24)) ∧ ∀ j, j < i ∨ i + 30 ≤ j → g' j = g j) := by
  obtain ⟨hg, ⟨⟨e13, e14, e25, e27, e29⟩, k15, k16, k17, k18, k19, k20, k23, k21⟩, hRD, hTx, hA, ns, nh, nd, rf, pi, te, ki, li, ok1, ok2, fo, dd, dps, ⟨ha1, ha2, ha3, ha4, ha5, ha6, ha7, ha8, ha9, ha10, ha11, ha12, ha13, ha14, ha15, ha24, ha25, ha26, ha27, ha28, ha29⟩, hEv, hPt, hns, htp⟩ := id hM
  obtain ⟨-, hop, hai, hfa, hT, hT1⟩ := id hEv
  have hay1 : zAt ad (i) (ad i) := rfl
  have hay2 : zAt ad (i + 1) (ad (i + 1)) := rfl
  have hay3 : zAt ad (i + 2) (ad (i + 2)) := rfl
  have hay4 : zAt ad (i + 3) (ad (i + 3)) := rfl
  have hay5 : zAt ad (i + 4) (ad (i + 4)) := rfl
  have hay6 : zAt ad (i + 5) (ad (i + 5)) := rfl
  have hay7 : zAt ad (i + 6) (ad (i + 6)) := rfl
  have hay8 : zAt ad (i + 7) (ad (i + 7)) := rfl
  have hay9 : zAt ad (i + 8) (ad (i + 8)) := rfl
  have hay10 : zAt ad (i + 9) (ad (i + 9)) := rfl
  have hay11 : zAt ad (i + 10) (ad (i + 10)) := rfl
  have hay12 : zAt ad (i + 11) (ad (i + 11)) := rfl
  have hay13 : zAt ad (i + 12) (ad (i + 12)) := rfl
  have hay14 : zAt ad (i + 13) (ad (i + 13)) := rfl
  have hay15 : zAt ad (i + 14) (ad (i + 14)) := rfl
  have hay16 : zAt ad (i + 15) (ad (i + 15)) := rfl
  have hay17 : zAt ad (i + 24) (ad (i + 24)) := rfl
  have hay18 : zAt ad (i + 25) (ad (i + 25)) := rfl
  have hay19 : zAt ad (i + 26) (ad (i + 26)) := rfl
  have hay20 : zAt ad (i + 27) (ad (i + 27)) := rfl
  have hay21 : zAt ad (i + 28) (ad (i + 28)) := rfl
  have hay22 : zAt ad (i + 29) (ad (i + 29)) := rfl
  obtain ⟨⟨hsyy23, htyy23, hnyy23, hpyy23⟩, hlyy23⟩ := okA.at0 hA
  simp only [Nat.zero_add] at hsyy23 hnyy23 hpyy23
  have hmn : ∀ s, s < 4 → 0 ≤ r (6 + 86 * s) ∧ r (6 + 86 * s) ≤ 12 := fun s hs => (hsyy23 s hs).1
  have h5 : 0 ≤ r 5 ∧ r 5 ≤ 6 := hpyy23
  refine z_of (by decide) (Nat.le_of_ble_eq_true rfl) ?_
  intro pZ eZ sZ mZ below meth cZ C hr hlk hnm
  refine z_lv (lv' := [(0, .ref (ad i)), (1, .int (zI (z))), (2, .int (zI (z1)))]) [0, 1, 2] rfl ?_
  refine z_aload_n C 0 dX10_stands_0 rfl ?_
  refine z_iconst (z := 0) C dX10_stands_1 rfl ?_
  refine z_put (fs' := mF ad (i) (uZ F 12 (0))) C (lt_A0 hN rfl) hay1 hg tyX10 tyX10_ok nmX10 rfl inA_X10 12 (by decide) q_1471 rfl rfl rfl rfl (Nat.le_of_ble_eq_true rfl) rfl dX10_stands_2 (fun gy24 egy25 => ?_)
  have hgy26 := up_s egy25
  refine z_aload_n C 0 dX10_stands_5 rfl ?_
  refine z_iload_n C 1 dX10_stands_6 rfl ?_
  have h13vy27 : (uZ F 12 (0)) 13 = F 13 := (fn rfl (by decide))
  have hey28 : (uZ F 12 (0)) 12 = 0 := (uZ_s _ _ _)
  refine z_cV (As := [.int (zI (z))]) (rest := []) (ci := 12) C (c_X10_isSlope l D A cs tt N ad _ i hN _ hgy26 (by omega) (by omega) (z) (by omega)) (lt_A0 hN rfl) hay1 hgy26 rfl rfl mv_yX10_isSlope q_1803 hd_yX10_isSlope (by decide) (Nat.le_of_ble_eq_true rfl) (by decide) dX10_stands_7 rfl (kI0 fun vy27 gvy27 hvy27 => ?_)
  rw [h13vy27] at hvy27
  obtain ⟨hrvy27, ⟨Fvy27, hcvy27, htvy27, hFvy27⟩, hfvy27⟩ := hvy27
  obtain rfl : vy27 = 0 := by omega
  refine z_if_eq (tgt := 27) C dX10_stands_10 (by decide) (by omega) (fun _ => ?_) (fun h => absurd h (by omega))
  refine z_iconst (z := 0) C dX10_stands_27 rfl ?_
  have hgy29 := up_n egy25 ha1 (ne_o (i := i) (c := 1) (d := 0) rfl)
  have hgy30 := (hfvy27 (i + 1) (ne_o (i := i) (c := 1) (d := 0) rfl)).trans hgy29
  have hFy31 : ∀ f, f ≠ 12 → Fvy27 f = F f := fun f n12 => ((hFvy27 f n12).trans ((uZ_n _ _ n12).trans rfl))
  have hey32 : Fvy27 13 = F 13 := ((hFvy27 13 (by decide)).trans (fn rfl (by decide)))
  have hey33 : Fvy27 14 = F 14 := ((hFvy27 14 (by decide)).trans (fn rfl (by decide)))
  have hey34 : Fvy27 15 = F 15 := ((hFvy27 15 (by decide)).trans (fn rfl (by decide)))
  have hey35 : Fvy27 16 = F 16 := ((hFvy27 16 (by decide)).trans (fn rfl (by decide)))
  have hey36 : Fvy27 17 = F 17 := ((hFvy27 17 (by decide)).trans (fn rfl (by decide)))
  have hey37 : Fvy27 18 = F 18 := ((hFvy27 18 (by decide)).trans (fn rfl (by decide)))
  have hey38 : Fvy27 19 = F 19 := ((hFvy27 19 (by decide)).trans (fn rfl (by decide)))
  have hey39 : Fvy27 20 = F 20 := ((hFvy27 20 (by decide)).trans (fn rfl (by decide)))
  have hey40 : Fvy27 21 = F 21 := ((hFvy27 21 (by decide)).trans (fn rfl (by decide)))
  have hey41 : Fvy27 23 = F 23 := ((hFvy27 23 (by decide)).trans (fn rfl (by decide)))
  have hey42 : Fvy27 25 = F 25 := ((hFvy27 25 (by decide)).trans (fn rfl (by decide)))
  have hey43 : Fvy27 27 = F 27 := ((hFvy27 27 (by decide)).trans (fn rfl (by decide)))
  have hey44 : Fvy27 28 = F 28 := ((hFvy27 28 (by decide)).trans (fn rfl (by decide)))
  have hey45 : Fvy27 29 = F 29 := ((hFvy27 29 (by decide)).trans (fn rfl (by decide)))
  have hKy46 : okF Fvy27 := okF.mv hM.2.1 hey32 hey33 hey34 hey35 hey36 hey37 hey38 hey39 hey40 hey41 hey42 hey43 hey44 hey45
  have hMy47 : okMr cs ad gvy27 i (x + 1) Fvy27 r st op ai fa mu tb tp := okMr.upd hM hcvy27 hKy46 (fun f a => hFy31 f (by omega)) hgy30 (hA.mono (by omega)) (fun j a b => by
      exact Or.inl (by rw [hfvy27 _ (by omega)]; rw [egy25, va_up_ne _ _ (by omega)]))
  have hkpy48 : Fvy27 13 = F 13 := ((hFvy27 13 (by decide)).trans (fn rfl (by decide)))
  have hkpy49 : Fvy27 14 = F 14 := ((hFvy27 14 (by decide)).trans (fn rfl (by decide)))
  have hkpy50 : Fvy27 17 = F 17 := ((hFvy27 17 (by decide)).trans (fn rfl (by decide)))
  have hkpy51 : Fvy27 20 = F 20 := ((hFvy27 20 (by decide)).trans (fn rfl (by decide)))
  have hkpy52 : Fvy27 21 = F 21 := ((hFvy27 21 (by decide)).trans (fn rfl (by decide)))
  have hkpy53 : Fvy27 23 = F 23 := ((hFvy27 23 (by decide)).trans (fn rfl (by decide)))
  have hkpy54 : Fvy27 24 = F 24 := ((hFvy27 24 (by decide)).trans (fn rfl (by decide)))
  exact z_iret C hr hlk dX10_stands_28 (by decide) (by decide) ⟨0, rfl, rfl, rfl, by omega, ⟨_, _, hMy47, ⟨hkpy48, hkpy49, hkpy50, hkpy51, hkpy52, hkpy53, hkpy54⟩⟩, fun j j1 => by rw [hfvy27 _ (by omega)]; rw [egy25, va_up_ne _ _ (by omega)]⟩

set_option maxRecDepth 100000 in
set_option maxHeartbeats 4000000 in
theorem c_X10_stands (l : Launch) (D : va_G) (A : Nat → Prop) (cs : Nat → ClassId) (tt : Nat) (N : Nat) (ad : Nat → Nat) (g : Nat → va_E) (i : Nat) (hN : i + 30 ≤ N) (x : Int) (hx : 0 ≤ x ∧ x ≤ 512) (F r : Nat → Int) {st op ai fa mu tb tp : Nat → Int} (hM : okMr cs ad g i x F r st op ai fa mu tb tp) (z : Int) (hz : -2147483648 ≤ z ∧ z ≤ 2147483647) (z1 : Int) (hz1 : -2147483648 ≤ z1 ∧ z1 ≤ 2147483647) : zM l yX10_stands cX10_stands 5 (some .int) ({ frames := 8, cells := 0, slots := 0, locals := 480 } : Room) D A cs tt N ad g [.ref (ad i), .int (zI (z)), .int (zI (z1))] (rI0 N ad fun q g' => (-2147483648 ≤ q ∧ q ≤ 2147483647) ∧ (∃ F' r' : Nat → Int, okMr cs ad g' i (x + 1) F' r' st op ai fa mu tb tp ∧ (F' 13 = F 13 ∧ F' 14 = F 14 ∧ F' 17 = F 17 ∧ F' 20 = F 20 ∧ F' 21 = F 21 ∧ F' 23 = F 23 ∧ F' 24 = F 24)) ∧ ∀ j, j < i ∨ i + 30 ≤ j → g' j = g j) := by
  by_cases h9 : 0 ≤ z ∧ z ≤ 3
  · obtain ⟨n, rfl⟩ : ∃ n : Nat, z = (n : Int) := ⟨z.toNat, by omega⟩
    exact c_X10_stands_a l D A cs tt N ad g i hN x hx F r hM n (by omega) z1 hz1
  · exact c_X10_stands_b l D A cs tt N ad g i hN x hx F r hM z hz (by omega) z1 hz1

set_option maxRecDepth 100000 in
set_option maxHeartbeats 4000000 in
theorem c_X10_toLoad_a (l : Launch) (D : va_G) (A : Nat → Prop) (cs : Nat → ClassId) (tt : Nat) (N : Nat) (ad : Nat → Nat) (g : Nat → va_E) (i : Nat) (hN : i + 30 ≤ N) (x : Int) (hx : 0 ≤ x ∧ x ≤ 512) (F r : Nat → Int) {st op ai fa mu tb tp : Nat → Int} (hM : okMr cs ad g i x F r st op ai fa mu tb tp) (n : Nat) (hn4 : n < 4) : zM l yX10_toLoad cX10_toLoad 3 (some .int) ({ frames := 9, cells := 0, slots := 0, locals := 540 } : Room) D A cs tt N ad g [.ref (ad i), .int (zI ((n : Int)))] (rI0 N ad fun q g' => (-2147483648 ≤ q ∧ q ≤ 2147483647) ∧ (∃ F' r' : Nat → Int, okMr cs ad g' i (x + 1) F' r' st op ai fa mu tb tp ∧ (F' 13 = F 13 ∧ F' 14 = F 14 ∧ F' 17 = F 17 ∧ F' 20 = F 20 ∧ F' 21 = F 21 ∧ F' 23 = F 23 ∧ F' 24 = F 24)) ∧ ∀ j, j < i ∨ i + 30 ≤ j → g' j = g j) := by
  obtain ⟨hg, ⟨⟨e13, e14, e25, e27, e29⟩, k15, k16, k17, k18, k19, k20, k23, k21⟩, hRD, hTx, hA, ns, nh, nd, rf, pi, te, ki, li, ok1, ok2, fo, dd, dps, ⟨ha1, ha2, ha3, ha4, ha5, ha6, ha7, ha8, ha9, ha10, ha11, ha12, ha13, ha14, ha15, ha24, ha25, ha26, ha27, ha28, ha29⟩, hEv, hPt, hns, htp⟩ := id hM
  obtain ⟨-, hop, hai, hfa, hT, hT1⟩ := id hEv
  have hay1 : zAt ad (i) (ad i) := rfl
  have hay2 : zAt ad (i + 1) (ad (i + 1)) := rfl
  have hay3 : zAt ad (i + 2) (ad (i + 2)) := rfl
  have hay4 : zAt ad (i + 3) (ad (i + 3)) := rfl
  have hay5 : zAt ad (i + 4) (ad (i + 4)) := rfl
  have hay6 : zAt ad (i + 5) (ad (i + 5)) := rfl
  have hay7 : zAt ad (i + 6) (ad (i + 6)) := rfl
  have hay8 : zAt ad (i + 7) (ad (i + 7)) := rfl
  have hay9 : zAt ad (i + 8) (ad (i + 8)) := rfl
  have hay10 : zAt ad (i + 9) (ad (i + 9)) := rfl
  have hay11 : zAt ad (i + 10) (ad (i + 10)) := rfl
  have hay12 : zAt ad (i + 11) (ad (i + 11)) := rfl
  have hay13 : zAt ad (i + 12) (ad (i + 12)) := rfl
  have hay14 : zAt ad (i + 13) (ad (i + 13)) := rfl
  have hay15 : zAt ad (i + 14) (ad (i + 14)) := rfl
  have hay16 : zAt ad (i + 15) (ad (i + 15)) := rfl
  have hay17 : zAt ad (i + 24) (ad (i + 24)) := rfl
  have hay18 : zAt ad (i + 25) (ad (i + 25)) := rfl
  have hay19 : zAt ad (i + 26) (ad (i + 26)) := rfl
  have hay20 : zAt ad (i + 27) (ad (i + 27)) := rfl
  have hay21 : zAt ad (i + 28) (ad (i + 28)) := rfl
  have hay22 : zAt ad (i + 29) (ad (i + 29)) := rfl
  obtain ⟨⟨hsyy23, htyy23, hnyy23, hpyy23⟩, hlyy23⟩ := okA.at0 hA
  simp only [Nat.zero_add] at hsyy23 hnyy23 hpyy23
  have hmn : ∀ s, s < 4 → 0 ≤ r (6 + 86 * s) ∧ r (6 + 86 * s) ≤ 12 := fun s hs => (hsyy23 s hs).1
  have h5 : 0 ≤ r 5 ∧ r 5 ≤ 6 := hpyy23
  refine z_of (by decide) (Nat.le_of_ble_eq_true rfl) ?_
  intro pZ eZ sZ mZ below meth cZ C hr hlk hnm
  refine z_lv (lv' := [(0, .ref (ad i)), (1, .int (zI ((n : Int))))]) [0, 1] rfl ?_
  refine z_aload_n C 0 dX10_toLoad_0 rfl ?_
  refine z_iconst (z := 0) C dX10_toLoad_1 rfl ?_
  refine z_put (fs' := mF ad (i) (uZ F 12 (0))) C (lt_A0 hN rfl) hay1 hg tyX10 tyX10_ok nmX10 rfl inA_X10 12 (by decide) q_1471 rfl rfl rfl rfl (Nat.le_of_ble_eq_true rfl) rfl dX10_toLoad_2 (fun gy24 egy25 => ?_)
  have hgy26 := up_s egy25
  refine z_aload_n C 0 dX10_toLoad_5 rfl ?_
  refine z_iload_n C 1 dX10_toLoad_6 rfl ?_
  have h13vy27 : (uZ F 12 (0)) 13 = F 13 := (fn rfl (by decide))
  have hey28 : (uZ F 12 (0)) 12 = 0 := (uZ_s _ _ _)
  refine z_cV (As := [.int (zI ((n : Int)))]) (rest := []) (ci := 12) C (c_X10_isSlope l D A cs tt N ad _ i hN _ hgy26 (by omega) (by omega) ((n : Int)) (by omega)) (lt_A0 hN rfl) hay1 hgy26 rfl rfl mv_yX10_isSlope q_1803 hd_yX10_isSlope (by decide) (Nat.le_of_ble_eq_true rfl) (by decide) dX10_toLoad_7 rfl (kI0 fun vy27 gvy27 hvy27 => ?_)
  rw [h13vy27] at hvy27
  obtain ⟨hrvy27, ⟨Fvy27, hcvy27, htvy27, hFvy27⟩, hfvy27⟩ := hvy27
  rcases (show vy27 = 1 ∨ vy27 = 0 by omega) with rfl | rfl
  · have hxvy27 := hrvy27.2 rfl
    refine z_if_ne (tgt := 15) C dX10_toLoad_10 (by decide) (by omega) (fun _ => ?_) (fun h => absurd h (by omega))
    refine z_iconst (z := 1) C dX10_toLoad_15 rfl ?_
    refine z_istore_n (lv' := [(2, .int (zI (1))), (0, .ref (ad i)), (1, .int (zI ((n : Int))))]) C dX10_toLoad_16 rfl (by decide) rfl ?_
    have lp1 : ∀ (n9 : Nat) (nn : Int) (g1 : Nat → va_E), (100 - nn).toNat = n9 → (gvy27 = g1) → (1 ≤ nn ∧ nn ≤ 100) → zV pZ l eZ ({ frames := 9, cells := 0, slots := 0, locals := 540 } : Room) sZ mZ ([.ref (ad i), .int (zI ((n : Int)))] : List Value).toArray below meth cZ (MQ below (zPost D A (rI0 N ad fun q g' => (-2147483648 ≤ q ∧ q ≤ 2147483647) ∧ (∃ F' r' : Nat → Int, okMr cs ad g' i (x + 1) F' r' st op ai fa mu tb tp ∧ (F' 13 = F 13 ∧ F' 14 = F 14 ∧ F' 17 = F 17 ∧ F' 20 = F 20 ∧ F' 21 = F 21 ∧ F' 23 = F 23 ∧ F' 24 = F 24)) ∧ ∀ j, j < i ∨ i + 30 ≤ j → g' j = g j)) ([.ref (ad i), .int (zI ((n : Int)))] : List Value).toArray sZ ({ frames := 9, cells := 0, slots := 0, locals := 540 } : Room).cells ({ frames := 9, cells := 0, slots := 0, locals := 540 } : Room).slots A) D A 3 (N) ad g1 (0) (0) 17 [(0, .ref (ad i)), (1, .int (zI ((n : Int)))), (2, .int (zI (nn)))] [] := by
      intro n9
      induction n9 using Nat.strongRecOn with
      | ind n9 ih_lp1 =>
        intro nn g1 hm9 hgz hvlp10
        subst hgz
        refine z_iload_n C 2 dX10_toLoad_17 rfl ?_
        refine z_bipush (z := 99) C dX10_toLoad_18 (by decide) ?_
        refine z_icmp_gt (tgt := 49) C dX10_toLoad_20 (by decide) (by omega) (by omega) (fun hby29 => ?_) (fun hby29 => ?_)
        · refine z_iconst (z := -1) C dX10_toLoad_49 rfl ?_
          have hgy30 := up_n egy25 ha1 (ne_o (i := i) (c := 1) (d := 0) rfl)
          have hgy31 := (hfvy27 (i + 1) (ne_o (i := i) (c := 1) (d := 0) rfl)).trans hgy30
          have hFy32 : ∀ f, f ≠ 12 → Fvy27 f = F f := fun f n12 => ((hFvy27 f n12).trans ((uZ_n _ _ n12).trans rfl))
          have hey33 : Fvy27 13 = F 13 := ((hFvy27 13 (by decide)).trans (fn rfl (by decide)))
          have hey34 : Fvy27 14 = F 14 := ((hFvy27 14 (by decide)).trans (fn rfl (by decide)))
          have hey35 : Fvy27 15 = F 15 := ((hFvy27 15 (by decide)).trans (fn rfl (by decide)))
          have hey36 : Fvy27 16 = F 16 := ((hFvy27 16 (by decide)).trans (fn rfl (by decide)))
          have hey37 : Fvy27 17 = F 17 := ((hFvy27 17 (by decide)).trans (fn rfl (by decide)))
          have hey38 : Fvy27 18 = F 18 := ((hFvy27 18 (by decide)).trans (fn rfl (by decide)))
          have hey39 : Fvy27 19 = F 19 := ((hFvy27 19 (by decide)).trans (fn rfl (by decide)))
          have hey40 : Fvy27 20 = F 20 := ((hFvy27 20 (by decide)).trans (fn rfl (by decide)))
          have hey41 : Fvy27 21 = F 21 := ((hFvy27 21 (by decide)).trans (fn rfl (by decide)))
          have hey42 : Fvy27 23 = F 23 := ((hFvy27 23 (by decide)).trans (fn rfl (by decide)))
          have hey43 : Fvy27 25 = F 25 := ((hFvy27 25 (by decide)).trans (fn rfl (by decide)))
          have hey44 : Fvy27 27 = F 27 := ((hFvy27 27 (by decide)).trans (fn rfl (by decide)))
          have hey45 : Fvy27 28 = F 28 := ((hFvy27 28 (by decide)).trans (fn rfl (by decide)))
          have hey46 : Fvy27 29 = F 29 := ((hFvy27 29 (by decide)).trans (fn rfl (by decide)))
          have hKy47 : okF Fvy27 := okF.mv hM.2.1 hey33 hey34 hey35 hey36 hey37 hey38 hey39 hey40 hey41 hey42 hey43 hey44 hey45 hey46
          have hMy48 : okMr cs ad gvy27 i (x + 1) Fvy27 r st op ai fa mu tb tp := okMr.upd hM hcvy27 hKy47 (fun f a => hFy32 f (by omega)) hgy31 (hA.mono (by omega)) (fun j a b => by
              exact Or.inl (by rw [hfvy27 _ (by omega)]; rw [egy25, va_up_ne _ _ (by omega)]))
          have hkpy49 : Fvy27 13 = F 13 := ((hFvy27 13 (by decide)).trans (fn rfl (by decide)))
          have hkpy50 : Fvy27 14 = F 14 := ((hFvy27 14 (by decide)).trans (fn rfl (by decide)))
          have hkpy51 : Fvy27 17 = F 17 := ((hFvy27 17 (by decide)).trans (fn rfl (by decide)))
          have hkpy52 : Fvy27 20 = F 20 := ((hFvy27 20 (by decide)).trans (fn rfl (by decide)))
          have hkpy53 : Fvy27 21 = F 21 := ((hFvy27 21 (by decide)).trans (fn rfl (by decide)))
          have hkpy54 : Fvy27 23 = F 23 := ((hFvy27 23 (by decide)).trans (fn rfl (by decide)))
          have hkpy55 : Fvy27 24 = F 24 := ((hFvy27 24 (by decide)).trans (fn rfl (by decide)))
          exact z_iret C hr hlk dX10_toLoad_50 (by decide) (by decide) ⟨-1, rfl, rfl, rfl, by omega, ⟨_, _, hMy48, ⟨hkpy49, hkpy50, hkpy51, hkpy52, hkpy53, hkpy54, hkpy55⟩⟩, fun j j1 => by rw [hfvy27 _ (by omega)]; rw [egy25, va_up_ne _ _ (by omega)]⟩
        · refine z_aload_n C 0 dX10_toLoad_23 rfl ?_
          refine z_iconst (z := 0) C dX10_toLoad_24 rfl ?_
          refine z_iload_n C 1 dX10_toLoad_25 rfl ?_
          refine z_iload_n C 2 dX10_toLoad_26 rfl ?_
          refine z_aload_n C 0 dX10_toLoad_27 rfl ?_
          refine z_get (v := .ref (ad (i + 2))) C (lt_A0 hN rfl) hay1 hcvy27 rfl inA_X10 1 (by decide) q_1460 rfl rfl dX10_toLoad_28 ?_
          refine z_iload_n C 1 dX10_toLoad_31 rfl ?_
          have hgy56 := up_n egy25 ha2 (ne_o (i := i) (c := 2) (d := 0) rfl)
          have hgy57 := (hfvy27 (i + 2) (ne_o (i := i) (c := 2) (d := 0) rfl)).trans hgy56
          refine z_iald C (lt_A (c := 2) hN rfl) hay3 hgy57 (n) (by omega) (by omega) (by decide) dX10_toLoad_32 ?_
          obtain ⟨xy58, exy59, hxy60⟩ := zI_of (zI (st (n)))
          rw [exy59]
          obtain ⟨py61, hpy61⟩ : ∃ p9 : Nat, 0 + 6 + 86 * n = p9 := ⟨_, rfl⟩
          have hgy62 := up_n egy25 ha1 (ne_o (i := i) (c := 1) (d := 0) rfl)
          have hgy63 := (hfvy27 (i + 1) (ne_o (i := i) (c := 1) (d := 0) rfl)).trans hgy62
          have hgy65 := up_n egy25 ha7 (ne_o (i := i) (c := 7) (d := 0) rfl)
          have hgy66 := (hfvy27 (i + 7) (ne_o (i := i) (c := 7) (d := 0) rfl)).trans hgy65
          have hqy67 : qS r py61 := (((okA.at0 hA).1.1 n (by omega)).of (p2 := py61) (by omega)).q (by have hb9 := mBb (t := r 0 + x) (by omega); omega)
          have hmky68 := hqy67.1
          refine z_cV (As := [.int (zI (0)), .int (zI ((n : Int))), .int (zI (nn)), .int (zI (xy58))]) (rest := []) (ci := 12) C (c_X10_leastRatioBy l D A cs tt N ad _ i hN _ hcvy27 _ hgy63 _ hgy66 0 n py61 hpy61 (by omega) (by omega) hqy67 (nn) (by omega) (xy58) (by omega)) (lt_A0 hN rfl) hay1 hcvy27 rfl rfl mv_yX10_leastRatioBy q_1764 hd_yX10_leastRatioBy (by decide) (Nat.le_of_ble_eq_true rfl) (by decide) dX10_toLoad_33 rfl (kI0 fun vy64 gvy64 hvy64 => ?_)
          obtain ⟨hvy64, hzvy64, rfl⟩ := hvy64
          refine z_bipush (z := 100) C dX10_toLoad_36 (by decide) ?_
          refine z_icmp_ge (tgt := 43) C dX10_toLoad_38 (by decide) (by omega) (by omega) (fun hby69 => ?_) (fun hby69 => ?_)
          · refine z_iinc (z := nn + 1) (lv' := [(2, .int (zI (nn + 1))), (0, .ref (ad i)), (1, .int (zI ((n : Int))))]) (j := 2) C dX10_toLoad_43 rfl rfl (by decide) rfl ?_
            refine z_goto (tgt := 17) C dX10_toLoad_46 (by decide) ?_
            refine z_lv (lv' := [(0, .ref (ad i)), (1, .int (zI ((n : Int)))), (2, .int (zI (nn + 1)))]) [1, 2, 0] rfl ?_
            exact ih_lp1 _ (by omega) (nn + 1) _ rfl rfl (by omega)
          · refine z_iload_n C 2 dX10_toLoad_41 rfl ?_
            have hFy70 : ∀ f, f ≠ 12 → Fvy27 f = F f := fun f n12 => ((hFvy27 f n12).trans ((uZ_n _ _ n12).trans rfl))
            have hey71 : Fvy27 13 = F 13 := ((hFvy27 13 (by decide)).trans (fn rfl (by decide)))
            have hey72 : Fvy27 14 = F 14 := ((hFvy27 14 (by decide)).trans (fn rfl (by decide)))
            have hey73 : Fvy27 15 = F 15 := ((hFvy27 15 (by decide)).trans (fn rfl (by decide)))
            have hey74 : Fvy27 16 = F 16 := ((hFvy27 16 (by decide)).trans (fn rfl (by decide)))
            have hey75 : Fvy27 17 = F 17 := ((hFvy27 17 (by decide)).trans (fn rfl (by decide)))
            have hey76 : Fvy27 18 = F 18 := ((hFvy27 18 (by decide)).trans (fn rfl (by decide)))
            have hey77 : Fvy27 19 = F 19 := ((hFvy27 19 (by decide)).trans (fn rfl (by decide)))
            have hey78 : Fvy27 20 = F 20 := ((hFvy27 20 (by decide)).trans (fn rfl (by decide)))
            have hey79 : Fvy27 21 = F 21 := ((hFvy27 21 (by decide)).trans (fn rfl (by decide)))
            have hey80 : Fvy27 23 = F 23 := ((hFvy27 23 (by decide)).trans (fn rfl (by decide)))
            have hey81 : Fvy27 25 = F 25 := ((hFvy27 25 (by decide)).trans (fn rfl (by decide)))
            have hey82 : Fvy27 27 = F 27 := ((hFvy27 27 (by decide)).trans (fn rfl (by decide)))
            have hey83 : Fvy27 28 = F 28 := ((hFvy27 28 (by decide)).trans (fn rfl (by decide)))
            have hey84 : Fvy27 29 = F 29 := ((hFvy27 29 (by decide)).trans (fn rfl (by decide)))
            have hKy85 : okF Fvy27 := okF.mv hM.2.1 hey71 hey72 hey73 hey74 hey75 hey76 hey77 hey78 hey79 hey80 hey81 hey82 hey83 hey84
            have hMy86 : okMr cs ad gvy27 i (x + 1) Fvy27 r st op ai fa mu tb tp := okMr.upd hM hcvy27 hKy85 (fun f a => hFy70 f (by omega)) hgy63 (hA.mono (by omega)) (fun j a b => by
                exact Or.inl (by rw [hfvy27 _ (by omega)]; rw [egy25, va_up_ne _ _ (by omega)]))
            have hkpy87 : Fvy27 13 = F 13 := ((hFvy27 13 (by decide)).trans (fn rfl (by decide)))
            have hkpy88 : Fvy27 14 = F 14 := ((hFvy27 14 (by decide)).trans (fn rfl (by decide)))
            have hkpy89 : Fvy27 17 = F 17 := ((hFvy27 17 (by decide)).trans (fn rfl (by decide)))
            have hkpy90 : Fvy27 20 = F 20 := ((hFvy27 20 (by decide)).trans (fn rfl (by decide)))
            have hkpy91 : Fvy27 21 = F 21 := ((hFvy27 21 (by decide)).trans (fn rfl (by decide)))
            have hkpy92 : Fvy27 23 = F 23 := ((hFvy27 23 (by decide)).trans (fn rfl (by decide)))
            have hkpy93 : Fvy27 24 = F 24 := ((hFvy27 24 (by decide)).trans (fn rfl (by decide)))
            exact z_iret C hr hlk dX10_toLoad_42 (by decide) (by decide) ⟨nn, rfl, rfl, rfl, by omega, ⟨_, _, hMy86, ⟨hkpy87, hkpy88, hkpy89, hkpy90, hkpy91, hkpy92, hkpy93⟩⟩, fun j j1 => by rw [hfvy27 _ (by omega)]; rw [egy25, va_up_ne _ _ (by omega)]⟩
    refine z_lv (lv' := [(0, .ref (ad i)), (1, .int (zI ((n : Int)))), (2, .int (zI (1)))]) [1, 2, 0] rfl ?_
    exact lp1 _ (1) _ rfl rfl (by omega)
  · refine z_if_ne (tgt := 15) C dX10_toLoad_10 (by decide) (by omega) (fun h => absurd h (by omega)) (fun _ => ?_)
    refine z_iconst (z := 0) C dX10_toLoad_13 rfl ?_
    have hgy94 := up_n egy25 ha1 (ne_o (i := i) (c := 1) (d := 0) rfl)
    have hgy95 := (hfvy27 (i + 1) (ne_o (i := i) (c := 1) (d := 0) rfl)).trans hgy94
    have hFy96 : ∀ f, f ≠ 12 → Fvy27 f = F f := fun f n12 => ((hFvy27 f n12).trans ((uZ_n _ _ n12).trans rfl))
    have hey97 : Fvy27 13 = F 13 := ((hFvy27 13 (by decide)).trans (fn rfl (by decide)))
    have hey98 : Fvy27 14 = F 14 := ((hFvy27 14 (by decide)).trans (fn rfl (by decide)))
    have hey99 : Fvy27 15 = F 15 := ((hFvy27 15 (by decide)).trans (fn rfl (by decide)))
    have hey100 : Fvy27 16 = F 16 := ((hFvy27 16 (by decide)).trans (fn rfl (by decide)))
    have hey101 : Fvy27 17 = F 17 := ((hFvy27 17 (by decide)).trans (fn rfl (by decide)))
    have hey102 : Fvy27 18 = F 18 := ((hFvy27 18 (by decide)).trans (fn rfl (by decide)))
    have hey103 : Fvy27 19 = F 19 := ((hFvy27 19 (by decide)).trans (fn rfl (by decide)))
    have hey104 : Fvy27 20 = F 20 := ((hFvy27 20 (by decide)).trans (fn rfl (by decide)))
    have hey105 : Fvy27 21 = F 21 := ((hFvy27 21 (by decide)).trans (fn rfl (by decide)))
    have hey106 : Fvy27 23 = F 23 := ((hFvy27 23 (by decide)).trans (fn rfl (by decide)))
    have hey107 : Fvy27 25 = F 25 := ((hFvy27 25 (by decide)).trans (fn rfl (by decide)))
    have hey108 : Fvy27 27 = F 27 := ((hFvy27 27 (by decide)).trans (fn rfl (by decide)))
    have hey109 : Fvy27 28 = F 28 := ((hFvy27 28 (by decide)).trans (fn rfl (by decide)))
    have hey110 : Fvy27 29 = F 29 := ((hFvy27 29 (by decide)).trans (fn rfl (by decide)))
    have hKy111 : okF Fvy27 := okF.mv hM.2.1 hey97 hey98 hey99 hey100 hey101 hey102 hey103 hey104 hey105 hey106 hey107 hey108 hey109 hey110
    have hMy112 : okMr cs ad gvy27 i (x + 1) Fvy27 r st op ai fa mu tb tp := okMr.upd hM hcvy27 hKy111 (fun f a => hFy96 f (by omega)) hgy95 (hA.mono (by omega)) (fun j a b => by
        exact Or.inl (by rw [hfvy27 _ (by omega)]; rw [egy25, va_up_ne _ _ (by omega)]))
    have hkpy113 : Fvy27 13 = F 13 := ((hFvy27 13 (by decide)).trans (fn rfl (by decide)))
    have hkpy114 : Fvy27 14 = F 14 := ((hFvy27 14 (by decide)).trans (fn rfl (by decide)))
    have hkpy115 : Fvy27 17 = F 17 := ((hFvy27 17 (by decide)).trans (fn rfl (by decide)))
    have hkpy116 : Fvy27 20 = F 20 := ((hFvy27 20 (by decide)).trans (fn rfl (by decide)))
    have hkpy117 : Fvy27 21 = F 21 := ((hFvy27 21 (by decide)).trans (fn rfl (by decide)))
    have hkpy118 : Fvy27 23 = F 23 := ((hFvy27 23 (by decide)).trans (fn rfl (by decide)))
    have hkpy119 : Fvy27 24 = F 24 := ((hFvy27 24 (by decide)).trans (fn rfl (by decide)))
    exact z_iret C hr hlk dX10_toLoad_14 (by decide) (by decide) ⟨0, rfl, rfl, rfl, by omega, ⟨_, _, hMy112, ⟨hkpy113, hkpy114, hkpy115, hkpy116, hkpy117, hkpy118, hkpy119⟩⟩, fun j j1 => by rw [hfvy27 _ (by omega)]; rw [egy25, va_up_ne _ _ (by omega)]⟩

set_option maxRecDepth 100000 in
set_option maxHeartbeats 4000000 in
theorem c_X10_toLoad_b (l : Launch) (D : va_G) (A : Nat → Prop) (cs : Nat → ClassId) (tt : Nat) (N : Nat) (ad : Nat → Nat) (g : Nat → va_E) (i : Nat) (hN : i + 30 ≤ N) (x : Int) (hx : 0 ≤ x ∧ x ≤ 512) (F r : Nat → Int) {st op ai fa mu tb tp : Nat → Int} (hM : okMr cs ad g i x F r st op ai fa mu tb tp) (z : Int) (hz : -2147483648 ≤ z ∧ z ≤ 2147483647) (hzo : z < 0 ∨ 3 < z) : zM l yX10_toLoad cX10_toLoad 3 (some .int) ({ frames := 9, cells := 0, slots := 0, locals := 540 } : Room) D A cs tt N ad g [.ref (ad i), .int (zI (z))] (rI0 N ad fun q g' => (-2147483648 ≤ q ∧ q ≤ 2147483647) ∧ (∃ F' r' : Nat → Int, okMr cs ad g' i (x + 1) F' r' st op ai fa mu tb tp ∧ (F' 13 = F 13 ∧ F' 14 = F 14 ∧ F' 17 = F 17 ∧ F' 20 = F 20 ∧ F' 21 = F 21 ∧ F' 23 = F 23 ∧ F' 24 = F 24)) ∧ ∀ j, j < i ∨ i + 30 ≤ j → g' j = g j) := by
  obtain ⟨hg, ⟨⟨e13, e14, e25, e27, e29⟩, k15, k16, k17, k18, k19, k20, k23, k21⟩, hRD, hTx, hA, ns, nh, nd, rf, pi, te, ki, li, ok1, ok2, fo, dd, dps, ⟨ha1, ha2, ha3, ha4, ha5, ha6, ha7, ha8, ha9, ha10, ha11, ha12, ha13, ha14, ha15, ha24, ha25, ha26, ha27, ha28, ha29⟩, hEv, hPt, hns, htp⟩ := id hM
  obtain ⟨-, hop, hai, hfa, hT, hT1⟩ := id hEv
  have hay1 : zAt ad (i) (ad i) := rfl
  have hay2 : zAt ad (i + 1) (ad (i + 1)) := rfl
  have hay3 : zAt ad (i + 2) (ad (i + 2)) := rfl
  have hay4 : zAt ad (i + 3) (ad (i + 3)) := rfl
  have hay5 : zAt ad (i + 4) (ad (i + 4)) := rfl
  have hay6 : zAt ad (i + 5) (ad (i + 5)) := rfl
  have hay7 : zAt ad (i + 6) (ad (i + 6)) := rfl
  have hay8 : zAt ad (i + 7) (ad (i + 7)) := rfl
  have hay9 : zAt ad (i + 8) (ad (i + 8)) := rfl
  have hay10 : zAt ad (i + 9) (ad (i + 9)) := rfl
  have hay11 : zAt ad (i + 10) (ad (i + 10)) := rfl
  have hay12 : zAt ad (i + 11) (ad (i + 11)) := rfl
  have hay13 : zAt ad (i + 12) (ad (i + 12)) := rfl
  have hay14 : zAt ad (i + 13) (ad (i + 13)) := rfl
  have hay15 : zAt ad (i + 14) (ad (i + 14)) := rfl
  have hay16 : zAt ad (i + 15) (ad (i + 15)) := rfl
  have hay17 : zAt ad (i + 24) (ad (i + 24)) := rfl
  have hay18 : zAt ad (i + 25) (ad (i + 25)) := rfl
  have hay19 : zAt ad (i + 26) (ad (i + 26)) := rfl
  have hay20 : zAt ad (i + 27) (ad (i + 27)) := rfl
  have hay21 : zAt ad (i + 28) (ad (i + 28)) := rfl
  have hay22 : zAt ad (i + 29) (ad (i + 29)) := rfl
  obtain ⟨⟨hsyy23, htyy23, hnyy23, hpyy23⟩, hlyy23⟩ := okA.at0 hA
  simp only [Nat.zero_add] at hsyy23 hnyy23 hpyy23
  have hmn : ∀ s, s < 4 → 0 ≤ r (6 + 86 * s) ∧ r (6 + 86 * s) ≤ 12 := fun s hs => (hsyy23 s hs).1
  have h5 : 0 ≤ r 5 ∧ r 5 ≤ 6 := hpyy23
  refine z_of (by decide) (Nat.le_of_ble_eq_true rfl) ?_
  intro pZ eZ sZ mZ below meth cZ C hr hlk hnm
  refine z_lv (lv' := [(0, .ref (ad i)), (1, .int (zI (z)))]) [0, 1] rfl ?_
  refine z_aload_n C 0 dX10_toLoad_0 rfl ?_
  refine z_iconst (z := 0) C dX10_toLoad_1 rfl ?_
  refine z_put (fs' := mF ad (i) (uZ F 12 (0))) C (lt_A0 hN rfl) hay1 hg tyX10 tyX10_ok nmX10 rfl inA_X10 12 (by decide) q_1471 rfl rfl rfl rfl (Nat.le_of_ble_eq_true rfl) rfl dX10_toLoad_2 (fun gy24 egy25 => ?_)
  have hgy26 := up_s egy25
  refine z_aload_n C 0 dX10_toLoad_5 rfl ?_
  refine z_iload_n C 1 dX10_toLoad_6 rfl ?_
  have h13vy27 : (uZ F 12 (0)) 13 = F 13 := (fn rfl (by decide))
  have hey28 : (uZ F 12 (0)) 12 = 0 := (uZ_s _ _ _)
  refine z_cV (As := [.int (zI (z))]) (rest := []) (ci := 12) C (c_X10_isSlope l D A cs tt N ad _ i hN _ hgy26 (by omega) (by omega) (z) (by omega)) (lt_A0 hN rfl) hay1 hgy26 rfl rfl mv_yX10_isSlope q_1803 hd_yX10_isSlope (by decide) (Nat.le_of_ble_eq_true rfl) (by decide) dX10_toLoad_7 rfl (kI0 fun vy27 gvy27 hvy27 => ?_)
  rw [h13vy27] at hvy27
  obtain ⟨hrvy27, ⟨Fvy27, hcvy27, htvy27, hFvy27⟩, hfvy27⟩ := hvy27
  obtain rfl : vy27 = 0 := by omega
  refine z_if_ne (tgt := 15) C dX10_toLoad_10 (by decide) (by omega) (fun h => absurd h (by omega)) (fun _ => ?_)
  refine z_iconst (z := 0) C dX10_toLoad_13 rfl ?_
  have hgy29 := up_n egy25 ha1 (ne_o (i := i) (c := 1) (d := 0) rfl)
  have hgy30 := (hfvy27 (i + 1) (ne_o (i := i) (c := 1) (d := 0) rfl)).trans hgy29
  have hFy31 : ∀ f, f ≠ 12 → Fvy27 f = F f := fun f n12 => ((hFvy27 f n12).trans ((uZ_n _ _ n12).trans rfl))
  have hey32 : Fvy27 13 = F 13 := ((hFvy27 13 (by decide)).trans (fn rfl (by decide)))
  have hey33 : Fvy27 14 = F 14 := ((hFvy27 14 (by decide)).trans (fn rfl (by decide)))
  have hey34 : Fvy27 15 = F 15 := ((hFvy27 15 (by decide)).trans (fn rfl (by decide)))
  have hey35 : Fvy27 16 = F 16 := ((hFvy27 16 (by decide)).trans (fn rfl (by decide)))
  have hey36 : Fvy27 17 = F 17 := ((hFvy27 17 (by decide)).trans (fn rfl (by decide)))
  have hey37 : Fvy27 18 = F 18 := ((hFvy27 18 (by decide)).trans (fn rfl (by decide)))
  have hey38 : Fvy27 19 = F 19 := ((hFvy27 19 (by decide)).trans (fn rfl (by decide)))
  have hey39 : Fvy27 20 = F 20 := ((hFvy27 20 (by decide)).trans (fn rfl (by decide)))
  have hey40 : Fvy27 21 = F 21 := ((hFvy27 21 (by decide)).trans (fn rfl (by decide)))
  have hey41 : Fvy27 23 = F 23 := ((hFvy27 23 (by decide)).trans (fn rfl (by decide)))
  have hey42 : Fvy27 25 = F 25 := ((hFvy27 25 (by decide)).trans (fn rfl (by decide)))
  have hey43 : Fvy27 27 = F 27 := ((hFvy27 27 (by decide)).trans (fn rfl (by decide)))
  have hey44 : Fvy27 28 = F 28 := ((hFvy27 28 (by decide)).trans (fn rfl (by decide)))
  have hey45 : Fvy27 29 = F 29 := ((hFvy27 29 (by decide)).trans (fn rfl (by decide)))
  have hKy46 : okF Fvy27 := okF.mv hM.2.1 hey32 hey33 hey34 hey35 hey36 hey37 hey38 hey39 hey40 hey41 hey42 hey43 hey44 hey45
  have hMy47 : okMr cs ad gvy27 i (x + 1) Fvy27 r st op ai fa mu tb tp := okMr.upd hM hcvy27 hKy46 (fun f a => hFy31 f (by omega)) hgy30 (hA.mono (by omega)) (fun j a b => by
      exact Or.inl (by rw [hfvy27 _ (by omega)]; rw [egy25, va_up_ne _ _ (by omega)]))
  have hkpy48 : Fvy27 13 = F 13 := ((hFvy27 13 (by decide)).trans (fn rfl (by decide)))
  have hkpy49 : Fvy27 14 = F 14 := ((hFvy27 14 (by decide)).trans (fn rfl (by decide)))
  have hkpy50 : Fvy27 17 = F 17 := ((hFvy27 17 (by decide)).trans (fn rfl (by decide)))
  have hkpy51 : Fvy27 20 = F 20 := ((hFvy27 20 (by decide)).trans (fn rfl (by decide)))
  have hkpy52 : Fvy27 21 = F 21 := ((hFvy27 21 (by decide)).trans (fn rfl (by decide)))
  have hkpy53 : Fvy27 23 = F 23 := ((hFvy27 23 (by decide)).trans (fn rfl (by decide)))
  have hkpy54 : Fvy27 24 = F 24 := ((hFvy27 24 (by decide)).trans (fn rfl (by decide)))
  exact z_iret C hr hlk dX10_toLoad_14 (by decide) (by decide) ⟨0, rfl, rfl, rfl, by omega, ⟨_, _, hMy47, ⟨hkpy48, hkpy49, hkpy50, hkpy51, hkpy52, hkpy53, hkpy54⟩⟩, fun j j1 => by rw [hfvy27 _ (by omega)]; rw [egy25, va_up_ne _ _ (by omega)]⟩

set_option maxRecDepth 100000 in
set_option maxHeartbeats 4000000 in
theorem c_X10_toLoad (l : Launch) (D : va_G) (A : Nat → Prop) (cs : Nat → ClassId) (tt : Nat) (N : Nat) (ad : Nat → Nat) (g : Nat → va_E) (i : Nat) (hN : i + 30 ≤ N) (x : Int) (hx : 0 ≤ x ∧ x ≤ 512) (F r : Nat → Int) {st op ai fa mu tb tp : Nat → Int} (hM : okMr cs ad g i x F r st op ai fa mu tb tp) (z : Int) (hz : -2147483648 ≤ z ∧ z ≤ 2147483647) : zM l yX10_toLoad cX10_toLoad 3 (some .int) ({ frames := 9, cells := 0, slots := 0, locals := 540 } : Room) D A cs tt N ad g [.ref (ad i), .int (zI (z))] (rI0 N ad fun q g' => (-2147483648 ≤ q ∧ q ≤ 2147483647) ∧ (∃ F' r' : Nat → Int, okMr cs ad g' i (x + 1) F' r' st op ai fa mu tb tp ∧ (F' 13 = F 13 ∧ F' 14 = F 14 ∧ F' 17 = F 17 ∧ F' 20 = F 20 ∧ F' 21 = F 21 ∧ F' 23 = F 23 ∧ F' 24 = F 24)) ∧ ∀ j, j < i ∨ i + 30 ≤ j → g' j = g j) := by
  by_cases h9 : 0 ≤ z ∧ z ≤ 3
  · obtain ⟨n, rfl⟩ : ∃ n : Nat, z = (n : Int) := ⟨z.toNat, by omega⟩
    exact c_X10_toLoad_a l D A cs tt N ad g i hN x hx F r hM n (by omega) 
  · exact c_X10_toLoad_b l D A cs tt N ad g i hN x hx F r hM z hz (by omega) 

set_option maxRecDepth 100000 in
set_option maxHeartbeats 4000000 in
theorem c_X10_steepest_a (l : Launch) (D : va_G) (A : Nat → Prop) (cs : Nat → ClassId) (tt : Nat) (N : Nat) (ad : Nat → Nat) (g : Nat → va_E) (i : Nat) (hN : i + 30 ≤ N) (x : Int) (hx : 0 ≤ x ∧ x ≤ 512) (F r : Nat → Int) {st op ai fa mu tb tp : Nat → Int} (hM : okMr cs ad g i x F r st op ai fa mu tb tp) (n : Nat) (hn4 : n < 4) : zM l yX10_steepest cX10_steepest 3 (some .int) ({ frames := 9, cells := 0, slots := 0, locals := 540 } : Room) D A cs tt N ad g [.ref (ad i), .int (zI ((n : Int)))] (rI0 N ad fun q g' => (-2147483648 ≤ q ∧ q ≤ 2147483647) ∧ (∃ F' r' : Nat → Int, okMr cs ad g' i (x + 1) F' r' st op ai fa mu tb tp ∧ (F' 13 = F 13 ∧ F' 14 = F 14 ∧ F' 17 = F 17 ∧ F' 20 = F 20 ∧ F' 21 = F 21 ∧ F' 23 = F 23 ∧ F' 24 = F 24)) ∧ ∀ j, j < i ∨ i + 30 ≤ j → g' j = g j) := by
  obtain ⟨hg, ⟨⟨e13, e14, e25, e27, e29⟩, k15, k16, k17, k18, k19, k20, k23, k21⟩, hRD, hTx, hA, ns, nh, nd, rf, pi, te, ki, li, ok1, ok2, fo, dd, dps, ⟨ha1, ha2, ha3, ha4, ha5, ha6, ha7, ha8, ha9, ha10, ha11, ha12, ha13, ha14, ha15, ha24, ha25, ha26, ha27, ha28, ha29⟩, hEv, hPt, hns, htp⟩ := id hM
  obtain ⟨-, hop, hai, hfa, hT, hT1⟩ := id hEv
  have hay1 : zAt ad (i) (ad i) := rfl
  have hay2 : zAt ad (i + 1) (ad (i + 1)) := rfl
  have hay3 : zAt ad (i + 2) (ad (i + 2)) := rfl
  have hay4 : zAt ad (i + 3) (ad (i + 3)) := rfl
  have hay5 : zAt ad (i + 4) (ad (i + 4)) := rfl
  have hay6 : zAt ad (i + 5) (ad (i + 5)) := rfl
  have hay7 : zAt ad (i + 6) (ad (i + 6)) := rfl
  have hay8 : zAt ad (i + 7) (ad (i + 7)) := rfl
  have hay9 : zAt ad (i + 8) (ad (i + 8)) := rfl
  have hay10 : zAt ad (i + 9) (ad (i + 9)) := rfl
  have hay11 : zAt ad (i + 10) (ad (i + 10)) := rfl
  have hay12 : zAt ad (i + 11) (ad (i + 11)) := rfl
  have hay13 : zAt ad (i + 12) (ad (i + 12)) := rfl
  have hay14 : zAt ad (i + 13) (ad (i + 13)) := rfl
  have hay15 : zAt ad (i + 14) (ad (i + 14)) := rfl
  have hay16 : zAt ad (i + 15) (ad (i + 15)) := rfl
  have hay17 : zAt ad (i + 24) (ad (i + 24)) := rfl
  have hay18 : zAt ad (i + 25) (ad (i + 25)) := rfl
  have hay19 : zAt ad (i + 26) (ad (i + 26)) := rfl
  have hay20 : zAt ad (i + 27) (ad (i + 27)) := rfl
  have hay21 : zAt ad (i + 28) (ad (i + 28)) := rfl
  have hay22 : zAt ad (i + 29) (ad (i + 29)) := rfl
  obtain ⟨⟨hsyy23, htyy23, hnyy23, hpyy23⟩, hlyy23⟩ := okA.at0 hA
  simp only [Nat.zero_add] at hsyy23 hnyy23 hpyy23
  have hmn : ∀ s, s < 4 → 0 ≤ r (6 + 86 * s) ∧ r (6 + 86 * s) ≤ 12 := fun s hs => (hsyy23 s hs).1
  have h5 : 0 ≤ r 5 ∧ r 5 ≤ 6 := hpyy23
  refine z_of (by decide) (Nat.le_of_ble_eq_true rfl) ?_
  intro pZ eZ sZ mZ below meth cZ C hr hlk hnm
  refine z_lv (lv' := [(0, .ref (ad i)), (1, .int (zI ((n : Int))))]) [0, 1] rfl ?_
  refine z_aload_n C 0 dX10_steepest_0 rfl ?_
  refine z_iconst (z := 0) C dX10_steepest_1 rfl ?_
  refine z_put (fs' := mF ad (i) (uZ F 12 (0))) C (lt_A0 hN rfl) hay1 hg tyX10 tyX10_ok nmX10 rfl inA_X10 12 (by decide) q_1471 rfl rfl rfl rfl (Nat.le_of_ble_eq_true rfl) rfl dX10_steepest_2 (fun gy24 egy25 => ?_)
  have hgy26 := up_s egy25
  refine z_aload_n C 0 dX10_steepest_5 rfl ?_
  refine z_iload_n C 1 dX10_steepest_6 rfl ?_
  have h13vy27 : (uZ F 12 (0)) 13 = F 13 := (fn rfl (by decide))
  have hey28 : (uZ F 12 (0)) 12 = 0 := (uZ_s _ _ _)
  refine z_cV (As := [.int (zI ((n : Int)))]) (rest := []) (ci := 12) C (c_X10_isSlope l D A cs tt N ad _ i hN _ hgy26 (by omega) (by omega) ((n : Int)) (by omega)) (lt_A0 hN rfl) hay1 hgy26 rfl rfl mv_yX10_isSlope q_1803 hd_yX10_isSlope (by decide) (Nat.le_of_ble_eq_true rfl) (by decide) dX10_steepest_7 rfl (kI0 fun vy27 gvy27 hvy27 => ?_)
  rw [h13vy27] at hvy27
  obtain ⟨hrvy27, ⟨Fvy27, hcvy27, htvy27, hFvy27⟩, hfvy27⟩ := hvy27
  rcases (show vy27 = 1 ∨ vy27 = 0 by omega) with rfl | rfl
  · have hxvy27 := hrvy27.2 rfl
    refine z_if_ne (tgt := 15) C dX10_steepest_10 (by decide) (by omega) (fun _ => ?_) (fun h => absurd h (by omega))
    refine z_bipush (z := 90) C dX10_steepest_15 (by decide) ?_
    refine z_istore_n (lv' := [(2, .int (zI (90))), (0, .ref (ad i)), (1, .int (zI ((n : Int))))]) C dX10_steepest_17 rfl (by decide) rfl ?_
    have lp1 : ∀ (n9 : Nat) (nn : Int) (g1 : Nat → va_E), (nn).toNat = n9 → (gvy27 = g1) → (0 ≤ nn ∧ nn ≤ 90) → zV pZ l eZ ({ frames := 9, cells := 0, slots := 0, locals := 540 } : Room) sZ mZ ([.ref (ad i), .int (zI ((n : Int)))] : List Value).toArray below meth cZ (MQ below (zPost D A (rI0 N ad fun q g' => (-2147483648 ≤ q ∧ q ≤ 2147483647) ∧ (∃ F' r' : Nat → Int, okMr cs ad g' i (x + 1) F' r' st op ai fa mu tb tp ∧ (F' 13 = F 13 ∧ F' 14 = F 14 ∧ F' 17 = F 17 ∧ F' 20 = F 20 ∧ F' 21 = F 21 ∧ F' 23 = F 23 ∧ F' 24 = F 24)) ∧ ∀ j, j < i ∨ i + 30 ≤ j → g' j = g j)) ([.ref (ad i), .int (zI ((n : Int)))] : List Value).toArray sZ ({ frames := 9, cells := 0, slots := 0, locals := 540 } : Room).cells ({ frames := 9, cells := 0, slots := 0, locals := 540 } : Room).slots A) D A 3 (N) ad g1 (0) (0) 18 [(0, .ref (ad i)), (1, .int (zI ((n : Int)))), (2, .int (zI (nn)))] [] := by
      intro n9
      induction n9 using Nat.strongRecOn with
      | ind n9 ih_lp1 =>
        intro nn g1 hm9 hgz hvlp10
        subst hgz
        refine z_aload_n C 0 dX10_steepest_18 rfl ?_
        refine z_iconst (z := 0) C dX10_steepest_19 rfl ?_
        refine z_iload_n C 1 dX10_steepest_20 rfl ?_
        refine z_iconst (z := 0) C dX10_steepest_21 rfl ?_
        refine z_iload_n C 2 dX10_steepest_22 rfl ?_
        obtain ⟨py29, hpy29⟩ : ∃ p9 : Nat, 0 + 6 + 86 * n = p9 := ⟨_, rfl⟩
        have hgy30 := up_n egy25 ha1 (ne_o (i := i) (c := 1) (d := 0) rfl)
        have hgy31 := (hfvy27 (i + 1) (ne_o (i := i) (c := 1) (d := 0) rfl)).trans hgy30
        have hgy33 := up_n egy25 ha7 (ne_o (i := i) (c := 7) (d := 0) rfl)
        have hgy34 := (hfvy27 (i + 7) (ne_o (i := i) (c := 7) (d := 0) rfl)).trans hgy33
        have hqy35 : qS r py29 := (((okA.at0 hA).1.1 n (by omega)).of (p2 := py29) (by omega)).q (by have hb9 := mBb (t := r 0 + x) (by omega); omega)
        have hmky36 := hqy35.1
        refine z_cV (As := [.int (zI (0)), .int (zI ((n : Int))), .int (zI (0)), .int (zI (nn))]) (rest := []) (ci := 12) C (c_X10_leastRatioBy l D A cs tt N ad _ i hN _ hcvy27 _ hgy31 _ hgy34 0 n py29 hpy29 (by omega) (by omega) hqy35 (0) (by omega) (nn) (by omega)) (lt_A0 hN rfl) hay1 hcvy27 rfl rfl mv_yX10_leastRatioBy q_1764 hd_yX10_leastRatioBy (by decide) (Nat.le_of_ble_eq_true rfl) (by decide) dX10_steepest_23 rfl (kI0 fun vy32 gvy32 hvy32 => ?_)
        obtain ⟨hvy32, hzvy32, rfl⟩ := hvy32
        refine z_bipush (z := 100) C dX10_steepest_26 (by decide) ?_
        refine z_icmp_ge (tgt := 37) C dX10_steepest_28 (by decide) (by omega) (by omega) (fun hby37 => ?_) (fun hby37 => ?_)
        · refine z_iload_n C 2 dX10_steepest_37 rfl ?_
          have hFy38 : ∀ f, f ≠ 12 → Fvy27 f = F f := fun f n12 => ((hFvy27 f n12).trans ((uZ_n _ _ n12).trans rfl))
          have hey39 : Fvy27 13 = F 13 := ((hFvy27 13 (by decide)).trans (fn rfl (by decide)))
          have hey40 : Fvy27 14 = F 14 := ((hFvy27 14 (by decide)).trans (fn rfl (by decide)))
          have hey41 : Fvy27 15 = F 15 := ((hFvy27 15 (by decide)).trans (fn rfl (by decide)))
          have hey42 : Fvy27 16 = F 16 := ((hFvy27 16 (by decide)).trans (fn rfl (by decide)))
          have hey43 : Fvy27 17 = F 17 := ((hFvy27 17 (by decide)).trans (fn rfl (by decide)))
          have hey44 : Fvy27 18 = F 18 := ((hFvy27 18 (by decide)).trans (fn rfl (by decide)))
          have hey45 : Fvy27 19 = F 19 := ((hFvy27 19 (by decide)).trans (fn rfl (by decide)))
          have hey46 : Fvy27 20 = F 20 := ((hFvy27 20 (by decide)).trans (fn rfl (by decide)))
          have hey47 : Fvy27 21 = F 21 := ((hFvy27 21 (by decide)).trans (fn rfl (by decide)))
          have hey48 : Fvy27 23 = F 23 := ((hFvy27 23 (by decide)).trans (fn rfl (by decide)))
          have hey49 : Fvy27 25 = F 25 := ((hFvy27 25 (by decide)).trans (fn rfl (by decide)))
          have hey50 : Fvy27 27 = F 27 := ((hFvy27 27 (by decide)).trans (fn rfl (by decide)))
          have hey51 : Fvy27 28 = F 28 := ((hFvy27 28 (by decide)).trans (fn rfl (by decide)))
          have hey52 : Fvy27 29 = F 29 := ((hFvy27 29 (by decide)).trans (fn rfl (by decide)))
          have hKy53 : okF Fvy27 := okF.mv hM.2.1 hey39 hey40 hey41 hey42 hey43 hey44 hey45 hey46 hey47 hey48 hey49 hey50 hey51 hey52
          have hMy54 : okMr cs ad gvy27 i (x + 1) Fvy27 r st op ai fa mu tb tp := okMr.upd hM hcvy27 hKy53 (fun f a => hFy38 f (by omega)) hgy31 (hA.mono (by omega)) (fun j a b => by
              exact Or.inl (by rw [hfvy27 _ (by omega)]; rw [egy25, va_up_ne _ _ (by omega)]))
          have hkpy55 : Fvy27 13 = F 13 := ((hFvy27 13 (by decide)).trans (fn rfl (by decide)))
          have hkpy56 : Fvy27 14 = F 14 := ((hFvy27 14 (by decide)).trans (fn rfl (by decide)))
          have hkpy57 : Fvy27 17 = F 17 := ((hFvy27 17 (by decide)).trans (fn rfl (by decide)))
          have hkpy58 : Fvy27 20 = F 20 := ((hFvy27 20 (by decide)).trans (fn rfl (by decide)))
          have hkpy59 : Fvy27 21 = F 21 := ((hFvy27 21 (by decide)).trans (fn rfl (by decide)))
          have hkpy60 : Fvy27 23 = F 23 := ((hFvy27 23 (by decide)).trans (fn rfl (by decide)))
          have hkpy61 : Fvy27 24 = F 24 := ((hFvy27 24 (by decide)).trans (fn rfl (by decide)))
          exact z_iret C hr hlk dX10_steepest_38 (by decide) (by decide) ⟨nn, rfl, rfl, rfl, by omega, ⟨_, _, hMy54, ⟨hkpy55, hkpy56, hkpy57, hkpy58, hkpy59, hkpy60, hkpy61⟩⟩, fun j j1 => by rw [hfvy27 _ (by omega)]; rw [egy25, va_up_ne _ _ (by omega)]⟩
        · refine z_iinc (z := nn - 1) (lv' := [(2, .int (zI (nn - 1))), (0, .ref (ad i)), (1, .int (zI ((n : Int))))]) (j := 2) C dX10_steepest_31 rfl (congrArg zI (by omega)) (by decide) rfl ?_
          refine z_goto (tgt := 18) C dX10_steepest_34 (by decide) ?_
          refine z_lv (lv' := [(0, .ref (ad i)), (1, .int (zI ((n : Int)))), (2, .int (zI (nn - 1)))]) [1, 2, 0] rfl ?_
          exact ih_lp1 _ (by omega) (nn - 1) _ rfl rfl (by omega)
    refine z_lv (lv' := [(0, .ref (ad i)), (1, .int (zI ((n : Int)))), (2, .int (zI (90)))]) [1, 2, 0] rfl ?_
    exact lp1 _ (90) _ rfl rfl (by omega)
  · refine z_if_ne (tgt := 15) C dX10_steepest_10 (by decide) (by omega) (fun h => absurd h (by omega)) (fun _ => ?_)
    refine z_iconst (z := 0) C dX10_steepest_13 rfl ?_
    have hgy62 := up_n egy25 ha1 (ne_o (i := i) (c := 1) (d := 0) rfl)
    have hgy63 := (hfvy27 (i + 1) (ne_o (i := i) (c := 1) (d := 0) rfl)).trans hgy62
    have hFy64 : ∀ f, f ≠ 12 → Fvy27 f = F f := fun f n12 => ((hFvy27 f n12).trans ((uZ_n _ _ n12).trans rfl))
    have hey65 : Fvy27 13 = F 13 := ((hFvy27 13 (by decide)).trans (fn rfl (by decide)))
    have hey66 : Fvy27 14 = F 14 := ((hFvy27 14 (by decide)).trans (fn rfl (by decide)))
    have hey67 : Fvy27 15 = F 15 := ((hFvy27 15 (by decide)).trans (fn rfl (by decide)))
    have hey68 : Fvy27 16 = F 16 := ((hFvy27 16 (by decide)).trans (fn rfl (by decide)))
    have hey69 : Fvy27 17 = F 17 := ((hFvy27 17 (by decide)).trans (fn rfl (by decide)))
    have hey70 : Fvy27 18 = F 18 := ((hFvy27 18 (by decide)).trans (fn rfl (by decide)))
    have hey71 : Fvy27 19 = F 19 := ((hFvy27 19 (by decide)).trans (fn rfl (by decide)))
    have hey72 : Fvy27 20 = F 20 := ((hFvy27 20 (by decide)).trans (fn rfl (by decide)))
    have hey73 : Fvy27 21 = F 21 := ((hFvy27 21 (by decide)).trans (fn rfl (by decide)))
    have hey74 : Fvy27 23 = F 23 := ((hFvy27 23 (by decide)).trans (fn rfl (by decide)))
    have hey75 : Fvy27 25 = F 25 := ((hFvy27 25 (by decide)).trans (fn rfl (by decide)))
    have hey76 : Fvy27 27 = F 27 := ((hFvy27 27 (by decide)).trans (fn rfl (by decide)))
    have hey77 : Fvy27 28 = F 28 := ((hFvy27 28 (by decide)).trans (fn rfl (by decide)))
    have hey78 : Fvy27 29 = F 29 := ((hFvy27 29 (by decide)).trans (fn rfl (by decide)))
    have hKy79 : okF Fvy27 := okF.mv hM.2.1 hey65 hey66 hey67 hey68 hey69 hey70 hey71 hey72 hey73 hey74 hey75 hey76 hey77 hey78
    have hMy80 : okMr cs ad gvy27 i (x + 1) Fvy27 r st op ai fa mu tb tp := okMr.upd hM hcvy27 hKy79 (fun f a => hFy64 f (by omega)) hgy63 (hA.mono (by omega)) (fun j a b => by
        exact Or.inl (by rw [hfvy27 _ (by omega)]; rw [egy25, va_up_ne _ _ (by omega)]))
    have hkpy81 : Fvy27 13 = F 13 := ((hFvy27 13 (by decide)).trans (fn rfl (by decide)))
    have hkpy82 : Fvy27 14 = F 14 := ((hFvy27 14 (by decide)).trans (fn rfl (by decide)))
    have hkpy83 : Fvy27 17 = F 17 := ((hFvy27 17 (by decide)).trans (fn rfl (by decide)))
    have hkpy84 : Fvy27 20 = F 20 := ((hFvy27 20 (by decide)).trans (fn rfl (by decide)))
    have hkpy85 : Fvy27 21 = F 21 := ((hFvy27 21 (by decide)).trans (fn rfl (by decide)))
    have hkpy86 : Fvy27 23 = F 23 := ((hFvy27 23 (by decide)).trans (fn rfl (by decide)))
    have hkpy87 : Fvy27 24 = F 24 := ((hFvy27 24 (by decide)).trans (fn rfl (by decide)))
    exact z_iret C hr hlk dX10_steepest_14 (by decide) (by decide) ⟨0, rfl, rfl, rfl, by omega, ⟨_, _, hMy80, ⟨hkpy81, hkpy82, hkpy83, hkpy84, hkpy85, hkpy86, hkpy87⟩⟩, fun j j1 => by rw [hfvy27 _ (by omega)]; rw [egy25, va_up_ne _ _ (by omega)]⟩

set_option maxRecDepth 100000 in
set_option maxHeartbeats 4000000 in
theorem c_X10_steepest_b (l : Launch) (D : va_G) (A : Nat → Prop) (cs : Nat → ClassId) (tt : Nat) (N : Nat) (ad : Nat → Nat) (g : Nat → va_E) (i : Nat) (hN : i + 30 ≤ N) (x : Int) (hx : 0 ≤ x ∧ x ≤ 512) (F r : Nat → Int) {st op ai fa mu tb tp : Nat → Int} (hM : okMr cs ad g i x F r st op ai fa mu tb tp) (z : Int) (hz : -2147483648 ≤ z ∧ z ≤ 2147483647) (hzo : z < 0 ∨ 3 < z) : zM l yX10_steepest cX10_steepest 3 (some .int) ({ frames := 9, cells := 0, slots := 0, locals := 540 } : Room) D A cs tt N ad g [.ref (ad i), .int (zI (z))] (rI0 N ad fun q g' => (-2147483648 ≤ q ∧ q ≤ 2147483647) ∧ (∃ F' r' : Nat → Int, okMr cs ad g' i (x + 1) F' r' st op ai fa mu tb tp ∧ (F' 13 = F 13 ∧ F' 14 = F 14 ∧ F' 17 = F 17 ∧ F' 20 = F 20 ∧ F' 21 = F 21 ∧ F' 23 = F 23 ∧ F' 24 = F 24)) ∧ ∀ j, j < i ∨ i + 30 ≤ j → g' j = g j) := by
  obtain ⟨hg, ⟨⟨e13, e14, e25, e27, e29⟩, k15, k16, k17, k18, k19, k20, k23, k21⟩, hRD, hTx, hA, ns, nh, nd, rf, pi, te, ki, li, ok1, ok2, fo, dd, dps, ⟨ha1, ha2, ha3, ha4, ha5, ha6, ha7, ha8, ha9, ha10, ha11, ha12, ha13, ha14, ha15, ha24, ha25, ha26, ha27, ha28, ha29⟩, hEv, hPt, hns, htp⟩ := id hM
  obtain ⟨-, hop, hai, hfa, hT, hT1⟩ := id hEv
  have hay1 : zAt ad (i) (ad i) := rfl
  have hay2 : zAt ad (i + 1) (ad (i + 1)) := rfl
  have hay3 : zAt ad (i + 2) (ad (i + 2)) := rfl
  have hay4 : zAt ad (i + 3) (ad (i + 3)) := rfl
  have hay5 : zAt ad (i + 4) (ad (i + 4)) := rfl
  have hay6 : zAt ad (i + 5) (ad (i + 5)) := rfl
  have hay7 : zAt ad (i + 6) (ad (i + 6)) := rfl
  have hay8 : zAt ad (i + 7) (ad (i + 7)) := rfl
  have hay9 : zAt ad (i + 8) (ad (i + 8)) := rfl
  have hay10 : zAt ad (i + 9) (ad (i + 9)) := rfl
  have hay11 : zAt ad (i + 10) (ad (i + 10)) := rfl
  have hay12 : zAt ad (i + 11) (ad (i + 11)) := rfl
  have hay13 : zAt ad (i + 12) (ad (i + 12)) := rfl
  have hay14 : zAt ad (i + 13) (ad (i + 13)) := rfl
  have hay15 : zAt ad (i + 14) (ad (i + 14)) := rfl
  have hay16 : zAt ad (i + 15) (ad (i + 15)) := rfl
  have hay17 : zAt ad (i + 24) (ad (i + 24)) := rfl
  have hay18 : zAt ad (i + 25) (ad (i + 25)) := rfl
  have hay19 : zAt ad (i + 26) (ad (i + 26)) := rfl
  have hay20 : zAt ad (i + 27) (ad (i + 27)) := rfl
  have hay21 : zAt ad (i + 28) (ad (i + 28)) := rfl
  have hay22 : zAt ad (i + 29) (ad (i + 29)) := rfl
  obtain ⟨⟨hsyy23, htyy23, hnyy23, hpyy23⟩, hlyy23⟩ := okA.at0 hA
  simp only [Nat.zero_add] at hsyy23 hnyy23 hpyy23
  have hmn : ∀ s, s < 4 → 0 ≤ r (6 + 86 * s) ∧ r (6 + 86 * s) ≤ 12 := fun s hs => (hsyy23 s hs).1
  have h5 : 0 ≤ r 5 ∧ r 5 ≤ 6 := hpyy23
  refine z_of (by decide) (Nat.le_of_ble_eq_true rfl) ?_
  intro pZ eZ sZ mZ below meth cZ C hr hlk hnm
  refine z_lv (lv' := [(0, .ref (ad i)), (1, .int (zI (z)))]) [0, 1] rfl ?_
  refine z_aload_n C 0 dX10_steepest_0 rfl ?_
  refine z_iconst (z := 0) C dX10_steepest_1 rfl ?_
  refine z_put (fs' := mF ad (i) (uZ F 12 (0))) C (lt_A0 hN rfl) hay1 hg tyX10 tyX10_ok nmX10 rfl inA_X10 12 (by decide) q_1471 rfl rfl rfl rfl (Nat.le_of_ble_eq_true rfl) rfl dX10_steepest_2 (fun gy24 egy25 => ?_)
  have hgy26 := up_s egy25
  refine z_aload_n C 0 dX10_steepest_5 rfl ?_
  refine z_iload_n C 1 dX10_steepest_6 rfl ?_
  have h13vy27 : (uZ F 12 (0)) 13 = F 13 := (fn rfl (by decide))
  have hey28 : (uZ F 12 (0)) 12 = 0 := (uZ_s _ _ _)
  refine z_cV (As := [.int (zI (z))]) (rest := []) (ci := 12) C (c_X10_isSlope l D A cs tt N ad _ i hN _ hgy26 (by omega) (by omega) (z) (by omega)) (lt_A0 hN rfl) hay1 hgy26 rfl rfl mv_yX10_isSlope q_1803 hd_yX10_isSlope (by decide) (Nat.le_of_ble_eq_true rfl) (by decide) dX10_steepest_7 rfl (kI0 fun vy27 gvy27 hvy27 => ?_)
  rw [h13vy27] at hvy27
  obtain ⟨hrvy27, ⟨Fvy27, hcvy27, htvy27, hFvy27⟩, hfvy27⟩ := hvy27
  obtain rfl : vy27 = 0 := by omega
  refine z_if_ne (tgt := 15) C dX10_steepest_10 (by decide) (by omega) (fun h => absurd h (by omega)) (fun _ => ?_)
  refine z_iconst (z := 0) C dX10_steepest_13 rfl ?_
  have hgy29 := up_n egy25 ha1 (ne_o (i := i) (c := 1) (d := 0) rfl)
  have hgy30 := (hfvy27 (i + 1) (ne_o (i := i) (c := 1) (d := 0) rfl)).trans hgy29
  have hFy31 : ∀ f, f ≠ 12 → Fvy27 f = F f := fun f n12 => ((hFvy27 f n12).trans ((uZ_n _ _ n12).trans rfl))
  have hey32 : Fvy27 13 = F 13 := ((hFvy27 13 (by decide)).trans (fn rfl (by decide)))
  have hey33 : Fvy27 14 = F 14 := ((hFvy27 14 (by decide)).trans (fn rfl (by decide)))
  have hey34 : Fvy27 15 = F 15 := ((hFvy27 15 (by decide)).trans (fn rfl (by decide)))
  have hey35 : Fvy27 16 = F 16 := ((hFvy27 16 (by decide)).trans (fn rfl (by decide)))
  have hey36 : Fvy27 17 = F 17 := ((hFvy27 17 (by decide)).trans (fn rfl (by decide)))
  have hey37 : Fvy27 18 = F 18 := ((hFvy27 18 (by decide)).trans (fn rfl (by decide)))
  have hey38 : Fvy27 19 = F 19 := ((hFvy27 19 (by decide)).trans (fn rfl (by decide)))
  have hey39 : Fvy27 20 = F 20 := ((hFvy27 20 (by decide)).trans (fn rfl (by decide)))
  have hey40 : Fvy27 21 = F 21 := ((hFvy27 21 (by decide)).trans (fn rfl (by decide)))
  have hey41 : Fvy27 23 = F 23 := ((hFvy27 23 (by decide)).trans (fn rfl (by decide)))
  have hey42 : Fvy27 25 = F 25 := ((hFvy27 25 (by decide)).trans (fn rfl (by decide)))
  have hey43 : Fvy27 27 = F 27 := ((hFvy27 27 (by decide)).trans (fn rfl (by decide)))
  have hey44 : Fvy27 28 = F 28 := ((hFvy27 28 (by decide)).trans (fn rfl (by decide)))
  have hey45 : Fvy27 29 = F 29 := ((hFvy27 29 (by decide)).trans (fn rfl (by decide)))
  have hKy46 : okF Fvy27 := okF.mv hM.2.1 hey32 hey33 hey34 hey35 hey36 hey37 hey38 hey39 hey40 hey41 hey42 hey43 hey44 hey45
  have hMy47 : okMr cs ad gvy27 i (x + 1) Fvy27 r st op ai fa mu tb tp := okMr.upd hM hcvy27 hKy46 (fun f a => hFy31 f (by omega)) hgy30 (hA.mono (by omega)) (fun j a b => by
      exact Or.inl (by rw [hfvy27 _ (by omega)]; rw [egy25, va_up_ne _ _ (by omega)]))
  have hkpy48 : Fvy27 13 = F 13 := ((hFvy27 13 (by decide)).trans (fn rfl (by decide)))
  have hkpy49 : Fvy27 14 = F 14 := ((hFvy27 14 (by decide)).trans (fn rfl (by decide)))
  have hkpy50 : Fvy27 17 = F 17 := ((hFvy27 17 (by decide)).trans (fn rfl (by decide)))
  have hkpy51 : Fvy27 20 = F 20 := ((hFvy27 20 (by decide)).trans (fn rfl (by decide)))
  have hkpy52 : Fvy27 21 = F 21 := ((hFvy27 21 (by decide)).trans (fn rfl (by decide)))
  have hkpy53 : Fvy27 23 = F 23 := ((hFvy27 23 (by decide)).trans (fn rfl (by decide)))
  have hkpy54 : Fvy27 24 = F 24 := ((hFvy27 24 (by decide)).trans (fn rfl (by decide)))
  exact z_iret C hr hlk dX10_steepest_14 (by decide) (by decide) ⟨0, rfl, rfl, rfl, by omega, ⟨_, _, hMy47, ⟨hkpy48, hkpy49, hkpy50, hkpy51, hkpy52, hkpy53, hkpy54⟩⟩, fun j j1 => by rw [hfvy27 _ (by omega)]; rw [egy25, va_up_ne _ _ (by omega)]⟩

set_option maxRecDepth 100000 in
set_option maxHeartbeats 4000000 in
theorem c_X10_steepest (l : Launch) (D : va_G) (A : Nat → Prop) (cs : Nat → ClassId) (tt : Nat) (N : Nat) (ad : Nat → Nat) (g : Nat → va_E) (i : Nat) (hN : i + 30 ≤ N) (x : Int) (hx : 0 ≤ x ∧ x ≤ 512) (F r : Nat → Int) {st op ai fa mu tb tp : Nat → Int} (hM : okMr cs ad g i x F r st op ai fa mu tb tp) (z : Int) (hz : -2147483648 ≤ z ∧ z ≤ 2147483647) : zM l yX10_steepest cX10_steepest 3 (some .int) ({ frames := 9, cells := 0, slots := 0, locals := 540 } : Room) D A cs tt N ad g [.ref (ad i), .int (zI (z))] (rI0 N ad fun q g' => (-2147483648 ≤ q ∧ q ≤ 2147483647) ∧ (∃ F' r' : Nat → Int, okMr cs ad g' i (x + 1) F' r' st op ai fa mu tb tp ∧ (F' 13 = F 13 ∧ F' 14 = F 14 ∧ F' 17 = F 17 ∧ F' 20 = F 20 ∧ F' 21 = F 21 ∧ F' 23 = F 23 ∧ F' 24 = F 24)) ∧ ∀ j, j < i ∨ i + 30 ≤ j → g' j = g j) := by
  by_cases h9 : 0 ≤ z ∧ z ≤ 3
  · obtain ⟨n, rfl⟩ : ∃ n : Nat, z = (n : Int) := ⟨z.toNat, by omega⟩
    exact c_X10_steepest_a l D A cs tt N ad g i hN x hx F r hM n (by omega) 
  · exact c_X10_steepest_b l D A cs tt N ad g i hN x hx F r hM z hz (by omega) 

set_option maxRecDepth 100000 in
set_option maxHeartbeats 4000000 in
theorem c_X10_hours (l : Launch) (D : va_G) (A : Nat → Prop) (cs : Nat → ClassId) (tt : Nat) (N : Nat) (ad : Nat → Nat) (g : Nat → va_E) (i : Nat) (hN : i + 30 ≤ N) (x : Int) (hx : 0 ≤ x ∧ x ≤ 512) (F r : Nat → Int) {st op ai fa mu tb tp : Nat → Int} (hM : okMr cs ad g i x F r st op ai fa mu tb tp) (z : Int) (hz : -2147483648 ≤ z ∧ z ≤ 2147483647) : zM l yX10_hours cX10_hours 2 (some .int) ({ frames := 10, cells := 0, slots := 0, locals := 600 } : Room) D A cs tt N ad g [.ref (ad i), .int (zI (z))] (rI0 N ad fun q g' => (-2147483648 ≤ q ∧ q ≤ 2147483647) ∧ (∃ F' r' : Nat → Int, okMr cs ad g' i (x + 1) F' r' st op ai fa mu tb tp ∧ (F' 13 = F 13 ∧ F' 14 = F 14 ∧ F' 17 = F 17 ∧ F' 20 = F 20 ∧ F' 21 = F 21 ∧ F' 23 = F 23 ∧ F' 24 = F 24)) ∧ ∀ j, j < i ∨ i + 30 ≤ j → g' j = g j) := by
  obtain ⟨hg, ⟨⟨e13, e14, e25, e27, e29⟩, k15, k16, k17, k18, k19, k20, k23, k21⟩, hRD, hTx, hA, ns, nh, nd, rf, pi, te, ki, li, ok1, ok2, fo, dd, dps, ⟨ha1, ha2, ha3, ha4, ha5, ha6, ha7, ha8, ha9, ha10, ha11, ha12, ha13, ha14, ha15, ha24, ha25, ha26, ha27, ha28, ha29⟩, hEv, hPt, hns, htp⟩ := id hM
  obtain ⟨-, hop, hai, hfa, hT, hT1⟩ := id hEv
  have hay1 : zAt ad (i) (ad i) := rfl
  have hay2 : zAt ad (i + 1) (ad (i + 1)) := rfl
  have hay3 : zAt ad (i + 2) (ad (i + 2)) := rfl
  have hay4 : zAt ad (i + 3) (ad (i + 3)) := rfl
  have hay5 : zAt ad (i + 4) (ad (i + 4)) := rfl
  have hay6 : zAt ad (i + 5) (ad (i + 5)) := rfl
  have hay7 : zAt ad (i + 6) (ad (i + 6)) := rfl
  have hay8 : zAt ad (i + 7) (ad (i + 7)) := rfl
  have hay9 : zAt ad (i + 8) (ad (i + 8)) := rfl
  have hay10 : zAt ad (i + 9) (ad (i + 9)) := rfl
  have hay11 : zAt ad (i + 10) (ad (i + 10)) := rfl
  have hay12 : zAt ad (i + 11) (ad (i + 11)) := rfl
  have hay13 : zAt ad (i + 12) (ad (i + 12)) := rfl
  have hay14 : zAt ad (i + 13) (ad (i + 13)) := rfl
  have hay15 : zAt ad (i + 14) (ad (i + 14)) := rfl
  have hay16 : zAt ad (i + 15) (ad (i + 15)) := rfl
  have hay17 : zAt ad (i + 24) (ad (i + 24)) := rfl
  have hay18 : zAt ad (i + 25) (ad (i + 25)) := rfl
  have hay19 : zAt ad (i + 26) (ad (i + 26)) := rfl
  have hay20 : zAt ad (i + 27) (ad (i + 27)) := rfl
  have hay21 : zAt ad (i + 28) (ad (i + 28)) := rfl
  have hay22 : zAt ad (i + 29) (ad (i + 29)) := rfl
  obtain ⟨⟨hsyy23, htyy23, hnyy23, hpyy23⟩, hlyy23⟩ := okA.at0 hA
  simp only [Nat.zero_add] at hsyy23 hnyy23 hpyy23
  have hmn : ∀ s, s < 4 → 0 ≤ r (6 + 86 * s) ∧ r (6 + 86 * s) ≤ 12 := fun s hs => (hsyy23 s hs).1
  have h5 : 0 ≤ r 5 ∧ r 5 ≤ 6 := hpyy23
  refine z_of (by decide) (Nat.le_of_ble_eq_true rfl) ?_
  intro pZ eZ sZ mZ below meth cZ C hr hlk hnm
  refine z_lv (lv' := [(0, .ref (ad i)), (1, .int (zI (z)))]) [0, 1] rfl ?_
  refine z_aload_n C 0 dX10_hours_0 rfl ?_
  refine z_iconst (z := 0) C dX10_hours_1 rfl ?_
  refine z_put (fs' := mF ad (i) (uZ F 12 (0))) C (lt_A0 hN rfl) hay1 hg tyX10 tyX10_ok nmX10 rfl inA_X10 12 (by decide) q_1471 rfl rfl rfl rfl (Nat.le_of_ble_eq_true rfl) rfl dX10_hours_2 (fun gy24 egy25 => ?_)
  have hgy26 := up_s egy25
  refine z_iload_n C 1 dX10_hours_5 rfl ?_
  refine z_iconst (z := 1) C dX10_hours_6 rfl ?_
  refine z_bipush (z := 24) C dX10_hours_7 (by decide) ?_
  refine z_cS (As := [.int (zI (z)), .int (zI (1)), .int (zI (24))]) (rest := []) C (c_X10_within l D A cs tt N ad _ (z) (by omega) (1) (by omega) (24) (by omega)) ms_yX10_within q_1686 hd_yX10_within (by decide) (Nat.le_of_ble_eq_true rfl) (by decide) dX10_hours_9 rfl (kI0 fun vy27 gvy27 hvy27 => ?_)
  obtain ⟨hvy27, rfl⟩ := hvy27
  rcases hvy27 with ⟨rfl, hxvy27⟩ | ⟨rfl, hxvy27⟩
  · refine z_if_eq (tgt := 29) C dX10_hours_12 (by decide) (by omega) (fun h => absurd h (by omega)) (fun _ => ?_)
    refine z_aload_n C 0 dX10_hours_15 rfl ?_
    refine z_get (v := .ref (ad (i + 1))) C (lt_A0 hN rfl) hay1 hgy26 rfl inA_X10 0 (by decide) q_1459 rfl rfl dX10_hours_16 ?_
    refine z_iconst (z := 0) C dX10_hours_19 rfl ?_
    have hgy28 := up_n egy25 ha1 (ne_o (i := i) (c := 1) (d := 0) rfl)
    refine z_iald C (lt_A (c := 1) hN rfl) hay2 hgy28 (0) (by omega) (by omega) (by decide) dX10_hours_20 ?_
    refine z_iload_n C 1 dX10_hours_21 rfl ?_
    refine z_iadd C dX10_hours_22 ?_
    refine z_sipush (z := 2000) C dX10_hours_23 (by decide) ?_
    refine z_icmp_le (tgt := 35) C dX10_hours_26 (by decide) (by omega) (by omega) (fun hby29 => ?_) (fun hby29 => ?_)
    · refine z_aload_n C 0 dX10_hours_35 rfl ?_
      have hey31 : (uZ F 12 (0)) 15 = F 15 := (fn rfl (by decide))
      have hey32 : (uZ F 12 (0)) 16 = F 16 := (fn rfl (by decide))
      refine z_cV (As := []) (rest := []) (ci := 12) C (c_X10_keeps l D A cs tt N ad _ i hN _ hgy26 _ hgy28 (x) hA (by omega) (by omega)) (lt_A0 hN rfl) hay1 hgy26 rfl rfl mv_yX10_keeps q_1870 hd_yX10_keeps (by decide) (Nat.le_of_ble_eq_true rfl) (by decide) dX10_hours_36 rfl (kV0 fun gvy30 hvy30 => ?_)
      obtain ⟨⟨Fvy30, hcvy30, hbvy30, hFvy30⟩, ⟨rvy30, hdvy30, hAvy30, hyvy30⟩, hfvy30⟩ := hvy30
      have hk0vy30 : rvy30 0 = r 0 := hyvy30 0 (by omega)
      have hk1vy30 : rvy30 1 = r 1 := hyvy30 1 (by omega)
      have hk5vy30 : rvy30 5 = r 5 := hyvy30 5 (by omega)
      obtain ⟨⟨hsyy33, htyy33, hnyy33, hpyy33⟩, hlyy33⟩ := okA.at0 hAvy30
      simp only [Nat.zero_add] at hsyy33 hnyy33 hpyy33
      have hmn : ∀ s, s < 4 → 0 ≤ rvy30 (6 + 86 * s) ∧ rvy30 (6 + 86 * s) ≤ 12 := fun s hs => (hsyy33 s hs).1
      have h5 : 0 ≤ rvy30 5 ∧ rvy30 5 ≤ 6 := hpyy33
      refine z_aload_n C 0 dX10_hours_39 rfl ?_
      refine z_iconst (z := 0) C dX10_hours_40 rfl ?_
      refine z_iload_n C 1 dX10_hours_41 rfl ?_
      have hey35 : Fvy30 13 = F 13 := ((hFvy30 13 (by decide) (by decide)).trans (fn rfl (by decide)))
      have hey36 : Fvy30 14 = F 14 := ((hFvy30 14 (by decide) (by decide)).trans (fn rfl (by decide)))
      have hey37 : Fvy30 25 = F 25 := ((hFvy30 25 (by decide) (by decide)).trans (fn rfl (by decide)))
      have hey38 : Fvy30 27 = F 27 := ((hFvy30 27 (by decide) (by decide)).trans (fn rfl (by decide)))
      have hey39 : Fvy30 28 = F 28 := ((hFvy30 28 (by decide) (by decide)).trans (fn rfl (by decide)))
      have hey40 : Fvy30 29 = F 29 := ((hFvy30 29 (by decide) (by decide)).trans (fn rfl (by decide)))
      have hEvy34 : okEnv Fvy30 _ _ _ _ _ := ⟨by omega, hop, hai, hfa, hT, hT1⟩
      have hgy42 := up_n egy25 ha3 (ne_o (i := i) (c := 3) (d := 0) rfl)
      have hgy43 := (hfvy30 (i + 3) (ne_o (i := i) (c := 3) (d := 0) rfl) (ne_o (i := i) (c := 3) (d := 1) rfl)).trans hgy42
      have hgy44 := up_n egy25 ha4 (ne_o (i := i) (c := 4) (d := 0) rfl)
      have hgy45 := (hfvy30 (i + 4) (ne_o (i := i) (c := 4) (d := 0) rfl) (ne_o (i := i) (c := 4) (d := 1) rfl)).trans hgy44
      have hgy46 := up_n egy25 ha5 (ne_o (i := i) (c := 5) (d := 0) rfl)
      have hgy47 := (hfvy30 (i + 5) (ne_o (i := i) (c := 5) (d := 0) rfl) (ne_o (i := i) (c := 5) (d := 1) rfl)).trans hgy46
      have hgy48 := up_n egy25 ha6 (ne_o (i := i) (c := 6) (d := 0) rfl)
      have hgy49 := (hfvy30 (i + 6) (ne_o (i := i) (c := 6) (d := 0) rfl) (ne_o (i := i) (c := 6) (d := 1) rfl)).trans hgy48
      have hgy50 := up_n egy25 ha7 (ne_o (i := i) (c := 7) (d := 0) rfl)
      have hgy51 := (hfvy30 (i + 7) (ne_o (i := i) (c := 7) (d := 0) rfl) (ne_o (i := i) (c := 7) (d := 1) rfl)).trans hgy50
      have hgy52 := up_n egy25 ha14 (ne_o (i := i) (c := 14) (d := 0) rfl)
      have hgy53 := (hfvy30 (i + 14) (ne_o (i := i) (c := 14) (d := 0) rfl) (ne_o (i := i) (c := 14) (d := 1) rfl)).trans hgy52
      have hgy54 := up_n egy25 ha15 (ne_o (i := i) (c := 15) (d := 0) rfl)
      have hgy55 := (hfvy30 (i + 15) (ne_o (i := i) (c := 15) (d := 0) rfl) (ne_o (i := i) (c := 15) (d := 1) rfl)).trans hgy54
      refine z_cV (As := [.int (zI (0)), .int (zI (z))]) (rest := []) (ci := 12) C (c_X10_goes l D A cs tt N ad _ i hN _ hcvy30 _ hdvy30 _ hgy43 _ hgy45 _ hgy47 _ hgy49 _ hgy51 _ hgy53 _ hgy55 0 (by omega) hEvy34 (x) (by omega) (okA.at0 hAvy30).1 (z) (by omega) (by omega) (by omega)) (lt_A0 hN rfl) hay1 hcvy30 rfl rfl mv_yX10_goes q_1881 hd_yX10_goes (by decide) (Nat.le_of_ble_eq_true rfl) (by decide) dX10_hours_42 rfl (kV0 fun gvy41 hvy41 => ?_)
      obtain ⟨⟨rvy41, hcvy41, hwvy41, htvy41, hyvy41⟩, ⟨t4vy41, h4vy41⟩, ⟨t5vy41, h5vy41⟩, hfvy41⟩ := hvy41
      have hAy56 : okA rvy41 (x) := okA.first hAvy30 (Int.le_refl _) (fun j a => hyvy41 j (by omega)) hwvy41 (by omega)
      obtain ⟨⟨hsyy57, htyy57, hnyy57, hpyy57⟩, hlyy57⟩ := okA.at0 hAy56
      simp only [Nat.zero_add] at hsyy57 hnyy57 hpyy57
      have hmn : ∀ s, s < 4 → 0 ≤ rvy41 (6 + 86 * s) ∧ rvy41 (6 + 86 * s) ≤ 12 := fun s hs => (hsyy57 s hs).1
      have h5 : 0 ≤ rvy41 5 ∧ rvy41 5 ≤ 6 := hpyy57
      refine z_aload_n C 0 dX10_hours_45 rfl ?_
      have hgy58 := (hfvy41 (i) (ne_o (i := i) (c := 0) (d := 1) rfl) (ne_o (i := i) (c := 0) (d := 14) rfl) (ne_o (i := i) (c := 0) (d := 15) rfl)).trans hcvy30
      refine z_get (v := .ref (ad (i + 1))) C (lt_A0 hN rfl) hay1 hgy58 rfl inA_X10 0 (by decide) q_1459 rfl rfl dX10_hours_46 ?_
      refine z_iconst (z := 0) C dX10_hours_49 rfl ?_
      refine z_iald C (lt_A (c := 1) hN rfl) hay2 hcvy41 (0) (by omega) (by omega) (by decide) dX10_hours_50 ?_
      have hFy59 : ∀ f, f ≠ 12 → f ≠ 15 → f ≠ 16 → Fvy30 f = F f := fun f n12 n15 n16 => ((hFvy30 f n15 n16).trans ((uZ_n _ _ n12).trans rfl))
      have hey60 : Fvy30 13 = F 13 := ((hFvy30 13 (by decide) (by decide)).trans (fn rfl (by decide)))
      have hey61 : Fvy30 14 = F 14 := ((hFvy30 14 (by decide) (by decide)).trans (fn rfl (by decide)))
      have hey62 : Fvy30 15 = Fvy30 15 := rfl
      have hey63 : Fvy30 16 = Fvy30 16 := rfl
      have hey64 : Fvy30 17 = F 17 := ((hFvy30 17 (by decide) (by decide)).trans (fn rfl (by decide)))
      have hey65 : Fvy30 18 = F 18 := ((hFvy30 18 (by decide) (by decide)).trans (fn rfl (by decide)))
      have hey66 : Fvy30 19 = F 19 := ((hFvy30 19 (by decide) (by decide)).trans (fn rfl (by decide)))
      have hey67 : Fvy30 20 = F 20 := ((hFvy30 20 (by decide) (by decide)).trans (fn rfl (by decide)))
      have hey68 : Fvy30 21 = F 21 := ((hFvy30 21 (by decide) (by decide)).trans (fn rfl (by decide)))
      have hey69 : Fvy30 23 = F 23 := ((hFvy30 23 (by decide) (by decide)).trans (fn rfl (by decide)))
      have hey70 : Fvy30 25 = F 25 := ((hFvy30 25 (by decide) (by decide)).trans (fn rfl (by decide)))
      have hey71 : Fvy30 27 = F 27 := ((hFvy30 27 (by decide) (by decide)).trans (fn rfl (by decide)))
      have hey72 : Fvy30 28 = F 28 := ((hFvy30 28 (by decide) (by decide)).trans (fn rfl (by decide)))
      have hey73 : Fvy30 29 = F 29 := ((hFvy30 29 (by decide) (by decide)).trans (fn rfl (by decide)))
      have hKy74 : okF Fvy30 := by unfold okF; omega
      have hMy75 : okMr cs ad gvy41 i (x + 1) Fvy30 rvy41 st op ai fa mu tb tp := okMr.upd hM hgy58 hKy74 (fun f a => hFy59 f (by omega) (by omega) (by omega)) hcvy41 (hAy56.mono (by omega)) (fun j a b => by
          by_cases e0 : j = i + 14
          · exact Or.inr ⟨14, _, e0, lsP.l (by decide), by rw [e0]; exact h4vy41⟩
          by_cases e1 : j = i + 15
          · exact Or.inr ⟨15, _, e1, lsP.l (by decide), by rw [e1]; exact h5vy41⟩
          exact Or.inl (by rw [hfvy41 _ (by omega) (by omega) (by omega)]; rw [hfvy30 _ (by omega) (by omega)]; rw [egy25, va_up_ne _ _ (by omega)]))
      have hkpy76 : Fvy30 13 = F 13 := ((hFvy30 13 (by decide) (by decide)).trans (fn rfl (by decide)))
      have hkpy77 : Fvy30 14 = F 14 := ((hFvy30 14 (by decide) (by decide)).trans (fn rfl (by decide)))
      have hkpy78 : Fvy30 17 = F 17 := ((hFvy30 17 (by decide) (by decide)).trans (fn rfl (by decide)))
      have hkpy79 : Fvy30 20 = F 20 := ((hFvy30 20 (by decide) (by decide)).trans (fn rfl (by decide)))
      have hkpy80 : Fvy30 21 = F 21 := ((hFvy30 21 (by decide) (by decide)).trans (fn rfl (by decide)))
      have hkpy81 : Fvy30 23 = F 23 := ((hFvy30 23 (by decide) (by decide)).trans (fn rfl (by decide)))
      have hkpy82 : Fvy30 24 = F 24 := ((hFvy30 24 (by decide) (by decide)).trans (fn rfl (by decide)))
      exact z_iret C hr hlk dX10_hours_51 (by decide) (by decide) ⟨rvy41 (0), rfl, rfl, rfl, by omega, ⟨_, _, hMy75, ⟨hkpy76, hkpy77, hkpy78, hkpy79, hkpy80, hkpy81, hkpy82⟩⟩, fun j j1 => by rw [hfvy41 _ (by omega) (by omega) (by omega)]; rw [hfvy30 _ (by omega) (by omega)]; rw [egy25, va_up_ne _ _ (by omega)]⟩
    · refine z_aload_n C 0 dX10_hours_29 rfl ?_
      refine z_iconst (z := 1) C dX10_hours_30 rfl ?_
      have hgy83 := up_n egy25 ha11 (ne_o (i := i) (c := 11) (d := 0) rfl)
      refine z_cV (As := [.int (zI (1))]) (rest := []) (ci := 12) C (c_X10_refuses l D A cs tt N ad _ i hN _ hgy26 _ hgy83 (1) (by omega)) (lt_A0 hN rfl) hay1 hgy26 rfl rfl mv_yX10_refuses q_1866 hd_yX10_refuses (by decide) (Nat.le_of_ble_eq_true rfl) (by decide) dX10_hours_31 rfl (kI0 fun vy84 gvy84 hvy84 => ?_)
      obtain ⟨hrvy84, ⟨tvy84, hdvy84⟩, hfvy84⟩ := hvy84
      have hgy85 := (hfvy84 (i) (ne_o (i := i) (c := 0) (d := 11) rfl)).trans hgy26
      have hgy86 := (hfvy84 (i + 1) (ne_o (i := i) (c := 1) (d := 11) rfl)).trans hgy28
      have hFy87 : ∀ f, f ≠ 12 → (uZ F 12 (0)) f = F f := fun f n12 => ((uZ_n _ _ n12).trans rfl)
      have hey88 : (uZ F 12 (0)) 13 = F 13 := (fn rfl (by decide))
      have hey89 : (uZ F 12 (0)) 14 = F 14 := (fn rfl (by decide))
      have hey90 : (uZ F 12 (0)) 15 = F 15 := (fn rfl (by decide))
      have hey91 : (uZ F 12 (0)) 16 = F 16 := (fn rfl (by decide))
      have hey92 : (uZ F 12 (0)) 17 = F 17 := (fn rfl (by decide))
      have hey93 : (uZ F 12 (0)) 18 = F 18 := (fn rfl (by decide))
      have hey94 : (uZ F 12 (0)) 19 = F 19 := (fn rfl (by decide))
      have hey95 : (uZ F 12 (0)) 20 = F 20 := (fn rfl (by decide))
      have hey96 : (uZ F 12 (0)) 21 = F 21 := (fn rfl (by decide))
      have hey97 : (uZ F 12 (0)) 23 = F 23 := (fn rfl (by decide))
      have hey98 : (uZ F 12 (0)) 25 = F 25 := (fn rfl (by decide))
      have hey99 : (uZ F 12 (0)) 27 = F 27 := (fn rfl (by decide))
      have hey100 : (uZ F 12 (0)) 28 = F 28 := (fn rfl (by decide))
      have hey101 : (uZ F 12 (0)) 29 = F 29 := (fn rfl (by decide))
      have hKy102 : okF (uZ F 12 (0)) := okF.mv hM.2.1 hey88 hey89 hey90 hey91 hey92 hey93 hey94 hey95 hey96 hey97 hey98 hey99 hey100 hey101
      have hMy103 : okMr cs ad gvy84 i (x + 1) (uZ F 12 (0)) r st op ai fa mu tb tp := okMr.upd hM hgy85 hKy102 (fun f a => hFy87 f (by omega)) hgy86 (hA.mono (by omega)) (fun j a b => by
          by_cases e0 : j = i + 11
          · exact Or.inr ⟨11, _, e0, lsP.l (by decide), by rw [e0]; exact hdvy84⟩
          exact Or.inl (by rw [hfvy84 _ (by omega)]; rw [egy25, va_up_ne _ _ (by omega)]))
      have hkpy104 : (uZ F 12 (0)) 13 = F 13 := (fn rfl (by decide))
      have hkpy105 : (uZ F 12 (0)) 14 = F 14 := (fn rfl (by decide))
      have hkpy106 : (uZ F 12 (0)) 17 = F 17 := (fn rfl (by decide))
      have hkpy107 : (uZ F 12 (0)) 20 = F 20 := (fn rfl (by decide))
      have hkpy108 : (uZ F 12 (0)) 21 = F 21 := (fn rfl (by decide))
      have hkpy109 : (uZ F 12 (0)) 23 = F 23 := (fn rfl (by decide))
      have hkpy110 : (uZ F 12 (0)) 24 = F 24 := (fn rfl (by decide))
      exact z_iret C hr hlk dX10_hours_34 (by decide) (by decide) ⟨vy84, rfl, rfl, rfl, by omega, ⟨_, _, hMy103, ⟨hkpy104, hkpy105, hkpy106, hkpy107, hkpy108, hkpy109, hkpy110⟩⟩, fun j j1 => by rw [hfvy84 _ (by omega)]; rw [egy25, va_up_ne _ _ (by omega)]⟩
  · refine z_if_eq (tgt := 29) C dX10_hours_12 (by decide) (by omega) (fun _ => ?_) (fun h => absurd h (by omega))
    refine z_aload_n C 0 dX10_hours_29 rfl ?_
    refine z_iconst (z := 1) C dX10_hours_30 rfl ?_
    have hgy111 := up_n egy25 ha11 (ne_o (i := i) (c := 11) (d := 0) rfl)
    refine z_cV (As := [.int (zI (1))]) (rest := []) (ci := 12) C (c_X10_refuses l D A cs tt N ad _ i hN _ hgy26 _ hgy111 (1) (by omega)) (lt_A0 hN rfl) hay1 hgy26 rfl rfl mv_yX10_refuses q_1866 hd_yX10_refuses (by decide) (Nat.le_of_ble_eq_true rfl) (by decide) dX10_hours_31 rfl (kI0 fun vy112 gvy112 hvy112 => ?_)
    obtain ⟨hrvy112, ⟨tvy112, hdvy112⟩, hfvy112⟩ := hvy112
    have hgy113 := (hfvy112 (i) (ne_o (i := i) (c := 0) (d := 11) rfl)).trans hgy26
    have hgy114 := up_n egy25 ha1 (ne_o (i := i) (c := 1) (d := 0) rfl)
    have hgy115 := (hfvy112 (i + 1) (ne_o (i := i) (c := 1) (d := 11) rfl)).trans hgy114
    have hFy116 : ∀ f, f ≠ 12 → (uZ F 12 (0)) f = F f := fun f n12 => ((uZ_n _ _ n12).trans rfl)
    have hey117 : (uZ F 12 (0)) 13 = F 13 := (fn rfl (by decide))
    have hey118 : (uZ F 12 (0)) 14 = F 14 := (fn rfl (by decide))
    have hey119 : (uZ F 12 (0)) 15 = F 15 := (fn rfl (by decide))
    have hey120 : (uZ F 12 (0)) 16 = F 16 := (fn rfl (by decide))
    have hey121 : (uZ F 12 (0)) 17 = F 17 := (fn rfl (by decide))
    have hey122 : (uZ F 12 (0)) 18 = F 18 := (fn rfl (by decide))
    have hey123 : (uZ F 12 (0)) 19 = F 19 := (fn rfl (by decide))
    have hey124 : (uZ F 12 (0)) 20 = F 20 := (fn rfl (by decide))
    have hey125 : (uZ F 12 (0)) 21 = F 21 := (fn rfl (by decide))
    have hey126 : (uZ F 12 (0)) 23 = F 23 := (fn rfl (by decide))
    have hey127 : (uZ F 12 (0)) 25 = F 25 := (fn rfl (by decide))
    have hey128 : (uZ F 12 (0)) 27 = F 27 := (fn rfl (by decide))
    have hey129 : (uZ F 12 (0)) 28 = F 28 := (fn rfl (by decide))
    have hey130 : (uZ F 12 (0)) 29 = F 29 := (fn rfl (by decide))
    have hKy131 : okF (uZ F 12 (0)) := okF.mv hM.2.1 hey117 hey118 hey119 hey120 hey121 hey122 hey123 hey124 hey125 hey126 hey127 hey128 hey129 hey130
    have hMy132 : okMr cs ad gvy112 i (x + 1) (uZ F 12 (0)) r st op ai fa mu tb tp := okMr.upd hM hgy113 hKy131 (fun f a => hFy116 f (by omega)) hgy115 (hA.mono (by omega)) (fun j a b => by
        by_cases e0 : j = i + 11
        · exact Or.inr ⟨11, _, e0, lsP.l (by decide), by rw [e0]; exact hdvy112⟩
        exact Or.inl (by rw [hfvy112 _ (by omega)]; rw [egy25, va_up_ne _ _ (by omega)]))
    have hkpy133 : (uZ F 12 (0)) 13 = F 13 := (fn rfl (by decide))
    have hkpy134 : (uZ F 12 (0)) 14 = F 14 := (fn rfl (by decide))
    have hkpy135 : (uZ F 12 (0)) 17 = F 17 := (fn rfl (by decide))
    have hkpy136 : (uZ F 12 (0)) 20 = F 20 := (fn rfl (by decide))
    have hkpy137 : (uZ F 12 (0)) 21 = F 21 := (fn rfl (by decide))
    have hkpy138 : (uZ F 12 (0)) 23 = F 23 := (fn rfl (by decide))
    have hkpy139 : (uZ F 12 (0)) 24 = F 24 := (fn rfl (by decide))
    exact z_iret C hr hlk dX10_hours_34 (by decide) (by decide) ⟨vy112, rfl, rfl, rfl, by omega, ⟨_, _, hMy132, ⟨hkpy133, hkpy134, hkpy135, hkpy136, hkpy137, hkpy138, hkpy139⟩⟩, fun j j1 => by rw [hfvy112 _ (by omega)]; rw [egy25, va_up_ne _ _ (by omega)]⟩

set_option maxRecDepth 100000 in
set_option maxHeartbeats 4000000 in
theorem c_X10_fall_a (l : Launch) (D : va_G) (A : Nat → Prop) (cs : Nat → ClassId) (tt : Nat) (N : Nat) (ad : Nat → Nat) (g : Nat → va_E) (i : Nat) (hN : i + 30 ≤ N) (x : Int) (hx : 0 ≤ x ∧ x ≤ 512) (F r : Nat → Int) {st op ai fa mu tb tp : Nat → Int} (hM : okMr cs ad g i x F r st op ai fa mu tb tp) (n : Nat) (hn4 : n < 4) (z1 : Int) (hz1 : -2147483648 ≤ z1 ∧ z1 ≤ 2147483647) (z2 : Int) (hz2 : -2147483648 ≤ z2 ∧ z2 ≤ 2147483647) : zM l yX10_fall cX10_fall 4 (some .int) ({ frames := 6, cells := 0, slots := 0, locals := 360 } : Room) D A cs tt N ad g [.ref (ad i), .int (zI ((n : Int))), .int (zI (z1)), .int (zI (z2))] (rI0 N ad fun q g' => (-2147483648 ≤ q ∧ q ≤ 2147483647) ∧ (∃ F' r' : Nat → Int, okMr cs ad g' i (x + 1) F' r' st op ai fa mu tb tp ∧ (F' 13 = F 13 ∧ F' 14 = F 14 ∧ F' 17 = F 17 ∧ F' 20 = F 20 ∧ F' 21 = F 21 ∧ F' 23 = F 23 ∧ F' 24 = F 24)) ∧ ∀ j, j < i ∨ i + 30 ≤ j → g' j = g j) := by
  obtain ⟨hg, ⟨⟨e13, e14, e25, e27, e29⟩, k15, k16, k17, k18, k19, k20, k23, k21⟩, hRD, hTx, hA, ns, nh, nd, rf, pi, te, ki, li, ok1, ok2, fo, dd, dps, ⟨ha1, ha2, ha3, ha4, ha5, ha6, ha7, ha8, ha9, ha10, ha11, ha12, ha13, ha14, ha15, ha24, ha25, ha26, ha27, ha28, ha29⟩, hEv, hPt, hns, htp⟩ := id hM
  obtain ⟨-, hop, hai, hfa, hT, hT1⟩ := id hEv
  have hay1 : zAt ad (i) (ad i) := rfl
  have hay2 : zAt ad (i + 1) (ad (i + 1)) := rfl
  have hay3 : zAt ad (i + 2) (ad (i + 2)) := rfl
  have hay4 : zAt ad (i + 3) (ad (i + 3)) := rfl
  have hay5 : zAt ad (i + 4) (ad (i + 4)) := rfl
  have hay6 : zAt ad (i + 5) (ad (i + 5)) := rfl
  have hay7 : zAt ad (i + 6) (ad (i + 6)) := rfl
  have hay8 : zAt ad (i + 7) (ad (i + 7)) := rfl
  have hay9 : zAt ad (i + 8) (ad (i + 8)) := rfl
  have hay10 : zAt ad (i + 9) (ad (i + 9)) := rfl
  have hay11 : zAt ad (i + 10) (ad (i + 10)) := rfl
  have hay12 : zAt ad (i + 11) (ad (i + 11)) := rfl
  have hay13 : zAt ad (i + 12) (ad (i + 12)) := rfl
  have hay14 : zAt ad (i + 13) (ad (i + 13)) := rfl
  have hay15 : zAt ad (i + 14) (ad (i + 14)) := rfl
  have hay16 : zAt ad (i + 15) (ad (i + 15)) := rfl
  have hay17 : zAt ad (i + 24) (ad (i + 24)) := rfl
  have hay18 : zAt ad (i + 25) (ad (i + 25)) := rfl
  have hay19 : zAt ad (i + 26) (ad (i + 26)) := rfl
  have hay20 : zAt ad (i + 27) (ad (i + 27)) := rfl
  have hay21 : zAt ad (i + 28) (ad (i + 28)) := rfl
  have hay22 : zAt ad (i + 29) (ad (i + 29)) := rfl
  obtain ⟨⟨hsyy23, htyy23, hnyy23, hpyy23⟩, hlyy23⟩ := okA.at0 hA
  simp only [Nat.zero_add] at hsyy23 hnyy23 hpyy23
  have hmn : ∀ s, s < 4 → 0 ≤ r (6 + 86 * s) ∧ r (6 + 86 * s) ≤ 12 := fun s hs => (hsyy23 s hs).1
  have h5 : 0 ≤ r 5 ∧ r 5 ≤ 6 := hpyy23
  refine z_of (by decide) (Nat.le_of_ble_eq_true rfl) ?_
  intro pZ eZ sZ mZ below meth cZ C hr hlk hnm
  refine z_lv (lv' := [(0, .ref (ad i)), (1, .int (zI ((n : Int)))), (2, .int (zI (z1))), (3, .int (zI (z2)))]) [0, 1, 2, 3] rfl ?_
  refine z_aload_n C 0 dX10_fall_0 rfl ?_
  refine z_iconst (z := 0) C dX10_fall_1 rfl ?_
  refine z_put (fs' := mF ad (i) (uZ F 12 (0))) C (lt_A0 hN rfl) hay1 hg tyX10 tyX10_ok nmX10 rfl inA_X10 12 (by decide) q_1471 rfl rfl rfl rfl (Nat.le_of_ble_eq_true rfl) rfl dX10_fall_2 (fun gy24 egy25 => ?_)
  have hgy26 := up_s egy25
  refine z_iload_n C 1 dX10_fall_5 rfl ?_
  refine z_iconst (z := 0) C dX10_fall_6 rfl ?_
  refine z_aload_n C 0 dX10_fall_7 rfl ?_
  refine z_get (v := .int (zI (F 13))) C (lt_A0 hN rfl) hay1 hgy26 rfl inA_X10 13 (by decide) q_1472 rfl (fv (F := (uZ F 12 (0))) (f := 13) (fn rfl (by decide))) dX10_fall_8 ?_
  refine z_iconst (z := 1) C dX10_fall_11 rfl ?_
  refine z_isub C dX10_fall_12 ?_
  refine z_cS (As := [.int (zI ((n : Int))), .int (zI (0)), .int (zI ((F 13) - 1))]) (rest := []) C (c_X10_within l D A cs tt N ad _ ((n : Int)) (by omega) (0) (by omega) ((F 13) - 1) (by omega)) ms_yX10_within q_1686 hd_yX10_within (by decide) (Nat.le_of_ble_eq_true rfl) (by decide) dX10_fall_13 rfl (kI0 fun vy27 gvy27 hvy27 => ?_)
  obtain ⟨hvy27, rfl⟩ := hvy27
  rcases hvy27 with ⟨rfl, hxvy27⟩ | ⟨rfl, hxvy27⟩
  · refine z_if_eq (tgt := 56) C dX10_fall_16 (by decide) (by omega) (fun h => absurd h (by omega)) (fun _ => ?_)
    refine z_iload_n C 2 dX10_fall_19 rfl ?_
    refine z_iconst (z := 1) C dX10_fall_20 rfl ?_
    refine z_iconst (z := 3) C dX10_fall_21 rfl ?_
    refine z_cS (As := [.int (zI (z1)), .int (zI (1)), .int (zI (3))]) (rest := []) C (c_X10_within l D A cs tt N ad _ (z1) (by omega) (1) (by omega) (3) (by omega)) ms_yX10_within q_1686 hd_yX10_within (by decide) (Nat.le_of_ble_eq_true rfl) (by decide) dX10_fall_22 rfl (kI0 fun vy28 gvy28 hvy28 => ?_)
    obtain ⟨hvy28, rfl⟩ := hvy28
    rcases hvy28 with ⟨rfl, hxvy28⟩ | ⟨rfl, hxvy28⟩
    · refine z_if_eq (tgt := 56) C dX10_fall_25 (by decide) (by omega) (fun h => absurd h (by omega)) (fun _ => ?_)
      refine z_iload_n C 2 dX10_fall_28 rfl ?_
      refine z_iconst (z := 3) C dX10_fall_29 rfl ?_
      refine z_icmp_ge (tgt := 43) C dX10_fall_30 (by decide) (by omega) (by omega) (fun hby29 => ?_) (fun hby29 => ?_)
      · refine z_iload_n C 2 dX10_fall_43 rfl ?_
        refine z_iconst (z := 3) C dX10_fall_44 rfl ?_
        refine z_icmp_ne (tgt := 62) C dX10_fall_45 (by decide) (by omega) (by omega) (fun hby30 => ?_) (fun hby30 => ?_)
        · refine z_aload_n C 0 dX10_fall_62 rfl ?_
          have hgy31 := up_n egy25 ha1 (ne_o (i := i) (c := 1) (d := 0) rfl)
          have hey33 : (uZ F 12 (0)) 15 = F 15 := (fn rfl (by decide))
          have hey34 : (uZ F 12 (0)) 16 = F 16 := (fn rfl (by decide))
          refine z_cV (As := []) (rest := []) (ci := 12) C (c_X10_keeps l D A cs tt N ad _ i hN _ hgy26 _ hgy31 (x) hA (by omega) (by omega)) (lt_A0 hN rfl) hay1 hgy26 rfl rfl mv_yX10_keeps q_1870 hd_yX10_keeps (by decide) (Nat.le_of_ble_eq_true rfl) (by decide) dX10_fall_63 rfl (kV0 fun gvy32 hvy32 => ?_)
          obtain ⟨⟨Fvy32, hcvy32, hbvy32, hFvy32⟩, ⟨rvy32, hdvy32, hAvy32, hyvy32⟩, hfvy32⟩ := hvy32
          have hk0vy32 : rvy32 0 = r 0 := hyvy32 0 (by omega)
          have hk1vy32 : rvy32 1 = r 1 := hyvy32 1 (by omega)
          have hk5vy32 : rvy32 5 = r 5 := hyvy32 5 (by omega)
          obtain ⟨⟨hsyy35, htyy35, hnyy35, hpyy35⟩, hlyy35⟩ := okA.at0 hAvy32
          simp only [Nat.zero_add] at hsyy35 hnyy35 hpyy35
          have hmn : ∀ s, s < 4 → 0 ≤ rvy32 (6 + 86 * s) ∧ rvy32 (6 + 86 * s) ≤ 12 := fun s hs => (hsyy35 s hs).1
          have h5 : 0 ≤ rvy32 5 ∧ rvy32 5 ≤ 6 := hpyy35
          refine z_aload_n C 0 dX10_fall_66 rfl ?_
          refine z_iconst (z := 0) C dX10_fall_67 rfl ?_
          refine z_iload_n C 1 dX10_fall_68 rfl ?_
          refine z_iload_n C 2 dX10_fall_69 rfl ?_
          refine z_iload_n C 3 dX10_fall_70 rfl ?_
          refine z_aload_n C 0 dX10_fall_71 rfl ?_
          refine z_iconst (z := 0) C dX10_fall_72 rfl ?_
          have hey37 : Fvy32 14 = F 14 := ((hFvy32 14 (by decide) (by decide)).trans (fn rfl (by decide)))
          have hey38 : Fvy32 25 = F 25 := ((hFvy32 25 (by decide) (by decide)).trans (fn rfl (by decide)))
          have hgy39 := up_n egy25 ha4 (ne_o (i := i) (c := 4) (d := 0) rfl)
          have hgy40 := (hfvy32 (i + 4) (ne_o (i := i) (c := 4) (d := 0) rfl) (ne_o (i := i) (c := 4) (d := 1) rfl)).trans hgy39
          refine z_cV (As := [.int (zI (0))]) (rest := [.int (zI (z2)), .int (zI (z1)), .int (zI ((n : Int))), .int (zI (0)), .ref (ad i)]) (ci := 12) C (c_X10_airOf l D A cs tt N ad _ i hN _ hcvy32 _ hdvy32 _ hgy40 0 (by omega) (by omega) (by omega) (by omega) hai) (lt_A0 hN rfl) hay1 hcvy32 rfl rfl mv_yX10_airOf q_1827 hd_yX10_airOf (by decide) (Nat.le_of_ble_eq_true rfl) (by decide) dX10_fall_73 rfl (kI0 fun vy36 gvy36 hvy36 => ?_)
          obtain ⟨hvy36, rfl⟩ := hvy36
          obtain ⟨py41, hpy41⟩ : ∃ p9 : Nat, 0 + 6 + 86 * n = p9 := ⟨_, rfl⟩
          have hSy42 := ((okA.at0 hAvy32).1.1 n (by omega)).of (p2 := py41) (by omega)
          obtain ⟨b1hSy42, b2hSy42, b3hSy42, b4hSy42⟩ := mBb (t := rvy32 0 + x) (by omega)
          have hmky43 := hSy42.1
          have hcy44n := (okA.at0 hAvy32).1.2.2.1
          have hcy44t := (okA.at0 hAvy32).1.2.1
          have hwy46 : rvy32 (0 + 1) = r (0 + 1) := (hyvy32 _ (by omega)).trans (rfl)
          refine z_cV (As := [.int (zI (0)), .int (zI ((n : Int))), .int (zI (z1)), .int (zI (z2)), .int (zI (vy36))]) (rest := []) (ci := 12) C (c_X10_drops l D A cs tt N ad _ i hN _ hcvy32 _ hdvy32  0 n py41 hpy41 (by omega) (by omega) (by omega) (mB (rvy32 0 + x)) (eB (rvy32 0 + x)) (by omega) (by omega) hSy42 (by omega) (by omega) (z1) (by omega) (z2) (by omega) (vy36) (by omega)) (lt_A0 hN rfl) hay1 hcvy32 rfl rfl mv_yX10_drops q_1893 hd_yX10_drops (by decide) (Nat.le_of_ble_eq_true rfl) (by decide) dX10_fall_76 rfl (kV0 fun gvy45 hvy45 => ?_)
          obtain ⟨⟨rvy45, hcvy45, hovy45, hnvy45, hyvy45⟩, hfvy45⟩ := hvy45
          have hkvy45 := hovy45.1
          have hcy440 : rvy45 0 = rvy32 0 := (hyvy45 0 (by omega) (by omega))
          have hcy445 : rvy45 (0 + 5) = rvy32 (0 + 5) := (hyvy45 (0 + 5) (by omega) (by omega))
          have hcy446 := (okA.at0 hAvy32).1.2.2.2
          have hcy44 : okW rvy45 0 (x + 1) := okW.slope (okA.at0 hAvy32).1 (s := n) (p := py41) (by omega) (by omega) (hovy45.mono (by omega) (by omega)) hnvy45 hcy440 (by omega) (fun j a1 a2 a3 => (hyvy45 j (by omega) (by omega)))
          have hAy47 : okA rvy45 (x + 1) := okA.first hAvy32 (by omega) (fun j a => (hyvy45 j (by omega) (by omega))) hcy44 (by omega)
          obtain ⟨⟨hsyy48, htyy48, hnyy48, hpyy48⟩, hlyy48⟩ := okA.at0 hAy47
          simp only [Nat.zero_add] at hsyy48 hnyy48 hpyy48
          have hmn : ∀ s, s < 4 → 0 ≤ rvy45 (6 + 86 * s) ∧ rvy45 (6 + 86 * s) ≤ 12 := fun s hs => (hsyy48 s hs).1
          have h5 : 0 ≤ rvy45 5 ∧ rvy45 5 ≤ 6 := hpyy48
          refine z_aload_n C 0 dX10_fall_79 rfl ?_
          refine z_iconst (z := 0) C dX10_fall_80 rfl ?_
          refine z_iload_n C 1 dX10_fall_81 rfl ?_
          obtain ⟨py49, hpy49⟩ : ∃ p9 : Nat, 0 + 6 + 86 * n = p9 := ⟨_, rfl⟩
          have hmyy50 := ((okA.at0 hAy47).1.1 n (by omega)).1
          rw [hpy49] at hmyy50
          have hgy51 := (hfvy45 (i) (ne_o (i := i) (c := 0) (d := 1) rfl)).trans hcvy32
          refine z_cV (As := [.int (zI (0)), .int (zI ((n : Int)))]) (rest := []) (ci := 12) C (c_X10_many l D A cs tt N ad _ i hN _ hgy51 _ hcvy45 0 n py49 hpy49 (by omega) (by omega)) (lt_A0 hN rfl) hay1 hgy51 rfl rfl mv_yX10_many q_1733 hd_yX10_many (by decide) (Nat.le_of_ble_eq_true rfl) (by decide) dX10_fall_82 rfl (kI0 fun vy52 gvy52 hvy52 => ?_)
          obtain ⟨rfl, rfl⟩ := hvy52
          have hFy53 : ∀ f, f ≠ 12 → f ≠ 15 → f ≠ 16 → Fvy32 f = F f := fun f n12 n15 n16 => ((hFvy32 f n15 n16).trans ((uZ_n _ _ n12).trans rfl))
          have hey54 : Fvy32 13 = F 13 := ((hFvy32 13 (by decide) (by decide)).trans (fn rfl (by decide)))
          have hey55 : Fvy32 14 = F 14 := ((hFvy32 14 (by decide) (by decide)).trans (fn rfl (by decide)))
          have hey56 : Fvy32 15 = Fvy32 15 := rfl
          have hey57 : Fvy32 16 = Fvy32 16 := rfl
          have hey58 : Fvy32 17 = F 17 := ((hFvy32 17 (by decide) (by decide)).trans (fn rfl (by decide)))
          have hey59 : Fvy32 18 = F 18 := ((hFvy32 18 (by decide) (by decide)).trans (fn rfl (by decide)))
          have hey60 : Fvy32 19 = F 19 := ((hFvy32 19 (by decide) (by decide)).trans (fn rfl (by decide)))
          have hey61 : Fvy32 20 = F 20 := ((hFvy32 20 (by decide) (by decide)).trans (fn rfl (by decide)))
          have hey62 : Fvy32 21 = F 21 := ((hFvy32 21 (by decide) (by decide)).trans (fn rfl (by decide)))
          have hey63 : Fvy32 23 = F 23 := ((hFvy32 23 (by decide) (by decide)).trans (fn rfl (by decide)))
          have hey64 : Fvy32 25 = F 25 := ((hFvy32 25 (by decide) (by decide)).trans (fn rfl (by decide)))
          have hey65 : Fvy32 27 = F 27 := ((hFvy32 27 (by decide) (by decide)).trans (fn rfl (by decide)))
          have hey66 : Fvy32 28 = F 28 := ((hFvy32 28 (by decide) (by decide)).trans (fn rfl (by decide)))
          have hey67 : Fvy32 29 = F 29 := ((hFvy32 29 (by decide) (by decide)).trans (fn rfl (by decide)))
          have hKy68 : okF Fvy32 := by unfold okF; omega
          have hMy69 : okMr cs ad gvy45 i (x + 1) Fvy32 rvy45 st op ai fa mu tb tp := okMr.upd hM hgy51 hKy68 (fun f a => hFy53 f (by omega) (by omega) (by omega)) hcvy45 (hAy47.mono (by omega)) (fun j a b => by
              exact Or.inl (by rw [hfvy45 _ (by omega)]; rw [hfvy32 _ (by omega) (by omega)]; rw [egy25, va_up_ne _ _ (by omega)]))
          have hkpy70 : Fvy32 13 = F 13 := ((hFvy32 13 (by decide) (by decide)).trans (fn rfl (by decide)))
          have hkpy71 : Fvy32 14 = F 14 := ((hFvy32 14 (by decide) (by decide)).trans (fn rfl (by decide)))
          have hkpy72 : Fvy32 17 = F 17 := ((hFvy32 17 (by decide) (by decide)).trans (fn rfl (by decide)))
          have hkpy73 : Fvy32 20 = F 20 := ((hFvy32 20 (by decide) (by decide)).trans (fn rfl (by decide)))
          have hkpy74 : Fvy32 21 = F 21 := ((hFvy32 21 (by decide) (by decide)).trans (fn rfl (by decide)))
          have hkpy75 : Fvy32 23 = F 23 := ((hFvy32 23 (by decide) (by decide)).trans (fn rfl (by decide)))
          have hkpy76 : Fvy32 24 = F 24 := ((hFvy32 24 (by decide) (by decide)).trans (fn rfl (by decide)))
          exact z_iret C hr hlk dX10_fall_85 (by decide) (by decide) ⟨rvy45 (py49), rfl, rfl, rfl, by omega, ⟨_, _, hMy69, ⟨hkpy70, hkpy71, hkpy72, hkpy73, hkpy74, hkpy75, hkpy76⟩⟩, fun j j1 => by rw [hfvy45 _ (by omega)]; rw [hfvy32 _ (by omega) (by omega)]; rw [egy25, va_up_ne _ _ (by omega)]⟩
        · refine z_aload_n C 0 dX10_fall_48 rfl ?_
          refine z_iconst (z := 0) C dX10_fall_49 rfl ?_
          have hgy77 := up_n egy25 ha1 (ne_o (i := i) (c := 1) (d := 0) rfl)
          have hey79 : (uZ F 12 (0)) 14 = F 14 := (fn rfl (by decide))
          have hey80 : (uZ F 12 (0)) 25 = F 25 := (fn rfl (by decide))
          have hgy81 := up_n egy25 ha4 (ne_o (i := i) (c := 4) (d := 0) rfl)
          refine z_cV (As := [.int (zI (0))]) (rest := []) (ci := 12) C (c_X10_airOf l D A cs tt N ad _ i hN _ hgy26 _ hgy77 _ hgy81 0 (by omega) (by omega) (by omega) (by omega) hai) (lt_A0 hN rfl) hay1 hgy26 rfl rfl mv_yX10_airOf q_1827 hd_yX10_airOf (by decide) (Nat.le_of_ble_eq_true rfl) (by decide) dX10_fall_50 rfl (kI0 fun vy78 gvy78 hvy78 => ?_)
          obtain ⟨hvy78, rfl⟩ := hvy78
          refine z_if_lt (tgt := 62) C dX10_fall_53 (by decide) (by omega) (fun hby82 => ?_) (fun hby82 => ?_)
          · refine z_aload_n C 0 dX10_fall_62 rfl ?_
            have hey84 : (uZ F 12 (0)) 15 = F 15 := (fn rfl (by decide))
            have hey85 : (uZ F 12 (0)) 16 = F 16 := (fn rfl (by decide))
            refine z_cV (As := []) (rest := []) (ci := 12) C (c_X10_keeps l D A cs tt N ad _ i hN _ hgy26 _ hgy77 (x) hA (by omega) (by omega)) (lt_A0 hN rfl) hay1 hgy26 rfl rfl mv_yX10_keeps q_1870 hd_yX10_keeps (by decide) (Nat.le_of_ble_eq_true rfl) (by decide) dX10_fall_63 rfl (kV0 fun gvy83 hvy83 => ?_)
            obtain ⟨⟨Fvy83, hcvy83, hbvy83, hFvy83⟩, ⟨rvy83, hdvy83, hAvy83, hyvy83⟩, hfvy83⟩ := hvy83
            have hk0vy83 : rvy83 0 = r 0 := hyvy83 0 (by omega)
            have hk1vy83 : rvy83 1 = r 1 := hyvy83 1 (by omega)
            have hk5vy83 : rvy83 5 = r 5 := hyvy83 5 (by omega)
            obtain ⟨⟨hsyy86, htyy86, hnyy86, hpyy86⟩, hlyy86⟩ := okA.at0 hAvy83
            simp only [Nat.zero_add] at hsyy86 hnyy86 hpyy86
            have hmn : ∀ s, s < 4 → 0 ≤ rvy83 (6 + 86 * s) ∧ rvy83 (6 + 86 * s) ≤ 12 := fun s hs => (hsyy86 s hs).1
            have h5 : 0 ≤ rvy83 5 ∧ rvy83 5 ≤ 6 := hpyy86
            refine z_aload_n C 0 dX10_fall_66 rfl ?_
            refine z_iconst (z := 0) C dX10_fall_67 rfl ?_
            refine z_iload_n C 1 dX10_fall_68 rfl ?_
            refine z_iload_n C 2 dX10_fall_69 rfl ?_
            refine z_iload_n C 3 dX10_fall_70 rfl ?_
            refine z_aload_n C 0 dX10_fall_71 rfl ?_
            refine z_iconst (z := 0) C dX10_fall_72 rfl ?_
            have hey88 : Fvy83 14 = F 14 := ((hFvy83 14 (by decide) (by decide)).trans (fn rfl (by decide)))
            have hey89 : Fvy83 25 = F 25 := ((hFvy83 25 (by decide) (by decide)).trans (fn rfl (by decide)))
            have hgy90 := (hfvy83 (i + 4) (ne_o (i := i) (c := 4) (d := 0) rfl) (ne_o (i := i) (c := 4) (d := 1) rfl)).trans hgy81
            refine z_cV (As := [.int (zI (0))]) (rest := [.int (zI (z2)), .int (zI (z1)), .int (zI ((n : Int))), .int (zI (0)), .ref (ad i)]) (ci := 12) C (c_X10_airOf l D A cs tt N ad _ i hN _ hcvy83 _ hdvy83 _ hgy90 0 (by omega) (by omega) (by omega) (by omega) hai) (lt_A0 hN rfl) hay1 hcvy83 rfl rfl mv_yX10_airOf q_1827 hd_yX10_airOf (by decide) (Nat.le_of_ble_eq_true rfl) (by decide) dX10_fall_73 rfl (kI0 fun vy87 gvy87 hvy87 => ?_)
            obtain ⟨hvy87, rfl⟩ := hvy87
            obtain ⟨py91, hpy91⟩ : ∃ p9 : Nat, 0 + 6 + 86 * n = p9 := ⟨_, rfl⟩
            have hSy92 := ((okA.at0 hAvy83).1.1 n (by omega)).of (p2 := py91) (by omega)
            obtain ⟨b1hSy92, b2hSy92, b3hSy92, b4hSy92⟩ := mBb (t := rvy83 0 + x) (by omega)
            have hmky93 := hSy92.1
            have hcy94n := (okA.at0 hAvy83).1.2.2.1
            have hcy94t := (okA.at0 hAvy83).1.2.1
            have hwy96 : rvy83 (0 + 1) = r (0 + 1) := (hyvy83 _ (by omega)).trans (rfl)
            refine z_cV (As := [.int (zI (0)), .int (zI ((n : Int))), .int (zI (z1)), .int (zI (z2)), .int (zI (vy87))]) (rest := []) (ci := 12) C (c_X10_drops l D A cs tt N ad _ i hN _ hcvy83 _ hdvy83  0 n py91 hpy91 (by omega) (by omega) (by omega) (mB (rvy83 0 + x)) (eB (rvy83 0 + x)) (by omega) (by omega) hSy92 (by omega) (by omega) (z1) (by omega) (z2) (by omega) (vy87) (by omega)) (lt_A0 hN rfl) hay1 hcvy83 rfl rfl mv_yX10_drops q_1893 hd_yX10_drops (by decide) (Nat.le_of_ble_eq_true rfl) (by decide) dX10_fall_76 rfl (kV0 fun gvy95 hvy95 => ?_)
            obtain ⟨⟨rvy95, hcvy95, hovy95, hnvy95, hyvy95⟩, hfvy95⟩ := hvy95
            have hkvy95 := hovy95.1
            have hcy940 : rvy95 0 = rvy83 0 := (hyvy95 0 (by omega) (by omega))
            have hcy945 : rvy95 (0 + 5) = rvy83 (0 + 5) := (hyvy95 (0 + 5) (by omega) (by omega))
            have hcy946 := (okA.at0 hAvy83).1.2.2.2
            have hcy94 : okW rvy95 0 (x + 1) := okW.slope (okA.at0 hAvy83).1 (s := n) (p := py91) (by omega) (by omega) (hovy95.mono (by omega) (by omega)) hnvy95 hcy940 (by omega) (fun j a1 a2 a3 => (hyvy95 j (by omega) (by omega)))
            have hAy97 : okA rvy95 (x + 1) := okA.first hAvy83 (by omega) (fun j a => (hyvy95 j (by omega) (by omega))) hcy94 (by omega)
            obtain ⟨⟨hsyy98, htyy98, hnyy98, hpyy98⟩, hlyy98⟩ := okA.at0 hAy97
            simp only [Nat.zero_add] at hsyy98 hnyy98 hpyy98
            have hmn : ∀ s, s < 4 → 0 ≤ rvy95 (6 + 86 * s) ∧ rvy95 (6 + 86 * s) ≤ 12 := fun s hs => (hsyy98 s hs).1
            have h5 : 0 ≤ rvy95 5 ∧ rvy95 5 ≤ 6 := hpyy98
            refine z_aload_n C 0 dX10_fall_79 rfl ?_
            refine z_iconst (z := 0) C dX10_fall_80 rfl ?_
            refine z_iload_n C 1 dX10_fall_81 rfl ?_
            obtain ⟨py99, hpy99⟩ : ∃ p9 : Nat, 0 + 6 + 86 * n = p9 := ⟨_, rfl⟩
            have hmyy100 := ((okA.at0 hAy97).1.1 n (by omega)).1
            rw [hpy99] at hmyy100
            have hgy101 := (hfvy95 (i) (ne_o (i := i) (c := 0) (d := 1) rfl)).trans hcvy83
            refine z_cV (As := [.int (zI (0)), .int (zI ((n : Int)))]) (rest := []) (ci := 12) C (c_X10_many l D A cs tt N ad _ i hN _ hgy101 _ hcvy95 0 n py99 hpy99 (by omega) (by omega)) (lt_A0 hN rfl) hay1 hgy101 rfl rfl mv_yX10_many q_1733 hd_yX10_many (by decide) (Nat.le_of_ble_eq_true rfl) (by decide) dX10_fall_82 rfl (kI0 fun vy102 gvy102 hvy102 => ?_)
            obtain ⟨rfl, rfl⟩ := hvy102
            have hFy103 : ∀ f, f ≠ 12 → f ≠ 15 → f ≠ 16 → Fvy83 f = F f := fun f n12 n15 n16 => ((hFvy83 f n15 n16).trans ((uZ_n _ _ n12).trans rfl))
            have hey104 : Fvy83 13 = F 13 := ((hFvy83 13 (by decide) (by decide)).trans (fn rfl (by decide)))
            have hey105 : Fvy83 14 = F 14 := ((hFvy83 14 (by decide) (by decide)).trans (fn rfl (by decide)))
            have hey106 : Fvy83 15 = Fvy83 15 := rfl
            have hey107 : Fvy83 16 = Fvy83 16 := rfl
            have hey108 : Fvy83 17 = F 17 := ((hFvy83 17 (by decide) (by decide)).trans (fn rfl (by decide)))
            have hey109 : Fvy83 18 = F 18 := ((hFvy83 18 (by decide) (by decide)).trans (fn rfl (by decide)))
            have hey110 : Fvy83 19 = F 19 := ((hFvy83 19 (by decide) (by decide)).trans (fn rfl (by decide)))
            have hey111 : Fvy83 20 = F 20 := ((hFvy83 20 (by decide) (by decide)).trans (fn rfl (by decide)))
            have hey112 : Fvy83 21 = F 21 := ((hFvy83 21 (by decide) (by decide)).trans (fn rfl (by decide)))
            have hey113 : Fvy83 23 = F 23 := ((hFvy83 23 (by decide) (by decide)).trans (fn rfl (by decide)))
            have hey114 : Fvy83 25 = F 25 := ((hFvy83 25 (by decide) (by decide)).trans (fn rfl (by decide)))
            have hey115 : Fvy83 27 = F 27 := ((hFvy83 27 (by decide) (by decide)).trans (fn rfl (by decide)))
            have hey116 : Fvy83 28 = F 28 := ((hFvy83 28 (by decide) (by decide)).trans (fn rfl (by decide)))
            have hey117 : Fvy83 29 = F 29 := ((hFvy83 29 (by decide) (by decide)).trans (fn rfl (by decide)))
            have hKy118 : okF Fvy83 := by unfold okF; omega
            have hMy119 : okMr cs ad gvy95 i (x + 1) Fvy83 rvy95 st op ai fa mu tb tp := okMr.upd hM hgy101 hKy118 (fun f a => hFy103 f (by omega) (by omega) (by omega)) hcvy95 (hAy97.mono (by omega)) (fun j a b => by
                exact Or.inl (by rw [hfvy95 _ (by omega)]; rw [hfvy83 _ (by omega) (by omega)]; rw [egy25, va_up_ne _ _ (by omega)]))
            have hkpy120 : Fvy83 13 = F 13 := ((hFvy83 13 (by decide) (by decide)).trans (fn rfl (by decide)))
            have hkpy121 : Fvy83 14 = F 14 := ((hFvy83 14 (by decide) (by decide)).trans (fn rfl (by decide)))
            have hkpy122 : Fvy83 17 = F 17 := ((hFvy83 17 (by decide) (by decide)).trans (fn rfl (by decide)))
            have hkpy123 : Fvy83 20 = F 20 := ((hFvy83 20 (by decide) (by decide)).trans (fn rfl (by decide)))
            have hkpy124 : Fvy83 21 = F 21 := ((hFvy83 21 (by decide) (by decide)).trans (fn rfl (by decide)))
            have hkpy125 : Fvy83 23 = F 23 := ((hFvy83 23 (by decide) (by decide)).trans (fn rfl (by decide)))
            have hkpy126 : Fvy83 24 = F 24 := ((hFvy83 24 (by decide) (by decide)).trans (fn rfl (by decide)))
            exact z_iret C hr hlk dX10_fall_85 (by decide) (by decide) ⟨rvy95 (py99), rfl, rfl, rfl, by omega, ⟨_, _, hMy119, ⟨hkpy120, hkpy121, hkpy122, hkpy123, hkpy124, hkpy125, hkpy126⟩⟩, fun j j1 => by rw [hfvy95 _ (by omega)]; rw [hfvy83 _ (by omega) (by omega)]; rw [egy25, va_up_ne _ _ (by omega)]⟩
          · refine z_aload_n C 0 dX10_fall_56 rfl ?_
            refine z_iconst (z := 1) C dX10_fall_57 rfl ?_
            have hgy127 := up_n egy25 ha11 (ne_o (i := i) (c := 11) (d := 0) rfl)
            refine z_cV (As := [.int (zI (1))]) (rest := []) (ci := 12) C (c_X10_refuses l D A cs tt N ad _ i hN _ hgy26 _ hgy127 (1) (by omega)) (lt_A0 hN rfl) hay1 hgy26 rfl rfl mv_yX10_refuses q_1866 hd_yX10_refuses (by decide) (Nat.le_of_ble_eq_true rfl) (by decide) dX10_fall_58 rfl (kI0 fun vy128 gvy128 hvy128 => ?_)
            obtain ⟨hrvy128, ⟨tvy128, hdvy128⟩, hfvy128⟩ := hvy128
            have hgy129 := (hfvy128 (i) (ne_o (i := i) (c := 0) (d := 11) rfl)).trans hgy26
            have hgy130 := (hfvy128 (i + 1) (ne_o (i := i) (c := 1) (d := 11) rfl)).trans hgy77
            have hFy131 : ∀ f, f ≠ 12 → (uZ F 12 (0)) f = F f := fun f n12 => ((uZ_n _ _ n12).trans rfl)
            have hey132 : (uZ F 12 (0)) 13 = F 13 := (fn rfl (by decide))
            have hey133 : (uZ F 12 (0)) 14 = F 14 := (fn rfl (by decide))
            have hey134 : (uZ F 12 (0)) 15 = F 15 := (fn rfl (by decide))
            have hey135 : (uZ F 12 (0)) 16 = F 16 := (fn rfl (by decide))
            have hey136 : (uZ F 12 (0)) 17 = F 17 := (fn rfl (by decide))
            have hey137 : (uZ F 12 (0)) 18 = F 18 := (fn rfl (by decide))
            have hey138 : (uZ F 12 (0)) 19 = F 19 := (fn rfl (by decide))
            have hey139 : (uZ F 12 (0)) 20 = F 20 := (fn rfl (by decide))
            have hey140 : (uZ F 12 (0)) 21 = F 21 := (fn rfl (by decide))
            have hey141 : (uZ F 12 (0)) 23 = F 23 := (fn rfl (by decide))
            have hey142 : (uZ F 12 (0)) 25 = F 25 := (fn rfl (by decide))
            have hey143 : (uZ F 12 (0)) 27 = F 27 := (fn rfl (by decide))
            have hey144 : (uZ F 12 (0)) 28 = F 28 := (fn rfl (by decide))
            have hey145 : (uZ F 12 (0)) 29 = F 29 := (fn rfl (by decide))
            have hKy146 : okF (uZ F 12 (0)) := okF.mv hM.2.1 hey132 hey133 hey134 hey135 hey136 hey137 hey138 hey139 hey140 hey141 hey142 hey143 hey144 hey145
            have hMy147 : okMr cs ad gvy128 i (x + 1) (uZ F 12 (0)) r st op ai fa mu tb tp := okMr.upd hM hgy129 hKy146 (fun f a => hFy131 f (by omega)) hgy130 (hA.mono (by omega)) (fun j a b => by
                by_cases e0 : j = i + 11
                · exact Or.inr ⟨11, _, e0, lsP.l (by decide), by rw [e0]; exact hdvy128⟩
                exact Or.inl (by rw [hfvy128 _ (by omega)]; rw [egy25, va_up_ne _ _ (by omega)]))
            have hkpy148 : (uZ F 12 (0)) 13 = F 13 := (fn rfl (by decide))
            have hkpy149 : (uZ F 12 (0)) 14 = F 14 := (fn rfl (by decide))
            have hkpy150 : (uZ F 12 (0)) 17 = F 17 := (fn rfl (by decide))
            have hkpy151 : (uZ F 12 (0)) 20 = F 20 := (fn rfl (by decide))
            have hkpy152 : (uZ F 12 (0)) 21 = F 21 := (fn rfl (by decide))
            have hkpy153 : (uZ F 12 (0)) 23 = F 23 := (fn rfl (by decide))
            have hkpy154 : (uZ F 12 (0)) 24 = F 24 := (fn rfl (by decide))
            exact z_iret C hr hlk dX10_fall_61 (by decide) (by decide) ⟨vy128, rfl, rfl, rfl, by omega, ⟨_, _, hMy147, ⟨hkpy148, hkpy149, hkpy150, hkpy151, hkpy152, hkpy153, hkpy154⟩⟩, fun j j1 => by rw [hfvy128 _ (by omega)]; rw [egy25, va_up_ne _ _ (by omega)]⟩
      · refine z_iload_n C 3 dX10_fall_33 rfl ?_
        refine z_iconst (z := 1) C dX10_fall_34 rfl ?_
        refine z_bipush (z := 50) C dX10_fall_35 (by decide) ?_
        refine z_cS (As := [.int (zI (z2)), .int (zI (1)), .int (zI (50))]) (rest := []) C (c_X10_within l D A cs tt N ad _ (z2) (by omega) (1) (by omega) (50) (by omega)) ms_yX10_within q_1686 hd_yX10_within (by decide) (Nat.le_of_ble_eq_true rfl) (by decide) dX10_fall_37 rfl (kI0 fun vy155 gvy155 hvy155 => ?_)
        obtain ⟨hvy155, rfl⟩ := hvy155
        rcases hvy155 with ⟨rfl, hxvy155⟩ | ⟨rfl, hxvy155⟩
        · refine z_if_eq (tgt := 56) C dX10_fall_40 (by decide) (by omega) (fun h => absurd h (by omega)) (fun _ => ?_)
          refine z_iload_n C 2 dX10_fall_43 rfl ?_
          refine z_iconst (z := 3) C dX10_fall_44 rfl ?_
          refine z_icmp_ne (tgt := 62) C dX10_fall_45 (by decide) (by omega) (by omega) (fun hby156 => ?_) (fun hby156 => ?_)
          · refine z_aload_n C 0 dX10_fall_62 rfl ?_
            have hgy157 := up_n egy25 ha1 (ne_o (i := i) (c := 1) (d := 0) rfl)
            have hey159 : (uZ F 12 (0)) 15 = F 15 := (fn rfl (by decide))
            have hey160 : (uZ F 12 (0)) 16 = F 16 := (fn rfl (by decide))
            refine z_cV (As := []) (rest := []) (ci := 12) C (c_X10_keeps l D A cs tt N ad _ i hN _ hgy26 _ hgy157 (x) hA (by omega) (by omega)) (lt_A0 hN rfl) hay1 hgy26 rfl rfl mv_yX10_keeps q_1870 hd_yX10_keeps (by decide) (Nat.le_of_ble_eq_true rfl) (by decide) dX10_fall_63 rfl (kV0 fun gvy158 hvy158 => ?_)
            obtain ⟨⟨Fvy158, hcvy158, hbvy158, hFvy158⟩, ⟨rvy158, hdvy158, hAvy158, hyvy158⟩, hfvy158⟩ := hvy158
            have hk0vy158 : rvy158 0 = r 0 := hyvy158 0 (by omega)
            have hk1vy158 : rvy158 1 = r 1 := hyvy158 1 (by omega)
            have hk5vy158 : rvy158 5 = r 5 := hyvy158 5 (by omega)
            obtain ⟨⟨hsyy161, htyy161, hnyy161, hpyy161⟩, hlyy161⟩ := okA.at0 hAvy158
            simp only [Nat.zero_add] at hsyy161 hnyy161 hpyy161
            have hmn : ∀ s, s < 4 → 0 ≤ rvy158 (6 + 86 * s) ∧ rvy158 (6 + 86 * s) ≤ 12 := fun s hs => (hsyy161 s hs).1
            have h5 : 0 ≤ rvy158 5 ∧ rvy158 5 ≤ 6 := hpyy161
            refine z_aload_n C 0 dX10_fall_66 rfl ?_
            refine z_iconst (z := 0) C dX10_fall_67 rfl ?_
            refine z_iload_n C 1 dX10_fall_68 rfl ?_
            refine z_iload_n C 2 dX10_fall_69 rfl ?_
            refine z_iload_n C 3 dX10_fall_70 rfl ?_
            refine z_aload_n C 0 dX10_fall_71 rfl ?_
            refine z_iconst (z := 0) C dX10_fall_72 rfl ?_
            have hey163 : Fvy158 14 = F 14 := ((hFvy158 14 (by decide) (by decide)).trans (fn rfl (by decide)))
            have hey164 : Fvy158 25 = F 25 := ((hFvy158 25 (by decide) (by decide)).trans (fn rfl (by decide)))
            have hgy165 := up_n egy25 ha4 (ne_o (i := i) (c := 4) (d := 0) rfl)
            have hgy166 := (hfvy158 (i + 4) (ne_o (i := i) (c := 4) (d := 0) rfl) (ne_o (i := i) (c := 4) (d := 1) rfl)).trans hgy165
            refine z_cV (As := [.int (zI (0))]) (rest := [.int (zI (z2)), .int (zI (z1)), .int (zI ((n : Int))), .int (zI (0)), .ref (ad i)]) (ci := 12) C (c_X10_airOf l D A cs tt N ad _ i hN _ hcvy158 _ hdvy158 _ hgy166 0 (by omega) (by omega) (by omega) (by omega) hai) (lt_A0 hN rfl) hay1 hcvy158 rfl rfl mv_yX10_airOf q_1827 hd_yX10_airOf (by decide) (Nat.le_of_ble_eq_true rfl) (by decide) dX10_fall_73 rfl (kI0 fun vy162 gvy162 hvy162 => ?_)
            obtain ⟨hvy162, rfl⟩ := hvy162
            obtain ⟨py167, hpy167⟩ : ∃ p9 : Nat, 0 + 6 + 86 * n = p9 := ⟨_, rfl⟩
            have hSy168 := ((okA.at0 hAvy158).1.1 n (by omega)).of (p2 := py167) (by omega)
            obtain ⟨b1hSy168, b2hSy168, b3hSy168, b4hSy168⟩ := mBb (t := rvy158 0 + x) (by omega)
            have hmky169 := hSy168.1
            have hcy170n := (okA.at0 hAvy158).1.2.2.1
            have hcy170t := (okA.at0 hAvy158).1.2.1
            have hwy172 : rvy158 (0 + 1) = r (0 + 1) := (hyvy158 _ (by omega)).trans (rfl)
            refine z_cV (As := [.int (zI (0)), .int (zI ((n : Int))), .int (zI (z1)), .int (zI (z2)), .int (zI (vy162))]) (rest := []) (ci := 12) C (c_X10_drops l D A cs tt N ad _ i hN _ hcvy158 _ hdvy158  0 n py167 hpy167 (by omega) (by omega) (by omega) (mB (rvy158 0 + x)) (eB (rvy158 0 + x)) (by omega) (by omega) hSy168 (by omega) (by omega) (z1) (by omega) (z2) (by omega) (vy162) (by omega)) (lt_A0 hN rfl) hay1 hcvy158 rfl rfl mv_yX10_drops q_1893 hd_yX10_drops (by decide) (Nat.le_of_ble_eq_true rfl) (by decide) dX10_fall_76 rfl (kV0 fun gvy171 hvy171 => ?_)
            obtain ⟨⟨rvy171, hcvy171, hovy171, hnvy171, hyvy171⟩, hfvy171⟩ := hvy171
            have hkvy171 := hovy171.1
            have hcy1700 : rvy171 0 = rvy158 0 := (hyvy171 0 (by omega) (by omega))
            have hcy1705 : rvy171 (0 + 5) = rvy158 (0 + 5) := (hyvy171 (0 + 5) (by omega) (by omega))
            have hcy1706 := (okA.at0 hAvy158).1.2.2.2
            have hcy170 : okW rvy171 0 (x + 1) := okW.slope (okA.at0 hAvy158).1 (s := n) (p := py167) (by omega) (by omega) (hovy171.mono (by omega) (by omega)) hnvy171 hcy1700 (by omega) (fun j a1 a2 a3 => (hyvy171 j (by omega) (by omega)))
            have hAy173 : okA rvy171 (x + 1) := okA.first hAvy158 (by omega) (fun j a => (hyvy171 j (by omega) (by omega))) hcy170 (by omega)
            obtain ⟨⟨hsyy174, htyy174, hnyy174, hpyy174⟩, hlyy174⟩ := okA.at0 hAy173
            simp only [Nat.zero_add] at hsyy174 hnyy174 hpyy174
            have hmn : ∀ s, s < 4 → 0 ≤ rvy171 (6 + 86 * s) ∧ rvy171 (6 + 86 * s) ≤ 12 := fun s hs => (hsyy174 s hs).1
            have h5 : 0 ≤ rvy171 5 ∧ rvy171 5 ≤ 6 := hpyy174
            refine z_aload_n C 0 dX10_fall_79 rfl ?_
            refine z_iconst (z := 0) C dX10_fall_80 rfl ?_
            refine z_iload_n C 1 dX10_fall_81 rfl ?_
            obtain ⟨py175, hpy175⟩ : ∃ p9 : Nat, 0 + 6 + 86 * n = p9 := ⟨_, rfl⟩
            have hmyy176 := ((okA.at0 hAy173).1.1 n (by omega)).1
            rw [hpy175] at hmyy176
            have hgy177 := (hfvy171 (i) (ne_o (i := i) (c := 0) (d := 1) rfl)).trans hcvy158
            refine z_cV (As := [.int (zI (0)), .int (zI ((n : Int)))]) (rest := []) (ci := 12) C (c_X10_many l D A cs tt N ad _ i hN _ hgy177 _ hcvy171 0 n py175 hpy175 (by omega) (by omega)) (lt_A0 hN rfl) hay1 hgy177 rfl rfl mv_yX10_many q_1733 hd_yX10_many (by decide) (Nat.le_of_ble_eq_true rfl) (by decide) dX10_fall_82 rfl (kI0 fun vy178 gvy178 hvy178 => ?_)
            obtain ⟨rfl, rfl⟩ := hvy178
            have hFy179 : ∀ f, f ≠ 12 → f ≠ 15 → f ≠ 16 → Fvy158 f = F f := fun f n12 n15 n16 => ((hFvy158 f n15 n16).trans ((uZ_n _ _ n12).trans rfl))
            have hey180 : Fvy158 13 = F 13 := ((hFvy158 13 (by decide) (by decide)).trans (fn rfl (by decide)))
            have hey181 : Fvy158 14 = F 14 := ((hFvy158 14 (by decide) (by decide)).trans (fn rfl (by decide)))
            have hey182 : Fvy158 15 = Fvy158 15 := rfl
            have hey183 : Fvy158 16 = Fvy158 16 := rfl
            have hey184 : Fvy158 17 = F 17 := ((hFvy158 17 (by decide) (by decide)).trans (fn rfl (by decide)))
            have hey185 : Fvy158 18 = F 18 := ((hFvy158 18 (by decide) (by decide)).trans (fn rfl (by decide)))
            have hey186 : Fvy158 19 = F 19 := ((hFvy158 19 (by decide) (by decide)).trans (fn rfl (by decide)))
            have hey187 : Fvy158 20 = F 20 := ((hFvy158 20 (by decide) (by decide)).trans (fn rfl (by decide)))
            have hey188 : Fvy158 21 = F 21 := ((hFvy158 21 (by decide) (by decide)).trans (fn rfl (by decide)))
            have hey189 : Fvy158 23 = F 23 := ((hFvy158 23 (by decide) (by decide)).trans (fn rfl (by decide)))
            have hey190 : Fvy158 25 = F 25 := ((hFvy158 25 (by decide) (by decide)).trans (fn rfl (by decide)))
            have hey191 : Fvy158 27 = F 27 := ((hFvy158 27 (by decide) (by decide)).trans (fn rfl (by decide)))
            have hey192 : Fvy158 28 = F 28 := ((hFvy158 28 (by decide) (by decide)).trans (fn rfl (by decide)))
            have hey193 : Fvy158 29 = F 29 := ((hFvy158 29 (by decide) (by decide)).trans (fn rfl (by decide)))
            have hKy194 : okF Fvy158 := by unfold okF; omega
            have hMy195 : okMr cs ad gvy171 i (x + 1) Fvy158 rvy171 st op ai fa mu tb tp := okMr.upd hM hgy177 hKy194 (fun f a => hFy179 f (by omega) (by omega) (by omega)) hcvy171 (hAy173.mono (by omega)) (fun j a b => by
                exact Or.inl (by rw [hfvy171 _ (by omega)]; rw [hfvy158 _ (by omega) (by omega)]; rw [egy25, va_up_ne _ _ (by omega)]))
            have hkpy196 : Fvy158 13 = F 13 := ((hFvy158 13 (by decide) (by decide)).trans (fn rfl (by decide)))
            have hkpy197 : Fvy158 14 = F 14 := ((hFvy158 14 (by decide) (by decide)).trans (fn rfl (by decide)))
            have hkpy198 : Fvy158 17 = F 17 := ((hFvy158 17 (by decide) (by decide)).trans (fn rfl (by decide)))
            have hkpy199 : Fvy158 20 = F 20 := ((hFvy158 20 (by decide) (by decide)).trans (fn rfl (by decide)))
            have hkpy200 : Fvy158 21 = F 21 := ((hFvy158 21 (by decide) (by decide)).trans (fn rfl (by decide)))
            have hkpy201 : Fvy158 23 = F 23 := ((hFvy158 23 (by decide) (by decide)).trans (fn rfl (by decide)))
            have hkpy202 : Fvy158 24 = F 24 := ((hFvy158 24 (by decide) (by decide)).trans (fn rfl (by decide)))
            exact z_iret C hr hlk dX10_fall_85 (by decide) (by decide) ⟨rvy171 (py175), rfl, rfl, rfl, by omega, ⟨_, _, hMy195, ⟨hkpy196, hkpy197, hkpy198, hkpy199, hkpy200, hkpy201, hkpy202⟩⟩, fun j j1 => by rw [hfvy171 _ (by omega)]; rw [hfvy158 _ (by omega) (by omega)]; rw [egy25, va_up_ne _ _ (by omega)]⟩
          · refine z_aload_n C 0 dX10_fall_48 rfl ?_
            refine z_iconst (z := 0) C dX10_fall_49 rfl ?_
            have hgy203 := up_n egy25 ha1 (ne_o (i := i) (c := 1) (d := 0) rfl)
            have hey205 : (uZ F 12 (0)) 14 = F 14 := (fn rfl (by decide))
            have hey206 : (uZ F 12 (0)) 25 = F 25 := (fn rfl (by decide))
            have hgy207 := up_n egy25 ha4 (ne_o (i := i) (c := 4) (d := 0) rfl)
            refine z_cV (As := [.int (zI (0))]) (rest := []) (ci := 12) C (c_X10_airOf l D A cs tt N ad _ i hN _ hgy26 _ hgy203 _ hgy207 0 (by omega) (by omega) (by omega) (by omega) hai) (lt_A0 hN rfl) hay1 hgy26 rfl rfl mv_yX10_airOf q_1827 hd_yX10_airOf (by decide) (Nat.le_of_ble_eq_true rfl) (by decide) dX10_fall_50 rfl (kI0 fun vy204 gvy204 hvy204 => ?_)
            obtain ⟨hvy204, rfl⟩ := hvy204
            refine z_if_lt (tgt := 62) C dX10_fall_53 (by decide) (by omega) (fun hby208 => ?_) (fun hby208 => ?_)
            · refine z_aload_n C 0 dX10_fall_62 rfl ?_
              have hey210 : (uZ F 12 (0)) 15 = F 15 := (fn rfl (by decide))
              have hey211 : (uZ F 12 (0)) 16 = F 16 := (fn rfl (by decide))
              refine z_cV (As := []) (rest := []) (ci := 12) C (c_X10_keeps l D A cs tt N ad _ i hN _ hgy26 _ hgy203 (x) hA (by omega) (by omega)) (lt_A0 hN rfl) hay1 hgy26 rfl rfl mv_yX10_keeps q_1870 hd_yX10_keeps (by decide) (Nat.le_of_ble_eq_true rfl) (by decide) dX10_fall_63 rfl (kV0 fun gvy209 hvy209 => ?_)
              obtain ⟨⟨Fvy209, hcvy209, hbvy209, hFvy209⟩, ⟨rvy209, hdvy209, hAvy209, hyvy209⟩, hfvy209⟩ := hvy209
              have hk0vy209 : rvy209 0 = r 0 := hyvy209 0 (by omega)
              have hk1vy209 : rvy209 1 = r 1 := hyvy209 1 (by omega)
              have hk5vy209 : rvy209 5 = r 5 := hyvy209 5 (by omega)
              obtain ⟨⟨hsyy212, htyy212, hnyy212, hpyy212⟩, hlyy212⟩ := okA.at0 hAvy209
              simp only [Nat.zero_add] at hsyy212 hnyy212 hpyy212
              have hmn : ∀ s, s < 4 → 0 ≤ rvy209 (6 + 86 * s) ∧ rvy209 (6 + 86 * s) ≤ 12 := fun s hs => (hsyy212 s hs).1
              have h5 : 0 ≤ rvy209 5 ∧ rvy209 5 ≤ 6 := hpyy212
              refine z_aload_n C 0 dX10_fall_66 rfl ?_
              refine z_iconst (z := 0) C dX10_fall_67 rfl ?_
              refine z_iload_n C 1 dX10_fall_68 rfl ?_
              refine z_iload_n C 2 dX10_fall_69 rfl ?_
              refine z_iload_n C 3 dX10_fall_70 rfl ?_
              refine z_aload_n C 0 dX10_fall_71 rfl ?_
              refine z_iconst (z := 0) C dX10_fall_72 rfl ?_
              have hey214 : Fvy209 14 = F 14 := ((hFvy209 14 (by decide) (by decide)).trans (fn rfl (by decide)))
              have hey215 : Fvy209 25 = F 25 := ((hFvy209 25 (by decide) (by decide)).trans (fn rfl (by decide)))
              have hgy216 := (hfvy209 (i + 4) (ne_o (i := i) (c := 4) (d := 0) rfl) (ne_o (i := i) (c := 4) (d := 1) rfl)).trans hgy207
              refine z_cV (As := [.int (zI (0))]) (rest := [.int (zI (z2)), .int (zI (z1)), .int (zI ((n : Int))), .int (zI (0)), .ref (ad i)]) (ci := 12) C (c_X10_airOf l D A cs tt N ad _ i hN _ hcvy209 _ hdvy209 _ hgy216 0 (by omega) (by omega) (by omega) (by omega) hai) (lt_A0 hN rfl) hay1 hcvy209 rfl rfl mv_yX10_airOf q_1827 hd_yX10_airOf (by decide) (Nat.le_of_ble_eq_true rfl) (by decide) dX10_fall_73 rfl (kI0 fun vy213 gvy213 hvy213 => ?_)
              obtain ⟨hvy213, rfl⟩ := hvy213
              obtain ⟨py217, hpy217⟩ : ∃ p9 : Nat, 0 + 6 + 86 * n = p9 := ⟨_, rfl⟩
              have hSy218 := ((okA.at0 hAvy209).1.1 n (by omega)).of (p2 := py217) (by omega)
              obtain ⟨b1hSy218, b2hSy218, b3hSy218, b4hSy218⟩ := mBb (t := rvy209 0 + x) (by omega)
              have hmky219 := hSy218.1
              have hcy220n := (okA.at0 hAvy209).1.2.2.1
              have hcy220t := (okA.at0 hAvy209).1.2.1
              have hwy222 : rvy209 (0 + 1) = r (0 + 1) := (hyvy209 _ (by omega)).trans (rfl)
              refine z_cV (As := [.int (zI (0)), .int (zI ((n : Int))), .int (zI (z1)), .int (zI (z2)), .int (zI (vy213))]) (rest := []) (ci := 12) C (c_X10_drops l D A cs tt N ad _ i hN _ hcvy209 _ hdvy209  0 n py217 hpy217 (by omega) (by omega) (by omega) (mB (rvy209 0 + x)) (eB (rvy209 0 + x)) (by omega) (by omega) hSy218 (by omega) (by omega) (z1) (by omega) (z2) (by omega) (vy213) (by omega)) (lt_A0 hN rfl) hay1 hcvy209 rfl rfl mv_yX10_drops q_1893 hd_yX10_drops (by decide) (Nat.le_of_ble_eq_true rfl) (by decide) dX10_fall_76 rfl (kV0 fun gvy221 hvy221 => ?_)
              obtain ⟨⟨rvy221, hcvy221, hovy221, hnvy221, hyvy221⟩, hfvy221⟩ := hvy221
              have hkvy221 := hovy221.1
              have hcy2200 : rvy221 0 = rvy209 0 := (hyvy221 0 (by omega) (by omega))
              have hcy2205 : rvy221 (0 + 5) = rvy209 (0 + 5) := (hyvy221 (0 + 5) (by omega) (by omega))
              have hcy2206 := (okA.at0 hAvy209).1.2.2.2
              have hcy220 : okW rvy221 0 (x + 1) := okW.slope (okA.at0 hAvy209).1 (s := n) (p := py217) (by omega) (by omega) (hovy221.mono (by omega) (by omega)) hnvy221 hcy2200 (by omega) (fun j a1 a2 a3 => (hyvy221 j (by omega) (by omega)))
              have hAy223 : okA rvy221 (x + 1) := okA.first hAvy209 (by omega) (fun j a => (hyvy221 j (by omega) (by omega))) hcy220 (by omega)
              obtain ⟨⟨hsyy224, htyy224, hnyy224, hpyy224⟩, hlyy224⟩ := okA.at0 hAy223
              simp only [Nat.zero_add] at hsyy224 hnyy224 hpyy224
              have hmn : ∀ s, s < 4 → 0 ≤ rvy221 (6 + 86 * s) ∧ rvy221 (6 + 86 * s) ≤ 12 := fun s hs => (hsyy224 s hs).1
              have h5 : 0 ≤ rvy221 5 ∧ rvy221 5 ≤ 6 := hpyy224
              refine z_aload_n C 0 dX10_fall_79 rfl ?_
              refine z_iconst (z := 0) C dX10_fall_80 rfl ?_
              refine z_iload_n C 1 dX10_fall_81 rfl ?_
              obtain ⟨py225, hpy225⟩ : ∃ p9 : Nat, 0 + 6 + 86 * n = p9 := ⟨_, rfl⟩
              have hmyy226 := ((okA.at0 hAy223).1.1 n (by omega)).1
              rw [hpy225] at hmyy226
              have hgy227 := (hfvy221 (i) (ne_o (i := i) (c := 0) (d := 1) rfl)).trans hcvy209
              refine z_cV (As := [.int (zI (0)), .int (zI ((n : Int)))]) (rest := []) (ci := 12) C (c_X10_many l D A cs tt N ad _ i hN _ hgy227 _ hcvy221 0 n py225 hpy225 (by omega) (by omega)) (lt_A0 hN rfl) hay1 hgy227 rfl rfl mv_yX10_many q_1733 hd_yX10_many (by decide) (Nat.le_of_ble_eq_true rfl) (by decide) dX10_fall_82 rfl (kI0 fun vy228 gvy228 hvy228 => ?_)
              obtain ⟨rfl, rfl⟩ := hvy228
              have hFy229 : ∀ f, f ≠ 12 → f ≠ 15 → f ≠ 16 → Fvy209 f = F f := fun f n12 n15 n16 => ((hFvy209 f n15 n16).trans ((uZ_n _ _ n12).trans rfl))
              have hey230 : Fvy209 13 = F 13 := ((hFvy209 13 (by decide) (by decide)).trans (fn rfl (by decide)))
              have hey231 : Fvy209 14 = F 14 := ((hFvy209 14 (by decide) (by decide)).trans (fn rfl (by decide)))
              have hey232 : Fvy209 15 = Fvy209 15 := rfl
              have hey233 : Fvy209 16 = Fvy209 16 := rfl
              have hey234 : Fvy209 17 = F 17 := ((hFvy209 17 (by decide) (by decide)).trans (fn rfl (by decide)))
              have hey235 : Fvy209 18 = F 18 := ((hFvy209 18 (by decide) (by decide)).trans (fn rfl (by decide)))
              have hey236 : Fvy209 19 = F 19 := ((hFvy209 19 (by decide) (by decide)).trans (fn rfl (by decide)))
              have hey237 : Fvy209 20 = F 20 := ((hFvy209 20 (by decide) (by decide)).trans (fn rfl (by decide)))
              have hey238 : Fvy209 21 = F 21 := ((hFvy209 21 (by decide) (by decide)).trans (fn rfl (by decide)))
              have hey239 : Fvy209 23 = F 23 := ((hFvy209 23 (by decide) (by decide)).trans (fn rfl (by decide)))
              have hey240 : Fvy209 25 = F 25 := ((hFvy209 25 (by decide) (by decide)).trans (fn rfl (by decide)))
              have hey241 : Fvy209 27 = F 27 := ((hFvy209 27 (by decide) (by decide)).trans (fn rfl (by decide)))
              have hey242 : Fvy209 28 = F 28 := ((hFvy209 28 (by decide) (by decide)).trans (fn rfl (by decide)))
              have hey243 : Fvy209 29 = F 29 := ((hFvy209 29 (by decide) (by decide)).trans (fn rfl (by decide)))
              have hKy244 : okF Fvy209 := by unfold okF; omega
              have hMy245 : okMr cs ad gvy221 i (x + 1) Fvy209 rvy221 st op ai fa mu tb tp := okMr.upd hM hgy227 hKy244 (fun f a => hFy229 f (by omega) (by omega) (by omega)) hcvy221 (hAy223.mono (by omega)) (fun j a b => by
                  exact Or.inl (by rw [hfvy221 _ (by omega)]; rw [hfvy209 _ (by omega) (by omega)]; rw [egy25, va_up_ne _ _ (by omega)]))
              have hkpy246 : Fvy209 13 = F 13 := ((hFvy209 13 (by decide) (by decide)).trans (fn rfl (by decide)))
              have hkpy247 : Fvy209 14 = F 14 := ((hFvy209 14 (by decide) (by decide)).trans (fn rfl (by decide)))
              have hkpy248 : Fvy209 17 = F 17 := ((hFvy209 17 (by decide) (by decide)).trans (fn rfl (by decide)))
              have hkpy249 : Fvy209 20 = F 20 := ((hFvy209 20 (by decide) (by decide)).trans (fn rfl (by decide)))
              have hkpy250 : Fvy209 21 = F 21 := ((hFvy209 21 (by decide) (by decide)).trans (fn rfl (by decide)))
              have hkpy251 : Fvy209 23 = F 23 := ((hFvy209 23 (by decide) (by decide)).trans (fn rfl (by decide)))
              have hkpy252 : Fvy209 24 = F 24 := ((hFvy209 24 (by decide) (by decide)).trans (fn rfl (by decide)))
              exact z_iret C hr hlk dX10_fall_85 (by decide) (by decide) ⟨rvy221 (py225), rfl, rfl, rfl, by omega, ⟨_, _, hMy245, ⟨hkpy246, hkpy247, hkpy248, hkpy249, hkpy250, hkpy251, hkpy252⟩⟩, fun j j1 => by rw [hfvy221 _ (by omega)]; rw [hfvy209 _ (by omega) (by omega)]; rw [egy25, va_up_ne _ _ (by omega)]⟩
            · refine z_aload_n C 0 dX10_fall_56 rfl ?_
              refine z_iconst (z := 1) C dX10_fall_57 rfl ?_
              have hgy253 := up_n egy25 ha11 (ne_o (i := i) (c := 11) (d := 0) rfl)
              refine z_cV (As := [.int (zI (1))]) (rest := []) (ci := 12) C (c_X10_refuses l D A cs tt N ad _ i hN _ hgy26 _ hgy253 (1) (by omega)) (lt_A0 hN rfl) hay1 hgy26 rfl rfl mv_yX10_refuses q_1866 hd_yX10_refuses (by decide) (Nat.le_of_ble_eq_true rfl) (by decide) dX10_fall_58 rfl (kI0 fun vy254 gvy254 hvy254 => ?_)
              obtain ⟨hrvy254, ⟨tvy254, hdvy254⟩, hfvy254⟩ := hvy254
              have hgy255 := (hfvy254 (i) (ne_o (i := i) (c := 0) (d := 11) rfl)).trans hgy26
              have hgy256 := (hfvy254 (i + 1) (ne_o (i := i) (c := 1) (d := 11) rfl)).trans hgy203
              have hFy257 : ∀ f, f ≠ 12 → (uZ F 12 (0)) f = F f := fun f n12 => ((uZ_n _ _ n12).trans rfl)
              have hey258 : (uZ F 12 (0)) 13 = F 13 := (fn rfl (by decide))
              have hey259 : (uZ F 12 (0)) 14 = F 14 := (fn rfl (by decide))
              have hey260 : (uZ F 12 (0)) 15 = F 15 := (fn rfl (by decide))
              have hey261 : (uZ F 12 (0)) 16 = F 16 := (fn rfl (by decide))
              have hey262 : (uZ F 12 (0)) 17 = F 17 := (fn rfl (by decide))
              have hey263 : (uZ F 12 (0)) 18 = F 18 := (fn rfl (by decide))
              have hey264 : (uZ F 12 (0)) 19 = F 19 := (fn rfl (by decide))
              have hey265 : (uZ F 12 (0)) 20 = F 20 := (fn rfl (by decide))
              have hey266 : (uZ F 12 (0)) 21 = F 21 := (fn rfl (by decide))
              have hey267 : (uZ F 12 (0)) 23 = F 23 := (fn rfl (by decide))
              have hey268 : (uZ F 12 (0)) 25 = F 25 := (fn rfl (by decide))
              have hey269 : (uZ F 12 (0)) 27 = F 27 := (fn rfl (by decide))
              have hey270 : (uZ F 12 (0)) 28 = F 28 := (fn rfl (by decide))
              have hey271 : (uZ F 12 (0)) 29 = F 29 := (fn rfl (by decide))
              have hKy272 : okF (uZ F 12 (0)) := okF.mv hM.2.1 hey258 hey259 hey260 hey261 hey262 hey263 hey264 hey265 hey266 hey267 hey268 hey269 hey270 hey271
              have hMy273 : okMr cs ad gvy254 i (x + 1) (uZ F 12 (0)) r st op ai fa mu tb tp := okMr.upd hM hgy255 hKy272 (fun f a => hFy257 f (by omega)) hgy256 (hA.mono (by omega)) (fun j a b => by
                  by_cases e0 : j = i + 11
                  · exact Or.inr ⟨11, _, e0, lsP.l (by decide), by rw [e0]; exact hdvy254⟩
                  exact Or.inl (by rw [hfvy254 _ (by omega)]; rw [egy25, va_up_ne _ _ (by omega)]))
              have hkpy274 : (uZ F 12 (0)) 13 = F 13 := (fn rfl (by decide))
              have hkpy275 : (uZ F 12 (0)) 14 = F 14 := (fn rfl (by decide))
              have hkpy276 : (uZ F 12 (0)) 17 = F 17 := (fn rfl (by decide))
              have hkpy277 : (uZ F 12 (0)) 20 = F 20 := (fn rfl (by decide))
              have hkpy278 : (uZ F 12 (0)) 21 = F 21 := (fn rfl (by decide))
              have hkpy279 : (uZ F 12 (0)) 23 = F 23 := (fn rfl (by decide))
              have hkpy280 : (uZ F 12 (0)) 24 = F 24 := (fn rfl (by decide))
              exact z_iret C hr hlk dX10_fall_61 (by decide) (by decide) ⟨vy254, rfl, rfl, rfl, by omega, ⟨_, _, hMy273, ⟨hkpy274, hkpy275, hkpy276, hkpy277, hkpy278, hkpy279, hkpy280⟩⟩, fun j j1 => by rw [hfvy254 _ (by omega)]; rw [egy25, va_up_ne _ _ (by omega)]⟩
        · refine z_if_eq (tgt := 56) C dX10_fall_40 (by decide) (by omega) (fun _ => ?_) (fun h => absurd h (by omega))
          refine z_aload_n C 0 dX10_fall_56 rfl ?_
          refine z_iconst (z := 1) C dX10_fall_57 rfl ?_
          have hgy281 := up_n egy25 ha11 (ne_o (i := i) (c := 11) (d := 0) rfl)
          refine z_cV (As := [.int (zI (1))]) (rest := []) (ci := 12) C (c_X10_refuses l D A cs tt N ad _ i hN _ hgy26 _ hgy281 (1) (by omega)) (lt_A0 hN rfl) hay1 hgy26 rfl rfl mv_yX10_refuses q_1866 hd_yX10_refuses (by decide) (Nat.le_of_ble_eq_true rfl) (by decide) dX10_fall_58 rfl (kI0 fun vy282 gvy282 hvy282 => ?_)
          obtain ⟨hrvy282, ⟨tvy282, hdvy282⟩, hfvy282⟩ := hvy282
          have hgy283 := (hfvy282 (i) (ne_o (i := i) (c := 0) (d := 11) rfl)).trans hgy26
          have hgy284 := up_n egy25 ha1 (ne_o (i := i) (c := 1) (d := 0) rfl)
          have hgy285 := (hfvy282 (i + 1) (ne_o (i := i) (c := 1) (d := 11) rfl)).trans hgy284
          have hFy286 : ∀ f, f ≠ 12 → (uZ F 12 (0)) f = F f := fun f n12 => ((uZ_n _ _ n12).trans rfl)
          have hey287 : (uZ F 12 (0)) 13 = F 13 := (fn rfl (by decide))
          have hey288 : (uZ F 12 (0)) 14 = F 14 := (fn rfl (by decide))
          have hey289 : (uZ F 12 (0)) 15 = F 15 := (fn rfl (by decide))
          have hey290 : (uZ F 12 (0)) 16 = F 16 := (fn rfl (by decide))
          have hey291 : (uZ F 12 (0)) 17 = F 17 := (fn rfl (by decide))
          have hey292 : (uZ F 12 (0)) 18 = F 18 := (fn rfl (by decide))
          have hey293 : (uZ F 12 (0)) 19 = F 19 := (fn rfl (by decide))
          have hey294 : (uZ F 12 (0)) 20 = F 20 := (fn rfl (by decide))
          have hey295 : (uZ F 12 (0)) 21 = F 21 := (fn rfl (by decide))
          have hey296 : (uZ F 12 (0)) 23 = F 23 := (fn rfl (by decide))
          have hey297 : (uZ F 12 (0)) 25 = F 25 := (fn rfl (by decide))
          have hey298 : (uZ F 12 (0)) 27 = F 27 := (fn rfl (by decide))
          have hey299 : (uZ F 12 (0)) 28 = F 28 := (fn rfl (by decide))
          have hey300 : (uZ F 12 (0)) 29 = F 29 := (fn rfl (by decide))
          have hKy301 : okF (uZ F 12 (0)) := okF.mv hM.2.1 hey287 hey288 hey289 hey290 hey291 hey292 hey293 hey294 hey295 hey296 hey297 hey298 hey299 hey300
          have hMy302 : okMr cs ad gvy282 i (x + 1) (uZ F 12 (0)) r st op ai fa mu tb tp := okMr.upd hM hgy283 hKy301 (fun f a => hFy286 f (by omega)) hgy285 (hA.mono (by omega)) (fun j a b => by
              by_cases e0 : j = i + 11
              · exact Or.inr ⟨11, _, e0, lsP.l (by decide), by rw [e0]; exact hdvy282⟩
              exact Or.inl (by rw [hfvy282 _ (by omega)]; rw [egy25, va_up_ne _ _ (by omega)]))
          have hkpy303 : (uZ F 12 (0)) 13 = F 13 := (fn rfl (by decide))
          have hkpy304 : (uZ F 12 (0)) 14 = F 14 := (fn rfl (by decide))
          have hkpy305 : (uZ F 12 (0)) 17 = F 17 := (fn rfl (by decide))
          have hkpy306 : (uZ F 12 (0)) 20 = F 20 := (fn rfl (by decide))
          have hkpy307 : (uZ F 12 (0)) 21 = F 21 := (fn rfl (by decide))
          have hkpy308 : (uZ F 12 (0)) 23 = F 23 := (fn rfl (by decide))
          have hkpy309 : (uZ F 12 (0)) 24 = F 24 := (fn rfl (by decide))
          exact z_iret C hr hlk dX10_fall_61 (by decide) (by decide) ⟨vy282, rfl, rfl, rfl, by omega, ⟨_, _, hMy302, ⟨hkpy303, hkpy304, hkpy305, hkpy306, hkpy307, hkpy308, hkpy309⟩⟩, fun j j1 => by rw [hfvy282 _ (by omega)]; rw [egy25, va_up_ne _ _ (by omega)]⟩
    · refine z_if_eq (tgt := 56) C dX10_fall_25 (by decide) (by omega) (fun _ => ?_) (fun h => absurd h (by omega))
      refine z_aload_n C 0 dX10_fall_56 rfl ?_
      refine z_iconst (z := 1) C dX10_fall_57 rfl ?_
      have hgy310 := up_n egy25 ha11 (ne_o (i := i) (c := 11) (d := 0) rfl)
      refine z_cV (As := [.int (zI (1))]) (rest := []) (ci := 12) C (c_X10_refuses l D A cs tt N ad _ i hN _ hgy26 _ hgy310 (1) (by omega)) (lt_A0 hN rfl) hay1 hgy26 rfl rfl mv_yX10_refuses q_1866 hd_yX10_refuses (by decide) (Nat.le_of_ble_eq_true rfl) (by decide) dX10_fall_58 rfl (kI0 fun vy311 gvy311 hvy311 => ?_)
      obtain ⟨hrvy311, ⟨tvy311, hdvy311⟩, hfvy311⟩ := hvy311
      have hgy312 := (hfvy311 (i) (ne_o (i := i) (c := 0) (d := 11) rfl)).trans hgy26
      have hgy313 := up_n egy25 ha1 (ne_o (i := i) (c := 1) (d := 0) rfl)
      have hgy314 := (hfvy311 (i + 1) (ne_o (i := i) (c := 1) (d := 11) rfl)).trans hgy313
      have hFy315 : ∀ f, f ≠ 12 → (uZ F 12 (0)) f = F f := fun f n12 => ((uZ_n _ _ n12).trans rfl)
      have hey316 : (uZ F 12 (0)) 13 = F 13 := (fn rfl (by decide))
      have hey317 : (uZ F 12 (0)) 14 = F 14 := (fn rfl (by decide))
      have hey318 : (uZ F 12 (0)) 15 = F 15 := (fn rfl (by decide))
      have hey319 : (uZ F 12 (0)) 16 = F 16 := (fn rfl (by decide))
      have hey320 : (uZ F 12 (0)) 17 = F 17 := (fn rfl (by decide))
      have hey321 : (uZ F 12 (0)) 18 = F 18 := (fn rfl (by decide))
      have hey322 : (uZ F 12 (0)) 19 = F 19 := (fn rfl (by decide))
      have hey323 : (uZ F 12 (0)) 20 = F 20 := (fn rfl (by decide))
      have hey324 : (uZ F 12 (0)) 21 = F 21 := (fn rfl (by decide))
      have hey325 : (uZ F 12 (0)) 23 = F 23 := (fn rfl (by decide))
      have hey326 : (uZ F 12 (0)) 25 = F 25 := (fn rfl (by decide))
      have hey327 : (uZ F 12 (0)) 27 = F 27 := (fn rfl (by decide))
      have hey328 : (uZ F 12 (0)) 28 = F 28 := (fn rfl (by decide))
      have hey329 : (uZ F 12 (0)) 29 = F 29 := (fn rfl (by decide))
      have hKy330 : okF (uZ F 12 (0)) := okF.mv hM.2.1 hey316 hey317 hey318 hey319 hey320 hey321 hey322 hey323 hey324 hey325 hey326 hey327 hey328 hey329
      have hMy331 : okMr cs ad gvy311 i (x + 1) (uZ F 12 (0)) r st op ai fa mu tb tp := okMr.upd hM hgy312 hKy330 (fun f a => hFy315 f (by omega)) hgy314 (hA.mono (by omega)) (fun j a b => by
          by_cases e0 : j = i + 11
          · exact Or.inr ⟨11, _, e0, lsP.l (by decide), by rw [e0]; exact hdvy311⟩
          exact Or.inl (by rw [hfvy311 _ (by omega)]; rw [egy25, va_up_ne _ _ (by omega)]))
      have hkpy332 : (uZ F 12 (0)) 13 = F 13 := (fn rfl (by decide))
      have hkpy333 : (uZ F 12 (0)) 14 = F 14 := (fn rfl (by decide))
      have hkpy334 : (uZ F 12 (0)) 17 = F 17 := (fn rfl (by decide))
      have hkpy335 : (uZ F 12 (0)) 20 = F 20 := (fn rfl (by decide))
      have hkpy336 : (uZ F 12 (0)) 21 = F 21 := (fn rfl (by decide))
      have hkpy337 : (uZ F 12 (0)) 23 = F 23 := (fn rfl (by decide))
      have hkpy338 : (uZ F 12 (0)) 24 = F 24 := (fn rfl (by decide))
      exact z_iret C hr hlk dX10_fall_61 (by decide) (by decide) ⟨vy311, rfl, rfl, rfl, by omega, ⟨_, _, hMy331, ⟨hkpy332, hkpy333, hkpy334, hkpy335, hkpy336, hkpy337, hkpy338⟩⟩, fun j j1 => by rw [hfvy311 _ (by omega)]; rw [egy25, va_up_ne _ _ (by omega)]⟩
  · refine z_if_eq (tgt := 56) C dX10_fall_16 (by decide) (by omega) (fun _ => ?_) (fun h => absurd h (by omega))
    refine z_aload_n C 0 dX10_fall_56 rfl ?_
    refine z_iconst (z := 1) C dX10_fall_57 rfl ?_
    have hgy339 := up_n egy25 ha11 (ne_o (i := i) (c := 11) (d := 0) rfl)
    refine z_cV (As := [.int (zI (1))]) (rest := []) (ci := 12) C (c_X10_refuses l D A cs tt N ad _ i hN _ hgy26 _ hgy339 (1) (by omega)) (lt_A0 hN rfl) hay1 hgy26 rfl rfl mv_yX10_refuses q_1866 hd_yX10_refuses (by decide) (Nat.le_of_ble_eq_true rfl) (by decide) dX10_fall_58 rfl (kI0 fun vy340 gvy340 hvy340 => ?_)
    obtain ⟨hrvy340, ⟨tvy340, hdvy340⟩, hfvy340⟩ := hvy340
    have hgy341 := (hfvy340 (i) (ne_o (i := i) (c := 0) (d := 11) rfl)).trans hgy26
    have hgy342 := up_n egy25 ha1 (ne_o (i := i) (c := 1) (d := 0) rfl)
    have hgy343 := (hfvy340 (i + 1) (ne_o (i := i) (c := 1) (d := 11) rfl)).trans hgy342
    have hFy344 : ∀ f, f ≠ 12 → (uZ F 12 (0)) f = F f := fun f n12 => ((uZ_n _ _ n12).trans rfl)
    have hey345 : (uZ F 12 (0)) 13 = F 13 := (fn rfl (by decide))
    have hey346 : (uZ F 12 (0)) 14 = F 14 := (fn rfl (by decide))
    have hey347 : (uZ F 12 (0)) 15 = F 15 := (fn rfl (by decide))
    have hey348 : (uZ F 12 (0)) 16 = F 16 := (fn rfl (by decide))
    have hey349 : (uZ F 12 (0)) 17 = F 17 := (fn rfl (by decide))
    have hey350 : (uZ F 12 (0)) 18 = F 18 := (fn rfl (by decide))
    have hey351 : (uZ F 12 (0)) 19 = F 19 := (fn rfl (by decide))
    have hey352 : (uZ F 12 (0)) 20 = F 20 := (fn rfl (by decide))
    have hey353 : (uZ F 12 (0)) 21 = F 21 := (fn rfl (by decide))
    have hey354 : (uZ F 12 (0)) 23 = F 23 := (fn rfl (by decide))
    have hey355 : (uZ F 12 (0)) 25 = F 25 := (fn rfl (by decide))
    have hey356 : (uZ F 12 (0)) 27 = F 27 := (fn rfl (by decide))
    have hey357 : (uZ F 12 (0)) 28 = F 28 := (fn rfl (by decide))
    have hey358 : (uZ F 12 (0)) 29 = F 29 := (fn rfl (by decide))
    have hKy359 : okF (uZ F 12 (0)) := okF.mv hM.2.1 hey345 hey346 hey347 hey348 hey349 hey350 hey351 hey352 hey353 hey354 hey355 hey356 hey357 hey358
    have hMy360 : okMr cs ad gvy340 i (x + 1) (uZ F 12 (0)) r st op ai fa mu tb tp := okMr.upd hM hgy341 hKy359 (fun f a => hFy344 f (by omega)) hgy343 (hA.mono (by omega)) (fun j a b => by
        by_cases e0 : j = i + 11
        · exact Or.inr ⟨11, _, e0, lsP.l (by decide), by rw [e0]; exact hdvy340⟩
        exact Or.inl (by rw [hfvy340 _ (by omega)]; rw [egy25, va_up_ne _ _ (by omega)]))
    have hkpy361 : (uZ F 12 (0)) 13 = F 13 := (fn rfl (by decide))
    have hkpy362 : (uZ F 12 (0)) 14 = F 14 := (fn rfl (by decide))
    have hkpy363 : (uZ F 12 (0)) 17 = F 17 := (fn rfl (by decide))
    have hkpy364 : (uZ F 12 (0)) 20 = F 20 := (fn rfl (by decide))
    have hkpy365 : (uZ F 12 (0)) 21 = F 21 := (fn rfl (by decide))
    have hkpy366 : (uZ F 12 (0)) 23 = F 23 := (fn rfl (by decide))
    have hkpy367 : (uZ F 12 (0)) 24 = F 24 := (fn rfl (by decide))
    exact z_iret C hr hlk dX10_fall_61 (by decide) (by decide) ⟨vy340, rfl, rfl, rfl, by omega, ⟨_, _, hMy360, ⟨hkpy361, hkpy362, hkpy363, hkpy364, hkpy365, hkpy366, hkpy367⟩⟩, fun j j1 => by rw [hfvy340 _ (by omega)]; rw [egy25, va_up_ne _ _ (by omega)]⟩

set_option maxRecDepth 100000 in
set_option maxHeartbeats 4000000 in
theorem c_X10_fall_b (l : Launch) (D : va_G) (A : Nat → Prop) (cs : Nat → ClassId) (tt : Nat) (N : Nat) (ad : Nat → Nat) (g : Nat → va_E) (i : Nat) (hN : i + 30 ≤ N) (x : Int) (hx : 0 ≤ x ∧ x ≤ 512) (F r : Nat → Int) {st op ai fa mu tb tp : Nat → Int} (hM : okMr cs ad g i x F r st op ai fa mu tb tp) (z : Int) (hz : -2147483648 ≤ z ∧ z ≤ 2147483647) (hzo : z < 0 ∨ 3 < z) (z1 : Int) (hz1 : -2147483648 ≤ z1 ∧ z1 ≤ 2147483647) (z2 : Int) (hz2 : -2147483648 ≤ z2 ∧ z2 ≤ 2147483647) : zM l yX10_fall cX10_fall 4 (some .int) ({ frames := 6, cells := 0, slots := 0, locals := 360 } : Room) D A cs tt N ad g [.ref (ad i), .int (zI (z)), .int (zI (z1)), .int (zI (z2))] (rI0 N ad fun q g' => (-2147483648 ≤ q ∧ q ≤ 2147483647) ∧ (∃ F' r' : Nat → Int, okMr cs ad g' i (x + 1) F' r' st op ai fa mu tb tp ∧ (F' 13 = F 13 ∧ F' 14 = F 14 ∧ F' 17 = F 17 ∧ F' 20 = F 20 ∧ F' 21 = F 21 ∧ F' 23 = F 23 ∧ F' 24 = F 24)) ∧ ∀ j, j < i ∨ i + 30 ≤ j → g' j = g j) := by
  obtain ⟨hg, ⟨⟨e13, e14, e25, e27, e29⟩, k15, k16, k17, k18, k19, k20, k23, k21⟩, hRD, hTx, hA, ns, nh, nd, rf, pi, te, ki, li, ok1, ok2, fo, dd, dps, ⟨ha1, ha2, ha3, ha4, ha5, ha6, ha7, ha8, ha9, ha10, ha11, ha12, ha13, ha14, ha15, ha24, ha25, ha26, ha27, ha28, ha29⟩, hEv, hPt, hns, htp⟩ := id hM
  obtain ⟨-, hop, hai, hfa, hT, hT1⟩ := id hEv
  have hay1 : zAt ad (i) (ad i) := rfl
  have hay2 : zAt ad (i + 1) (ad (i + 1)) := rfl
  have hay3 : zAt ad (i + 2) (ad (i + 2)) := rfl
  have hay4 : zAt ad (i + 3) (ad (i + 3)) := rfl
  have hay5 : zAt ad (i + 4) (ad (i + 4)) := rfl
  have hay6 : zAt ad (i + 5) (ad (i + 5)) := rfl
  have hay7 : zAt ad (i + 6) (ad (i + 6)) := rfl
  have hay8 : zAt ad (i + 7) (ad (i + 7)) := rfl
  have hay9 : zAt ad (i + 8) (ad (i + 8)) := rfl
  have hay10 : zAt ad (i + 9) (ad (i + 9)) := rfl
  have hay11 : zAt ad (i + 10) (ad (i + 10)) := rfl
  have hay12 : zAt ad (i + 11) (ad (i + 11)) := rfl
  have hay13 : zAt ad (i + 12) (ad (i + 12)) := rfl
  have hay14 : zAt ad (i + 13) (ad (i + 13)) := rfl
  have hay15 : zAt ad (i + 14) (ad (i + 14)) := rfl
  have hay16 : zAt ad (i + 15) (ad (i + 15)) := rfl
  have hay17 : zAt ad (i + 24) (ad (i + 24)) := rfl
  have hay18 : zAt ad (i + 25) (ad (i + 25)) := rfl
  have hay19 : zAt ad (i + 26) (ad (i + 26)) := rfl
  have hay20 : zAt ad (i + 27) (ad (i + 27)) := rfl
  have hay21 : zAt ad (i + 28) (ad (i + 28)) := rfl
  have hay22 : zAt ad (i + 29) (ad (i + 29)) := rfl
  obtain ⟨⟨hsyy23, htyy23, hnyy23, hpyy23⟩, hlyy23⟩ := okA.at0 hA
  simp only [Nat.zero_add] at hsyy23 hnyy23 hpyy23
  have hmn : ∀ s, s < 4 → 0 ≤ r (6 + 86 * s) ∧ r (6 + 86 * s) ≤ 12 := fun s hs => (hsyy23 s hs).1
  have h5 : 0 ≤ r 5 ∧ r 5 ≤ 6 := hpyy23
  refine z_of (by decide) (Nat.le_of_ble_eq_true rfl) ?_
  intro pZ eZ sZ mZ below meth cZ C hr hlk hnm
  refine z_lv (lv' := [(0, .ref (ad i)), (1, .int (zI (z))), (2, .int (zI (z1))), (3, .int (zI (z2)))]) [0, 1, 2, 3] rfl ?_
  refine z_aload_n C 0 dX10_fall_0 rfl ?_
  refine z_iconst (z := 0) C dX10_fall_1 rfl ?_
  refine z_put (fs' := mF ad (i) (uZ F 12 (0))) C (lt_A0 hN rfl) hay1 hg tyX10 tyX10_ok nmX10 rfl inA_X10 12 (by decide) q_1471 rfl rfl rfl rfl (Nat.le_of_ble_eq_true rfl) rfl dX10_fall_2 (fun gy24 egy25 => ?_)
  have hgy26 := up_s egy25
  refine z_iload_n C 1 dX10_fall_5 rfl ?_
  refine z_iconst (z := 0) C dX10_fall_6 rfl ?_
  refine z_aload_n C 0 dX10_fall_7 rfl ?_
  refine z_get (v := .int (zI (F 13))) C (lt_A0 hN rfl) hay1 hgy26 rfl inA_X10 13 (by decide) q_1472 rfl (fv (F := (uZ F 12 (0))) (f := 13) (fn rfl (by decide))) dX10_fall_8 ?_
  refine z_iconst (z := 1) C dX10_fall_11 rfl ?_
  refine z_isub C dX10_fall_12 ?_
  refine z_cS (As := [.int (zI (z)), .int (zI (0)), .int (zI ((F 13) - 1))]) (rest := []) C (c_X10_within l D A cs tt N ad _ (z) (by omega) (0) (by omega) ((F 13) - 1) (by omega)) ms_yX10_within q_1686 hd_yX10_within (by decide) (Nat.le_of_ble_eq_true rfl) (by decide) dX10_fall_13 rfl (kI0 fun vy27 gvy27 hvy27 => ?_)
  obtain ⟨hvy27, rfl⟩ := hvy27
  obtain rfl : vy27 = 0 := by omega
  refine z_if_eq (tgt := 56) C dX10_fall_16 (by decide) (by omega) (fun _ => ?_) (fun h => absurd h (by omega))
  refine z_aload_n C 0 dX10_fall_56 rfl ?_
  refine z_iconst (z := 1) C dX10_fall_57 rfl ?_
  have hgy28 := up_n egy25 ha11 (ne_o (i := i) (c := 11) (d := 0) rfl)
  refine z_cV (As := [.int (zI (1))]) (rest := []) (ci := 12) C (c_X10_refuses l D A cs tt N ad _ i hN _ hgy26 _ hgy28 (1) (by omega)) (lt_A0 hN rfl) hay1 hgy26 rfl rfl mv_yX10_refuses q_1866 hd_yX10_refuses (by decide) (Nat.le_of_ble_eq_true rfl) (by decide) dX10_fall_58 rfl (kI0 fun vy29 gvy29 hvy29 => ?_)
  obtain ⟨hrvy29, ⟨tvy29, hdvy29⟩, hfvy29⟩ := hvy29
  have hgy30 := (hfvy29 (i) (ne_o (i := i) (c := 0) (d := 11) rfl)).trans hgy26
  have hgy31 := up_n egy25 ha1 (ne_o (i := i) (c := 1) (d := 0) rfl)
  have hgy32 := (hfvy29 (i + 1) (ne_o (i := i) (c := 1) (d := 11) rfl)).trans hgy31
  have hFy33 : ∀ f, f ≠ 12 → (uZ F 12 (0)) f = F f := fun f n12 => ((uZ_n _ _ n12).trans rfl)
  have hey34 : (uZ F 12 (0)) 13 = F 13 := (fn rfl (by decide))
  have hey35 : (uZ F 12 (0)) 14 = F 14 := (fn rfl (by decide))
  have hey36 : (uZ F 12 (0)) 15 = F 15 := (fn rfl (by decide))
  have hey37 : (uZ F 12 (0)) 16 = F 16 := (fn rfl (by decide))
  have hey38 : (uZ F 12 (0)) 17 = F 17 := (fn rfl (by decide))
  have hey39 : (uZ F 12 (0)) 18 = F 18 := (fn rfl (by decide))
  have hey40 : (uZ F 12 (0)) 19 = F 19 := (fn rfl (by decide))
  have hey41 : (uZ F 12 (0)) 20 = F 20 := (fn rfl (by decide))
  have hey42 : (uZ F 12 (0)) 21 = F 21 := (fn rfl (by decide))
  have hey43 : (uZ F 12 (0)) 23 = F 23 := (fn rfl (by decide))
  have hey44 : (uZ F 12 (0)) 25 = F 25 := (fn rfl (by decide))
  have hey45 : (uZ F 12 (0)) 27 = F 27 := (fn rfl (by decide))
  have hey46 : (uZ F 12 (0)) 28 = F 28 := (fn rfl (by decide))
  have hey47 : (uZ F 12 (0)) 29 = F 29 := (fn rfl (by decide))
  have hKy48 : okF (uZ F 12 (0)) := okF.mv hM.2.1 hey34 hey35 hey36 hey37 hey38 hey39 hey40 hey41 hey42 hey43 hey44 hey45 hey46 hey47
  have hMy49 : okMr cs ad gvy29 i (x + 1) (uZ F 12 (0)) r st op ai fa mu tb tp := okMr.upd hM hgy30 hKy48 (fun f a => hFy33 f (by omega)) hgy32 (hA.mono (by omega)) (fun j a b => by
      by_cases e0 : j = i + 11
      · exact Or.inr ⟨11, _, e0, lsP.l (by decide), by rw [e0]; exact hdvy29⟩
      exact Or.inl (by rw [hfvy29 _ (by omega)]; rw [egy25, va_up_ne _ _ (by omega)]))
  have hkpy50 : (uZ F 12 (0)) 13 = F 13 := (fn rfl (by decide))
  have hkpy51 : (uZ F 12 (0)) 14 = F 14 := (fn rfl (by decide))
  have hkpy52 : (uZ F 12 (0)) 17 = F 17 := (fn rfl (by decide))
  have hkpy53 : (uZ F 12 (0)) 20 = F 20 := (fn rfl (by decide))
  have hkpy54 : (uZ F 12 (0)) 21 = F 21 := (fn rfl (by decide))
  have hkpy55 : (uZ F 12 (0)) 23 = F 23 := (fn rfl (by decide))
  have hkpy56 : (uZ F 12 (0)) 24 = F 24 := (fn rfl (by decide))
  exact z_iret C hr hlk dX10_fall_61 (by decide) (by decide) ⟨vy29, rfl, rfl, rfl, by omega, ⟨_, _, hMy49, ⟨hkpy50, hkpy51, hkpy52, hkpy53, hkpy54, hkpy55, hkpy56⟩⟩, fun j j1 => by rw [hfvy29 _ (by omega)]; rw [egy25, va_up_ne _ _ (by omega)]⟩

set_option maxRecDepth 100000 in
set_option maxHeartbeats 4000000 in
theorem c_X10_fall (l : Launch) (D : va_G) (A : Nat → Prop) (cs : Nat → ClassId) (tt : Nat) (N : Nat) (ad : Nat → Nat) (g : Nat → va_E) (i : Nat) (hN : i + 30 ≤ N) (x : Int) (hx : 0 ≤ x ∧ x ≤ 512) (F r : Nat → Int) {st op ai fa mu tb tp : Nat → Int} (hM : okMr cs ad g i x F r st op ai fa mu tb tp) (z : Int) (hz : -2147483648 ≤ z ∧ z ≤ 2147483647) (z1 : Int) (hz1 : -2147483648 ≤ z1 ∧ z1 ≤ 2147483647) (z2 : Int) (hz2 : -2147483648 ≤ z2 ∧ z2 ≤ 2147483647) : zM l yX10_fall cX10_fall 4 (some .int) ({ frames := 6, cells := 0, slots := 0, locals := 360 } : Room) D A cs tt N ad g [.ref (ad i), .int (zI (z)), .int (zI (z1)), .int (zI (z2))] (rI0 N ad fun q g' => (-2147483648 ≤ q ∧ q ≤ 2147483647) ∧ (∃ F' r' : Nat → Int, okMr cs ad g' i (x + 1) F' r' st op ai fa mu tb tp ∧ (F' 13 = F 13 ∧ F' 14 = F 14 ∧ F' 17 = F 17 ∧ F' 20 = F 20 ∧ F' 21 = F 21 ∧ F' 23 = F 23 ∧ F' 24 = F 24)) ∧ ∀ j, j < i ∨ i + 30 ≤ j → g' j = g j) := by
  by_cases h9 : 0 ≤ z ∧ z ≤ 3
  · obtain ⟨n, rfl⟩ : ∃ n : Nat, z = (n : Int) := ⟨z.toNat, by omega⟩
    exact c_X10_fall_a l D A cs tt N ad g i hN x hx F r hM n (by omega) z1 hz1 z2 hz2
  · exact c_X10_fall_b l D A cs tt N ad g i hN x hx F r hM z hz (by omega) z1 hz1 z2 hz2

set_option maxRecDepth 100000 in
set_option maxHeartbeats 4000000 in
theorem c_X10_dig_a (l : Launch) (D : va_G) (A : Nat → Prop) (cs : Nat → ClassId) (tt : Nat) (N : Nat) (ad : Nat → Nat) (g : Nat → va_E) (i : Nat) (hN : i + 30 ≤ N) (x : Int) (hx : 0 ≤ x ∧ x ≤ 512) (F r : Nat → Int) {st op ai fa mu tb tp : Nat → Int} (hM : okMr cs ad g i x F r st op ai fa mu tb tp) (n : Nat) (hn4 : n < 4) : zM l yX10_dig cX10_dig 3 (some .int) ({ frames := 5, cells := 0, slots := 0, locals := 300 } : Room) D A cs tt N ad g [.ref (ad i), .int (zI ((n : Int)))] (rI0 N ad fun q g' => (-2147483648 ≤ q ∧ q ≤ 2147483647) ∧ (∃ F' r' : Nat → Int, okMr cs ad g' i (x + 1) F' r' st op ai fa mu tb tp ∧ (F' 13 = F 13 ∧ F' 14 = F 14 ∧ F' 17 = F 17 ∧ F' 20 = F 20 ∧ F' 21 = F 21 ∧ F' 23 = F 23 ∧ F' 24 = F 24)) ∧ ∀ j, j < i ∨ i + 30 ≤ j → g' j = g j) := by
  obtain ⟨hg, ⟨⟨e13, e14, e25, e27, e29⟩, k15, k16, k17, k18, k19, k20, k23, k21⟩, hRD, hTx, hA, ns, nh, nd, rf, pi, te, ki, li, ok1, ok2, fo, dd, dps, ⟨ha1, ha2, ha3, ha4, ha5, ha6, ha7, ha8, ha9, ha10, ha11, ha12, ha13, ha14, ha15, ha24, ha25, ha26, ha27, ha28, ha29⟩, hEv, hPt, hns, htp⟩ := id hM
  obtain ⟨-, hop, hai, hfa, hT, hT1⟩ := id hEv
  have hay1 : zAt ad (i) (ad i) := rfl
  have hay2 : zAt ad (i + 1) (ad (i + 1)) := rfl
  have hay3 : zAt ad (i + 2) (ad (i + 2)) := rfl
  have hay4 : zAt ad (i + 3) (ad (i + 3)) := rfl
  have hay5 : zAt ad (i + 4) (ad (i + 4)) := rfl
  have hay6 : zAt ad (i + 5) (ad (i + 5)) := rfl
  have hay7 : zAt ad (i + 6) (ad (i + 6)) := rfl
  have hay8 : zAt ad (i + 7) (ad (i + 7)) := rfl
  have hay9 : zAt ad (i + 8) (ad (i + 8)) := rfl
  have hay10 : zAt ad (i + 9) (ad (i + 9)) := rfl
  have hay11 : zAt ad (i + 10) (ad (i + 10)) := rfl
  have hay12 : zAt ad (i + 11) (ad (i + 11)) := rfl
  have hay13 : zAt ad (i + 12) (ad (i + 12)) := rfl
  have hay14 : zAt ad (i + 13) (ad (i + 13)) := rfl
  have hay15 : zAt ad (i + 14) (ad (i + 14)) := rfl
  have hay16 : zAt ad (i + 15) (ad (i + 15)) := rfl
  have hay17 : zAt ad (i + 24) (ad (i + 24)) := rfl
  have hay18 : zAt ad (i + 25) (ad (i + 25)) := rfl
  have hay19 : zAt ad (i + 26) (ad (i + 26)) := rfl
  have hay20 : zAt ad (i + 27) (ad (i + 27)) := rfl
  have hay21 : zAt ad (i + 28) (ad (i + 28)) := rfl
  have hay22 : zAt ad (i + 29) (ad (i + 29)) := rfl
  obtain ⟨⟨hsyy23, htyy23, hnyy23, hpyy23⟩, hlyy23⟩ := okA.at0 hA
  simp only [Nat.zero_add] at hsyy23 hnyy23 hpyy23
  have hmn : ∀ s, s < 4 → 0 ≤ r (6 + 86 * s) ∧ r (6 + 86 * s) ≤ 12 := fun s hs => (hsyy23 s hs).1
  have h5 : 0 ≤ r 5 ∧ r 5 ≤ 6 := hpyy23
  refine z_of (by decide) (Nat.le_of_ble_eq_true rfl) ?_
  intro pZ eZ sZ mZ below meth cZ C hr hlk hnm
  refine z_lv (lv' := [(0, .ref (ad i)), (1, .int (zI ((n : Int))))]) [0, 1] rfl ?_
  refine z_aload_n C 0 dX10_dig_0 rfl ?_
  refine z_iconst (z := 0) C dX10_dig_1 rfl ?_
  refine z_put (fs' := mF ad (i) (uZ F 12 (0))) C (lt_A0 hN rfl) hay1 hg tyX10 tyX10_ok nmX10 rfl inA_X10 12 (by decide) q_1471 rfl rfl rfl rfl (Nat.le_of_ble_eq_true rfl) rfl dX10_dig_2 (fun gy24 egy25 => ?_)
  have hgy26 := up_s egy25
  refine z_iload_n C 1 dX10_dig_5 rfl ?_
  refine z_iconst (z := 0) C dX10_dig_6 rfl ?_
  refine z_aload_n C 0 dX10_dig_7 rfl ?_
  refine z_get (v := .int (zI (F 13))) C (lt_A0 hN rfl) hay1 hgy26 rfl inA_X10 13 (by decide) q_1472 rfl (fv (F := (uZ F 12 (0))) (f := 13) (fn rfl (by decide))) dX10_dig_8 ?_
  refine z_iconst (z := 1) C dX10_dig_11 rfl ?_
  refine z_isub C dX10_dig_12 ?_
  refine z_cS (As := [.int (zI ((n : Int))), .int (zI (0)), .int (zI ((F 13) - 1))]) (rest := []) C (c_X10_within l D A cs tt N ad _ ((n : Int)) (by omega) (0) (by omega) ((F 13) - 1) (by omega)) ms_yX10_within q_1686 hd_yX10_within (by decide) (Nat.le_of_ble_eq_true rfl) (by decide) dX10_dig_13 rfl (kI0 fun vy27 gvy27 hvy27 => ?_)
  obtain ⟨hvy27, rfl⟩ := hvy27
  rcases hvy27 with ⟨rfl, hxvy27⟩ | ⟨rfl, hxvy27⟩
  · refine z_if_eq (tgt := 28) C dX10_dig_16 (by decide) (by omega) (fun h => absurd h (by omega)) (fun _ => ?_)
    refine z_aload_n C 0 dX10_dig_19 rfl ?_
    refine z_iconst (z := 0) C dX10_dig_20 rfl ?_
    refine z_iload_n C 1 dX10_dig_21 rfl ?_
    obtain ⟨py28, hpy28⟩ : ∃ p9 : Nat, 0 + 6 + 86 * n = p9 := ⟨_, rfl⟩
    have hmyy29 := ((okA.at0 hA).1.1 n (by omega)).1
    rw [hpy28] at hmyy29
    have hgy30 := up_n egy25 ha1 (ne_o (i := i) (c := 1) (d := 0) rfl)
    refine z_cV (As := [.int (zI (0)), .int (zI ((n : Int)))]) (rest := []) (ci := 12) C (c_X10_many l D A cs tt N ad _ i hN _ hgy26 _ hgy30 0 n py28 hpy28 (by omega) (by omega)) (lt_A0 hN rfl) hay1 hgy26 rfl rfl mv_yX10_many q_1733 hd_yX10_many (by decide) (Nat.le_of_ble_eq_true rfl) (by decide) dX10_dig_22 rfl (kI0 fun vy31 gvy31 hvy31 => ?_)
    obtain ⟨rfl, rfl⟩ := hvy31
    refine z_if_ne (tgt := 34) C dX10_dig_25 (by decide) (by omega) (fun hby32 => ?_) (fun hby32 => ?_)
    · refine z_aload_n C 0 dX10_dig_34 rfl ?_
      have hey34 : (uZ F 12 (0)) 15 = F 15 := (fn rfl (by decide))
      have hey35 : (uZ F 12 (0)) 16 = F 16 := (fn rfl (by decide))
      refine z_cV (As := []) (rest := []) (ci := 12) C (c_X10_keeps l D A cs tt N ad _ i hN _ hgy26 _ hgy30 (x) hA (by omega) (by omega)) (lt_A0 hN rfl) hay1 hgy26 rfl rfl mv_yX10_keeps q_1870 hd_yX10_keeps (by decide) (Nat.le_of_ble_eq_true rfl) (by decide) dX10_dig_35 rfl (kV0 fun gvy33 hvy33 => ?_)
      obtain ⟨⟨Fvy33, hcvy33, hbvy33, hFvy33⟩, ⟨rvy33, hdvy33, hAvy33, hyvy33⟩, hfvy33⟩ := hvy33
      have hk0vy33 : rvy33 0 = r 0 := hyvy33 0 (by omega)
      have hk1vy33 : rvy33 1 = r 1 := hyvy33 1 (by omega)
      have hk5vy33 : rvy33 5 = r 5 := hyvy33 5 (by omega)
      have hkpy36 : rvy33 py28 = r py28 := hyvy33 py28 (by omega)
      obtain ⟨⟨hsyy37, htyy37, hnyy37, hpyy37⟩, hlyy37⟩ := okA.at0 hAvy33
      simp only [Nat.zero_add] at hsyy37 hnyy37 hpyy37
      have hmn : ∀ s, s < 4 → 0 ≤ rvy33 (6 + 86 * s) ∧ rvy33 (6 + 86 * s) ≤ 12 := fun s hs => (hsyy37 s hs).1
      have h5 : 0 ≤ rvy33 5 ∧ rvy33 5 ≤ 6 := hpyy37
      refine z_aload_n C 0 dX10_dig_38 rfl ?_
      refine z_iconst (z := 0) C dX10_dig_39 rfl ?_
      refine z_iload_n C 1 dX10_dig_40 rfl ?_
      refine z_aload_n C 0 dX10_dig_41 rfl ?_
      refine z_iconst (z := 0) C dX10_dig_42 rfl ?_
      refine z_iload_n C 1 dX10_dig_43 rfl ?_
      have hmyy38 := ((okA.at0 hAvy33).1.1 n (by omega)).1
      rw [hpy28] at hmyy38
      rw [show rvy33 (py28) = r (py28) from (hyvy33 _ (by omega)).trans (rfl)] at hmyy38
      refine z_cV (As := [.int (zI (0)), .int (zI ((n : Int)))]) (rest := [.int (zI ((n : Int))), .int (zI (0)), .ref (ad i)]) (ci := 12) C (c_X10_many l D A cs tt N ad _ i hN _ hcvy33 _ hdvy33 0 n py28 hpy28 (by omega) (by omega)) (lt_A0 hN rfl) hay1 hcvy33 rfl rfl mv_yX10_many q_1733 hd_yX10_many (by decide) (Nat.le_of_ble_eq_true rfl) (by decide) dX10_dig_44 rfl (kI0 fun vy39 gvy39 hvy39 => ?_)
      obtain ⟨rfl, rfl⟩ := hvy39
      rw [show rvy33 (py28) = r (py28) from (hyvy33 _ (by omega)).trans (rfl)]
      refine z_iconst (z := 1) C dX10_dig_47 rfl ?_
      refine z_isub C dX10_dig_48 ?_
      refine z_bipush (z := 6) C dX10_dig_49 (by decide) ?_
      obtain ⟨ky40, hky40⟩ : ∃ k9 : Nat, ((r (py28)) - 1) = (k9 : Int) := ⟨(((r (py28)) - 1) : Int).toNat, by omega⟩
      obtain ⟨qy41, hqy41⟩ : ∃ q9 : Nat, py28 + 2 + 7 * ky40 = q9 := ⟨_, rfl⟩
      refine z_cV (As := [.int (zI (0)), .int (zI ((n : Int))), .int (zI ((r (py28)) - 1)), .int (zI (6))]) (rest := []) (ci := 12) C (c_X10_of l D A cs tt N ad _ i hN _ hcvy33 _ hdvy33 0 n py28 hpy28 (by omega) (by omega) ((r (py28)) - 1) (6) (qy41 + 6) (by omega) (by omega) (by omega)) (lt_A0 hN rfl) hay1 hcvy33 rfl rfl mv_yX10_of q_1749 hd_yX10_of (by decide) (Nat.le_of_ble_eq_true rfl) (by decide) dX10_dig_51 rfl (kI0 fun vy42 gvy42 hvy42 => ?_)
      obtain ⟨rfl, rfl⟩ := hvy42
      rw [show rvy33 (qy41 + 6) = r (qy41 + 6) from (hyvy33 _ (by omega)).trans (rfl)]
      refine z_istore_n (lv' := [(2, .int (zI (r (qy41 + 6)))), (0, .ref (ad i)), (1, .int (zI ((n : Int))))]) C dX10_dig_54 rfl (by decide) rfl ?_
      refine z_aload_n C 1 dX10_dig_55 rfl ?_
      refine z_iconst (z := 0) C dX10_dig_56 rfl ?_
      refine z_iload_n C 2 dX10_dig_57 rfl ?_
      have hSy43 := ((okA.at0 hAvy33).1.1 n (by omega)).of (p2 := py28) (by omega)
      obtain ⟨b1hSy43, b2hSy43, b3hSy43, b4hSy43⟩ := mBb (t := rvy33 0 + x) (by omega)
      have hmky44 := hSy43.1
      have hcy45n := (okA.at0 hAvy33).1.2.2.1
      have hcy45t := (okA.at0 hAvy33).1.2.1
      refine z_cV (As := [.int (zI (0)), .int (zI ((n : Int)))]) (rest := []) (ci := 12) C (c_X10_digs l D A cs tt N ad _ i hN _ hcvy33 _ hdvy33 0 n py28 hpy28 (by omega) (by omega) (mB (rvy33 0 + x)) (eB (rvy33 0 + x)) (by omega) (by omega) hSy43 (by omega)) (lt_A0 hN rfl) hay1 hcvy33 rfl rfl mv_yX10_digs q_1956 hd_yX10_digs (by decide) (Nat.le_of_ble_eq_true rfl) (by decide) dX10_dig_58 rfl (kV0 fun gvy46 hvy46 => ?_)
      obtain ⟨⟨rvy46, hcvy46, hovy46, hyvy46⟩, hfvy46⟩ := hvy46
      have hcy450 : rvy46 0 = rvy33 0 := (hyvy46 0 (by omega) (by omega) (by omega) (by omega))
      have hcy45 : okW rvy46 0 (x) := okW.slope0 (okA.at0 hAvy33).1 (s := n) (p := py28) (by omega) (by omega) hovy46 (fun j a1 a2 a3 a4 a5 a6 => hyvy46 j a3 a4 a5 a6)
      have hAy47 : okA rvy46 (x) := okA.first hAvy33 (Int.le_refl _) (fun j a => (hyvy46 j (by omega) (by omega) (by omega) (by omega))) hcy45 (by omega)
      obtain ⟨⟨hsyy48, htyy48, hnyy48, hpyy48⟩, hlyy48⟩ := okA.at0 hAy47
      simp only [Nat.zero_add] at hsyy48 hnyy48 hpyy48
      have hmn : ∀ s, s < 4 → 0 ≤ rvy46 (6 + 86 * s) ∧ rvy46 (6 + 86 * s) ≤ 12 := fun s hs => (hsyy48 s hs).1
      have h5 : 0 ≤ rvy46 5 ∧ rvy46 5 ≤ 6 := hpyy48
      refine z_iload_n C 0 dX10_dig_61 rfl ?_
      obtain ⟨xy49, exy50, hxy51⟩ := zI_of (zI (r (qy41 + 6)))
      rw [exy50]
      have hgy52 := (hfvy46 (i) (ne_o (i := i) (c := 0) (d := 1) rfl)).trans hcvy33
      have hFy53 : ∀ f, f ≠ 12 → f ≠ 15 → f ≠ 16 → Fvy33 f = F f := fun f n12 n15 n16 => ((hFvy33 f n15 n16).trans ((uZ_n _ _ n12).trans rfl))
      have hey54 : Fvy33 13 = F 13 := ((hFvy33 13 (by decide) (by decide)).trans (fn rfl (by decide)))
      have hey55 : Fvy33 14 = F 14 := ((hFvy33 14 (by decide) (by decide)).trans (fn rfl (by decide)))
      have hey56 : Fvy33 15 = Fvy33 15 := rfl
      have hey57 : Fvy33 16 = Fvy33 16 := rfl
      have hey58 : Fvy33 17 = F 17 := ((hFvy33 17 (by decide) (by decide)).trans (fn rfl (by decide)))
      have hey59 : Fvy33 18 = F 18 := ((hFvy33 18 (by decide) (by decide)).trans (fn rfl (by decide)))
      have hey60 : Fvy33 19 = F 19 := ((hFvy33 19 (by decide) (by decide)).trans (fn rfl (by decide)))
      have hey61 : Fvy33 20 = F 20 := ((hFvy33 20 (by decide) (by decide)).trans (fn rfl (by decide)))
      have hey62 : Fvy33 21 = F 21 := ((hFvy33 21 (by decide) (by decide)).trans (fn rfl (by decide)))
      have hey63 : Fvy33 23 = F 23 := ((hFvy33 23 (by decide) (by decide)).trans (fn rfl (by decide)))
      have hey64 : Fvy33 25 = F 25 := ((hFvy33 25 (by decide) (by decide)).trans (fn rfl (by decide)))
      have hey65 : Fvy33 27 = F 27 := ((hFvy33 27 (by decide) (by decide)).trans (fn rfl (by decide)))
      have hey66 : Fvy33 28 = F 28 := ((hFvy33 28 (by decide) (by decide)).trans (fn rfl (by decide)))
      have hey67 : Fvy33 29 = F 29 := ((hFvy33 29 (by decide) (by decide)).trans (fn rfl (by decide)))
      have hKy68 : okF Fvy33 := by unfold okF; omega
      have hMy69 : okMr cs ad gvy46 i (x + 1) Fvy33 rvy46 st op ai fa mu tb tp := okMr.upd hM hgy52 hKy68 (fun f a => hFy53 f (by omega) (by omega) (by omega)) hcvy46 (hAy47.mono (by omega)) (fun j a b => by
          exact Or.inl (by rw [hfvy46 _ (by omega)]; rw [hfvy33 _ (by omega) (by omega)]; rw [egy25, va_up_ne _ _ (by omega)]))
      have hkpy70 : Fvy33 13 = F 13 := ((hFvy33 13 (by decide) (by decide)).trans (fn rfl (by decide)))
      have hkpy71 : Fvy33 14 = F 14 := ((hFvy33 14 (by decide) (by decide)).trans (fn rfl (by decide)))
      have hkpy72 : Fvy33 17 = F 17 := ((hFvy33 17 (by decide) (by decide)).trans (fn rfl (by decide)))
      have hkpy73 : Fvy33 20 = F 20 := ((hFvy33 20 (by decide) (by decide)).trans (fn rfl (by decide)))
      have hkpy74 : Fvy33 21 = F 21 := ((hFvy33 21 (by decide) (by decide)).trans (fn rfl (by decide)))
      have hkpy75 : Fvy33 23 = F 23 := ((hFvy33 23 (by decide) (by decide)).trans (fn rfl (by decide)))
      have hkpy76 : Fvy33 24 = F 24 := ((hFvy33 24 (by decide) (by decide)).trans (fn rfl (by decide)))
      exact z_iret C hr hlk dX10_dig_62 (by decide) (by decide) ⟨xy49, rfl, rfl, rfl, by omega, ⟨_, _, hMy69, ⟨hkpy70, hkpy71, hkpy72, hkpy73, hkpy74, hkpy75, hkpy76⟩⟩, fun j j1 => by rw [hfvy46 _ (by omega)]; rw [hfvy33 _ (by omega) (by omega)]; rw [egy25, va_up_ne _ _ (by omega)]⟩
    · refine z_aload_n C 0 dX10_dig_28 rfl ?_
      refine z_iconst (z := 1) C dX10_dig_29 rfl ?_
      have hgy77 := up_n egy25 ha11 (ne_o (i := i) (c := 11) (d := 0) rfl)
      refine z_cV (As := [.int (zI (1))]) (rest := []) (ci := 12) C (c_X10_refuses l D A cs tt N ad _ i hN _ hgy26 _ hgy77 (1) (by omega)) (lt_A0 hN rfl) hay1 hgy26 rfl rfl mv_yX10_refuses q_1866 hd_yX10_refuses (by decide) (Nat.le_of_ble_eq_true rfl) (by decide) dX10_dig_30 rfl (kI0 fun vy78 gvy78 hvy78 => ?_)
      obtain ⟨hrvy78, ⟨tvy78, hdvy78⟩, hfvy78⟩ := hvy78
      have hgy79 := (hfvy78 (i) (ne_o (i := i) (c := 0) (d := 11) rfl)).trans hgy26
      have hgy80 := (hfvy78 (i + 1) (ne_o (i := i) (c := 1) (d := 11) rfl)).trans hgy30
      have hFy81 : ∀ f, f ≠ 12 → (uZ F 12 (0)) f = F f := fun f n12 => ((uZ_n _ _ n12).trans rfl)
      have hey82 : (uZ F 12 (0)) 13 = F 13 := (fn rfl (by decide))
      have hey83 : (uZ F 12 (0)) 14 = F 14 := (fn rfl (by decide))
      have hey84 : (uZ F 12 (0)) 15 = F 15 := (fn rfl (by decide))
      have hey85 : (uZ F 12 (0)) 16 = F 16 := (fn rfl (by decide))
      have hey86 : (uZ F 12 (0)) 17 = F 17 := (fn rfl (by decide))
      have hey87 : (uZ F 12 (0)) 18 = F 18 := (fn rfl (by decide))
      have hey88 : (uZ F 12 (0)) 19 = F 19 := (fn rfl (by decide))
      have hey89 : (uZ F 12 (0)) 20 = F 20 := (fn rfl (by decide))
      have hey90 : (uZ F 12 (0)) 21 = F 21 := (fn rfl (by decide))
      have hey91 : (uZ F 12 (0)) 23 = F 23 := (fn rfl (by decide))
      have hey92 : (uZ F 12 (0)) 25 = F 25 := (fn rfl (by decide))
      have hey93 : (uZ F 12 (0)) 27 = F 27 := (fn rfl (by decide))
      have hey94 : (uZ F 12 (0)) 28 = F 28 := (fn rfl (by decide))
      have hey95 : (uZ F 12 (0)) 29 = F 29 := (fn rfl (by decide))
      have hKy96 : okF (uZ F 12 (0)) := okF.mv hM.2.1 hey82 hey83 hey84 hey85 hey86 hey87 hey88 hey89 hey90 hey91 hey92 hey93 hey94 hey95
      have hMy97 : okMr cs ad gvy78 i (x + 1) (uZ F 12 (0)) r st op ai fa mu tb tp := okMr.upd hM hgy79 hKy96 (fun f a => hFy81 f (by omega)) hgy80 (hA.mono (by omega)) (fun j a b => by
          by_cases e0 : j = i + 11
          · exact Or.inr ⟨11, _, e0, lsP.l (by decide), by rw [e0]; exact hdvy78⟩
          exact Or.inl (by rw [hfvy78 _ (by omega)]; rw [egy25, va_up_ne _ _ (by omega)]))
      have hkpy98 : (uZ F 12 (0)) 13 = F 13 := (fn rfl (by decide))
      have hkpy99 : (uZ F 12 (0)) 14 = F 14 := (fn rfl (by decide))
      have hkpy100 : (uZ F 12 (0)) 17 = F 17 := (fn rfl (by decide))
      have hkpy101 : (uZ F 12 (0)) 20 = F 20 := (fn rfl (by decide))
      have hkpy102 : (uZ F 12 (0)) 21 = F 21 := (fn rfl (by decide))
      have hkpy103 : (uZ F 12 (0)) 23 = F 23 := (fn rfl (by decide))
      have hkpy104 : (uZ F 12 (0)) 24 = F 24 := (fn rfl (by decide))
      exact z_iret C hr hlk dX10_dig_33 (by decide) (by decide) ⟨vy78, rfl, rfl, rfl, by omega, ⟨_, _, hMy97, ⟨hkpy98, hkpy99, hkpy100, hkpy101, hkpy102, hkpy103, hkpy104⟩⟩, fun j j1 => by rw [hfvy78 _ (by omega)]; rw [egy25, va_up_ne _ _ (by omega)]⟩
  · refine z_if_eq (tgt := 28) C dX10_dig_16 (by decide) (by omega) (fun _ => ?_) (fun h => absurd h (by omega))
    refine z_aload_n C 0 dX10_dig_28 rfl ?_
    refine z_iconst (z := 1) C dX10_dig_29 rfl ?_
    have hgy105 := up_n egy25 ha11 (ne_o (i := i) (c := 11) (d := 0) rfl)
    refine z_cV (As := [.int (zI (1))]) (rest := []) (ci := 12) C (c_X10_refuses l D A cs tt N ad _ i hN _ hgy26 _ hgy105 (1) (by omega)) (lt_A0 hN rfl) hay1 hgy26 rfl rfl mv_yX10_refuses q_1866 hd_yX10_refuses (by decide) (Nat.le_of_ble_eq_true rfl) (by decide) dX10_dig_30 rfl (kI0 fun vy106 gvy106 hvy106 => ?_)
    obtain ⟨hrvy106, ⟨tvy106, hdvy106⟩, hfvy106⟩ := hvy106
    have hgy107 := (hfvy106 (i) (ne_o (i := i) (c := 0) (d := 11) rfl)).trans hgy26
    have hgy108 := up_n egy25 ha1 (ne_o (i := i) (c := 1) (d := 0) rfl)
    have hgy109 := (hfvy106 (i + 1) (ne_o (i := i) (c := 1) (d := 11) rfl)).trans hgy108
    have hFy110 : ∀ f, f ≠ 12 → (uZ F 12 (0)) f = F f := fun f n12 => ((uZ_n _ _ n12).trans rfl)
    have hey111 : (uZ F 12 (0)) 13 = F 13 := (fn rfl (by decide))
    have hey112 : (uZ F 12 (0)) 14 = F 14 := (fn rfl (by decide))
    have hey113 : (uZ F 12 (0)) 15 = F 15 := (fn rfl (by decide))
    have hey114 : (uZ F 12 (0)) 16 = F 16 := (fn rfl (by decide))
    have hey115 : (uZ F 12 (0)) 17 = F 17 := (fn rfl (by decide))
    have hey116 : (uZ F 12 (0)) 18 = F 18 := (fn rfl (by decide))
    have hey117 : (uZ F 12 (0)) 19 = F 19 := (fn rfl (by decide))
    have hey118 : (uZ F 12 (0)) 20 = F 20 := (fn rfl (by decide))
    have hey119 : (uZ F 12 (0)) 21 = F 21 := (fn rfl (by decide))
    have hey120 : (uZ F 12 (0)) 23 = F 23 := (fn rfl (by decide))
    have hey121 : (uZ F 12 (0)) 25 = F 25 := (fn rfl (by decide))
    have hey122 : (uZ F 12 (0)) 27 = F 27 := (fn rfl (by decide))
    have hey123 : (uZ F 12 (0)) 28 = F 28 := (fn rfl (by decide))
    have hey124 : (uZ F 12 (0)) 29 = F 29 := (fn rfl (by decide))
    have hKy125 : okF (uZ F 12 (0)) := okF.mv hM.2.1 hey111 hey112 hey113 hey114 hey115 hey116 hey117 hey118 hey119 hey120 hey121 hey122 hey123 hey124
    have hMy126 : okMr cs ad gvy106 i (x + 1) (uZ F 12 (0)) r st op ai fa mu tb tp := okMr.upd hM hgy107 hKy125 (fun f a => hFy110 f (by omega)) hgy109 (hA.mono (by omega)) (fun j a b => by
        by_cases e0 : j = i + 11
        · exact Or.inr ⟨11, _, e0, lsP.l (by decide), by rw [e0]; exact hdvy106⟩
        exact Or.inl (by rw [hfvy106 _ (by omega)]; rw [egy25, va_up_ne _ _ (by omega)]))
    have hkpy127 : (uZ F 12 (0)) 13 = F 13 := (fn rfl (by decide))
    have hkpy128 : (uZ F 12 (0)) 14 = F 14 := (fn rfl (by decide))
    have hkpy129 : (uZ F 12 (0)) 17 = F 17 := (fn rfl (by decide))
    have hkpy130 : (uZ F 12 (0)) 20 = F 20 := (fn rfl (by decide))
    have hkpy131 : (uZ F 12 (0)) 21 = F 21 := (fn rfl (by decide))
    have hkpy132 : (uZ F 12 (0)) 23 = F 23 := (fn rfl (by decide))
    have hkpy133 : (uZ F 12 (0)) 24 = F 24 := (fn rfl (by decide))
    exact z_iret C hr hlk dX10_dig_33 (by decide) (by decide) ⟨vy106, rfl, rfl, rfl, by omega, ⟨_, _, hMy126, ⟨hkpy127, hkpy128, hkpy129, hkpy130, hkpy131, hkpy132, hkpy133⟩⟩, fun j j1 => by rw [hfvy106 _ (by omega)]; rw [egy25, va_up_ne _ _ (by omega)]⟩

set_option maxRecDepth 100000 in
set_option maxHeartbeats 4000000 in
theorem c_X10_dig_b (l : Launch) (D : va_G) (A : Nat → Prop) (cs : Nat → ClassId) (tt : Nat) (N : Nat) (ad : Nat → Nat) (g : Nat → va_E) (i : Nat) (hN : i + 30 ≤ N) (x : Int) (hx : 0 ≤ x ∧ x ≤ 512) (F r : Nat → Int) {st op ai fa mu tb tp : Nat → Int} (hM : okMr cs ad g i x F r st op ai fa mu tb tp) (z : Int) (hz : -2147483648 ≤ z ∧ z ≤ 2147483647) (hzo : z < 0 ∨ 3 < z) : zM l yX10_dig cX10_dig 3 (some .int) ({ frames := 5, cells := 0, slots := 0, locals := 300 } : Room) D A cs tt N ad g [.ref (ad i), .int (zI (z))] (rI0 N ad fun q g' => (-2147483648 ≤ q ∧ q ≤ 2147483647) ∧ (∃ F' r' : Nat → Int, okMr cs ad g' i (x + 1) F' r' st op ai fa mu tb tp ∧ (F' 13 = F 13 ∧ F' 14 = F 14 ∧ F' 17 = F 17 ∧ F' 20 = F 20 ∧ F' 21 = F 21 ∧ F' 23 = F 23 ∧ F' 24 = F 24)) ∧ ∀ j, j < i ∨ i + 30 ≤ j → g' j = g j) := by
  obtain ⟨hg, ⟨⟨e13, e14, e25, e27, e29⟩, k15, k16, k17, k18, k19, k20, k23, k21⟩, hRD, hTx, hA, ns, nh, nd, rf, pi, te, ki, li, ok1, ok2, fo, dd, dps, ⟨ha1, ha2, ha3, ha4, ha5, ha6, ha7, ha8, ha9, ha10, ha11, ha12, ha13, ha14, ha15, ha24, ha25, ha26, ha27, ha28, ha29⟩, hEv, hPt, hns, htp⟩ := id hM
  obtain ⟨-, hop, hai, hfa, hT, hT1⟩ := id hEv
  have hay1 : zAt ad (i) (ad i) := rfl
  have hay2 : zAt ad (i + 1) (ad (i + 1)) := rfl
  have hay3 : zAt ad (i + 2) (ad (i + 2)) := rfl
  have hay4 : zAt ad (i + 3) (ad (i + 3)) := rfl
  have hay5 : zAt ad (i + 4) (ad (i + 4)) := rfl
  have hay6 : zAt ad (i + 5) (ad (i + 5)) := rfl
  have hay7 : zAt ad (i + 6) (ad (i + 6)) := rfl
  have hay8 : zAt ad (i + 7) (ad (i + 7)) := rfl
  have hay9 : zAt ad (i + 8) (ad (i + 8)) := rfl
  have hay10 : zAt ad (i + 9) (ad (i + 9)) := rfl
  have hay11 : zAt ad (i + 10) (ad (i + 10)) := rfl
  have hay12 : zAt ad (i + 11) (ad (i + 11)) := rfl
  have hay13 : zAt ad (i + 12) (ad (i + 12)) := rfl
  have hay14 : zAt ad (i + 13) (ad (i + 13)) := rfl
  have hay15 : zAt ad (i + 14) (ad (i + 14)) := rfl
  have hay16 : zAt ad (i + 15) (ad (i + 15)) := rfl
  have hay17 : zAt ad (i + 24) (ad (i + 24)) := rfl
  have hay18 : zAt ad (i + 25) (ad (i + 25)) := rfl
  have hay19 : zAt ad (i + 26) (ad (i + 26)) := rfl
  have hay20 : zAt ad (i + 27) (ad (i + 27)) := rfl
  have hay21 : zAt ad (i + 28) (ad (i + 28)) := rfl
  have hay22 : zAt ad (i + 29) (ad (i + 29)) := rfl
  obtain ⟨⟨hsyy23, htyy23, hnyy23, hpyy23⟩, hlyy23⟩ := okA.at0 hA
  simp only [Nat.zero_add] at hsyy23 hnyy23 hpyy23
  have hmn : ∀ s, s < 4 → 0 ≤ r (6 + 86 * s) ∧ r (6 + 86 * s) ≤ 12 := fun s hs => (hsyy23 s hs).1
  have h5 : 0 ≤ r 5 ∧ r 5 ≤ 6 := hpyy23
  refine z_of (by decide) (Nat.le_of_ble_eq_true rfl) ?_
  intro pZ eZ sZ mZ below meth cZ C hr hlk hnm
  refine z_lv (lv' := [(0, .ref (ad i)), (1, .int (zI (z)))]) [0, 1] rfl ?_
  refine z_aload_n C 0 dX10_dig_0 rfl ?_
  refine z_iconst (z := 0) C dX10_dig_1 rfl ?_
  refine z_put (fs' := mF ad (i) (uZ F 12 (0))) C (lt_A0 hN rfl) hay1 hg tyX10 tyX10_ok nmX10 rfl inA_X10 12 (by decide) q_1471 rfl rfl rfl rfl (Nat.le_of_ble_eq_true rfl) rfl dX10_dig_2 (fun gy24 egy25 => ?_)
  have hgy26 := up_s egy25
  refine z_iload_n C 1 dX10_dig_5 rfl ?_
  refine z_iconst (z := 0) C dX10_dig_6 rfl ?_
  refine z_aload_n C 0 dX10_dig_7 rfl ?_
  refine z_get (v := .int (zI (F 13))) C (lt_A0 hN rfl) hay1 hgy26 rfl inA_X10 13 (by decide) q_1472 rfl (fv (F := (uZ F 12 (0))) (f := 13) (fn rfl (by decide))) dX10_dig_8 ?_
  refine z_iconst (z := 1) C dX10_dig_11 rfl ?_
  refine z_isub C dX10_dig_12 ?_
  refine z_cS (As := [.int (zI (z)), .int (zI (0)), .int (zI ((F 13) - 1))]) (rest := []) C (c_X10_within l D A cs tt N ad _ (z) (by omega) (0) (by omega) ((F 13) - 1) (by omega)) ms_yX10_within q_1686 hd_yX10_within (by decide) (Nat.le_of_ble_eq_true rfl) (by decide) dX10_dig_13 rfl (kI0 fun vy27 gvy27 hvy27 => ?_)
  obtain ⟨hvy27, rfl⟩ := hvy27
  obtain rfl : vy27 = 0 := by omega
  refine z_if_eq (tgt := 28) C dX10_dig_16 (by decide) (by omega) (fun _ => ?_) (fun h => absurd h (by omega))
  refine z_aload_n C 0 dX10_dig_28 rfl ?_
  refine z_iconst (z := 1) C dX10_dig_29 rfl ?_
  have hgy28 := up_n egy25 ha11 (ne_o (i := i) (c := 11) (d := 0) rfl)
  refine z_cV (As := [.int (zI (1))]) (rest := []) (ci := 12) C (c_X10_refuses l D A cs tt N ad _ i hN _ hgy26 _ hgy28 (1) (by omega)) (lt_A0 hN rfl) hay1 hgy26 rfl rfl mv_yX10_refuses q_1866 hd_yX10_refuses (by decide) (Nat.le_of_ble_eq_true rfl) (by decide) dX10_dig_30 rfl (kI0 fun vy29 gvy29 hvy29 => ?_)
  obtain ⟨hrvy29, ⟨tvy29, hdvy29⟩, hfvy29⟩ := hvy29
  have hgy30 := (hfvy29 (i) (ne_o (i := i) (c := 0) (d := 11) rfl)).trans hgy26
  have hgy31 := up_n egy25 ha1 (ne_o (i := i) (c := 1) (d := 0) rfl)
  have hgy32 := (hfvy29 (i + 1) (ne_o (i := i) (c := 1) (d := 11) rfl)).trans hgy31
  have hFy33 : ∀ f, f ≠ 12 → (uZ F 12 (0)) f = F f := fun f n12 => ((uZ_n _ _ n12).trans rfl)
  have hey34 : (uZ F 12 (0)) 13 = F 13 := (fn rfl (by decide))
  have hey35 : (uZ F 12 (0)) 14 = F 14 := (fn rfl (by decide))
  have hey36 : (uZ F 12 (0)) 15 = F 15 := (fn rfl (by decide))
  have hey37 : (uZ F 12 (0)) 16 = F 16 := (fn rfl (by decide))
  have hey38 : (uZ F 12 (0)) 17 = F 17 := (fn rfl (by decide))
  have hey39 : (uZ F 12 (0)) 18 = F 18 := (fn rfl (by decide))
  have hey40 : (uZ F 12 (0)) 19 = F 19 := (fn rfl (by decide))
  have hey41 : (uZ F 12 (0)) 20 = F 20 := (fn rfl (by decide))
  have hey42 : (uZ F 12 (0)) 21 = F 21 := (fn rfl (by decide))
  have hey43 : (uZ F 12 (0)) 23 = F 23 := (fn rfl (by decide))
  have hey44 : (uZ F 12 (0)) 25 = F 25 := (fn rfl (by decide))
  have hey45 : (uZ F 12 (0)) 27 = F 27 := (fn rfl (by decide))
  have hey46 : (uZ F 12 (0)) 28 = F 28 := (fn rfl (by decide))
  have hey47 : (uZ F 12 (0)) 29 = F 29 := (fn rfl (by decide))
  have hKy48 : okF (uZ F 12 (0)) := okF.mv hM.2.1 hey34 hey35 hey36 hey37 hey38 hey39 hey40 hey41 hey42 hey43 hey44 hey45 hey46 hey47
  have hMy49 : okMr cs ad gvy29 i (x + 1) (uZ F 12 (0)) r st op ai fa mu tb tp := okMr.upd hM hgy30 hKy48 (fun f a => hFy33 f (by omega)) hgy32 (hA.mono (by omega)) (fun j a b => by
      by_cases e0 : j = i + 11
      · exact Or.inr ⟨11, _, e0, lsP.l (by decide), by rw [e0]; exact hdvy29⟩
      exact Or.inl (by rw [hfvy29 _ (by omega)]; rw [egy25, va_up_ne _ _ (by omega)]))
  have hkpy50 : (uZ F 12 (0)) 13 = F 13 := (fn rfl (by decide))
  have hkpy51 : (uZ F 12 (0)) 14 = F 14 := (fn rfl (by decide))
  have hkpy52 : (uZ F 12 (0)) 17 = F 17 := (fn rfl (by decide))
  have hkpy53 : (uZ F 12 (0)) 20 = F 20 := (fn rfl (by decide))
  have hkpy54 : (uZ F 12 (0)) 21 = F 21 := (fn rfl (by decide))
  have hkpy55 : (uZ F 12 (0)) 23 = F 23 := (fn rfl (by decide))
  have hkpy56 : (uZ F 12 (0)) 24 = F 24 := (fn rfl (by decide))
  exact z_iret C hr hlk dX10_dig_33 (by decide) (by decide) ⟨vy29, rfl, rfl, rfl, by omega, ⟨_, _, hMy49, ⟨hkpy50, hkpy51, hkpy52, hkpy53, hkpy54, hkpy55, hkpy56⟩⟩, fun j j1 => by rw [hfvy29 _ (by omega)]; rw [egy25, va_up_ne _ _ (by omega)]⟩

set_option maxRecDepth 100000 in
set_option maxHeartbeats 4000000 in
theorem c_X10_dig (l : Launch) (D : va_G) (A : Nat → Prop) (cs : Nat → ClassId) (tt : Nat) (N : Nat) (ad : Nat → Nat) (g : Nat → va_E) (i : Nat) (hN : i + 30 ≤ N) (x : Int) (hx : 0 ≤ x ∧ x ≤ 512) (F r : Nat → Int) {st op ai fa mu tb tp : Nat → Int} (hM : okMr cs ad g i x F r st op ai fa mu tb tp) (z : Int) (hz : -2147483648 ≤ z ∧ z ≤ 2147483647) : zM l yX10_dig cX10_dig 3 (some .int) ({ frames := 5, cells := 0, slots := 0, locals := 300 } : Room) D A cs tt N ad g [.ref (ad i), .int (zI (z))] (rI0 N ad fun q g' => (-2147483648 ≤ q ∧ q ≤ 2147483647) ∧ (∃ F' r' : Nat → Int, okMr cs ad g' i (x + 1) F' r' st op ai fa mu tb tp ∧ (F' 13 = F 13 ∧ F' 14 = F 14 ∧ F' 17 = F 17 ∧ F' 20 = F 20 ∧ F' 21 = F 21 ∧ F' 23 = F 23 ∧ F' 24 = F 24)) ∧ ∀ j, j < i ∨ i + 30 ≤ j → g' j = g j) := by
  by_cases h9 : 0 ≤ z ∧ z ≤ 3
  · obtain ⟨n, rfl⟩ : ∃ n : Nat, z = (n : Int) := ⟨z.toNat, by omega⟩
    exact c_X10_dig_a l D A cs tt N ad g i hN x hx F r hM n (by omega) 
  · exact c_X10_dig_b l D A cs tt N ad g i hN x hx F r hM z hz (by omega) 

set_option maxRecDepth 100000 in
set_option maxHeartbeats 4000000 in
theorem c_X10_slide_a (l : Launch) (D : va_G) (A : Nat → Prop) (cs : Nat → ClassId) (tt : Nat) (N : Nat) (ad : Nat → Nat) (g : Nat → va_E) (i : Nat) (hN : i + 30 ≤ N) (x : Int) (hx : 0 ≤ x ∧ x ≤ 512) (F r : Nat → Int) {st op ai fa mu tb tp : Nat → Int} (hM : okMr cs ad g i x F r st op ai fa mu tb tp) (n : Nat) (hn4 : n < 4) : zM l yX10_slide cX10_slide 2 (some .int) ({ frames := 11, cells := 0, slots := 0, locals := 660 } : Room) D A cs tt N ad g [.ref (ad i), .int (zI ((n : Int)))] (rI0 N ad fun q g' => (-2147483648 ≤ q ∧ q ≤ 2147483647) ∧ (∃ F' r' : Nat → Int, okMr cs ad g' i (x + 1) F' r' st op ai fa mu tb tp ∧ (F' 13 = F 13 ∧ F' 14 = F 14 ∧ F' 17 = F 17 ∧ F' 20 = F 20 ∧ F' 21 = F 21 ∧ F' 23 = F 23 ∧ F' 24 = F 24)) ∧ ∀ j, j < i ∨ i + 30 ≤ j → g' j = g j) := by
  obtain ⟨hg, ⟨⟨e13, e14, e25, e27, e29⟩, k15, k16, k17, k18, k19, k20, k23, k21⟩, hRD, hTx, hA, ns, nh, nd, rf, pi, te, ki, li, ok1, ok2, fo, dd, dps, ⟨ha1, ha2, ha3, ha4, ha5, ha6, ha7, ha8, ha9, ha10, ha11, ha12, ha13, ha14, ha15, ha24, ha25, ha26, ha27, ha28, ha29⟩, hEv, hPt, hns, htp⟩ := id hM
  obtain ⟨-, hop, hai, hfa, hT, hT1⟩ := id hEv
  have hay1 : zAt ad (i) (ad i) := rfl
  have hay2 : zAt ad (i + 1) (ad (i + 1)) := rfl
  have hay3 : zAt ad (i + 2) (ad (i + 2)) := rfl
  have hay4 : zAt ad (i + 3) (ad (i + 3)) := rfl
  have hay5 : zAt ad (i + 4) (ad (i + 4)) := rfl
  have hay6 : zAt ad (i + 5) (ad (i + 5)) := rfl
  have hay7 : zAt ad (i + 6) (ad (i + 6)) := rfl
  have hay8 : zAt ad (i + 7) (ad (i + 7)) := rfl
  have hay9 : zAt ad (i + 8) (ad (i + 8)) := rfl
  have hay10 : zAt ad (i + 9) (ad (i + 9)) := rfl
  have hay11 : zAt ad (i + 10) (ad (i + 10)) := rfl
  have hay12 : zAt ad (i + 11) (ad (i + 11)) := rfl
  have hay13 : zAt ad (i + 12) (ad (i + 12)) := rfl
  have hay14 : zAt ad (i + 13) (ad (i + 13)) := rfl
  have hay15 : zAt ad (i + 14) (ad (i + 14)) := rfl
  have hay16 : zAt ad (i + 15) (ad (i + 15)) := rfl
  have hay17 : zAt ad (i + 24) (ad (i + 24)) := rfl
  have hay18 : zAt ad (i + 25) (ad (i + 25)) := rfl
  have hay19 : zAt ad (i + 26) (ad (i + 26)) := rfl
  have hay20 : zAt ad (i + 27) (ad (i + 27)) := rfl
  have hay21 : zAt ad (i + 28) (ad (i + 28)) := rfl
  have hay22 : zAt ad (i + 29) (ad (i + 29)) := rfl
  obtain ⟨⟨hsyy23, htyy23, hnyy23, hpyy23⟩, hlyy23⟩ := okA.at0 hA
  simp only [Nat.zero_add] at hsyy23 hnyy23 hpyy23
  have hmn : ∀ s, s < 4 → 0 ≤ r (6 + 86 * s) ∧ r (6 + 86 * s) ≤ 12 := fun s hs => (hsyy23 s hs).1
  have h5 : 0 ≤ r 5 ∧ r 5 ≤ 6 := hpyy23
  refine z_of (by decide) (Nat.le_of_ble_eq_true rfl) ?_
  intro pZ eZ sZ mZ below meth cZ C hr hlk hnm
  refine z_lv (lv' := [(0, .ref (ad i)), (1, .int (zI ((n : Int))))]) [0, 1] rfl ?_
  refine z_aload_n C 0 dX10_slide_0 rfl ?_
  refine z_iconst (z := 0) C dX10_slide_1 rfl ?_
  refine z_put (fs' := mF ad (i) (uZ F 12 (0))) C (lt_A0 hN rfl) hay1 hg tyX10 tyX10_ok nmX10 rfl inA_X10 12 (by decide) q_1471 rfl rfl rfl rfl (Nat.le_of_ble_eq_true rfl) rfl dX10_slide_2 (fun gy24 egy25 => ?_)
  have hgy26 := up_s egy25
  refine z_iload_n C 1 dX10_slide_5 rfl ?_
  refine z_iconst (z := 0) C dX10_slide_6 rfl ?_
  refine z_aload_n C 0 dX10_slide_7 rfl ?_
  refine z_get (v := .int (zI (F 13))) C (lt_A0 hN rfl) hay1 hgy26 rfl inA_X10 13 (by decide) q_1472 rfl (fv (F := (uZ F 12 (0))) (f := 13) (fn rfl (by decide))) dX10_slide_8 ?_
  refine z_iconst (z := 1) C dX10_slide_11 rfl ?_
  refine z_isub C dX10_slide_12 ?_
  refine z_cS (As := [.int (zI ((n : Int))), .int (zI (0)), .int (zI ((F 13) - 1))]) (rest := []) C (c_X10_within l D A cs tt N ad _ ((n : Int)) (by omega) (0) (by omega) ((F 13) - 1) (by omega)) ms_yX10_within q_1686 hd_yX10_within (by decide) (Nat.le_of_ble_eq_true rfl) (by decide) dX10_slide_13 rfl (kI0 fun vy27 gvy27 hvy27 => ?_)
  obtain ⟨hvy27, rfl⟩ := hvy27
  rcases hvy27 with ⟨rfl, hxvy27⟩ | ⟨rfl, hxvy27⟩
  · refine z_if_eq (tgt := 28) C dX10_slide_16 (by decide) (by omega) (fun h => absurd h (by omega)) (fun _ => ?_)
    refine z_aload_n C 0 dX10_slide_19 rfl ?_
    refine z_iconst (z := 0) C dX10_slide_20 rfl ?_
    refine z_iload_n C 1 dX10_slide_21 rfl ?_
    obtain ⟨py28, hpy28⟩ : ∃ p9 : Nat, 0 + 6 + 86 * n = p9 := ⟨_, rfl⟩
    have hgy29 := up_n egy25 ha1 (ne_o (i := i) (c := 1) (d := 0) rfl)
    have hgy31 := up_n egy25 ha2 (ne_o (i := i) (c := 2) (d := 0) rfl)
    have hgy32 := up_n egy25 ha7 (ne_o (i := i) (c := 7) (d := 0) rfl)
    have hqy33 : qS r py28 := (((okA.at0 hA).1.1 n (by omega)).of (p2 := py28) (by omega)).q (by have hb9 := mBb (t := r 0 + x) (by omega); omega)
    have hmky34 := hqy33.1
    refine z_cV (As := [.int (zI (0)), .int (zI ((n : Int)))]) (rest := []) (ci := 12) C (c_X10_isUnstable l D A cs tt N ad _ i hN _ hgy26 _ hgy29 _ hgy31 _ hgy32 0 n py28 hpy28 (by omega) (by omega) hqy33) (lt_A0 hN rfl) hay1 hgy26 rfl rfl mv_yX10_isUnstable q_1811 hd_yX10_isUnstable (by decide) (Nat.le_of_ble_eq_true rfl) (by decide) dX10_slide_22 rfl (kI0 fun vy30 gvy30 hvy30 => ?_)
    obtain ⟨hvy30, rfl⟩ := hvy30
    refine z_if_ne (tgt := 34) C dX10_slide_25 (by decide) (by omega) (fun hby35 => ?_) (fun hby35 => ?_)
    · refine z_aload_n C 0 dX10_slide_34 rfl ?_
      have hey37 : (uZ F 12 (0)) 15 = F 15 := (fn rfl (by decide))
      have hey38 : (uZ F 12 (0)) 16 = F 16 := (fn rfl (by decide))
      refine z_cV (As := []) (rest := []) (ci := 12) C (c_X10_keeps l D A cs tt N ad _ i hN _ hgy26 _ hgy29 (x) hA (by omega) (by omega)) (lt_A0 hN rfl) hay1 hgy26 rfl rfl mv_yX10_keeps q_1870 hd_yX10_keeps (by decide) (Nat.le_of_ble_eq_true rfl) (by decide) dX10_slide_35 rfl (kV0 fun gvy36 hvy36 => ?_)
      obtain ⟨⟨Fvy36, hcvy36, hbvy36, hFvy36⟩, ⟨rvy36, hdvy36, hAvy36, hyvy36⟩, hfvy36⟩ := hvy36
      have hk0vy36 : rvy36 0 = r 0 := hyvy36 0 (by omega)
      have hk1vy36 : rvy36 1 = r 1 := hyvy36 1 (by omega)
      have hk5vy36 : rvy36 5 = r 5 := hyvy36 5 (by omega)
      have hkpy39 : rvy36 py28 = r py28 := hyvy36 py28 (by omega)
      obtain ⟨⟨hsyy40, htyy40, hnyy40, hpyy40⟩, hlyy40⟩ := okA.at0 hAvy36
      simp only [Nat.zero_add] at hsyy40 hnyy40 hpyy40
      have hmn : ∀ s, s < 4 → 0 ≤ rvy36 (6 + 86 * s) ∧ rvy36 (6 + 86 * s) ≤ 12 := fun s hs => (hsyy40 s hs).1
      have h5 : 0 ≤ rvy36 5 ∧ rvy36 5 ≤ 6 := hpyy40
      refine z_aload_n C 0 dX10_slide_38 rfl ?_
      refine z_iconst (z := 0) C dX10_slide_39 rfl ?_
      refine z_iload_n C 1 dX10_slide_40 rfl ?_
      have hSy41 := ((okA.at0 hAvy36).1.1 n (by omega)).of (p2 := py28) (by omega)
      obtain ⟨b1hSy41, b2hSy41, b3hSy41, b4hSy41⟩ := mBb (t := rvy36 0 + x) (by omega)
      have hmky42 := hSy41.1
      have hcy43n := (okA.at0 hAvy36).1.2.2.1
      have hcy43t := (okA.at0 hAvy36).1.2.1
      have hgy45 := (hfvy36 (i + 2) (ne_o (i := i) (c := 2) (d := 0) rfl) (ne_o (i := i) (c := 2) (d := 1) rfl)).trans hgy31
      have hgy46 := (hfvy36 (i + 7) (ne_o (i := i) (c := 7) (d := 0) rfl) (ne_o (i := i) (c := 7) (d := 1) rfl)).trans hgy32
      refine z_cV (As := [.int (zI (0)), .int (zI ((n : Int)))]) (rest := []) (ci := 12) C (c_X10_slides l D A cs tt N ad _ i hN _ hcvy36 _ hdvy36 _ hgy45 _ hgy46 0 n py28 hpy28 (by omega) (by omega) (mB (rvy36 0 + x)) (eB (rvy36 0 + x)) (by omega) (by omega) hSy41) (lt_A0 hN rfl) hay1 hcvy36 rfl rfl mv_yX10_slides q_1964 hd_yX10_slides (by decide) (Nat.le_of_ble_eq_true rfl) (by decide) dX10_slide_41 rfl (kI0 fun vy44 gvy44 hvy44 => ?_)
      obtain ⟨hrvy44, ⟨rvy44, hcvy44, hovy44, hyvy44⟩, hfvy44⟩ := hvy44
      have hcy430 : rvy44 0 = rvy36 0 := (hyvy44 0 (by omega) (by omega) (by omega) (by omega))
      have hcy43 : okW rvy44 0 (x) := okW.slope0 (okA.at0 hAvy36).1 (s := n) (p := py28) (by omega) (by omega) hovy44 (fun j a1 a2 a3 a4 a5 a6 => hyvy44 j a3 a4 a5 a6)
      have hAy47 : okA rvy44 (x) := okA.first hAvy36 (Int.le_refl _) (fun j a => (hyvy44 j (by omega) (by omega) (by omega) (by omega))) hcy43 (by omega)
      obtain ⟨⟨hsyy48, htyy48, hnyy48, hpyy48⟩, hlyy48⟩ := okA.at0 hAy47
      simp only [Nat.zero_add] at hsyy48 hnyy48 hpyy48
      have hmn : ∀ s, s < 4 → 0 ≤ rvy44 (6 + 86 * s) ∧ rvy44 (6 + 86 * s) ≤ 12 := fun s hs => (hsyy48 s hs).1
      have h5 : 0 ≤ rvy44 5 ∧ rvy44 5 ≤ 6 := hpyy48
      have hgy49 := (hfvy44 (i) (ne_o (i := i) (c := 0) (d := 1) rfl)).trans hcvy36
      have hFy50 : ∀ f, f ≠ 12 → f ≠ 15 → f ≠ 16 → Fvy36 f = F f := fun f n12 n15 n16 => ((hFvy36 f n15 n16).trans ((uZ_n _ _ n12).trans rfl))
      have hey51 : Fvy36 13 = F 13 := ((hFvy36 13 (by decide) (by decide)).trans (fn rfl (by decide)))
      have hey52 : Fvy36 14 = F 14 := ((hFvy36 14 (by decide) (by decide)).trans (fn rfl (by decide)))
      have hey53 : Fvy36 15 = Fvy36 15 := rfl
      have hey54 : Fvy36 16 = Fvy36 16 := rfl
      have hey55 : Fvy36 17 = F 17 := ((hFvy36 17 (by decide) (by decide)).trans (fn rfl (by decide)))
      have hey56 : Fvy36 18 = F 18 := ((hFvy36 18 (by decide) (by decide)).trans (fn rfl (by decide)))
      have hey57 : Fvy36 19 = F 19 := ((hFvy36 19 (by decide) (by decide)).trans (fn rfl (by decide)))
      have hey58 : Fvy36 20 = F 20 := ((hFvy36 20 (by decide) (by decide)).trans (fn rfl (by decide)))
      have hey59 : Fvy36 21 = F 21 := ((hFvy36 21 (by decide) (by decide)).trans (fn rfl (by decide)))
      have hey60 : Fvy36 23 = F 23 := ((hFvy36 23 (by decide) (by decide)).trans (fn rfl (by decide)))
      have hey61 : Fvy36 25 = F 25 := ((hFvy36 25 (by decide) (by decide)).trans (fn rfl (by decide)))
      have hey62 : Fvy36 27 = F 27 := ((hFvy36 27 (by decide) (by decide)).trans (fn rfl (by decide)))
      have hey63 : Fvy36 28 = F 28 := ((hFvy36 28 (by decide) (by decide)).trans (fn rfl (by decide)))
      have hey64 : Fvy36 29 = F 29 := ((hFvy36 29 (by decide) (by decide)).trans (fn rfl (by decide)))
      have hKy65 : okF Fvy36 := by unfold okF; omega
      have hMy66 : okMr cs ad gvy44 i (x + 1) Fvy36 rvy44 st op ai fa mu tb tp := okMr.upd hM hgy49 hKy65 (fun f a => hFy50 f (by omega) (by omega) (by omega)) hcvy44 (hAy47.mono (by omega)) (fun j a b => by
          exact Or.inl (by rw [hfvy44 _ (by omega)]; rw [hfvy36 _ (by omega) (by omega)]; rw [egy25, va_up_ne _ _ (by omega)]))
      have hkpy67 : Fvy36 13 = F 13 := ((hFvy36 13 (by decide) (by decide)).trans (fn rfl (by decide)))
      have hkpy68 : Fvy36 14 = F 14 := ((hFvy36 14 (by decide) (by decide)).trans (fn rfl (by decide)))
      have hkpy69 : Fvy36 17 = F 17 := ((hFvy36 17 (by decide) (by decide)).trans (fn rfl (by decide)))
      have hkpy70 : Fvy36 20 = F 20 := ((hFvy36 20 (by decide) (by decide)).trans (fn rfl (by decide)))
      have hkpy71 : Fvy36 21 = F 21 := ((hFvy36 21 (by decide) (by decide)).trans (fn rfl (by decide)))
      have hkpy72 : Fvy36 23 = F 23 := ((hFvy36 23 (by decide) (by decide)).trans (fn rfl (by decide)))
      have hkpy73 : Fvy36 24 = F 24 := ((hFvy36 24 (by decide) (by decide)).trans (fn rfl (by decide)))
      exact z_iret C hr hlk dX10_slide_44 (by decide) (by decide) ⟨vy44, rfl, rfl, rfl, by omega, ⟨_, _, hMy66, ⟨hkpy67, hkpy68, hkpy69, hkpy70, hkpy71, hkpy72, hkpy73⟩⟩, fun j j1 => by rw [hfvy44 _ (by omega)]; rw [hfvy36 _ (by omega) (by omega)]; rw [egy25, va_up_ne _ _ (by omega)]⟩
    · refine z_aload_n C 0 dX10_slide_28 rfl ?_
      refine z_iconst (z := 1) C dX10_slide_29 rfl ?_
      have hgy74 := up_n egy25 ha11 (ne_o (i := i) (c := 11) (d := 0) rfl)
      refine z_cV (As := [.int (zI (1))]) (rest := []) (ci := 12) C (c_X10_refuses l D A cs tt N ad _ i hN _ hgy26 _ hgy74 (1) (by omega)) (lt_A0 hN rfl) hay1 hgy26 rfl rfl mv_yX10_refuses q_1866 hd_yX10_refuses (by decide) (Nat.le_of_ble_eq_true rfl) (by decide) dX10_slide_30 rfl (kI0 fun vy75 gvy75 hvy75 => ?_)
      obtain ⟨hrvy75, ⟨tvy75, hdvy75⟩, hfvy75⟩ := hvy75
      have hgy76 := (hfvy75 (i) (ne_o (i := i) (c := 0) (d := 11) rfl)).trans hgy26
      have hgy77 := (hfvy75 (i + 1) (ne_o (i := i) (c := 1) (d := 11) rfl)).trans hgy29
      have hFy78 : ∀ f, f ≠ 12 → (uZ F 12 (0)) f = F f := fun f n12 => ((uZ_n _ _ n12).trans rfl)
      have hey79 : (uZ F 12 (0)) 13 = F 13 := (fn rfl (by decide))
      have hey80 : (uZ F 12 (0)) 14 = F 14 := (fn rfl (by decide))
      have hey81 : (uZ F 12 (0)) 15 = F 15 := (fn rfl (by decide))
      have hey82 : (uZ F 12 (0)) 16 = F 16 := (fn rfl (by decide))
      have hey83 : (uZ F 12 (0)) 17 = F 17 := (fn rfl (by decide))
      have hey84 : (uZ F 12 (0)) 18 = F 18 := (fn rfl (by decide))
      have hey85 : (uZ F 12 (0)) 19 = F 19 := (fn rfl (by decide))
      have hey86 : (uZ F 12 (0)) 20 = F 20 := (fn rfl (by decide))
      have hey87 : (uZ F 12 (0)) 21 = F 21 := (fn rfl (by decide))
      have hey88 : (uZ F 12 (0)) 23 = F 23 := (fn rfl (by decide))
      have hey89 : (uZ F 12 (0)) 25 = F 25 := (fn rfl (by decide))
      have hey90 : (uZ F 12 (0)) 27 = F 27 := (fn rfl (by decide))
      have hey91 : (uZ F 12 (0)) 28 = F 28 := (fn rfl (by decide))
      have hey92 : (uZ F 12 (0)) 29 = F 29 := (fn rfl (by decide))
      have hKy93 : okF (uZ F 12 (0)) := okF.mv hM.2.1 hey79 hey80 hey81 hey82 hey83 hey84 hey85 hey86 hey87 hey88 hey89 hey90 hey91 hey92
      have hMy94 : okMr cs ad gvy75 i (x + 1) (uZ F 12 (0)) r st op ai fa mu tb tp := okMr.upd hM hgy76 hKy93 (fun f a => hFy78 f (by omega)) hgy77 (hA.mono (by omega)) (fun j a b => by
          by_cases e0 : j = i + 11
          · exact Or.inr ⟨11, _, e0, lsP.l (by decide), by rw [e0]; exact hdvy75⟩
          exact Or.inl (by rw [hfvy75 _ (by omega)]; rw [egy25, va_up_ne _ _ (by omega)]))
      have hkpy95 : (uZ F 12 (0)) 13 = F 13 := (fn rfl (by decide))
      have hkpy96 : (uZ F 12 (0)) 14 = F 14 := (fn rfl (by decide))
      have hkpy97 : (uZ F 12 (0)) 17 = F 17 := (fn rfl (by decide))
      have hkpy98 : (uZ F 12 (0)) 20 = F 20 := (fn rfl (by decide))
      have hkpy99 : (uZ F 12 (0)) 21 = F 21 := (fn rfl (by decide))
      have hkpy100 : (uZ F 12 (0)) 23 = F 23 := (fn rfl (by decide))
      have hkpy101 : (uZ F 12 (0)) 24 = F 24 := (fn rfl (by decide))
      exact z_iret C hr hlk dX10_slide_33 (by decide) (by decide) ⟨vy75, rfl, rfl, rfl, by omega, ⟨_, _, hMy94, ⟨hkpy95, hkpy96, hkpy97, hkpy98, hkpy99, hkpy100, hkpy101⟩⟩, fun j j1 => by rw [hfvy75 _ (by omega)]; rw [egy25, va_up_ne _ _ (by omega)]⟩
  · refine z_if_eq (tgt := 28) C dX10_slide_16 (by decide) (by omega) (fun _ => ?_) (fun h => absurd h (by omega))
    refine z_aload_n C 0 dX10_slide_28 rfl ?_
    refine z_iconst (z := 1) C dX10_slide_29 rfl ?_
    have hgy102 := up_n egy25 ha11 (ne_o (i := i) (c := 11) (d := 0) rfl)
    refine z_cV (As := [.int (zI (1))]) (rest := []) (ci := 12) C (c_X10_refuses l D A cs tt N ad _ i hN _ hgy26 _ hgy102 (1) (by omega)) (lt_A0 hN rfl) hay1 hgy26 rfl rfl mv_yX10_refuses q_1866 hd_yX10_refuses (by decide) (Nat.le_of_ble_eq_true rfl) (by decide) dX10_slide_30 rfl (kI0 fun vy103 gvy103 hvy103 => ?_)
    obtain ⟨hrvy103, ⟨tvy103, hdvy103⟩, hfvy103⟩ := hvy103
    have hgy104 := (hfvy103 (i) (ne_o (i := i) (c := 0) (d := 11) rfl)).trans hgy26
    have hgy105 := up_n egy25 ha1 (ne_o (i := i) (c := 1) (d := 0) rfl)
    have hgy106 := (hfvy103 (i + 1) (ne_o (i := i) (c := 1) (d := 11) rfl)).trans hgy105
    have hFy107 : ∀ f, f ≠ 12 → (uZ F 12 (0)) f = F f := fun f n12 => ((uZ_n _ _ n12).trans rfl)
    have hey108 : (uZ F 12 (0)) 13 = F 13 := (fn rfl (by decide))
    have hey109 : (uZ F 12 (0)) 14 = F 14 := (fn rfl (by decide))
    have hey110 : (uZ F 12 (0)) 15 = F 15 := (fn rfl (by decide))
    have hey111 : (uZ F 12 (0)) 16 = F 16 := (fn rfl (by decide))
    have hey112 : (uZ F 12 (0)) 17 = F 17 := (fn rfl (by decide))
    have hey113 : (uZ F 12 (0)) 18 = F 18 := (fn rfl (by decide))
    have hey114 : (uZ F 12 (0)) 19 = F 19 := (fn rfl (by decide))
    have hey115 : (uZ F 12 (0)) 20 = F 20 := (fn rfl (by decide))
    have hey116 : (uZ F 12 (0)) 21 = F 21 := (fn rfl (by decide))
    have hey117 : (uZ F 12 (0)) 23 = F 23 := (fn rfl (by decide))
    have hey118 : (uZ F 12 (0)) 25 = F 25 := (fn rfl (by decide))
    have hey119 : (uZ F 12 (0)) 27 = F 27 := (fn rfl (by decide))
    have hey120 : (uZ F 12 (0)) 28 = F 28 := (fn rfl (by decide))
    have hey121 : (uZ F 12 (0)) 29 = F 29 := (fn rfl (by decide))
    have hKy122 : okF (uZ F 12 (0)) := okF.mv hM.2.1 hey108 hey109 hey110 hey111 hey112 hey113 hey114 hey115 hey116 hey117 hey118 hey119 hey120 hey121
    have hMy123 : okMr cs ad gvy103 i (x + 1) (uZ F 12 (0)) r st op ai fa mu tb tp := okMr.upd hM hgy104 hKy122 (fun f a => hFy107 f (by omega)) hgy106 (hA.mono (by omega)) (fun j a b => by
        by_cases e0 : j = i + 11
        · exact Or.inr ⟨11, _, e0, lsP.l (by decide), by rw [e0]; exact hdvy103⟩
        exact Or.inl (by rw [hfvy103 _ (by omega)]; rw [egy25, va_up_ne _ _ (by omega)]))
    have hkpy124 : (uZ F 12 (0)) 13 = F 13 := (fn rfl (by decide))
    have hkpy125 : (uZ F 12 (0)) 14 = F 14 := (fn rfl (by decide))
    have hkpy126 : (uZ F 12 (0)) 17 = F 17 := (fn rfl (by decide))
    have hkpy127 : (uZ F 12 (0)) 20 = F 20 := (fn rfl (by decide))
    have hkpy128 : (uZ F 12 (0)) 21 = F 21 := (fn rfl (by decide))
    have hkpy129 : (uZ F 12 (0)) 23 = F 23 := (fn rfl (by decide))
    have hkpy130 : (uZ F 12 (0)) 24 = F 24 := (fn rfl (by decide))
    exact z_iret C hr hlk dX10_slide_33 (by decide) (by decide) ⟨vy103, rfl, rfl, rfl, by omega, ⟨_, _, hMy123, ⟨hkpy124, hkpy125, hkpy126, hkpy127, hkpy128, hkpy129, hkpy130⟩⟩, fun j j1 => by rw [hfvy103 _ (by omega)]; rw [egy25, va_up_ne _ _ (by omega)]⟩

set_option maxRecDepth 100000 in
set_option maxHeartbeats 4000000 in
theorem c_X10_slide_b (l : Launch) (D : va_G) (A : Nat → Prop) (cs : Nat → ClassId) (tt : Nat) (N : Nat) (ad : Nat → Nat) (g : Nat → va_E) (i : Nat) (hN : i + 30 ≤ N) (x : Int) (hx : 0 ≤ x ∧ x ≤ 512) (F r : Nat → Int) {st op ai fa mu tb tp : Nat → Int} (hM : okMr cs ad g i x F r st op ai fa mu tb tp) (z : Int) (hz : -2147483648 ≤ z ∧ z ≤ 2147483647) (hzo : z < 0 ∨ 3 < z) : zM l yX10_slide cX10_slide 2 (some .int) ({ frames := 11, cells := 0, slots := 0, locals := 660 } : Room) D A cs tt N ad g [.ref (ad i), .int (zI (z))] (rI0 N ad fun q g' => (-2147483648 ≤ q ∧ q ≤ 2147483647) ∧ (∃ F' r' : Nat → Int, okMr cs ad g' i (x + 1) F' r' st op ai fa mu tb tp ∧ (F' 13 = F 13 ∧ F' 14 = F 14 ∧ F' 17 = F 17 ∧ F' 20 = F 20 ∧ F' 21 = F 21 ∧ F' 23 = F 23 ∧ F' 24 = F 24)) ∧ ∀ j, j < i ∨ i + 30 ≤ j → g' j = g j) := by
  obtain ⟨hg, ⟨⟨e13, e14, e25, e27, e29⟩, k15, k16, k17, k18, k19, k20, k23, k21⟩, hRD, hTx, hA, ns, nh, nd, rf, pi, te, ki, li, ok1, ok2, fo, dd, dps, ⟨ha1, ha2, ha3, ha4, ha5, ha6, ha7, ha8, ha9, ha10, ha11, ha12, ha13, ha14, ha15, ha24, ha25, ha26, ha27, ha28, ha29⟩, hEv, hPt, hns, htp⟩ := id hM
  obtain ⟨-, hop, hai, hfa, hT, hT1⟩ := id hEv
  have hay1 : zAt ad (i) (ad i) := rfl
  have hay2 : zAt ad (i + 1) (ad (i + 1)) := rfl
  have hay3 : zAt ad (i + 2) (ad (i + 2)) := rfl
  have hay4 : zAt ad (i + 3) (ad (i + 3)) := rfl
  have hay5 : zAt ad (i + 4) (ad (i + 4)) := rfl
  have hay6 : zAt ad (i + 5) (ad (i + 5)) := rfl
  have hay7 : zAt ad (i + 6) (ad (i + 6)) := rfl
  have hay8 : zAt ad (i + 7) (ad (i + 7)) := rfl
  have hay9 : zAt ad (i + 8) (ad (i + 8)) := rfl
  have hay10 : zAt ad (i + 9) (ad (i + 9)) := rfl
  have hay11 : zAt ad (i + 10) (ad (i + 10)) := rfl
  have hay12 : zAt ad (i + 11) (ad (i + 11)) := rfl
  have hay13 : zAt ad (i + 12) (ad (i + 12)) := rfl
  have hay14 : zAt ad (i + 13) (ad (i + 13)) := rfl
  have hay15 : zAt ad (i + 14) (ad (i + 14)) := rfl
  have hay16 : zAt ad (i + 15) (ad (i + 15)) := rfl
  have hay17 : zAt ad (i + 24) (ad (i + 24)) := rfl
  have hay18 : zAt ad (i + 25) (ad (i + 25)) := rfl
  have hay19 : zAt ad (i + 26) (ad (i + 26)) := rfl
  have hay20 : zAt ad (i + 27) (ad (i + 27)) := rfl
  have hay21 : zAt ad (i + 28) (ad (i + 28)) := rfl
  have hay22 : zAt ad (i + 29) (ad (i + 29)) := rfl
  obtain ⟨⟨hsyy23, htyy23, hnyy23, hpyy23⟩, hlyy23⟩ := okA.at0 hA
  simp only [Nat.zero_add] at hsyy23 hnyy23 hpyy23
  have hmn : ∀ s, s < 4 → 0 ≤ r (6 + 86 * s) ∧ r (6 + 86 * s) ≤ 12 := fun s hs => (hsyy23 s hs).1
  have h5 : 0 ≤ r 5 ∧ r 5 ≤ 6 := hpyy23
  refine z_of (by decide) (Nat.le_of_ble_eq_true rfl) ?_
  intro pZ eZ sZ mZ below meth cZ C hr hlk hnm
  refine z_lv (lv' := [(0, .ref (ad i)), (1, .int (zI (z)))]) [0, 1] rfl ?_
  refine z_aload_n C 0 dX10_slide_0 rfl ?_
  refine z_iconst (z := 0) C dX10_slide_1 rfl ?_
  refine z_put (fs' := mF ad (i) (uZ F 12 (0))) C (lt_A0 hN rfl) hay1 hg tyX10 tyX10_ok nmX10 rfl inA_X10 12 (by decide) q_1471 rfl rfl rfl rfl (Nat.le_of_ble_eq_true rfl) rfl dX10_slide_2 (fun gy24 egy25 => ?_)
  have hgy26 := up_s egy25
  refine z_iload_n C 1 dX10_slide_5 rfl ?_
  refine z_iconst (z := 0) C dX10_slide_6 rfl ?_
  refine z_aload_n C 0 dX10_slide_7 rfl ?_
  refine z_get (v := .int (zI (F 13))) C (lt_A0 hN rfl) hay1 hgy26 rfl inA_X10 13 (by decide) q_1472 rfl (fv (F := (uZ F 12 (0))) (f := 13) (fn rfl (by decide))) dX10_slide_8 ?_
  refine z_iconst (z := 1) C dX10_slide_11 rfl ?_
  refine z_isub C dX10_slide_12 ?_
  refine z_cS (As := [.int (zI (z)), .int (zI (0)), .int (zI ((F 13) - 1))]) (rest := []) C (c_X10_within l D A cs tt N ad _ (z) (by omega) (0) (by omega) ((F 13) - 1) (by omega)) ms_yX10_within q_1686 hd_yX10_within (by decide) (Nat.le_of_ble_eq_true rfl) (by decide) dX10_slide_13 rfl (kI0 fun vy27 gvy27 hvy27 => ?_)
  obtain ⟨hvy27, rfl⟩ := hvy27
  obtain rfl : vy27 = 0 := by omega
  refine z_if_eq (tgt := 28) C dX10_slide_16 (by decide) (by omega) (fun _ => ?_) (fun h => absurd h (by omega))
  refine z_aload_n C 0 dX10_slide_28 rfl ?_
  refine z_iconst (z := 1) C dX10_slide_29 rfl ?_
  have hgy28 := up_n egy25 ha11 (ne_o (i := i) (c := 11) (d := 0) rfl)
  refine z_cV (As := [.int (zI (1))]) (rest := []) (ci := 12) C (c_X10_refuses l D A cs tt N ad _ i hN _ hgy26 _ hgy28 (1) (by omega)) (lt_A0 hN rfl) hay1 hgy26 rfl rfl mv_yX10_refuses q_1866 hd_yX10_refuses (by decide) (Nat.le_of_ble_eq_true rfl) (by decide) dX10_slide_30 rfl (kI0 fun vy29 gvy29 hvy29 => ?_)
  obtain ⟨hrvy29, ⟨tvy29, hdvy29⟩, hfvy29⟩ := hvy29
  have hgy30 := (hfvy29 (i) (ne_o (i := i) (c := 0) (d := 11) rfl)).trans hgy26
  have hgy31 := up_n egy25 ha1 (ne_o (i := i) (c := 1) (d := 0) rfl)
  have hgy32 := (hfvy29 (i + 1) (ne_o (i := i) (c := 1) (d := 11) rfl)).trans hgy31
  have hFy33 : ∀ f, f ≠ 12 → (uZ F 12 (0)) f = F f := fun f n12 => ((uZ_n _ _ n12).trans rfl)
  have hey34 : (uZ F 12 (0)) 13 = F 13 := (fn rfl (by decide))
  have hey35 : (uZ F 12 (0)) 14 = F 14 := (fn rfl (by decide))
  have hey36 : (uZ F 12 (0)) 15 = F 15 := (fn rfl (by decide))
  have hey37 : (uZ F 12 (0)) 16 = F 16 := (fn rfl (by decide))
  have hey38 : (uZ F 12 (0)) 17 = F 17 := (fn rfl (by decide))
  have hey39 : (uZ F 12 (0)) 18 = F 18 := (fn rfl (by decide))
  have hey40 : (uZ F 12 (0)) 19 = F 19 := (fn rfl (by decide))
  have hey41 : (uZ F 12 (0)) 20 = F 20 := (fn rfl (by decide))
  have hey42 : (uZ F 12 (0)) 21 = F 21 := (fn rfl (by decide))
  have hey43 : (uZ F 12 (0)) 23 = F 23 := (fn rfl (by decide))
  have hey44 : (uZ F 12 (0)) 25 = F 25 := (fn rfl (by decide))
  have hey45 : (uZ F 12 (0)) 27 = F 27 := (fn rfl (by decide))
  have hey46 : (uZ F 12 (0)) 28 = F 28 := (fn rfl (by decide))
  have hey47 : (uZ F 12 (0)) 29 = F 29 := (fn rfl (by decide))
  have hKy48 : okF (uZ F 12 (0)) := okF.mv hM.2.1 hey34 hey35 hey36 hey37 hey38 hey39 hey40 hey41 hey42 hey43 hey44 hey45 hey46 hey47
  have hMy49 : okMr cs ad gvy29 i (x + 1) (uZ F 12 (0)) r st op ai fa mu tb tp := okMr.upd hM hgy30 hKy48 (fun f a => hFy33 f (by omega)) hgy32 (hA.mono (by omega)) (fun j a b => by
      by_cases e0 : j = i + 11
      · exact Or.inr ⟨11, _, e0, lsP.l (by decide), by rw [e0]; exact hdvy29⟩
      exact Or.inl (by rw [hfvy29 _ (by omega)]; rw [egy25, va_up_ne _ _ (by omega)]))
  have hkpy50 : (uZ F 12 (0)) 13 = F 13 := (fn rfl (by decide))
  have hkpy51 : (uZ F 12 (0)) 14 = F 14 := (fn rfl (by decide))
  have hkpy52 : (uZ F 12 (0)) 17 = F 17 := (fn rfl (by decide))
  have hkpy53 : (uZ F 12 (0)) 20 = F 20 := (fn rfl (by decide))
  have hkpy54 : (uZ F 12 (0)) 21 = F 21 := (fn rfl (by decide))
  have hkpy55 : (uZ F 12 (0)) 23 = F 23 := (fn rfl (by decide))
  have hkpy56 : (uZ F 12 (0)) 24 = F 24 := (fn rfl (by decide))
  exact z_iret C hr hlk dX10_slide_33 (by decide) (by decide) ⟨vy29, rfl, rfl, rfl, by omega, ⟨_, _, hMy49, ⟨hkpy50, hkpy51, hkpy52, hkpy53, hkpy54, hkpy55, hkpy56⟩⟩, fun j j1 => by rw [hfvy29 _ (by omega)]; rw [egy25, va_up_ne _ _ (by omega)]⟩

set_option maxRecDepth 100000 in
set_option maxHeartbeats 4000000 in
theorem c_X10_slide (l : Launch) (D : va_G) (A : Nat → Prop) (cs : Nat → ClassId) (tt : Nat) (N : Nat) (ad : Nat → Nat) (g : Nat → va_E) (i : Nat) (hN : i + 30 ≤ N) (x : Int) (hx : 0 ≤ x ∧ x ≤ 512) (F r : Nat → Int) {st op ai fa mu tb tp : Nat → Int} (hM : okMr cs ad g i x F r st op ai fa mu tb tp) (z : Int) (hz : -2147483648 ≤ z ∧ z ≤ 2147483647) : zM l yX10_slide cX10_slide 2 (some .int) ({ frames := 11, cells := 0, slots := 0, locals := 660 } : Room) D A cs tt N ad g [.ref (ad i), .int (zI (z))] (rI0 N ad fun q g' => (-2147483648 ≤ q ∧ q ≤ 2147483647) ∧ (∃ F' r' : Nat → Int, okMr cs ad g' i (x + 1) F' r' st op ai fa mu tb tp ∧ (F' 13 = F 13 ∧ F' 14 = F 14 ∧ F' 17 = F 17 ∧ F' 20 = F 20 ∧ F' 21 = F 21 ∧ F' 23 = F 23 ∧ F' 24 = F 24)) ∧ ∀ j, j < i ∨ i + 30 ≤ j → g' j = g j) := by
  by_cases h9 : 0 ≤ z ∧ z ≤ 3
  · obtain ⟨n, rfl⟩ : ∃ n : Nat, z = (n : Int) := ⟨z.toNat, by omega⟩
    exact c_X10_slide_a l D A cs tt N ad g i hN x hx F r hM n (by omega) 
  · exact c_X10_slide_b l D A cs tt N ad g i hN x hx F r hM z hz (by omega) 

set_option maxRecDepth 100000 in
set_option maxHeartbeats 4000000 in
theorem c_X10_undo (l : Launch) (D : va_G) (A : Nat → Prop) (cs : Nat → ClassId) (tt : Nat) (N : Nat) (ad : Nat → Nat) (g : Nat → va_E) (i : Nat) (hN : i + 30 ≤ N) (x : Int) (hx : 0 ≤ x ∧ x ≤ 512) (F r : Nat → Int) {st op ai fa mu tb tp : Nat → Int} (hM : okMr cs ad g i x F r st op ai fa mu tb tp) : zM l yX10_undo cX10_undo 1 (some .int) ({ frames := 2, cells := 0, slots := 0, locals := 120 } : Room) D A cs tt N ad g [.ref (ad i)] (rI0 N ad fun q g' => (-2147483648 ≤ q ∧ q ≤ 2147483647) ∧ (∃ F' r' : Nat → Int, okMr cs ad g' i (x + 1) F' r' st op ai fa mu tb tp ∧ (F' 13 = F 13 ∧ F' 14 = F 14 ∧ F' 17 = F 17 ∧ F' 20 = F 20 ∧ F' 21 = F 21 ∧ F' 23 = F 23 ∧ F' 24 = F 24)) ∧ ∀ j, j < i ∨ i + 30 ≤ j → g' j = g j) := by
  obtain ⟨hg, ⟨⟨e13, e14, e25, e27, e29⟩, k15, k16, k17, k18, k19, k20, k23, k21⟩, hRD, hTx, hA, ns, nh, nd, rf, pi, te, ki, li, ok1, ok2, fo, dd, dps, ⟨ha1, ha2, ha3, ha4, ha5, ha6, ha7, ha8, ha9, ha10, ha11, ha12, ha13, ha14, ha15, ha24, ha25, ha26, ha27, ha28, ha29⟩, hEv, hPt, hns, htp⟩ := id hM
  obtain ⟨-, hop, hai, hfa, hT, hT1⟩ := id hEv
  have hay1 : zAt ad (i) (ad i) := rfl
  have hay2 : zAt ad (i + 1) (ad (i + 1)) := rfl
  have hay3 : zAt ad (i + 2) (ad (i + 2)) := rfl
  have hay4 : zAt ad (i + 3) (ad (i + 3)) := rfl
  have hay5 : zAt ad (i + 4) (ad (i + 4)) := rfl
  have hay6 : zAt ad (i + 5) (ad (i + 5)) := rfl
  have hay7 : zAt ad (i + 6) (ad (i + 6)) := rfl
  have hay8 : zAt ad (i + 7) (ad (i + 7)) := rfl
  have hay9 : zAt ad (i + 8) (ad (i + 8)) := rfl
  have hay10 : zAt ad (i + 9) (ad (i + 9)) := rfl
  have hay11 : zAt ad (i + 10) (ad (i + 10)) := rfl
  have hay12 : zAt ad (i + 11) (ad (i + 11)) := rfl
  have hay13 : zAt ad (i + 12) (ad (i + 12)) := rfl
  have hay14 : zAt ad (i + 13) (ad (i + 13)) := rfl
  have hay15 : zAt ad (i + 14) (ad (i + 14)) := rfl
  have hay16 : zAt ad (i + 15) (ad (i + 15)) := rfl
  have hay17 : zAt ad (i + 24) (ad (i + 24)) := rfl
  have hay18 : zAt ad (i + 25) (ad (i + 25)) := rfl
  have hay19 : zAt ad (i + 26) (ad (i + 26)) := rfl
  have hay20 : zAt ad (i + 27) (ad (i + 27)) := rfl
  have hay21 : zAt ad (i + 28) (ad (i + 28)) := rfl
  have hay22 : zAt ad (i + 29) (ad (i + 29)) := rfl
  obtain ⟨⟨hsyy23, htyy23, hnyy23, hpyy23⟩, hlyy23⟩ := okA.at0 hA
  simp only [Nat.zero_add] at hsyy23 hnyy23 hpyy23
  have hmn : ∀ s, s < 4 → 0 ≤ r (6 + 86 * s) ∧ r (6 + 86 * s) ≤ 12 := fun s hs => (hsyy23 s hs).1
  have h5 : 0 ≤ r 5 ∧ r 5 ≤ 6 := hpyy23
  refine z_of (by decide) (Nat.le_of_ble_eq_true rfl) ?_
  intro pZ eZ sZ mZ below meth cZ C hr hlk hnm
  refine z_lv (lv' := [(0, .ref (ad i))]) [0] rfl ?_
  refine z_aload_n C 0 dX10_undo_0 rfl ?_
  refine z_iconst (z := 0) C dX10_undo_1 rfl ?_
  refine z_put (fs' := mF ad (i) (uZ F 12 (0))) C (lt_A0 hN rfl) hay1 hg tyX10 tyX10_ok nmX10 rfl inA_X10 12 (by decide) q_1471 rfl rfl rfl rfl (Nat.le_of_ble_eq_true rfl) rfl dX10_undo_2 (fun gy24 egy25 => ?_)
  have hgy26 := up_s egy25
  refine z_aload_n C 0 dX10_undo_5 rfl ?_
  refine z_get (v := .int (zI (F 15))) C (lt_A0 hN rfl) hay1 hgy26 rfl inA_X10 15 (by decide) q_1474 rfl (fv (F := (uZ F 12 (0))) (f := 15) (fn rfl (by decide))) dX10_undo_6 ?_
  refine z_if_ne (tgt := 14) C dX10_undo_9 (by decide) (by omega) (fun hby27 => ?_) (fun hby27 => ?_)
  · refine z_aload_n C 0 dX10_undo_14 rfl ?_
    refine z_dup C dX10_undo_15 rfl ?_
    refine z_get (v := .int (zI (F 15))) C (lt_A0 hN rfl) hay1 hgy26 rfl inA_X10 15 (by decide) q_1474 rfl (fv (F := (uZ F 12 (0))) (f := 15) (fn rfl (by decide))) dX10_undo_16 ?_
    refine z_iconst (z := 1) C dX10_undo_19 rfl ?_
    refine z_isub C dX10_undo_20 ?_
    refine z_put (fs' := mF ad (i) (uZ (uZ F 12 (0)) 15 ((F 15) - 1))) C (lt_A0 hN rfl) hay1 hgy26 tyX10 tyX10_ok nmX10 rfl inA_X10 15 (by decide) q_1474 rfl rfl rfl rfl (Nat.le_of_ble_eq_true rfl) rfl dX10_undo_21 (fun gy28 egy29 => ?_)
    have hgy30 := up_s egy29
    refine z_aload_n C 0 dX10_undo_24 rfl ?_
    refine z_aload_n C 0 dX10_undo_25 rfl ?_
    refine z_get (v := .int (zI (F 16))) C (lt_A0 hN rfl) hay1 hgy30 rfl inA_X10 16 (by decide) q_1475 rfl (fv (F := (uZ (uZ F 12 (0)) 15 ((F 15) - 1))) (f := 16) (fn (fn rfl (by decide)) (by decide))) dX10_undo_26 ?_
    refine z_aload_n C 0 dX10_undo_29 rfl ?_
    refine z_get (v := .int (zI ((F 15) - 1))) C (lt_A0 hN rfl) hay1 hgy30 rfl inA_X10 15 (by decide) q_1474 rfl (fv (F := (uZ (uZ F 12 (0)) 15 ((F 15) - 1))) (f := 15) (uZ_s _ _ _)) dX10_undo_30 ?_
    refine z_cS (As := [.int (zI (F 16)), .int (zI ((F 15) - 1))]) (rest := [.ref (ad i)]) C (c_X10_keptAt l D A cs tt N ad _ (F 16) (by omega) ((F 15) - 1) (by omega)) ms_yX10_keptAt q_1874 hd_yX10_keptAt (by decide) (Nat.le_of_ble_eq_true rfl) (by decide) dX10_undo_33 rfl (kI0 fun vy31 gvy31 hvy31 => ?_)
    obtain ⟨⟨wvy31, hwvy31, rfl⟩, rfl⟩ := hvy31
    obtain ⟨bvy31, hbvy31⟩ : ∃ b9 : Nat, 350 * wvy31 = b9 := ⟨_, rfl⟩
    rw [hbvy31]
    refine z_iconst (z := 0) C dX10_undo_36 rfl ?_
    refine z_sipush (z := 350) C dX10_undo_37 (by decide) ?_
    have hgy32 := up_n egy25 ha1 (ne_o (i := i) (c := 1) (d := 0) rfl)
    have hgy33 := up_n egy29 hgy32 (ne_o (i := i) (c := 1) (d := 0) rfl)
    refine z_cV (As := [.int (zI ((bvy31 : Int))), .int (zI (0)), .int (zI (350))]) (rest := []) (ci := 12) C (c_X10_copies l D A cs tt N ad _ i hN _ hgy30 _ hgy33 bvy31 0 350 (by omega) (by omega) (by omega)) (lt_A0 hN rfl) hay1 hgy30 rfl rfl mv_yX10_copies q_1877 hd_yX10_copies (by decide) (Nat.le_of_ble_eq_true rfl) (by decide) dX10_undo_40 rfl (kV0 fun gvy34 hvy34 => ?_)
    obtain ⟨⟨rvy34, hcvy34, hevy34, hovy34⟩, hfvy34⟩ := hvy34
    have hAy35 : okA rvy34 (x) := okA.copy (a := wvy31) (b := 0) (m := 1) hA (by omega) (by omega) (by omega) (fun k hk => by rw [show 350 * wvy31 = bvy31 by omega]; exact hevy34 k (by omega)) (fun j hj => hovy34 j (by omega))
    refine z_aload_n C 0 dX10_undo_43 rfl ?_
    have hgy36 := (hfvy34 (i) (ne_o (i := i) (c := 0) (d := 1) rfl)).trans hgy30
    refine z_get (v := .int (zI ((F 15) - 1))) C (lt_A0 hN rfl) hay1 hgy36 rfl inA_X10 15 (by decide) q_1474 rfl (fv (F := (uZ (uZ F 12 (0)) 15 ((F 15) - 1))) (f := 15) (uZ_s _ _ _)) dX10_undo_44 ?_
    have hFy37 : ∀ f, f ≠ 12 → f ≠ 15 → (uZ (uZ F 12 (0)) 15 ((F 15) - 1)) f = F f := fun f n12 n15 => ((uZ_n _ _ n15).trans ((uZ_n _ _ n12).trans rfl))
    have hey38 : (uZ (uZ F 12 (0)) 15 ((F 15) - 1)) 13 = F 13 := (fn (fn rfl (by decide)) (by decide))
    have hey39 : (uZ (uZ F 12 (0)) 15 ((F 15) - 1)) 14 = F 14 := (fn (fn rfl (by decide)) (by decide))
    have hey40 : (uZ (uZ F 12 (0)) 15 ((F 15) - 1)) 15 = (F 15) - 1 := (uZ_s _ _ _)
    have hey41 : (uZ (uZ F 12 (0)) 15 ((F 15) - 1)) 16 = F 16 := (fn (fn rfl (by decide)) (by decide))
    have hey42 : (uZ (uZ F 12 (0)) 15 ((F 15) - 1)) 17 = F 17 := (fn (fn rfl (by decide)) (by decide))
    have hey43 : (uZ (uZ F 12 (0)) 15 ((F 15) - 1)) 18 = F 18 := (fn (fn rfl (by decide)) (by decide))
    have hey44 : (uZ (uZ F 12 (0)) 15 ((F 15) - 1)) 19 = F 19 := (fn (fn rfl (by decide)) (by decide))
    have hey45 : (uZ (uZ F 12 (0)) 15 ((F 15) - 1)) 20 = F 20 := (fn (fn rfl (by decide)) (by decide))
    have hey46 : (uZ (uZ F 12 (0)) 15 ((F 15) - 1)) 21 = F 21 := (fn (fn rfl (by decide)) (by decide))
    have hey47 : (uZ (uZ F 12 (0)) 15 ((F 15) - 1)) 23 = F 23 := (fn (fn rfl (by decide)) (by decide))
    have hey48 : (uZ (uZ F 12 (0)) 15 ((F 15) - 1)) 25 = F 25 := (fn (fn rfl (by decide)) (by decide))
    have hey49 : (uZ (uZ F 12 (0)) 15 ((F 15) - 1)) 27 = F 27 := (fn (fn rfl (by decide)) (by decide))
    have hey50 : (uZ (uZ F 12 (0)) 15 ((F 15) - 1)) 28 = F 28 := (fn (fn rfl (by decide)) (by decide))
    have hey51 : (uZ (uZ F 12 (0)) 15 ((F 15) - 1)) 29 = F 29 := (fn (fn rfl (by decide)) (by decide))
    have hKy52 : okF (uZ (uZ F 12 (0)) 15 ((F 15) - 1)) := by unfold okF; omega
    have hMy53 : okMr cs ad gvy34 i (x + 1) (uZ (uZ F 12 (0)) 15 ((F 15) - 1)) rvy34 st op ai fa mu tb tp := okMr.upd hM hgy36 hKy52 (fun f a => hFy37 f (by omega) (by omega)) hcvy34 (hAy35.mono (by omega)) (fun j a b => by
        exact Or.inl (by rw [hfvy34 _ (by omega)]; rw [egy29, va_up_ne _ _ (by omega)]; rw [egy25, va_up_ne _ _ (by omega)]))
    have hkpy54 : (uZ (uZ F 12 (0)) 15 ((F 15) - 1)) 13 = F 13 := (fn (fn rfl (by decide)) (by decide))
    have hkpy55 : (uZ (uZ F 12 (0)) 15 ((F 15) - 1)) 14 = F 14 := (fn (fn rfl (by decide)) (by decide))
    have hkpy56 : (uZ (uZ F 12 (0)) 15 ((F 15) - 1)) 17 = F 17 := (fn (fn rfl (by decide)) (by decide))
    have hkpy57 : (uZ (uZ F 12 (0)) 15 ((F 15) - 1)) 20 = F 20 := (fn (fn rfl (by decide)) (by decide))
    have hkpy58 : (uZ (uZ F 12 (0)) 15 ((F 15) - 1)) 21 = F 21 := (fn (fn rfl (by decide)) (by decide))
    have hkpy59 : (uZ (uZ F 12 (0)) 15 ((F 15) - 1)) 23 = F 23 := (fn (fn rfl (by decide)) (by decide))
    have hkpy60 : (uZ (uZ F 12 (0)) 15 ((F 15) - 1)) 24 = F 24 := (fn (fn rfl (by decide)) (by decide))
    exact z_iret C hr hlk dX10_undo_47 (by decide) (by decide) ⟨(F 15) - 1, rfl, rfl, rfl, by omega, ⟨_, _, hMy53, ⟨hkpy54, hkpy55, hkpy56, hkpy57, hkpy58, hkpy59, hkpy60⟩⟩, fun j j1 => by rw [hfvy34 _ (by omega)]; rw [egy29, va_up_ne _ _ (by omega)]; rw [egy25, va_up_ne _ _ (by omega)]⟩
  · refine z_iconst (z := -1) C dX10_undo_12 rfl ?_
    have hgy61 := up_n egy25 ha1 (ne_o (i := i) (c := 1) (d := 0) rfl)
    have hFy62 : ∀ f, f ≠ 12 → (uZ F 12 (0)) f = F f := fun f n12 => ((uZ_n _ _ n12).trans rfl)
    have hey63 : (uZ F 12 (0)) 13 = F 13 := (fn rfl (by decide))
    have hey64 : (uZ F 12 (0)) 14 = F 14 := (fn rfl (by decide))
    have hey65 : (uZ F 12 (0)) 15 = F 15 := (fn rfl (by decide))
    have hey66 : (uZ F 12 (0)) 16 = F 16 := (fn rfl (by decide))
    have hey67 : (uZ F 12 (0)) 17 = F 17 := (fn rfl (by decide))
    have hey68 : (uZ F 12 (0)) 18 = F 18 := (fn rfl (by decide))
    have hey69 : (uZ F 12 (0)) 19 = F 19 := (fn rfl (by decide))
    have hey70 : (uZ F 12 (0)) 20 = F 20 := (fn rfl (by decide))
    have hey71 : (uZ F 12 (0)) 21 = F 21 := (fn rfl (by decide))
    have hey72 : (uZ F 12 (0)) 23 = F 23 := (fn rfl (by decide))
    have hey73 : (uZ F 12 (0)) 25 = F 25 := (fn rfl (by decide))
    have hey74 : (uZ F 12 (0)) 27 = F 27 := (fn rfl (by decide))
    have hey75 : (uZ F 12 (0)) 28 = F 28 := (fn rfl (by decide))
    have hey76 : (uZ F 12 (0)) 29 = F 29 := (fn rfl (by decide))
    have hKy77 : okF (uZ F 12 (0)) := okF.mv hM.2.1 hey63 hey64 hey65 hey66 hey67 hey68 hey69 hey70 hey71 hey72 hey73 hey74 hey75 hey76
    have hMy78 : okMr cs ad gy24 i (x + 1) (uZ F 12 (0)) r st op ai fa mu tb tp := okMr.upd hM hgy26 hKy77 (fun f a => hFy62 f (by omega)) hgy61 (hA.mono (by omega)) (fun j a b => by
        exact Or.inl (by rw [egy25, va_up_ne _ _ (by omega)]))
    have hkpy79 : (uZ F 12 (0)) 13 = F 13 := (fn rfl (by decide))
    have hkpy80 : (uZ F 12 (0)) 14 = F 14 := (fn rfl (by decide))
    have hkpy81 : (uZ F 12 (0)) 17 = F 17 := (fn rfl (by decide))
    have hkpy82 : (uZ F 12 (0)) 20 = F 20 := (fn rfl (by decide))
    have hkpy83 : (uZ F 12 (0)) 21 = F 21 := (fn rfl (by decide))
    have hkpy84 : (uZ F 12 (0)) 23 = F 23 := (fn rfl (by decide))
    have hkpy85 : (uZ F 12 (0)) 24 = F 24 := (fn rfl (by decide))
    exact z_iret C hr hlk dX10_undo_13 (by decide) (by decide) ⟨-1, rfl, rfl, rfl, by omega, ⟨_, _, hMy78, ⟨hkpy79, hkpy80, hkpy81, hkpy82, hkpy83, hkpy84, hkpy85⟩⟩, fun j j1 => by rw [egy25, va_up_ne _ _ (by omega)]⟩

set_option maxRecDepth 100000 in
set_option maxHeartbeats 4000000 in
theorem c_X10_then_a (l : Launch) (D : va_G) (A : Nat → Prop) (cs : Nat → ClassId) (tt : Nat) (N : Nat) (ad : Nat → Nat) (g : Nat → va_E) (i : Nat) (hN : i + 30 ≤ N) (x : Int) (hx : 0 ≤ x ∧ x ≤ 512) (F r : Nat → Int) {st op ai fa mu tb tp : Nat → Int} (hM : okMr cs ad g i x F r st op ai fa mu tb tp) (n : Nat) (hn4 : n < 4) (z1 : Int) (hz1 : -2147483648 ≤ z1 ∧ z1 ≤ 2147483647) (z2 : Int) (hz2 : -2147483648 ≤ z2 ∧ z2 ≤ 2147483647) : zM l yX10_then cX10_then 5 (some .int) ({ frames := 10, cells := 0, slots := 0, locals := 600 } : Room) D A cs tt N ad g [.ref (ad i), .int (zI ((n : Int))), .int (zI (z1)), .int (zI (z2))] (rI0 N ad fun q g' => (-2147483648 ≤ q ∧ q ≤ 2147483647) ∧ (∃ F' r' : Nat → Int, okMr cs ad g' i (x + 1) F' r' st op ai fa mu tb tp ∧ (F' 13 = F 13 ∧ F' 14 = F 14 ∧ F' 17 = F 17 ∧ F' 20 = F 20 ∧ F' 21 = F 21 ∧ F' 23 = F 23 ∧ F' 24 = F 24)) ∧ ∀ j, j < i ∨ i + 30 ≤ j → g' j = g j) := by
  obtain ⟨hg, ⟨⟨e13, e14, e25, e27, e29⟩, k15, k16, k17, k18, k19, k20, k23, k21⟩, hRD, hTx, hA, ns, nh, nd, rf, pi, te, ki, li, ok1, ok2, fo, dd, dps, ⟨ha1, ha2, ha3, ha4, ha5, ha6, ha7, ha8, ha9, ha10, ha11, ha12, ha13, ha14, ha15, ha24, ha25, ha26, ha27, ha28, ha29⟩, hEv, hPt, hns, htp⟩ := id hM
  obtain ⟨-, hop, hai, hfa, hT, hT1⟩ := id hEv
  have hay1 : zAt ad (i) (ad i) := rfl
  have hay2 : zAt ad (i + 1) (ad (i + 1)) := rfl
  have hay3 : zAt ad (i + 2) (ad (i + 2)) := rfl
  have hay4 : zAt ad (i + 3) (ad (i + 3)) := rfl
  have hay5 : zAt ad (i + 4) (ad (i + 4)) := rfl
  have hay6 : zAt ad (i + 5) (ad (i + 5)) := rfl
  have hay7 : zAt ad (i + 6) (ad (i + 6)) := rfl
  have hay8 : zAt ad (i + 7) (ad (i + 7)) := rfl
  have hay9 : zAt ad (i + 8) (ad (i + 8)) := rfl
  have hay10 : zAt ad (i + 9) (ad (i + 9)) := rfl
  have hay11 : zAt ad (i + 10) (ad (i + 10)) := rfl
  have hay12 : zAt ad (i + 11) (ad (i + 11)) := rfl
  have hay13 : zAt ad (i + 12) (ad (i + 12)) := rfl
  have hay14 : zAt ad (i + 13) (ad (i + 13)) := rfl
  have hay15 : zAt ad (i + 14) (ad (i + 14)) := rfl
  have hay16 : zAt ad (i + 15) (ad (i + 15)) := rfl
  have hay17 : zAt ad (i + 24) (ad (i + 24)) := rfl
  have hay18 : zAt ad (i + 25) (ad (i + 25)) := rfl
  have hay19 : zAt ad (i + 26) (ad (i + 26)) := rfl
  have hay20 : zAt ad (i + 27) (ad (i + 27)) := rfl
  have hay21 : zAt ad (i + 28) (ad (i + 28)) := rfl
  have hay22 : zAt ad (i + 29) (ad (i + 29)) := rfl
  obtain ⟨⟨hsyy23, htyy23, hnyy23, hpyy23⟩, hlyy23⟩ := okA.at0 hA
  simp only [Nat.zero_add] at hsyy23 hnyy23 hpyy23
  have hmn : ∀ s, s < 4 → 0 ≤ r (6 + 86 * s) ∧ r (6 + 86 * s) ≤ 12 := fun s hs => (hsyy23 s hs).1
  have h5 : 0 ≤ r 5 ∧ r 5 ≤ 6 := hpyy23
  refine z_of (by decide) (Nat.le_of_ble_eq_true rfl) ?_
  intro pZ eZ sZ mZ below meth cZ C hr hlk hnm
  refine z_lv (lv' := [(0, .ref (ad i)), (1, .int (zI ((n : Int)))), (2, .int (zI (z1))), (3, .int (zI (z2)))]) [0, 1, 2, 3] rfl ?_
  refine z_aload_n C 0 dX10_then_0 rfl ?_
  refine z_iconst (z := 0) C dX10_then_1 rfl ?_
  refine z_put (fs' := mF ad (i) (uZ F 12 (0))) C (lt_A0 hN rfl) hay1 hg tyX10 tyX10_ok nmX10 rfl inA_X10 12 (by decide) q_1471 rfl rfl rfl rfl (Nat.le_of_ble_eq_true rfl) rfl dX10_then_2 (fun gy24 egy25 => ?_)
  have hgy26 := up_s egy25
  refine z_aload_n C 0 dX10_then_5 rfl ?_
  refine z_iload_n C 1 dX10_then_6 rfl ?_
  have h13vy27 : (uZ F 12 (0)) 13 = F 13 := (fn rfl (by decide))
  have hey28 : (uZ F 12 (0)) 12 = 0 := (uZ_s _ _ _)
  refine z_cV (As := [.int (zI ((n : Int)))]) (rest := []) (ci := 12) C (c_X10_isSlope l D A cs tt N ad _ i hN _ hgy26 (by omega) (by omega) ((n : Int)) (by omega)) (lt_A0 hN rfl) hay1 hgy26 rfl rfl mv_yX10_isSlope q_1803 hd_yX10_isSlope (by decide) (Nat.le_of_ble_eq_true rfl) (by decide) dX10_then_7 rfl (kI0 fun vy27 gvy27 hvy27 => ?_)
  rw [h13vy27] at hvy27
  obtain ⟨hrvy27, ⟨Fvy27, hcvy27, htvy27, hFvy27⟩, hfvy27⟩ := hvy27
  rcases (show vy27 = 1 ∨ vy27 = 0 by omega) with rfl | rfl
  · have hxvy27 := hrvy27.2 rfl
    refine z_if_eq (tgt := 43) C dX10_then_10 (by decide) (by omega) (fun h => absurd h (by omega)) (fun _ => ?_)
    refine z_aload_n C 0 dX10_then_13 rfl ?_
    refine z_iload_n C 3 dX10_then_14 rfl ?_
    refine z_iconst (z := 0) C dX10_then_15 rfl ?_
    refine z_bipush (z := 6) C dX10_then_16 (by decide) ?_
    refine z_cS (As := [.int (zI (z2)), .int (zI (0)), .int (zI (6))]) (rest := [.ref (ad i)]) C (c_X10_within l D A cs tt N ad _ (z2) (by omega) (0) (by omega) (6) (by omega)) ms_yX10_within q_1686 hd_yX10_within (by decide) (Nat.le_of_ble_eq_true rfl) (by decide) dX10_then_18 rfl (kI0 fun vy29 gvy29 hvy29 => ?_)
    obtain ⟨hvy29, rfl⟩ := hvy29
    rcases hvy29 with ⟨rfl, hxvy29⟩ | ⟨rfl, hxvy29⟩
    · refine z_iconst (z := 1) C dX10_then_21 rfl ?_
      have hey31 : Fvy27 12 = Fvy27 12 := rfl
      refine z_cV (As := [.int (zI (1)), .int (zI (1))]) (rest := []) (ci := 12) C (c_X10_right l D A cs tt N ad _ i hN _ hcvy27 (by omega) (1) (by omega) (1) (by omega)) (lt_A0 hN rfl) hay1 hcvy27 rfl rfl mv_yX10_right q_1648 hd_yX10_right (by decide) (Nat.le_of_ble_eq_true rfl) (by decide) dX10_then_22 rfl (kI0 fun vy30 gvy30 hvy30 => ?_)
      obtain ⟨hrvy30, ⟨Fvy30, hcvy30, htvy30, hFvy30⟩, hfvy30⟩ := hvy30
      rcases (show vy30 = 1 ∨ vy30 = 0 by omega) with rfl | rfl
      · refine z_if_eq (tgt := 43) C dX10_then_25 (by decide) (by omega) (fun h => absurd h (by omega)) (fun _ => ?_)
        refine z_aload_n C 0 dX10_then_28 rfl ?_
        refine z_iload_n C 2 dX10_then_29 rfl ?_
        refine z_iconst (z := 0) C dX10_then_30 rfl ?_
        refine z_bipush (z := 72) C dX10_then_31 (by decide) ?_
        refine z_cS (As := [.int (zI (z1)), .int (zI (0)), .int (zI (72))]) (rest := [.ref (ad i)]) C (c_X10_within l D A cs tt N ad _ (z1) (by omega) (0) (by omega) (72) (by omega)) ms_yX10_within q_1686 hd_yX10_within (by decide) (Nat.le_of_ble_eq_true rfl) (by decide) dX10_then_33 rfl (kI0 fun vy32 gvy32 hvy32 => ?_)
        obtain ⟨hvy32, rfl⟩ := hvy32
        rcases hvy32 with ⟨rfl, hxvy32⟩ | ⟨rfl, hxvy32⟩
        · refine z_iconst (z := 2) C dX10_then_36 rfl ?_
          have hey34 : Fvy30 12 = Fvy30 12 := rfl
          refine z_cV (As := [.int (zI (1)), .int (zI (2))]) (rest := []) (ci := 12) C (c_X10_right l D A cs tt N ad _ i hN _ hcvy30 (by omega) (1) (by omega) (2) (by omega)) (lt_A0 hN rfl) hay1 hcvy30 rfl rfl mv_yX10_right q_1648 hd_yX10_right (by decide) (Nat.le_of_ble_eq_true rfl) (by decide) dX10_then_37 rfl (kI0 fun vy33 gvy33 hvy33 => ?_)
          obtain ⟨hrvy33, ⟨Fvy33, hcvy33, htvy33, hFvy33⟩, hfvy33⟩ := hvy33
          rcases (show vy33 = 1 ∨ vy33 = 0 by omega) with rfl | rfl
          · refine z_if_ne (tgt := 45) C dX10_then_40 (by decide) (by omega) (fun _ => ?_) (fun h => absurd h (by omega))
            refine z_aload_n C 0 dX10_then_45 rfl ?_
            have hgy35 := up_n egy25 ha1 (ne_o (i := i) (c := 1) (d := 0) rfl)
            have hgy36 := (hfvy27 (i + 1) (ne_o (i := i) (c := 1) (d := 0) rfl)).trans hgy35
            have hgy37 := (hfvy30 (i + 1) (ne_o (i := i) (c := 1) (d := 0) rfl)).trans hgy36
            have hgy38 := (hfvy33 (i + 1) (ne_o (i := i) (c := 1) (d := 0) rfl)).trans hgy37
            refine z_cV (As := []) (rest := []) (ci := 12) C (c_X10_tries l D A cs tt N ad _ i hN _ hcvy33 _ hgy38 (x) hA) (lt_A0 hN rfl) hay1 hcvy33 rfl rfl mv_yX10_tries q_1980 hd_yX10_tries (by decide) (Nat.le_of_ble_eq_true rfl) (by decide) dX10_then_46 rfl (kV0 fun gvy39 hvy39 => ?_)
            obtain ⟨⟨rvy39, hdvy39, hAvy39, hWvy39, h0vy39, hyvy39⟩, hfvy39⟩ := hvy39
            obtain ⟨⟨hsyy40, htyy40, hnyy40, hpyy40⟩, hlyy40⟩ := okA.at0 hAvy39
            simp only [Nat.zero_add] at hsyy40 hnyy40 hpyy40
            have hmn : ∀ s, s < 4 → 0 ≤ rvy39 (6 + 86 * s) ∧ rvy39 (6 + 86 * s) ≤ 12 := fun s hs => (hsyy40 s hs).1
            have h5 : 0 ≤ rvy39 5 ∧ rvy39 5 ≤ 6 := hpyy40
            refine z_aload_n C 0 dX10_then_49 rfl ?_
            refine z_sipush (z := 350) C dX10_then_50 (by decide) ?_
            refine z_iload_n C 2 dX10_then_53 rfl ?_
            have hgy41 := (hfvy39 (i) (ne_o (i := i) (c := 0) (d := 1) rfl)).trans hcvy33
            have hey43 : Fvy33 13 = F 13 := ((hFvy33 13 (by decide)).trans ((hFvy30 13 (by decide)).trans ((hFvy27 13 (by decide)).trans (fn rfl (by decide)))))
            have hey44 : Fvy33 14 = F 14 := ((hFvy33 14 (by decide)).trans ((hFvy30 14 (by decide)).trans ((hFvy27 14 (by decide)).trans (fn rfl (by decide)))))
            have hey45 : Fvy33 25 = F 25 := ((hFvy33 25 (by decide)).trans ((hFvy30 25 (by decide)).trans ((hFvy27 25 (by decide)).trans (fn rfl (by decide)))))
            have hey46 : Fvy33 27 = F 27 := ((hFvy33 27 (by decide)).trans ((hFvy30 27 (by decide)).trans ((hFvy27 27 (by decide)).trans (fn rfl (by decide)))))
            have hey47 : Fvy33 28 = F 28 := ((hFvy33 28 (by decide)).trans ((hFvy30 28 (by decide)).trans ((hFvy27 28 (by decide)).trans (fn rfl (by decide)))))
            have hey48 : Fvy33 29 = F 29 := ((hFvy33 29 (by decide)).trans ((hFvy30 29 (by decide)).trans ((hFvy27 29 (by decide)).trans (fn rfl (by decide)))))
            have hEvy42 : okEnv Fvy33 _ _ _ _ _ := ⟨by omega, hop, hai, hfa, hT, hT1⟩
            have hgy50 := up_n egy25 ha3 (ne_o (i := i) (c := 3) (d := 0) rfl)
            have hgy51 := (hfvy27 (i + 3) (ne_o (i := i) (c := 3) (d := 0) rfl)).trans hgy50
            have hgy52 := (hfvy30 (i + 3) (ne_o (i := i) (c := 3) (d := 0) rfl)).trans hgy51
            have hgy53 := (hfvy33 (i + 3) (ne_o (i := i) (c := 3) (d := 0) rfl)).trans hgy52
            have hgy54 := (hfvy39 (i + 3) (ne_o (i := i) (c := 3) (d := 1) rfl)).trans hgy53
            have hgy55 := up_n egy25 ha4 (ne_o (i := i) (c := 4) (d := 0) rfl)
            have hgy56 := (hfvy27 (i + 4) (ne_o (i := i) (c := 4) (d := 0) rfl)).trans hgy55
            have hgy57 := (hfvy30 (i + 4) (ne_o (i := i) (c := 4) (d := 0) rfl)).trans hgy56
            have hgy58 := (hfvy33 (i + 4) (ne_o (i := i) (c := 4) (d := 0) rfl)).trans hgy57
            have hgy59 := (hfvy39 (i + 4) (ne_o (i := i) (c := 4) (d := 1) rfl)).trans hgy58
            have hgy60 := up_n egy25 ha5 (ne_o (i := i) (c := 5) (d := 0) rfl)
            have hgy61 := (hfvy27 (i + 5) (ne_o (i := i) (c := 5) (d := 0) rfl)).trans hgy60
            have hgy62 := (hfvy30 (i + 5) (ne_o (i := i) (c := 5) (d := 0) rfl)).trans hgy61
            have hgy63 := (hfvy33 (i + 5) (ne_o (i := i) (c := 5) (d := 0) rfl)).trans hgy62
            have hgy64 := (hfvy39 (i + 5) (ne_o (i := i) (c := 5) (d := 1) rfl)).trans hgy63
            have hgy65 := up_n egy25 ha6 (ne_o (i := i) (c := 6) (d := 0) rfl)
            have hgy66 := (hfvy27 (i + 6) (ne_o (i := i) (c := 6) (d := 0) rfl)).trans hgy65
            have hgy67 := (hfvy30 (i + 6) (ne_o (i := i) (c := 6) (d := 0) rfl)).trans hgy66
            have hgy68 := (hfvy33 (i + 6) (ne_o (i := i) (c := 6) (d := 0) rfl)).trans hgy67
            have hgy69 := (hfvy39 (i + 6) (ne_o (i := i) (c := 6) (d := 1) rfl)).trans hgy68
            have hgy70 := up_n egy25 ha7 (ne_o (i := i) (c := 7) (d := 0) rfl)
            have hgy71 := (hfvy27 (i + 7) (ne_o (i := i) (c := 7) (d := 0) rfl)).trans hgy70
            have hgy72 := (hfvy30 (i + 7) (ne_o (i := i) (c := 7) (d := 0) rfl)).trans hgy71
            have hgy73 := (hfvy33 (i + 7) (ne_o (i := i) (c := 7) (d := 0) rfl)).trans hgy72
            have hgy74 := (hfvy39 (i + 7) (ne_o (i := i) (c := 7) (d := 1) rfl)).trans hgy73
            have hgy75 := up_n egy25 ha14 (ne_o (i := i) (c := 14) (d := 0) rfl)
            have hgy76 := (hfvy27 (i + 14) (ne_o (i := i) (c := 14) (d := 0) rfl)).trans hgy75
            have hgy77 := (hfvy30 (i + 14) (ne_o (i := i) (c := 14) (d := 0) rfl)).trans hgy76
            have hgy78 := (hfvy33 (i + 14) (ne_o (i := i) (c := 14) (d := 0) rfl)).trans hgy77
            have hgy79 := (hfvy39 (i + 14) (ne_o (i := i) (c := 14) (d := 1) rfl)).trans hgy78
            have hgy80 := up_n egy25 ha15 (ne_o (i := i) (c := 15) (d := 0) rfl)
            have hgy81 := (hfvy27 (i + 15) (ne_o (i := i) (c := 15) (d := 0) rfl)).trans hgy80
            have hgy82 := (hfvy30 (i + 15) (ne_o (i := i) (c := 15) (d := 0) rfl)).trans hgy81
            have hgy83 := (hfvy33 (i + 15) (ne_o (i := i) (c := 15) (d := 0) rfl)).trans hgy82
            have hgy84 := (hfvy39 (i + 15) (ne_o (i := i) (c := 15) (d := 1) rfl)).trans hgy83
            refine z_cV (As := [.int (zI (350)), .int (zI (z1))]) (rest := []) (ci := 12) C (c_X10_goes l D A cs tt N ad _ i hN _ hgy41 _ hdvy39 _ hgy54 _ hgy59 _ hgy64 _ hgy69 _ hgy74 _ hgy79 _ hgy84 350 (by omega) hEvy42 (x) (by omega) hWvy39 (z1) (by omega) (by omega) (by omega)) (lt_A0 hN rfl) hay1 hgy41 rfl rfl mv_yX10_goes q_1881 hd_yX10_goes (by decide) (Nat.le_of_ble_eq_true rfl) (by decide) dX10_then_54 rfl (kV0 fun gvy49 hvy49 => ?_)
            obtain ⟨⟨rvy49, hcvy49, hwvy49, htvy49, hyvy49⟩, ⟨t4vy49, h4vy49⟩, ⟨t5vy49, h5vy49⟩, hfvy49⟩ := hvy49
            have hAy85 : okA rvy49 (x) := okA.tried hAvy39 (fun j a => hyvy49 j (by omega))
            obtain ⟨⟨hsyy86, htyy86, hnyy86, hpyy86⟩, hlyy86⟩ := okA.at0 hAy85
            simp only [Nat.zero_add] at hsyy86 hnyy86 hpyy86
            have hmn : ∀ s, s < 4 → 0 ≤ rvy49 (6 + 86 * s) ∧ rvy49 (6 + 86 * s) ≤ 12 := fun s hs => (hsyy86 s hs).1
            have h5 : 0 ≤ rvy49 5 ∧ rvy49 5 ≤ 6 := hpyy86
            refine z_aload_n C 0 dX10_then_57 rfl ?_
            refine z_sipush (z := 350) C dX10_then_58 (by decide) ?_
            refine z_iload_n C 1 dX10_then_61 rfl ?_
            obtain ⟨py87, hpy87⟩ : ∃ p9 : Nat, 350 + 6 + 86 * n = p9 := ⟨_, rfl⟩
            have hgy88 := (hfvy49 (i) (ne_o (i := i) (c := 0) (d := 1) rfl) (ne_o (i := i) (c := 0) (d := 14) rfl) (ne_o (i := i) (c := 0) (d := 15) rfl)).trans hgy41
            have hgy90 := up_n egy25 ha2 (ne_o (i := i) (c := 2) (d := 0) rfl)
            have hgy91 := (hfvy27 (i + 2) (ne_o (i := i) (c := 2) (d := 0) rfl)).trans hgy90
            have hgy92 := (hfvy30 (i + 2) (ne_o (i := i) (c := 2) (d := 0) rfl)).trans hgy91
            have hgy93 := (hfvy33 (i + 2) (ne_o (i := i) (c := 2) (d := 0) rfl)).trans hgy92
            have hgy94 := (hfvy39 (i + 2) (ne_o (i := i) (c := 2) (d := 1) rfl)).trans hgy93
            have hgy95 := (hfvy49 (i + 2) (ne_o (i := i) (c := 2) (d := 1) rfl) (ne_o (i := i) (c := 2) (d := 14) rfl) (ne_o (i := i) (c := 2) (d := 15) rfl)).trans hgy94
            have hgy96 := (hfvy49 (i + 7) (ne_o (i := i) (c := 7) (d := 1) rfl) (ne_o (i := i) (c := 7) (d := 14) rfl) (ne_o (i := i) (c := 7) (d := 15) rfl)).trans hgy74
            have hqy97 : qS rvy49 py87 := ((hwvy49.1 n (by omega)).of (p2 := py87) (by omega)).q (by have hb9 := mBb (t := rvy49 350 + x) (by omega); omega)
            have hmky98 := hqy97.1
            refine z_cV (As := [.int (zI (350)), .int (zI ((n : Int)))]) (rest := []) (ci := 12) C (c_X10_weakest l D A cs tt N ad _ i hN _ hgy88 _ hcvy49 _ hgy95 _ hgy96 350 n py87 hpy87 (by omega) (by omega) hqy97) (lt_A0 hN rfl) hay1 hgy88 rfl rfl mv_yX10_weakest q_1807 hd_yX10_weakest (by decide) (Nat.le_of_ble_eq_true rfl) (by decide) dX10_then_62 rfl (kI0 fun vy89 gvy89 hvy89 => ?_)
            obtain ⟨hvy89, rfl⟩ := hvy89
            refine z_istore (lv' := [(4, .int (zI (vy89))), (0, .ref (ad i)), (1, .int (zI ((n : Int)))), (2, .int (zI (z1))), (3, .int (zI (z2)))]) C dX10_then_65 (by decide) rfl ?_
            refine z_iload_n C 4 dX10_then_67 rfl ?_
            by_cases hsy99 : z2 ≠ 0 ∧ z2 ≠ 1 ∧ z2 ≠ 2 ∧ z2 ≠ 3 ∧ z2 ≠ 4 ∧ z2 ≠ 5
            · refine z_tout (tgt := 179) C dX10_then_68 (by omega) (by omega) (by decide) ?_
              refine z_aload_n C 1 dX10_then_179 rfl ?_
              refine z_get (v := .ref (ad (i + 1))) C (lt_A0 hN rfl) hay1 hgy88 rfl inA_X10 0 (by decide) q_1459 rfl rfl dX10_then_180 ?_
              refine z_sipush (z := 356) C dX10_then_183 (by decide) ?_
              refine z_bipush (z := 86) C dX10_then_186 (by decide) ?_
              refine z_iload_n C 2 dX10_then_188 rfl ?_
              refine z_imul C dX10_then_189 ?_
              refine z_iadd C dX10_then_190 ?_
              refine z_iconst (z := 1) C dX10_then_191 rfl ?_
              refine z_iadd C dX10_then_192 ?_
              refine z_iald C (lt_A (c := 1) hN rfl) hay2 hcvy49 (((356 + (86 * (n : Int))) + 1).toNat) (by omega) (by omega) (by decide) dX10_then_193 ?_
              obtain ⟨xy100, exy101, hxy102⟩ := zI_of (zI (rvy49 (((356 + (86 * (n : Int))) + 1).toNat)))
              rw [exy101]
              have hFy103 : ∀ f, f ≠ 12 → Fvy33 f = F f := fun f n12 => ((hFvy33 f n12).trans ((hFvy30 f n12).trans ((hFvy27 f n12).trans ((uZ_n _ _ n12).trans rfl))))
              have hey104 : Fvy33 13 = F 13 := ((hFvy33 13 (by decide)).trans ((hFvy30 13 (by decide)).trans ((hFvy27 13 (by decide)).trans (fn rfl (by decide)))))
              have hey105 : Fvy33 14 = F 14 := ((hFvy33 14 (by decide)).trans ((hFvy30 14 (by decide)).trans ((hFvy27 14 (by decide)).trans (fn rfl (by decide)))))
              have hey106 : Fvy33 15 = F 15 := ((hFvy33 15 (by decide)).trans ((hFvy30 15 (by decide)).trans ((hFvy27 15 (by decide)).trans (fn rfl (by decide)))))
              have hey107 : Fvy33 16 = F 16 := ((hFvy33 16 (by decide)).trans ((hFvy30 16 (by decide)).trans ((hFvy27 16 (by decide)).trans (fn rfl (by decide)))))
              have hey108 : Fvy33 17 = F 17 := ((hFvy33 17 (by decide)).trans ((hFvy30 17 (by decide)).trans ((hFvy27 17 (by decide)).trans (fn rfl (by decide)))))
              have hey109 : Fvy33 18 = F 18 := ((hFvy33 18 (by decide)).trans ((hFvy30 18 (by decide)).trans ((hFvy27 18 (by decide)).trans (fn rfl (by decide)))))
              have hey110 : Fvy33 19 = F 19 := ((hFvy33 19 (by decide)).trans ((hFvy30 19 (by decide)).trans ((hFvy27 19 (by decide)).trans (fn rfl (by decide)))))
              have hey111 : Fvy33 20 = F 20 := ((hFvy33 20 (by decide)).trans ((hFvy30 20 (by decide)).trans ((hFvy27 20 (by decide)).trans (fn rfl (by decide)))))
              have hey112 : Fvy33 21 = F 21 := ((hFvy33 21 (by decide)).trans ((hFvy30 21 (by decide)).trans ((hFvy27 21 (by decide)).trans (fn rfl (by decide)))))
              have hey113 : Fvy33 23 = F 23 := ((hFvy33 23 (by decide)).trans ((hFvy30 23 (by decide)).trans ((hFvy27 23 (by decide)).trans (fn rfl (by decide)))))
              have hey114 : Fvy33 25 = F 25 := ((hFvy33 25 (by decide)).trans ((hFvy30 25 (by decide)).trans ((hFvy27 25 (by decide)).trans (fn rfl (by decide)))))
              have hey115 : Fvy33 27 = F 27 := ((hFvy33 27 (by decide)).trans ((hFvy30 27 (by decide)).trans ((hFvy27 27 (by decide)).trans (fn rfl (by decide)))))
              have hey116 : Fvy33 28 = F 28 := ((hFvy33 28 (by decide)).trans ((hFvy30 28 (by decide)).trans ((hFvy27 28 (by decide)).trans (fn rfl (by decide)))))
              have hey117 : Fvy33 29 = F 29 := ((hFvy33 29 (by decide)).trans ((hFvy30 29 (by decide)).trans ((hFvy27 29 (by decide)).trans (fn rfl (by decide)))))
              have hKy118 : okF Fvy33 := okF.mv hM.2.1 hey104 hey105 hey106 hey107 hey108 hey109 hey110 hey111 hey112 hey113 hey114 hey115 hey116 hey117
              have hMy119 : okMr cs ad gvy49 i (x + 1) Fvy33 rvy49 st op ai fa mu tb tp := okMr.upd hM hgy88 hKy118 (fun f a => hFy103 f (by omega)) hcvy49 (hAy85.mono (by omega)) (fun j a b => by
                  by_cases e0 : j = i + 14
                  · exact Or.inr ⟨14, _, e0, lsP.l (by decide), by rw [e0]; exact h4vy49⟩
                  by_cases e1 : j = i + 15
                  · exact Or.inr ⟨15, _, e1, lsP.l (by decide), by rw [e1]; exact h5vy49⟩
                  exact Or.inl (by rw [hfvy49 _ (by omega) (by omega) (by omega)]; rw [hfvy39 _ (by omega)]; rw [hfvy33 _ (by omega)]; rw [hfvy30 _ (by omega)]; rw [hfvy27 _ (by omega)]; rw [egy25, va_up_ne _ _ (by omega)]))
              have hkpy120 : Fvy33 13 = F 13 := ((hFvy33 13 (by decide)).trans ((hFvy30 13 (by decide)).trans ((hFvy27 13 (by decide)).trans (fn rfl (by decide)))))
              have hkpy121 : Fvy33 14 = F 14 := ((hFvy33 14 (by decide)).trans ((hFvy30 14 (by decide)).trans ((hFvy27 14 (by decide)).trans (fn rfl (by decide)))))
              have hkpy122 : Fvy33 17 = F 17 := ((hFvy33 17 (by decide)).trans ((hFvy30 17 (by decide)).trans ((hFvy27 17 (by decide)).trans (fn rfl (by decide)))))
              have hkpy123 : Fvy33 20 = F 20 := ((hFvy33 20 (by decide)).trans ((hFvy30 20 (by decide)).trans ((hFvy27 20 (by decide)).trans (fn rfl (by decide)))))
              have hkpy124 : Fvy33 21 = F 21 := ((hFvy33 21 (by decide)).trans ((hFvy30 21 (by decide)).trans ((hFvy27 21 (by decide)).trans (fn rfl (by decide)))))
              have hkpy125 : Fvy33 23 = F 23 := ((hFvy33 23 (by decide)).trans ((hFvy30 23 (by decide)).trans ((hFvy27 23 (by decide)).trans (fn rfl (by decide)))))
              have hkpy126 : Fvy33 24 = F 24 := ((hFvy33 24 (by decide)).trans ((hFvy30 24 (by decide)).trans ((hFvy27 24 (by decide)).trans (fn rfl (by decide)))))
              exact z_iret C hr hlk dX10_then_194 (by decide) (by decide) ⟨xy100, rfl, rfl, rfl, by omega, ⟨_, _, hMy119, ⟨hkpy120, hkpy121, hkpy122, hkpy123, hkpy124, hkpy125, hkpy126⟩⟩, fun j j1 => by rw [hfvy49 _ (by omega) (by omega) (by omega)]; rw [hfvy39 _ (by omega)]; rw [hfvy33 _ (by omega)]; rw [hfvy30 _ (by omega)]; rw [hfvy27 _ (by omega)]; rw [egy25, va_up_ne _ _ (by omega)]⟩
            · rcases (show z2 = 0 ∨ z2 = 1 ∨ z2 = 2 ∨ z2 = 3 ∨ z2 = 4 ∨ z2 = 5 by omega) with rfl | rfl | rfl | rfl | rfl | rfl
              · refine z_tin (off := 40) (tgt := 108) C dX10_then_68 (by omega) (by omega) (by omega) rfl (by decide) ?_
                refine z_aload_n C 1 dX10_then_108 rfl ?_
                refine z_sipush (z := 350) C dX10_then_109 (by decide) ?_
                refine z_iload_n C 2 dX10_then_112 rfl ?_
                refine z_iconst (z := 3) C dX10_then_113 rfl ?_
                have hqy128 : qS rvy49 py87 := ((hwvy49.1 n (by omega)).of (p2 := py87) (by omega)).q (by have hb9 := mBb (t := rvy49 350 + x) (by omega); omega)
                have hmky129 := hqy128.1
                refine z_cV (As := [.int (zI (350)), .int (zI ((n : Int))), .int (zI (3))]) (rest := []) (ci := 12) C (c_X10_sumA l D A cs tt N ad _ i hN _ hgy88 _ hcvy49 350 n py87 hpy87 (by omega) (by omega) hqy128 3 (by omega)) (lt_A0 hN rfl) hay1 hgy88 rfl rfl mv_yX10_sum q_1745 hd_yX10_sum (by decide) (Nat.le_of_ble_eq_true rfl) (by decide) dX10_then_114 rfl (kI0 fun vy127 gvy127 hvy127 => ?_)
                obtain ⟨hvy127, rfl⟩ := hvy127
                have hFy130 : ∀ f, f ≠ 12 → Fvy33 f = F f := fun f n12 => ((hFvy33 f n12).trans ((hFvy30 f n12).trans ((hFvy27 f n12).trans ((uZ_n _ _ n12).trans rfl))))
                have hey131 : Fvy33 13 = F 13 := ((hFvy33 13 (by decide)).trans ((hFvy30 13 (by decide)).trans ((hFvy27 13 (by decide)).trans (fn rfl (by decide)))))
                have hey132 : Fvy33 14 = F 14 := ((hFvy33 14 (by decide)).trans ((hFvy30 14 (by decide)).trans ((hFvy27 14 (by decide)).trans (fn rfl (by decide)))))
                have hey133 : Fvy33 15 = F 15 := ((hFvy33 15 (by decide)).trans ((hFvy30 15 (by decide)).trans ((hFvy27 15 (by decide)).trans (fn rfl (by decide)))))
                have hey134 : Fvy33 16 = F 16 := ((hFvy33 16 (by decide)).trans ((hFvy30 16 (by decide)).trans ((hFvy27 16 (by decide)).trans (fn rfl (by decide)))))
                have hey135 : Fvy33 17 = F 17 := ((hFvy33 17 (by decide)).trans ((hFvy30 17 (by decide)).trans ((hFvy27 17 (by decide)).trans (fn rfl (by decide)))))
                have hey136 : Fvy33 18 = F 18 := ((hFvy33 18 (by decide)).trans ((hFvy30 18 (by decide)).trans ((hFvy27 18 (by decide)).trans (fn rfl (by decide)))))
                have hey137 : Fvy33 19 = F 19 := ((hFvy33 19 (by decide)).trans ((hFvy30 19 (by decide)).trans ((hFvy27 19 (by decide)).trans (fn rfl (by decide)))))
                have hey138 : Fvy33 20 = F 20 := ((hFvy33 20 (by decide)).trans ((hFvy30 20 (by decide)).trans ((hFvy27 20 (by decide)).trans (fn rfl (by decide)))))
                have hey139 : Fvy33 21 = F 21 := ((hFvy33 21 (by decide)).trans ((hFvy30 21 (by decide)).trans ((hFvy27 21 (by decide)).trans (fn rfl (by decide)))))
                have hey140 : Fvy33 23 = F 23 := ((hFvy33 23 (by decide)).trans ((hFvy30 23 (by decide)).trans ((hFvy27 23 (by decide)).trans (fn rfl (by decide)))))
                have hey141 : Fvy33 25 = F 25 := ((hFvy33 25 (by decide)).trans ((hFvy30 25 (by decide)).trans ((hFvy27 25 (by decide)).trans (fn rfl (by decide)))))
                have hey142 : Fvy33 27 = F 27 := ((hFvy33 27 (by decide)).trans ((hFvy30 27 (by decide)).trans ((hFvy27 27 (by decide)).trans (fn rfl (by decide)))))
                have hey143 : Fvy33 28 = F 28 := ((hFvy33 28 (by decide)).trans ((hFvy30 28 (by decide)).trans ((hFvy27 28 (by decide)).trans (fn rfl (by decide)))))
                have hey144 : Fvy33 29 = F 29 := ((hFvy33 29 (by decide)).trans ((hFvy30 29 (by decide)).trans ((hFvy27 29 (by decide)).trans (fn rfl (by decide)))))
                have hKy145 : okF Fvy33 := okF.mv hM.2.1 hey131 hey132 hey133 hey134 hey135 hey136 hey137 hey138 hey139 hey140 hey141 hey142 hey143 hey144
                have hMy146 : okMr cs ad gvy49 i (x + 1) Fvy33 rvy49 st op ai fa mu tb tp := okMr.upd hM hgy88 hKy145 (fun f a => hFy130 f (by omega)) hcvy49 (hAy85.mono (by omega)) (fun j a b => by
                    by_cases e0 : j = i + 14
                    · exact Or.inr ⟨14, _, e0, lsP.l (by decide), by rw [e0]; exact h4vy49⟩
                    by_cases e1 : j = i + 15
                    · exact Or.inr ⟨15, _, e1, lsP.l (by decide), by rw [e1]; exact h5vy49⟩
                    exact Or.inl (by rw [hfvy49 _ (by omega) (by omega) (by omega)]; rw [hfvy39 _ (by omega)]; rw [hfvy33 _ (by omega)]; rw [hfvy30 _ (by omega)]; rw [hfvy27 _ (by omega)]; rw [egy25, va_up_ne _ _ (by omega)]))
                have hkpy147 : Fvy33 13 = F 13 := ((hFvy33 13 (by decide)).trans ((hFvy30 13 (by decide)).trans ((hFvy27 13 (by decide)).trans (fn rfl (by decide)))))
                have hkpy148 : Fvy33 14 = F 14 := ((hFvy33 14 (by decide)).trans ((hFvy30 14 (by decide)).trans ((hFvy27 14 (by decide)).trans (fn rfl (by decide)))))
                have hkpy149 : Fvy33 17 = F 17 := ((hFvy33 17 (by decide)).trans ((hFvy30 17 (by decide)).trans ((hFvy27 17 (by decide)).trans (fn rfl (by decide)))))
                have hkpy150 : Fvy33 20 = F 20 := ((hFvy33 20 (by decide)).trans ((hFvy30 20 (by decide)).trans ((hFvy27 20 (by decide)).trans (fn rfl (by decide)))))
                have hkpy151 : Fvy33 21 = F 21 := ((hFvy33 21 (by decide)).trans ((hFvy30 21 (by decide)).trans ((hFvy27 21 (by decide)).trans (fn rfl (by decide)))))
                have hkpy152 : Fvy33 23 = F 23 := ((hFvy33 23 (by decide)).trans ((hFvy30 23 (by decide)).trans ((hFvy27 23 (by decide)).trans (fn rfl (by decide)))))
                have hkpy153 : Fvy33 24 = F 24 := ((hFvy33 24 (by decide)).trans ((hFvy30 24 (by decide)).trans ((hFvy27 24 (by decide)).trans (fn rfl (by decide)))))
                exact z_iret C hr hlk dX10_then_117 (by decide) (by decide) ⟨vy127, rfl, rfl, rfl, by omega, ⟨_, _, hMy146, ⟨hkpy147, hkpy148, hkpy149, hkpy150, hkpy151, hkpy152, hkpy153⟩⟩, fun j j1 => by rw [hfvy49 _ (by omega) (by omega) (by omega)]; rw [hfvy39 _ (by omega)]; rw [hfvy33 _ (by omega)]; rw [hfvy30 _ (by omega)]; rw [hfvy27 _ (by omega)]; rw [egy25, va_up_ne _ _ (by omega)]⟩
              · refine z_tin (off := 50) (tgt := 118) C dX10_then_68 (by omega) (by omega) (by omega) rfl (by decide) ?_
                refine z_aload_n C 1 dX10_then_118 rfl ?_
                refine z_sipush (z := 350) C dX10_then_119 (by decide) ?_
                refine z_iload_n C 2 dX10_then_122 rfl ?_
                refine z_iconst (z := 1) C dX10_then_123 rfl ?_
                have hqy155 : qS rvy49 py87 := ((hwvy49.1 n (by omega)).of (p2 := py87) (by omega)).q (by have hb9 := mBb (t := rvy49 350 + x) (by omega); omega)
                have hmky156 := hqy155.1
                refine z_cV (As := [.int (zI (350)), .int (zI ((n : Int))), .int (zI (1))]) (rest := []) (ci := 12) C (c_X10_sumA l D A cs tt N ad _ i hN _ hgy88 _ hcvy49 350 n py87 hpy87 (by omega) (by omega) hqy155 1 (by omega)) (lt_A0 hN rfl) hay1 hgy88 rfl rfl mv_yX10_sum q_1745 hd_yX10_sum (by decide) (Nat.le_of_ble_eq_true rfl) (by decide) dX10_then_124 rfl (kI0 fun vy154 gvy154 hvy154 => ?_)
                obtain ⟨hvy154, rfl⟩ := hvy154
                have hFy157 : ∀ f, f ≠ 12 → Fvy33 f = F f := fun f n12 => ((hFvy33 f n12).trans ((hFvy30 f n12).trans ((hFvy27 f n12).trans ((uZ_n _ _ n12).trans rfl))))
                have hey158 : Fvy33 13 = F 13 := ((hFvy33 13 (by decide)).trans ((hFvy30 13 (by decide)).trans ((hFvy27 13 (by decide)).trans (fn rfl (by decide)))))
                have hey159 : Fvy33 14 = F 14 := ((hFvy33 14 (by decide)).trans ((hFvy30 14 (by decide)).trans ((hFvy27 14 (by decide)).trans (fn rfl (by decide)))))
                have hey160 : Fvy33 15 = F 15 := ((hFvy33 15 (by decide)).trans ((hFvy30 15 (by decide)).trans ((hFvy27 15 (by decide)).trans (fn rfl (by decide)))))
                have hey161 : Fvy33 16 = F 16 := ((hFvy33 16 (by decide)).trans ((hFvy30 16 (by decide)).trans ((hFvy27 16 (by decide)).trans (fn rfl (by decide)))))
                have hey162 : Fvy33 17 = F 17 := ((hFvy33 17 (by decide)).trans ((hFvy30 17 (by decide)).trans ((hFvy27 17 (by decide)).trans (fn rfl (by decide)))))
                have hey163 : Fvy33 18 = F 18 := ((hFvy33 18 (by decide)).trans ((hFvy30 18 (by decide)).trans ((hFvy27 18 (by decide)).trans (fn rfl (by decide)))))
                have hey164 : Fvy33 19 = F 19 := ((hFvy33 19 (by decide)).trans ((hFvy30 19 (by decide)).trans ((hFvy27 19 (by decide)).trans (fn rfl (by decide)))))
                have hey165 : Fvy33 20 = F 20 := ((hFvy33 20 (by decide)).trans ((hFvy30 20 (by decide)).trans ((hFvy27 20 (by decide)).trans (fn rfl (by decide)))))
                have hey166 : Fvy33 21 = F 21 := ((hFvy33 21 (by decide)).trans ((hFvy30 21 (by decide)).trans ((hFvy27 21 (by decide)).trans (fn rfl (by decide)))))
                have hey167 : Fvy33 23 = F 23 := ((hFvy33 23 (by decide)).trans ((hFvy30 23 (by decide)).trans ((hFvy27 23 (by decide)).trans (fn rfl (by decide)))))
                have hey168 : Fvy33 25 = F 25 := ((hFvy33 25 (by decide)).trans ((hFvy30 25 (by decide)).trans ((hFvy27 25 (by decide)).trans (fn rfl (by decide)))))
                have hey169 : Fvy33 27 = F 27 := ((hFvy33 27 (by decide)).trans ((hFvy30 27 (by decide)).trans ((hFvy27 27 (by decide)).trans (fn rfl (by decide)))))
                have hey170 : Fvy33 28 = F 28 := ((hFvy33 28 (by decide)).trans ((hFvy30 28 (by decide)).trans ((hFvy27 28 (by decide)).trans (fn rfl (by decide)))))
                have hey171 : Fvy33 29 = F 29 := ((hFvy33 29 (by decide)).trans ((hFvy30 29 (by decide)).trans ((hFvy27 29 (by decide)).trans (fn rfl (by decide)))))
                have hKy172 : okF Fvy33 := okF.mv hM.2.1 hey158 hey159 hey160 hey161 hey162 hey163 hey164 hey165 hey166 hey167 hey168 hey169 hey170 hey171
                have hMy173 : okMr cs ad gvy49 i (x + 1) Fvy33 rvy49 st op ai fa mu tb tp := okMr.upd hM hgy88 hKy172 (fun f a => hFy157 f (by omega)) hcvy49 (hAy85.mono (by omega)) (fun j a b => by
                    by_cases e0 : j = i + 14
                    · exact Or.inr ⟨14, _, e0, lsP.l (by decide), by rw [e0]; exact h4vy49⟩
                    by_cases e1 : j = i + 15
                    · exact Or.inr ⟨15, _, e1, lsP.l (by decide), by rw [e1]; exact h5vy49⟩
                    exact Or.inl (by rw [hfvy49 _ (by omega) (by omega) (by omega)]; rw [hfvy39 _ (by omega)]; rw [hfvy33 _ (by omega)]; rw [hfvy30 _ (by omega)]; rw [hfvy27 _ (by omega)]; rw [egy25, va_up_ne _ _ (by omega)]))
                have hkpy174 : Fvy33 13 = F 13 := ((hFvy33 13 (by decide)).trans ((hFvy30 13 (by decide)).trans ((hFvy27 13 (by decide)).trans (fn rfl (by decide)))))
                have hkpy175 : Fvy33 14 = F 14 := ((hFvy33 14 (by decide)).trans ((hFvy30 14 (by decide)).trans ((hFvy27 14 (by decide)).trans (fn rfl (by decide)))))
                have hkpy176 : Fvy33 17 = F 17 := ((hFvy33 17 (by decide)).trans ((hFvy30 17 (by decide)).trans ((hFvy27 17 (by decide)).trans (fn rfl (by decide)))))
                have hkpy177 : Fvy33 20 = F 20 := ((hFvy33 20 (by decide)).trans ((hFvy30 20 (by decide)).trans ((hFvy27 20 (by decide)).trans (fn rfl (by decide)))))
                have hkpy178 : Fvy33 21 = F 21 := ((hFvy33 21 (by decide)).trans ((hFvy30 21 (by decide)).trans ((hFvy27 21 (by decide)).trans (fn rfl (by decide)))))
                have hkpy179 : Fvy33 23 = F 23 := ((hFvy33 23 (by decide)).trans ((hFvy30 23 (by decide)).trans ((hFvy27 23 (by decide)).trans (fn rfl (by decide)))))
                have hkpy180 : Fvy33 24 = F 24 := ((hFvy33 24 (by decide)).trans ((hFvy30 24 (by decide)).trans ((hFvy27 24 (by decide)).trans (fn rfl (by decide)))))
                exact z_iret C hr hlk dX10_then_127 (by decide) (by decide) ⟨vy154, rfl, rfl, rfl, by omega, ⟨_, _, hMy173, ⟨hkpy174, hkpy175, hkpy176, hkpy177, hkpy178, hkpy179, hkpy180⟩⟩, fun j j1 => by rw [hfvy49 _ (by omega) (by omega) (by omega)]; rw [hfvy39 _ (by omega)]; rw [hfvy33 _ (by omega)]; rw [hfvy30 _ (by omega)]; rw [hfvy27 _ (by omega)]; rw [egy25, va_up_ne _ _ (by omega)]⟩
              · refine z_tin (off := 60) (tgt := 128) C dX10_then_68 (by omega) (by omega) (by omega) rfl (by decide) ?_
                refine z_aload_n C 1 dX10_then_128 rfl ?_
                refine z_sipush (z := 350) C dX10_then_129 (by decide) ?_
                refine z_iload_n C 2 dX10_then_132 rfl ?_
                refine z_iconst (z := 2) C dX10_then_133 rfl ?_
                have hqy182 : qS rvy49 py87 := ((hwvy49.1 n (by omega)).of (p2 := py87) (by omega)).q (by have hb9 := mBb (t := rvy49 350 + x) (by omega); omega)
                have hmky183 := hqy182.1
                refine z_cV (As := [.int (zI (350)), .int (zI ((n : Int))), .int (zI (2))]) (rest := []) (ci := 12) C (c_X10_sumA l D A cs tt N ad _ i hN _ hgy88 _ hcvy49 350 n py87 hpy87 (by omega) (by omega) hqy182 2 (by omega)) (lt_A0 hN rfl) hay1 hgy88 rfl rfl mv_yX10_sum q_1745 hd_yX10_sum (by decide) (Nat.le_of_ble_eq_true rfl) (by decide) dX10_then_134 rfl (kI0 fun vy181 gvy181 hvy181 => ?_)
                obtain ⟨hvy181, rfl⟩ := hvy181
                have hFy184 : ∀ f, f ≠ 12 → Fvy33 f = F f := fun f n12 => ((hFvy33 f n12).trans ((hFvy30 f n12).trans ((hFvy27 f n12).trans ((uZ_n _ _ n12).trans rfl))))
                have hey185 : Fvy33 13 = F 13 := ((hFvy33 13 (by decide)).trans ((hFvy30 13 (by decide)).trans ((hFvy27 13 (by decide)).trans (fn rfl (by decide)))))
                have hey186 : Fvy33 14 = F 14 := ((hFvy33 14 (by decide)).trans ((hFvy30 14 (by decide)).trans ((hFvy27 14 (by decide)).trans (fn rfl (by decide)))))
                have hey187 : Fvy33 15 = F 15 := ((hFvy33 15 (by decide)).trans ((hFvy30 15 (by decide)).trans ((hFvy27 15 (by decide)).trans (fn rfl (by decide)))))
                have hey188 : Fvy33 16 = F 16 := ((hFvy33 16 (by decide)).trans ((hFvy30 16 (by decide)).trans ((hFvy27 16 (by decide)).trans (fn rfl (by decide)))))
                have hey189 : Fvy33 17 = F 17 := ((hFvy33 17 (by decide)).trans ((hFvy30 17 (by decide)).trans ((hFvy27 17 (by decide)).trans (fn rfl (by decide)))))
                have hey190 : Fvy33 18 = F 18 := ((hFvy33 18 (by decide)).trans ((hFvy30 18 (by decide)).trans ((hFvy27 18 (by decide)).trans (fn rfl (by decide)))))
                have hey191 : Fvy33 19 = F 19 := ((hFvy33 19 (by decide)).trans ((hFvy30 19 (by decide)).trans ((hFvy27 19 (by decide)).trans (fn rfl (by decide)))))
                have hey192 : Fvy33 20 = F 20 := ((hFvy33 20 (by decide)).trans ((hFvy30 20 (by decide)).trans ((hFvy27 20 (by decide)).trans (fn rfl (by decide)))))
                have hey193 : Fvy33 21 = F 21 := ((hFvy33 21 (by decide)).trans ((hFvy30 21 (by decide)).trans ((hFvy27 21 (by decide)).trans (fn rfl (by decide)))))
                have hey194 : Fvy33 23 = F 23 := ((hFvy33 23 (by decide)).trans ((hFvy30 23 (by decide)).trans ((hFvy27 23 (by decide)).trans (fn rfl (by decide)))))
                have hey195 : Fvy33 25 = F 25 := ((hFvy33 25 (by decide)).trans ((hFvy30 25 (by decide)).trans ((hFvy27 25 (by decide)).trans (fn rfl (by decide)))))
                have hey196 : Fvy33 27 = F 27 := ((hFvy33 27 (by decide)).trans ((hFvy30 27 (by decide)).trans ((hFvy27 27 (by decide)).trans (fn rfl (by decide)))))
                have hey197 : Fvy33 28 = F 28 := ((hFvy33 28 (by decide)).trans ((hFvy30 28 (by decide)).trans ((hFvy27 28 (by decide)).trans (fn rfl (by decide)))))
                have hey198 : Fvy33 29 = F 29 := ((hFvy33 29 (by decide)).trans ((hFvy30 29 (by decide)).trans ((hFvy27 29 (by decide)).trans (fn rfl (by decide)))))
                have hKy199 : okF Fvy33 := okF.mv hM.2.1 hey185 hey186 hey187 hey188 hey189 hey190 hey191 hey192 hey193 hey194 hey195 hey196 hey197 hey198
                have hMy200 : okMr cs ad gvy49 i (x + 1) Fvy33 rvy49 st op ai fa mu tb tp := okMr.upd hM hgy88 hKy199 (fun f a => hFy184 f (by omega)) hcvy49 (hAy85.mono (by omega)) (fun j a b => by
                    by_cases e0 : j = i + 14
                    · exact Or.inr ⟨14, _, e0, lsP.l (by decide), by rw [e0]; exact h4vy49⟩
                    by_cases e1 : j = i + 15
                    · exact Or.inr ⟨15, _, e1, lsP.l (by decide), by rw [e1]; exact h5vy49⟩
                    exact Or.inl (by rw [hfvy49 _ (by omega) (by omega) (by omega)]; rw [hfvy39 _ (by omega)]; rw [hfvy33 _ (by omega)]; rw [hfvy30 _ (by omega)]; rw [hfvy27 _ (by omega)]; rw [egy25, va_up_ne _ _ (by omega)]))
                have hkpy201 : Fvy33 13 = F 13 := ((hFvy33 13 (by decide)).trans ((hFvy30 13 (by decide)).trans ((hFvy27 13 (by decide)).trans (fn rfl (by decide)))))
                have hkpy202 : Fvy33 14 = F 14 := ((hFvy33 14 (by decide)).trans ((hFvy30 14 (by decide)).trans ((hFvy27 14 (by decide)).trans (fn rfl (by decide)))))
                have hkpy203 : Fvy33 17 = F 17 := ((hFvy33 17 (by decide)).trans ((hFvy30 17 (by decide)).trans ((hFvy27 17 (by decide)).trans (fn rfl (by decide)))))
                have hkpy204 : Fvy33 20 = F 20 := ((hFvy33 20 (by decide)).trans ((hFvy30 20 (by decide)).trans ((hFvy27 20 (by decide)).trans (fn rfl (by decide)))))
                have hkpy205 : Fvy33 21 = F 21 := ((hFvy33 21 (by decide)).trans ((hFvy30 21 (by decide)).trans ((hFvy27 21 (by decide)).trans (fn rfl (by decide)))))
                have hkpy206 : Fvy33 23 = F 23 := ((hFvy33 23 (by decide)).trans ((hFvy30 23 (by decide)).trans ((hFvy27 23 (by decide)).trans (fn rfl (by decide)))))
                have hkpy207 : Fvy33 24 = F 24 := ((hFvy33 24 (by decide)).trans ((hFvy30 24 (by decide)).trans ((hFvy27 24 (by decide)).trans (fn rfl (by decide)))))
                exact z_iret C hr hlk dX10_then_137 (by decide) (by decide) ⟨vy181, rfl, rfl, rfl, by omega, ⟨_, _, hMy200, ⟨hkpy201, hkpy202, hkpy203, hkpy204, hkpy205, hkpy206, hkpy207⟩⟩, fun j j1 => by rw [hfvy49 _ (by omega) (by omega) (by omega)]; rw [hfvy39 _ (by omega)]; rw [hfvy33 _ (by omega)]; rw [hfvy30 _ (by omega)]; rw [hfvy27 _ (by omega)]; rw [egy25, va_up_ne _ _ (by omega)]⟩
              · refine z_tin (off := 70) (tgt := 138) C dX10_then_68 (by omega) (by omega) (by omega) rfl (by decide) ?_
                refine z_aload_n C 1 dX10_then_138 rfl ?_
                refine z_sipush (z := 350) C dX10_then_139 (by decide) ?_
                refine z_iload_n C 2 dX10_then_142 rfl ?_
                have hmyy208 := (hwvy49.1 n (by omega)).1
                rw [hpy87] at hmyy208
                refine z_cV (As := [.int (zI (350)), .int (zI ((n : Int)))]) (rest := []) (ci := 12) C (c_X10_many l D A cs tt N ad _ i hN _ hgy88 _ hcvy49 350 n py87 hpy87 (by omega) (by omega)) (lt_A0 hN rfl) hay1 hgy88 rfl rfl mv_yX10_many q_1733 hd_yX10_many (by decide) (Nat.le_of_ble_eq_true rfl) (by decide) dX10_then_143 rfl (kI0 fun vy209 gvy209 hvy209 => ?_)
                obtain ⟨rfl, rfl⟩ := hvy209
                have hFy210 : ∀ f, f ≠ 12 → Fvy33 f = F f := fun f n12 => ((hFvy33 f n12).trans ((hFvy30 f n12).trans ((hFvy27 f n12).trans ((uZ_n _ _ n12).trans rfl))))
                have hey211 : Fvy33 13 = F 13 := ((hFvy33 13 (by decide)).trans ((hFvy30 13 (by decide)).trans ((hFvy27 13 (by decide)).trans (fn rfl (by decide)))))
                have hey212 : Fvy33 14 = F 14 := ((hFvy33 14 (by decide)).trans ((hFvy30 14 (by decide)).trans ((hFvy27 14 (by decide)).trans (fn rfl (by decide)))))
                have hey213 : Fvy33 15 = F 15 := ((hFvy33 15 (by decide)).trans ((hFvy30 15 (by decide)).trans ((hFvy27 15 (by decide)).trans (fn rfl (by decide)))))
                have hey214 : Fvy33 16 = F 16 := ((hFvy33 16 (by decide)).trans ((hFvy30 16 (by decide)).trans ((hFvy27 16 (by decide)).trans (fn rfl (by decide)))))
                have hey215 : Fvy33 17 = F 17 := ((hFvy33 17 (by decide)).trans ((hFvy30 17 (by decide)).trans ((hFvy27 17 (by decide)).trans (fn rfl (by decide)))))
                have hey216 : Fvy33 18 = F 18 := ((hFvy33 18 (by decide)).trans ((hFvy30 18 (by decide)).trans ((hFvy27 18 (by decide)).trans (fn rfl (by decide)))))
                have hey217 : Fvy33 19 = F 19 := ((hFvy33 19 (by decide)).trans ((hFvy30 19 (by decide)).trans ((hFvy27 19 (by decide)).trans (fn rfl (by decide)))))
                have hey218 : Fvy33 20 = F 20 := ((hFvy33 20 (by decide)).trans ((hFvy30 20 (by decide)).trans ((hFvy27 20 (by decide)).trans (fn rfl (by decide)))))
                have hey219 : Fvy33 21 = F 21 := ((hFvy33 21 (by decide)).trans ((hFvy30 21 (by decide)).trans ((hFvy27 21 (by decide)).trans (fn rfl (by decide)))))
                have hey220 : Fvy33 23 = F 23 := ((hFvy33 23 (by decide)).trans ((hFvy30 23 (by decide)).trans ((hFvy27 23 (by decide)).trans (fn rfl (by decide)))))
                have hey221 : Fvy33 25 = F 25 := ((hFvy33 25 (by decide)).trans ((hFvy30 25 (by decide)).trans ((hFvy27 25 (by decide)).trans (fn rfl (by decide)))))
                have hey222 : Fvy33 27 = F 27 := ((hFvy33 27 (by decide)).trans ((hFvy30 27 (by decide)).trans ((hFvy27 27 (by decide)).trans (fn rfl (by decide)))))
                have hey223 : Fvy33 28 = F 28 := ((hFvy33 28 (by decide)).trans ((hFvy30 28 (by decide)).trans ((hFvy27 28 (by decide)).trans (fn rfl (by decide)))))
                have hey224 : Fvy33 29 = F 29 := ((hFvy33 29 (by decide)).trans ((hFvy30 29 (by decide)).trans ((hFvy27 29 (by decide)).trans (fn rfl (by decide)))))
                have hKy225 : okF Fvy33 := okF.mv hM.2.1 hey211 hey212 hey213 hey214 hey215 hey216 hey217 hey218 hey219 hey220 hey221 hey222 hey223 hey224
                have hMy226 : okMr cs ad gvy49 i (x + 1) Fvy33 rvy49 st op ai fa mu tb tp := okMr.upd hM hgy88 hKy225 (fun f a => hFy210 f (by omega)) hcvy49 (hAy85.mono (by omega)) (fun j a b => by
                    by_cases e0 : j = i + 14
                    · exact Or.inr ⟨14, _, e0, lsP.l (by decide), by rw [e0]; exact h4vy49⟩
                    by_cases e1 : j = i + 15
                    · exact Or.inr ⟨15, _, e1, lsP.l (by decide), by rw [e1]; exact h5vy49⟩
                    exact Or.inl (by rw [hfvy49 _ (by omega) (by omega) (by omega)]; rw [hfvy39 _ (by omega)]; rw [hfvy33 _ (by omega)]; rw [hfvy30 _ (by omega)]; rw [hfvy27 _ (by omega)]; rw [egy25, va_up_ne _ _ (by omega)]))
                have hkpy227 : Fvy33 13 = F 13 := ((hFvy33 13 (by decide)).trans ((hFvy30 13 (by decide)).trans ((hFvy27 13 (by decide)).trans (fn rfl (by decide)))))
                have hkpy228 : Fvy33 14 = F 14 := ((hFvy33 14 (by decide)).trans ((hFvy30 14 (by decide)).trans ((hFvy27 14 (by decide)).trans (fn rfl (by decide)))))
                have hkpy229 : Fvy33 17 = F 17 := ((hFvy33 17 (by decide)).trans ((hFvy30 17 (by decide)).trans ((hFvy27 17 (by decide)).trans (fn rfl (by decide)))))
                have hkpy230 : Fvy33 20 = F 20 := ((hFvy33 20 (by decide)).trans ((hFvy30 20 (by decide)).trans ((hFvy27 20 (by decide)).trans (fn rfl (by decide)))))
                have hkpy231 : Fvy33 21 = F 21 := ((hFvy33 21 (by decide)).trans ((hFvy30 21 (by decide)).trans ((hFvy27 21 (by decide)).trans (fn rfl (by decide)))))
                have hkpy232 : Fvy33 23 = F 23 := ((hFvy33 23 (by decide)).trans ((hFvy30 23 (by decide)).trans ((hFvy27 23 (by decide)).trans (fn rfl (by decide)))))
                have hkpy233 : Fvy33 24 = F 24 := ((hFvy33 24 (by decide)).trans ((hFvy30 24 (by decide)).trans ((hFvy27 24 (by decide)).trans (fn rfl (by decide)))))
                exact z_iret C hr hlk dX10_then_146 (by decide) (by decide) ⟨rvy49 (py87), rfl, rfl, rfl, by omega, ⟨_, _, hMy226, ⟨hkpy227, hkpy228, hkpy229, hkpy230, hkpy231, hkpy232, hkpy233⟩⟩, fun j j1 => by rw [hfvy49 _ (by omega) (by omega) (by omega)]; rw [hfvy39 _ (by omega)]; rw [hfvy33 _ (by omega)]; rw [hfvy30 _ (by omega)]; rw [hfvy27 _ (by omega)]; rw [egy25, va_up_ne _ _ (by omega)]⟩
              · refine z_tin (off := 79) (tgt := 147) C dX10_then_68 (by omega) (by omega) (by omega) rfl (by decide) ?_
                refine z_aload_n C 1 dX10_then_147 rfl ?_
                refine z_sipush (z := 350) C dX10_then_148 (by decide) ?_
                refine z_iload_n C 2 dX10_then_151 rfl ?_
                have hqy235 : qS rvy49 py87 := ((hwvy49.1 n (by omega)).of (p2 := py87) (by omega)).q (by have hb9 := mBb (t := rvy49 350 + x) (by omega); omega)
                have hmky236 := hqy235.1
                refine z_cV (As := [.int (zI (350)), .int (zI ((n : Int)))]) (rest := []) (ci := 12) C (c_X10_leastRatio l D A cs tt N ad _ i hN _ hgy88 _ hcvy49 _ hgy95 _ hgy96 350 n py87 hpy87 (by omega) (by omega) hqy235) (lt_A0 hN rfl) hay1 hgy88 rfl rfl mv_yX10_leastRatio q_1760 hd_yX10_leastRatio (by decide) (Nat.le_of_ble_eq_true rfl) (by decide) dX10_then_152 rfl (kI0 fun vy234 gvy234 hvy234 => ?_)
                obtain ⟨hvy234, rfl⟩ := hvy234
                have hFy237 : ∀ f, f ≠ 12 → Fvy33 f = F f := fun f n12 => ((hFvy33 f n12).trans ((hFvy30 f n12).trans ((hFvy27 f n12).trans ((uZ_n _ _ n12).trans rfl))))
                have hey238 : Fvy33 13 = F 13 := ((hFvy33 13 (by decide)).trans ((hFvy30 13 (by decide)).trans ((hFvy27 13 (by decide)).trans (fn rfl (by decide)))))
                have hey239 : Fvy33 14 = F 14 := ((hFvy33 14 (by decide)).trans ((hFvy30 14 (by decide)).trans ((hFvy27 14 (by decide)).trans (fn rfl (by decide)))))
                have hey240 : Fvy33 15 = F 15 := ((hFvy33 15 (by decide)).trans ((hFvy30 15 (by decide)).trans ((hFvy27 15 (by decide)).trans (fn rfl (by decide)))))
                have hey241 : Fvy33 16 = F 16 := ((hFvy33 16 (by decide)).trans ((hFvy30 16 (by decide)).trans ((hFvy27 16 (by decide)).trans (fn rfl (by decide)))))
                have hey242 : Fvy33 17 = F 17 := ((hFvy33 17 (by decide)).trans ((hFvy30 17 (by decide)).trans ((hFvy27 17 (by decide)).trans (fn rfl (by decide)))))
                have hey243 : Fvy33 18 = F 18 := ((hFvy33 18 (by decide)).trans ((hFvy30 18 (by decide)).trans ((hFvy27 18 (by decide)).trans (fn rfl (by decide)))))
                have hey244 : Fvy33 19 = F 19 := ((hFvy33 19 (by decide)).trans ((hFvy30 19 (by decide)).trans ((hFvy27 19 (by decide)).trans (fn rfl (by decide)))))
                have hey245 : Fvy33 20 = F 20 := ((hFvy33 20 (by decide)).trans ((hFvy30 20 (by decide)).trans ((hFvy27 20 (by decide)).trans (fn rfl (by decide)))))
                have hey246 : Fvy33 21 = F 21 := ((hFvy33 21 (by decide)).trans ((hFvy30 21 (by decide)).trans ((hFvy27 21 (by decide)).trans (fn rfl (by decide)))))
                have hey247 : Fvy33 23 = F 23 := ((hFvy33 23 (by decide)).trans ((hFvy30 23 (by decide)).trans ((hFvy27 23 (by decide)).trans (fn rfl (by decide)))))
                have hey248 : Fvy33 25 = F 25 := ((hFvy33 25 (by decide)).trans ((hFvy30 25 (by decide)).trans ((hFvy27 25 (by decide)).trans (fn rfl (by decide)))))
                have hey249 : Fvy33 27 = F 27 := ((hFvy33 27 (by decide)).trans ((hFvy30 27 (by decide)).trans ((hFvy27 27 (by decide)).trans (fn rfl (by decide)))))
                have hey250 : Fvy33 28 = F 28 := ((hFvy33 28 (by decide)).trans ((hFvy30 28 (by decide)).trans ((hFvy27 28 (by decide)).trans (fn rfl (by decide)))))
                have hey251 : Fvy33 29 = F 29 := ((hFvy33 29 (by decide)).trans ((hFvy30 29 (by decide)).trans ((hFvy27 29 (by decide)).trans (fn rfl (by decide)))))
                have hKy252 : okF Fvy33 := okF.mv hM.2.1 hey238 hey239 hey240 hey241 hey242 hey243 hey244 hey245 hey246 hey247 hey248 hey249 hey250 hey251
                have hMy253 : okMr cs ad gvy49 i (x + 1) Fvy33 rvy49 st op ai fa mu tb tp := okMr.upd hM hgy88 hKy252 (fun f a => hFy237 f (by omega)) hcvy49 (hAy85.mono (by omega)) (fun j a b => by
                    by_cases e0 : j = i + 14
                    · exact Or.inr ⟨14, _, e0, lsP.l (by decide), by rw [e0]; exact h4vy49⟩
                    by_cases e1 : j = i + 15
                    · exact Or.inr ⟨15, _, e1, lsP.l (by decide), by rw [e1]; exact h5vy49⟩
                    exact Or.inl (by rw [hfvy49 _ (by omega) (by omega) (by omega)]; rw [hfvy39 _ (by omega)]; rw [hfvy33 _ (by omega)]; rw [hfvy30 _ (by omega)]; rw [hfvy27 _ (by omega)]; rw [egy25, va_up_ne _ _ (by omega)]))
                have hkpy254 : Fvy33 13 = F 13 := ((hFvy33 13 (by decide)).trans ((hFvy30 13 (by decide)).trans ((hFvy27 13 (by decide)).trans (fn rfl (by decide)))))
                have hkpy255 : Fvy33 14 = F 14 := ((hFvy33 14 (by decide)).trans ((hFvy30 14 (by decide)).trans ((hFvy27 14 (by decide)).trans (fn rfl (by decide)))))
                have hkpy256 : Fvy33 17 = F 17 := ((hFvy33 17 (by decide)).trans ((hFvy30 17 (by decide)).trans ((hFvy27 17 (by decide)).trans (fn rfl (by decide)))))
                have hkpy257 : Fvy33 20 = F 20 := ((hFvy33 20 (by decide)).trans ((hFvy30 20 (by decide)).trans ((hFvy27 20 (by decide)).trans (fn rfl (by decide)))))
                have hkpy258 : Fvy33 21 = F 21 := ((hFvy33 21 (by decide)).trans ((hFvy30 21 (by decide)).trans ((hFvy27 21 (by decide)).trans (fn rfl (by decide)))))
                have hkpy259 : Fvy33 23 = F 23 := ((hFvy33 23 (by decide)).trans ((hFvy30 23 (by decide)).trans ((hFvy27 23 (by decide)).trans (fn rfl (by decide)))))
                have hkpy260 : Fvy33 24 = F 24 := ((hFvy33 24 (by decide)).trans ((hFvy30 24 (by decide)).trans ((hFvy27 24 (by decide)).trans (fn rfl (by decide)))))
                exact z_iret C hr hlk dX10_then_155 (by decide) (by decide) ⟨vy234, rfl, rfl, rfl, by omega, ⟨_, _, hMy253, ⟨hkpy254, hkpy255, hkpy256, hkpy257, hkpy258, hkpy259, hkpy260⟩⟩, fun j j1 => by rw [hfvy49 _ (by omega) (by omega) (by omega)]; rw [hfvy39 _ (by omega)]; rw [hfvy33 _ (by omega)]; rw [hfvy30 _ (by omega)]; rw [hfvy27 _ (by omega)]; rw [egy25, va_up_ne _ _ (by omega)]⟩
              · refine z_tin (off := 88) (tgt := 156) C dX10_then_68 (by omega) (by omega) (by omega) rfl (by decide) ?_
                refine z_iload C 0 dX10_then_156 rfl ?_
                refine z_iconst (z := -1) C dX10_then_158 rfl ?_
                refine z_icmp_ne (tgt := 166) C dX10_then_159 (by decide) (by omega) (by omega) (fun hby261 => ?_) (fun hby261 => ?_)
                · refine z_aload_n C 1 dX10_then_166 rfl ?_
                  refine z_sipush (z := 350) C dX10_then_167 (by decide) ?_
                  refine z_iload_n C 2 dX10_then_170 rfl ?_
                  refine z_iload C 0 dX10_then_171 rfl ?_
                  refine z_bipush (z := 6) C dX10_then_173 (by decide) ?_
                  obtain ⟨ky262, hky262⟩ : ∃ k9 : Nat, (vy89) = (k9 : Int) := ⟨((vy89) : Int).toNat, by omega⟩
                  obtain ⟨qy263, hqy263⟩ : ∃ q9 : Nat, py87 + 2 + 7 * ky262 = q9 := ⟨_, rfl⟩
                  refine z_cV (As := [.int (zI (350)), .int (zI ((n : Int))), .int (zI (vy89)), .int (zI (6))]) (rest := []) (ci := 12) C (c_X10_of l D A cs tt N ad _ i hN _ hgy88 _ hcvy49 350 n py87 hpy87 (by omega) (by omega) (vy89) (6) (qy263 + 6) (by omega) (by omega) (by omega)) (lt_A0 hN rfl) hay1 hgy88 rfl rfl mv_yX10_of q_1749 hd_yX10_of (by decide) (Nat.le_of_ble_eq_true rfl) (by decide) dX10_then_175 rfl (kI0 fun vy264 gvy264 hvy264 => ?_)
                  obtain ⟨rfl, rfl⟩ := hvy264
                  obtain ⟨xy265, exy266, hxy267⟩ := zI_of (zI (rvy49 (qy263 + 6)))
                  rw [exy266]
                  have hFy268 : ∀ f, f ≠ 12 → Fvy33 f = F f := fun f n12 => ((hFvy33 f n12).trans ((hFvy30 f n12).trans ((hFvy27 f n12).trans ((uZ_n _ _ n12).trans rfl))))
                  have hey269 : Fvy33 13 = F 13 := ((hFvy33 13 (by decide)).trans ((hFvy30 13 (by decide)).trans ((hFvy27 13 (by decide)).trans (fn rfl (by decide)))))
                  have hey270 : Fvy33 14 = F 14 := ((hFvy33 14 (by decide)).trans ((hFvy30 14 (by decide)).trans ((hFvy27 14 (by decide)).trans (fn rfl (by decide)))))
                  have hey271 : Fvy33 15 = F 15 := ((hFvy33 15 (by decide)).trans ((hFvy30 15 (by decide)).trans ((hFvy27 15 (by decide)).trans (fn rfl (by decide)))))
                  have hey272 : Fvy33 16 = F 16 := ((hFvy33 16 (by decide)).trans ((hFvy30 16 (by decide)).trans ((hFvy27 16 (by decide)).trans (fn rfl (by decide)))))
                  have hey273 : Fvy33 17 = F 17 := ((hFvy33 17 (by decide)).trans ((hFvy30 17 (by decide)).trans ((hFvy27 17 (by decide)).trans (fn rfl (by decide)))))
                  have hey274 : Fvy33 18 = F 18 := ((hFvy33 18 (by decide)).trans ((hFvy30 18 (by decide)).trans ((hFvy27 18 (by decide)).trans (fn rfl (by decide)))))
                  have hey275 : Fvy33 19 = F 19 := ((hFvy33 19 (by decide)).trans ((hFvy30 19 (by decide)).trans ((hFvy27 19 (by decide)).trans (fn rfl (by decide)))))
                  have hey276 : Fvy33 20 = F 20 := ((hFvy33 20 (by decide)).trans ((hFvy30 20 (by decide)).trans ((hFvy27 20 (by decide)).trans (fn rfl (by decide)))))
                  have hey277 : Fvy33 21 = F 21 := ((hFvy33 21 (by decide)).trans ((hFvy30 21 (by decide)).trans ((hFvy27 21 (by decide)).trans (fn rfl (by decide)))))
                  have hey278 : Fvy33 23 = F 23 := ((hFvy33 23 (by decide)).trans ((hFvy30 23 (by decide)).trans ((hFvy27 23 (by decide)).trans (fn rfl (by decide)))))
                  have hey279 : Fvy33 25 = F 25 := ((hFvy33 25 (by decide)).trans ((hFvy30 25 (by decide)).trans ((hFvy27 25 (by decide)).trans (fn rfl (by decide)))))
                  have hey280 : Fvy33 27 = F 27 := ((hFvy33 27 (by decide)).trans ((hFvy30 27 (by decide)).trans ((hFvy27 27 (by decide)).trans (fn rfl (by decide)))))
                  have hey281 : Fvy33 28 = F 28 := ((hFvy33 28 (by decide)).trans ((hFvy30 28 (by decide)).trans ((hFvy27 28 (by decide)).trans (fn rfl (by decide)))))
                  have hey282 : Fvy33 29 = F 29 := ((hFvy33 29 (by decide)).trans ((hFvy30 29 (by decide)).trans ((hFvy27 29 (by decide)).trans (fn rfl (by decide)))))
                  have hKy283 : okF Fvy33 := okF.mv hM.2.1 hey269 hey270 hey271 hey272 hey273 hey274 hey275 hey276 hey277 hey278 hey279 hey280 hey281 hey282
                  have hMy284 : okMr cs ad gvy49 i (x + 1) Fvy33 rvy49 st op ai fa mu tb tp := okMr.upd hM hgy88 hKy283 (fun f a => hFy268 f (by omega)) hcvy49 (hAy85.mono (by omega)) (fun j a b => by
                      by_cases e0 : j = i + 14
                      · exact Or.inr ⟨14, _, e0, lsP.l (by decide), by rw [e0]; exact h4vy49⟩
                      by_cases e1 : j = i + 15
                      · exact Or.inr ⟨15, _, e1, lsP.l (by decide), by rw [e1]; exact h5vy49⟩
                      exact Or.inl (by rw [hfvy49 _ (by omega) (by omega) (by omega)]; rw [hfvy39 _ (by omega)]; rw [hfvy33 _ (by omega)]; rw [hfvy30 _ (by omega)]; rw [hfvy27 _ (by omega)]; rw [egy25, va_up_ne _ _ (by omega)]))
                  have hkpy285 : Fvy33 13 = F 13 := ((hFvy33 13 (by decide)).trans ((hFvy30 13 (by decide)).trans ((hFvy27 13 (by decide)).trans (fn rfl (by decide)))))
                  have hkpy286 : Fvy33 14 = F 14 := ((hFvy33 14 (by decide)).trans ((hFvy30 14 (by decide)).trans ((hFvy27 14 (by decide)).trans (fn rfl (by decide)))))
                  have hkpy287 : Fvy33 17 = F 17 := ((hFvy33 17 (by decide)).trans ((hFvy30 17 (by decide)).trans ((hFvy27 17 (by decide)).trans (fn rfl (by decide)))))
                  have hkpy288 : Fvy33 20 = F 20 := ((hFvy33 20 (by decide)).trans ((hFvy30 20 (by decide)).trans ((hFvy27 20 (by decide)).trans (fn rfl (by decide)))))
                  have hkpy289 : Fvy33 21 = F 21 := ((hFvy33 21 (by decide)).trans ((hFvy30 21 (by decide)).trans ((hFvy27 21 (by decide)).trans (fn rfl (by decide)))))
                  have hkpy290 : Fvy33 23 = F 23 := ((hFvy33 23 (by decide)).trans ((hFvy30 23 (by decide)).trans ((hFvy27 23 (by decide)).trans (fn rfl (by decide)))))
                  have hkpy291 : Fvy33 24 = F 24 := ((hFvy33 24 (by decide)).trans ((hFvy30 24 (by decide)).trans ((hFvy27 24 (by decide)).trans (fn rfl (by decide)))))
                  exact z_iret C hr hlk dX10_then_178 (by decide) (by decide) ⟨xy265, rfl, rfl, rfl, by omega, ⟨_, _, hMy284, ⟨hkpy285, hkpy286, hkpy287, hkpy288, hkpy289, hkpy290, hkpy291⟩⟩, fun j j1 => by rw [hfvy49 _ (by omega) (by omega) (by omega)]; rw [hfvy39 _ (by omega)]; rw [hfvy33 _ (by omega)]; rw [hfvy30 _ (by omega)]; rw [hfvy27 _ (by omega)]; rw [egy25, va_up_ne _ _ (by omega)]⟩
                · refine z_iconst (z := -1) C dX10_then_162 rfl ?_
                  refine z_goto (tgt := 178) C dX10_then_163 (by decide) ?_
                  have hFy292 : ∀ f, f ≠ 12 → Fvy33 f = F f := fun f n12 => ((hFvy33 f n12).trans ((hFvy30 f n12).trans ((hFvy27 f n12).trans ((uZ_n _ _ n12).trans rfl))))
                  have hey293 : Fvy33 13 = F 13 := ((hFvy33 13 (by decide)).trans ((hFvy30 13 (by decide)).trans ((hFvy27 13 (by decide)).trans (fn rfl (by decide)))))
                  have hey294 : Fvy33 14 = F 14 := ((hFvy33 14 (by decide)).trans ((hFvy30 14 (by decide)).trans ((hFvy27 14 (by decide)).trans (fn rfl (by decide)))))
                  have hey295 : Fvy33 15 = F 15 := ((hFvy33 15 (by decide)).trans ((hFvy30 15 (by decide)).trans ((hFvy27 15 (by decide)).trans (fn rfl (by decide)))))
                  have hey296 : Fvy33 16 = F 16 := ((hFvy33 16 (by decide)).trans ((hFvy30 16 (by decide)).trans ((hFvy27 16 (by decide)).trans (fn rfl (by decide)))))
                  have hey297 : Fvy33 17 = F 17 := ((hFvy33 17 (by decide)).trans ((hFvy30 17 (by decide)).trans ((hFvy27 17 (by decide)).trans (fn rfl (by decide)))))
                  have hey298 : Fvy33 18 = F 18 := ((hFvy33 18 (by decide)).trans ((hFvy30 18 (by decide)).trans ((hFvy27 18 (by decide)).trans (fn rfl (by decide)))))
                  have hey299 : Fvy33 19 = F 19 := ((hFvy33 19 (by decide)).trans ((hFvy30 19 (by decide)).trans ((hFvy27 19 (by decide)).trans (fn rfl (by decide)))))
                  have hey300 : Fvy33 20 = F 20 := ((hFvy33 20 (by decide)).trans ((hFvy30 20 (by decide)).trans ((hFvy27 20 (by decide)).trans (fn rfl (by decide)))))
                  have hey301 : Fvy33 21 = F 21 := ((hFvy33 21 (by decide)).trans ((hFvy30 21 (by decide)).trans ((hFvy27 21 (by decide)).trans (fn rfl (by decide)))))
                  have hey302 : Fvy33 23 = F 23 := ((hFvy33 23 (by decide)).trans ((hFvy30 23 (by decide)).trans ((hFvy27 23 (by decide)).trans (fn rfl (by decide)))))
                  have hey303 : Fvy33 25 = F 25 := ((hFvy33 25 (by decide)).trans ((hFvy30 25 (by decide)).trans ((hFvy27 25 (by decide)).trans (fn rfl (by decide)))))
                  have hey304 : Fvy33 27 = F 27 := ((hFvy33 27 (by decide)).trans ((hFvy30 27 (by decide)).trans ((hFvy27 27 (by decide)).trans (fn rfl (by decide)))))
                  have hey305 : Fvy33 28 = F 28 := ((hFvy33 28 (by decide)).trans ((hFvy30 28 (by decide)).trans ((hFvy27 28 (by decide)).trans (fn rfl (by decide)))))
                  have hey306 : Fvy33 29 = F 29 := ((hFvy33 29 (by decide)).trans ((hFvy30 29 (by decide)).trans ((hFvy27 29 (by decide)).trans (fn rfl (by decide)))))
                  have hKy307 : okF Fvy33 := okF.mv hM.2.1 hey293 hey294 hey295 hey296 hey297 hey298 hey299 hey300 hey301 hey302 hey303 hey304 hey305 hey306
                  have hMy308 : okMr cs ad gvy49 i (x + 1) Fvy33 rvy49 st op ai fa mu tb tp := okMr.upd hM hgy88 hKy307 (fun f a => hFy292 f (by omega)) hcvy49 (hAy85.mono (by omega)) (fun j a b => by
                      by_cases e0 : j = i + 14
                      · exact Or.inr ⟨14, _, e0, lsP.l (by decide), by rw [e0]; exact h4vy49⟩
                      by_cases e1 : j = i + 15
                      · exact Or.inr ⟨15, _, e1, lsP.l (by decide), by rw [e1]; exact h5vy49⟩
                      exact Or.inl (by rw [hfvy49 _ (by omega) (by omega) (by omega)]; rw [hfvy39 _ (by omega)]; rw [hfvy33 _ (by omega)]; rw [hfvy30 _ (by omega)]; rw [hfvy27 _ (by omega)]; rw [egy25, va_up_ne _ _ (by omega)]))
                  have hkpy309 : Fvy33 13 = F 13 := ((hFvy33 13 (by decide)).trans ((hFvy30 13 (by decide)).trans ((hFvy27 13 (by decide)).trans (fn rfl (by decide)))))
                  have hkpy310 : Fvy33 14 = F 14 := ((hFvy33 14 (by decide)).trans ((hFvy30 14 (by decide)).trans ((hFvy27 14 (by decide)).trans (fn rfl (by decide)))))
                  have hkpy311 : Fvy33 17 = F 17 := ((hFvy33 17 (by decide)).trans ((hFvy30 17 (by decide)).trans ((hFvy27 17 (by decide)).trans (fn rfl (by decide)))))
                  have hkpy312 : Fvy33 20 = F 20 := ((hFvy33 20 (by decide)).trans ((hFvy30 20 (by decide)).trans ((hFvy27 20 (by decide)).trans (fn rfl (by decide)))))
                  have hkpy313 : Fvy33 21 = F 21 := ((hFvy33 21 (by decide)).trans ((hFvy30 21 (by decide)).trans ((hFvy27 21 (by decide)).trans (fn rfl (by decide)))))
                  have hkpy314 : Fvy33 23 = F 23 := ((hFvy33 23 (by decide)).trans ((hFvy30 23 (by decide)).trans ((hFvy27 23 (by decide)).trans (fn rfl (by decide)))))
                  have hkpy315 : Fvy33 24 = F 24 := ((hFvy33 24 (by decide)).trans ((hFvy30 24 (by decide)).trans ((hFvy27 24 (by decide)).trans (fn rfl (by decide)))))
                  exact z_iret C hr hlk dX10_then_178 (by decide) (by decide) ⟨-1, rfl, rfl, rfl, by omega, ⟨_, _, hMy308, ⟨hkpy309, hkpy310, hkpy311, hkpy312, hkpy313, hkpy314, hkpy315⟩⟩, fun j j1 => by rw [hfvy49 _ (by omega) (by omega) (by omega)]; rw [hfvy39 _ (by omega)]; rw [hfvy33 _ (by omega)]; rw [hfvy30 _ (by omega)]; rw [hfvy27 _ (by omega)]; rw [egy25, va_up_ne _ _ (by omega)]⟩
          · refine z_if_ne (tgt := 45) C dX10_then_40 (by decide) (by omega) (fun h => absurd h (by omega)) (fun _ => ?_)
            refine z_iconst (z := 0) C dX10_then_43 rfl ?_
            have hgy316 := up_n egy25 ha1 (ne_o (i := i) (c := 1) (d := 0) rfl)
            have hgy317 := (hfvy27 (i + 1) (ne_o (i := i) (c := 1) (d := 0) rfl)).trans hgy316
            have hgy318 := (hfvy30 (i + 1) (ne_o (i := i) (c := 1) (d := 0) rfl)).trans hgy317
            have hgy319 := (hfvy33 (i + 1) (ne_o (i := i) (c := 1) (d := 0) rfl)).trans hgy318
            have hFy320 : ∀ f, f ≠ 12 → Fvy33 f = F f := fun f n12 => ((hFvy33 f n12).trans ((hFvy30 f n12).trans ((hFvy27 f n12).trans ((uZ_n _ _ n12).trans rfl))))
            have hey321 : Fvy33 13 = F 13 := ((hFvy33 13 (by decide)).trans ((hFvy30 13 (by decide)).trans ((hFvy27 13 (by decide)).trans (fn rfl (by decide)))))
            have hey322 : Fvy33 14 = F 14 := ((hFvy33 14 (by decide)).trans ((hFvy30 14 (by decide)).trans ((hFvy27 14 (by decide)).trans (fn rfl (by decide)))))
            have hey323 : Fvy33 15 = F 15 := ((hFvy33 15 (by decide)).trans ((hFvy30 15 (by decide)).trans ((hFvy27 15 (by decide)).trans (fn rfl (by decide)))))
            have hey324 : Fvy33 16 = F 16 := ((hFvy33 16 (by decide)).trans ((hFvy30 16 (by decide)).trans ((hFvy27 16 (by decide)).trans (fn rfl (by decide)))))
            have hey325 : Fvy33 17 = F 17 := ((hFvy33 17 (by decide)).trans ((hFvy30 17 (by decide)).trans ((hFvy27 17 (by decide)).trans (fn rfl (by decide)))))
            have hey326 : Fvy33 18 = F 18 := ((hFvy33 18 (by decide)).trans ((hFvy30 18 (by decide)).trans ((hFvy27 18 (by decide)).trans (fn rfl (by decide)))))
            have hey327 : Fvy33 19 = F 19 := ((hFvy33 19 (by decide)).trans ((hFvy30 19 (by decide)).trans ((hFvy27 19 (by decide)).trans (fn rfl (by decide)))))
            have hey328 : Fvy33 20 = F 20 := ((hFvy33 20 (by decide)).trans ((hFvy30 20 (by decide)).trans ((hFvy27 20 (by decide)).trans (fn rfl (by decide)))))
            have hey329 : Fvy33 21 = F 21 := ((hFvy33 21 (by decide)).trans ((hFvy30 21 (by decide)).trans ((hFvy27 21 (by decide)).trans (fn rfl (by decide)))))
            have hey330 : Fvy33 23 = F 23 := ((hFvy33 23 (by decide)).trans ((hFvy30 23 (by decide)).trans ((hFvy27 23 (by decide)).trans (fn rfl (by decide)))))
            have hey331 : Fvy33 25 = F 25 := ((hFvy33 25 (by decide)).trans ((hFvy30 25 (by decide)).trans ((hFvy27 25 (by decide)).trans (fn rfl (by decide)))))
            have hey332 : Fvy33 27 = F 27 := ((hFvy33 27 (by decide)).trans ((hFvy30 27 (by decide)).trans ((hFvy27 27 (by decide)).trans (fn rfl (by decide)))))
            have hey333 : Fvy33 28 = F 28 := ((hFvy33 28 (by decide)).trans ((hFvy30 28 (by decide)).trans ((hFvy27 28 (by decide)).trans (fn rfl (by decide)))))
            have hey334 : Fvy33 29 = F 29 := ((hFvy33 29 (by decide)).trans ((hFvy30 29 (by decide)).trans ((hFvy27 29 (by decide)).trans (fn rfl (by decide)))))
            have hKy335 : okF Fvy33 := okF.mv hM.2.1 hey321 hey322 hey323 hey324 hey325 hey326 hey327 hey328 hey329 hey330 hey331 hey332 hey333 hey334
            have hMy336 : okMr cs ad gvy33 i (x + 1) Fvy33 r st op ai fa mu tb tp := okMr.upd hM hcvy33 hKy335 (fun f a => hFy320 f (by omega)) hgy319 (hA.mono (by omega)) (fun j a b => by
                exact Or.inl (by rw [hfvy33 _ (by omega)]; rw [hfvy30 _ (by omega)]; rw [hfvy27 _ (by omega)]; rw [egy25, va_up_ne _ _ (by omega)]))
            have hkpy337 : Fvy33 13 = F 13 := ((hFvy33 13 (by decide)).trans ((hFvy30 13 (by decide)).trans ((hFvy27 13 (by decide)).trans (fn rfl (by decide)))))
            have hkpy338 : Fvy33 14 = F 14 := ((hFvy33 14 (by decide)).trans ((hFvy30 14 (by decide)).trans ((hFvy27 14 (by decide)).trans (fn rfl (by decide)))))
            have hkpy339 : Fvy33 17 = F 17 := ((hFvy33 17 (by decide)).trans ((hFvy30 17 (by decide)).trans ((hFvy27 17 (by decide)).trans (fn rfl (by decide)))))
            have hkpy340 : Fvy33 20 = F 20 := ((hFvy33 20 (by decide)).trans ((hFvy30 20 (by decide)).trans ((hFvy27 20 (by decide)).trans (fn rfl (by decide)))))
            have hkpy341 : Fvy33 21 = F 21 := ((hFvy33 21 (by decide)).trans ((hFvy30 21 (by decide)).trans ((hFvy27 21 (by decide)).trans (fn rfl (by decide)))))
            have hkpy342 : Fvy33 23 = F 23 := ((hFvy33 23 (by decide)).trans ((hFvy30 23 (by decide)).trans ((hFvy27 23 (by decide)).trans (fn rfl (by decide)))))
            have hkpy343 : Fvy33 24 = F 24 := ((hFvy33 24 (by decide)).trans ((hFvy30 24 (by decide)).trans ((hFvy27 24 (by decide)).trans (fn rfl (by decide)))))
            exact z_iret C hr hlk dX10_then_44 (by decide) (by decide) ⟨0, rfl, rfl, rfl, by omega, ⟨_, _, hMy336, ⟨hkpy337, hkpy338, hkpy339, hkpy340, hkpy341, hkpy342, hkpy343⟩⟩, fun j j1 => by rw [hfvy33 _ (by omega)]; rw [hfvy30 _ (by omega)]; rw [hfvy27 _ (by omega)]; rw [egy25, va_up_ne _ _ (by omega)]⟩
        · refine z_iconst (z := 2) C dX10_then_36 rfl ?_
          have hey345 : Fvy30 12 = Fvy30 12 := rfl
          refine z_cV (As := [.int (zI (0)), .int (zI (2))]) (rest := []) (ci := 12) C (c_X10_right l D A cs tt N ad _ i hN _ hcvy30 (by omega) (0) (by omega) (2) (by omega)) (lt_A0 hN rfl) hay1 hcvy30 rfl rfl mv_yX10_right q_1648 hd_yX10_right (by decide) (Nat.le_of_ble_eq_true rfl) (by decide) dX10_then_37 rfl (kI0 fun vy344 gvy344 hvy344 => ?_)
          obtain ⟨hrvy344, ⟨Fvy344, hcvy344, htvy344, hFvy344⟩, hfvy344⟩ := hvy344
          obtain rfl : vy344 = 0 := by omega
          refine z_if_ne (tgt := 45) C dX10_then_40 (by decide) (by omega) (fun h => absurd h (by omega)) (fun _ => ?_)
          refine z_iconst (z := 0) C dX10_then_43 rfl ?_
          have hgy346 := up_n egy25 ha1 (ne_o (i := i) (c := 1) (d := 0) rfl)
          have hgy347 := (hfvy27 (i + 1) (ne_o (i := i) (c := 1) (d := 0) rfl)).trans hgy346
          have hgy348 := (hfvy30 (i + 1) (ne_o (i := i) (c := 1) (d := 0) rfl)).trans hgy347
          have hgy349 := (hfvy344 (i + 1) (ne_o (i := i) (c := 1) (d := 0) rfl)).trans hgy348
          have hFy350 : ∀ f, f ≠ 12 → Fvy344 f = F f := fun f n12 => ((hFvy344 f n12).trans ((hFvy30 f n12).trans ((hFvy27 f n12).trans ((uZ_n _ _ n12).trans rfl))))
          have hey351 : Fvy344 13 = F 13 := ((hFvy344 13 (by decide)).trans ((hFvy30 13 (by decide)).trans ((hFvy27 13 (by decide)).trans (fn rfl (by decide)))))
          have hey352 : Fvy344 14 = F 14 := ((hFvy344 14 (by decide)).trans ((hFvy30 14 (by decide)).trans ((hFvy27 14 (by decide)).trans (fn rfl (by decide)))))
          have hey353 : Fvy344 15 = F 15 := ((hFvy344 15 (by decide)).trans ((hFvy30 15 (by decide)).trans ((hFvy27 15 (by decide)).trans (fn rfl (by decide)))))
          have hey354 : Fvy344 16 = F 16 := ((hFvy344 16 (by decide)).trans ((hFvy30 16 (by decide)).trans ((hFvy27 16 (by decide)).trans (fn rfl (by decide)))))
          have hey355 : Fvy344 17 = F 17 := ((hFvy344 17 (by decide)).trans ((hFvy30 17 (by decide)).trans ((hFvy27 17 (by decide)).trans (fn rfl (by decide)))))
          have hey356 : Fvy344 18 = F 18 := ((hFvy344 18 (by decide)).trans ((hFvy30 18 (by decide)).trans ((hFvy27 18 (by decide)).trans (fn rfl (by decide)))))
          have hey357 : Fvy344 19 = F 19 := ((hFvy344 19 (by decide)).trans ((hFvy30 19 (by decide)).trans ((hFvy27 19 (by decide)).trans (fn rfl (by decide)))))
          have hey358 : Fvy344 20 = F 20 := ((hFvy344 20 (by decide)).trans ((hFvy30 20 (by decide)).trans ((hFvy27 20 (by decide)).trans (fn rfl (by decide)))))
          have hey359 : Fvy344 21 = F 21 := ((hFvy344 21 (by decide)).trans ((hFvy30 21 (by decide)).trans ((hFvy27 21 (by decide)).trans (fn rfl (by decide)))))
          have hey360 : Fvy344 23 = F 23 := ((hFvy344 23 (by decide)).trans ((hFvy30 23 (by decide)).trans ((hFvy27 23 (by decide)).trans (fn rfl (by decide)))))
          have hey361 : Fvy344 25 = F 25 := ((hFvy344 25 (by decide)).trans ((hFvy30 25 (by decide)).trans ((hFvy27 25 (by decide)).trans (fn rfl (by decide)))))
          have hey362 : Fvy344 27 = F 27 := ((hFvy344 27 (by decide)).trans ((hFvy30 27 (by decide)).trans ((hFvy27 27 (by decide)).trans (fn rfl (by decide)))))
          have hey363 : Fvy344 28 = F 28 := ((hFvy344 28 (by decide)).trans ((hFvy30 28 (by decide)).trans ((hFvy27 28 (by decide)).trans (fn rfl (by decide)))))
          have hey364 : Fvy344 29 = F 29 := ((hFvy344 29 (by decide)).trans ((hFvy30 29 (by decide)).trans ((hFvy27 29 (by decide)).trans (fn rfl (by decide)))))
          have hKy365 : okF Fvy344 := okF.mv hM.2.1 hey351 hey352 hey353 hey354 hey355 hey356 hey357 hey358 hey359 hey360 hey361 hey362 hey363 hey364
          have hMy366 : okMr cs ad gvy344 i (x + 1) Fvy344 r st op ai fa mu tb tp := okMr.upd hM hcvy344 hKy365 (fun f a => hFy350 f (by omega)) hgy349 (hA.mono (by omega)) (fun j a b => by
              exact Or.inl (by rw [hfvy344 _ (by omega)]; rw [hfvy30 _ (by omega)]; rw [hfvy27 _ (by omega)]; rw [egy25, va_up_ne _ _ (by omega)]))
          have hkpy367 : Fvy344 13 = F 13 := ((hFvy344 13 (by decide)).trans ((hFvy30 13 (by decide)).trans ((hFvy27 13 (by decide)).trans (fn rfl (by decide)))))
          have hkpy368 : Fvy344 14 = F 14 := ((hFvy344 14 (by decide)).trans ((hFvy30 14 (by decide)).trans ((hFvy27 14 (by decide)).trans (fn rfl (by decide)))))
          have hkpy369 : Fvy344 17 = F 17 := ((hFvy344 17 (by decide)).trans ((hFvy30 17 (by decide)).trans ((hFvy27 17 (by decide)).trans (fn rfl (by decide)))))
          have hkpy370 : Fvy344 20 = F 20 := ((hFvy344 20 (by decide)).trans ((hFvy30 20 (by decide)).trans ((hFvy27 20 (by decide)).trans (fn rfl (by decide)))))
          have hkpy371 : Fvy344 21 = F 21 := ((hFvy344 21 (by decide)).trans ((hFvy30 21 (by decide)).trans ((hFvy27 21 (by decide)).trans (fn rfl (by decide)))))
          have hkpy372 : Fvy344 23 = F 23 := ((hFvy344 23 (by decide)).trans ((hFvy30 23 (by decide)).trans ((hFvy27 23 (by decide)).trans (fn rfl (by decide)))))
          have hkpy373 : Fvy344 24 = F 24 := ((hFvy344 24 (by decide)).trans ((hFvy30 24 (by decide)).trans ((hFvy27 24 (by decide)).trans (fn rfl (by decide)))))
          exact z_iret C hr hlk dX10_then_44 (by decide) (by decide) ⟨0, rfl, rfl, rfl, by omega, ⟨_, _, hMy366, ⟨hkpy367, hkpy368, hkpy369, hkpy370, hkpy371, hkpy372, hkpy373⟩⟩, fun j j1 => by rw [hfvy344 _ (by omega)]; rw [hfvy30 _ (by omega)]; rw [hfvy27 _ (by omega)]; rw [egy25, va_up_ne _ _ (by omega)]⟩
      · refine z_if_eq (tgt := 43) C dX10_then_25 (by decide) (by omega) (fun _ => ?_) (fun h => absurd h (by omega))
        refine z_iconst (z := 0) C dX10_then_43 rfl ?_
        have hgy374 := up_n egy25 ha1 (ne_o (i := i) (c := 1) (d := 0) rfl)
        have hgy375 := (hfvy27 (i + 1) (ne_o (i := i) (c := 1) (d := 0) rfl)).trans hgy374
        have hgy376 := (hfvy30 (i + 1) (ne_o (i := i) (c := 1) (d := 0) rfl)).trans hgy375
        have hFy377 : ∀ f, f ≠ 12 → Fvy30 f = F f := fun f n12 => ((hFvy30 f n12).trans ((hFvy27 f n12).trans ((uZ_n _ _ n12).trans rfl)))
        have hey378 : Fvy30 13 = F 13 := ((hFvy30 13 (by decide)).trans ((hFvy27 13 (by decide)).trans (fn rfl (by decide))))
        have hey379 : Fvy30 14 = F 14 := ((hFvy30 14 (by decide)).trans ((hFvy27 14 (by decide)).trans (fn rfl (by decide))))
        have hey380 : Fvy30 15 = F 15 := ((hFvy30 15 (by decide)).trans ((hFvy27 15 (by decide)).trans (fn rfl (by decide))))
        have hey381 : Fvy30 16 = F 16 := ((hFvy30 16 (by decide)).trans ((hFvy27 16 (by decide)).trans (fn rfl (by decide))))
        have hey382 : Fvy30 17 = F 17 := ((hFvy30 17 (by decide)).trans ((hFvy27 17 (by decide)).trans (fn rfl (by decide))))
        have hey383 : Fvy30 18 = F 18 := ((hFvy30 18 (by decide)).trans ((hFvy27 18 (by decide)).trans (fn rfl (by decide))))
        have hey384 : Fvy30 19 = F 19 := ((hFvy30 19 (by decide)).trans ((hFvy27 19 (by decide)).trans (fn rfl (by decide))))
        have hey385 : Fvy30 20 = F 20 := ((hFvy30 20 (by decide)).trans ((hFvy27 20 (by decide)).trans (fn rfl (by decide))))
        have hey386 : Fvy30 21 = F 21 := ((hFvy30 21 (by decide)).trans ((hFvy27 21 (by decide)).trans (fn rfl (by decide))))
        have hey387 : Fvy30 23 = F 23 := ((hFvy30 23 (by decide)).trans ((hFvy27 23 (by decide)).trans (fn rfl (by decide))))
        have hey388 : Fvy30 25 = F 25 := ((hFvy30 25 (by decide)).trans ((hFvy27 25 (by decide)).trans (fn rfl (by decide))))
        have hey389 : Fvy30 27 = F 27 := ((hFvy30 27 (by decide)).trans ((hFvy27 27 (by decide)).trans (fn rfl (by decide))))
        have hey390 : Fvy30 28 = F 28 := ((hFvy30 28 (by decide)).trans ((hFvy27 28 (by decide)).trans (fn rfl (by decide))))
        have hey391 : Fvy30 29 = F 29 := ((hFvy30 29 (by decide)).trans ((hFvy27 29 (by decide)).trans (fn rfl (by decide))))
        have hKy392 : okF Fvy30 := okF.mv hM.2.1 hey378 hey379 hey380 hey381 hey382 hey383 hey384 hey385 hey386 hey387 hey388 hey389 hey390 hey391
        have hMy393 : okMr cs ad gvy30 i (x + 1) Fvy30 r st op ai fa mu tb tp := okMr.upd hM hcvy30 hKy392 (fun f a => hFy377 f (by omega)) hgy376 (hA.mono (by omega)) (fun j a b => by
            exact Or.inl (by rw [hfvy30 _ (by omega)]; rw [hfvy27 _ (by omega)]; rw [egy25, va_up_ne _ _ (by omega)]))
        have hkpy394 : Fvy30 13 = F 13 := ((hFvy30 13 (by decide)).trans ((hFvy27 13 (by decide)).trans (fn rfl (by decide))))
        have hkpy395 : Fvy30 14 = F 14 := ((hFvy30 14 (by decide)).trans ((hFvy27 14 (by decide)).trans (fn rfl (by decide))))
        have hkpy396 : Fvy30 17 = F 17 := ((hFvy30 17 (by decide)).trans ((hFvy27 17 (by decide)).trans (fn rfl (by decide))))
        have hkpy397 : Fvy30 20 = F 20 := ((hFvy30 20 (by decide)).trans ((hFvy27 20 (by decide)).trans (fn rfl (by decide))))
        have hkpy398 : Fvy30 21 = F 21 := ((hFvy30 21 (by decide)).trans ((hFvy27 21 (by decide)).trans (fn rfl (by decide))))
        have hkpy399 : Fvy30 23 = F 23 := ((hFvy30 23 (by decide)).trans ((hFvy27 23 (by decide)).trans (fn rfl (by decide))))
        have hkpy400 : Fvy30 24 = F 24 := ((hFvy30 24 (by decide)).trans ((hFvy27 24 (by decide)).trans (fn rfl (by decide))))
        exact z_iret C hr hlk dX10_then_44 (by decide) (by decide) ⟨0, rfl, rfl, rfl, by omega, ⟨_, _, hMy393, ⟨hkpy394, hkpy395, hkpy396, hkpy397, hkpy398, hkpy399, hkpy400⟩⟩, fun j j1 => by rw [hfvy30 _ (by omega)]; rw [hfvy27 _ (by omega)]; rw [egy25, va_up_ne _ _ (by omega)]⟩
    · refine z_iconst (z := 1) C dX10_then_21 rfl ?_
      have hey402 : Fvy27 12 = Fvy27 12 := rfl
      refine z_cV (As := [.int (zI (0)), .int (zI (1))]) (rest := []) (ci := 12) C (c_X10_right l D A cs tt N ad _ i hN _ hcvy27 (by omega) (0) (by omega) (1) (by omega)) (lt_A0 hN rfl) hay1 hcvy27 rfl rfl mv_yX10_right q_1648 hd_yX10_right (by decide) (Nat.le_of_ble_eq_true rfl) (by decide) dX10_then_22 rfl (kI0 fun vy401 gvy401 hvy401 => ?_)
      obtain ⟨hrvy401, ⟨Fvy401, hcvy401, htvy401, hFvy401⟩, hfvy401⟩ := hvy401
      obtain rfl : vy401 = 0 := by omega
      refine z_if_eq (tgt := 43) C dX10_then_25 (by decide) (by omega) (fun _ => ?_) (fun h => absurd h (by omega))
      refine z_iconst (z := 0) C dX10_then_43 rfl ?_
      have hgy403 := up_n egy25 ha1 (ne_o (i := i) (c := 1) (d := 0) rfl)
      have hgy404 := (hfvy27 (i + 1) (ne_o (i := i) (c := 1) (d := 0) rfl)).trans hgy403
      have hgy405 := (hfvy401 (i + 1) (ne_o (i := i) (c := 1) (d := 0) rfl)).trans hgy404
      have hFy406 : ∀ f, f ≠ 12 → Fvy401 f = F f := fun f n12 => ((hFvy401 f n12).trans ((hFvy27 f n12).trans ((uZ_n _ _ n12).trans rfl)))
      have hey407 : Fvy401 13 = F 13 := ((hFvy401 13 (by decide)).trans ((hFvy27 13 (by decide)).trans (fn rfl (by decide))))
      have hey408 : Fvy401 14 = F 14 := ((hFvy401 14 (by decide)).trans ((hFvy27 14 (by decide)).trans (fn rfl (by decide))))
      have hey409 : Fvy401 15 = F 15 := ((hFvy401 15 (by decide)).trans ((hFvy27 15 (by decide)).trans (fn rfl (by decide))))
      have hey410 : Fvy401 16 = F 16 := ((hFvy401 16 (by decide)).trans ((hFvy27 16 (by decide)).trans (fn rfl (by decide))))
      have hey411 : Fvy401 17 = F 17 := ((hFvy401 17 (by decide)).trans ((hFvy27 17 (by decide)).trans (fn rfl (by decide))))
      have hey412 : Fvy401 18 = F 18 := ((hFvy401 18 (by decide)).trans ((hFvy27 18 (by decide)).trans (fn rfl (by decide))))
      have hey413 : Fvy401 19 = F 19 := ((hFvy401 19 (by decide)).trans ((hFvy27 19 (by decide)).trans (fn rfl (by decide))))
      have hey414 : Fvy401 20 = F 20 := ((hFvy401 20 (by decide)).trans ((hFvy27 20 (by decide)).trans (fn rfl (by decide))))
      have hey415 : Fvy401 21 = F 21 := ((hFvy401 21 (by decide)).trans ((hFvy27 21 (by decide)).trans (fn rfl (by decide))))
      have hey416 : Fvy401 23 = F 23 := ((hFvy401 23 (by decide)).trans ((hFvy27 23 (by decide)).trans (fn rfl (by decide))))
      have hey417 : Fvy401 25 = F 25 := ((hFvy401 25 (by decide)).trans ((hFvy27 25 (by decide)).trans (fn rfl (by decide))))
      have hey418 : Fvy401 27 = F 27 := ((hFvy401 27 (by decide)).trans ((hFvy27 27 (by decide)).trans (fn rfl (by decide))))
      have hey419 : Fvy401 28 = F 28 := ((hFvy401 28 (by decide)).trans ((hFvy27 28 (by decide)).trans (fn rfl (by decide))))
      have hey420 : Fvy401 29 = F 29 := ((hFvy401 29 (by decide)).trans ((hFvy27 29 (by decide)).trans (fn rfl (by decide))))
      have hKy421 : okF Fvy401 := okF.mv hM.2.1 hey407 hey408 hey409 hey410 hey411 hey412 hey413 hey414 hey415 hey416 hey417 hey418 hey419 hey420
      have hMy422 : okMr cs ad gvy401 i (x + 1) Fvy401 r st op ai fa mu tb tp := okMr.upd hM hcvy401 hKy421 (fun f a => hFy406 f (by omega)) hgy405 (hA.mono (by omega)) (fun j a b => by
          exact Or.inl (by rw [hfvy401 _ (by omega)]; rw [hfvy27 _ (by omega)]; rw [egy25, va_up_ne _ _ (by omega)]))
      have hkpy423 : Fvy401 13 = F 13 := ((hFvy401 13 (by decide)).trans ((hFvy27 13 (by decide)).trans (fn rfl (by decide))))
      have hkpy424 : Fvy401 14 = F 14 := ((hFvy401 14 (by decide)).trans ((hFvy27 14 (by decide)).trans (fn rfl (by decide))))
      have hkpy425 : Fvy401 17 = F 17 := ((hFvy401 17 (by decide)).trans ((hFvy27 17 (by decide)).trans (fn rfl (by decide))))
      have hkpy426 : Fvy401 20 = F 20 := ((hFvy401 20 (by decide)).trans ((hFvy27 20 (by decide)).trans (fn rfl (by decide))))
      have hkpy427 : Fvy401 21 = F 21 := ((hFvy401 21 (by decide)).trans ((hFvy27 21 (by decide)).trans (fn rfl (by decide))))
      have hkpy428 : Fvy401 23 = F 23 := ((hFvy401 23 (by decide)).trans ((hFvy27 23 (by decide)).trans (fn rfl (by decide))))
      have hkpy429 : Fvy401 24 = F 24 := ((hFvy401 24 (by decide)).trans ((hFvy27 24 (by decide)).trans (fn rfl (by decide))))
      exact z_iret C hr hlk dX10_then_44 (by decide) (by decide) ⟨0, rfl, rfl, rfl, by omega, ⟨_, _, hMy422, ⟨hkpy423, hkpy424, hkpy425, hkpy426, hkpy427, hkpy428, hkpy429⟩⟩, fun j j1 => by rw [hfvy401 _ (by omega)]; rw [hfvy27 _ (by omega)]; rw [egy25, va_up_ne _ _ (by omega)]⟩
  · refine z_if_eq (tgt := 43) C dX10_then_10 (by decide) (by omega) (fun _ => ?_) (fun h => absurd h (by omega))
    refine z_iconst (z := 0) C dX10_then_43 rfl ?_
    have hgy430 := up_n egy25 ha1 (ne_o (i := i) (c := 1) (d := 0) rfl)
    have hgy431 := (hfvy27 (i + 1) (ne_o (i := i) (c := 1) (d := 0) rfl)).trans hgy430
    have hFy432 : ∀ f, f ≠ 12 → Fvy27 f = F f := fun f n12 => ((hFvy27 f n12).trans ((uZ_n _ _ n12).trans rfl))
    have hey433 : Fvy27 13 = F 13 := ((hFvy27 13 (by decide)).trans (fn rfl (by decide)))
    have hey434 : Fvy27 14 = F 14 := ((hFvy27 14 (by decide)).trans (fn rfl (by decide)))
    have hey435 : Fvy27 15 = F 15 := ((hFvy27 15 (by decide)).trans (fn rfl (by decide)))
    have hey436 : Fvy27 16 = F 16 := ((hFvy27 16 (by decide)).trans (fn rfl (by decide)))
    have hey437 : Fvy27 17 = F 17 := ((hFvy27 17 (by decide)).trans (fn rfl (by decide)))
    have hey438 : Fvy27 18 = F 18 := ((hFvy27 18 (by decide)).trans (fn rfl (by decide)))
    have hey439 : Fvy27 19 = F 19 := ((hFvy27 19 (by decide)).trans (fn rfl (by decide)))
    have hey440 : Fvy27 20 = F 20 := ((hFvy27 20 (by decide)).trans (fn rfl (by decide)))
    have hey441 : Fvy27 21 = F 21 := ((hFvy27 21 (by decide)).trans (fn rfl (by decide)))
    have hey442 : Fvy27 23 = F 23 := ((hFvy27 23 (by decide)).trans (fn rfl (by decide)))
    have hey443 : Fvy27 25 = F 25 := ((hFvy27 25 (by decide)).trans (fn rfl (by decide)))
    have hey444 : Fvy27 27 = F 27 := ((hFvy27 27 (by decide)).trans (fn rfl (by decide)))
    have hey445 : Fvy27 28 = F 28 := ((hFvy27 28 (by decide)).trans (fn rfl (by decide)))
    have hey446 : Fvy27 29 = F 29 := ((hFvy27 29 (by decide)).trans (fn rfl (by decide)))
    have hKy447 : okF Fvy27 := okF.mv hM.2.1 hey433 hey434 hey435 hey436 hey437 hey438 hey439 hey440 hey441 hey442 hey443 hey444 hey445 hey446
    have hMy448 : okMr cs ad gvy27 i (x + 1) Fvy27 r st op ai fa mu tb tp := okMr.upd hM hcvy27 hKy447 (fun f a => hFy432 f (by omega)) hgy431 (hA.mono (by omega)) (fun j a b => by
        exact Or.inl (by rw [hfvy27 _ (by omega)]; rw [egy25, va_up_ne _ _ (by omega)]))
    have hkpy449 : Fvy27 13 = F 13 := ((hFvy27 13 (by decide)).trans (fn rfl (by decide)))
    have hkpy450 : Fvy27 14 = F 14 := ((hFvy27 14 (by decide)).trans (fn rfl (by decide)))
    have hkpy451 : Fvy27 17 = F 17 := ((hFvy27 17 (by decide)).trans (fn rfl (by decide)))
    have hkpy452 : Fvy27 20 = F 20 := ((hFvy27 20 (by decide)).trans (fn rfl (by decide)))
    have hkpy453 : Fvy27 21 = F 21 := ((hFvy27 21 (by decide)).trans (fn rfl (by decide)))
    have hkpy454 : Fvy27 23 = F 23 := ((hFvy27 23 (by decide)).trans (fn rfl (by decide)))
    have hkpy455 : Fvy27 24 = F 24 := ((hFvy27 24 (by decide)).trans (fn rfl (by decide)))
    exact z_iret C hr hlk dX10_then_44 (by decide) (by decide) ⟨0, rfl, rfl, rfl, by omega, ⟨_, _, hMy448, ⟨hkpy449, hkpy450, hkpy451, hkpy452, hkpy453, hkpy454, hkpy455⟩⟩, fun j j1 => by rw [hfvy27 _ (by omega)]; rw [egy25, va_up_ne _ _ (by omega)]⟩

set_option maxRecDepth 100000 in
set_option maxHeartbeats 4000000 in
theorem c_X10_then_b (l : Launch) (D : va_G) (A : Nat → Prop) (cs : Nat → ClassId) (tt : Nat) (N : Nat) (ad : Nat → Nat) (g : Nat → va_E) (i : Nat) (hN : i + 30 ≤ N) (x : Int) (hx : 0 ≤ x ∧ x ≤ 512) (F r : Nat → Int) {st op ai fa mu tb tp : Nat → Int} (hM : okMr cs ad g i x F r st op ai fa mu tb tp) (z : Int) (hz : -2147483648 ≤ z ∧ z ≤ 2147483647) (hzo : z < 0 ∨ 3 < z) (z1 : Int) (hz1 : -2147483648 ≤ z1 ∧ z1 ≤ 2147483647) (z2 : Int) (hz2 : -2147483648 ≤ z2 ∧ z2 ≤ 2147483647) : zM l yX10_then cX10_then 5 (some .int) ({ frames := 10, cells := 0, slots := 0, locals := 600 } : Room) D A cs tt N ad g [.ref (ad i), .int (zI (z)), .int (zI (z1)), .int (zI (z2))] (rI0 N ad fun q g' => (-2147483648 ≤ q ∧ q ≤ 2147483647) ∧ (∃ F' r' : Nat → Int, okMr cs ad g' i (x + 1) F' r' st op ai fa mu tb tp ∧ (F' 13 = F 13 ∧ F' 14 = F 14 ∧ F' 17 = F 17 ∧ F' 20 = F 20 ∧ F' 21 = F 21 ∧ F' 23 = F 23 ∧ F' 24 = F 24)) ∧ ∀ j, j < i ∨ i + 30 ≤ j → g' j = g j) := by
  obtain ⟨hg, ⟨⟨e13, e14, e25, e27, e29⟩, k15, k16, k17, k18, k19, k20, k23, k21⟩, hRD, hTx, hA, ns, nh, nd, rf, pi, te, ki, li, ok1, ok2, fo, dd, dps, ⟨ha1, ha2, ha3, ha4, ha5, ha6, ha7, ha8, ha9, ha10, ha11, ha12, ha13, ha14, ha15, ha24, ha25, ha26, ha27, ha28, ha29⟩, hEv, hPt, hns, htp⟩ := id hM
  obtain ⟨-, hop, hai, hfa, hT, hT1⟩ := id hEv
  have hay1 : zAt ad (i) (ad i) := rfl
  have hay2 : zAt ad (i + 1) (ad (i + 1)) := rfl
  have hay3 : zAt ad (i + 2) (ad (i + 2)) := rfl
  have hay4 : zAt ad (i + 3) (ad (i + 3)) := rfl
  have hay5 : zAt ad (i + 4) (ad (i + 4)) := rfl
  have hay6 : zAt ad (i + 5) (ad (i + 5)) := rfl
  have hay7 : zAt ad (i + 6) (ad (i + 6)) := rfl
  have hay8 : zAt ad (i + 7) (ad (i + 7)) := rfl
  have hay9 : zAt ad (i + 8) (ad (i + 8)) := rfl
  have hay10 : zAt ad (i + 9) (ad (i + 9)) := rfl
  have hay11 : zAt ad (i + 10) (ad (i + 10)) := rfl
  have hay12 : zAt ad (i + 11) (ad (i + 11)) := rfl
  have hay13 : zAt ad (i + 12) (ad (i + 12)) := rfl
  have hay14 : zAt ad (i + 13) (ad (i + 13)) := rfl
  have hay15 : zAt ad (i + 14) (ad (i + 14)) := rfl
  have hay16 : zAt ad (i + 15) (ad (i + 15)) := rfl
  have hay17 : zAt ad (i + 24) (ad (i + 24)) := rfl
  have hay18 : zAt ad (i + 25) (ad (i + 25)) := rfl
  have hay19 : zAt ad (i + 26) (ad (i + 26)) := rfl
  have hay20 : zAt ad (i + 27) (ad (i + 27)) := rfl
  have hay21 : zAt ad (i + 28) (ad (i + 28)) := rfl
  have hay22 : zAt ad (i + 29) (ad (i + 29)) := rfl
  obtain ⟨⟨hsyy23, htyy23, hnyy23, hpyy23⟩, hlyy23⟩ := okA.at0 hA
  simp only [Nat.zero_add] at hsyy23 hnyy23 hpyy23
  have hmn : ∀ s, s < 4 → 0 ≤ r (6 + 86 * s) ∧ r (6 + 86 * s) ≤ 12 := fun s hs => (hsyy23 s hs).1
  have h5 : 0 ≤ r 5 ∧ r 5 ≤ 6 := hpyy23
  refine z_of (by decide) (Nat.le_of_ble_eq_true rfl) ?_
  intro pZ eZ sZ mZ below meth cZ C hr hlk hnm
  refine z_lv (lv' := [(0, .ref (ad i)), (1, .int (zI (z))), (2, .int (zI (z1))), (3, .int (zI (z2)))]) [0, 1, 2, 3] rfl ?_
  refine z_aload_n C 0 dX10_then_0 rfl ?_
  refine z_iconst (z := 0) C dX10_then_1 rfl ?_
  refine z_put (fs' := mF ad (i) (uZ F 12 (0))) C (lt_A0 hN rfl) hay1 hg tyX10 tyX10_ok nmX10 rfl inA_X10 12 (by decide) q_1471 rfl rfl rfl rfl (Nat.le_of_ble_eq_true rfl) rfl dX10_then_2 (fun gy24 egy25 => ?_)
  have hgy26 := up_s egy25
  refine z_aload_n C 0 dX10_then_5 rfl ?_
  refine z_iload_n C 1 dX10_then_6 rfl ?_
  have h13vy27 : (uZ F 12 (0)) 13 = F 13 := (fn rfl (by decide))
  have hey28 : (uZ F 12 (0)) 12 = 0 := (uZ_s _ _ _)
  refine z_cV (As := [.int (zI (z))]) (rest := []) (ci := 12) C (c_X10_isSlope l D A cs tt N ad _ i hN _ hgy26 (by omega) (by omega) (z) (by omega)) (lt_A0 hN rfl) hay1 hgy26 rfl rfl mv_yX10_isSlope q_1803 hd_yX10_isSlope (by decide) (Nat.le_of_ble_eq_true rfl) (by decide) dX10_then_7 rfl (kI0 fun vy27 gvy27 hvy27 => ?_)
  rw [h13vy27] at hvy27
  obtain ⟨hrvy27, ⟨Fvy27, hcvy27, htvy27, hFvy27⟩, hfvy27⟩ := hvy27
  obtain rfl : vy27 = 0 := by omega
  refine z_if_eq (tgt := 43) C dX10_then_10 (by decide) (by omega) (fun _ => ?_) (fun h => absurd h (by omega))
  refine z_iconst (z := 0) C dX10_then_43 rfl ?_
  have hgy29 := up_n egy25 ha1 (ne_o (i := i) (c := 1) (d := 0) rfl)
  have hgy30 := (hfvy27 (i + 1) (ne_o (i := i) (c := 1) (d := 0) rfl)).trans hgy29
  have hFy31 : ∀ f, f ≠ 12 → Fvy27 f = F f := fun f n12 => ((hFvy27 f n12).trans ((uZ_n _ _ n12).trans rfl))
  have hey32 : Fvy27 13 = F 13 := ((hFvy27 13 (by decide)).trans (fn rfl (by decide)))
  have hey33 : Fvy27 14 = F 14 := ((hFvy27 14 (by decide)).trans (fn rfl (by decide)))
  have hey34 : Fvy27 15 = F 15 := ((hFvy27 15 (by decide)).trans (fn rfl (by decide)))
  have hey35 : Fvy27 16 = F 16 := ((hFvy27 16 (by decide)).trans (fn rfl (by decide)))
  have hey36 : Fvy27 17 = F 17 := ((hFvy27 17 (by decide)).trans (fn rfl (by decide)))
  have hey37 : Fvy27 18 = F 18 := ((hFvy27 18 (by decide)).trans (fn rfl (by decide)))
  have hey38 : Fvy27 19 = F 19 := ((hFvy27 19 (by decide)).trans (fn rfl (by decide)))
  have hey39 : Fvy27 20 = F 20 := ((hFvy27 20 (by decide)).trans (fn rfl (by decide)))
  have hey40 : Fvy27 21 = F 21 := ((hFvy27 21 (by decide)).trans (fn rfl (by decide)))
  have hey41 : Fvy27 23 = F 23 := ((hFvy27 23 (by decide)).trans (fn rfl (by decide)))
  have hey42 : Fvy27 25 = F 25 := ((hFvy27 25 (by decide)).trans (fn rfl (by decide)))
  have hey43 : Fvy27 27 = F 27 := ((hFvy27 27 (by decide)).trans (fn rfl (by decide)))
  have hey44 : Fvy27 28 = F 28 := ((hFvy27 28 (by decide)).trans (fn rfl (by decide)))
  have hey45 : Fvy27 29 = F 29 := ((hFvy27 29 (by decide)).trans (fn rfl (by decide)))
  have hKy46 : okF Fvy27 := okF.mv hM.2.1 hey32 hey33 hey34 hey35 hey36 hey37 hey38 hey39 hey40 hey41 hey42 hey43 hey44 hey45
  have hMy47 : okMr cs ad gvy27 i (x + 1) Fvy27 r st op ai fa mu tb tp := okMr.upd hM hcvy27 hKy46 (fun f a => hFy31 f (by omega)) hgy30 (hA.mono (by omega)) (fun j a b => by
      exact Or.inl (by rw [hfvy27 _ (by omega)]; rw [egy25, va_up_ne _ _ (by omega)]))
  have hkpy48 : Fvy27 13 = F 13 := ((hFvy27 13 (by decide)).trans (fn rfl (by decide)))
  have hkpy49 : Fvy27 14 = F 14 := ((hFvy27 14 (by decide)).trans (fn rfl (by decide)))
  have hkpy50 : Fvy27 17 = F 17 := ((hFvy27 17 (by decide)).trans (fn rfl (by decide)))
  have hkpy51 : Fvy27 20 = F 20 := ((hFvy27 20 (by decide)).trans (fn rfl (by decide)))
  have hkpy52 : Fvy27 21 = F 21 := ((hFvy27 21 (by decide)).trans (fn rfl (by decide)))
  have hkpy53 : Fvy27 23 = F 23 := ((hFvy27 23 (by decide)).trans (fn rfl (by decide)))
  have hkpy54 : Fvy27 24 = F 24 := ((hFvy27 24 (by decide)).trans (fn rfl (by decide)))
  exact z_iret C hr hlk dX10_then_44 (by decide) (by decide) ⟨0, rfl, rfl, rfl, by omega, ⟨_, _, hMy47, ⟨hkpy48, hkpy49, hkpy50, hkpy51, hkpy52, hkpy53, hkpy54⟩⟩, fun j j1 => by rw [hfvy27 _ (by omega)]; rw [egy25, va_up_ne _ _ (by omega)]⟩

set_option maxRecDepth 100000 in
set_option maxHeartbeats 4000000 in
theorem c_X10_then (l : Launch) (D : va_G) (A : Nat → Prop) (cs : Nat → ClassId) (tt : Nat) (N : Nat) (ad : Nat → Nat) (g : Nat → va_E) (i : Nat) (hN : i + 30 ≤ N) (x : Int) (hx : 0 ≤ x ∧ x ≤ 512) (F r : Nat → Int) {st op ai fa mu tb tp : Nat → Int} (hM : okMr cs ad g i x F r st op ai fa mu tb tp) (z : Int) (hz : -2147483648 ≤ z ∧ z ≤ 2147483647) (z1 : Int) (hz1 : -2147483648 ≤ z1 ∧ z1 ≤ 2147483647) (z2 : Int) (hz2 : -2147483648 ≤ z2 ∧ z2 ≤ 2147483647) : zM l yX10_then cX10_then 5 (some .int) ({ frames := 10, cells := 0, slots := 0, locals := 600 } : Room) D A cs tt N ad g [.ref (ad i), .int (zI (z)), .int (zI (z1)), .int (zI (z2))] (rI0 N ad fun q g' => (-2147483648 ≤ q ∧ q ≤ 2147483647) ∧ (∃ F' r' : Nat → Int, okMr cs ad g' i (x + 1) F' r' st op ai fa mu tb tp ∧ (F' 13 = F 13 ∧ F' 14 = F 14 ∧ F' 17 = F 17 ∧ F' 20 = F 20 ∧ F' 21 = F 21 ∧ F' 23 = F 23 ∧ F' 24 = F 24)) ∧ ∀ j, j < i ∨ i + 30 ≤ j → g' j = g j) := by
  by_cases h9 : 0 ≤ z ∧ z ≤ 3
  · obtain ⟨n, rfl⟩ : ∃ n : Nat, z = (n : Int) := ⟨z.toNat, by omega⟩
    exact c_X10_then_a l D A cs tt N ad g i hN x hx F r hM n (by omega) z1 hz1 z2 hz2
  · exact c_X10_then_b l D A cs tt N ad g i hN x hx F r hM z hz (by omega) z1 hz1 z2 hz2

