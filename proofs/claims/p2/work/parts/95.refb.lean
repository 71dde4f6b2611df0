theorem okW.slope0 {r r' : Nat → Int} {b s p : Nat} {x : Int} (h : okW r b x) (hs : s < 4) (hp : b + 6 + 86 * s = p) (hS : okS r' p (mB (r b + x)) (eB (r b + x))) (he : ∀ j, b ≤ j → j < b + 350 → j < p ∨ p + 86 ≤ j → j ≠ b + 2 → j ≠ b + 3 → j ≠ b + 4 → r' j = r j) : okW r' b x := by
  obtain ⟨h1, h2, h3, h4⟩ := h
  have h0 : r' b = r b := he b (by omega) (by omega) (by omega) (by omega) (by omega) (by omega)
  have hn : r' (b + 1) = r (b + 1) := he (b + 1) (by omega) (by omega) (by omega) (by omega) (by omega) (by omega)
  have h5 : r' (b + 5) = r (b + 5) := he (b + 5) (by omega) (by omega) (by omega) (by omega) (by omega) (by omega)
  refine ⟨fun k hk => ?_, by rw [h0]; exact h2, by rw [h0, hn]; exact h3, by rw [h5]; exact h4⟩
  rw [h0]
  by_cases e : k = s
  · subst e; rw [hp]; exact hS
  · exact (h1 k hk).ext (fun j a1 a2 => he j (by omega) (by omega) (by omega) (by omega) (by omega) (by omega))

set_option maxRecDepth 100000 in
set_option maxHeartbeats 4000000 in
theorem c_X10_extra (l : Launch) (D : va_G) (A : Nat → Prop) (cs : Nat → ClassId) (tt : Nat) (N : Nat) (ad : Nat → Nat) (g : Nat → va_E) (z : Int) (hz : 0 ≤ z ∧ z ≤ 30) : zM l yX10_extra cX10_extra 1 (some .int) ({ frames := 2, cells := 0, slots := 0, locals := 120 } : Room) D A cs tt N ad g [.int (zI (z))] (rI0 N ad fun r g' => (-2147483648 ≤ r ∧ r ≤ 2147483647) ∧ g = g') := by
  refine z_of (by decide) (Nat.le_of_ble_eq_true rfl) ?_
  intro pZ eZ sZ mZ below meth cZ C hr hlk hnm
  refine z_lv (lv' := [(0, .int (zI (z)))]) [0] rfl ?_
  refine z_iload_n C 0 dX10_extra_0 rfl ?_
  refine z_bipush (z := 10) C dX10_extra_1 (by decide) ?_
  refine z_cS (As := [.int (zI (z)), .int (zI (10))]) (rest := []) C (c_X10_lesser l D A cs tt N ad _ (z) (by omega) (10) (by omega)) ms_yX10_lesser q_1792 hd_yX10_lesser (by decide) (Nat.le_of_ble_eq_true rfl) (by decide) dX10_extra_3 rfl (kI0 fun vy1 gvy1 hvy1 => ?_)
  obtain ⟨hvy1, rfl⟩ := hvy1
  refine z_iconst (z := 2) C dX10_extra_6 rfl ?_
  refine z_iload_n C 0 dX10_extra_7 rfl ?_
  refine z_bipush (z := 10) C dX10_extra_8 (by decide) ?_
  refine z_isub C dX10_extra_10 ?_
  refine z_iconst (z := 0) C dX10_extra_11 rfl ?_
  refine z_cS (As := [.int (zI (z - 10)), .int (zI (0))]) (rest := [.int (zI (2)), .int (zI (vy1))]) C (c_X10_greater l D A cs tt N ad _ (z - 10) (by omega) (0) (by omega)) ms_yX10_greater q_1905 hd_yX10_greater (by decide) (Nat.le_of_ble_eq_true rfl) (by decide) dX10_extra_12 rfl (kI0 fun vy2 gvy2 hvy2 => ?_)
  obtain ⟨hvy2, rfl⟩ := hvy2
  refine z_bipush (z := 10) C dX10_extra_15 (by decide) ?_
  refine z_cS (As := [.int (zI (vy2)), .int (zI (10))]) (rest := [.int (zI (2)), .int (zI (vy1))]) C (c_X10_lesser l D A cs tt N ad _ (vy2) (by omega) (10) (by omega)) ms_yX10_lesser q_1792 hd_yX10_lesser (by decide) (Nat.le_of_ble_eq_true rfl) (by decide) dX10_extra_17 rfl (kI0 fun vy3 gvy3 hvy3 => ?_)
  obtain ⟨hvy3, rfl⟩ := hvy3
  refine z_imul C dX10_extra_20 ?_
  refine z_iadd C dX10_extra_21 ?_
  refine z_iconst (z := 4) C dX10_extra_22 rfl ?_
  refine z_iload_n C 0 dX10_extra_23 rfl ?_
  refine z_bipush (z := 20) C dX10_extra_24 (by decide) ?_
  refine z_isub C dX10_extra_26 ?_
  refine z_iconst (z := 0) C dX10_extra_27 rfl ?_
  refine z_cS (As := [.int (zI (z - 20)), .int (zI (0))]) (rest := [.int (zI (4)), .int (zI (vy1 + (2 * vy3)))]) C (c_X10_greater l D A cs tt N ad _ (z - 20) (by omega) (0) (by omega)) ms_yX10_greater q_1905 hd_yX10_greater (by decide) (Nat.le_of_ble_eq_true rfl) (by decide) dX10_extra_28 rfl (kI0 fun vy4 gvy4 hvy4 => ?_)
  obtain ⟨hvy4, rfl⟩ := hvy4
  refine z_imul C dX10_extra_31 ?_
  refine z_iadd C dX10_extra_32 ?_
  exact z_iret C hr hlk dX10_extra_33 (by decide) (by decide) ⟨(vy1 + (2 * vy3)) + (4 * vy4), rfl, rfl, rfl, by omega, rfl⟩

set_option maxRecDepth 100000 in
set_option maxHeartbeats 4000000 in
theorem c_X10_stands_a (l : Launch) (D : va_G) (A : Nat → Prop) (cs : Nat → ClassId) (tt : Nat) (N : Nat) (ad : Nat → Nat) (g : Nat → va_E) (i : Nat) (hN : i + 30 ≤ N) (x : Int) (hx : 0 ≤ x ∧ x ≤ 512) (F r : Nat → Int) (hM : okMr cs ad g i x F r) (n : Nat) (hn4 : n < 4) (z1 : Int) (hz1 : -2147483648 ≤ z1 ∧ z1 ≤ 2147483647) : zM l yX10_stands cX10_stands 5 (some .int) ({ frames := 8, cells := 0, slots := 0, locals := 480 } : Room) D A cs tt N ad g [.ref (ad i), .int (zI ((n : Int))), .int (zI (z1))] (rI0 N ad fun q g' => (-2147483648 ≤ q ∧ q ≤ 2147483647) ∧ (∃ F' r' : Nat → Int, okMr cs ad g' i (x + 1) F' r' ∧ F' 23 = F 23) ∧ ∀ j, j < i ∨ i + 30 ≤ j → g' j = g j) := by
  obtain ⟨hg, ⟨⟨e13, e14, e25, e27, e29⟩, k15, k16, k17, k18, k19, k20, k23⟩, hRD, hTx, hA, st, op, ai, fa, mu, tb, ns, nh, nd, rf, pi, tp, te, ki, li, ok1, ok2, fo, dd, dps, ⟨ha1, ha2, ha3, ha4, ha5, ha6, ha7, ha8, ha9, ha10, ha11, ha12, ha13, ha14, ha15, ha24, ha25, ha26, ha27, ha28, ha29⟩, hEv, hPt, hns, htp⟩ := id hM
  obtain ⟨-, hop, hai, hfa, hT, hT1⟩ := id hEv
  have hay1 : zAt ad (i) (ad i) := rfl
  have hay2 : zAt ad (i + 1) (ad (i + 1)) := rfl
  have hay3 : zAt ad (i + 2) (ad (i + 2)) := rfl
  have hay4 : zAt ad (i + 3) (ad (i + 3)) := rfl
  have hay5 : zAt ad (i + 4) (ad (i + 4)) := rfl
  have hay6 : zAt ad (i + 5) (ad (i + 5)) := rfl
  have hay7 : zAt ad (i + 6) (ad (i + 6)) := rfl
  have hay8 : zAt ad (i + 7) (ad (i + 7)) := rfl
  have hay9 : zAt ad (i + 8) (ad (i + 8)) := rfl
  have hay10 : zAt ad (i + 9) (ad (i + 9)) := rfl
  have hay11 : zAt ad (i + 10) (ad (i + 10)) := rfl
  have hay12 : zAt ad (i + 11) (ad (i + 11)) := rfl
  have hay13 : zAt ad (i + 12) (ad (i + 12)) := rfl
  have hay14 : zAt ad (i + 13) (ad (i + 13)) := rfl
  have hay15 : zAt ad (i + 14) (ad (i + 14)) := rfl
  have hay16 : zAt ad (i + 15) (ad (i + 15)) := rfl
  have hay17 : zAt ad (i + 24) (ad (i + 24)) := rfl
  have hay18 : zAt ad (i + 25) (ad (i + 25)) := rfl
  have hay19 : zAt ad (i + 26) (ad (i + 26)) := rfl
  have hay20 : zAt ad (i + 27) (ad (i + 27)) := rfl
  have hay21 : zAt ad (i + 28) (ad (i + 28)) := rfl
  have hay22 : zAt ad (i + 29) (ad (i + 29)) := rfl
  obtain ⟨⟨hsyy23, htyy23, hnyy23, hpyy23⟩, hlyy23⟩ := okA.at0 hA
  simp only [Nat.zero_add] at hsyy23 hnyy23 hpyy23
  have hmn : ∀ s, s < 4 → 0 ≤ r (6 + 86 * s) ∧ r (6 + 86 * s) ≤ 12 := fun s hs => (hsyy23 s hs).1
  have h5 : 0 ≤ r 5 ∧ r 5 ≤ 6 := hpyy23
  refine z_of (by decide) (Nat.le_of_ble_eq_true rfl) ?_
  intro pZ eZ sZ mZ below meth cZ C hr hlk hnm
  refine z_lv (lv' := [(0, .ref (ad i)), (1, .int (zI ((n : Int)))), (2, .int (zI (z1)))]) [0, 1, 2] rfl ?_
  refine z_aload_n C 0 dX10_stands_0 rfl ?_
  refine z_iconst (z := 0) C dX10_stands_1 rfl ?_
  refine z_put (fs' := mF ad (i) (uZ F 12 (0))) C (by omega) hay1 hg tyX10 tyX10_ok nmX10 rfl inA_X10 12 (by decide) q_1471 rfl rfl rfl rfl (Nat.le_of_ble_eq_true rfl) rfl dX10_stands_2 (fun gy24 egy25 => ?_)
  have hgy26 := up_s egy25
  refine z_aload_n C 0 dX10_stands_5 rfl ?_
  refine z_iload_n C 1 dX10_stands_6 rfl ?_
  have h13vy27 : (uZ F 12 (0)) 13 = F 13 := (fn rfl (by decide))
  have hey28 : (uZ F 12 (0)) 12 = 0 := (uZ_s _ _ _)
  refine z_cV (As := [.int (zI ((n : Int)))]) (rest := []) (ci := 12) C (c_X10_isSlope l D A cs tt N ad _ i hN _ hgy26 (by omega) (by omega) ((n : Int)) (by omega)) (by omega) hay1 hgy26 rfl rfl mv_yX10_isSlope q_1803 hd_yX10_isSlope (by decide) (Nat.le_of_ble_eq_true rfl) (by decide) dX10_stands_7 rfl (kI0 fun vy27 gvy27 hvy27 => ?_)
  rw [h13vy27] at hvy27
  obtain ⟨hrvy27, ⟨Fvy27, hcvy27, htvy27, hFvy27⟩, hfvy27⟩ := hvy27
  rcases (show vy27 = 1 ∨ vy27 = 0 by omega) with rfl | rfl
  · have hxvy27 := hrvy27.2 rfl
    refine z_if_eq (tgt := 27) C dX10_stands_10 (by decide) (by omega) (fun h => absurd h (by omega)) (fun _ => ?_)
    refine z_aload_n C 0 dX10_stands_13 rfl ?_
    refine z_iload_n C 2 dX10_stands_14 rfl ?_
    refine z_iconst (z := 0) C dX10_stands_15 rfl ?_
    refine z_iconst (z := 1) C dX10_stands_16 rfl ?_
    refine z_cS (As := [.int (zI (z1)), .int (zI (0)), .int (zI (1))]) (rest := [.ref (ad i)]) C (c_X10_within l D A cs tt N ad _ (z1) (by omega) (0) (by omega) (1) (by omega)) ms_yX10_within q_1686 hd_yX10_within (by decide) (Nat.le_of_ble_eq_true rfl) (by decide) dX10_stands_17 rfl (kI0 fun vy29 gvy29 hvy29 => ?_)
    obtain ⟨hvy29, rfl⟩ := hvy29
    rcases hvy29 with ⟨rfl, hxvy29⟩ | ⟨rfl, hxvy29⟩
    · refine z_iconst (z := 1) C dX10_stands_20 rfl ?_
      have hey31 : Fvy27 12 = Fvy27 12 := rfl
      refine z_cV (As := [.int (zI (1)), .int (zI (1))]) (rest := []) (ci := 12) C (c_X10_right l D A cs tt N ad _ i hN _ hcvy27 (by omega) (1) (by omega) (1) (by omega)) (by omega) hay1 hcvy27 rfl rfl mv_yX10_right q_1648 hd_yX10_right (by decide) (Nat.le_of_ble_eq_true rfl) (by decide) dX10_stands_21 rfl (kI0 fun vy30 gvy30 hvy30 => ?_)
      obtain ⟨hrvy30, ⟨Fvy30, hcvy30, htvy30, hFvy30⟩, hfvy30⟩ := hvy30
      rcases (show vy30 = 1 ∨ vy30 = 0 by omega) with rfl | rfl
      · refine z_if_ne (tgt := 29) C dX10_stands_24 (by decide) (by omega) (fun _ => ?_) (fun h => absurd h (by omega))
        refine z_iconst (z := 0) C dX10_stands_29 rfl ?_
        refine z_istore_n (lv' := [(3, .int (zI (0))), (0, .ref (ad i)), (1, .int (zI ((n : Int)))), (2, .int (zI (z1)))]) C dX10_stands_30 rfl (by decide) rfl ?_
        have lp1 : ∀ (n9 : Nat) (tt9 : Int) (g1 : Nat → va_E), (31 - tt9).toNat = n9 → (gvy30 = g1) → (0 ≤ tt9 ∧ tt9 ≤ 31) → zV pZ l eZ ({ frames := 8, cells := 0, slots := 0, locals := 480 } : Room) sZ mZ ([.ref (ad i), .int (zI ((n : Int))), .int (zI (z1))] : List Value).toArray below meth cZ (MQ below (zPost D A (rI0 N ad fun q g' => (-2147483648 ≤ q ∧ q ≤ 2147483647) ∧ (∃ F' r' : Nat → Int, okMr cs ad g' i (x + 1) F' r' ∧ F' 23 = F 23) ∧ ∀ j, j < i ∨ i + 30 ≤ j → g' j = g j)) ([.ref (ad i), .int (zI ((n : Int))), .int (zI (z1))] : List Value).toArray sZ ({ frames := 8, cells := 0, slots := 0, locals := 480 } : Room).cells ({ frames := 8, cells := 0, slots := 0, locals := 480 } : Room).slots A) D A 5 (N) ad g1 (0) (0) 31 [(0, .ref (ad i)), (1, .int (zI ((n : Int)))), (2, .int (zI (z1))), (3, .int (zI (tt9)))] [] := by
          intro n9
          induction n9 using Nat.strongRecOn with
          | ind n9 ih_lp1 =>
            intro tt9 g1 hm9 hgz hvlp10
            subst hgz
            refine z_iload_n C 3 dX10_stands_31 rfl ?_
            refine z_bipush (z := 30) C dX10_stands_32 (by decide) ?_
            refine z_icmp_gt (tgt := 97) C dX10_stands_34 (by decide) (by omega) (by omega) (fun hby32 => ?_) (fun hby32 => ?_)
            · refine z_iconst (z := -1) C dX10_stands_97 rfl ?_
              have hgy33 := up_n egy25 ha1 (ne_o (i := i) (c := 1) (d := 0) rfl)
              have hgy34 := (hfvy27 (i + 1) (ne_o (i := i) (c := 1) (d := 0) rfl)).trans hgy33
              have hgy35 := (hfvy30 (i + 1) (ne_o (i := i) (c := 1) (d := 0) rfl)).trans hgy34
              have hFy36 : ∀ f, f ≠ 12 → Fvy30 f = F f := fun f n12 => ((hFvy30 f n12).trans ((hFvy27 f n12).trans ((uZ_n _ _ n12).trans rfl)))
              have hey37 : Fvy30 13 = F 13 := ((hFvy30 13 (by decide)).trans ((hFvy27 13 (by decide)).trans (fn rfl (by decide))))
              have hey38 : Fvy30 14 = F 14 := ((hFvy30 14 (by decide)).trans ((hFvy27 14 (by decide)).trans (fn rfl (by decide))))
              have hey39 : Fvy30 15 = F 15 := ((hFvy30 15 (by decide)).trans ((hFvy27 15 (by decide)).trans (fn rfl (by decide))))
              have hey40 : Fvy30 16 = F 16 := ((hFvy30 16 (by decide)).trans ((hFvy27 16 (by decide)).trans (fn rfl (by decide))))
              have hey41 : Fvy30 17 = F 17 := ((hFvy30 17 (by decide)).trans ((hFvy27 17 (by decide)).trans (fn rfl (by decide))))
              have hey42 : Fvy30 18 = F 18 := ((hFvy30 18 (by decide)).trans ((hFvy27 18 (by decide)).trans (fn rfl (by decide))))
              have hey43 : Fvy30 19 = F 19 := ((hFvy30 19 (by decide)).trans ((hFvy27 19 (by decide)).trans (fn rfl (by decide))))
              have hey44 : Fvy30 20 = F 20 := ((hFvy30 20 (by decide)).trans ((hFvy27 20 (by decide)).trans (fn rfl (by decide))))
              have hey45 : Fvy30 23 = F 23 := ((hFvy30 23 (by decide)).trans ((hFvy27 23 (by decide)).trans (fn rfl (by decide))))
              have hey46 : Fvy30 25 = F 25 := ((hFvy30 25 (by decide)).trans ((hFvy27 25 (by decide)).trans (fn rfl (by decide))))
              have hey47 : Fvy30 27 = F 27 := ((hFvy30 27 (by decide)).trans ((hFvy27 27 (by decide)).trans (fn rfl (by decide))))
              have hey48 : Fvy30 28 = F 28 := ((hFvy30 28 (by decide)).trans ((hFvy27 28 (by decide)).trans (fn rfl (by decide))))
              have hey49 : Fvy30 29 = F 29 := ((hFvy30 29 (by decide)).trans ((hFvy27 29 (by decide)).trans (fn rfl (by decide))))
              have hKy50 : okF Fvy30 := by unfold okF; omega
              have hMy51 : okMr cs ad gvy30 i (x + 1) Fvy30 r := okMr.upd hM hcvy30 hKy50 (fun f a => hFy36 f (by omega)) hgy35 (hA.mono (by omega)) (fun j a b => by
                  exact Or.inl (by rw [hfvy30 _ (by omega)]; rw [hfvy27 _ (by omega)]; rw [egy25, va_up_ne _ _ (by omega)]))
              have h23 : Fvy30 23 = F 23 := ((hFvy30 23 (by decide)).trans ((hFvy27 23 (by decide)).trans (fn rfl (by decide))))
              exact z_iret C hr hlk dX10_stands_98 (by decide) (by decide) ⟨-1, rfl, rfl, rfl, by omega, ⟨_, _, hMy51, by omega⟩, fun j j1 => by rw [hfvy30 _ (by omega)]; rw [hfvy27 _ (by omega)]; rw [egy25, va_up_ne _ _ (by omega)]⟩
            · refine z_iconst (z := 0) C dX10_stands_37 rfl ?_
              refine z_istore (lv' := [(4, .int (zI (0))), (0, .ref (ad i)), (1, .int (zI ((n : Int)))), (2, .int (zI (z1))), (3, .int (zI (tt9)))]) C dX10_stands_38 (by decide) rfl ?_
              have lp2 : ∀ (n9 : Nat) (ll : Int) (g1 : Nat → va_E), (13 - ll).toNat = n9 → (gvy30 = g1) → (0 ≤ ll ∧ ll ≤ 12) → zV pZ l eZ ({ frames := 8, cells := 0, slots := 0, locals := 480 } : Room) sZ mZ ([.ref (ad i), .int (zI ((n : Int))), .int (zI (z1))] : List Value).toArray below meth cZ (MQ below (zPost D A (rI0 N ad fun q g' => (-2147483648 ≤ q ∧ q ≤ 2147483647) ∧ (∃ F' r' : Nat → Int, okMr cs ad g' i (x + 1) F' r' ∧ F' 23 = F 23) ∧ ∀ j, j < i ∨ i + 30 ≤ j → g' j = g j)) ([.ref (ad i), .int (zI ((n : Int))), .int (zI (z1))] : List Value).toArray sZ ({ frames := 8, cells := 0, slots := 0, locals := 480 } : Room).cells ({ frames := 8, cells := 0, slots := 0, locals := 480 } : Room).slots A) D A 5 (N) ad g1 (0) (0) 40 [(0, .ref (ad i)), (1, .int (zI ((n : Int)))), (2, .int (zI (z1))), (3, .int (zI (tt9))), (4, .int (zI (ll)))] [] := by
                intro n9
                induction n9 using Nat.strongRecOn with
                | ind n9 ih_lp2 =>
                  intro ll g1 hm9 hgz hvlp20
                  subst hgz
                  refine z_iload C 4 dX10_stands_40 rfl ?_
                  refine z_aload_n C 0 dX10_stands_42 rfl ?_
                  refine z_iconst (z := 0) C dX10_stands_43 rfl ?_
                  refine z_iload_n C 1 dX10_stands_44 rfl ?_
                  obtain ⟨py52, hpy52⟩ : ∃ p9 : Nat, 0 + 6 + 86 * n = p9 := ⟨_, rfl⟩
                  have hgy53 := up_n egy25 ha1 (ne_o (i := i) (c := 1) (d := 0) rfl)
                  have hgy54 := (hfvy27 (i + 1) (ne_o (i := i) (c := 1) (d := 0) rfl)).trans hgy53
                  have hgy55 := (hfvy30 (i + 1) (ne_o (i := i) (c := 1) (d := 0) rfl)).trans hgy54
                  refine z_cV (As := [.int (zI (0)), .int (zI ((n : Int)))]) (rest := [.int (zI (ll))]) (ci := 12) C (c_X10_many l D A cs tt N ad _ i hN _ hcvy30 _ hgy55 0 n py52 hpy52 (by omega) (by omega)) (by omega) hay1 hcvy30 rfl rfl mv_yX10_many q_1733 hd_yX10_many (by decide) (Nat.le_of_ble_eq_true rfl) (by decide) dX10_stands_45 rfl (kI0 fun vy56 gvy56 hvy56 => ?_)
                  obtain ⟨rfl, rfl⟩ := hvy56
                  obtain ⟨xy57, exy58, hxy59⟩ := zI_of (zI (r (py52)))
                  rw [exy58]
                  refine z_icmp_ge (tgt := 91) C dX10_stands_48 (by decide) (by omega) (by omega) (fun hby60 => ?_) (fun hby60 => ?_)
                  · refine z_iinc (z := tt9 + 1) (lv' := [(3, .int (zI (tt9 + 1))), (0, .ref (ad i)), (1, .int (zI ((n : Int)))), (2, .int (zI (z1))), (4, .int (zI (ll)))]) (j := 3) C dX10_stands_91 rfl rfl (by decide) rfl ?_
                    refine z_goto (tgt := 31) C dX10_stands_94 (by decide) ?_
                    refine z_lv (lv' := [(0, .ref (ad i)), (1, .int (zI ((n : Int)))), (2, .int (zI (z1))), (3, .int (zI (tt9 + 1)))]) [1, 2, 3, 0] rfl ?_
                    exact ih_lp1 _ (by omega) (tt9 + 1) _ rfl rfl (by omega)
                  · refine z_aload_n C 0 dX10_stands_51 rfl ?_
                    refine z_iconst (z := 0) C dX10_stands_52 rfl ?_
                    refine z_iload_n C 1 dX10_stands_53 rfl ?_
                    refine z_iload C 4 dX10_stands_54 rfl ?_
                    refine z_iload_n C 3 dX10_stands_56 rfl ?_
                    refine z_cS (As := [.int (zI (tt9))]) (rest := [.int (zI (ll)), .int (zI ((n : Int))), .int (zI (0)), .ref (ad i)]) C (c_X10_extra l D A cs tt N ad _ (tt9) (by omega)) ms_yX10_extra q_2000 hd_yX10_extra (by decide) (Nat.le_of_ble_eq_true rfl) (by decide) dX10_stands_57 rfl (kI0 fun vy61 gvy61 hvy61 => ?_)
                    obtain ⟨hvy61, rfl⟩ := hvy61
                    refine z_aload_n C 0 dX10_stands_60 rfl ?_
                    refine z_get (v := .ref (ad (i + 2))) C (by omega) hay1 hcvy30 rfl inA_X10 1 (by decide) q_1460 rfl rfl dX10_stands_61 ?_
                    refine z_iload_n C 1 dX10_stands_64 rfl ?_
                    have hgy62 := up_n egy25 ha2 (ne_o (i := i) (c := 2) (d := 0) rfl)
                    have hgy63 := (hfvy27 (i + 2) (ne_o (i := i) (c := 2) (d := 0) rfl)).trans hgy62
                    have hgy64 := (hfvy30 (i + 2) (ne_o (i := i) (c := 2) (d := 0) rfl)).trans hgy63
                    refine z_iald C (by omega) hay3 hgy64 (n) (by omega) (by omega) (by decide) dX10_stands_65 ?_
                    obtain ⟨xy65, exy66, hxy67⟩ := zI_of (zI (st (n)))
                    rw [exy66]
                    have hgy69 := up_n egy25 ha7 (ne_o (i := i) (c := 7) (d := 0) rfl)
                    have hgy70 := (hfvy27 (i + 7) (ne_o (i := i) (c := 7) (d := 0) rfl)).trans hgy69
                    have hgy71 := (hfvy30 (i + 7) (ne_o (i := i) (c := 7) (d := 0) rfl)).trans hgy70
                    have hqy72 : qS r py52 := (((okA.at0 hA).1.1 n (by omega)).of (p2 := py52) (by omega)).q (by have hb9 := mBb (t := r 0 + x) (by omega); omega)
                    have hmky73 := hqy72.1
                    refine z_cV (As := [.int (zI (0)), .int (zI ((n : Int))), .int (zI (ll)), .int (zI (vy61)), .int (zI (xy65))]) (rest := []) (ci := 12) C (c_X10_ratio l D A cs tt N ad _ i hN _ hcvy30 _ hgy55 _ hgy71 0 n py52 hpy52 (by omega) (by omega) hqy72 (ll) (by omega) (vy61) (by omega) (xy65) (by omega)) (by omega) hay1 hcvy30 rfl rfl mv_yX10_ratio q_1772 hd_yX10_ratio (by decide) (Nat.le_of_ble_eq_true rfl) (by decide) dX10_stands_66 rfl (kI0 fun vy68 gvy68 hvy68 => ?_)
                    obtain ⟨hvy68, hzvy68, rfl⟩ := hvy68
                    refine z_bipush (z := 100) C dX10_stands_69 (by decide) ?_
                    refine z_icmp_ge (tgt := 85) C dX10_stands_71 (by decide) (by omega) (by omega) (fun hby74 => ?_) (fun hby74 => ?_)
                    · refine z_iinc (z := ll + 1) (lv' := [(4, .int (zI (ll + 1))), (0, .ref (ad i)), (1, .int (zI ((n : Int)))), (2, .int (zI (z1))), (3, .int (zI (tt9)))]) (j := 4) C dX10_stands_85 rfl rfl (by decide) rfl ?_
                      refine z_goto (tgt := 40) C dX10_stands_88 (by decide) ?_
                      refine z_lv (lv' := [(0, .ref (ad i)), (1, .int (zI ((n : Int)))), (2, .int (zI (z1))), (3, .int (zI (tt9))), (4, .int (zI (ll + 1)))]) [1, 2, 3, 4, 0] rfl ?_
                      exact ih_lp2 _ (by omega) (ll + 1) _ rfl rfl (by omega)
                    · refine z_iload_n C 2 dX10_stands_74 rfl ?_
                      refine z_if_ne (tgt := 82) C dX10_stands_75 (by decide) (by omega) (fun hby75 => ?_) (fun hby75 => ?_)
                      · refine z_iload C 4 dX10_stands_82 rfl ?_
                        have hFy76 : ∀ f, f ≠ 12 → Fvy30 f = F f := fun f n12 => ((hFvy30 f n12).trans ((hFvy27 f n12).trans ((uZ_n _ _ n12).trans rfl)))
                        have hey77 : Fvy30 13 = F 13 := ((hFvy30 13 (by decide)).trans ((hFvy27 13 (by decide)).trans (fn rfl (by decide))))
                        have hey78 : Fvy30 14 = F 14 := ((hFvy30 14 (by decide)).trans ((hFvy27 14 (by decide)).trans (fn rfl (by decide))))
                        have hey79 : Fvy30 15 = F 15 := ((hFvy30 15 (by decide)).trans ((hFvy27 15 (by decide)).trans (fn rfl (by decide))))
                        have hey80 : Fvy30 16 = F 16 := ((hFvy30 16 (by decide)).trans ((hFvy27 16 (by decide)).trans (fn rfl (by decide))))
                        have hey81 : Fvy30 17 = F 17 := ((hFvy30 17 (by decide)).trans ((hFvy27 17 (by decide)).trans (fn rfl (by decide))))
                        have hey82 : Fvy30 18 = F 18 := ((hFvy30 18 (by decide)).trans ((hFvy27 18 (by decide)).trans (fn rfl (by decide))))
                        have hey83 : Fvy30 19 = F 19 := ((hFvy30 19 (by decide)).trans ((hFvy27 19 (by decide)).trans (fn rfl (by decide))))
                        have hey84 : Fvy30 20 = F 20 := ((hFvy30 20 (by decide)).trans ((hFvy27 20 (by decide)).trans (fn rfl (by decide))))
                        have hey85 : Fvy30 23 = F 23 := ((hFvy30 23 (by decide)).trans ((hFvy27 23 (by decide)).trans (fn rfl (by decide))))
                        have hey86 : Fvy30 25 = F 25 := ((hFvy30 25 (by decide)).trans ((hFvy27 25 (by decide)).trans (fn rfl (by decide))))
                        have hey87 : Fvy30 27 = F 27 := ((hFvy30 27 (by decide)).trans ((hFvy27 27 (by decide)).trans (fn rfl (by decide))))
                        have hey88 : Fvy30 28 = F 28 := ((hFvy30 28 (by decide)).trans ((hFvy27 28 (by decide)).trans (fn rfl (by decide))))
                        have hey89 : Fvy30 29 = F 29 := ((hFvy30 29 (by decide)).trans ((hFvy27 29 (by decide)).trans (fn rfl (by decide))))
                        have hKy90 : okF Fvy30 := by unfold okF; omega
                        have hMy91 : okMr cs ad gvy30 i (x + 1) Fvy30 r := okMr.upd hM hcvy30 hKy90 (fun f a => hFy76 f (by omega)) hgy55 (hA.mono (by omega)) (fun j a b => by
                            exact Or.inl (by rw [hfvy30 _ (by omega)]; rw [hfvy27 _ (by omega)]; rw [egy25, va_up_ne _ _ (by omega)]))
                        have h23 : Fvy30 23 = F 23 := ((hFvy30 23 (by decide)).trans ((hFvy27 23 (by decide)).trans (fn rfl (by decide))))
                        exact z_iret C hr hlk dX10_stands_84 (by decide) (by decide) ⟨ll, rfl, rfl, rfl, by omega, ⟨_, _, hMy91, by omega⟩, fun j j1 => by rw [hfvy30 _ (by omega)]; rw [hfvy27 _ (by omega)]; rw [egy25, va_up_ne _ _ (by omega)]⟩
                      · refine z_iload_n C 3 dX10_stands_78 rfl ?_
                        refine z_goto (tgt := 84) C dX10_stands_79 (by decide) ?_
                        have hFy92 : ∀ f, f ≠ 12 → Fvy30 f = F f := fun f n12 => ((hFvy30 f n12).trans ((hFvy27 f n12).trans ((uZ_n _ _ n12).trans rfl)))
                        have hey93 : Fvy30 13 = F 13 := ((hFvy30 13 (by decide)).trans ((hFvy27 13 (by decide)).trans (fn rfl (by decide))))
                        have hey94 : Fvy30 14 = F 14 := ((hFvy30 14 (by decide)).trans ((hFvy27 14 (by decide)).trans (fn rfl (by decide))))
                        have hey95 : Fvy30 15 = F 15 := ((hFvy30 15 (by decide)).trans ((hFvy27 15 (by decide)).trans (fn rfl (by decide))))
                        have hey96 : Fvy30 16 = F 16 := ((hFvy30 16 (by decide)).trans ((hFvy27 16 (by decide)).trans (fn rfl (by decide))))
                        have hey97 : Fvy30 17 = F 17 := ((hFvy30 17 (by decide)).trans ((hFvy27 17 (by decide)).trans (fn rfl (by decide))))
                        have hey98 : Fvy30 18 = F 18 := ((hFvy30 18 (by decide)).trans ((hFvy27 18 (by decide)).trans (fn rfl (by decide))))
                        have hey99 : Fvy30 19 = F 19 := ((hFvy30 19 (by decide)).trans ((hFvy27 19 (by decide)).trans (fn rfl (by decide))))
                        have hey100 : Fvy30 20 = F 20 := ((hFvy30 20 (by decide)).trans ((hFvy27 20 (by decide)).trans (fn rfl (by decide))))
                        have hey101 : Fvy30 23 = F 23 := ((hFvy30 23 (by decide)).trans ((hFvy27 23 (by decide)).trans (fn rfl (by decide))))
                        have hey102 : Fvy30 25 = F 25 := ((hFvy30 25 (by decide)).trans ((hFvy27 25 (by decide)).trans (fn rfl (by decide))))
                        have hey103 : Fvy30 27 = F 27 := ((hFvy30 27 (by decide)).trans ((hFvy27 27 (by decide)).trans (fn rfl (by decide))))
                        have hey104 : Fvy30 28 = F 28 := ((hFvy30 28 (by decide)).trans ((hFvy27 28 (by decide)).trans (fn rfl (by decide))))
                        have hey105 : Fvy30 29 = F 29 := ((hFvy30 29 (by decide)).trans ((hFvy27 29 (by decide)).trans (fn rfl (by decide))))
                        have hKy106 : okF Fvy30 := by unfold okF; omega
                        have hMy107 : okMr cs ad gvy30 i (x + 1) Fvy30 r := okMr.upd hM hcvy30 hKy106 (fun f a => hFy92 f (by omega)) hgy55 (hA.mono (by omega)) (fun j a b => by
                            exact Or.inl (by rw [hfvy30 _ (by omega)]; rw [hfvy27 _ (by omega)]; rw [egy25, va_up_ne _ _ (by omega)]))
                        have h23 : Fvy30 23 = F 23 := ((hFvy30 23 (by decide)).trans ((hFvy27 23 (by decide)).trans (fn rfl (by decide))))
                        exact z_iret C hr hlk dX10_stands_84 (by decide) (by decide) ⟨tt9, rfl, rfl, rfl, by omega, ⟨_, _, hMy107, by omega⟩, fun j j1 => by rw [hfvy30 _ (by omega)]; rw [hfvy27 _ (by omega)]; rw [egy25, va_up_ne _ _ (by omega)]⟩
              refine z_lv (lv' := [(0, .ref (ad i)), (1, .int (zI ((n : Int)))), (2, .int (zI (z1))), (3, .int (zI (tt9))), (4, .int (zI (0)))]) [1, 2, 3, 4, 0] rfl ?_
              exact lp2 _ (0) _ rfl rfl (by omega)
        refine z_lv (lv' := [(0, .ref (ad i)), (1, .int (zI ((n : Int)))), (2, .int (zI (z1))), (3, .int (zI (0)))]) [1, 2, 3, 0] rfl ?_
        exact lp1 _ (0) _ rfl rfl (by omega)
      · refine z_if_ne (tgt := 29) C dX10_stands_24 (by decide) (by omega) (fun h => absurd h (by omega)) (fun _ => ?_)
        refine z_iconst (z := 0) C dX10_stands_27 rfl ?_
        have hgy108 := up_n egy25 ha1 (ne_o (i := i) (c := 1) (d := 0) rfl)
        have hgy109 := (hfvy27 (i + 1) (ne_o (i := i) (c := 1) (d := 0) rfl)).trans hgy108
        have hgy110 := (hfvy30 (i + 1) (ne_o (i := i) (c := 1) (d := 0) rfl)).trans hgy109
        have hFy111 : ∀ f, f ≠ 12 → Fvy30 f = F f := fun f n12 => ((hFvy30 f n12).trans ((hFvy27 f n12).trans ((uZ_n _ _ n12).trans rfl)))
        have hey112 : Fvy30 13 = F 13 := ((hFvy30 13 (by decide)).trans ((hFvy27 13 (by decide)).trans (fn rfl (by decide))))
        have hey113 : Fvy30 14 = F 14 := ((hFvy30 14 (by decide)).trans ((hFvy27 14 (by decide)).trans (fn rfl (by decide))))
        have hey114 : Fvy30 15 = F 15 := ((hFvy30 15 (by decide)).trans ((hFvy27 15 (by decide)).trans (fn rfl (by decide))))
        have hey115 : Fvy30 16 = F 16 := ((hFvy30 16 (by decide)).trans ((hFvy27 16 (by decide)).trans (fn rfl (by decide))))
        have hey116 : Fvy30 17 = F 17 := ((hFvy30 17 (by decide)).trans ((hFvy27 17 (by decide)).trans (fn rfl (by decide))))
        have hey117 : Fvy30 18 = F 18 := ((hFvy30 18 (by decide)).trans ((hFvy27 18 (by decide)).trans (fn rfl (by decide))))
        have hey118 : Fvy30 19 = F 19 := ((hFvy30 19 (by decide)).trans ((hFvy27 19 (by decide)).trans (fn rfl (by decide))))
        have hey119 : Fvy30 20 = F 20 := ((hFvy30 20 (by decide)).trans ((hFvy27 20 (by decide)).trans (fn rfl (by decide))))
        have hey120 : Fvy30 23 = F 23 := ((hFvy30 23 (by decide)).trans ((hFvy27 23 (by decide)).trans (fn rfl (by decide))))
        have hey121 : Fvy30 25 = F 25 := ((hFvy30 25 (by decide)).trans ((hFvy27 25 (by decide)).trans (fn rfl (by decide))))
        have hey122 : Fvy30 27 = F 27 := ((hFvy30 27 (by decide)).trans ((hFvy27 27 (by decide)).trans (fn rfl (by decide))))
        have hey123 : Fvy30 28 = F 28 := ((hFvy30 28 (by decide)).trans ((hFvy27 28 (by decide)).trans (fn rfl (by decide))))
        have hey124 : Fvy30 29 = F 29 := ((hFvy30 29 (by decide)).trans ((hFvy27 29 (by decide)).trans (fn rfl (by decide))))
        have hKy125 : okF Fvy30 := by unfold okF; omega
        have hMy126 : okMr cs ad gvy30 i (x + 1) Fvy30 r := okMr.upd hM hcvy30 hKy125 (fun f a => hFy111 f (by omega)) hgy110 (hA.mono (by omega)) (fun j a b => by
            exact Or.inl (by rw [hfvy30 _ (by omega)]; rw [hfvy27 _ (by omega)]; rw [egy25, va_up_ne _ _ (by omega)]))
        have h23 : Fvy30 23 = F 23 := ((hFvy30 23 (by decide)).trans ((hFvy27 23 (by decide)).trans (fn rfl (by decide))))
        exact z_iret C hr hlk dX10_stands_28 (by decide) (by decide) ⟨0, rfl, rfl, rfl, by omega, ⟨_, _, hMy126, by omega⟩, fun j j1 => by rw [hfvy30 _ (by omega)]; rw [hfvy27 _ (by omega)]; rw [egy25, va_up_ne _ _ (by omega)]⟩
    · refine z_iconst (z := 1) C dX10_stands_20 rfl ?_
      have hey128 : Fvy27 12 = Fvy27 12 := rfl
      refine z_cV (As := [.int (zI (0)), .int (zI (1))]) (rest := []) (ci := 12) C (c_X10_right l D A cs tt N ad _ i hN _ hcvy27 (by omega) (0) (by omega) (1) (by omega)) (by omega) hay1 hcvy27 rfl rfl mv_yX10_right q_1648 hd_yX10_right (by decide) (Nat.le_of_ble_eq_true rfl) (by decide) dX10_stands_21 rfl (kI0 fun vy127 gvy127 hvy127 => ?_)
      obtain ⟨hrvy127, ⟨Fvy127, hcvy127, htvy127, hFvy127⟩, hfvy127⟩ := hvy127
      obtain rfl : vy127 = 0 := by omega
      refine z_if_ne (tgt := 29) C dX10_stands_24 (by decide) (by omega) (fun h => absurd h (by omega)) (fun _ => ?_)
      refine z_iconst (z := 0) C dX10_stands_27 rfl ?_
      have hgy129 := up_n egy25 ha1 (ne_o (i := i) (c := 1) (d := 0) rfl)
      have hgy130 := (hfvy27 (i + 1) (ne_o (i := i) (c := 1) (d := 0) rfl)).trans hgy129
      have hgy131 := (hfvy127 (i + 1) (ne_o (i := i) (c := 1) (d := 0) rfl)).trans hgy130
      have hFy132 : ∀ f, f ≠ 12 → Fvy127 f = F f := fun f n12 => ((hFvy127 f n12).trans ((hFvy27 f n12).trans ((uZ_n _ _ n12).trans rfl)))
      have hey133 : Fvy127 13 = F 13 := ((hFvy127 13 (by decide)).trans ((hFvy27 13 (by decide)).trans (fn rfl (by decide))))
      have hey134 : Fvy127 14 = F 14 := ((hFvy127 14 (by decide)).trans ((hFvy27 14 (by decide)).trans (fn rfl (by decide))))
      have hey135 : Fvy127 15 = F 15 := ((hFvy127 15 (by decide)).trans ((hFvy27 15 (by decide)).trans (fn rfl (by decide))))
      have hey136 : Fvy127 16 = F 16 := ((hFvy127 16 (by decide)).trans ((hFvy27 16 (by decide)).trans (fn rfl (by decide))))
      have hey137 : Fvy127 17 = F 17 := ((hFvy127 17 (by decide)).trans ((hFvy27 17 (by decide)).trans (fn rfl (by decide))))
      have hey138 : Fvy127 18 = F 18 := ((hFvy127 18 (by decide)).trans ((hFvy27 18 (by decide)).trans (fn rfl (by decide))))
      have hey139 : Fvy127 19 = F 19 := ((hFvy127 19 (by decide)).trans ((hFvy27 19 (by decide)).trans (fn rfl (by decide))))
      have hey140 : Fvy127 20 = F 20 := ((hFvy127 20 (by decide)).trans ((hFvy27 20 (by decide)).trans (fn rfl (by decide))))
      have hey141 : Fvy127 23 = F 23 := ((hFvy127 23 (by decide)).trans ((hFvy27 23 (by decide)).trans (fn rfl (by decide))))
      have hey142 : Fvy127 25 = F 25 := ((hFvy127 25 (by decide)).trans ((hFvy27 25 (by decide)).trans (fn rfl (by decide))))
      have hey143 : Fvy127 27 = F 27 := ((hFvy127 27 (by decide)).trans ((hFvy27 27 (by decide)).trans (fn rfl (by decide))))
      have hey144 : Fvy127 28 = F 28 := ((hFvy127 28 (by decide)).trans ((hFvy27 28 (by decide)).trans (fn rfl (by decide))))
      have hey145 : Fvy127 29 = F 29 := ((hFvy127 29 (by decide)).trans ((hFvy27 29 (by decide)).trans (fn rfl (by decide))))
      have hKy146 : okF Fvy127 := by unfold okF; omega
      have hMy147 : okMr cs ad gvy127 i (x + 1) Fvy127 r := okMr.upd hM hcvy127 hKy146 (fun f a => hFy132 f (by omega)) hgy131 (hA.mono (by omega)) (fun j a b => by
          exact Or.inl (by rw [hfvy127 _ (by omega)]; rw [hfvy27 _ (by omega)]; rw [egy25, va_up_ne _ _ (by omega)]))
      have h23 : Fvy127 23 = F 23 := ((hFvy127 23 (by decide)).trans ((hFvy27 23 (by decide)).trans (fn rfl (by decide))))
      exact z_iret C hr hlk dX10_stands_28 (by decide) (by decide) ⟨0, rfl, rfl, rfl, by omega, ⟨_, _, hMy147, by omega⟩, fun j j1 => by rw [hfvy127 _ (by omega)]; rw [hfvy27 _ (by omega)]; rw [egy25, va_up_ne _ _ (by omega)]⟩
  · refine z_if_eq (tgt := 27) C dX10_stands_10 (by decide) (by omega) (fun _ => ?_) (fun h => absurd h (by omega))
    refine z_iconst (z := 0) C dX10_stands_27 rfl ?_
    have hgy148 := up_n egy25 ha1 (ne_o (i := i) (c := 1) (d := 0) rfl)
    have hgy149 := (hfvy27 (i + 1) (ne_o (i := i) (c := 1) (d := 0) rfl)).trans hgy148
    have hFy150 : ∀ f, f ≠ 12 → Fvy27 f = F f := fun f n12 => ((hFvy27 f n12).trans ((uZ_n _ _ n12).trans rfl))
    have hey151 : Fvy27 13 = F 13 := ((hFvy27 13 (by decide)).trans (fn rfl (by decide)))
    have hey152 : Fvy27 14 = F 14 := ((hFvy27 14 (by decide)).trans (fn rfl (by decide)))
    have hey153 : Fvy27 15 = F 15 := ((hFvy27 15 (by decide)).trans (fn rfl (by decide)))
    have hey154 : Fvy27 16 = F 16 := ((hFvy27 16 (by decide)).trans (fn rfl (by decide)))
    have hey155 : Fvy27 17 = F 17 := ((hFvy27 17 (by decide)).trans (fn rfl (by decide)))
    have hey156 : Fvy27 18 = F 18 := ((hFvy27 18 (by decide)).trans (fn rfl (by decide)))
    have hey157 : Fvy27 19 = F 19 := ((hFvy27 19 (by decide)).trans (fn rfl (by decide)))
    have hey158 : Fvy27 20 = F 20 := ((hFvy27 20 (by decide)).trans (fn rfl (by decide)))
    have hey159 : Fvy27 23 = F 23 := ((hFvy27 23 (by decide)).trans (fn rfl (by decide)))
    have hey160 : Fvy27 25 = F 25 := ((hFvy27 25 (by decide)).trans (fn rfl (by decide)))
    have hey161 : Fvy27 27 = F 27 := ((hFvy27 27 (by decide)).trans (fn rfl (by decide)))
    have hey162 : Fvy27 28 = F 28 := ((hFvy27 28 (by decide)).trans (fn rfl (by decide)))
    have hey163 : Fvy27 29 = F 29 := ((hFvy27 29 (by decide)).trans (fn rfl (by decide)))
    have hKy164 : okF Fvy27 := by unfold okF; omega
    have hMy165 : okMr cs ad gvy27 i (x + 1) Fvy27 r := okMr.upd hM hcvy27 hKy164 (fun f a => hFy150 f (by omega)) hgy149 (hA.mono (by omega)) (fun j a b => by
        exact Or.inl (by rw [hfvy27 _ (by omega)]; rw [egy25, va_up_ne _ _ (by omega)]))
    have h23 : Fvy27 23 = F 23 := ((hFvy27 23 (by decide)).trans (fn rfl (by decide)))
    exact z_iret C hr hlk dX10_stands_28 (by decide) (by decide) ⟨0, rfl, rfl, rfl, by omega, ⟨_, _, hMy165, by omega⟩, fun j j1 => by rw [hfvy27 _ (by omega)]; rw [egy25, va_up_ne _ _ (by omega)]⟩

set_option maxRecDepth 100000 in
set_option maxHeartbeats 4000000 in
theorem c_X10_stands_b (l : Launch) (D : va_G) (A : Nat → Prop) (cs : Nat → ClassId) (tt : Nat) (N : Nat) (ad : Nat → Nat) (g : Nat → va_E) (i : Nat) (hN : i + 30 ≤ N) (x : Int) (hx : 0 ≤ x ∧ x ≤ 512) (F r : Nat → Int) (hM : okMr cs ad g i x F r) (z : Int) (hz : -2147483648 ≤ z ∧ z ≤ 2147483647) (hzo : z < 0 ∨ 3 < z) (z1 : Int) (hz1 : -2147483648 ≤ z1 ∧ z1 ≤ 2147483647) : zM l yX10_stands cX10_stands 5 (some .int) ({ frames := 8, cells := 0, slots := 0, locals := 480 } : Room) D A cs tt N ad g [.ref (ad i), .int (zI (z)), .int (zI (z1))] (rI0 N ad fun q g' => (-2147483648 ≤ q ∧ q ≤ 2147483647) ∧ (∃ F' r' : Nat → Int, okMr cs ad g' i (x + 1) F' r' ∧ F' 23 = F 23) ∧ ∀ j, j < i ∨ i + 30 ≤ j → g' j = g j) := by
  obtain ⟨hg, ⟨⟨e13, e14, e25, e27, e29⟩, k15, k16, k17, k18, k19, k20, k23⟩, hRD, hTx, hA, st, op, ai, fa, mu, tb, ns, nh, nd, rf, pi, tp, te, ki, li, ok1, ok2, fo, dd, dps, ⟨ha1, ha2, ha3, ha4, ha5, ha6, ha7, ha8, ha9, ha10, ha11, ha12, ha13, ha14, ha15, ha24, ha25, ha26, ha27, ha28, ha29⟩, hEv, hPt, hns, htp⟩ := id hM
  obtain ⟨-, hop, hai, hfa, hT, hT1⟩ := id hEv
  have hay1 : zAt ad (i) (ad i) := rfl
  have hay2 : zAt ad (i + 1) (ad (i + 1)) := rfl
  have hay3 : zAt ad (i + 2) (ad (i + 2)) := rfl
  have hay4 : zAt ad (i + 3) (ad (i + 3)) := rfl
  have hay5 : zAt ad (i + 4) (ad (i + 4)) := rfl
  have hay6 : zAt ad (i + 5) (ad (i + 5)) := rfl
  have hay7 : zAt ad (i + 6) (ad (i + 6)) := rfl
  have hay8 : zAt ad (i + 7) (ad (i + 7)) := rfl
  have hay9 : zAt ad (i + 8) (ad (i + 8)) := rfl
  have hay10 : zAt ad (i + 9) (ad (i + 9)) := rfl
  have hay11 : zAt ad (i + 10) (ad (i + 10)) := rfl
  have hay12 : zAt ad (i + 11) (ad (i + 11)) := rfl
  have hay13 : zAt ad (i + 12) (ad (i + 12)) := rfl
  have hay14 : zAt ad (i + 13) (ad (i + 13)) := rfl
  have hay15 : zAt ad (i + 14) (ad (i + 14)) := rfl
  have hay16 : zAt ad (i + 15) (ad (i + 15)) := rfl
  have hay17 : zAt ad (i + 24) (ad (i + 24)) := rfl
  have hay18 : zAt ad (i + 25) (ad (i + 25)) := rfl
  have hay19 : zAt ad (i + 26) (ad (i + 26)) := rfl
  have hay20 : zAt ad (i + 27) (ad (i + 27)) := rfl
  have hay21 : zAt ad (i + 28) (ad (i + 28)) := rfl
  have hay22 : zAt ad (i + 29) (ad (i + 29)) := rfl
  obtain ⟨⟨hsyy23, htyy23, hnyy23, hpyy23⟩, hlyy23⟩ := okA.at0 hA
  simp only [Nat.zero_add] at hsyy23 hnyy23 hpyy23
  have hmn : ∀ s, s < 4 → 0 ≤ r (6 + 86 * s) ∧ r (6 + 86 * s) ≤ 12 := fun s hs => (hsyy23 s hs).1
  have h5 : 0 ≤ r 5 ∧ r 5 ≤ 6 := hpyy23
  refine z_of (by decide) (Nat.le_of_ble_eq_true rfl) ?_
  intro pZ eZ sZ mZ below meth cZ C hr hlk hnm
  refine z_lv (lv' := [(0, .ref (ad i)), (1, .int (zI (z))), (2, .int (zI (z1)))]) [0, 1, 2] rfl ?_
  refine z_aload_n C 0 dX10_stands_0 rfl ?_
  refine z_iconst (z := 0) C dX10_stands_1 rfl ?_
  refine z_put (fs' := mF ad (i) (uZ F 12 (0))) C (by omega) hay1 hg tyX10 tyX10_ok nmX10 rfl inA_X10 12 (by decide) q_1471 rfl rfl rfl rfl (Nat.le_of_ble_eq_true rfl) rfl dX10_stands_2 (fun gy24 egy25 => ?_)
  have hgy26 := up_s egy25
  refine z_aload_n C 0 dX10_stands_5 rfl ?_
  refine z_iload_n C 1 dX10_stands_6 rfl ?_
  have h13vy27 : (uZ F 12 (0)) 13 = F 13 := (fn rfl (by decide))
  have hey28 : (uZ F 12 (0)) 12 = 0 := (uZ_s _ _ _)
  refine z_cV (As := [.int (zI (z))]) (rest := []) (ci := 12) C (c_X10_isSlope l D A cs tt N ad _ i hN _ hgy26 (by omega) (by omega) (z) (by omega)) (by omega) hay1 hgy26 rfl rfl mv_yX10_isSlope q_1803 hd_yX10_isSlope (by decide) (Nat.le_of_ble_eq_true rfl) (by decide) dX10_stands_7 rfl (kI0 fun vy27 gvy27 hvy27 => ?_)
  rw [h13vy27] at hvy27
  obtain ⟨hrvy27, ⟨Fvy27, hcvy27, htvy27, hFvy27⟩, hfvy27⟩ := hvy27
  obtain rfl : vy27 = 0 := by omega
  refine z_if_eq (tgt := 27) C dX10_stands_10 (by decide) (by omega) (fun _ => ?_) (fun h => absurd h (by omega))
  refine z_iconst (z := 0) C dX10_stands_27 rfl ?_
  have hgy29 := up_n egy25 ha1 (ne_o (i := i) (c := 1) (d := 0) rfl)
  have hgy30 := (hfvy27 (i + 1) (ne_o (i := i) (c := 1) (d := 0) rfl)).trans hgy29
  have hFy31 : ∀ f, f ≠ 12 → Fvy27 f = F f := fun f n12 => ((hFvy27 f n12).trans ((uZ_n _ _ n12).trans rfl))
  have hey32 : Fvy27 13 = F 13 := ((hFvy27 13 (by decide)).trans (fn rfl (by decide)))
  have hey33 : Fvy27 14 = F 14 := ((hFvy27 14 (by decide)).trans (fn rfl (by decide)))
  have hey34 : Fvy27 15 = F 15 := ((hFvy27 15 (by decide)).trans (fn rfl (by decide)))
  have hey35 : Fvy27 16 = F 16 := ((hFvy27 16 (by decide)).trans (fn rfl (by decide)))
  have hey36 : Fvy27 17 = F 17 := ((hFvy27 17 (by decide)).trans (fn rfl (by decide)))
  have hey37 : Fvy27 18 = F 18 := ((hFvy27 18 (by decide)).trans (fn rfl (by decide)))
  have hey38 : Fvy27 19 = F 19 := ((hFvy27 19 (by decide)).trans (fn rfl (by decide)))
  have hey39 : Fvy27 20 = F 20 := ((hFvy27 20 (by decide)).trans (fn rfl (by decide)))
  have hey40 : Fvy27 23 = F 23 := ((hFvy27 23 (by decide)).trans (fn rfl (by decide)))
  have hey41 : Fvy27 25 = F 25 := ((hFvy27 25 (by decide)).trans (fn rfl (by decide)))
  have hey42 : Fvy27 27 = F 27 := ((hFvy27 27 (by decide)).trans (fn rfl (by decide)))
  have hey43 : Fvy27 28 = F 28 := ((hFvy27 28 (by decide)).trans (fn rfl (by decide)))
  have hey44 : Fvy27 29 = F 29 := ((hFvy27 29 (by decide)).trans (fn rfl (by decide)))
  have hKy45 : okF Fvy27 := by unfold okF; omega
  have hMy46 : okMr cs ad gvy27 i (x + 1) Fvy27 r := okMr.upd hM hcvy27 hKy45 (fun f a => hFy31 f (by omega)) hgy30 (hA.mono (by omega)) (fun j a b => by
      exact Or.inl (by rw [hfvy27 _ (by omega)]; rw [egy25, va_up_ne _ _ (by omega)]))
  have h23 : Fvy27 23 = F 23 := ((hFvy27 23 (by decide)).trans (fn rfl (by decide)))
  exact z_iret C hr hlk dX10_stands_28 (by decide) (by decide) ⟨0, rfl, rfl, rfl, by omega, ⟨_, _, hMy46, by omega⟩, fun j j1 => by rw [hfvy27 _ (by omega)]; rw [egy25, va_up_ne _ _ (by omega)]⟩

set_option maxRecDepth 100000 in
set_option maxHeartbeats 4000000 in
theorem c_X10_stands (l : Launch) (D : va_G) (A : Nat → Prop) (cs : Nat → ClassId) (tt : Nat) (N : Nat) (ad : Nat → Nat) (g : Nat → va_E) (i : Nat) (hN : i + 30 ≤ N) (x : Int) (hx : 0 ≤ x ∧ x ≤ 512) (F r : Nat → Int) (hM : okMr cs ad g i x F r) (z : Int) (hz : -2147483648 ≤ z ∧ z ≤ 2147483647) (z1 : Int) (hz1 : -2147483648 ≤ z1 ∧ z1 ≤ 2147483647) : zM l yX10_stands cX10_stands 5 (some .int) ({ frames := 8, cells := 0, slots := 0, locals := 480 } : Room) D A cs tt N ad g [.ref (ad i), .int (zI (z)), .int (zI (z1))] (rI0 N ad fun q g' => (-2147483648 ≤ q ∧ q ≤ 2147483647) ∧ (∃ F' r' : Nat → Int, okMr cs ad g' i (x + 1) F' r' ∧ F' 23 = F 23) ∧ ∀ j, j < i ∨ i + 30 ≤ j → g' j = g j) := by
  by_cases h9 : 0 ≤ z ∧ z ≤ 3
  · obtain ⟨n, rfl⟩ : ∃ n : Nat, z = (n : Int) := ⟨z.toNat, by omega⟩
    exact c_X10_stands_a l D A cs tt N ad g i hN x hx F r hM n (by omega) z1 hz1
  · exact c_X10_stands_b l D A cs tt N ad g i hN x hx F r hM z hz (by omega) z1 hz1

set_option maxRecDepth 100000 in
set_option maxHeartbeats 4000000 in
theorem c_X10_toLoad_a (l : Launch) (D : va_G) (A : Nat → Prop) (cs : Nat → ClassId) (tt : Nat) (N : Nat) (ad : Nat → Nat) (g : Nat → va_E) (i : Nat) (hN : i + 30 ≤ N) (x : Int) (hx : 0 ≤ x ∧ x ≤ 512) (F r : Nat → Int) (hM : okMr cs ad g i x F r) (n : Nat) (hn4 : n < 4) : zM l yX10_toLoad cX10_toLoad 3 (some .int) ({ frames := 9, cells := 0, slots := 0, locals := 540 } : Room) D A cs tt N ad g [.ref (ad i), .int (zI ((n : Int)))] (rI0 N ad fun q g' => (-2147483648 ≤ q ∧ q ≤ 2147483647) ∧ (∃ F' r' : Nat → Int, okMr cs ad g' i (x + 1) F' r' ∧ F' 23 = F 23) ∧ ∀ j, j < i ∨ i + 30 ≤ j → g' j = g j) := by
  obtain ⟨hg, ⟨⟨e13, e14, e25, e27, e29⟩, k15, k16, k17, k18, k19, k20, k23⟩, hRD, hTx, hA, st, op, ai, fa, mu, tb, ns, nh, nd, rf, pi, tp, te, ki, li, ok1, ok2, fo, dd, dps, ⟨ha1, ha2, ha3, ha4, ha5, ha6, ha7, ha8, ha9, ha10, ha11, ha12, ha13, ha14, ha15, ha24, ha25, ha26, ha27, ha28, ha29⟩, hEv, hPt, hns, htp⟩ := id hM
  obtain ⟨-, hop, hai, hfa, hT, hT1⟩ := id hEv
  have hay1 : zAt ad (i) (ad i) := rfl
  have hay2 : zAt ad (i + 1) (ad (i + 1)) := rfl
  have hay3 : zAt ad (i + 2) (ad (i + 2)) := rfl
  have hay4 : zAt ad (i + 3) (ad (i + 3)) := rfl
  have hay5 : zAt ad (i + 4) (ad (i + 4)) := rfl
  have hay6 : zAt ad (i + 5) (ad (i + 5)) := rfl
  have hay7 : zAt ad (i + 6) (ad (i + 6)) := rfl
  have hay8 : zAt ad (i + 7) (ad (i + 7)) := rfl
  have hay9 : zAt ad (i + 8) (ad (i + 8)) := rfl
  have hay10 : zAt ad (i + 9) (ad (i + 9)) := rfl
  have hay11 : zAt ad (i + 10) (ad (i + 10)) := rfl
  have hay12 : zAt ad (i + 11) (ad (i + 11)) := rfl
  have hay13 : zAt ad (i + 12) (ad (i + 12)) := rfl
  have hay14 : zAt ad (i + 13) (ad (i + 13)) := rfl
  have hay15 : zAt ad (i + 14) (ad (i + 14)) := rfl
  have hay16 : zAt ad (i + 15) (ad (i + 15)) := rfl
  have hay17 : zAt ad (i + 24) (ad (i + 24)) := rfl
  have hay18 : zAt ad (i + 25) (ad (i + 25)) := rfl
  have hay19 : zAt ad (i + 26) (ad (i + 26)) := rfl
  have hay20 : zAt ad (i + 27) (ad (i + 27)) := rfl
  have hay21 : zAt ad (i + 28) (ad (i + 28)) := rfl
  have hay22 : zAt ad (i + 29) (ad (i + 29)) := rfl
  obtain ⟨⟨hsyy23, htyy23, hnyy23, hpyy23⟩, hlyy23⟩ := okA.at0 hA
  simp only [Nat.zero_add] at hsyy23 hnyy23 hpyy23
  have hmn : ∀ s, s < 4 → 0 ≤ r (6 + 86 * s) ∧ r (6 + 86 * s) ≤ 12 := fun s hs => (hsyy23 s hs).1
  have h5 : 0 ≤ r 5 ∧ r 5 ≤ 6 := hpyy23
  refine z_of (by decide) (Nat.le_of_ble_eq_true rfl) ?_
  intro pZ eZ sZ mZ below meth cZ C hr hlk hnm
  refine z_lv (lv' := [(0, .ref (ad i)), (1, .int (zI ((n : Int))))]) [0, 1] rfl ?_
  refine z_aload_n C 0 dX10_toLoad_0 rfl ?_
  refine z_iconst (z := 0) C dX10_toLoad_1 rfl ?_
  refine z_put (fs' := mF ad (i) (uZ F 12 (0))) C (by omega) hay1 hg tyX10 tyX10_ok nmX10 rfl inA_X10 12 (by decide) q_1471 rfl rfl rfl rfl (Nat.le_of_ble_eq_true rfl) rfl dX10_toLoad_2 (fun gy24 egy25 => ?_)
  have hgy26 := up_s egy25
  refine z_aload_n C 0 dX10_toLoad_5 rfl ?_
  refine z_iload_n C 1 dX10_toLoad_6 rfl ?_
  have h13vy27 : (uZ F 12 (0)) 13 = F 13 := (fn rfl (by decide))
  have hey28 : (uZ F 12 (0)) 12 = 0 := (uZ_s _ _ _)
  refine z_cV (As := [.int (zI ((n : Int)))]) (rest := []) (ci := 12) C (c_X10_isSlope l D A cs tt N ad _ i hN _ hgy26 (by omega) (by omega) ((n : Int)) (by omega)) (by omega) hay1 hgy26 rfl rfl mv_yX10_isSlope q_1803 hd_yX10_isSlope (by decide) (Nat.le_of_ble_eq_true rfl) (by decide) dX10_toLoad_7 rfl (kI0 fun vy27 gvy27 hvy27 => ?_)
  rw [h13vy27] at hvy27
  obtain ⟨hrvy27, ⟨Fvy27, hcvy27, htvy27, hFvy27⟩, hfvy27⟩ := hvy27
  rcases (show vy27 = 1 ∨ vy27 = 0 by omega) with rfl | rfl
  · have hxvy27 := hrvy27.2 rfl
    refine z_if_ne (tgt := 15) C dX10_toLoad_10 (by decide) (by omega) (fun _ => ?_) (fun h => absurd h (by omega))
    refine z_iconst (z := 1) C dX10_toLoad_15 rfl ?_
    refine z_istore_n (lv' := [(2, .int (zI (1))), (0, .ref (ad i)), (1, .int (zI ((n : Int))))]) C dX10_toLoad_16 rfl (by decide) rfl ?_
    have lp1 : ∀ (n9 : Nat) (nn : Int) (g1 : Nat → va_E), (100 - nn).toNat = n9 → (gvy27 = g1) → (1 ≤ nn ∧ nn ≤ 100) → zV pZ l eZ ({ frames := 9, cells := 0, slots := 0, locals := 540 } : Room) sZ mZ ([.ref (ad i), .int (zI ((n : Int)))] : List Value).toArray below meth cZ (MQ below (zPost D A (rI0 N ad fun q g' => (-2147483648 ≤ q ∧ q ≤ 2147483647) ∧ (∃ F' r' : Nat → Int, okMr cs ad g' i (x + 1) F' r' ∧ F' 23 = F 23) ∧ ∀ j, j < i ∨ i + 30 ≤ j → g' j = g j)) ([.ref (ad i), .int (zI ((n : Int)))] : List Value).toArray sZ ({ frames := 9, cells := 0, slots := 0, locals := 540 } : Room).cells ({ frames := 9, cells := 0, slots := 0, locals := 540 } : Room).slots A) D A 3 (N) ad g1 (0) (0) 17 [(0, .ref (ad i)), (1, .int (zI ((n : Int)))), (2, .int (zI (nn)))] [] := by
      intro n9
      induction n9 using Nat.strongRecOn with
      | ind n9 ih_lp1 =>
        intro nn g1 hm9 hgz hvlp10
        subst hgz
        refine z_iload_n C 2 dX10_toLoad_17 rfl ?_
        refine z_bipush (z := 99) C dX10_toLoad_18 (by decide) ?_
        refine z_icmp_gt (tgt := 49) C dX10_toLoad_20 (by decide) (by omega) (by omega) (fun hby29 => ?_) (fun hby29 => ?_)
        · refine z_iconst (z := -1) C dX10_toLoad_49 rfl ?_
          have hgy30 := up_n egy25 ha1 (ne_o (i := i) (c := 1) (d := 0) rfl)
          have hgy31 := (hfvy27 (i + 1) (ne_o (i := i) (c := 1) (d := 0) rfl)).trans hgy30
          have hFy32 : ∀ f, f ≠ 12 → Fvy27 f = F f := fun f n12 => ((hFvy27 f n12).trans ((uZ_n _ _ n12).trans rfl))
          have hey33 : Fvy27 13 = F 13 := ((hFvy27 13 (by decide)).trans (fn rfl (by decide)))
          have hey34 : Fvy27 14 = F 14 := ((hFvy27 14 (by decide)).trans (fn rfl (by decide)))
          have hey35 : Fvy27 15 = F 15 := ((hFvy27 15 (by decide)).trans (fn rfl (by decide)))
          have hey36 : Fvy27 16 = F 16 := ((hFvy27 16 (by decide)).trans (fn rfl (by decide)))
          have hey37 : Fvy27 17 = F 17 := ((hFvy27 17 (by decide)).trans (fn rfl (by decide)))
          have hey38 : Fvy27 18 = F 18 := ((hFvy27 18 (by decide)).trans (fn rfl (by decide)))
          have hey39 : Fvy27 19 = F 19 := ((hFvy27 19 (by decide)).trans (fn rfl (by decide)))
          have hey40 : Fvy27 20 = F 20 := ((hFvy27 20 (by decide)).trans (fn rfl (by decide)))
          have hey41 : Fvy27 23 = F 23 := ((hFvy27 23 (by decide)).trans (fn rfl (by decide)))
          have hey42 : Fvy27 25 = F 25 := ((hFvy27 25 (by decide)).trans (fn rfl (by decide)))
          have hey43 : Fvy27 27 = F 27 := ((hFvy27 27 (by decide)).trans (fn rfl (by decide)))
          have hey44 : Fvy27 28 = F 28 := ((hFvy27 28 (by decide)).trans (fn rfl (by decide)))
          have hey45 : Fvy27 29 = F 29 := ((hFvy27 29 (by decide)).trans (fn rfl (by decide)))
          have hKy46 : okF Fvy27 := by unfold okF; omega
          have hMy47 : okMr cs ad gvy27 i (x + 1) Fvy27 r := okMr.upd hM hcvy27 hKy46 (fun f a => hFy32 f (by omega)) hgy31 (hA.mono (by omega)) (fun j a b => by
              exact Or.inl (by rw [hfvy27 _ (by omega)]; rw [egy25, va_up_ne _ _ (by omega)]))
          have h23 : Fvy27 23 = F 23 := ((hFvy27 23 (by decide)).trans (fn rfl (by decide)))
          exact z_iret C hr hlk dX10_toLoad_50 (by decide) (by decide) ⟨-1, rfl, rfl, rfl, by omega, ⟨_, _, hMy47, by omega⟩, fun j j1 => by rw [hfvy27 _ (by omega)]; rw [egy25, va_up_ne _ _ (by omega)]⟩
        · refine z_aload_n C 0 dX10_toLoad_23 rfl ?_
          refine z_iconst (z := 0) C dX10_toLoad_24 rfl ?_
          refine z_iload_n C 1 dX10_toLoad_25 rfl ?_
          refine z_iload_n C 2 dX10_toLoad_26 rfl ?_
          refine z_aload_n C 0 dX10_toLoad_27 rfl ?_
          refine z_get (v := .ref (ad (i + 2))) C (by omega) hay1 hcvy27 rfl inA_X10 1 (by decide) q_1460 rfl rfl dX10_toLoad_28 ?_
          refine z_iload_n C 1 dX10_toLoad_31 rfl ?_
          have hgy48 := up_n egy25 ha2 (ne_o (i := i) (c := 2) (d := 0) rfl)
          have hgy49 := (hfvy27 (i + 2) (ne_o (i := i) (c := 2) (d := 0) rfl)).trans hgy48
          refine z_iald C (by omega) hay3 hgy49 (n) (by omega) (by omega) (by decide) dX10_toLoad_32 ?_
          obtain ⟨xy50, exy51, hxy52⟩ := zI_of (zI (st (n)))
          rw [exy51]
          obtain ⟨py53, hpy53⟩ : ∃ p9 : Nat, 0 + 6 + 86 * n = p9 := ⟨_, rfl⟩
          have hgy54 := up_n egy25 ha1 (ne_o (i := i) (c := 1) (d := 0) rfl)
          have hgy55 := (hfvy27 (i + 1) (ne_o (i := i) (c := 1) (d := 0) rfl)).trans hgy54
          have hgy57 := up_n egy25 ha7 (ne_o (i := i) (c := 7) (d := 0) rfl)
          have hgy58 := (hfvy27 (i + 7) (ne_o (i := i) (c := 7) (d := 0) rfl)).trans hgy57
          have hqy59 : qS r py53 := (((okA.at0 hA).1.1 n (by omega)).of (p2 := py53) (by omega)).q (by have hb9 := mBb (t := r 0 + x) (by omega); omega)
          have hmky60 := hqy59.1
          refine z_cV (As := [.int (zI (0)), .int (zI ((n : Int))), .int (zI (nn)), .int (zI (xy50))]) (rest := []) (ci := 12) C (c_X10_leastRatioBy l D A cs tt N ad _ i hN _ hcvy27 _ hgy55 _ hgy58 0 n py53 hpy53 (by omega) (by omega) hqy59 (nn) (by omega) (xy50) (by omega)) (by omega) hay1 hcvy27 rfl rfl mv_yX10_leastRatioBy q_1764 hd_yX10_leastRatioBy (by decide) (Nat.le_of_ble_eq_true rfl) (by decide) dX10_toLoad_33 rfl (kI0 fun vy56 gvy56 hvy56 => ?_)
          obtain ⟨hvy56, hzvy56, rfl⟩ := hvy56
          refine z_bipush (z := 100) C dX10_toLoad_36 (by decide) ?_
          refine z_icmp_ge (tgt := 43) C dX10_toLoad_38 (by decide) (by omega) (by omega) (fun hby61 => ?_) (fun hby61 => ?_)
          · refine z_iinc (z := nn + 1) (lv' := [(2, .int (zI (nn + 1))), (0, .ref (ad i)), (1, .int (zI ((n : Int))))]) (j := 2) C dX10_toLoad_43 rfl rfl (by decide) rfl ?_
            refine z_goto (tgt := 17) C dX10_toLoad_46 (by decide) ?_
            refine z_lv (lv' := [(0, .ref (ad i)), (1, .int (zI ((n : Int)))), (2, .int (zI (nn + 1)))]) [1, 2, 0] rfl ?_
            exact ih_lp1 _ (by omega) (nn + 1) _ rfl rfl (by omega)
          · refine z_iload_n C 2 dX10_toLoad_41 rfl ?_
            have hFy62 : ∀ f, f ≠ 12 → Fvy27 f = F f := fun f n12 => ((hFvy27 f n12).trans ((uZ_n _ _ n12).trans rfl))
            have hey63 : Fvy27 13 = F 13 := ((hFvy27 13 (by decide)).trans (fn rfl (by decide)))
            have hey64 : Fvy27 14 = F 14 := ((hFvy27 14 (by decide)).trans (fn rfl (by decide)))
            have hey65 : Fvy27 15 = F 15 := ((hFvy27 15 (by decide)).trans (fn rfl (by decide)))
            have hey66 : Fvy27 16 = F 16 := ((hFvy27 16 (by decide)).trans (fn rfl (by decide)))
            have hey67 : Fvy27 17 = F 17 := ((hFvy27 17 (by decide)).trans (fn rfl (by decide)))
            have hey68 : Fvy27 18 = F 18 := ((hFvy27 18 (by decide)).trans (fn rfl (by decide)))
            have hey69 : Fvy27 19 = F 19 := ((hFvy27 19 (by decide)).trans (fn rfl (by decide)))
            have hey70 : Fvy27 20 = F 20 := ((hFvy27 20 (by decide)).trans (fn rfl (by decide)))
            have hey71 : Fvy27 23 = F 23 := ((hFvy27 23 (by decide)).trans (fn rfl (by decide)))
            have hey72 : Fvy27 25 = F 25 := ((hFvy27 25 (by decide)).trans (fn rfl (by decide)))
            have hey73 : Fvy27 27 = F 27 := ((hFvy27 27 (by decide)).trans (fn rfl (by decide)))
            have hey74 : Fvy27 28 = F 28 := ((hFvy27 28 (by decide)).trans (fn rfl (by decide)))
            have hey75 : Fvy27 29 = F 29 := ((hFvy27 29 (by decide)).trans (fn rfl (by decide)))
            have hKy76 : okF Fvy27 := by unfold okF; omega
            have hMy77 : okMr cs ad gvy27 i (x + 1) Fvy27 r := okMr.upd hM hcvy27 hKy76 (fun f a => hFy62 f (by omega)) hgy55 (hA.mono (by omega)) (fun j a b => by
                exact Or.inl (by rw [hfvy27 _ (by omega)]; rw [egy25, va_up_ne _ _ (by omega)]))
            have h23 : Fvy27 23 = F 23 := ((hFvy27 23 (by decide)).trans (fn rfl (by decide)))
            exact z_iret C hr hlk dX10_toLoad_42 (by decide) (by decide) ⟨nn, rfl, rfl, rfl, by omega, ⟨_, _, hMy77, by omega⟩, fun j j1 => by rw [hfvy27 _ (by omega)]; rw [egy25, va_up_ne _ _ (by omega)]⟩
    refine z_lv (lv' := [(0, .ref (ad i)), (1, .int (zI ((n : Int)))), (2, .int (zI (1)))]) [1, 2, 0] rfl ?_
    exact lp1 _ (1) _ rfl rfl (by omega)
  · refine z_if_ne (tgt := 15) C dX10_toLoad_10 (by decide) (by omega) (fun h => absurd h (by omega)) (fun _ => ?_)
    refine z_iconst (z := 0) C dX10_toLoad_13 rfl ?_
    have hgy78 := up_n egy25 ha1 (ne_o (i := i) (c := 1) (d := 0) rfl)
    have hgy79 := (hfvy27 (i + 1) (ne_o (i := i) (c := 1) (d := 0) rfl)).trans hgy78
    have hFy80 : ∀ f, f ≠ 12 → Fvy27 f = F f := fun f n12 => ((hFvy27 f n12).trans ((uZ_n _ _ n12).trans rfl))
    have hey81 : Fvy27 13 = F 13 := ((hFvy27 13 (by decide)).trans (fn rfl (by decide)))
    have hey82 : Fvy27 14 = F 14 := ((hFvy27 14 (by decide)).trans (fn rfl (by decide)))
    have hey83 : Fvy27 15 = F 15 := ((hFvy27 15 (by decide)).trans (fn rfl (by decide)))
    have hey84 : Fvy27 16 = F 16 := ((hFvy27 16 (by decide)).trans (fn rfl (by decide)))
    have hey85 : Fvy27 17 = F 17 := ((hFvy27 17 (by decide)).trans (fn rfl (by decide)))
    have hey86 : Fvy27 18 = F 18 := ((hFvy27 18 (by decide)).trans (fn rfl (by decide)))
    have hey87 : Fvy27 19 = F 19 := ((hFvy27 19 (by decide)).trans (fn rfl (by decide)))
    have hey88 : Fvy27 20 = F 20 := ((hFvy27 20 (by decide)).trans (fn rfl (by decide)))
    have hey89 : Fvy27 23 = F 23 := ((hFvy27 23 (by decide)).trans (fn rfl (by decide)))
    have hey90 : Fvy27 25 = F 25 := ((hFvy27 25 (by decide)).trans (fn rfl (by decide)))
    have hey91 : Fvy27 27 = F 27 := ((hFvy27 27 (by decide)).trans (fn rfl (by decide)))
    have hey92 : Fvy27 28 = F 28 := ((hFvy27 28 (by decide)).trans (fn rfl (by decide)))
    have hey93 : Fvy27 29 = F 29 := ((hFvy27 29 (by decide)).trans (fn rfl (by decide)))
    have hKy94 : okF Fvy27 := by unfold okF; omega
    have hMy95 : okMr cs ad gvy27 i (x + 1) Fvy27 r := okMr.upd hM hcvy27 hKy94 (fun f a => hFy80 f (by omega)) hgy79 (hA.mono (by omega)) (fun j a b => by
        exact Or.inl (by rw [hfvy27 _ (by omega)]; rw [egy25, va_up_ne _ _ (by omega)]))
    have h23 : Fvy27 23 = F 23 := ((hFvy27 23 (by decide)).trans (fn rfl (by decide)))
    exact z_iret C hr hlk dX10_toLoad_14 (by decide) (by decide) ⟨0, rfl, rfl, rfl, by omega, ⟨_, _, hMy95, by omega⟩, fun j j1 => by rw [hfvy27 _ (by omega)]; rw [egy25, va_up_ne _ _ (by omega)]⟩

set_option maxRecDepth 100000 in
set_option maxHeartbeats 4000000 in
theorem c_X10_toLoad_b (l : Launch) (D : va_G) (A : Nat → Prop) (cs : Nat → ClassId) (tt : Nat) (N : Nat) (ad : Nat → Nat) (g : Nat → va_E) (i : Nat) (hN : i + 30 ≤ N) (x : Int) (hx : 0 ≤ x ∧ x ≤ 512) (F r : Nat → Int) (hM : okMr cs ad g i x F r) (z : Int) (hz : -2147483648 ≤ z ∧ z ≤ 2147483647) (hzo : z < 0 ∨ 3 < z) : zM l yX10_toLoad cX10_toLoad 3 (some .int) ({ frames := 9, cells := 0, slots := 0, locals := 540 } : Room) D A cs tt N ad g [.ref (ad i), .int (zI (z))] (rI0 N ad fun q g' => (-2147483648 ≤ q ∧ q ≤ 2147483647) ∧ (∃ F' r' : Nat → Int, okMr cs ad g' i (x + 1) F' r' ∧ F' 23 = F 23) ∧ ∀ j, j < i ∨ i + 30 ≤ j → g' j = g j) := by
  obtain ⟨hg, ⟨⟨e13, e14, e25, e27, e29⟩, k15, k16, k17, k18, k19, k20, k23⟩, hRD, hTx, hA, st, op, ai, fa, mu, tb, ns, nh, nd, rf, pi, tp, te, ki, li, ok1, ok2, fo, dd, dps, ⟨ha1, ha2, ha3, ha4, ha5, ha6, ha7, ha8, ha9, ha10, ha11, ha12, ha13, ha14, ha15, ha24, ha25, ha26, ha27, ha28, ha29⟩, hEv, hPt, hns, htp⟩ := id hM
  obtain ⟨-, hop, hai, hfa, hT, hT1⟩ := id hEv
  have hay1 : zAt ad (i) (ad i) := rfl
  have hay2 : zAt ad (i + 1) (ad (i + 1)) := rfl
  have hay3 : zAt ad (i + 2) (ad (i + 2)) := rfl
  have hay4 : zAt ad (i + 3) (ad (i + 3)) := rfl
  have hay5 : zAt ad (i + 4) (ad (i + 4)) := rfl
  have hay6 : zAt ad (i + 5) (ad (i + 5)) := rfl
  have hay7 : zAt ad (i + 6) (ad (i + 6)) := rfl
  have hay8 : zAt ad (i + 7) (ad (i + 7)) := rfl
  have hay9 : zAt ad (i + 8) (ad (i + 8)) := rfl
  have hay10 : zAt ad (i + 9) (ad (i + 9)) := rfl
  have hay11 : zAt ad (i + 10) (ad (i + 10)) := rfl
  have hay12 : zAt ad (i + 11) (ad (i + 11)) := rfl
  have hay13 : zAt ad (i + 12) (ad (i + 12)) := rfl
  have hay14 : zAt ad (i + 13) (ad (i + 13)) := rfl
  have hay15 : zAt ad (i + 14) (ad (i + 14)) := rfl
  have hay16 : zAt ad (i + 15) (ad (i + 15)) := rfl
  have hay17 : zAt ad (i + 24) (ad (i + 24)) := rfl
  have hay18 : zAt ad (i + 25) (ad (i + 25)) := rfl
  have hay19 : zAt ad (i + 26) (ad (i + 26)) := rfl
  have hay20 : zAt ad (i + 27) (ad (i + 27)) := rfl
  have hay21 : zAt ad (i + 28) (ad (i + 28)) := rfl
  have hay22 : zAt ad (i + 29) (ad (i + 29)) := rfl
  obtain ⟨⟨hsyy23, htyy23, hnyy23, hpyy23⟩, hlyy23⟩ := okA.at0 hA
  simp only [Nat.zero_add] at hsyy23 hnyy23 hpyy23
  have hmn : ∀ s, s < 4 → 0 ≤ r (6 + 86 * s) ∧ r (6 + 86 * s) ≤ 12 := fun s hs => (hsyy23 s hs).1
  have h5 : 0 ≤ r 5 ∧ r 5 ≤ 6 := hpyy23
  refine z_of (by decide) (Nat.le_of_ble_eq_true rfl) ?_
  intro pZ eZ sZ mZ below meth cZ C hr hlk hnm
  refine z_lv (lv' := [(0, .ref (ad i)), (1, .int (zI (z)))]) [0, 1] rfl ?_
  refine z_aload_n C 0 dX10_toLoad_0 rfl ?_
  refine z_iconst (z := 0) C dX10_toLoad_1 rfl ?_
  refine z_put (fs' := mF ad (i) (uZ F 12 (0))) C (by omega) hay1 hg tyX10 tyX10_ok nmX10 rfl inA_X10 12 (by decide) q_1471 rfl rfl rfl rfl (Nat.le_of_ble_eq_true rfl) rfl dX10_toLoad_2 (fun gy24 egy25 => ?_)
  have hgy26 := up_s egy25
  refine z_aload_n C 0 dX10_toLoad_5 rfl ?_
  refine z_iload_n C 1 dX10_toLoad_6 rfl ?_
  have h13vy27 : (uZ F 12 (0)) 13 = F 13 := (fn rfl (by decide))
  have hey28 : (uZ F 12 (0)) 12 = 0 := (uZ_s _ _ _)
  refine z_cV (As := [.int (zI (z))]) (rest := []) (ci := 12) C (c_X10_isSlope l D A cs tt N ad _ i hN _ hgy26 (by omega) (by omega) (z) (by omega)) (by omega) hay1 hgy26 rfl rfl mv_yX10_isSlope q_1803 hd_yX10_isSlope (by decide) (Nat.le_of_ble_eq_true rfl) (by decide) dX10_toLoad_7 rfl (kI0 fun vy27 gvy27 hvy27 => ?_)
  rw [h13vy27] at hvy27
  obtain ⟨hrvy27, ⟨Fvy27, hcvy27, htvy27, hFvy27⟩, hfvy27⟩ := hvy27
  obtain rfl : vy27 = 0 := by omega
  refine z_if_ne (tgt := 15) C dX10_toLoad_10 (by decide) (by omega) (fun h => absurd h (by omega)) (fun _ => ?_)
  refine z_iconst (z := 0) C dX10_toLoad_13 rfl ?_
  have hgy29 := up_n egy25 ha1 (ne_o (i := i) (c := 1) (d := 0) rfl)
  have hgy30 := (hfvy27 (i + 1) (ne_o (i := i) (c := 1) (d := 0) rfl)).trans hgy29
  have hFy31 : ∀ f, f ≠ 12 → Fvy27 f = F f := fun f n12 => ((hFvy27 f n12).trans ((uZ_n _ _ n12).trans rfl))
  have hey32 : Fvy27 13 = F 13 := ((hFvy27 13 (by decide)).trans (fn rfl (by decide)))
  have hey33 : Fvy27 14 = F 14 := ((hFvy27 14 (by decide)).trans (fn rfl (by decide)))
  have hey34 : Fvy27 15 = F 15 := ((hFvy27 15 (by decide)).trans (fn rfl (by decide)))
  have hey35 : Fvy27 16 = F 16 := ((hFvy27 16 (by decide)).trans (fn rfl (by decide)))
  have hey36 : Fvy27 17 = F 17 := ((hFvy27 17 (by decide)).trans (fn rfl (by decide)))
  have hey37 : Fvy27 18 = F 18 := ((hFvy27 18 (by decide)).trans (fn rfl (by decide)))
  have hey38 : Fvy27 19 = F 19 := ((hFvy27 19 (by decide)).trans (fn rfl (by decide)))
  have hey39 : Fvy27 20 = F 20 := ((hFvy27 20 (by decide)).trans (fn rfl (by decide)))
  have hey40 : Fvy27 23 = F 23 := ((hFvy27 23 (by decide)).trans (fn rfl (by decide)))
  have hey41 : Fvy27 25 = F 25 := ((hFvy27 25 (by decide)).trans (fn rfl (by decide)))
  have hey42 : Fvy27 27 = F 27 := ((hFvy27 27 (by decide)).trans (fn rfl (by decide)))
  have hey43 : Fvy27 28 = F 28 := ((hFvy27 28 (by decide)).trans (fn rfl (by decide)))
  have hey44 : Fvy27 29 = F 29 := ((hFvy27 29 (by decide)).trans (fn rfl (by decide)))
  have hKy45 : okF Fvy27 := by unfold okF; omega
  have hMy46 : okMr cs ad gvy27 i (x + 1) Fvy27 r := okMr.upd hM hcvy27 hKy45 (fun f a => hFy31 f (by omega)) hgy30 (hA.mono (by omega)) (fun j a b => by
      exact Or.inl (by rw [hfvy27 _ (by omega)]; rw [egy25, va_up_ne _ _ (by omega)]))
  have h23 : Fvy27 23 = F 23 := ((hFvy27 23 (by decide)).trans (fn rfl (by decide)))
  exact z_iret C hr hlk dX10_toLoad_14 (by decide) (by decide) ⟨0, rfl, rfl, rfl, by omega, ⟨_, _, hMy46, by omega⟩, fun j j1 => by rw [hfvy27 _ (by omega)]; rw [egy25, va_up_ne _ _ (by omega)]⟩

set_option maxRecDepth 100000 in
set_option maxHeartbeats 4000000 in
theorem c_X10_toLoad (l : Launch) (D : va_G) (A : Nat → Prop) (cs : Nat → ClassId) (tt : Nat) (N : Nat) (ad : Nat → Nat) (g : Nat → va_E) (i : Nat) (hN : i + 30 ≤ N) (x : Int) (hx : 0 ≤ x ∧ x ≤ 512) (F r : Nat → Int) (hM : okMr cs ad g i x F r) (z : Int) (hz : -2147483648 ≤ z ∧ z ≤ 2147483647) : zM l yX10_toLoad cX10_toLoad 3 (some .int) ({ frames := 9, cells := 0, slots := 0, locals := 540 } : Room) D A cs tt N ad g [.ref (ad i), .int (zI (z))] (rI0 N ad fun q g' => (-2147483648 ≤ q ∧ q ≤ 2147483647) ∧ (∃ F' r' : Nat → Int, okMr cs ad g' i (x + 1) F' r' ∧ F' 23 = F 23) ∧ ∀ j, j < i ∨ i + 30 ≤ j → g' j = g j) := by
  by_cases h9 : 0 ≤ z ∧ z ≤ 3
  · obtain ⟨n, rfl⟩ : ∃ n : Nat, z = (n : Int) := ⟨z.toNat, by omega⟩
    exact c_X10_toLoad_a l D A cs tt N ad g i hN x hx F r hM n (by omega) 
  · exact c_X10_toLoad_b l D A cs tt N ad g i hN x hx F r hM z hz (by omega) 

set_option maxRecDepth 100000 in
set_option maxHeartbeats 4000000 in
theorem c_X10_steepest_a (l : Launch) (D : va_G) (A : Nat → Prop) (cs : Nat → ClassId) (tt : Nat) (N : Nat) (ad : Nat → Nat) (g : Nat → va_E) (i : Nat) (hN : i + 30 ≤ N) (x : Int) (hx : 0 ≤ x ∧ x ≤ 512) (F r : Nat → Int) (hM : okMr cs ad g i x F r) (n : Nat) (hn4 : n < 4) : zM l yX10_steepest cX10_steepest 3 (some .int) ({ frames := 9, cells := 0, slots := 0, locals := 540 } : Room) D A cs tt N ad g [.ref (ad i), .int (zI ((n : Int)))] (rI0 N ad fun q g' => (-2147483648 ≤ q ∧ q ≤ 2147483647) ∧ (∃ F' r' : Nat → Int, okMr cs ad g' i (x + 1) F' r' ∧ F' 23 = F 23) ∧ ∀ j, j < i ∨ i + 30 ≤ j → g' j = g j) := by
  obtain ⟨hg, ⟨⟨e13, e14, e25, e27, e29⟩, k15, k16, k17, k18, k19, k20, k23⟩, hRD, hTx, hA, st, op, ai, fa, mu, tb, ns, nh, nd, rf, pi, tp, te, ki, li, ok1, ok2, fo, dd, dps, ⟨ha1, ha2, ha3, ha4, ha5, ha6, ha7, ha8, ha9, ha10, ha11, ha12, ha13, ha14, ha15, ha24, ha25, ha26, ha27, ha28, ha29⟩, hEv, hPt, hns, htp⟩ := id hM
  obtain ⟨-, hop, hai, hfa, hT, hT1⟩ := id hEv
  have hay1 : zAt ad (i) (ad i) := rfl
  have hay2 : zAt ad (i + 1) (ad (i + 1)) := rfl
  have hay3 : zAt ad (i + 2) (ad (i + 2)) := rfl
  have hay4 : zAt ad (i + 3) (ad (i + 3)) := rfl
  have hay5 : zAt ad (i + 4) (ad (i + 4)) := rfl
  have hay6 : zAt ad (i + 5) (ad (i + 5)) := rfl
  have hay7 : zAt ad (i + 6) (ad (i + 6)) := rfl
  have hay8 : zAt ad (i + 7) (ad (i + 7)) := rfl
  have hay9 : zAt ad (i + 8) (ad (i + 8)) := rfl
  have hay10 : zAt ad (i + 9) (ad (i + 9)) := rfl
  have hay11 : zAt ad (i + 10) (ad (i + 10)) := rfl
  have hay12 : zAt ad (i + 11) (ad (i + 11)) := rfl
  have hay13 : zAt ad (i + 12) (ad (i + 12)) := rfl
  have hay14 : zAt ad (i + 13) (ad (i + 13)) := rfl
  have hay15 : zAt ad (i + 14) (ad (i + 14)) := rfl
  have hay16 : zAt ad (i + 15) (ad (i + 15)) := rfl
  have hay17 : zAt ad (i + 24) (ad (i + 24)) := rfl
  have hay18 : zAt ad (i + 25) (ad (i + 25)) := rfl
  have hay19 : zAt ad (i + 26) (ad (i + 26)) := rfl
  have hay20 : zAt ad (i + 27) (ad (i + 27)) := rfl
  have hay21 : zAt ad (i + 28) (ad (i + 28)) := rfl
  have hay22 : zAt ad (i + 29) (ad (i + 29)) := rfl
  obtain ⟨⟨hsyy23, htyy23, hnyy23, hpyy23⟩, hlyy23⟩ := okA.at0 hA
  simp only [Nat.zero_add] at hsyy23 hnyy23 hpyy23
  have hmn : ∀ s, s < 4 → 0 ≤ r (6 + 86 * s) ∧ r (6 + 86 * s) ≤ 12 := fun s hs => (hsyy23 s hs).1
  have h5 : 0 ≤ r 5 ∧ r 5 ≤ 6 := hpyy23
  refine z_of (by decide) (Nat.le_of_ble_eq_true rfl) ?_
  intro pZ eZ sZ mZ below meth cZ C hr hlk hnm
  refine z_lv (lv' := [(0, .ref (ad i)), (1, .int (zI ((n : Int))))]) [0, 1] rfl ?_
  refine z_aload_n C 0 dX10_steepest_0 rfl ?_
  refine z_iconst (z := 0) C dX10_steepest_1 rfl ?_
  refine z_put (fs' := mF ad (i) (uZ F 12 (0))) C (by omega) hay1 hg tyX10 tyX10_ok nmX10 rfl inA_X10 12 (by decide) q_1471 rfl rfl rfl rfl (Nat.le_of_ble_eq_true rfl) rfl dX10_steepest_2 (fun gy24 egy25 => ?_)
  have hgy26 := up_s egy25
  refine z_aload_n C 0 dX10_steepest_5 rfl ?_
  refine z_iload_n C 1 dX10_steepest_6 rfl ?_
  have h13vy27 : (uZ F 12 (0)) 13 = F 13 := (fn rfl (by decide))
  have hey28 : (uZ F 12 (0)) 12 = 0 := (uZ_s _ _ _)
  refine z_cV (As := [.int (zI ((n : Int)))]) (rest := []) (ci := 12) C (c_X10_isSlope l D A cs tt N ad _ i hN _ hgy26 (by omega) (by omega) ((n : Int)) (by omega)) (by omega) hay1 hgy26 rfl rfl mv_yX10_isSlope q_1803 hd_yX10_isSlope (by decide) (Nat.le_of_ble_eq_true rfl) (by decide) dX10_steepest_7 rfl (kI0 fun vy27 gvy27 hvy27 => ?_)
  rw [h13vy27] at hvy27
  obtain ⟨hrvy27, ⟨Fvy27, hcvy27, htvy27, hFvy27⟩, hfvy27⟩ := hvy27
  rcases (show vy27 = 1 ∨ vy27 = 0 by omega) with rfl | rfl
  · have hxvy27 := hrvy27.2 rfl
    refine z_if_ne (tgt := 15) C dX10_steepest_10 (by decide) (by omega) (fun _ => ?_) (fun h => absurd h (by omega))
    refine z_bipush (z := 90) C dX10_steepest_15 (by decide) ?_
    refine z_istore_n (lv' := [(2, .int (zI (90))), (0, .ref (ad i)), (1, .int (zI ((n : Int))))]) C dX10_steepest_17 rfl (by decide) rfl ?_
    have lp1 : ∀ (n9 : Nat) (nn : Int) (g1 : Nat → va_E), (nn).toNat = n9 → (gvy27 = g1) → (0 ≤ nn ∧ nn ≤ 90) → zV pZ l eZ ({ frames := 9, cells := 0, slots := 0, locals := 540 } : Room) sZ mZ ([.ref (ad i), .int (zI ((n : Int)))] : List Value).toArray below meth cZ (MQ below (zPost D A (rI0 N ad fun q g' => (-2147483648 ≤ q ∧ q ≤ 2147483647) ∧ (∃ F' r' : Nat → Int, okMr cs ad g' i (x + 1) F' r' ∧ F' 23 = F 23) ∧ ∀ j, j < i ∨ i + 30 ≤ j → g' j = g j)) ([.ref (ad i), .int (zI ((n : Int)))] : List Value).toArray sZ ({ frames := 9, cells := 0, slots := 0, locals := 540 } : Room).cells ({ frames := 9, cells := 0, slots := 0, locals := 540 } : Room).slots A) D A 3 (N) ad g1 (0) (0) 18 [(0, .ref (ad i)), (1, .int (zI ((n : Int)))), (2, .int (zI (nn)))] [] := by
      intro n9
      induction n9 using Nat.strongRecOn with
      | ind n9 ih_lp1 =>
        intro nn g1 hm9 hgz hvlp10
        subst hgz
        refine z_aload_n C 0 dX10_steepest_18 rfl ?_
        refine z_iconst (z := 0) C dX10_steepest_19 rfl ?_
        refine z_iload_n C 1 dX10_steepest_20 rfl ?_
        refine z_iconst (z := 0) C dX10_steepest_21 rfl ?_
        refine z_iload_n C 2 dX10_steepest_22 rfl ?_
        obtain ⟨py29, hpy29⟩ : ∃ p9 : Nat, 0 + 6 + 86 * n = p9 := ⟨_, rfl⟩
        have hgy30 := up_n egy25 ha1 (ne_o (i := i) (c := 1) (d := 0) rfl)
        have hgy31 := (hfvy27 (i + 1) (ne_o (i := i) (c := 1) (d := 0) rfl)).trans hgy30
        have hgy33 := up_n egy25 ha7 (ne_o (i := i) (c := 7) (d := 0) rfl)
        have hgy34 := (hfvy27 (i + 7) (ne_o (i := i) (c := 7) (d := 0) rfl)).trans hgy33
        have hqy35 : qS r py29 := (((okA.at0 hA).1.1 n (by omega)).of (p2 := py29) (by omega)).q (by have hb9 := mBb (t := r 0 + x) (by omega); omega)
        have hmky36 := hqy35.1
        refine z_cV (As := [.int (zI (0)), .int (zI ((n : Int))), .int (zI (0)), .int (zI (nn))]) (rest := []) (ci := 12) C (c_X10_leastRatioBy l D A cs tt N ad _ i hN _ hcvy27 _ hgy31 _ hgy34 0 n py29 hpy29 (by omega) (by omega) hqy35 (0) (by omega) (nn) (by omega)) (by omega) hay1 hcvy27 rfl rfl mv_yX10_leastRatioBy q_1764 hd_yX10_leastRatioBy (by decide) (Nat.le_of_ble_eq_true rfl) (by decide) dX10_steepest_23 rfl (kI0 fun vy32 gvy32 hvy32 => ?_)
        obtain ⟨hvy32, hzvy32, rfl⟩ := hvy32
        refine z_bipush (z := 100) C dX10_steepest_26 (by decide) ?_
        refine z_icmp_ge (tgt := 37) C dX10_steepest_28 (by decide) (by omega) (by omega) (fun hby37 => ?_) (fun hby37 => ?_)
        · refine z_iload_n C 2 dX10_steepest_37 rfl ?_
          have hFy38 : ∀ f, f ≠ 12 → Fvy27 f = F f := fun f n12 => ((hFvy27 f n12).trans ((uZ_n _ _ n12).trans rfl))
          have hey39 : Fvy27 13 = F 13 := ((hFvy27 13 (by decide)).trans (fn rfl (by decide)))
          have hey40 : Fvy27 14 = F 14 := ((hFvy27 14 (by decide)).trans (fn rfl (by decide)))
          have hey41 : Fvy27 15 = F 15 := ((hFvy27 15 (by decide)).trans (fn rfl (by decide)))
          have hey42 : Fvy27 16 = F 16 := ((hFvy27 16 (by decide)).trans (fn rfl (by decide)))
          have hey43 : Fvy27 17 = F 17 := ((hFvy27 17 (by decide)).trans (fn rfl (by decide)))
          have hey44 : Fvy27 18 = F 18 := ((hFvy27 18 (by decide)).trans (fn rfl (by decide)))
          have hey45 : Fvy27 19 = F 19 := ((hFvy27 19 (by decide)).trans (fn rfl (by decide)))
          have hey46 : Fvy27 20 = F 20 := ((hFvy27 20 (by decide)).trans (fn rfl (by decide)))
          have hey47 : Fvy27 23 = F 23 := ((hFvy27 23 (by decide)).trans (fn rfl (by decide)))
          have hey48 : Fvy27 25 = F 25 := ((hFvy27 25 (by decide)).trans (fn rfl (by decide)))
          have hey49 : Fvy27 27 = F 27 := ((hFvy27 27 (by decide)).trans (fn rfl (by decide)))
          have hey50 : Fvy27 28 = F 28 := ((hFvy27 28 (by decide)).trans (fn rfl (by decide)))
          have hey51 : Fvy27 29 = F 29 := ((hFvy27 29 (by decide)).trans (fn rfl (by decide)))
          have hKy52 : okF Fvy27 := by unfold okF; omega
          have hMy53 : okMr cs ad gvy27 i (x + 1) Fvy27 r := okMr.upd hM hcvy27 hKy52 (fun f a => hFy38 f (by omega)) hgy31 (hA.mono (by omega)) (fun j a b => by
              exact Or.inl (by rw [hfvy27 _ (by omega)]; rw [egy25, va_up_ne _ _ (by omega)]))
          have h23 : Fvy27 23 = F 23 := ((hFvy27 23 (by decide)).trans (fn rfl (by decide)))
          exact z_iret C hr hlk dX10_steepest_38 (by decide) (by decide) ⟨nn, rfl, rfl, rfl, by omega, ⟨_, _, hMy53, by omega⟩, fun j j1 => by rw [hfvy27 _ (by omega)]; rw [egy25, va_up_ne _ _ (by omega)]⟩
        · refine z_iinc (z := nn - 1) (lv' := [(2, .int (zI (nn - 1))), (0, .ref (ad i)), (1, .int (zI ((n : Int))))]) (j := 2) C dX10_steepest_31 rfl (congrArg zI (by omega)) (by decide) rfl ?_
          refine z_goto (tgt := 18) C dX10_steepest_34 (by decide) ?_
          refine z_lv (lv' := [(0, .ref (ad i)), (1, .int (zI ((n : Int)))), (2, .int (zI (nn - 1)))]) [1, 2, 0] rfl ?_
          exact ih_lp1 _ (by omega) (nn - 1) _ rfl rfl (by omega)
    refine z_lv (lv' := [(0, .ref (ad i)), (1, .int (zI ((n : Int)))), (2, .int (zI (90)))]) [1, 2, 0] rfl ?_
    exact lp1 _ (90) _ rfl rfl (by omega)
  · refine z_if_ne (tgt := 15) C dX10_steepest_10 (by decide) (by omega) (fun h => absurd h (by omega)) (fun _ => ?_)
    refine z_iconst (z := 0) C dX10_steepest_13 rfl ?_
    have hgy54 := up_n egy25 ha1 (ne_o (i := i) (c := 1) (d := 0) rfl)
    have hgy55 := (hfvy27 (i + 1) (ne_o (i := i) (c := 1) (d := 0) rfl)).trans hgy54
    have hFy56 : ∀ f, f ≠ 12 → Fvy27 f = F f := fun f n12 => ((hFvy27 f n12).trans ((uZ_n _ _ n12).trans rfl))
    have hey57 : Fvy27 13 = F 13 := ((hFvy27 13 (by decide)).trans (fn rfl (by decide)))
    have hey58 : Fvy27 14 = F 14 := ((hFvy27 14 (by decide)).trans (fn rfl (by decide)))
    have hey59 : Fvy27 15 = F 15 := ((hFvy27 15 (by decide)).trans (fn rfl (by decide)))
    have hey60 : Fvy27 16 = F 16 := ((hFvy27 16 (by decide)).trans (fn rfl (by decide)))
    have hey61 : Fvy27 17 = F 17 := ((hFvy27 17 (by decide)).trans (fn rfl (by decide)))
    have hey62 : Fvy27 18 = F 18 := ((hFvy27 18 (by decide)).trans (fn rfl (by decide)))
    have hey63 : Fvy27 19 = F 19 := ((hFvy27 19 (by decide)).trans (fn rfl (by decide)))
    have hey64 : Fvy27 20 = F 20 := ((hFvy27 20 (by decide)).trans (fn rfl (by decide)))
    have hey65 : Fvy27 23 = F 23 := ((hFvy27 23 (by decide)).trans (fn rfl (by decide)))
    have hey66 : Fvy27 25 = F 25 := ((hFvy27 25 (by decide)).trans (fn rfl (by decide)))
    have hey67 : Fvy27 27 = F 27 := ((hFvy27 27 (by decide)).trans (fn rfl (by decide)))
    have hey68 : Fvy27 28 = F 28 := ((hFvy27 28 (by decide)).trans (fn rfl (by decide)))
    have hey69 : Fvy27 29 = F 29 := ((hFvy27 29 (by decide)).trans (fn rfl (by decide)))
    have hKy70 : okF Fvy27 := by unfold okF; omega
    have hMy71 : okMr cs ad gvy27 i (x + 1) Fvy27 r := okMr.upd hM hcvy27 hKy70 (fun f a => hFy56 f (by omega)) hgy55 (hA.mono (by omega)) (fun j a b => by
        exact Or.inl (by rw [hfvy27 _ (by omega)]; rw [egy25, va_up_ne _ _ (by omega)]))
    have h23 : Fvy27 23 = F 23 := ((hFvy27 23 (by decide)).trans (fn rfl (by decide)))
    exact z_iret C hr hlk dX10_steepest_14 (by decide) (by decide) ⟨0, rfl, rfl, rfl, by omega, ⟨_, _, hMy71, by omega⟩, fun j j1 => by rw [hfvy27 _ (by omega)]; rw [egy25, va_up_ne _ _ (by omega)]⟩

set_option maxRecDepth 100000 in
set_option maxHeartbeats 4000000 in
theorem c_X10_steepest_b (l : Launch) (D : va_G) (A : Nat → Prop) (cs : Nat → ClassId) (tt : Nat) (N : Nat) (ad : Nat → Nat) (g : Nat → va_E) (i : Nat) (hN : i + 30 ≤ N) (x : Int) (hx : 0 ≤ x ∧ x ≤ 512) (F r : Nat → Int) (hM : okMr cs ad g i x F r) (z : Int) (hz : -2147483648 ≤ z ∧ z ≤ 2147483647) (hzo : z < 0 ∨ 3 < z) : zM l yX10_steepest cX10_steepest 3 (some .int) ({ frames := 9, cells := 0, slots := 0, locals := 540 } : Room) D A cs tt N ad g [.ref (ad i), .int (zI (z))] (rI0 N ad fun q g' => (-2147483648 ≤ q ∧ q ≤ 2147483647) ∧ (∃ F' r' : Nat → Int, okMr cs ad g' i (x + 1) F' r' ∧ F' 23 = F 23) ∧ ∀ j, j < i ∨ i + 30 ≤ j → g' j = g j) := by
  obtain ⟨hg, ⟨⟨e13, e14, e25, e27, e29⟩, k15, k16, k17, k18, k19, k20, k23⟩, hRD, hTx, hA, st, op, ai, fa, mu, tb, ns, nh, nd, rf, pi, tp, te, ki, li, ok1, ok2, fo, dd, dps, ⟨ha1, ha2, ha3, ha4, ha5, ha6, ha7, ha8, ha9, ha10, ha11, ha12, ha13, ha14, ha15, ha24, ha25, ha26, ha27, ha28, ha29⟩, hEv, hPt, hns, htp⟩ := id hM
  obtain ⟨-, hop, hai, hfa, hT, hT1⟩ := id hEv
  have hay1 : zAt ad (i) (ad i) := rfl
  have hay2 : zAt ad (i + 1) (ad (i + 1)) := rfl
  have hay3 : zAt ad (i + 2) (ad (i + 2)) := rfl
  have hay4 : zAt ad (i + 3) (ad (i + 3)) := rfl
  have hay5 : zAt ad (i + 4) (ad (i + 4)) := rfl
  have hay6 : zAt ad (i + 5) (ad (i + 5)) := rfl
  have hay7 : zAt ad (i + 6) (ad (i + 6)) := rfl
  have hay8 : zAt ad (i + 7) (ad (i + 7)) := rfl
  have hay9 : zAt ad (i + 8) (ad (i + 8)) := rfl
  have hay10 : zAt ad (i + 9) (ad (i + 9)) := rfl
  have hay11 : zAt ad (i + 10) (ad (i + 10)) := rfl
  have hay12 : zAt ad (i + 11) (ad (i + 11)) := rfl
  have hay13 : zAt ad (i + 12) (ad (i + 12)) := rfl
  have hay14 : zAt ad (i + 13) (ad (i + 13)) := rfl
  have hay15 : zAt ad (i + 14) (ad (i + 14)) := rfl
  have hay16 : zAt ad (i + 15) (ad (i + 15)) := rfl
  have hay17 : zAt ad (i + 24) (ad (i + 24)) := rfl
  have hay18 : zAt ad (i + 25) (ad (i + 25)) := rfl
  have hay19 : zAt ad (i + 26) (ad (i + 26)) := rfl
  have hay20 : zAt ad (i + 27) (ad (i + 27)) := rfl
  have hay21 : zAt ad (i + 28) (ad (i + 28)) := rfl
  have hay22 : zAt ad (i + 29) (ad (i + 29)) := rfl
  obtain ⟨⟨hsyy23, htyy23, hnyy23, hpyy23⟩, hlyy23⟩ := okA.at0 hA
  simp only [Nat.zero_add] at hsyy23 hnyy23 hpyy23
  have hmn : ∀ s, s < 4 → 0 ≤ r (6 + 86 * s) ∧ r (6 + 86 * s) ≤ 12 := fun s hs => (hsyy23 s hs).1
  have h5 : 0 ≤ r 5 ∧ r 5 ≤ 6 := hpyy23
  refine z_of (by decide) (Nat.le_of_ble_eq_true rfl) ?_
  intro pZ eZ sZ mZ below meth cZ C hr hlk hnm
  refine z_lv (lv' := [(0, .ref (ad i)), (1, .int (zI (z)))]) [0, 1] rfl ?_
  refine z_aload_n C 0 dX10_steepest_0 rfl ?_
  refine z_iconst (z := 0) C dX10_steepest_1 rfl ?_
  refine z_put (fs' := mF ad (i) (uZ F 12 (0))) C (by omega) hay1 hg tyX10 tyX10_ok nmX10 rfl inA_X10 12 (by decide) q_1471 rfl rfl rfl rfl (Nat.le_of_ble_eq_true rfl) rfl dX10_steepest_2 (fun gy24 egy25 => ?_)
  have hgy26 := up_s egy25
  refine z_aload_n C 0 dX10_steepest_5 rfl ?_
  refine z_iload_n C 1 dX10_steepest_6 rfl ?_
  have h13vy27 : (uZ F 12 (0)) 13 = F 13 := (fn rfl (by decide))
  have hey28 : (uZ F 12 (0)) 12 = 0 := (uZ_s _ _ _)
  refine z_cV (As := [.int (zI (z))]) (rest := []) (ci := 12) C (c_X10_isSlope l D A cs tt N ad _ i hN _ hgy26 (by omega) (by omega) (z) (by omega)) (by omega) hay1 hgy26 rfl rfl mv_yX10_isSlope q_1803 hd_yX10_isSlope (by decide) (Nat.le_of_ble_eq_true rfl) (by decide) dX10_steepest_7 rfl (kI0 fun vy27 gvy27 hvy27 => ?_)
  rw [h13vy27] at hvy27
  obtain ⟨hrvy27, ⟨Fvy27, hcvy27, htvy27, hFvy27⟩, hfvy27⟩ := hvy27
  obtain rfl : vy27 = 0 := by omega
  refine z_if_ne (tgt := 15) C dX10_steepest_10 (by decide) (by omega) (fun h => absurd h (by omega)) (fun _ => ?_)
  refine z_iconst (z := 0) C dX10_steepest_13 rfl ?_
  have hgy29 := up_n egy25 ha1 (ne_o (i := i) (c := 1) (d := 0) rfl)
  have hgy30 := (hfvy27 (i + 1) (ne_o (i := i) (c := 1) (d := 0) rfl)).trans hgy29
  have hFy31 : ∀ f, f ≠ 12 → Fvy27 f = F f := fun f n12 => ((hFvy27 f n12).trans ((uZ_n _ _ n12).trans rfl))
  have hey32 : Fvy27 13 = F 13 := ((hFvy27 13 (by decide)).trans (fn rfl (by decide)))
  have hey33 : Fvy27 14 = F 14 := ((hFvy27 14 (by decide)).trans (fn rfl (by decide)))
  have hey34 : Fvy27 15 = F 15 := ((hFvy27 15 (by decide)).trans (fn rfl (by decide)))
  have hey35 : Fvy27 16 = F 16 := ((hFvy27 16 (by decide)).trans (fn rfl (by decide)))
  have hey36 : Fvy27 17 = F 17 := ((hFvy27 17 (by decide)).trans (fn rfl (by decide)))
  have hey37 : Fvy27 18 = F 18 := ((hFvy27 18 (by decide)).trans (fn rfl (by decide)))
  have hey38 : Fvy27 19 = F 19 := ((hFvy27 19 (by decide)).trans (fn rfl (by decide)))
  have hey39 : Fvy27 20 = F 20 := ((hFvy27 20 (by decide)).trans (fn rfl (by decide)))
  have hey40 : Fvy27 23 = F 23 := ((hFvy27 23 (by decide)).trans (fn rfl (by decide)))
  have hey41 : Fvy27 25 = F 25 := ((hFvy27 25 (by decide)).trans (fn rfl (by decide)))
  have hey42 : Fvy27 27 = F 27 := ((hFvy27 27 (by decide)).trans (fn rfl (by decide)))
  have hey43 : Fvy27 28 = F 28 := ((hFvy27 28 (by decide)).trans (fn rfl (by decide)))
  have hey44 : Fvy27 29 = F 29 := ((hFvy27 29 (by decide)).trans (fn rfl (by decide)))
  have hKy45 : okF Fvy27 := by unfold okF; omega
  have hMy46 : okMr cs ad gvy27 i (x + 1) Fvy27 r := okMr.upd hM hcvy27 hKy45 (fun f a => hFy31 f (by omega)) hgy30 (hA.mono (by omega)) (fun j a b => by
      exact Or.inl (by rw [hfvy27 _ (by omega)]; rw [egy25, va_up_ne _ _ (by omega)]))
  have h23 : Fvy27 23 = F 23 := ((hFvy27 23 (by decide)).trans (fn rfl (by decide)))
  exact z_iret C hr hlk dX10_steepest_14 (by decide) (by decide) ⟨0, rfl, rfl, rfl, by omega, ⟨_, _, hMy46, by omega⟩, fun j j1 => by rw [hfvy27 _ (by omega)]; rw [egy25, va_up_ne _ _ (by omega)]⟩

set_option maxRecDepth 100000 in
set_option maxHeartbeats 4000000 in
theorem c_X10_steepest (l : Launch) (D : va_G) (A : Nat → Prop) (cs : Nat → ClassId) (tt : Nat) (N : Nat) (ad : Nat → Nat) (g : Nat → va_E) (i : Nat) (hN : i + 30 ≤ N) (x : Int) (hx : 0 ≤ x ∧ x ≤ 512) (F r : Nat → Int) (hM : okMr cs ad g i x F r) (z : Int) (hz : -2147483648 ≤ z ∧ z ≤ 2147483647) : zM l yX10_steepest cX10_steepest 3 (some .int) ({ frames := 9, cells := 0, slots := 0, locals := 540 } : Room) D A cs tt N ad g [.ref (ad i), .int (zI (z))] (rI0 N ad fun q g' => (-2147483648 ≤ q ∧ q ≤ 2147483647) ∧ (∃ F' r' : Nat → Int, okMr cs ad g' i (x + 1) F' r' ∧ F' 23 = F 23) ∧ ∀ j, j < i ∨ i + 30 ≤ j → g' j = g j) := by
  by_cases h9 : 0 ≤ z ∧ z ≤ 3
  · obtain ⟨n, rfl⟩ : ∃ n : Nat, z = (n : Int) := ⟨z.toNat, by omega⟩
    exact c_X10_steepest_a l D A cs tt N ad g i hN x hx F r hM n (by omega) 
  · exact c_X10_steepest_b l D A cs tt N ad g i hN x hx F r hM z hz (by omega) 

set_option maxRecDepth 100000 in
set_option maxHeartbeats 4000000 in
theorem c_X10_hours (l : Launch) (D : va_G) (A : Nat → Prop) (cs : Nat → ClassId) (tt : Nat) (N : Nat) (ad : Nat → Nat) (g : Nat → va_E) (i : Nat) (hN : i + 30 ≤ N) (x : Int) (hx : 0 ≤ x ∧ x ≤ 512) (F r : Nat → Int) (hM : okMr cs ad g i x F r) (z : Int) (hz : -2147483648 ≤ z ∧ z ≤ 2147483647) : zM l yX10_hours cX10_hours 2 (some .int) ({ frames := 10, cells := 0, slots := 0, locals := 600 } : Room) D A cs tt N ad g [.ref (ad i), .int (zI (z))] (rI0 N ad fun q g' => (-2147483648 ≤ q ∧ q ≤ 2147483647) ∧ (∃ F' r' : Nat → Int, okMr cs ad g' i (x + 1) F' r' ∧ F' 23 = F 23) ∧ ∀ j, j < i ∨ i + 30 ≤ j → g' j = g j) := by
  obtain ⟨hg, ⟨⟨e13, e14, e25, e27, e29⟩, k15, k16, k17, k18, k19, k20, k23⟩, hRD, hTx, hA, st, op, ai, fa, mu, tb, ns, nh, nd, rf, pi, tp, te, ki, li, ok1, ok2, fo, dd, dps, ⟨ha1, ha2, ha3, ha4, ha5, ha6, ha7, ha8, ha9, ha10, ha11, ha12, ha13, ha14, ha15, ha24, ha25, ha26, ha27, ha28, ha29⟩, hEv, hPt, hns, htp⟩ := id hM
  obtain ⟨-, hop, hai, hfa, hT, hT1⟩ := id hEv
  have hay1 : zAt ad (i) (ad i) := rfl
  have hay2 : zAt ad (i + 1) (ad (i + 1)) := rfl
  have hay3 : zAt ad (i + 2) (ad (i + 2)) := rfl
  have hay4 : zAt ad (i + 3) (ad (i + 3)) := rfl
  have hay5 : zAt ad (i + 4) (ad (i + 4)) := rfl
  have hay6 : zAt ad (i + 5) (ad (i + 5)) := rfl
  have hay7 : zAt ad (i + 6) (ad (i + 6)) := rfl
  have hay8 : zAt ad (i + 7) (ad (i + 7)) := rfl
  have hay9 : zAt ad (i + 8) (ad (i + 8)) := rfl
  have hay10 : zAt ad (i + 9) (ad (i + 9)) := rfl
  have hay11 : zAt ad (i + 10) (ad (i + 10)) := rfl
  have hay12 : zAt ad (i + 11) (ad (i + 11)) := rfl
  have hay13 : zAt ad (i + 12) (ad (i + 12)) := rfl
  have hay14 : zAt ad (i + 13) (ad (i + 13)) := rfl
  have hay15 : zAt ad (i + 14) (ad (i + 14)) := rfl
  have hay16 : zAt ad (i + 15) (ad (i + 15)) := rfl
  have hay17 : zAt ad (i + 24) (ad (i + 24)) := rfl
  have hay18 : zAt ad (i + 25) (ad (i + 25)) := rfl
  have hay19 : zAt ad (i + 26) (ad (i + 26)) := rfl
  have hay20 : zAt ad (i + 27) (ad (i + 27)) := rfl
  have hay21 : zAt ad (i + 28) (ad (i + 28)) := rfl
  have hay22 : zAt ad (i + 29) (ad (i + 29)) := rfl
  obtain ⟨⟨hsyy23, htyy23, hnyy23, hpyy23⟩, hlyy23⟩ := okA.at0 hA
  simp only [Nat.zero_add] at hsyy23 hnyy23 hpyy23
  have hmn : ∀ s, s < 4 → 0 ≤ r (6 + 86 * s) ∧ r (6 + 86 * s) ≤ 12 := fun s hs => (hsyy23 s hs).1
  have h5 : 0 ≤ r 5 ∧ r 5 ≤ 6 := hpyy23
  refine z_of (by decide) (Nat.le_of_ble_eq_true rfl) ?_
  intro pZ eZ sZ mZ below meth cZ C hr hlk hnm
  refine z_lv (lv' := [(0, .ref (ad i)), (1, .int (zI (z)))]) [0, 1] rfl ?_
  refine z_aload_n C 0 dX10_hours_0 rfl ?_
  refine z_iconst (z := 0) C dX10_hours_1 rfl ?_
  refine z_put (fs' := mF ad (i) (uZ F 12 (0))) C (by omega) hay1 hg tyX10 tyX10_ok nmX10 rfl inA_X10 12 (by decide) q_1471 rfl rfl rfl rfl (Nat.le_of_ble_eq_true rfl) rfl dX10_hours_2 (fun gy24 egy25 => ?_)
  have hgy26 := up_s egy25
  refine z_iload_n C 1 dX10_hours_5 rfl ?_
  refine z_iconst (z := 1) C dX10_hours_6 rfl ?_
  refine z_bipush (z := 24) C dX10_hours_7 (by decide) ?_
  refine z_cS (As := [.int (zI (z)), .int (zI (1)), .int (zI (24))]) (rest := []) C (c_X10_within l D A cs tt N ad _ (z) (by omega) (1) (by omega) (24) (by omega)) ms_yX10_within q_1686 hd_yX10_within (by decide) (Nat.le_of_ble_eq_true rfl) (by decide) dX10_hours_9 rfl (kI0 fun vy27 gvy27 hvy27 => ?_)
  obtain ⟨hvy27, rfl⟩ := hvy27
  rcases hvy27 with ⟨rfl, hxvy27⟩ | ⟨rfl, hxvy27⟩
  · refine z_if_eq (tgt := 29) C dX10_hours_12 (by decide) (by omega) (fun h => absurd h (by omega)) (fun _ => ?_)
    refine z_aload_n C 0 dX10_hours_15 rfl ?_
    refine z_get (v := .ref (ad (i + 1))) C (by omega) hay1 hgy26 rfl inA_X10 0 (by decide) q_1459 rfl rfl dX10_hours_16 ?_
    refine z_iconst (z := 0) C dX10_hours_19 rfl ?_
    have hgy28 := up_n egy25 ha1 (ne_o (i := i) (c := 1) (d := 0) rfl)
    refine z_iald C (by omega) hay2 hgy28 (0) (by omega) (by omega) (by decide) dX10_hours_20 ?_
    refine z_iload_n C 1 dX10_hours_21 rfl ?_
    refine z_iadd C dX10_hours_22 ?_
    refine z_sipush (z := 2000) C dX10_hours_23 (by decide) ?_
    obtain ⟨xy29, exy30, hxy31⟩ := zI_of (zI ((r (0)) + z))
    rw [exy30]
    refine z_icmp_le (tgt := 35) C dX10_hours_26 (by decide) (by omega) (by omega) (fun hby32 => ?_) (fun hby32 => ?_)
    · refine z_aload_n C 0 dX10_hours_35 rfl ?_
      have hey34 : (uZ F 12 (0)) 15 = F 15 := (fn rfl (by decide))
      have hey35 : (uZ F 12 (0)) 16 = F 16 := (fn rfl (by decide))
      refine z_cV (As := []) (rest := []) (ci := 12) C (c_X10_keeps l D A cs tt N ad _ i hN _ hgy26 _ hgy28 (x) hA (by omega) (by omega)) (by omega) hay1 hgy26 rfl rfl mv_yX10_keeps q_1870 hd_yX10_keeps (by decide) (Nat.le_of_ble_eq_true rfl) (by decide) dX10_hours_36 rfl (kV0 fun gvy33 hvy33 => ?_)
      obtain ⟨⟨Fvy33, hcvy33, hbvy33, hFvy33⟩, ⟨rvy33, hdvy33, hAvy33, hyvy33⟩, hfvy33⟩ := hvy33
      have hk0vy33 : rvy33 0 = r 0 := hyvy33 0 (by omega)
      have hk1vy33 : rvy33 1 = r 1 := hyvy33 1 (by omega)
      have hk5vy33 : rvy33 5 = r 5 := hyvy33 5 (by omega)
      obtain ⟨⟨hsyy36, htyy36, hnyy36, hpyy36⟩, hlyy36⟩ := okA.at0 hAvy33
      simp only [Nat.zero_add] at hsyy36 hnyy36 hpyy36
      have hmn : ∀ s, s < 4 → 0 ≤ rvy33 (6 + 86 * s) ∧ rvy33 (6 + 86 * s) ≤ 12 := fun s hs => (hsyy36 s hs).1
      have h5 : 0 ≤ rvy33 5 ∧ rvy33 5 ≤ 6 := hpyy36
      refine z_aload_n C 0 dX10_hours_39 rfl ?_
      refine z_iconst (z := 0) C dX10_hours_40 rfl ?_
      refine z_iload_n C 1 dX10_hours_41 rfl ?_
      have hey38 : Fvy33 13 = F 13 := ((hFvy33 13 (by decide) (by decide)).trans (fn rfl (by decide)))
      have hey39 : Fvy33 14 = F 14 := ((hFvy33 14 (by decide) (by decide)).trans (fn rfl (by decide)))
      have hey40 : Fvy33 25 = F 25 := ((hFvy33 25 (by decide) (by decide)).trans (fn rfl (by decide)))
      have hey41 : Fvy33 27 = F 27 := ((hFvy33 27 (by decide) (by decide)).trans (fn rfl (by decide)))
      have hey42 : Fvy33 28 = F 28 := ((hFvy33 28 (by decide) (by decide)).trans (fn rfl (by decide)))
      have hey43 : Fvy33 29 = F 29 := ((hFvy33 29 (by decide) (by decide)).trans (fn rfl (by decide)))
      have hEvy37 : okEnv Fvy33 _ _ _ _ _ := ⟨by omega, hop, hai, hfa, hT, hT1⟩
      have hgy45 := up_n egy25 ha3 (ne_o (i := i) (c := 3) (d := 0) rfl)
      have hgy46 := (hfvy33 (i + 3) (ne_o (i := i) (c := 3) (d := 0) rfl) (ne_o (i := i) (c := 3) (d := 1) rfl)).trans hgy45
      have hgy47 := up_n egy25 ha4 (ne_o (i := i) (c := 4) (d := 0) rfl)
      have hgy48 := (hfvy33 (i + 4) (ne_o (i := i) (c := 4) (d := 0) rfl) (ne_o (i := i) (c := 4) (d := 1) rfl)).trans hgy47
      have hgy49 := up_n egy25 ha5 (ne_o (i := i) (c := 5) (d := 0) rfl)
      have hgy50 := (hfvy33 (i + 5) (ne_o (i := i) (c := 5) (d := 0) rfl) (ne_o (i := i) (c := 5) (d := 1) rfl)).trans hgy49
      have hgy51 := up_n egy25 ha6 (ne_o (i := i) (c := 6) (d := 0) rfl)
      have hgy52 := (hfvy33 (i + 6) (ne_o (i := i) (c := 6) (d := 0) rfl) (ne_o (i := i) (c := 6) (d := 1) rfl)).trans hgy51
      have hgy53 := up_n egy25 ha7 (ne_o (i := i) (c := 7) (d := 0) rfl)
      have hgy54 := (hfvy33 (i + 7) (ne_o (i := i) (c := 7) (d := 0) rfl) (ne_o (i := i) (c := 7) (d := 1) rfl)).trans hgy53
      have hgy55 := up_n egy25 ha14 (ne_o (i := i) (c := 14) (d := 0) rfl)
      have hgy56 := (hfvy33 (i + 14) (ne_o (i := i) (c := 14) (d := 0) rfl) (ne_o (i := i) (c := 14) (d := 1) rfl)).trans hgy55
      have hgy57 := up_n egy25 ha15 (ne_o (i := i) (c := 15) (d := 0) rfl)
      have hgy58 := (hfvy33 (i + 15) (ne_o (i := i) (c := 15) (d := 0) rfl) (ne_o (i := i) (c := 15) (d := 1) rfl)).trans hgy57
      refine z_cV (As := [.int (zI (0)), .int (zI (z))]) (rest := []) (ci := 12) C (c_X10_goes l D A cs tt N ad _ i hN _ hcvy33 _ hdvy33 _ hgy46 _ hgy48 _ hgy50 _ hgy52 _ hgy54 _ hgy56 _ hgy58 0 (by omega) hEvy37 (x) (by omega) (okA.at0 hAvy33).1 (z) (by omega) (by omega) (by omega)) (by omega) hay1 hcvy33 rfl rfl mv_yX10_goes q_1881 hd_yX10_goes (by decide) (Nat.le_of_ble_eq_true rfl) (by decide) dX10_hours_42 rfl (kV0 fun gvy44 hvy44 => ?_)
      obtain ⟨⟨rvy44, hcvy44, hwvy44, htvy44, hyvy44⟩, ⟨t4vy44, h4vy44⟩, ⟨t5vy44, h5vy44⟩, hfvy44⟩ := hvy44
      have hAy59 : okA rvy44 (x) := okA.first hAvy33 (Int.le_refl _) (fun j a => hyvy44 j (by omega)) hwvy44 (by omega)
      obtain ⟨⟨hsyy60, htyy60, hnyy60, hpyy60⟩, hlyy60⟩ := okA.at0 hAy59
      simp only [Nat.zero_add] at hsyy60 hnyy60 hpyy60
      have hmn : ∀ s, s < 4 → 0 ≤ rvy44 (6 + 86 * s) ∧ rvy44 (6 + 86 * s) ≤ 12 := fun s hs => (hsyy60 s hs).1
      have h5 : 0 ≤ rvy44 5 ∧ rvy44 5 ≤ 6 := hpyy60
      refine z_aload_n C 0 dX10_hours_45 rfl ?_
      have hgy61 := (hfvy44 (i) (ne_o (i := i) (c := 0) (d := 1) rfl) (ne_o (i := i) (c := 0) (d := 14) rfl) (ne_o (i := i) (c := 0) (d := 15) rfl)).trans hcvy33
      refine z_get (v := .ref (ad (i + 1))) C (by omega) hay1 hgy61 rfl inA_X10 0 (by decide) q_1459 rfl rfl dX10_hours_46 ?_
      refine z_iconst (z := 0) C dX10_hours_49 rfl ?_
      refine z_iald C (by omega) hay2 hcvy44 (0) (by omega) (by omega) (by decide) dX10_hours_50 ?_
      have hFy62 : ∀ f, f ≠ 12 → f ≠ 15 → f ≠ 16 → Fvy33 f = F f := fun f n12 n15 n16 => ((hFvy33 f n15 n16).trans ((uZ_n _ _ n12).trans rfl))
      have hey63 : Fvy33 13 = F 13 := ((hFvy33 13 (by decide) (by decide)).trans (fn rfl (by decide)))
      have hey64 : Fvy33 14 = F 14 := ((hFvy33 14 (by decide) (by decide)).trans (fn rfl (by decide)))
      have hey65 : Fvy33 15 = Fvy33 15 := rfl
      have hey66 : Fvy33 16 = Fvy33 16 := rfl
      have hey67 : Fvy33 17 = F 17 := ((hFvy33 17 (by decide) (by decide)).trans (fn rfl (by decide)))
      have hey68 : Fvy33 18 = F 18 := ((hFvy33 18 (by decide) (by decide)).trans (fn rfl (by decide)))
      have hey69 : Fvy33 19 = F 19 := ((hFvy33 19 (by decide) (by decide)).trans (fn rfl (by decide)))
      have hey70 : Fvy33 20 = F 20 := ((hFvy33 20 (by decide) (by decide)).trans (fn rfl (by decide)))
      have hey71 : Fvy33 23 = F 23 := ((hFvy33 23 (by decide) (by decide)).trans (fn rfl (by decide)))
      have hey72 : Fvy33 25 = F 25 := ((hFvy33 25 (by decide) (by decide)).trans (fn rfl (by decide)))
      have hey73 : Fvy33 27 = F 27 := ((hFvy33 27 (by decide) (by decide)).trans (fn rfl (by decide)))
      have hey74 : Fvy33 28 = F 28 := ((hFvy33 28 (by decide) (by decide)).trans (fn rfl (by decide)))
      have hey75 : Fvy33 29 = F 29 := ((hFvy33 29 (by decide) (by decide)).trans (fn rfl (by decide)))
      have hKy76 : okF Fvy33 := by unfold okF; omega
      have hMy77 : okMr cs ad gvy44 i (x + 1) Fvy33 rvy44 := okMr.upd hM hgy61 hKy76 (fun f a => hFy62 f (by omega) (by omega) (by omega)) hcvy44 (hAy59.mono (by omega)) (fun j a b => by
          by_cases e0 : j = i + 14
          · exact Or.inr ⟨14, _, e0, lsP.l (by decide), by rw [e0]; exact h4vy44⟩
          by_cases e1 : j = i + 15
          · exact Or.inr ⟨15, _, e1, lsP.l (by decide), by rw [e1]; exact h5vy44⟩
          exact Or.inl (by rw [hfvy44 _ (by omega) (by omega) (by omega)]; rw [hfvy33 _ (by omega) (by omega)]; rw [egy25, va_up_ne _ _ (by omega)]))
      have h23 : Fvy33 23 = F 23 := ((hFvy33 23 (by decide) (by decide)).trans (fn rfl (by decide)))
      exact z_iret C hr hlk dX10_hours_51 (by decide) (by decide) ⟨rvy44 (0), rfl, rfl, rfl, by omega, ⟨_, _, hMy77, by omega⟩, fun j j1 => by rw [hfvy44 _ (by omega) (by omega) (by omega)]; rw [hfvy33 _ (by omega) (by omega)]; rw [egy25, va_up_ne _ _ (by omega)]⟩
    · refine z_aload_n C 0 dX10_hours_29 rfl ?_
      refine z_iconst (z := 1) C dX10_hours_30 rfl ?_
      have hgy78 := up_n egy25 ha11 (ne_o (i := i) (c := 11) (d := 0) rfl)
      refine z_cV (As := [.int (zI (1))]) (rest := []) (ci := 12) C (c_X10_refuses l D A cs tt N ad _ i hN _ hgy26 _ hgy78 (1) (by omega)) (by omega) hay1 hgy26 rfl rfl mv_yX10_refuses q_1866 hd_yX10_refuses (by decide) (Nat.le_of_ble_eq_true rfl) (by decide) dX10_hours_31 rfl (kI0 fun vy79 gvy79 hvy79 => ?_)
      obtain ⟨hrvy79, ⟨tvy79, hdvy79⟩, hfvy79⟩ := hvy79
      have hgy80 := (hfvy79 (i) (ne_o (i := i) (c := 0) (d := 11) rfl)).trans hgy26
      have hgy81 := (hfvy79 (i + 1) (ne_o (i := i) (c := 1) (d := 11) rfl)).trans hgy28
      have hFy82 : ∀ f, f ≠ 12 → (uZ F 12 (0)) f = F f := fun f n12 => ((uZ_n _ _ n12).trans rfl)
      have hey83 : (uZ F 12 (0)) 13 = F 13 := (fn rfl (by decide))
      have hey84 : (uZ F 12 (0)) 14 = F 14 := (fn rfl (by decide))
      have hey85 : (uZ F 12 (0)) 15 = F 15 := (fn rfl (by decide))
      have hey86 : (uZ F 12 (0)) 16 = F 16 := (fn rfl (by decide))
      have hey87 : (uZ F 12 (0)) 17 = F 17 := (fn rfl (by decide))
      have hey88 : (uZ F 12 (0)) 18 = F 18 := (fn rfl (by decide))
      have hey89 : (uZ F 12 (0)) 19 = F 19 := (fn rfl (by decide))
      have hey90 : (uZ F 12 (0)) 20 = F 20 := (fn rfl (by decide))
      have hey91 : (uZ F 12 (0)) 23 = F 23 := (fn rfl (by decide))
      have hey92 : (uZ F 12 (0)) 25 = F 25 := (fn rfl (by decide))
      have hey93 : (uZ F 12 (0)) 27 = F 27 := (fn rfl (by decide))
      have hey94 : (uZ F 12 (0)) 28 = F 28 := (fn rfl (by decide))
      have hey95 : (uZ F 12 (0)) 29 = F 29 := (fn rfl (by decide))
      have hKy96 : okF (uZ F 12 (0)) := by unfold okF; omega
      have hMy97 : okMr cs ad gvy79 i (x + 1) (uZ F 12 (0)) r := okMr.upd hM hgy80 hKy96 (fun f a => hFy82 f (by omega)) hgy81 (hA.mono (by omega)) (fun j a b => by
          by_cases e0 : j = i + 11
          · exact Or.inr ⟨11, _, e0, lsP.l (by decide), by rw [e0]; exact hdvy79⟩
          exact Or.inl (by rw [hfvy79 _ (by omega)]; rw [egy25, va_up_ne _ _ (by omega)]))
      have h23 : (uZ F 12 (0)) 23 = F 23 := (fn rfl (by decide))
      exact z_iret C hr hlk dX10_hours_34 (by decide) (by decide) ⟨vy79, rfl, rfl, rfl, by omega, ⟨_, _, hMy97, by omega⟩, fun j j1 => by rw [hfvy79 _ (by omega)]; rw [egy25, va_up_ne _ _ (by omega)]⟩
  · refine z_if_eq (tgt := 29) C dX10_hours_12 (by decide) (by omega) (fun _ => ?_) (fun h => absurd h (by omega))
    refine z_aload_n C 0 dX10_hours_29 rfl ?_
    refine z_iconst (z := 1) C dX10_hours_30 rfl ?_
    have hgy98 := up_n egy25 ha11 (ne_o (i := i) (c := 11) (d := 0) rfl)
    refine z_cV (As := [.int (zI (1))]) (rest := []) (ci := 12) C (c_X10_refuses l D A cs tt N ad _ i hN _ hgy26 _ hgy98 (1) (by omega)) (by omega) hay1 hgy26 rfl rfl mv_yX10_refuses q_1866 hd_yX10_refuses (by decide) (Nat.le_of_ble_eq_true rfl) (by decide) dX10_hours_31 rfl (kI0 fun vy99 gvy99 hvy99 => ?_)
    obtain ⟨hrvy99, ⟨tvy99, hdvy99⟩, hfvy99⟩ := hvy99
    have hgy100 := (hfvy99 (i) (ne_o (i := i) (c := 0) (d := 11) rfl)).trans hgy26
    have hgy101 := up_n egy25 ha1 (ne_o (i := i) (c := 1) (d := 0) rfl)
    have hgy102 := (hfvy99 (i + 1) (ne_o (i := i) (c := 1) (d := 11) rfl)).trans hgy101
    have hFy103 : ∀ f, f ≠ 12 → (uZ F 12 (0)) f = F f := fun f n12 => ((uZ_n _ _ n12).trans rfl)
    have hey104 : (uZ F 12 (0)) 13 = F 13 := (fn rfl (by decide))
    have hey105 : (uZ F 12 (0)) 14 = F 14 := (fn rfl (by decide))
    have hey106 : (uZ F 12 (0)) 15 = F 15 := (fn rfl (by decide))
    have hey107 : (uZ F 12 (0)) 16 = F 16 := (fn rfl (by decide))
    have hey108 : (uZ F 12 (0)) 17 = F 17 := (fn rfl (by decide))
    have hey109 : (uZ F 12 (0)) 18 = F 18 := (fn rfl (by decide))
    have hey110 : (uZ F 12 (0)) 19 = F 19 := (fn rfl (by decide))
    have hey111 : (uZ F 12 (0)) 20 = F 20 := (fn rfl (by decide))
    have hey112 : (uZ F 12 (0)) 23 = F 23 := (fn rfl (by decide))
    have hey113 : (uZ F 12 (0)) 25 = F 25 := (fn rfl (by decide))
    have hey114 : (uZ F 12 (0)) 27 = F 27 := (fn rfl (by decide))
    have hey115 : (uZ F 12 (0)) 28 = F 28 := (fn rfl (by decide))
    have hey116 : (uZ F 12 (0)) 29 = F 29 := (fn rfl (by decide))
    have hKy117 : okF (uZ F 12 (0)) := by unfold okF; omega
    have hMy118 : okMr cs ad gvy99 i (x + 1) (uZ F 12 (0)) r := okMr.upd hM hgy100 hKy117 (fun f a => hFy103 f (by omega)) hgy102 (hA.mono (by omega)) (fun j a b => by
        by_cases e0 : j = i + 11
        · exact Or.inr ⟨11, _, e0, lsP.l (by decide), by rw [e0]; exact hdvy99⟩
        exact Or.inl (by rw [hfvy99 _ (by omega)]; rw [egy25, va_up_ne _ _ (by omega)]))
    have h23 : (uZ F 12 (0)) 23 = F 23 := (fn rfl (by decide))
    exact z_iret C hr hlk dX10_hours_34 (by decide) (by decide) ⟨vy99, rfl, rfl, rfl, by omega, ⟨_, _, hMy118, by omega⟩, fun j j1 => by rw [hfvy99 _ (by omega)]; rw [egy25, va_up_ne _ _ (by omega)]⟩

set_option maxRecDepth 100000 in
set_option maxHeartbeats 4000000 in
theorem c_X10_fall_a (l : Launch) (D : va_G) (A : Nat → Prop) (cs : Nat → ClassId) (tt : Nat) (N : Nat) (ad : Nat → Nat) (g : Nat → va_E) (i : Nat) (hN : i + 30 ≤ N) (x : Int) (hx : 0 ≤ x ∧ x ≤ 512) (F r : Nat → Int) (hM : okMr cs ad g i x F r) (n : Nat) (hn4 : n < 4) (z1 : Int) (hz1 : -2147483648 ≤ z1 ∧ z1 ≤ 2147483647) (z2 : Int) (hz2 : -2147483648 ≤ z2 ∧ z2 ≤ 2147483647) : zM l yX10_fall cX10_fall 4 (some .int) ({ frames := 6, cells := 0, slots := 0, locals := 360 } : Room) D A cs tt N ad g [.ref (ad i), .int (zI ((n : Int))), .int (zI (z1)), .int (zI (z2))] (rI0 N ad fun q g' => (-2147483648 ≤ q ∧ q ≤ 2147483647) ∧ (∃ F' r' : Nat → Int, okMr cs ad g' i (x + 1) F' r' ∧ F' 23 = F 23) ∧ ∀ j, j < i ∨ i + 30 ≤ j → g' j = g j) := by
  obtain ⟨hg, ⟨⟨e13, e14, e25, e27, e29⟩, k15, k16, k17, k18, k19, k20, k23⟩, hRD, hTx, hA, st, op, ai, fa, mu, tb, ns, nh, nd, rf, pi, tp, te, ki, li, ok1, ok2, fo, dd, dps, ⟨ha1, ha2, ha3, ha4, ha5, ha6, ha7, ha8, ha9, ha10, ha11, ha12, ha13, ha14, ha15, ha24, ha25, ha26, ha27, ha28, ha29⟩, hEv, hPt, hns, htp⟩ := id hM
  obtain ⟨-, hop, hai, hfa, hT, hT1⟩ := id hEv
  have hay1 : zAt ad (i) (ad i) := rfl
  have hay2 : zAt ad (i + 1) (ad (i + 1)) := rfl
  have hay3 : zAt ad (i + 2) (ad (i + 2)) := rfl
  have hay4 : zAt ad (i + 3) (ad (i + 3)) := rfl
  have hay5 : zAt ad (i + 4) (ad (i + 4)) := rfl
  have hay6 : zAt ad (i + 5) (ad (i + 5)) := rfl
  have hay7 : zAt ad (i + 6) (ad (i + 6)) := rfl
  have hay8 : zAt ad (i + 7) (ad (i + 7)) := rfl
  have hay9 : zAt ad (i + 8) (ad (i + 8)) := rfl
  have hay10 : zAt ad (i + 9) (ad (i + 9)) := rfl
  have hay11 : zAt ad (i + 10) (ad (i + 10)) := rfl
  have hay12 : zAt ad (i + 11) (ad (i + 11)) := rfl
  have hay13 : zAt ad (i + 12) (ad (i + 12)) := rfl
  have hay14 : zAt ad (i + 13) (ad (i + 13)) := rfl
  have hay15 : zAt ad (i + 14) (ad (i + 14)) := rfl
  have hay16 : zAt ad (i + 15) (ad (i + 15)) := rfl
  have hay17 : zAt ad (i + 24) (ad (i + 24)) := rfl
  have hay18 : zAt ad (i + 25) (ad (i + 25)) := rfl
  have hay19 : zAt ad (i + 26) (ad (i + 26)) := rfl
  have hay20 : zAt ad (i + 27) (ad (i + 27)) := rfl
  have hay21 : zAt ad (i + 28) (ad (i + 28)) := rfl
  have hay22 : zAt ad (i + 29) (ad (i + 29)) := rfl
  obtain ⟨⟨hsyy23, htyy23, hnyy23, hpyy23⟩, hlyy23⟩ := okA.at0 hA
  simp only [Nat.zero_add] at hsyy23 hnyy23 hpyy23
  have hmn : ∀ s, s < 4 → 0 ≤ r (6 + 86 * s) ∧ r (6 + 86 * s) ≤ 12 := fun s hs => (hsyy23 s hs).1
  have h5 : 0 ≤ r 5 ∧ r 5 ≤ 6 := hpyy23
  refine z_of (by decide) (Nat.le_of_ble_eq_true rfl) ?_
  intro pZ eZ sZ mZ below meth cZ C hr hlk hnm
  refine z_lv (lv' := [(0, .ref (ad i)), (1, .int (zI ((n : Int)))), (2, .int (zI (z1))), (3, .int (zI (z2)))]) [0, 1, 2, 3] rfl ?_
  refine z_aload_n C 0 dX10_fall_0 rfl ?_
  refine z_iconst (z := 0) C dX10_fall_1 rfl ?_
  refine z_put (fs' := mF ad (i) (uZ F 12 (0))) C (by omega) hay1 hg tyX10 tyX10_ok nmX10 rfl inA_X10 12 (by decide) q_1471 rfl rfl rfl rfl (Nat.le_of_ble_eq_true rfl) rfl dX10_fall_2 (fun gy24 egy25 => ?_)
  have hgy26 := up_s egy25
  refine z_iload_n C 1 dX10_fall_5 rfl ?_
  refine z_iconst (z := 0) C dX10_fall_6 rfl ?_
  refine z_aload_n C 0 dX10_fall_7 rfl ?_
  refine z_get (v := .int (zI (F 13))) C (by omega) hay1 hgy26 rfl inA_X10 13 (by decide) q_1472 rfl (fv (F := (uZ F 12 (0))) (f := 13) (fn rfl (by decide))) dX10_fall_8 ?_
  refine z_iconst (z := 1) C dX10_fall_11 rfl ?_
  refine z_isub C dX10_fall_12 ?_
  refine z_cS (As := [.int (zI ((n : Int))), .int (zI (0)), .int (zI ((F 13) - 1))]) (rest := []) C (c_X10_within l D A cs tt N ad _ ((n : Int)) (by omega) (0) (by omega) ((F 13) - 1) (by omega)) ms_yX10_within q_1686 hd_yX10_within (by decide) (Nat.le_of_ble_eq_true rfl) (by decide) dX10_fall_13 rfl (kI0 fun vy27 gvy27 hvy27 => ?_)
  obtain ⟨hvy27, rfl⟩ := hvy27
  rcases hvy27 with ⟨rfl, hxvy27⟩ | ⟨rfl, hxvy27⟩
  · refine z_if_eq (tgt := 56) C dX10_fall_16 (by decide) (by omega) (fun h => absurd h (by omega)) (fun _ => ?_)
    refine z_iload_n C 2 dX10_fall_19 rfl ?_
    refine z_iconst (z := 1) C dX10_fall_20 rfl ?_
    refine z_iconst (z := 3) C dX10_fall_21 rfl ?_
    refine z_cS (As := [.int (zI (z1)), .int (zI (1)), .int (zI (3))]) (rest := []) C (c_X10_within l D A cs tt N ad _ (z1) (by omega) (1) (by omega) (3) (by omega)) ms_yX10_within q_1686 hd_yX10_within (by decide) (Nat.le_of_ble_eq_true rfl) (by decide) dX10_fall_22 rfl (kI0 fun vy28 gvy28 hvy28 => ?_)
    obtain ⟨hvy28, rfl⟩ := hvy28
    rcases hvy28 with ⟨rfl, hxvy28⟩ | ⟨rfl, hxvy28⟩
    · refine z_if_eq (tgt := 56) C dX10_fall_25 (by decide) (by omega) (fun h => absurd h (by omega)) (fun _ => ?_)
      refine z_iload_n C 2 dX10_fall_28 rfl ?_
      refine z_iconst (z := 3) C dX10_fall_29 rfl ?_
      refine z_icmp_ge (tgt := 43) C dX10_fall_30 (by decide) (by omega) (by omega) (fun hby29 => ?_) (fun hby29 => ?_)
      · refine z_iload_n C 2 dX10_fall_43 rfl ?_
        refine z_iconst (z := 3) C dX10_fall_44 rfl ?_
        refine z_icmp_ne (tgt := 62) C dX10_fall_45 (by decide) (by omega) (by omega) (fun hby30 => ?_) (fun hby30 => ?_)
        · refine z_aload_n C 0 dX10_fall_62 rfl ?_
          have hgy31 := up_n egy25 ha1 (ne_o (i := i) (c := 1) (d := 0) rfl)
          have hey33 : (uZ F 12 (0)) 15 = F 15 := (fn rfl (by decide))
          have hey34 : (uZ F 12 (0)) 16 = F 16 := (fn rfl (by decide))
          refine z_cV (As := []) (rest := []) (ci := 12) C (c_X10_keeps l D A cs tt N ad _ i hN _ hgy26 _ hgy31 (x) hA (by omega) (by omega)) (by omega) hay1 hgy26 rfl rfl mv_yX10_keeps q_1870 hd_yX10_keeps (by decide) (Nat.le_of_ble_eq_true rfl) (by decide) dX10_fall_63 rfl (kV0 fun gvy32 hvy32 => ?_)
          obtain ⟨⟨Fvy32, hcvy32, hbvy32, hFvy32⟩, ⟨rvy32, hdvy32, hAvy32, hyvy32⟩, hfvy32⟩ := hvy32
          have hk0vy32 : rvy32 0 = r 0 := hyvy32 0 (by omega)
          have hk1vy32 : rvy32 1 = r 1 := hyvy32 1 (by omega)
          have hk5vy32 : rvy32 5 = r 5 := hyvy32 5 (by omega)
          obtain ⟨⟨hsyy35, htyy35, hnyy35, hpyy35⟩, hlyy35⟩ := okA.at0 hAvy32
          simp only [Nat.zero_add] at hsyy35 hnyy35 hpyy35
          have hmn : ∀ s, s < 4 → 0 ≤ rvy32 (6 + 86 * s) ∧ rvy32 (6 + 86 * s) ≤ 12 := fun s hs => (hsyy35 s hs).1
          have h5 : 0 ≤ rvy32 5 ∧ rvy32 5 ≤ 6 := hpyy35
          refine z_aload_n C 0 dX10_fall_66 rfl ?_
          refine z_iconst (z := 0) C dX10_fall_67 rfl ?_
          refine z_iload_n C 1 dX10_fall_68 rfl ?_
          refine z_iload_n C 2 dX10_fall_69 rfl ?_
          refine z_iload_n C 3 dX10_fall_70 rfl ?_
          refine z_aload_n C 0 dX10_fall_71 rfl ?_
          refine z_iconst (z := 0) C dX10_fall_72 rfl ?_
          have hey37 : Fvy32 14 = F 14 := ((hFvy32 14 (by decide) (by decide)).trans (fn rfl (by decide)))
          have hey38 : Fvy32 25 = F 25 := ((hFvy32 25 (by decide) (by decide)).trans (fn rfl (by decide)))
          have hgy39 := up_n egy25 ha4 (ne_o (i := i) (c := 4) (d := 0) rfl)
          have hgy40 := (hfvy32 (i + 4) (ne_o (i := i) (c := 4) (d := 0) rfl) (ne_o (i := i) (c := 4) (d := 1) rfl)).trans hgy39
          refine z_cV (As := [.int (zI (0))]) (rest := [.int (zI (z2)), .int (zI (z1)), .int (zI ((n : Int))), .int (zI (0)), .ref (ad i)]) (ci := 12) C (c_X10_airOf l D A cs tt N ad _ i hN _ hcvy32 _ hdvy32 _ hgy40 0 (by omega) (by omega) (by omega) (by omega) hai) (by omega) hay1 hcvy32 rfl rfl mv_yX10_airOf q_1827 hd_yX10_airOf (by decide) (Nat.le_of_ble_eq_true rfl) (by decide) dX10_fall_73 rfl (kI0 fun vy36 gvy36 hvy36 => ?_)
          obtain ⟨hvy36, rfl⟩ := hvy36
          obtain ⟨py41, hpy41⟩ : ∃ p9 : Nat, 0 + 6 + 86 * n = p9 := ⟨_, rfl⟩
          have hSy42 := ((okA.at0 hAvy32).1.1 n (by omega)).of (p2 := py41) (by omega)
          obtain ⟨b1hSy42, b2hSy42, b3hSy42, b4hSy42⟩ := mBb (t := rvy32 0 + x) (by omega)
          have hmky43 := hSy42.1
          have hcy44n := (okA.at0 hAvy32).1.2.2.1
          have hcy44t := (okA.at0 hAvy32).1.2.1
          have hwy46 : rvy32 (b + 1) = r (b + 1) := (hyvy32 _ (by omega)).trans (rfl)
          refine z_cV (As := [.int (zI (0)), .int (zI ((n : Int))), .int (zI (z1)), .int (zI (z2)), .int (zI (vy36))]) (rest := []) (ci := 12) C (c_X10_drops l D A cs tt N ad _ i hN _ hcvy32 _ hdvy32  0 n py41 hpy41 (by omega) (by omega) (by omega) (mB (rvy32 0 + x)) (eB (rvy32 0 + x)) (by omega) (by omega) hSy42 (by omega) (by omega) (z1) (by omega) (z2) (by omega) (vy36) (by omega)) (by omega) hay1 hcvy32 rfl rfl mv_yX10_drops q_1893 hd_yX10_drops (by decide) (Nat.le_of_ble_eq_true rfl) (by decide) dX10_fall_76 rfl (kV0 fun gvy45 hvy45 => ?_)
          obtain ⟨⟨rvy45, hcvy45, hovy45, hnvy45, hyvy45⟩, hfvy45⟩ := hvy45
          have hkvy45 := hovy45.1
          have hcy440 : rvy45 0 = rvy32 0 := (hyvy45 0 (by omega) (by omega))
          have hcy445 : rvy45 (0 + 5) = rvy32 (0 + 5) := (hyvy45 (0 + 5) (by omega) (by omega))
          have hcy446 := (okA.at0 hAvy32).1.2.2.2
          have hcy44 : okW rvy45 0 (x + 1) := okW.slope (okA.at0 hAvy32).1 (s := n) (p := py41) (by omega) (by omega) (hovy45.mono (by omega) (by omega)) hnvy45 hcy440 (by omega) (fun j a1 a2 a3 => (hyvy45 j (by omega) (by omega)))
          have hAy47 : okA rvy45 (x + 1) := okA.first hAvy32 (by omega) (fun j a => (hyvy45 j (by omega) (by omega))) hcy44 (by omega)
          obtain ⟨⟨hsyy48, htyy48, hnyy48, hpyy48⟩, hlyy48⟩ := okA.at0 hAy47
          simp only [Nat.zero_add] at hsyy48 hnyy48 hpyy48
          have hmn : ∀ s, s < 4 → 0 ≤ rvy45 (6 + 86 * s) ∧ rvy45 (6 + 86 * s) ≤ 12 := fun s hs => (hsyy48 s hs).1
          have h5 : 0 ≤ rvy45 5 ∧ rvy45 5 ≤ 6 := hpyy48
          refine z_aload_n C 0 dX10_fall_79 rfl ?_
          refine z_iconst (z := 0) C dX10_fall_80 rfl ?_
          refine z_iload_n C 1 dX10_fall_81 rfl ?_
          obtain ⟨py49, hpy49⟩ : ∃ p9 : Nat, 0 + 6 + 86 * n = p9 := ⟨_, rfl⟩
          have hgy50 := (hfvy45 (i) (ne_o (i := i) (c := 0) (d := 1) rfl)).trans hcvy32
          refine z_cV (As := [.int (zI (0)), .int (zI ((n : Int)))]) (rest := []) (ci := 12) C (c_X10_many l D A cs tt N ad _ i hN _ hgy50 _ hcvy45 0 n py49 hpy49 (by omega) (by omega)) (by omega) hay1 hgy50 rfl rfl mv_yX10_many q_1733 hd_yX10_many (by decide) (Nat.le_of_ble_eq_true rfl) (by decide) dX10_fall_82 rfl (kI0 fun vy51 gvy51 hvy51 => ?_)
          obtain ⟨rfl, rfl⟩ := hvy51
          obtain ⟨xy52, exy53, hxy54⟩ := zI_of (zI (rvy45 (py49)))
          rw [exy53]
          have hFy55 : ∀ f, f ≠ 12 → f ≠ 15 → f ≠ 16 → Fvy32 f = F f := fun f n12 n15 n16 => ((hFvy32 f n15 n16).trans ((uZ_n _ _ n12).trans rfl))
          have hey56 : Fvy32 13 = F 13 := ((hFvy32 13 (by decide) (by decide)).trans (fn rfl (by decide)))
          have hey57 : Fvy32 14 = F 14 := ((hFvy32 14 (by decide) (by decide)).trans (fn rfl (by decide)))
          have hey58 : Fvy32 15 = Fvy32 15 := rfl
          have hey59 : Fvy32 16 = Fvy32 16 := rfl
          have hey60 : Fvy32 17 = F 17 := ((hFvy32 17 (by decide) (by decide)).trans (fn rfl (by decide)))
          have hey61 : Fvy32 18 = F 18 := ((hFvy32 18 (by decide) (by decide)).trans (fn rfl (by decide)))
          have hey62 : Fvy32 19 = F 19 := ((hFvy32 19 (by decide) (by decide)).trans (fn rfl (by decide)))
          have hey63 : Fvy32 20 = F 20 := ((hFvy32 20 (by decide) (by decide)).trans (fn rfl (by decide)))
          have hey64 : Fvy32 23 = F 23 := ((hFvy32 23 (by decide) (by decide)).trans (fn rfl (by decide)))
          have hey65 : Fvy32 25 = F 25 := ((hFvy32 25 (by decide) (by decide)).trans (fn rfl (by decide)))
          have hey66 : Fvy32 27 = F 27 := ((hFvy32 27 (by decide) (by decide)).trans (fn rfl (by decide)))
          have hey67 : Fvy32 28 = F 28 := ((hFvy32 28 (by decide) (by decide)).trans (fn rfl (by decide)))
          have hey68 : Fvy32 29 = F 29 := ((hFvy32 29 (by decide) (by decide)).trans (fn rfl (by decide)))
          have hKy69 : okF Fvy32 := by unfold okF; omega
          have hMy70 : okMr cs ad gvy45 i (x + 1) Fvy32 rvy45 := okMr.upd hM hgy50 hKy69 (fun f a => hFy55 f (by omega) (by omega) (by omega)) hcvy45 (hAy47.mono (by omega)) (fun j a b => by
              exact Or.inl (by rw [hfvy45 _ (by omega)]; rw [hfvy32 _ (by omega) (by omega)]; rw [egy25, va_up_ne _ _ (by omega)]))
          have h23 : Fvy32 23 = F 23 := ((hFvy32 23 (by decide) (by decide)).trans (fn rfl (by decide)))
          exact z_iret C hr hlk dX10_fall_85 (by decide) (by decide) ⟨xy52, rfl, rfl, rfl, by omega, ⟨_, _, hMy70, by omega⟩, fun j j1 => by rw [hfvy45 _ (by omega)]; rw [hfvy32 _ (by omega) (by omega)]; rw [egy25, va_up_ne _ _ (by omega)]⟩
        · refine z_aload_n C 0 dX10_fall_48 rfl ?_
          refine z_iconst (z := 0) C dX10_fall_49 rfl ?_
          have hgy71 := up_n egy25 ha1 (ne_o (i := i) (c := 1) (d := 0) rfl)
          have hey73 : (uZ F 12 (0)) 14 = F 14 := (fn rfl (by decide))
          have hey74 : (uZ F 12 (0)) 25 = F 25 := (fn rfl (by decide))
          have hgy75 := up_n egy25 ha4 (ne_o (i := i) (c := 4) (d := 0) rfl)
          refine z_cV (As := [.int (zI (0))]) (rest := []) (ci := 12) C (c_X10_airOf l D A cs tt N ad _ i hN _ hgy26 _ hgy71 _ hgy75 0 (by omega) (by omega) (by omega) (by omega) hai) (by omega) hay1 hgy26 rfl rfl mv_yX10_airOf q_1827 hd_yX10_airOf (by decide) (Nat.le_of_ble_eq_true rfl) (by decide) dX10_fall_50 rfl (kI0 fun vy72 gvy72 hvy72 => ?_)
          obtain ⟨hvy72, rfl⟩ := hvy72
          refine z_if_lt (tgt := 62) C dX10_fall_53 (by decide) (by omega) (fun hby76 => ?_) (fun hby76 => ?_)
          · refine z_aload_n C 0 dX10_fall_62 rfl ?_
            have hey78 : (uZ F 12 (0)) 15 = F 15 := (fn rfl (by decide))
            have hey79 : (uZ F 12 (0)) 16 = F 16 := (fn rfl (by decide))
            refine z_cV (As := []) (rest := []) (ci := 12) C (c_X10_keeps l D A cs tt N ad _ i hN _ hgy26 _ hgy71 (x) hA (by omega) (by omega)) (by omega) hay1 hgy26 rfl rfl mv_yX10_keeps q_1870 hd_yX10_keeps (by decide) (Nat.le_of_ble_eq_true rfl) (by decide) dX10_fall_63 rfl (kV0 fun gvy77 hvy77 => ?_)
            obtain ⟨⟨Fvy77, hcvy77, hbvy77, hFvy77⟩, ⟨rvy77, hdvy77, hAvy77, hyvy77⟩, hfvy77⟩ := hvy77
            have hk0vy77 : rvy77 0 = r 0 := hyvy77 0 (by omega)
            have hk1vy77 : rvy77 1 = r 1 := hyvy77 1 (by omega)
            have hk5vy77 : rvy77 5 = r 5 := hyvy77 5 (by omega)
            obtain ⟨⟨hsyy80, htyy80, hnyy80, hpyy80⟩, hlyy80⟩ := okA.at0 hAvy77
            simp only [Nat.zero_add] at hsyy80 hnyy80 hpyy80
            have hmn : ∀ s, s < 4 → 0 ≤ rvy77 (6 + 86 * s) ∧ rvy77 (6 + 86 * s) ≤ 12 := fun s hs => (hsyy80 s hs).1
            have h5 : 0 ≤ rvy77 5 ∧ rvy77 5 ≤ 6 := hpyy80
            refine z_aload_n C 0 dX10_fall_66 rfl ?_
            refine z_iconst (z := 0) C dX10_fall_67 rfl ?_
            refine z_iload_n C 1 dX10_fall_68 rfl ?_
            refine z_iload_n C 2 dX10_fall_69 rfl ?_
            refine z_iload_n C 3 dX10_fall_70 rfl ?_
            refine z_aload_n C 0 dX10_fall_71 rfl ?_
            refine z_iconst (z := 0) C dX10_fall_72 rfl ?_
            have hey82 : Fvy77 14 = F 14 := ((hFvy77 14 (by decide) (by decide)).trans (fn rfl (by decide)))
            have hey83 : Fvy77 25 = F 25 := ((hFvy77 25 (by decide) (by decide)).trans (fn rfl (by decide)))
            have hgy84 := (hfvy77 (i + 4) (ne_o (i := i) (c := 4) (d := 0) rfl) (ne_o (i := i) (c := 4) (d := 1) rfl)).trans hgy75
            refine z_cV (As := [.int (zI (0))]) (rest := [.int (zI (z2)), .int (zI (z1)), .int (zI ((n : Int))), .int (zI (0)), .ref (ad i)]) (ci := 12) C (c_X10_airOf l D A cs tt N ad _ i hN _ hcvy77 _ hdvy77 _ hgy84 0 (by omega) (by omega) (by omega) (by omega) hai) (by omega) hay1 hcvy77 rfl rfl mv_yX10_airOf q_1827 hd_yX10_airOf (by decide) (Nat.le_of_ble_eq_true rfl) (by decide) dX10_fall_73 rfl (kI0 fun vy81 gvy81 hvy81 => ?_)
            obtain ⟨hvy81, rfl⟩ := hvy81
            obtain ⟨py85, hpy85⟩ : ∃ p9 : Nat, 0 + 6 + 86 * n = p9 := ⟨_, rfl⟩
            have hSy86 := ((okA.at0 hAvy77).1.1 n (by omega)).of (p2 := py85) (by omega)
            obtain ⟨b1hSy86, b2hSy86, b3hSy86, b4hSy86⟩ := mBb (t := rvy77 0 + x) (by omega)
            have hmky87 := hSy86.1
            have hcy88n := (okA.at0 hAvy77).1.2.2.1
            have hcy88t := (okA.at0 hAvy77).1.2.1
            have hwy90 : rvy77 (b + 1) = r (b + 1) := (hyvy77 _ (by omega)).trans (rfl)
            refine z_cV (As := [.int (zI (0)), .int (zI ((n : Int))), .int (zI (z1)), .int (zI (z2)), .int (zI (vy81))]) (rest := []) (ci := 12) C (c_X10_drops l D A cs tt N ad _ i hN _ hcvy77 _ hdvy77  0 n py85 hpy85 (by omega) (by omega) (by omega) (mB (rvy77 0 + x)) (eB (rvy77 0 + x)) (by omega) (by omega) hSy86 (by omega) (by omega) (z1) (by omega) (z2) (by omega) (vy81) (by omega)) (by omega) hay1 hcvy77 rfl rfl mv_yX10_drops q_1893 hd_yX10_drops (by decide) (Nat.le_of_ble_eq_true rfl) (by decide) dX10_fall_76 rfl (kV0 fun gvy89 hvy89 => ?_)
            obtain ⟨⟨rvy89, hcvy89, hovy89, hnvy89, hyvy89⟩, hfvy89⟩ := hvy89
            have hkvy89 := hovy89.1
            have hcy880 : rvy89 0 = rvy77 0 := (hyvy89 0 (by omega) (by omega))
            have hcy885 : rvy89 (0 + 5) = rvy77 (0 + 5) := (hyvy89 (0 + 5) (by omega) (by omega))
            have hcy886 := (okA.at0 hAvy77).1.2.2.2
            have hcy88 : okW rvy89 0 (x + 1) := okW.slope (okA.at0 hAvy77).1 (s := n) (p := py85) (by omega) (by omega) (hovy89.mono (by omega) (by omega)) hnvy89 hcy880 (by omega) (fun j a1 a2 a3 => (hyvy89 j (by omega) (by omega)))
            have hAy91 : okA rvy89 (x + 1) := okA.first hAvy77 (by omega) (fun j a => (hyvy89 j (by omega) (by omega))) hcy88 (by omega)
            obtain ⟨⟨hsyy92, htyy92, hnyy92, hpyy92⟩, hlyy92⟩ := okA.at0 hAy91
            simp only [Nat.zero_add] at hsyy92 hnyy92 hpyy92
            have hmn : ∀ s, s < 4 → 0 ≤ rvy89 (6 + 86 * s) ∧ rvy89 (6 + 86 * s) ≤ 12 := fun s hs => (hsyy92 s hs).1
            have h5 : 0 ≤ rvy89 5 ∧ rvy89 5 ≤ 6 := hpyy92
            refine z_aload_n C 0 dX10_fall_79 rfl ?_
            refine z_iconst (z := 0) C dX10_fall_80 rfl ?_
            refine z_iload_n C 1 dX10_fall_81 rfl ?_
            obtain ⟨py93, hpy93⟩ : ∃ p9 : Nat, 0 + 6 + 86 * n = p9 := ⟨_, rfl⟩
            have hgy94 := (hfvy89 (i) (ne_o (i := i) (c := 0) (d := 1) rfl)).trans hcvy77
            refine z_cV (As := [.int (zI (0)), .int (zI ((n : Int)))]) (rest := []) (ci := 12) C (c_X10_many l D A cs tt N ad _ i hN _ hgy94 _ hcvy89 0 n py93 hpy93 (by omega) (by omega)) (by omega) hay1 hgy94 rfl rfl mv_yX10_many q_1733 hd_yX10_many (by decide) (Nat.le_of_ble_eq_true rfl) (by decide) dX10_fall_82 rfl (kI0 fun vy95 gvy95 hvy95 => ?_)
            obtain ⟨rfl, rfl⟩ := hvy95
            obtain ⟨xy96, exy97, hxy98⟩ := zI_of (zI (rvy89 (py93)))
            rw [exy97]
            have hFy99 : ∀ f, f ≠ 12 → f ≠ 15 → f ≠ 16 → Fvy77 f = F f := fun f n12 n15 n16 => ((hFvy77 f n15 n16).trans ((uZ_n _ _ n12).trans rfl))
            have hey100 : Fvy77 13 = F 13 := ((hFvy77 13 (by decide) (by decide)).trans (fn rfl (by decide)))
            have hey101 : Fvy77 14 = F 14 := ((hFvy77 14 (by decide) (by decide)).trans (fn rfl (by decide)))
            have hey102 : Fvy77 15 = Fvy77 15 := rfl
            have hey103 : Fvy77 16 = Fvy77 16 := rfl
            have hey104 : Fvy77 17 = F 17 := ((hFvy77 17 (by decide) (by decide)).trans (fn rfl (by decide)))
            have hey105 : Fvy77 18 = F 18 := ((hFvy77 18 (by decide) (by decide)).trans (fn rfl (by decide)))
            have hey106 : Fvy77 19 = F 19 := ((hFvy77 19 (by decide) (by decide)).trans (fn rfl (by decide)))
            have hey107 : Fvy77 20 = F 20 := ((hFvy77 20 (by decide) (by decide)).trans (fn rfl (by decide)))
            have hey108 : Fvy77 23 = F 23 := ((hFvy77 23 (by decide) (by decide)).trans (fn rfl (by decide)))
            have hey109 : Fvy77 25 = F 25 := ((hFvy77 25 (by decide) (by decide)).trans (fn rfl (by decide)))
            have hey110 : Fvy77 27 = F 27 := ((hFvy77 27 (by decide) (by decide)).trans (fn rfl (by decide)))
            have hey111 : Fvy77 28 = F 28 := ((hFvy77 28 (by decide) (by decide)).trans (fn rfl (by decide)))
            have hey112 : Fvy77 29 = F 29 := ((hFvy77 29 (by decide) (by decide)).trans (fn rfl (by decide)))
            have hKy113 : okF Fvy77 := by unfold okF; omega
            have hMy114 : okMr cs ad gvy89 i (x + 1) Fvy77 rvy89 := okMr.upd hM hgy94 hKy113 (fun f a => hFy99 f (by omega) (by omega) (by omega)) hcvy89 (hAy91.mono (by omega)) (fun j a b => by
                exact Or.inl (by rw [hfvy89 _ (by omega)]; rw [hfvy77 _ (by omega) (by omega)]; rw [egy25, va_up_ne _ _ (by omega)]))
            have h23 : Fvy77 23 = F 23 := ((hFvy77 23 (by decide) (by decide)).trans (fn rfl (by decide)))
            exact z_iret C hr hlk dX10_fall_85 (by decide) (by decide) ⟨xy96, rfl, rfl, rfl, by omega, ⟨_, _, hMy114, by omega⟩, fun j j1 => by rw [hfvy89 _ (by omega)]; rw [hfvy77 _ (by omega) (by omega)]; rw [egy25, va_up_ne _ _ (by omega)]⟩
          · refine z_aload_n C 0 dX10_fall_56 rfl ?_
            refine z_iconst (z := 1) C dX10_fall_57 rfl ?_
            have hgy115 := up_n egy25 ha11 (ne_o (i := i) (c := 11) (d := 0) rfl)
            refine z_cV (As := [.int (zI (1))]) (rest := []) (ci := 12) C (c_X10_refuses l D A cs tt N ad _ i hN _ hgy26 _ hgy115 (1) (by omega)) (by omega) hay1 hgy26 rfl rfl mv_yX10_refuses q_1866 hd_yX10_refuses (by decide) (Nat.le_of_ble_eq_true rfl) (by decide) dX10_fall_58 rfl (kI0 fun vy116 gvy116 hvy116 => ?_)
            obtain ⟨hrvy116, ⟨tvy116, hdvy116⟩, hfvy116⟩ := hvy116
            have hgy117 := (hfvy116 (i) (ne_o (i := i) (c := 0) (d := 11) rfl)).trans hgy26
            have hgy118 := (hfvy116 (i + 1) (ne_o (i := i) (c := 1) (d := 11) rfl)).trans hgy71
            have hFy119 : ∀ f, f ≠ 12 → (uZ F 12 (0)) f = F f := fun f n12 => ((uZ_n _ _ n12).trans rfl)
            have hey120 : (uZ F 12 (0)) 13 = F 13 := (fn rfl (by decide))
            have hey121 : (uZ F 12 (0)) 14 = F 14 := (fn rfl (by decide))
            have hey122 : (uZ F 12 (0)) 15 = F 15 := (fn rfl (by decide))
            have hey123 : (uZ F 12 (0)) 16 = F 16 := (fn rfl (by decide))
            have hey124 : (uZ F 12 (0)) 17 = F 17 := (fn rfl (by decide))
            have hey125 : (uZ F 12 (0)) 18 = F 18 := (fn rfl (by decide))
            have hey126 : (uZ F 12 (0)) 19 = F 19 := (fn rfl (by decide))
            have hey127 : (uZ F 12 (0)) 20 = F 20 := (fn rfl (by decide))
            have hey128 : (uZ F 12 (0)) 23 = F 23 := (fn rfl (by decide))
            have hey129 : (uZ F 12 (0)) 25 = F 25 := (fn rfl (by decide))
            have hey130 : (uZ F 12 (0)) 27 = F 27 := (fn rfl (by decide))
            have hey131 : (uZ F 12 (0)) 28 = F 28 := (fn rfl (by decide))
            have hey132 : (uZ F 12 (0)) 29 = F 29 := (fn rfl (by decide))
            have hKy133 : okF (uZ F 12 (0)) := by unfold okF; omega
            have hMy134 : okMr cs ad gvy116 i (x + 1) (uZ F 12 (0)) r := okMr.upd hM hgy117 hKy133 (fun f a => hFy119 f (by omega)) hgy118 (hA.mono (by omega)) (fun j a b => by
                by_cases e0 : j = i + 11
                · exact Or.inr ⟨11, _, e0, lsP.l (by decide), by rw [e0]; exact hdvy116⟩
                exact Or.inl (by rw [hfvy116 _ (by omega)]; rw [egy25, va_up_ne _ _ (by omega)]))
            have h23 : (uZ F 12 (0)) 23 = F 23 := (fn rfl (by decide))
            exact z_iret C hr hlk dX10_fall_61 (by decide) (by decide) ⟨vy116, rfl, rfl, rfl, by omega, ⟨_, _, hMy134, by omega⟩, fun j j1 => by rw [hfvy116 _ (by omega)]; rw [egy25, va_up_ne _ _ (by omega)]⟩
      · refine z_iload_n C 3 dX10_fall_33 rfl ?_
        refine z_iconst (z := 1) C dX10_fall_34 rfl ?_
        refine z_bipush (z := 50) C dX10_fall_35 (by decide) ?_
        refine z_cS (As := [.int (zI (z2)), .int (zI (1)), .int (zI (50))]) (rest := []) C (c_X10_within l D A cs tt N ad _ (z2) (by omega) (1) (by omega) (50) (by omega)) ms_yX10_within q_1686 hd_yX10_within (by decide) (Nat.le_of_ble_eq_true rfl) (by decide) dX10_fall_37 rfl (kI0 fun vy135 gvy135 hvy135 => ?_)
        obtain ⟨hvy135, rfl⟩ := hvy135
        rcases hvy135 with ⟨rfl, hxvy135⟩ | ⟨rfl, hxvy135⟩
        · refine z_if_eq (tgt := 56) C dX10_fall_40 (by decide) (by omega) (fun h => absurd h (by omega)) (fun _ => ?_)
          refine z_iload_n C 2 dX10_fall_43 rfl ?_
          refine z_iconst (z := 3) C dX10_fall_44 rfl ?_
          refine z_icmp_ne (tgt := 62) C dX10_fall_45 (by decide) (by omega) (by omega) (fun hby136 => ?_) (fun hby136 => ?_)
          · refine z_aload_n C 0 dX10_fall_62 rfl ?_
            have hgy137 := up_n egy25 ha1 (ne_o (i := i) (c := 1) (d := 0) rfl)
            have hey139 : (uZ F 12 (0)) 15 = F 15 := (fn rfl (by decide))
            have hey140 : (uZ F 12 (0)) 16 = F 16 := (fn rfl (by decide))
            refine z_cV (As := []) (rest := []) (ci := 12) C (c_X10_keeps l D A cs tt N ad _ i hN _ hgy26 _ hgy137 (x) hA (by omega) (by omega)) (by omega) hay1 hgy26 rfl rfl mv_yX10_keeps q_1870 hd_yX10_keeps (by decide) (Nat.le_of_ble_eq_true rfl) (by decide) dX10_fall_63 rfl (kV0 fun gvy138 hvy138 => ?_)
            obtain ⟨⟨Fvy138, hcvy138, hbvy138, hFvy138⟩, ⟨rvy138, hdvy138, hAvy138, hyvy138⟩, hfvy138⟩ := hvy138
            have hk0vy138 : rvy138 0 = r 0 := hyvy138 0 (by omega)
            have hk1vy138 : rvy138 1 = r 1 := hyvy138 1 (by omega)
            have hk5vy138 : rvy138 5 = r 5 := hyvy138 5 (by omega)
            obtain ⟨⟨hsyy141, htyy141, hnyy141, hpyy141⟩, hlyy141⟩ := okA.at0 hAvy138
            simp only [Nat.zero_add] at hsyy141 hnyy141 hpyy141
            have hmn : ∀ s, s < 4 → 0 ≤ rvy138 (6 + 86 * s) ∧ rvy138 (6 + 86 * s) ≤ 12 := fun s hs => (hsyy141 s hs).1
            have h5 : 0 ≤ rvy138 5 ∧ rvy138 5 ≤ 6 := hpyy141
            refine z_aload_n C 0 dX10_fall_66 rfl ?_
            refine z_iconst (z := 0) C dX10_fall_67 rfl ?_
            refine z_iload_n C 1 dX10_fall_68 rfl ?_
            refine z_iload_n C 2 dX10_fall_69 rfl ?_
            refine z_iload_n C 3 dX10_fall_70 rfl ?_
            refine z_aload_n C 0 dX10_fall_71 rfl ?_
            refine z_iconst (z := 0) C dX10_fall_72 rfl ?_
            have hey143 : Fvy138 14 = F 14 := ((hFvy138 14 (by decide) (by decide)).trans (fn rfl (by decide)))
            have hey144 : Fvy138 25 = F 25 := ((hFvy138 25 (by decide) (by decide)).trans (fn rfl (by decide)))
            have hgy145 := up_n egy25 ha4 (ne_o (i := i) (c := 4) (d := 0) rfl)
            have hgy146 := (hfvy138 (i + 4) (ne_o (i := i) (c := 4) (d := 0) rfl) (ne_o (i := i) (c := 4) (d := 1) rfl)).trans hgy145
            refine z_cV (As := [.int (zI (0))]) (rest := [.int (zI (z2)), .int (zI (z1)), .int (zI ((n : Int))), .int (zI (0)), .ref (ad i)]) (ci := 12) C (c_X10_airOf l D A cs tt N ad _ i hN _ hcvy138 _ hdvy138 _ hgy146 0 (by omega) (by omega) (by omega) (by omega) hai) (by omega) hay1 hcvy138 rfl rfl mv_yX10_airOf q_1827 hd_yX10_airOf (by decide) (Nat.le_of_ble_eq_true rfl) (by decide) dX10_fall_73 rfl (kI0 fun vy142 gvy142 hvy142 => ?_)
            obtain ⟨hvy142, rfl⟩ := hvy142
            obtain ⟨py147, hpy147⟩ : ∃ p9 : Nat, 0 + 6 + 86 * n = p9 := ⟨_, rfl⟩
            have hSy148 := ((okA.at0 hAvy138).1.1 n (by omega)).of (p2 := py147) (by omega)
            obtain ⟨b1hSy148, b2hSy148, b3hSy148, b4hSy148⟩ := mBb (t := rvy138 0 + x) (by omega)
            have hmky149 := hSy148.1
            have hcy150n := (okA.at0 hAvy138).1.2.2.1
            have hcy150t := (okA.at0 hAvy138).1.2.1
            have hwy152 : rvy138 (b + 1) = r (b + 1) := (hyvy138 _ (by omega)).trans (rfl)
            refine z_cV (As := [.int (zI (0)), .int (zI ((n : Int))), .int (zI (z1)), .int (zI (z2)), .int (zI (vy142))]) (rest := []) (ci := 12) C (c_X10_drops l D A cs tt N ad _ i hN _ hcvy138 _ hdvy138  0 n py147 hpy147 (by omega) (by omega) (by omega) (mB (rvy138 0 + x)) (eB (rvy138 0 + x)) (by omega) (by omega) hSy148 (by omega) (by omega) (z1) (by omega) (z2) (by omega) (vy142) (by omega)) (by omega) hay1 hcvy138 rfl rfl mv_yX10_drops q_1893 hd_yX10_drops (by decide) (Nat.le_of_ble_eq_true rfl) (by decide) dX10_fall_76 rfl (kV0 fun gvy151 hvy151 => ?_)
            obtain ⟨⟨rvy151, hcvy151, hovy151, hnvy151, hyvy151⟩, hfvy151⟩ := hvy151
            have hkvy151 := hovy151.1
            have hcy1500 : rvy151 0 = rvy138 0 := (hyvy151 0 (by omega) (by omega))
            have hcy1505 : rvy151 (0 + 5) = rvy138 (0 + 5) := (hyvy151 (0 + 5) (by omega) (by omega))
            have hcy1506 := (okA.at0 hAvy138).1.2.2.2
            have hcy150 : okW rvy151 0 (x + 1) := okW.slope (okA.at0 hAvy138).1 (s := n) (p := py147) (by omega) (by omega) (hovy151.mono (by omega) (by omega)) hnvy151 hcy1500 (by omega) (fun j a1 a2 a3 => (hyvy151 j (by omega) (by omega)))
            have hAy153 : okA rvy151 (x + 1) := okA.first hAvy138 (by omega) (fun j a => (hyvy151 j (by omega) (by omega))) hcy150 (by omega)
            obtain ⟨⟨hsyy154, htyy154, hnyy154, hpyy154⟩, hlyy154⟩ := okA.at0 hAy153
            simp only [Nat.zero_add] at hsyy154 hnyy154 hpyy154
            have hmn : ∀ s, s < 4 → 0 ≤ rvy151 (6 + 86 * s) ∧ rvy151 (6 + 86 * s) ≤ 12 := fun s hs => (hsyy154 s hs).1
            have h5 : 0 ≤ rvy151 5 ∧ rvy151 5 ≤ 6 := hpyy154
            refine z_aload_n C 0 dX10_fall_79 rfl ?_
            refine z_iconst (z := 0) C dX10_fall_80 rfl ?_
            refine z_iload_n C 1 dX10_fall_81 rfl ?_
            obtain ⟨py155, hpy155⟩ : ∃ p9 : Nat, 0 + 6 + 86 * n = p9 := ⟨_, rfl⟩
            have hgy156 := (hfvy151 (i) (ne_o (i := i) (c := 0) (d := 1) rfl)).trans hcvy138
            refine z_cV (As := [.int (zI (0)), .int (zI ((n : Int)))]) (rest := []) (ci := 12) C (c_X10_many l D A cs tt N ad _ i hN _ hgy156 _ hcvy151 0 n py155 hpy155 (by omega) (by omega)) (by omega) hay1 hgy156 rfl rfl mv_yX10_many q_1733 hd_yX10_many (by decide) (Nat.le_of_ble_eq_true rfl) (by decide) dX10_fall_82 rfl (kI0 fun vy157 gvy157 hvy157 => ?_)
            obtain ⟨rfl, rfl⟩ := hvy157
            obtain ⟨xy158, exy159, hxy160⟩ := zI_of (zI (rvy151 (py155)))
            rw [exy159]
            have hFy161 : ∀ f, f ≠ 12 → f ≠ 15 → f ≠ 16 → Fvy138 f = F f := fun f n12 n15 n16 => ((hFvy138 f n15 n16).trans ((uZ_n _ _ n12).trans rfl))
            have hey162 : Fvy138 13 = F 13 := ((hFvy138 13 (by decide) (by decide)).trans (fn rfl (by decide)))
            have hey163 : Fvy138 14 = F 14 := ((hFvy138 14 (by decide) (by decide)).trans (fn rfl (by decide)))
            have hey164 : Fvy138 15 = Fvy138 15 := rfl
            have hey165 : Fvy138 16 = Fvy138 16 := rfl
            have hey166 : Fvy138 17 = F 17 := ((hFvy138 17 (by decide) (by decide)).trans (fn rfl (by decide)))
            have hey167 : Fvy138 18 = F 18 := ((hFvy138 18 (by decide) (by decide)).trans (fn rfl (by decide)))
            have hey168 : Fvy138 19 = F 19 := ((hFvy138 19 (by decide) (by decide)).trans (fn rfl (by decide)))
            have hey169 : Fvy138 20 = F 20 := ((hFvy138 20 (by decide) (by decide)).trans (fn rfl (by decide)))
            have hey170 : Fvy138 23 = F 23 := ((hFvy138 23 (by decide) (by decide)).trans (fn rfl (by decide)))
            have hey171 : Fvy138 25 = F 25 := ((hFvy138 25 (by decide) (by decide)).trans (fn rfl (by decide)))
            have hey172 : Fvy138 27 = F 27 := ((hFvy138 27 (by decide) (by decide)).trans (fn rfl (by decide)))
            have hey173 : Fvy138 28 = F 28 := ((hFvy138 28 (by decide) (by decide)).trans (fn rfl (by decide)))
            have hey174 : Fvy138 29 = F 29 := ((hFvy138 29 (by decide) (by decide)).trans (fn rfl (by decide)))
            have hKy175 : okF Fvy138 := by unfold okF; omega
            have hMy176 : okMr cs ad gvy151 i (x + 1) Fvy138 rvy151 := okMr.upd hM hgy156 hKy175 (fun f a => hFy161 f (by omega) (by omega) (by omega)) hcvy151 (hAy153.mono (by omega)) (fun j a b => by
                exact Or.inl (by rw [hfvy151 _ (by omega)]; rw [hfvy138 _ (by omega) (by omega)]; rw [egy25, va_up_ne _ _ (by omega)]))
            have h23 : Fvy138 23 = F 23 := ((hFvy138 23 (by decide) (by decide)).trans (fn rfl (by decide)))
            exact z_iret C hr hlk dX10_fall_85 (by decide) (by decide) ⟨xy158, rfl, rfl, rfl, by omega, ⟨_, _, hMy176, by omega⟩, fun j j1 => by rw [hfvy151 _ (by omega)]; rw [hfvy138 _ (by omega) (by omega)]; rw [egy25, va_up_ne _ _ (by omega)]⟩
          · refine z_aload_n C 0 dX10_fall_48 rfl ?_
            refine z_iconst (z := 0) C dX10_fall_49 rfl ?_
            have hgy177 := up_n egy25 ha1 (ne_o (i := i) (c := 1) (d := 0) rfl)
            have hey179 : (uZ F 12 (0)) 14 = F 14 := (fn rfl (by decide))
            have hey180 : (uZ F 12 (0)) 25 = F 25 := (fn rfl (by decide))
            have hgy181 := up_n egy25 ha4 (ne_o (i := i) (c := 4) (d := 0) rfl)
            refine z_cV (As := [.int (zI (0))]) (rest := []) (ci := 12) C (c_X10_airOf l D A cs tt N ad _ i hN _ hgy26 _ hgy177 _ hgy181 0 (by omega) (by omega) (by omega) (by omega) hai) (by omega) hay1 hgy26 rfl rfl mv_yX10_airOf q_1827 hd_yX10_airOf (by decide) (Nat.le_of_ble_eq_true rfl) (by decide) dX10_fall_50 rfl (kI0 fun vy178 gvy178 hvy178 => ?_)
            obtain ⟨hvy178, rfl⟩ := hvy178
            refine z_if_lt (tgt := 62) C dX10_fall_53 (by decide) (by omega) (fun hby182 => ?_) (fun hby182 => ?_)
            · refine z_aload_n C 0 dX10_fall_62 rfl ?_
              have hey184 : (uZ F 12 (0)) 15 = F 15 := (fn rfl (by decide))
              have hey185 : (uZ F 12 (0)) 16 = F 16 := (fn rfl (by decide))
              refine z_cV (As := []) (rest := []) (ci := 12) C (c_X10_keeps l D A cs tt N ad _ i hN _ hgy26 _ hgy177 (x) hA (by omega) (by omega)) (by omega) hay1 hgy26 rfl rfl mv_yX10_keeps q_1870 hd_yX10_keeps (by decide) (Nat.le_of_ble_eq_true rfl) (by decide) dX10_fall_63 rfl (kV0 fun gvy183 hvy183 => ?_)
              obtain ⟨⟨Fvy183, hcvy183, hbvy183, hFvy183⟩, ⟨rvy183, hdvy183, hAvy183, hyvy183⟩, hfvy183⟩ := hvy183
              have hk0vy183 : rvy183 0 = r 0 := hyvy183 0 (by omega)
              have hk1vy183 : rvy183 1 = r 1 := hyvy183 1 (by omega)
              have hk5vy183 : rvy183 5 = r 5 := hyvy183 5 (by omega)
              obtain ⟨⟨hsyy186, htyy186, hnyy186, hpyy186⟩, hlyy186⟩ := okA.at0 hAvy183
              simp only [Nat.zero_add] at hsyy186 hnyy186 hpyy186
              have hmn : ∀ s, s < 4 → 0 ≤ rvy183 (6 + 86 * s) ∧ rvy183 (6 + 86 * s) ≤ 12 := fun s hs => (hsyy186 s hs).1
              have h5 : 0 ≤ rvy183 5 ∧ rvy183 5 ≤ 6 := hpyy186
              refine z_aload_n C 0 dX10_fall_66 rfl ?_
              refine z_iconst (z := 0) C dX10_fall_67 rfl ?_
              refine z_iload_n C 1 dX10_fall_68 rfl ?_
              refine z_iload_n C 2 dX10_fall_69 rfl ?_
              refine z_iload_n C 3 dX10_fall_70 rfl ?_
              refine z_aload_n C 0 dX10_fall_71 rfl ?_
              refine z_iconst (z := 0) C dX10_fall_72 rfl ?_
              have hey188 : Fvy183 14 = F 14 := ((hFvy183 14 (by decide) (by decide)).trans (fn rfl (by decide)))
              have hey189 : Fvy183 25 = F 25 := ((hFvy183 25 (by decide) (by decide)).trans (fn rfl (by decide)))
              have hgy190 := (hfvy183 (i + 4) (ne_o (i := i) (c := 4) (d := 0) rfl) (ne_o (i := i) (c := 4) (d := 1) rfl)).trans hgy181
              refine z_cV (As := [.int (zI (0))]) (rest := [.int (zI (z2)), .int (zI (z1)), .int (zI ((n : Int))), .int (zI (0)), .ref (ad i)]) (ci := 12) C (c_X10_airOf l D A cs tt N ad _ i hN _ hcvy183 _ hdvy183 _ hgy190 0 (by omega) (by omega) (by omega) (by omega) hai) (by omega) hay1 hcvy183 rfl rfl mv_yX10_airOf q_1827 hd_yX10_airOf (by decide) (Nat.le_of_ble_eq_true rfl) (by decide) dX10_fall_73 rfl (kI0 fun vy187 gvy187 hvy187 => ?_)
              obtain ⟨hvy187, rfl⟩ := hvy187
              obtain ⟨py191, hpy191⟩ : ∃ p9 : Nat, 0 + 6 + 86 * n = p9 := ⟨_, rfl⟩
              have hSy192 := ((okA.at0 hAvy183).1.1 n (by omega)).of (p2 := py191) (by omega)
              obtain ⟨b1hSy192, b2hSy192, b3hSy192, b4hSy192⟩ := mBb (t := rvy183 0 + x) (by omega)
              have hmky193 := hSy192.1
              have hcy194n := (okA.at0 hAvy183).1.2.2.1
              have hcy194t := (okA.at0 hAvy183).1.2.1
              have hwy196 : rvy183 (b + 1) = r (b + 1) := (hyvy183 _ (by omega)).trans (rfl)
              refine z_cV (As := [.int (zI (0)), .int (zI ((n : Int))), .int (zI (z1)), .int (zI (z2)), .int (zI (vy187))]) (rest := []) (ci := 12) C (c_X10_drops l D A cs tt N ad _ i hN _ hcvy183 _ hdvy183  0 n py191 hpy191 (by omega) (by omega) (by omega) (mB (rvy183 0 + x)) (eB (rvy183 0 + x)) (by omega) (by omega) hSy192 (by omega) (by omega) (z1) (by omega) (z2) (by omega) (vy187) (by omega)) (by omega) hay1 hcvy183 rfl rfl mv_yX10_drops q_1893 hd_yX10_drops (by decide) (Nat.le_of_ble_eq_true rfl) (by decide) dX10_fall_76 rfl (kV0 fun gvy195 hvy195 => ?_)
              obtain ⟨⟨rvy195, hcvy195, hovy195, hnvy195, hyvy195⟩, hfvy195⟩ := hvy195
              have hkvy195 := hovy195.1
              have hcy1940 : rvy195 0 = rvy183 0 := (hyvy195 0 (by omega) (by omega))
              have hcy1945 : rvy195 (0 + 5) = rvy183 (0 + 5) := (hyvy195 (0 + 5) (by omega) (by omega))
              have hcy1946 := (okA.at0 hAvy183).1.2.2.2
              have hcy194 : okW rvy195 0 (x + 1) := okW.slope (okA.at0 hAvy183).1 (s := n) (p := py191) (by omega) (by omega) (hovy195.mono (by omega) (by omega)) hnvy195 hcy1940 (by omega) (fun j a1 a2 a3 => (hyvy195 j (by omega) (by omega)))
              have hAy197 : okA rvy195 (x + 1) := okA.first hAvy183 (by omega) (fun j a => (hyvy195 j (by omega) (by omega))) hcy194 (by omega)
              obtain ⟨⟨hsyy198, htyy198, hnyy198, hpyy198⟩, hlyy198⟩ := okA.at0 hAy197
              simp only [Nat.zero_add] at hsyy198 hnyy198 hpyy198
              have hmn : ∀ s, s < 4 → 0 ≤ rvy195 (6 + 86 * s) ∧ rvy195 (6 + 86 * s) ≤ 12 := fun s hs => (hsyy198 s hs).1
              have h5 : 0 ≤ rvy195 5 ∧ rvy195 5 ≤ 6 := hpyy198
              refine z_aload_n C 0 dX10_fall_79 rfl ?_
              refine z_iconst (z := 0) C dX10_fall_80 rfl ?_
              refine z_iload_n C 1 dX10_fall_81 rfl ?_
              obtain ⟨py199, hpy199⟩ : ∃ p9 : Nat, 0 + 6 + 86 * n = p9 := ⟨_, rfl⟩
              have hgy200 := (hfvy195 (i) (ne_o (i := i) (c := 0) (d := 1) rfl)).trans hcvy183
              refine z_cV (As := [.int (zI (0)), .int (zI ((n : Int)))]) (rest := []) (ci := 12) C (c_X10_many l D A cs tt N ad _ i hN _ hgy200 _ hcvy195 0 n py199 hpy199 (by omega) (by omega)) (by omega) hay1 hgy200 rfl rfl mv_yX10_many q_1733 hd_yX10_many (by decide) (Nat.le_of_ble_eq_true rfl) (by decide) dX10_fall_82 rfl (kI0 fun vy201 gvy201 hvy201 => ?_)
              obtain ⟨rfl, rfl⟩ := hvy201
              obtain ⟨xy202, exy203, hxy204⟩ := zI_of (zI (rvy195 (py199)))
              rw [exy203]
              have hFy205 : ∀ f, f ≠ 12 → f ≠ 15 → f ≠ 16 → Fvy183 f = F f := fun f n12 n15 n16 => ((hFvy183 f n15 n16).trans ((uZ_n _ _ n12).trans rfl))
              have hey206 : Fvy183 13 = F 13 := ((hFvy183 13 (by decide) (by decide)).trans (fn rfl (by decide)))
              have hey207 : Fvy183 14 = F 14 := ((hFvy183 14 (by decide) (by decide)).trans (fn rfl (by decide)))
              have hey208 : Fvy183 15 = Fvy183 15 := rfl
              have hey209 : Fvy183 16 = Fvy183 16 := rfl
              have hey210 : Fvy183 17 = F 17 := ((hFvy183 17 (by decide) (by decide)).trans (fn rfl (by decide)))
              have hey211 : Fvy183 18 = F 18 := ((hFvy183 18 (by decide) (by decide)).trans (fn rfl (by decide)))
              have hey212 : Fvy183 19 = F 19 := ((hFvy183 19 (by decide) (by decide)).trans (fn rfl (by decide)))
              have hey213 : Fvy183 20 = F 20 := ((hFvy183 20 (by decide) (by decide)).trans (fn rfl (by decide)))
              have hey214 : Fvy183 23 = F 23 := ((hFvy183 23 (by decide) (by decide)).trans (fn rfl (by decide)))
              have hey215 : Fvy183 25 = F 25 := ((hFvy183 25 (by decide) (by decide)).trans (fn rfl (by decide)))
              have hey216 : Fvy183 27 = F 27 := ((hFvy183 27 (by decide) (by decide)).trans (fn rfl (by decide)))
              have hey217 : Fvy183 28 = F 28 := ((hFvy183 28 (by decide) (by decide)).trans (fn rfl (by decide)))
              have hey218 : Fvy183 29 = F 29 := ((hFvy183 29 (by decide) (by decide)).trans (fn rfl (by decide)))
              have hKy219 : okF Fvy183 := by unfold okF; omega
              have hMy220 : okMr cs ad gvy195 i (x + 1) Fvy183 rvy195 := okMr.upd hM hgy200 hKy219 (fun f a => hFy205 f (by omega) (by omega) (by omega)) hcvy195 (hAy197.mono (by omega)) (fun j a b => by
                  exact Or.inl (by rw [hfvy195 _ (by omega)]; rw [hfvy183 _ (by omega) (by omega)]; rw [egy25, va_up_ne _ _ (by omega)]))
              have h23 : Fvy183 23 = F 23 := ((hFvy183 23 (by decide) (by decide)).trans (fn rfl (by decide)))
              exact z_iret C hr hlk dX10_fall_85 (by decide) (by decide) ⟨xy202, rfl, rfl, rfl, by omega, ⟨_, _, hMy220, by omega⟩, fun j j1 => by rw [hfvy195 _ (by omega)]; rw [hfvy183 _ (by omega) (by omega)]; rw [egy25, va_up_ne _ _ (by omega)]⟩
            · refine z_aload_n C 0 dX10_fall_56 rfl ?_
              refine z_iconst (z := 1) C dX10_fall_57 rfl ?_
              have hgy221 := up_n egy25 ha11 (ne_o (i := i) (c := 11) (d := 0) rfl)
              refine z_cV (As := [.int (zI (1))]) (rest := []) (ci := 12) C (c_X10_refuses l D A cs tt N ad _ i hN _ hgy26 _ hgy221 (1) (by omega)) (by omega) hay1 hgy26 rfl rfl mv_yX10_refuses q_1866 hd_yX10_refuses (by decide) (Nat.le_of_ble_eq_true rfl) (by decide) dX10_fall_58 rfl (kI0 fun vy222 gvy222 hvy222 => ?_)
              obtain ⟨hrvy222, ⟨tvy222, hdvy222⟩, hfvy222⟩ := hvy222
              have hgy223 := (hfvy222 (i) (ne_o (i := i) (c := 0) (d := 11) rfl)).trans hgy26
              have hgy224 := (hfvy222 (i + 1) (ne_o (i := i) (c := 1) (d := 11) rfl)).trans hgy177
              have hFy225 : ∀ f, f ≠ 12 → (uZ F 12 (0)) f = F f := fun f n12 => ((uZ_n _ _ n12).trans rfl)
              have hey226 : (uZ F 12 (0)) 13 = F 13 := (fn rfl (by decide))
              have hey227 : (uZ F 12 (0)) 14 = F 14 := (fn rfl (by decide))
              have hey228 : (uZ F 12 (0)) 15 = F 15 := (fn rfl (by decide))
              have hey229 : (uZ F 12 (0)) 16 = F 16 := (fn rfl (by decide))
              have hey230 : (uZ F 12 (0)) 17 = F 17 := (fn rfl (by decide))
              have hey231 : (uZ F 12 (0)) 18 = F 18 := (fn rfl (by decide))
              have hey232 : (uZ F 12 (0)) 19 = F 19 := (fn rfl (by decide))
              have hey233 : (uZ F 12 (0)) 20 = F 20 := (fn rfl (by decide))
              have hey234 : (uZ F 12 (0)) 23 = F 23 := (fn rfl (by decide))
              have hey235 : (uZ F 12 (0)) 25 = F 25 := (fn rfl (by decide))
              have hey236 : (uZ F 12 (0)) 27 = F 27 := (fn rfl (by decide))
              have hey237 : (uZ F 12 (0)) 28 = F 28 := (fn rfl (by decide))
              have hey238 : (uZ F 12 (0)) 29 = F 29 := (fn rfl (by decide))
              have hKy239 : okF (uZ F 12 (0)) := by unfold okF; omega
              have hMy240 : okMr cs ad gvy222 i (x + 1) (uZ F 12 (0)) r := okMr.upd hM hgy223 hKy239 (fun f a => hFy225 f (by omega)) hgy224 (hA.mono (by omega)) (fun j a b => by
                  by_cases e0 : j = i + 11
                  · exact Or.inr ⟨11, _, e0, lsP.l (by decide), by rw [e0]; exact hdvy222⟩
                  exact Or.inl (by rw [hfvy222 _ (by omega)]; rw [egy25, va_up_ne _ _ (by omega)]))
              have h23 : (uZ F 12 (0)) 23 = F 23 := (fn rfl (by decide))
              exact z_iret C hr hlk dX10_fall_61 (by decide) (by decide) ⟨vy222, rfl, rfl, rfl, by omega, ⟨_, _, hMy240, by omega⟩, fun j j1 => by rw [hfvy222 _ (by omega)]; rw [egy25, va_up_ne _ _ (by omega)]⟩
        · refine z_if_eq (tgt := 56) C dX10_fall_40 (by decide) (by omega) (fun _ => ?_) (fun h => absurd h (by omega))
          refine z_aload_n C 0 dX10_fall_56 rfl ?_
          refine z_iconst (z := 1) C dX10_fall_57 rfl ?_
          have hgy241 := up_n egy25 ha11 (ne_o (i := i) (c := 11) (d := 0) rfl)
          refine z_cV (As := [.int (zI (1))]) (rest := []) (ci := 12) C (c_X10_refuses l D A cs tt N ad _ i hN _ hgy26 _ hgy241 (1) (by omega)) (by omega) hay1 hgy26 rfl rfl mv_yX10_refuses q_1866 hd_yX10_refuses (by decide) (Nat.le_of_ble_eq_true rfl) (by decide) dX10_fall_58 rfl (kI0 fun vy242 gvy242 hvy242 => ?_)
          obtain ⟨hrvy242, ⟨tvy242, hdvy242⟩, hfvy242⟩ := hvy242
          have hgy243 := (hfvy242 (i) (ne_o (i := i) (c := 0) (d := 11) rfl)).trans hgy26
          have hgy244 := up_n egy25 ha1 (ne_o (i := i) (c := 1) (d := 0) rfl)
          have hgy245 := (hfvy242 (i + 1) (ne_o (i := i) (c := 1) (d := 11) rfl)).trans hgy244
          have hFy246 : ∀ f, f ≠ 12 → (uZ F 12 (0)) f = F f := fun f n12 => ((uZ_n _ _ n12).trans rfl)
          have hey247 : (uZ F 12 (0)) 13 = F 13 := (fn rfl (by decide))
          have hey248 : (uZ F 12 (0)) 14 = F 14 := (fn rfl (by decide))
          have hey249 : (uZ F 12 (0)) 15 = F 15 := (fn rfl (by decide))
          have hey250 : (uZ F 12 (0)) 16 = F 16 := (fn rfl (by decide))
          have hey251 : (uZ F 12 (0)) 17 = F 17 := (fn rfl (by decide))
          have hey252 : (uZ F 12 (0)) 18 = F 18 := (fn rfl (by decide))
          have hey253 : (uZ F 12 (0)) 19 = F 19 := (fn rfl (by decide))
          have hey254 : (uZ F 12 (0)) 20 = F 20 := (fn rfl (by decide))
          have hey255 : (uZ F 12 (0)) 23 = F 23 := (fn rfl (by decide))
          have hey256 : (uZ F 12 (0)) 25 = F 25 := (fn rfl (by decide))
          have hey257 : (uZ F 12 (0)) 27 = F 27 := (fn rfl (by decide))
          have hey258 : (uZ F 12 (0)) 28 = F 28 := (fn rfl (by decide))
          have hey259 : (uZ F 12 (0)) 29 = F 29 := (fn rfl (by decide))
          have hKy260 : okF (uZ F 12 (0)) := by unfold okF; omega
          have hMy261 : okMr cs ad gvy242 i (x + 1) (uZ F 12 (0)) r := okMr.upd hM hgy243 hKy260 (fun f a => hFy246 f (by omega)) hgy245 (hA.mono (by omega)) (fun j a b => by
              by_cases e0 : j = i + 11
              · exact Or.inr ⟨11, _, e0, lsP.l (by decide), by rw [e0]; exact hdvy242⟩
              exact Or.inl (by rw [hfvy242 _ (by omega)]; rw [egy25, va_up_ne _ _ (by omega)]))
          have h23 : (uZ F 12 (0)) 23 = F 23 := (fn rfl (by decide))
          exact z_iret C hr hlk dX10_fall_61 (by decide) (by decide) ⟨vy242, rfl, rfl, rfl, by omega, ⟨_, _, hMy261, by omega⟩, fun j j1 => by rw [hfvy242 _ (by omega)]; rw [egy25, va_up_ne _ _ (by omega)]⟩
    · refine z_if_eq (tgt := 56) C dX10_fall_25 (by decide) (by omega) (fun _ => ?_) (fun h => absurd h (by omega))
      refine z_aload_n C 0 dX10_fall_56 rfl ?_
      refine z_iconst (z := 1) C dX10_fall_57 rfl ?_
      have hgy262 := up_n egy25 ha11 (ne_o (i := i) (c := 11) (d := 0) rfl)
      refine z_cV (As := [.int (zI (1))]) (rest := []) (ci := 12) C (c_X10_refuses l D A cs tt N ad _ i hN _ hgy26 _ hgy262 (1) (by omega)) (by omega) hay1 hgy26 rfl rfl mv_yX10_refuses q_1866 hd_yX10_refuses (by decide) (Nat.le_of_ble_eq_true rfl) (by decide) dX10_fall_58 rfl (kI0 fun vy263 gvy263 hvy263 => ?_)
      obtain ⟨hrvy263, ⟨tvy263, hdvy263⟩, hfvy263⟩ := hvy263
      have hgy264 := (hfvy263 (i) (ne_o (i := i) (c := 0) (d := 11) rfl)).trans hgy26
      have hgy265 := up_n egy25 ha1 (ne_o (i := i) (c := 1) (d := 0) rfl)
      have hgy266 := (hfvy263 (i + 1) (ne_o (i := i) (c := 1) (d := 11) rfl)).trans hgy265
      have hFy267 : ∀ f, f ≠ 12 → (uZ F 12 (0)) f = F f := fun f n12 => ((uZ_n _ _ n12).trans rfl)
      have hey268 : (uZ F 12 (0)) 13 = F 13 := (fn rfl (by decide))
      have hey269 : (uZ F 12 (0)) 14 = F 14 := (fn rfl (by decide))
      have hey270 : (uZ F 12 (0)) 15 = F 15 := (fn rfl (by decide))
      have hey271 : (uZ F 12 (0)) 16 = F 16 := (fn rfl (by decide))
      have hey272 : (uZ F 12 (0)) 17 = F 17 := (fn rfl (by decide))
      have hey273 : (uZ F 12 (0)) 18 = F 18 := (fn rfl (by decide))
      have hey274 : (uZ F 12 (0)) 19 = F 19 := (fn rfl (by decide))
      have hey275 : (uZ F 12 (0)) 20 = F 20 := (fn rfl (by decide))
      have hey276 : (uZ F 12 (0)) 23 = F 23 := (fn rfl (by decide))
      have hey277 : (uZ F 12 (0)) 25 = F 25 := (fn rfl (by decide))
      have hey278 : (uZ F 12 (0)) 27 = F 27 := (fn rfl (by decide))
      have hey279 : (uZ F 12 (0)) 28 = F 28 := (fn rfl (by decide))
      have hey280 : (uZ F 12 (0)) 29 = F 29 := (fn rfl (by decide))
      have hKy281 : okF (uZ F 12 (0)) := by unfold okF; omega
      have hMy282 : okMr cs ad gvy263 i (x + 1) (uZ F 12 (0)) r := okMr.upd hM hgy264 hKy281 (fun f a => hFy267 f (by omega)) hgy266 (hA.mono (by omega)) (fun j a b => by
          by_cases e0 : j = i + 11
          · exact Or.inr ⟨11, _, e0, lsP.l (by decide), by rw [e0]; exact hdvy263⟩
          exact Or.inl (by rw [hfvy263 _ (by omega)]; rw [egy25, va_up_ne _ _ (by omega)]))
      have h23 : (uZ F 12 (0)) 23 = F 23 := (fn rfl (by decide))
      exact z_iret C hr hlk dX10_fall_61 (by decide) (by decide) ⟨vy263, rfl, rfl, rfl, by omega, ⟨_, _, hMy282, by omega⟩, fun j j1 => by rw [hfvy263 _ (by omega)]; rw [egy25, va_up_ne _ _ (by omega)]⟩
  · refine z_if_eq (tgt := 56) C dX10_fall_16 (by decide) (by omega) (fun _ => ?_) (fun h => absurd h (by omega))
    refine z_aload_n C 0 dX10_fall_56 rfl ?_
    refine z_iconst (z := 1) C dX10_fall_57 rfl ?_
    have hgy283 := up_n egy25 ha11 (ne_o (i := i) (c := 11) (d := 0) rfl)
    refine z_cV (As := [.int (zI (1))]) (rest := []) (ci := 12) C (c_X10_refuses l D A cs tt N ad _ i hN _ hgy26 _ hgy283 (1) (by omega)) (by omega) hay1 hgy26 rfl rfl mv_yX10_refuses q_1866 hd_yX10_refuses (by decide) (Nat.le_of_ble_eq_true rfl) (by decide) dX10_fall_58 rfl (kI0 fun vy284 gvy284 hvy284 => ?_)
    obtain ⟨hrvy284, ⟨tvy284, hdvy284⟩, hfvy284⟩ := hvy284
    have hgy285 := (hfvy284 (i) (ne_o (i := i) (c := 0) (d := 11) rfl)).trans hgy26
    have hgy286 := up_n egy25 ha1 (ne_o (i := i) (c := 1) (d := 0) rfl)
    have hgy287 := (hfvy284 (i + 1) (ne_o (i := i) (c := 1) (d := 11) rfl)).trans hgy286
    have hFy288 : ∀ f, f ≠ 12 → (uZ F 12 (0)) f = F f := fun f n12 => ((uZ_n _ _ n12).trans rfl)
    have hey289 : (uZ F 12 (0)) 13 = F 13 := (fn rfl (by decide))
    have hey290 : (uZ F 12 (0)) 14 = F 14 := (fn rfl (by decide))
    have hey291 : (uZ F 12 (0)) 15 = F 15 := (fn rfl (by decide))
    have hey292 : (uZ F 12 (0)) 16 = F 16 := (fn rfl (by decide))
    have hey293 : (uZ F 12 (0)) 17 = F 17 := (fn rfl (by decide))
    have hey294 : (uZ F 12 (0)) 18 = F 18 := (fn rfl (by decide))
    have hey295 : (uZ F 12 (0)) 19 = F 19 := (fn rfl (by decide))
    have hey296 : (uZ F 12 (0)) 20 = F 20 := (fn rfl (by decide))
    have hey297 : (uZ F 12 (0)) 23 = F 23 := (fn rfl (by decide))
    have hey298 : (uZ F 12 (0)) 25 = F 25 := (fn rfl (by decide))
    have hey299 : (uZ F 12 (0)) 27 = F 27 := (fn rfl (by decide))
    have hey300 : (uZ F 12 (0)) 28 = F 28 := (fn rfl (by decide))
    have hey301 : (uZ F 12 (0)) 29 = F 29 := (fn rfl (by decide))
    have hKy302 : okF (uZ F 12 (0)) := by unfold okF; omega
    have hMy303 : okMr cs ad gvy284 i (x + 1) (uZ F 12 (0)) r := okMr.upd hM hgy285 hKy302 (fun f a => hFy288 f (by omega)) hgy287 (hA.mono (by omega)) (fun j a b => by
        by_cases e0 : j = i + 11
        · exact Or.inr ⟨11, _, e0, lsP.l (by decide), by rw [e0]; exact hdvy284⟩
        exact Or.inl (by rw [hfvy284 _ (by omega)]; rw [egy25, va_up_ne _ _ (by omega)]))
    have h23 : (uZ F 12 (0)) 23 = F 23 := (fn rfl (by decide))
    exact z_iret C hr hlk dX10_fall_61 (by decide) (by decide) ⟨vy284, rfl, rfl, rfl, by omega, ⟨_, _, hMy303, by omega⟩, fun j j1 => by rw [hfvy284 _ (by omega)]; rw [egy25, va_up_ne _ _ (by omega)]⟩

set_option maxRecDepth 100000 in
set_option maxHeartbeats 4000000 in
theorem c_X10_fall_b (l : Launch) (D : va_G) (A : Nat → Prop) (cs : Nat → ClassId) (tt : Nat) (N : Nat) (ad : Nat → Nat) (g : Nat → va_E) (i : Nat) (hN : i + 30 ≤ N) (x : Int) (hx : 0 ≤ x ∧ x ≤ 512) (F r : Nat → Int) (hM : okMr cs ad g i x F r) (z : Int) (hz : -2147483648 ≤ z ∧ z ≤ 2147483647) (hzo : z < 0 ∨ 3 < z) (z1 : Int) (hz1 : -2147483648 ≤ z1 ∧ z1 ≤ 2147483647) (z2 : Int) (hz2 : -2147483648 ≤ z2 ∧ z2 ≤ 2147483647) : zM l yX10_fall cX10_fall 4 (some .int) ({ frames := 6, cells := 0, slots := 0, locals := 360 } : Room) D A cs tt N ad g [.ref (ad i), .int (zI (z)), .int (zI (z1)), .int (zI (z2))] (rI0 N ad fun q g' => (-2147483648 ≤ q ∧ q ≤ 2147483647) ∧ (∃ F' r' : Nat → Int, okMr cs ad g' i (x + 1) F' r' ∧ F' 23 = F 23) ∧ ∀ j, j < i ∨ i + 30 ≤ j → g' j = g j) := by
  obtain ⟨hg, ⟨⟨e13, e14, e25, e27, e29⟩, k15, k16, k17, k18, k19, k20, k23⟩, hRD, hTx, hA, st, op, ai, fa, mu, tb, ns, nh, nd, rf, pi, tp, te, ki, li, ok1, ok2, fo, dd, dps, ⟨ha1, ha2, ha3, ha4, ha5, ha6, ha7, ha8, ha9, ha10, ha11, ha12, ha13, ha14, ha15, ha24, ha25, ha26, ha27, ha28, ha29⟩, hEv, hPt, hns, htp⟩ := id hM
  obtain ⟨-, hop, hai, hfa, hT, hT1⟩ := id hEv
  have hay1 : zAt ad (i) (ad i) := rfl
  have hay2 : zAt ad (i + 1) (ad (i + 1)) := rfl
  have hay3 : zAt ad (i + 2) (ad (i + 2)) := rfl
  have hay4 : zAt ad (i + 3) (ad (i + 3)) := rfl
  have hay5 : zAt ad (i + 4) (ad (i + 4)) := rfl
  have hay6 : zAt ad (i + 5) (ad (i + 5)) := rfl
  have hay7 : zAt ad (i + 6) (ad (i + 6)) := rfl
  have hay8 : zAt ad (i + 7) (ad (i + 7)) := rfl
  have hay9 : zAt ad (i + 8) (ad (i + 8)) := rfl
  have hay10 : zAt ad (i + 9) (ad (i + 9)) := rfl
  have hay11 : zAt ad (i + 10) (ad (i + 10)) := rfl
  have hay12 : zAt ad (i + 11) (ad (i + 11)) := rfl
  have hay13 : zAt ad (i + 12) (ad (i + 12)) := rfl
  have hay14 : zAt ad (i + 13) (ad (i + 13)) := rfl
  have hay15 : zAt ad (i + 14) (ad (i + 14)) := rfl
  have hay16 : zAt ad (i + 15) (ad (i + 15)) := rfl
  have hay17 : zAt ad (i + 24) (ad (i + 24)) := rfl
  have hay18 : zAt ad (i + 25) (ad (i + 25)) := rfl
  have hay19 : zAt ad (i + 26) (ad (i + 26)) := rfl
  have hay20 : zAt ad (i + 27) (ad (i + 27)) := rfl
  have hay21 : zAt ad (i + 28) (ad (i + 28)) := rfl
  have hay22 : zAt ad (i + 29) (ad (i + 29)) := rfl
  obtain ⟨⟨hsyy23, htyy23, hnyy23, hpyy23⟩, hlyy23⟩ := okA.at0 hA
  simp only [Nat.zero_add] at hsyy23 hnyy23 hpyy23
  have hmn : ∀ s, s < 4 → 0 ≤ r (6 + 86 * s) ∧ r (6 + 86 * s) ≤ 12 := fun s hs => (hsyy23 s hs).1
  have h5 : 0 ≤ r 5 ∧ r 5 ≤ 6 := hpyy23
  refine z_of (by decide) (Nat.le_of_ble_eq_true rfl) ?_
  intro pZ eZ sZ mZ below meth cZ C hr hlk hnm
  refine z_lv (lv' := [(0, .ref (ad i)), (1, .int (zI (z))), (2, .int (zI (z1))), (3, .int (zI (z2)))]) [0, 1, 2, 3] rfl ?_
  refine z_aload_n C 0 dX10_fall_0 rfl ?_
  refine z_iconst (z := 0) C dX10_fall_1 rfl ?_
  refine z_put (fs' := mF ad (i) (uZ F 12 (0))) C (by omega) hay1 hg tyX10 tyX10_ok nmX10 rfl inA_X10 12 (by decide) q_1471 rfl rfl rfl rfl (Nat.le_of_ble_eq_true rfl) rfl dX10_fall_2 (fun gy24 egy25 => ?_)
  have hgy26 := up_s egy25
  refine z_iload_n C 1 dX10_fall_5 rfl ?_
  refine z_iconst (z := 0) C dX10_fall_6 rfl ?_
  refine z_aload_n C 0 dX10_fall_7 rfl ?_
  refine z_get (v := .int (zI (F 13))) C (by omega) hay1 hgy26 rfl inA_X10 13 (by decide) q_1472 rfl (fv (F := (uZ F 12 (0))) (f := 13) (fn rfl (by decide))) dX10_fall_8 ?_
  refine z_iconst (z := 1) C dX10_fall_11 rfl ?_
  refine z_isub C dX10_fall_12 ?_
  refine z_cS (As := [.int (zI (z)), .int (zI (0)), .int (zI ((F 13) - 1))]) (rest := []) C (c_X10_within l D A cs tt N ad _ (z) (by omega) (0) (by omega) ((F 13) - 1) (by omega)) ms_yX10_within q_1686 hd_yX10_within (by decide) (Nat.le_of_ble_eq_true rfl) (by decide) dX10_fall_13 rfl (kI0 fun vy27 gvy27 hvy27 => ?_)
  obtain ⟨hvy27, rfl⟩ := hvy27
  obtain rfl : vy27 = 0 := by omega
  refine z_if_eq (tgt := 56) C dX10_fall_16 (by decide) (by omega) (fun _ => ?_) (fun h => absurd h (by omega))
  refine z_aload_n C 0 dX10_fall_56 rfl ?_
  refine z_iconst (z := 1) C dX10_fall_57 rfl ?_
  have hgy28 := up_n egy25 ha11 (ne_o (i := i) (c := 11) (d := 0) rfl)
  refine z_cV (As := [.int (zI (1))]) (rest := []) (ci := 12) C (c_X10_refuses l D A cs tt N ad _ i hN _ hgy26 _ hgy28 (1) (by omega)) (by omega) hay1 hgy26 rfl rfl mv_yX10_refuses q_1866 hd_yX10_refuses (by decide) (Nat.le_of_ble_eq_true rfl) (by decide) dX10_fall_58 rfl (kI0 fun vy29 gvy29 hvy29 => ?_)
  obtain ⟨hrvy29, ⟨tvy29, hdvy29⟩, hfvy29⟩ := hvy29
  have hgy30 := (hfvy29 (i) (ne_o (i := i) (c := 0) (d := 11) rfl)).trans hgy26
  have hgy31 := up_n egy25 ha1 (ne_o (i := i) (c := 1) (d := 0) rfl)
  have hgy32 := (hfvy29 (i + 1) (ne_o (i := i) (c := 1) (d := 11) rfl)).trans hgy31
  have hFy33 : ∀ f, f ≠ 12 → (uZ F 12 (0)) f = F f := fun f n12 => ((uZ_n _ _ n12).trans rfl)
  have hey34 : (uZ F 12 (0)) 13 = F 13 := (fn rfl (by decide))
  have hey35 : (uZ F 12 (0)) 14 = F 14 := (fn rfl (by decide))
  have hey36 : (uZ F 12 (0)) 15 = F 15 := (fn rfl (by decide))
  have hey37 : (uZ F 12 (0)) 16 = F 16 := (fn rfl (by decide))
  have hey38 : (uZ F 12 (0)) 17 = F 17 := (fn rfl (by decide))
  have hey39 : (uZ F 12 (0)) 18 = F 18 := (fn rfl (by decide))
  have hey40 : (uZ F 12 (0)) 19 = F 19 := (fn rfl (by decide))
  have hey41 : (uZ F 12 (0)) 20 = F 20 := (fn rfl (by decide))
  have hey42 : (uZ F 12 (0)) 23 = F 23 := (fn rfl (by decide))
  have hey43 : (uZ F 12 (0)) 25 = F 25 := (fn rfl (by decide))
  have hey44 : (uZ F 12 (0)) 27 = F 27 := (fn rfl (by decide))
  have hey45 : (uZ F 12 (0)) 28 = F 28 := (fn rfl (by decide))
  have hey46 : (uZ F 12 (0)) 29 = F 29 := (fn rfl (by decide))
  have hKy47 : okF (uZ F 12 (0)) := by unfold okF; omega
  have hMy48 : okMr cs ad gvy29 i (x + 1) (uZ F 12 (0)) r := okMr.upd hM hgy30 hKy47 (fun f a => hFy33 f (by omega)) hgy32 (hA.mono (by omega)) (fun j a b => by
      by_cases e0 : j = i + 11
      · exact Or.inr ⟨11, _, e0, lsP.l (by decide), by rw [e0]; exact hdvy29⟩
      exact Or.inl (by rw [hfvy29 _ (by omega)]; rw [egy25, va_up_ne _ _ (by omega)]))
  have h23 : (uZ F 12 (0)) 23 = F 23 := (fn rfl (by decide))
  exact z_iret C hr hlk dX10_fall_61 (by decide) (by decide) ⟨vy29, rfl, rfl, rfl, by omega, ⟨_, _, hMy48, by omega⟩, fun j j1 => by rw [hfvy29 _ (by omega)]; rw [egy25, va_up_ne _ _ (by omega)]⟩

set_option maxRecDepth 100000 in
set_option maxHeartbeats 4000000 in
theorem c_X10_fall (l : Launch) (D : va_G) (A : Nat → Prop) (cs : Nat → ClassId) (tt : Nat) (N : Nat) (ad : Nat → Nat) (g : Nat → va_E) (i : Nat) (hN : i + 30 ≤ N) (x : Int) (hx : 0 ≤ x ∧ x ≤ 512) (F r : Nat → Int) (hM : okMr cs ad g i x F r) (z : Int) (hz : -2147483648 ≤ z ∧ z ≤ 2147483647) (z1 : Int) (hz1 : -2147483648 ≤ z1 ∧ z1 ≤ 2147483647) (z2 : Int) (hz2 : -2147483648 ≤ z2 ∧ z2 ≤ 2147483647) : zM l yX10_fall cX10_fall 4 (some .int) ({ frames := 6, cells := 0, slots := 0, locals := 360 } : Room) D A cs tt N ad g [.ref (ad i), .int (zI (z)), .int (zI (z1)), .int (zI (z2))] (rI0 N ad fun q g' => (-2147483648 ≤ q ∧ q ≤ 2147483647) ∧ (∃ F' r' : Nat → Int, okMr cs ad g' i (x + 1) F' r' ∧ F' 23 = F 23) ∧ ∀ j, j < i ∨ i + 30 ≤ j → g' j = g j) := by
  by_cases h9 : 0 ≤ z ∧ z ≤ 3
  · obtain ⟨n, rfl⟩ : ∃ n : Nat, z = (n : Int) := ⟨z.toNat, by omega⟩
    exact c_X10_fall_a l D A cs tt N ad g i hN x hx F r hM n (by omega) z1 hz1 z2 hz2
  · exact c_X10_fall_b l D A cs tt N ad g i hN x hx F r hM z hz (by omega) z1 hz1 z2 hz2

set_option maxRecDepth 100000 in
set_option maxHeartbeats 4000000 in
theorem c_X10_dig_a (l : Launch) (D : va_G) (A : Nat → Prop) (cs : Nat → ClassId) (tt : Nat) (N : Nat) (ad : Nat → Nat) (g : Nat → va_E) (i : Nat) (hN : i + 30 ≤ N) (x : Int) (hx : 0 ≤ x ∧ x ≤ 512) (F r : Nat → Int) (hM : okMr cs ad g i x F r) (n : Nat) (hn4 : n < 4) : zM l yX10_dig cX10_dig 3 (some .int) ({ frames := 5, cells := 0, slots := 0, locals := 300 } : Room) D A cs tt N ad g [.ref (ad i), .int (zI ((n : Int)))] (rI0 N ad fun q g' => (-2147483648 ≤ q ∧ q ≤ 2147483647) ∧ (∃ F' r' : Nat → Int, okMr cs ad g' i (x + 1) F' r' ∧ F' 23 = F 23) ∧ ∀ j, j < i ∨ i + 30 ≤ j → g' j = g j) := by
  obtain ⟨hg, ⟨⟨e13, e14, e25, e27, e29⟩, k15, k16, k17, k18, k19, k20, k23⟩, hRD, hTx, hA, st, op, ai, fa, mu, tb, ns, nh, nd, rf, pi, tp, te, ki, li, ok1, ok2, fo, dd, dps, ⟨ha1, ha2, ha3, ha4, ha5, ha6, ha7, ha8, ha9, ha10, ha11, ha12, ha13, ha14, ha15, ha24, ha25, ha26, ha27, ha28, ha29⟩, hEv, hPt, hns, htp⟩ := id hM
  obtain ⟨-, hop, hai, hfa, hT, hT1⟩ := id hEv
  have hay1 : zAt ad (i) (ad i) := rfl
  have hay2 : zAt ad (i + 1) (ad (i + 1)) := rfl
  have hay3 : zAt ad (i + 2) (ad (i + 2)) := rfl
  have hay4 : zAt ad (i + 3) (ad (i + 3)) := rfl
  have hay5 : zAt ad (i + 4) (ad (i + 4)) := rfl
  have hay6 : zAt ad (i + 5) (ad (i + 5)) := rfl
  have hay7 : zAt ad (i + 6) (ad (i + 6)) := rfl
  have hay8 : zAt ad (i + 7) (ad (i + 7)) := rfl
  have hay9 : zAt ad (i + 8) (ad (i + 8)) := rfl
  have hay10 : zAt ad (i + 9) (ad (i + 9)) := rfl
  have hay11 : zAt ad (i + 10) (ad (i + 10)) := rfl
  have hay12 : zAt ad (i + 11) (ad (i + 11)) := rfl
  have hay13 : zAt ad (i + 12) (ad (i + 12)) := rfl
  have hay14 : zAt ad (i + 13) (ad (i + 13)) := rfl
  have hay15 : zAt ad (i + 14) (ad (i + 14)) := rfl
  have hay16 : zAt ad (i + 15) (ad (i + 15)) := rfl
  have hay17 : zAt ad (i + 24) (ad (i + 24)) := rfl
  have hay18 : zAt ad (i + 25) (ad (i + 25)) := rfl
  have hay19 : zAt ad (i + 26) (ad (i + 26)) := rfl
  have hay20 : zAt ad (i + 27) (ad (i + 27)) := rfl
  have hay21 : zAt ad (i + 28) (ad (i + 28)) := rfl
  have hay22 : zAt ad (i + 29) (ad (i + 29)) := rfl
  obtain ⟨⟨hsyy23, htyy23, hnyy23, hpyy23⟩, hlyy23⟩ := okA.at0 hA
  simp only [Nat.zero_add] at hsyy23 hnyy23 hpyy23
  have hmn : ∀ s, s < 4 → 0 ≤ r (6 + 86 * s) ∧ r (6 + 86 * s) ≤ 12 := fun s hs => (hsyy23 s hs).1
  have h5 : 0 ≤ r 5 ∧ r 5 ≤ 6 := hpyy23
  refine z_of (by decide) (Nat.le_of_ble_eq_true rfl) ?_
  intro pZ eZ sZ mZ below meth cZ C hr hlk hnm
  refine z_lv (lv' := [(0, .ref (ad i)), (1, .int (zI ((n : Int))))]) [0, 1] rfl ?_
  refine z_aload_n C 0 dX10_dig_0 rfl ?_
  refine z_iconst (z := 0) C dX10_dig_1 rfl ?_
  refine z_put (fs' := mF ad (i) (uZ F 12 (0))) C (by omega) hay1 hg tyX10 tyX10_ok nmX10 rfl inA_X10 12 (by decide) q_1471 rfl rfl rfl rfl (Nat.le_of_ble_eq_true rfl) rfl dX10_dig_2 (fun gy24 egy25 => ?_)
  have hgy26 := up_s egy25
  refine z_iload_n C 1 dX10_dig_5 rfl ?_
  refine z_iconst (z := 0) C dX10_dig_6 rfl ?_
  refine z_aload_n C 0 dX10_dig_7 rfl ?_
  refine z_get (v := .int (zI (F 13))) C (by omega) hay1 hgy26 rfl inA_X10 13 (by decide) q_1472 rfl (fv (F := (uZ F 12 (0))) (f := 13) (fn rfl (by decide))) dX10_dig_8 ?_
  refine z_iconst (z := 1) C dX10_dig_11 rfl ?_
  refine z_isub C dX10_dig_12 ?_
  refine z_cS (As := [.int (zI ((n : Int))), .int (zI (0)), .int (zI ((F 13) - 1))]) (rest := []) C (c_X10_within l D A cs tt N ad _ ((n : Int)) (by omega) (0) (by omega) ((F 13) - 1) (by omega)) ms_yX10_within q_1686 hd_yX10_within (by decide) (Nat.le_of_ble_eq_true rfl) (by decide) dX10_dig_13 rfl (kI0 fun vy27 gvy27 hvy27 => ?_)
  obtain ⟨hvy27, rfl⟩ := hvy27
  rcases hvy27 with ⟨rfl, hxvy27⟩ | ⟨rfl, hxvy27⟩
  · refine z_if_eq (tgt := 28) C dX10_dig_16 (by decide) (by omega) (fun h => absurd h (by omega)) (fun _ => ?_)
    refine z_aload_n C 0 dX10_dig_19 rfl ?_
    refine z_iconst (z := 0) C dX10_dig_20 rfl ?_
    refine z_iload_n C 1 dX10_dig_21 rfl ?_
    obtain ⟨py28, hpy28⟩ : ∃ p9 : Nat, 0 + 6 + 86 * n = p9 := ⟨_, rfl⟩
    have hgy29 := up_n egy25 ha1 (ne_o (i := i) (c := 1) (d := 0) rfl)
    refine z_cV (As := [.int (zI (0)), .int (zI ((n : Int)))]) (rest := []) (ci := 12) C (c_X10_many l D A cs tt N ad _ i hN _ hgy26 _ hgy29 0 n py28 hpy28 (by omega) (by omega)) (by omega) hay1 hgy26 rfl rfl mv_yX10_many q_1733 hd_yX10_many (by decide) (Nat.le_of_ble_eq_true rfl) (by decide) dX10_dig_22 rfl (kI0 fun vy30 gvy30 hvy30 => ?_)
    obtain ⟨rfl, rfl⟩ := hvy30
    obtain ⟨xy31, exy32, hxy33⟩ := zI_of (zI (r (py28)))
    rw [exy32]
    refine z_if_ne (tgt := 34) C dX10_dig_25 (by decide) (by omega) (fun hby34 => ?_) (fun hby34 => ?_)
    · refine z_aload_n C 0 dX10_dig_34 rfl ?_
      have hey36 : (uZ F 12 (0)) 15 = F 15 := (fn rfl (by decide))
      have hey37 : (uZ F 12 (0)) 16 = F 16 := (fn rfl (by decide))
      refine z_cV (As := []) (rest := []) (ci := 12) C (c_X10_keeps l D A cs tt N ad _ i hN _ hgy26 _ hgy29 (x) hA (by omega) (by omega)) (by omega) hay1 hgy26 rfl rfl mv_yX10_keeps q_1870 hd_yX10_keeps (by decide) (Nat.le_of_ble_eq_true rfl) (by decide) dX10_dig_35 rfl (kV0 fun gvy35 hvy35 => ?_)
      obtain ⟨⟨Fvy35, hcvy35, hbvy35, hFvy35⟩, ⟨rvy35, hdvy35, hAvy35, hyvy35⟩, hfvy35⟩ := hvy35
      have hk0vy35 : rvy35 0 = r 0 := hyvy35 0 (by omega)
      have hk1vy35 : rvy35 1 = r 1 := hyvy35 1 (by omega)
      have hk5vy35 : rvy35 5 = r 5 := hyvy35 5 (by omega)
      have hkpy38 : rvy35 py28 = r py28 := hyvy35 py28 (by omega)
      obtain ⟨⟨hsyy39, htyy39, hnyy39, hpyy39⟩, hlyy39⟩ := okA.at0 hAvy35
      simp only [Nat.zero_add] at hsyy39 hnyy39 hpyy39
      have hmn : ∀ s, s < 4 → 0 ≤ rvy35 (6 + 86 * s) ∧ rvy35 (6 + 86 * s) ≤ 12 := fun s hs => (hsyy39 s hs).1
      have h5 : 0 ≤ rvy35 5 ∧ rvy35 5 ≤ 6 := hpyy39
      refine z_aload_n C 0 dX10_dig_38 rfl ?_
      refine z_iconst (z := 0) C dX10_dig_39 rfl ?_
      refine z_iload_n C 1 dX10_dig_40 rfl ?_
      refine z_aload_n C 0 dX10_dig_41 rfl ?_
      refine z_iconst (z := 0) C dX10_dig_42 rfl ?_
      refine z_iload_n C 1 dX10_dig_43 rfl ?_
      refine z_cV (As := [.int (zI (0)), .int (zI ((n : Int)))]) (rest := [.int (zI ((n : Int))), .int (zI (0)), .ref (ad i)]) (ci := 12) C (c_X10_many l D A cs tt N ad _ i hN _ hcvy35 _ hdvy35 0 n py28 hpy28 (by omega) (by omega)) (by omega) hay1 hcvy35 rfl rfl mv_yX10_many q_1733 hd_yX10_many (by decide) (Nat.le_of_ble_eq_true rfl) (by decide) dX10_dig_44 rfl (kI0 fun vy40 gvy40 hvy40 => ?_)
      obtain ⟨rfl, rfl⟩ := hvy40
      rw [show rvy35 (py28) = r (py28) from (hyvy35 _ (by omega)).trans (rfl)]
      refine z_iconst (z := 1) C dX10_dig_47 rfl ?_
      refine z_isub C dX10_dig_48 ?_
      refine z_bipush (z := 6) C dX10_dig_49 (by decide) ?_
      obtain ⟨ky41, hky41⟩ : ∃ k9 : Nat, ((r (py28)) - 1) = (k9 : Int) := ⟨(((r (py28)) - 1) : Int).toNat, by omega⟩
      obtain ⟨qy42, hqy42⟩ : ∃ q9 : Nat, py28 + 2 + 7 * ky41 = q9 := ⟨_, rfl⟩
      refine z_cV (As := [.int (zI (0)), .int (zI ((n : Int))), .int (zI ((r (py28)) - 1)), .int (zI (6))]) (rest := []) (ci := 12) C (c_X10_of l D A cs tt N ad _ i hN _ hcvy35 _ hdvy35 0 n py28 hpy28 (by omega) (by omega) ((r (py28)) - 1) (6) (qy42 + 6) (by omega) (by omega) (by omega)) (by omega) hay1 hcvy35 rfl rfl mv_yX10_of q_1749 hd_yX10_of (by decide) (Nat.le_of_ble_eq_true rfl) (by decide) dX10_dig_51 rfl (kI0 fun vy43 gvy43 hvy43 => ?_)
      obtain ⟨rfl, rfl⟩ := hvy43
      rw [show rvy35 (qy42 + 6) = r (qy42 + 6) from (hyvy35 _ (by omega)).trans (rfl)]
      refine z_istore_n (lv' := [(2, .int (zI (r (qy42 + 6)))), (0, .ref (ad i)), (1, .int (zI ((n : Int))))]) C dX10_dig_54 rfl (by decide) rfl ?_
      refine z_aload_n C 1 dX10_dig_55 rfl ?_
      refine z_iconst (z := 0) C dX10_dig_56 rfl ?_
      refine z_iload_n C 2 dX10_dig_57 rfl ?_
      have hSy44 := ((okA.at0 hAvy35).1.1 n (by omega)).of (p2 := py28) (by omega)
      obtain ⟨b1hSy44, b2hSy44, b3hSy44, b4hSy44⟩ := mBb (t := rvy35 0 + x) (by omega)
      have hmky45 := hSy44.1
      have hcy46n := (okA.at0 hAvy35).1.2.2.1
      have hcy46t := (okA.at0 hAvy35).1.2.1
      refine z_cV (As := [.int (zI (0)), .int (zI ((n : Int)))]) (rest := []) (ci := 12) C (c_X10_digs l D A cs tt N ad _ i hN _ hcvy35 _ hdvy35 0 n py28 hpy28 (by omega) (by omega) (mB (rvy35 0 + x)) (eB (rvy35 0 + x)) (by omega) (by omega) hSy44 (by omega)) (by omega) hay1 hcvy35 rfl rfl mv_yX10_digs q_1956 hd_yX10_digs (by decide) (Nat.le_of_ble_eq_true rfl) (by decide) dX10_dig_58 rfl (kV0 fun gvy47 hvy47 => ?_)
      obtain ⟨⟨rvy47, hcvy47, hovy47, hyvy47⟩, hfvy47⟩ := hvy47
      have hcy460 : rvy47 0 = rvy35 0 := (hyvy47 0 (by omega) (by omega) (by omega) (by omega))
      have hcy46 : okW rvy47 0 (x) := okW.slope0 (okA.at0 hAvy35).1 (s := n) (p := py28) (by omega) (by omega) hovy47 (fun j a1 a2 a3 a4 a5 a6 => hyvy47 j a3 a4 a5 a6)
      have hAy48 : okA rvy47 (x) := okA.first hAvy35 (Int.le_refl _) (fun j a => (hyvy47 j (by omega) (by omega) (by omega) (by omega))) hcy46 (by omega)
      obtain ⟨⟨hsyy49, htyy49, hnyy49, hpyy49⟩, hlyy49⟩ := okA.at0 hAy48
      simp only [Nat.zero_add] at hsyy49 hnyy49 hpyy49
      have hmn : ∀ s, s < 4 → 0 ≤ rvy47 (6 + 86 * s) ∧ rvy47 (6 + 86 * s) ≤ 12 := fun s hs => (hsyy49 s hs).1
      have h5 : 0 ≤ rvy47 5 ∧ rvy47 5 ≤ 6 := hpyy49
      refine z_iload_n C 0 dX10_dig_61 rfl ?_
      obtain ⟨xy50, exy51, hxy52⟩ := zI_of (zI (r (qy42 + 6)))
      rw [exy51]
      have hgy53 := (hfvy47 (i) (ne_o (i := i) (c := 0) (d := 1) rfl)).trans hcvy35
      have hFy54 : ∀ f, f ≠ 12 → f ≠ 15 → f ≠ 16 → Fvy35 f = F f := fun f n12 n15 n16 => ((hFvy35 f n15 n16).trans ((uZ_n _ _ n12).trans rfl))
      have hey55 : Fvy35 13 = F 13 := ((hFvy35 13 (by decide) (by decide)).trans (fn rfl (by decide)))
      have hey56 : Fvy35 14 = F 14 := ((hFvy35 14 (by decide) (by decide)).trans (fn rfl (by decide)))
      have hey57 : Fvy35 15 = Fvy35 15 := rfl
      have hey58 : Fvy35 16 = Fvy35 16 := rfl
      have hey59 : Fvy35 17 = F 17 := ((hFvy35 17 (by decide) (by decide)).trans (fn rfl (by decide)))
      have hey60 : Fvy35 18 = F 18 := ((hFvy35 18 (by decide) (by decide)).trans (fn rfl (by decide)))
      have hey61 : Fvy35 19 = F 19 := ((hFvy35 19 (by decide) (by decide)).trans (fn rfl (by decide)))
      have hey62 : Fvy35 20 = F 20 := ((hFvy35 20 (by decide) (by decide)).trans (fn rfl (by decide)))
      have hey63 : Fvy35 23 = F 23 := ((hFvy35 23 (by decide) (by decide)).trans (fn rfl (by decide)))
      have hey64 : Fvy35 25 = F 25 := ((hFvy35 25 (by decide) (by decide)).trans (fn rfl (by decide)))
      have hey65 : Fvy35 27 = F 27 := ((hFvy35 27 (by decide) (by decide)).trans (fn rfl (by decide)))
      have hey66 : Fvy35 28 = F 28 := ((hFvy35 28 (by decide) (by decide)).trans (fn rfl (by decide)))
      have hey67 : Fvy35 29 = F 29 := ((hFvy35 29 (by decide) (by decide)).trans (fn rfl (by decide)))
      have hKy68 : okF Fvy35 := by unfold okF; omega
      have hMy69 : okMr cs ad gvy47 i (x + 1) Fvy35 rvy47 := okMr.upd hM hgy53 hKy68 (fun f a => hFy54 f (by omega) (by omega) (by omega)) hcvy47 (hAy48.mono (by omega)) (fun j a b => by
          exact Or.inl (by rw [hfvy47 _ (by omega)]; rw [hfvy35 _ (by omega) (by omega)]; rw [egy25, va_up_ne _ _ (by omega)]))
      have h23 : Fvy35 23 = F 23 := ((hFvy35 23 (by decide) (by decide)).trans (fn rfl (by decide)))
      exact z_iret C hr hlk dX10_dig_62 (by decide) (by decide) ⟨xy50, rfl, rfl, rfl, by omega, ⟨_, _, hMy69, by omega⟩, fun j j1 => by rw [hfvy47 _ (by omega)]; rw [hfvy35 _ (by omega) (by omega)]; rw [egy25, va_up_ne _ _ (by omega)]⟩
    · refine z_aload_n C 0 dX10_dig_28 rfl ?_
      refine z_iconst (z := 1) C dX10_dig_29 rfl ?_
      have hgy70 := up_n egy25 ha11 (ne_o (i := i) (c := 11) (d := 0) rfl)
      refine z_cV (As := [.int (zI (1))]) (rest := []) (ci := 12) C (c_X10_refuses l D A cs tt N ad _ i hN _ hgy26 _ hgy70 (1) (by omega)) (by omega) hay1 hgy26 rfl rfl mv_yX10_refuses q_1866 hd_yX10_refuses (by decide) (Nat.le_of_ble_eq_true rfl) (by decide) dX10_dig_30 rfl (kI0 fun vy71 gvy71 hvy71 => ?_)
      obtain ⟨hrvy71, ⟨tvy71, hdvy71⟩, hfvy71⟩ := hvy71
      have hgy72 := (hfvy71 (i) (ne_o (i := i) (c := 0) (d := 11) rfl)).trans hgy26
      have hgy73 := (hfvy71 (i + 1) (ne_o (i := i) (c := 1) (d := 11) rfl)).trans hgy29
      have hFy74 : ∀ f, f ≠ 12 → (uZ F 12 (0)) f = F f := fun f n12 => ((uZ_n _ _ n12).trans rfl)
      have hey75 : (uZ F 12 (0)) 13 = F 13 := (fn rfl (by decide))
      have hey76 : (uZ F 12 (0)) 14 = F 14 := (fn rfl (by decide))
      have hey77 : (uZ F 12 (0)) 15 = F 15 := (fn rfl (by decide))
      have hey78 : (uZ F 12 (0)) 16 = F 16 := (fn rfl (by decide))
      have hey79 : (uZ F 12 (0)) 17 = F 17 := (fn rfl (by decide))
      have hey80 : (uZ F 12 (0)) 18 = F 18 := (fn rfl (by decide))
      have hey81 : (uZ F 12 (0)) 19 = F 19 := (fn rfl (by decide))
      have hey82 : (uZ F 12 (0)) 20 = F 20 := (fn rfl (by decide))
      have hey83 : (uZ F 12 (0)) 23 = F 23 := (fn rfl (by decide))
      have hey84 : (uZ F 12 (0)) 25 = F 25 := (fn rfl (by decide))
      have hey85 : (uZ F 12 (0)) 27 = F 27 := (fn rfl (by decide))
      have hey86 : (uZ F 12 (0)) 28 = F 28 := (fn rfl (by decide))
      have hey87 : (uZ F 12 (0)) 29 = F 29 := (fn rfl (by decide))
      have hKy88 : okF (uZ F 12 (0)) := by unfold okF; omega
      have hMy89 : okMr cs ad gvy71 i (x + 1) (uZ F 12 (0)) r := okMr.upd hM hgy72 hKy88 (fun f a => hFy74 f (by omega)) hgy73 (hA.mono (by omega)) (fun j a b => by
          by_cases e0 : j = i + 11
          · exact Or.inr ⟨11, _, e0, lsP.l (by decide), by rw [e0]; exact hdvy71⟩
          exact Or.inl (by rw [hfvy71 _ (by omega)]; rw [egy25, va_up_ne _ _ (by omega)]))
      have h23 : (uZ F 12 (0)) 23 = F 23 := (fn rfl (by decide))
      exact z_iret C hr hlk dX10_dig_33 (by decide) (by decide) ⟨vy71, rfl, rfl, rfl, by omega, ⟨_, _, hMy89, by omega⟩, fun j j1 => by rw [hfvy71 _ (by omega)]; rw [egy25, va_up_ne _ _ (by omega)]⟩
  · refine z_if_eq (tgt := 28) C dX10_dig_16 (by decide) (by omega) (fun _ => ?_) (fun h => absurd h (by omega))
    refine z_aload_n C 0 dX10_dig_28 rfl ?_
    refine z_iconst (z := 1) C dX10_dig_29 rfl ?_
    have hgy90 := up_n egy25 ha11 (ne_o (i := i) (c := 11) (d := 0) rfl)
    refine z_cV (As := [.int (zI (1))]) (rest := []) (ci := 12) C (c_X10_refuses l D A cs tt N ad _ i hN _ hgy26 _ hgy90 (1) (by omega)) (by omega) hay1 hgy26 rfl rfl mv_yX10_refuses q_1866 hd_yX10_refuses (by decide) (Nat.le_of_ble_eq_true rfl) (by decide) dX10_dig_30 rfl (kI0 fun vy91 gvy91 hvy91 => ?_)
    obtain ⟨hrvy91, ⟨tvy91, hdvy91⟩, hfvy91⟩ := hvy91
    have hgy92 := (hfvy91 (i) (ne_o (i := i) (c := 0) (d := 11) rfl)).trans hgy26
    have hgy93 := up_n egy25 ha1 (ne_o (i := i) (c := 1) (d := 0) rfl)
    have hgy94 := (hfvy91 (i + 1) (ne_o (i := i) (c := 1) (d := 11) rfl)).trans hgy93
    have hFy95 : ∀ f, f ≠ 12 → (uZ F 12 (0)) f = F f := fun f n12 => ((uZ_n _ _ n12).trans rfl)
    have hey96 : (uZ F 12 (0)) 13 = F 13 := (fn rfl (by decide))
    have hey97 : (uZ F 12 (0)) 14 = F 14 := (fn rfl (by decide))
    have hey98 : (uZ F 12 (0)) 15 = F 15 := (fn rfl (by decide))
    have hey99 : (uZ F 12 (0)) 16 = F 16 := (fn rfl (by decide))
    have hey100 : (uZ F 12 (0)) 17 = F 17 := (fn rfl (by decide))
    have hey101 : (uZ F 12 (0)) 18 = F 18 := (fn rfl (by decide))
    have hey102 : (uZ F 12 (0)) 19 = F 19 := (fn rfl (by decide))
    have hey103 : (uZ F 12 (0)) 20 = F 20 := (fn rfl (by decide))
    have hey104 : (uZ F 12 (0)) 23 = F 23 := (fn rfl (by decide))
    have hey105 : (uZ F 12 (0)) 25 = F 25 := (fn rfl (by decide))
    have hey106 : (uZ F 12 (0)) 27 = F 27 := (fn rfl (by decide))
    have hey107 : (uZ F 12 (0)) 28 = F 28 := (fn rfl (by decide))
    have hey108 : (uZ F 12 (0)) 29 = F 29 := (fn rfl (by decide))
    have hKy109 : okF (uZ F 12 (0)) := by unfold okF; omega
    have hMy110 : okMr cs ad gvy91 i (x + 1) (uZ F 12 (0)) r := okMr.upd hM hgy92 hKy109 (fun f a => hFy95 f (by omega)) hgy94 (hA.mono (by omega)) (fun j a b => by
        by_cases e0 : j = i + 11
        · exact Or.inr ⟨11, _, e0, lsP.l (by decide), by rw [e0]; exact hdvy91⟩
        exact Or.inl (by rw [hfvy91 _ (by omega)]; rw [egy25, va_up_ne _ _ (by omega)]))
    have h23 : (uZ F 12 (0)) 23 = F 23 := (fn rfl (by decide))
    exact z_iret C hr hlk dX10_dig_33 (by decide) (by decide) ⟨vy91, rfl, rfl, rfl, by omega, ⟨_, _, hMy110, by omega⟩, fun j j1 => by rw [hfvy91 _ (by omega)]; rw [egy25, va_up_ne _ _ (by omega)]⟩

set_option maxRecDepth 100000 in
set_option maxHeartbeats 4000000 in
theorem c_X10_dig_b (l : Launch) (D : va_G) (A : Nat → Prop) (cs : Nat → ClassId) (tt : Nat) (N : Nat) (ad : Nat → Nat) (g : Nat → va_E) (i : Nat) (hN : i + 30 ≤ N) (x : Int) (hx : 0 ≤ x ∧ x ≤ 512) (F r : Nat → Int) (hM : okMr cs ad g i x F r) (z : Int) (hz : -2147483648 ≤ z ∧ z ≤ 2147483647) (hzo : z < 0 ∨ 3 < z) : zM l yX10_dig cX10_dig 3 (some .int) ({ frames := 5, cells := 0, slots := 0, locals := 300 } : Room) D A cs tt N ad g [.ref (ad i), .int (zI (z))] (rI0 N ad fun q g' => (-2147483648 ≤ q ∧ q ≤ 2147483647) ∧ (∃ F' r' : Nat → Int, okMr cs ad g' i (x + 1) F' r' ∧ F' 23 = F 23) ∧ ∀ j, j < i ∨ i + 30 ≤ j → g' j = g j) := by
  obtain ⟨hg, ⟨⟨e13, e14, e25, e27, e29⟩, k15, k16, k17, k18, k19, k20, k23⟩, hRD, hTx, hA, st, op, ai, fa, mu, tb, ns, nh, nd, rf, pi, tp, te, ki, li, ok1, ok2, fo, dd, dps, ⟨ha1, ha2, ha3, ha4, ha5, ha6, ha7, ha8, ha9, ha10, ha11, ha12, ha13, ha14, ha15, ha24, ha25, ha26, ha27, ha28, ha29⟩, hEv, hPt, hns, htp⟩ := id hM
  obtain ⟨-, hop, hai, hfa, hT, hT1⟩ := id hEv
  have hay1 : zAt ad (i) (ad i) := rfl
  have hay2 : zAt ad (i + 1) (ad (i + 1)) := rfl
  have hay3 : zAt ad (i + 2) (ad (i + 2)) := rfl
  have hay4 : zAt ad (i + 3) (ad (i + 3)) := rfl
  have hay5 : zAt ad (i + 4) (ad (i + 4)) := rfl
  have hay6 : zAt ad (i + 5) (ad (i + 5)) := rfl
  have hay7 : zAt ad (i + 6) (ad (i + 6)) := rfl
  have hay8 : zAt ad (i + 7) (ad (i + 7)) := rfl
  have hay9 : zAt ad (i + 8) (ad (i + 8)) := rfl
  have hay10 : zAt ad (i + 9) (ad (i + 9)) := rfl
  have hay11 : zAt ad (i + 10) (ad (i + 10)) := rfl
  have hay12 : zAt ad (i + 11) (ad (i + 11)) := rfl
  have hay13 : zAt ad (i + 12) (ad (i + 12)) := rfl
  have hay14 : zAt ad (i + 13) (ad (i + 13)) := rfl
  have hay15 : zAt ad (i + 14) (ad (i + 14)) := rfl
  have hay16 : zAt ad (i + 15) (ad (i + 15)) := rfl
  have hay17 : zAt ad (i + 24) (ad (i + 24)) := rfl
  have hay18 : zAt ad (i + 25) (ad (i + 25)) := rfl
  have hay19 : zAt ad (i + 26) (ad (i + 26)) := rfl
  have hay20 : zAt ad (i + 27) (ad (i + 27)) := rfl
  have hay21 : zAt ad (i + 28) (ad (i + 28)) := rfl
  have hay22 : zAt ad (i + 29) (ad (i + 29)) := rfl
  obtain ⟨⟨hsyy23, htyy23, hnyy23, hpyy23⟩, hlyy23⟩ := okA.at0 hA
  simp only [Nat.zero_add] at hsyy23 hnyy23 hpyy23
  have hmn : ∀ s, s < 4 → 0 ≤ r (6 + 86 * s) ∧ r (6 + 86 * s) ≤ 12 := fun s hs => (hsyy23 s hs).1
  have h5 : 0 ≤ r 5 ∧ r 5 ≤ 6 := hpyy23
  refine z_of (by decide) (Nat.le_of_ble_eq_true rfl) ?_
  intro pZ eZ sZ mZ below meth cZ C hr hlk hnm
  refine z_lv (lv' := [(0, .ref (ad i)), (1, .int (zI (z)))]) [0, 1] rfl ?_
  refine z_aload_n C 0 dX10_dig_0 rfl ?_
  refine z_iconst (z := 0) C dX10_dig_1 rfl ?_
  refine z_put (fs' := mF ad (i) (uZ F 12 (0))) C (by omega) hay1 hg tyX10 tyX10_ok nmX10 rfl inA_X10 12 (by decide) q_1471 rfl rfl rfl rfl (Nat.le_of_ble_eq_true rfl) rfl dX10_dig_2 (fun gy24 egy25 => ?_)
  have hgy26 := up_s egy25
  refine z_iload_n C 1 dX10_dig_5 rfl ?_
  refine z_iconst (z := 0) C dX10_dig_6 rfl ?_
  refine z_aload_n C 0 dX10_dig_7 rfl ?_
  refine z_get (v := .int (zI (F 13))) C (by omega) hay1 hgy26 rfl inA_X10 13 (by decide) q_1472 rfl (fv (F := (uZ F 12 (0))) (f := 13) (fn rfl (by decide))) dX10_dig_8 ?_
  refine z_iconst (z := 1) C dX10_dig_11 rfl ?_
  refine z_isub C dX10_dig_12 ?_
  refine z_cS (As := [.int (zI (z)), .int (zI (0)), .int (zI ((F 13) - 1))]) (rest := []) C (c_X10_within l D A cs tt N ad _ (z) (by omega) (0) (by omega) ((F 13) - 1) (by omega)) ms_yX10_within q_1686 hd_yX10_within (by decide) (Nat.le_of_ble_eq_true rfl) (by decide) dX10_dig_13 rfl (kI0 fun vy27 gvy27 hvy27 => ?_)
  obtain ⟨hvy27, rfl⟩ := hvy27
  obtain rfl : vy27 = 0 := by omega
  refine z_if_eq (tgt := 28) C dX10_dig_16 (by decide) (by omega) (fun _ => ?_) (fun h => absurd h (by omega))
  refine z_aload_n C 0 dX10_dig_28 rfl ?_
  refine z_iconst (z := 1) C dX10_dig_29 rfl ?_
  have hgy28 := up_n egy25 ha11 (ne_o (i := i) (c := 11) (d := 0) rfl)
  refine z_cV (As := [.int (zI (1))]) (rest := []) (ci := 12) C (c_X10_refuses l D A cs tt N ad _ i hN _ hgy26 _ hgy28 (1) (by omega)) (by omega) hay1 hgy26 rfl rfl mv_yX10_refuses q_1866 hd_yX10_refuses (by decide) (Nat.le_of_ble_eq_true rfl) (by decide) dX10_dig_30 rfl (kI0 fun vy29 gvy29 hvy29 => ?_)
  obtain ⟨hrvy29, ⟨tvy29, hdvy29⟩, hfvy29⟩ := hvy29
  have hgy30 := (hfvy29 (i) (ne_o (i := i) (c := 0) (d := 11) rfl)).trans hgy26
  have hgy31 := up_n egy25 ha1 (ne_o (i := i) (c := 1) (d := 0) rfl)
  have hgy32 := (hfvy29 (i + 1) (ne_o (i := i) (c := 1) (d := 11) rfl)).trans hgy31
  have hFy33 : ∀ f, f ≠ 12 → (uZ F 12 (0)) f = F f := fun f n12 => ((uZ_n _ _ n12).trans rfl)
  have hey34 : (uZ F 12 (0)) 13 = F 13 := (fn rfl (by decide))
  have hey35 : (uZ F 12 (0)) 14 = F 14 := (fn rfl (by decide))
  have hey36 : (uZ F 12 (0)) 15 = F 15 := (fn rfl (by decide))
  have hey37 : (uZ F 12 (0)) 16 = F 16 := (fn rfl (by decide))
  have hey38 : (uZ F 12 (0)) 17 = F 17 := (fn rfl (by decide))
  have hey39 : (uZ F 12 (0)) 18 = F 18 := (fn rfl (by decide))
  have hey40 : (uZ F 12 (0)) 19 = F 19 := (fn rfl (by decide))
  have hey41 : (uZ F 12 (0)) 20 = F 20 := (fn rfl (by decide))
  have hey42 : (uZ F 12 (0)) 23 = F 23 := (fn rfl (by decide))
  have hey43 : (uZ F 12 (0)) 25 = F 25 := (fn rfl (by decide))
  have hey44 : (uZ F 12 (0)) 27 = F 27 := (fn rfl (by decide))
  have hey45 : (uZ F 12 (0)) 28 = F 28 := (fn rfl (by decide))
  have hey46 : (uZ F 12 (0)) 29 = F 29 := (fn rfl (by decide))
  have hKy47 : okF (uZ F 12 (0)) := by unfold okF; omega
  have hMy48 : okMr cs ad gvy29 i (x + 1) (uZ F 12 (0)) r := okMr.upd hM hgy30 hKy47 (fun f a => hFy33 f (by omega)) hgy32 (hA.mono (by omega)) (fun j a b => by
      by_cases e0 : j = i + 11
      · exact Or.inr ⟨11, _, e0, lsP.l (by decide), by rw [e0]; exact hdvy29⟩
      exact Or.inl (by rw [hfvy29 _ (by omega)]; rw [egy25, va_up_ne _ _ (by omega)]))
  have h23 : (uZ F 12 (0)) 23 = F 23 := (fn rfl (by decide))
  exact z_iret C hr hlk dX10_dig_33 (by decide) (by decide) ⟨vy29, rfl, rfl, rfl, by omega, ⟨_, _, hMy48, by omega⟩, fun j j1 => by rw [hfvy29 _ (by omega)]; rw [egy25, va_up_ne _ _ (by omega)]⟩

set_option maxRecDepth 100000 in
set_option maxHeartbeats 4000000 in
theorem c_X10_dig (l : Launch) (D : va_G) (A : Nat → Prop) (cs : Nat → ClassId) (tt : Nat) (N : Nat) (ad : Nat → Nat) (g : Nat → va_E) (i : Nat) (hN : i + 30 ≤ N) (x : Int) (hx : 0 ≤ x ∧ x ≤ 512) (F r : Nat → Int) (hM : okMr cs ad g i x F r) (z : Int) (hz : -2147483648 ≤ z ∧ z ≤ 2147483647) : zM l yX10_dig cX10_dig 3 (some .int) ({ frames := 5, cells := 0, slots := 0, locals := 300 } : Room) D A cs tt N ad g [.ref (ad i), .int (zI (z))] (rI0 N ad fun q g' => (-2147483648 ≤ q ∧ q ≤ 2147483647) ∧ (∃ F' r' : Nat → Int, okMr cs ad g' i (x + 1) F' r' ∧ F' 23 = F 23) ∧ ∀ j, j < i ∨ i + 30 ≤ j → g' j = g j) := by
  by_cases h9 : 0 ≤ z ∧ z ≤ 3
  · obtain ⟨n, rfl⟩ : ∃ n : Nat, z = (n : Int) := ⟨z.toNat, by omega⟩
    exact c_X10_dig_a l D A cs tt N ad g i hN x hx F r hM n (by omega) 
  · exact c_X10_dig_b l D A cs tt N ad g i hN x hx F r hM z hz (by omega) 

set_option maxRecDepth 100000 in
set_option maxHeartbeats 4000000 in
theorem c_X10_slide_a (l : Launch) (D : va_G) (A : Nat → Prop) (cs : Nat → ClassId) (tt : Nat) (N : Nat) (ad : Nat → Nat) (g : Nat → va_E) (i : Nat) (hN : i + 30 ≤ N) (x : Int) (hx : 0 ≤ x ∧ x ≤ 512) (F r : Nat → Int) (hM : okMr cs ad g i x F r) (n : Nat) (hn4 : n < 4) : zM l yX10_slide cX10_slide 2 (some .int) ({ frames := 11, cells := 0, slots := 0, locals := 660 } : Room) D A cs tt N ad g [.ref (ad i), .int (zI ((n : Int)))] (rI0 N ad fun q g' => (-2147483648 ≤ q ∧ q ≤ 2147483647) ∧ (∃ F' r' : Nat → Int, okMr cs ad g' i (x + 1) F' r' ∧ F' 23 = F 23) ∧ ∀ j, j < i ∨ i + 30 ≤ j → g' j = g j) := by
  obtain ⟨hg, ⟨⟨e13, e14, e25, e27, e29⟩, k15, k16, k17, k18, k19, k20, k23⟩, hRD, hTx, hA, st, op, ai, fa, mu, tb, ns, nh, nd, rf, pi, tp, te, ki, li, ok1, ok2, fo, dd, dps, ⟨ha1, ha2, ha3, ha4, ha5, ha6, ha7, ha8, ha9, ha10, ha11, ha12, ha13, ha14, ha15, ha24, ha25, ha26, ha27, ha28, ha29⟩, hEv, hPt, hns, htp⟩ := id hM
  obtain ⟨-, hop, hai, hfa, hT, hT1⟩ := id hEv
  have hay1 : zAt ad (i) (ad i) := rfl
  have hay2 : zAt ad (i + 1) (ad (i + 1)) := rfl
  have hay3 : zAt ad (i + 2) (ad (i + 2)) := rfl
  have hay4 : zAt ad (i + 3) (ad (i + 3)) := rfl
  have hay5 : zAt ad (i + 4) (ad (i + 4)) := rfl
  have hay6 : zAt ad (i + 5) (ad (i + 5)) := rfl
  have hay7 : zAt ad (i + 6) (ad (i + 6)) := rfl
  have hay8 : zAt ad (i + 7) (ad (i + 7)) := rfl
  have hay9 : zAt ad (i + 8) (ad (i + 8)) := rfl
  have hay10 : zAt ad (i + 9) (ad (i + 9)) := rfl
  have hay11 : zAt ad (i + 10) (ad (i + 10)) := rfl
  have hay12 : zAt ad (i + 11) (ad (i + 11)) := rfl
  have hay13 : zAt ad (i + 12) (ad (i + 12)) := rfl
  have hay14 : zAt ad (i + 13) (ad (i + 13)) := rfl
  have hay15 : zAt ad (i + 14) (ad (i + 14)) := rfl
  have hay16 : zAt ad (i + 15) (ad (i + 15)) := rfl
  have hay17 : zAt ad (i + 24) (ad (i + 24)) := rfl
  have hay18 : zAt ad (i + 25) (ad (i + 25)) := rfl
  have hay19 : zAt ad (i + 26) (ad (i + 26)) := rfl
  have hay20 : zAt ad (i + 27) (ad (i + 27)) := rfl
  have hay21 : zAt ad (i + 28) (ad (i + 28)) := rfl
  have hay22 : zAt ad (i + 29) (ad (i + 29)) := rfl
  obtain ⟨⟨hsyy23, htyy23, hnyy23, hpyy23⟩, hlyy23⟩ := okA.at0 hA
  simp only [Nat.zero_add] at hsyy23 hnyy23 hpyy23
  have hmn : ∀ s, s < 4 → 0 ≤ r (6 + 86 * s) ∧ r (6 + 86 * s) ≤ 12 := fun s hs => (hsyy23 s hs).1
  have h5 : 0 ≤ r 5 ∧ r 5 ≤ 6 := hpyy23
  refine z_of (by decide) (Nat.le_of_ble_eq_true rfl) ?_
  intro pZ eZ sZ mZ below meth cZ C hr hlk hnm
  refine z_lv (lv' := [(0, .ref (ad i)), (1, .int (zI ((n : Int))))]) [0, 1] rfl ?_
  refine z_aload_n C 0 dX10_slide_0 rfl ?_
  refine z_iconst (z := 0) C dX10_slide_1 rfl ?_
  refine z_put (fs' := mF ad (i) (uZ F 12 (0))) C (by omega) hay1 hg tyX10 tyX10_ok nmX10 rfl inA_X10 12 (by decide) q_1471 rfl rfl rfl rfl (Nat.le_of_ble_eq_true rfl) rfl dX10_slide_2 (fun gy24 egy25 => ?_)
  have hgy26 := up_s egy25
  refine z_iload_n C 1 dX10_slide_5 rfl ?_
  refine z_iconst (z := 0) C dX10_slide_6 rfl ?_
  refine z_aload_n C 0 dX10_slide_7 rfl ?_
  refine z_get (v := .int (zI (F 13))) C (by omega) hay1 hgy26 rfl inA_X10 13 (by decide) q_1472 rfl (fv (F := (uZ F 12 (0))) (f := 13) (fn rfl (by decide))) dX10_slide_8 ?_
  refine z_iconst (z := 1) C dX10_slide_11 rfl ?_
  refine z_isub C dX10_slide_12 ?_
  refine z_cS (As := [.int (zI ((n : Int))), .int (zI (0)), .int (zI ((F 13) - 1))]) (rest := []) C (c_X10_within l D A cs tt N ad _ ((n : Int)) (by omega) (0) (by omega) ((F 13) - 1) (by omega)) ms_yX10_within q_1686 hd_yX10_within (by decide) (Nat.le_of_ble_eq_true rfl) (by decide) dX10_slide_13 rfl (kI0 fun vy27 gvy27 hvy27 => ?_)
  obtain ⟨hvy27, rfl⟩ := hvy27
  rcases hvy27 with ⟨rfl, hxvy27⟩ | ⟨rfl, hxvy27⟩
  · refine z_if_eq (tgt := 28) C dX10_slide_16 (by decide) (by omega) (fun h => absurd h (by omega)) (fun _ => ?_)
    refine z_aload_n C 0 dX10_slide_19 rfl ?_
    refine z_iconst (z := 0) C dX10_slide_20 rfl ?_
    refine z_iload_n C 1 dX10_slide_21 rfl ?_
    obtain ⟨py28, hpy28⟩ : ∃ p9 : Nat, 0 + 6 + 86 * n = p9 := ⟨_, rfl⟩
    have hgy29 := up_n egy25 ha1 (ne_o (i := i) (c := 1) (d := 0) rfl)
    have hgy31 := up_n egy25 ha2 (ne_o (i := i) (c := 2) (d := 0) rfl)
    have hgy32 := up_n egy25 ha7 (ne_o (i := i) (c := 7) (d := 0) rfl)
    have hqy33 : qS r py28 := (((okA.at0 hA).1.1 n (by omega)).of (p2 := py28) (by omega)).q (by have hb9 := mBb (t := r 0 + x) (by omega); omega)
    have hmky34 := hqy33.1
    refine z_cV (As := [.int (zI (0)), .int (zI ((n : Int)))]) (rest := []) (ci := 12) C (c_X10_isUnstable l D A cs tt N ad _ i hN _ hgy26 _ hgy29 _ hgy31 _ hgy32 0 n py28 hpy28 (by omega) (by omega) hqy33) (by omega) hay1 hgy26 rfl rfl mv_yX10_isUnstable q_1811 hd_yX10_isUnstable (by decide) (Nat.le_of_ble_eq_true rfl) (by decide) dX10_slide_22 rfl (kI0 fun vy30 gvy30 hvy30 => ?_)
    obtain ⟨hvy30, rfl⟩ := hvy30
    refine z_if_ne (tgt := 34) C dX10_slide_25 (by decide) (by omega) (fun hby35 => ?_) (fun hby35 => ?_)
    · refine z_aload_n C 0 dX10_slide_34 rfl ?_
      have hey37 : (uZ F 12 (0)) 15 = F 15 := (fn rfl (by decide))
      have hey38 : (uZ F 12 (0)) 16 = F 16 := (fn rfl (by decide))
      refine z_cV (As := []) (rest := []) (ci := 12) C (c_X10_keeps l D A cs tt N ad _ i hN _ hgy26 _ hgy29 (x) hA (by omega) (by omega)) (by omega) hay1 hgy26 rfl rfl mv_yX10_keeps q_1870 hd_yX10_keeps (by decide) (Nat.le_of_ble_eq_true rfl) (by decide) dX10_slide_35 rfl (kV0 fun gvy36 hvy36 => ?_)
      obtain ⟨⟨Fvy36, hcvy36, hbvy36, hFvy36⟩, ⟨rvy36, hdvy36, hAvy36, hyvy36⟩, hfvy36⟩ := hvy36
      have hk0vy36 : rvy36 0 = r 0 := hyvy36 0 (by omega)
      have hk1vy36 : rvy36 1 = r 1 := hyvy36 1 (by omega)
      have hk5vy36 : rvy36 5 = r 5 := hyvy36 5 (by omega)
      have hkpy39 : rvy36 py28 = r py28 := hyvy36 py28 (by omega)
      obtain ⟨⟨hsyy40, htyy40, hnyy40, hpyy40⟩, hlyy40⟩ := okA.at0 hAvy36
      simp only [Nat.zero_add] at hsyy40 hnyy40 hpyy40
      have hmn : ∀ s, s < 4 → 0 ≤ rvy36 (6 + 86 * s) ∧ rvy36 (6 + 86 * s) ≤ 12 := fun s hs => (hsyy40 s hs).1
      have h5 : 0 ≤ rvy36 5 ∧ rvy36 5 ≤ 6 := hpyy40
      refine z_aload_n C 0 dX10_slide_38 rfl ?_
      refine z_iconst (z := 0) C dX10_slide_39 rfl ?_
      refine z_iload_n C 1 dX10_slide_40 rfl ?_
      have hSy41 := ((okA.at0 hAvy36).1.1 n (by omega)).of (p2 := py28) (by omega)
      obtain ⟨b1hSy41, b2hSy41, b3hSy41, b4hSy41⟩ := mBb (t := rvy36 0 + x) (by omega)
      have hmky42 := hSy41.1
      have hcy43n := (okA.at0 hAvy36).1.2.2.1
      have hcy43t := (okA.at0 hAvy36).1.2.1
      have hgy45 := (hfvy36 (i + 2) (ne_o (i := i) (c := 2) (d := 0) rfl) (ne_o (i := i) (c := 2) (d := 1) rfl)).trans hgy31
      have hgy46 := (hfvy36 (i + 7) (ne_o (i := i) (c := 7) (d := 0) rfl) (ne_o (i := i) (c := 7) (d := 1) rfl)).trans hgy32
      refine z_cV (As := [.int (zI (0)), .int (zI ((n : Int)))]) (rest := []) (ci := 12) C (c_X10_slides l D A cs tt N ad _ i hN _ hcvy36 _ hdvy36 _ hgy45 _ hgy46 0 n py28 hpy28 (by omega) (by omega) (mB (rvy36 0 + x)) (eB (rvy36 0 + x)) (by omega) (by omega) hSy41) (by omega) hay1 hcvy36 rfl rfl mv_yX10_slides q_1964 hd_yX10_slides (by decide) (Nat.le_of_ble_eq_true rfl) (by decide) dX10_slide_41 rfl (kI0 fun vy44 gvy44 hvy44 => ?_)
      obtain ⟨hrvy44, ⟨rvy44, hcvy44, hovy44, hyvy44⟩, hfvy44⟩ := hvy44
      have hcy430 : rvy44 0 = rvy36 0 := (hyvy44 0 (by omega) (by omega) (by omega) (by omega))
      have hcy43 : okW rvy44 0 (x) := okW.slope0 (okA.at0 hAvy36).1 (s := n) (p := py28) (by omega) (by omega) hovy44 (fun j a1 a2 a3 a4 a5 a6 => hyvy44 j a3 a4 a5 a6)
      have hAy47 : okA rvy44 (x) := okA.first hAvy36 (Int.le_refl _) (fun j a => (hyvy44 j (by omega) (by omega) (by omega) (by omega))) hcy43 (by omega)
      obtain ⟨⟨hsyy48, htyy48, hnyy48, hpyy48⟩, hlyy48⟩ := okA.at0 hAy47
      simp only [Nat.zero_add] at hsyy48 hnyy48 hpyy48
      have hmn : ∀ s, s < 4 → 0 ≤ rvy44 (6 + 86 * s) ∧ rvy44 (6 + 86 * s) ≤ 12 := fun s hs => (hsyy48 s hs).1
      have h5 : 0 ≤ rvy44 5 ∧ rvy44 5 ≤ 6 := hpyy48
      have hgy49 := (hfvy44 (i) (ne_o (i := i) (c := 0) (d := 1) rfl)).trans hcvy36
      have hFy50 : ∀ f, f ≠ 12 → f ≠ 15 → f ≠ 16 → Fvy36 f = F f := fun f n12 n15 n16 => ((hFvy36 f n15 n16).trans ((uZ_n _ _ n12).trans rfl))
      have hey51 : Fvy36 13 = F 13 := ((hFvy36 13 (by decide) (by decide)).trans (fn rfl (by decide)))
      have hey52 : Fvy36 14 = F 14 := ((hFvy36 14 (by decide) (by decide)).trans (fn rfl (by decide)))
      have hey53 : Fvy36 15 = Fvy36 15 := rfl
      have hey54 : Fvy36 16 = Fvy36 16 := rfl
      have hey55 : Fvy36 17 = F 17 := ((hFvy36 17 (by decide) (by decide)).trans (fn rfl (by decide)))
      have hey56 : Fvy36 18 = F 18 := ((hFvy36 18 (by decide) (by decide)).trans (fn rfl (by decide)))
      have hey57 : Fvy36 19 = F 19 := ((hFvy36 19 (by decide) (by decide)).trans (fn rfl (by decide)))
      have hey58 : Fvy36 20 = F 20 := ((hFvy36 20 (by decide) (by decide)).trans (fn rfl (by decide)))
      have hey59 : Fvy36 23 = F 23 := ((hFvy36 23 (by decide) (by decide)).trans (fn rfl (by decide)))
      have hey60 : Fvy36 25 = F 25 := ((hFvy36 25 (by decide) (by decide)).trans (fn rfl (by decide)))
      have hey61 : Fvy36 27 = F 27 := ((hFvy36 27 (by decide) (by decide)).trans (fn rfl (by decide)))
      have hey62 : Fvy36 28 = F 28 := ((hFvy36 28 (by decide) (by decide)).trans (fn rfl (by decide)))
      have hey63 : Fvy36 29 = F 29 := ((hFvy36 29 (by decide) (by decide)).trans (fn rfl (by decide)))
      have hKy64 : okF Fvy36 := by unfold okF; omega
      have hMy65 : okMr cs ad gvy44 i (x + 1) Fvy36 rvy44 := okMr.upd hM hgy49 hKy64 (fun f a => hFy50 f (by omega) (by omega) (by omega)) hcvy44 (hAy47.mono (by omega)) (fun j a b => by
          exact Or.inl (by rw [hfvy44 _ (by omega)]; rw [hfvy36 _ (by omega) (by omega)]; rw [egy25, va_up_ne _ _ (by omega)]))
      have h23 : Fvy36 23 = F 23 := ((hFvy36 23 (by decide) (by decide)).trans (fn rfl (by decide)))
      exact z_iret C hr hlk dX10_slide_44 (by decide) (by decide) ⟨vy44, rfl, rfl, rfl, by omega, ⟨_, _, hMy65, by omega⟩, fun j j1 => by rw [hfvy44 _ (by omega)]; rw [hfvy36 _ (by omega) (by omega)]; rw [egy25, va_up_ne _ _ (by omega)]⟩
    · refine z_aload_n C 0 dX10_slide_28 rfl ?_
      refine z_iconst (z := 1) C dX10_slide_29 rfl ?_
      have hgy66 := up_n egy25 ha11 (ne_o (i := i) (c := 11) (d := 0) rfl)
      refine z_cV (As := [.int (zI (1))]) (rest := []) (ci := 12) C (c_X10_refuses l D A cs tt N ad _ i hN _ hgy26 _ hgy66 (1) (by omega)) (by omega) hay1 hgy26 rfl rfl mv_yX10_refuses q_1866 hd_yX10_refuses (by decide) (Nat.le_of_ble_eq_true rfl) (by decide) dX10_slide_30 rfl (kI0 fun vy67 gvy67 hvy67 => ?_)
      obtain ⟨hrvy67, ⟨tvy67, hdvy67⟩, hfvy67⟩ := hvy67
      have hgy68 := (hfvy67 (i) (ne_o (i := i) (c := 0) (d := 11) rfl)).trans hgy26
      have hgy69 := (hfvy67 (i + 1) (ne_o (i := i) (c := 1) (d := 11) rfl)).trans hgy29
      have hFy70 : ∀ f, f ≠ 12 → (uZ F 12 (0)) f = F f := fun f n12 => ((uZ_n _ _ n12).trans rfl)
      have hey71 : (uZ F 12 (0)) 13 = F 13 := (fn rfl (by decide))
      have hey72 : (uZ F 12 (0)) 14 = F 14 := (fn rfl (by decide))
      have hey73 : (uZ F 12 (0)) 15 = F 15 := (fn rfl (by decide))
      have hey74 : (uZ F 12 (0)) 16 = F 16 := (fn rfl (by decide))
      have hey75 : (uZ F 12 (0)) 17 = F 17 := (fn rfl (by decide))
      have hey76 : (uZ F 12 (0)) 18 = F 18 := (fn rfl (by decide))
      have hey77 : (uZ F 12 (0)) 19 = F 19 := (fn rfl (by decide))
      have hey78 : (uZ F 12 (0)) 20 = F 20 := (fn rfl (by decide))
      have hey79 : (uZ F 12 (0)) 23 = F 23 := (fn rfl (by decide))
      have hey80 : (uZ F 12 (0)) 25 = F 25 := (fn rfl (by decide))
      have hey81 : (uZ F 12 (0)) 27 = F 27 := (fn rfl (by decide))
      have hey82 : (uZ F 12 (0)) 28 = F 28 := (fn rfl (by decide))
      have hey83 : (uZ F 12 (0)) 29 = F 29 := (fn rfl (by decide))
      have hKy84 : okF (uZ F 12 (0)) := by unfold okF; omega
      have hMy85 : okMr cs ad gvy67 i (x + 1) (uZ F 12 (0)) r := okMr.upd hM hgy68 hKy84 (fun f a => hFy70 f (by omega)) hgy69 (hA.mono (by omega)) (fun j a b => by
          by_cases e0 : j = i + 11
          · exact Or.inr ⟨11, _, e0, lsP.l (by decide), by rw [e0]; exact hdvy67⟩
          exact Or.inl (by rw [hfvy67 _ (by omega)]; rw [egy25, va_up_ne _ _ (by omega)]))
      have h23 : (uZ F 12 (0)) 23 = F 23 := (fn rfl (by decide))
      exact z_iret C hr hlk dX10_slide_33 (by decide) (by decide) ⟨vy67, rfl, rfl, rfl, by omega, ⟨_, _, hMy85, by omega⟩, fun j j1 => by rw [hfvy67 _ (by omega)]; rw [egy25, va_up_ne _ _ (by omega)]⟩
  · refine z_if_eq (tgt := 28) C dX10_slide_16 (by decide) (by omega) (fun _ => ?_) (fun h => absurd h (by omega))
    refine z_aload_n C 0 dX10_slide_28 rfl ?_
    refine z_iconst (z := 1) C dX10_slide_29 rfl ?_
    have hgy86 := up_n egy25 ha11 (ne_o (i := i) (c := 11) (d := 0) rfl)
    refine z_cV (As := [.int (zI (1))]) (rest := []) (ci := 12) C (c_X10_refuses l D A cs tt N ad _ i hN _ hgy26 _ hgy86 (1) (by omega)) (by omega) hay1 hgy26 rfl rfl mv_yX10_refuses q_1866 hd_yX10_refuses (by decide) (Nat.le_of_ble_eq_true rfl) (by decide) dX10_slide_30 rfl (kI0 fun vy87 gvy87 hvy87 => ?_)
    obtain ⟨hrvy87, ⟨tvy87, hdvy87⟩, hfvy87⟩ := hvy87
    have hgy88 := (hfvy87 (i) (ne_o (i := i) (c := 0) (d := 11) rfl)).trans hgy26
    have hgy89 := up_n egy25 ha1 (ne_o (i := i) (c := 1) (d := 0) rfl)
    have hgy90 := (hfvy87 (i + 1) (ne_o (i := i) (c := 1) (d := 11) rfl)).trans hgy89
    have hFy91 : ∀ f, f ≠ 12 → (uZ F 12 (0)) f = F f := fun f n12 => ((uZ_n _ _ n12).trans rfl)
    have hey92 : (uZ F 12 (0)) 13 = F 13 := (fn rfl (by decide))
    have hey93 : (uZ F 12 (0)) 14 = F 14 := (fn rfl (by decide))
    have hey94 : (uZ F 12 (0)) 15 = F 15 := (fn rfl (by decide))
    have hey95 : (uZ F 12 (0)) 16 = F 16 := (fn rfl (by decide))
    have hey96 : (uZ F 12 (0)) 17 = F 17 := (fn rfl (by decide))
    have hey97 : (uZ F 12 (0)) 18 = F 18 := (fn rfl (by decide))
    have hey98 : (uZ F 12 (0)) 19 = F 19 := (fn rfl (by decide))
    have hey99 : (uZ F 12 (0)) 20 = F 20 := (fn rfl (by decide))
    have hey100 : (uZ F 12 (0)) 23 = F 23 := (fn rfl (by decide))
    have hey101 : (uZ F 12 (0)) 25 = F 25 := (fn rfl (by decide))
    have hey102 : (uZ F 12 (0)) 27 = F 27 := (fn rfl (by decide))
    have hey103 : (uZ F 12 (0)) 28 = F 28 := (fn rfl (by decide))
    have hey104 : (uZ F 12 (0)) 29 = F 29 := (fn rfl (by decide))
    have hKy105 : okF (uZ F 12 (0)) := by unfold okF; omega
    have hMy106 : okMr cs ad gvy87 i (x + 1) (uZ F 12 (0)) r := okMr.upd hM hgy88 hKy105 (fun f a => hFy91 f (by omega)) hgy90 (hA.mono (by omega)) (fun j a b => by
        by_cases e0 : j = i + 11
        · exact Or.inr ⟨11, _, e0, lsP.l (by decide), by rw [e0]; exact hdvy87⟩
        exact Or.inl (by rw [hfvy87 _ (by omega)]; rw [egy25, va_up_ne _ _ (by omega)]))
    have h23 : (uZ F 12 (0)) 23 = F 23 := (fn rfl (by decide))
    exact z_iret C hr hlk dX10_slide_33 (by decide) (by decide) ⟨vy87, rfl, rfl, rfl, by omega, ⟨_, _, hMy106, by omega⟩, fun j j1 => by rw [hfvy87 _ (by omega)]; rw [egy25, va_up_ne _ _ (by omega)]⟩

set_option maxRecDepth 100000 in
set_option maxHeartbeats 4000000 in
theorem c_X10_slide_b (l : Launch) (D : va_G) (A : Nat → Prop) (cs : Nat → ClassId) (tt : Nat) (N : Nat) (ad : Nat → Nat) (g : Nat → va_E) (i : Nat) (hN : i + 30 ≤ N) (x : Int) (hx : 0 ≤ x ∧ x ≤ 512) (F r : Nat → Int) (hM : okMr cs ad g i x F r) (z : Int) (hz : -2147483648 ≤ z ∧ z ≤ 2147483647) (hzo : z < 0 ∨ 3 < z) : zM l yX10_slide cX10_slide 2 (some .int) ({ frames := 11, cells := 0, slots := 0, locals := 660 } : Room) D A cs tt N ad g [.ref (ad i), .int (zI (z))] (rI0 N ad fun q g' => (-2147483648 ≤ q ∧ q ≤ 2147483647) ∧ (∃ F' r' : Nat → Int, okMr cs ad g' i (x + 1) F' r' ∧ F' 23 = F 23) ∧ ∀ j, j < i ∨ i + 30 ≤ j → g' j = g j) := by
  obtain ⟨hg, ⟨⟨e13, e14, e25, e27, e29⟩, k15, k16, k17, k18, k19, k20, k23⟩, hRD, hTx, hA, st, op, ai, fa, mu, tb, ns, nh, nd, rf, pi, tp, te, ki, li, ok1, ok2, fo, dd, dps, ⟨ha1, ha2, ha3, ha4, ha5, ha6, ha7, ha8, ha9, ha10, ha11, ha12, ha13, ha14, ha15, ha24, ha25, ha26, ha27, ha28, ha29⟩, hEv, hPt, hns, htp⟩ := id hM
  obtain ⟨-, hop, hai, hfa, hT, hT1⟩ := id hEv
  have hay1 : zAt ad (i) (ad i) := rfl
  have hay2 : zAt ad (i + 1) (ad (i + 1)) := rfl
  have hay3 : zAt ad (i + 2) (ad (i + 2)) := rfl
  have hay4 : zAt ad (i + 3) (ad (i + 3)) := rfl
  have hay5 : zAt ad (i + 4) (ad (i + 4)) := rfl
  have hay6 : zAt ad (i + 5) (ad (i + 5)) := rfl
  have hay7 : zAt ad (i + 6) (ad (i + 6)) := rfl
  have hay8 : zAt ad (i + 7) (ad (i + 7)) := rfl
  have hay9 : zAt ad (i + 8) (ad (i + 8)) := rfl
  have hay10 : zAt ad (i + 9) (ad (i + 9)) := rfl
  have hay11 : zAt ad (i + 10) (ad (i + 10)) := rfl
  have hay12 : zAt ad (i + 11) (ad (i + 11)) := rfl
  have hay13 : zAt ad (i + 12) (ad (i + 12)) := rfl
  have hay14 : zAt ad (i + 13) (ad (i + 13)) := rfl
  have hay15 : zAt ad (i + 14) (ad (i + 14)) := rfl
  have hay16 : zAt ad (i + 15) (ad (i + 15)) := rfl
  have hay17 : zAt ad (i + 24) (ad (i + 24)) := rfl
  have hay18 : zAt ad (i + 25) (ad (i + 25)) := rfl
  have hay19 : zAt ad (i + 26) (ad (i + 26)) := rfl
  have hay20 : zAt ad (i + 27) (ad (i + 27)) := rfl
  have hay21 : zAt ad (i + 28) (ad (i + 28)) := rfl
  have hay22 : zAt ad (i + 29) (ad (i + 29)) := rfl
  obtain ⟨⟨hsyy23, htyy23, hnyy23, hpyy23⟩, hlyy23⟩ := okA.at0 hA
  simp only [Nat.zero_add] at hsyy23 hnyy23 hpyy23
  have hmn : ∀ s, s < 4 → 0 ≤ r (6 + 86 * s) ∧ r (6 + 86 * s) ≤ 12 := fun s hs => (hsyy23 s hs).1
  have h5 : 0 ≤ r 5 ∧ r 5 ≤ 6 := hpyy23
  refine z_of (by decide) (Nat.le_of_ble_eq_true rfl) ?_
  intro pZ eZ sZ mZ below meth cZ C hr hlk hnm
  refine z_lv (lv' := [(0, .ref (ad i)), (1, .int (zI (z)))]) [0, 1] rfl ?_
  refine z_aload_n C 0 dX10_slide_0 rfl ?_
  refine z_iconst (z := 0) C dX10_slide_1 rfl ?_
  refine z_put (fs' := mF ad (i) (uZ F 12 (0))) C (by omega) hay1 hg tyX10 tyX10_ok nmX10 rfl inA_X10 12 (by decide) q_1471 rfl rfl rfl rfl (Nat.le_of_ble_eq_true rfl) rfl dX10_slide_2 (fun gy24 egy25 => ?_)
  have hgy26 := up_s egy25
  refine z_iload_n C 1 dX10_slide_5 rfl ?_
  refine z_iconst (z := 0) C dX10_slide_6 rfl ?_
  refine z_aload_n C 0 dX10_slide_7 rfl ?_
  refine z_get (v := .int (zI (F 13))) C (by omega) hay1 hgy26 rfl inA_X10 13 (by decide) q_1472 rfl (fv (F := (uZ F 12 (0))) (f := 13) (fn rfl (by decide))) dX10_slide_8 ?_
  refine z_iconst (z := 1) C dX10_slide_11 rfl ?_
  refine z_isub C dX10_slide_12 ?_
  refine z_cS (As := [.int (zI (z)), .int (zI (0)), .int (zI ((F 13) - 1))]) (rest := []) C (c_X10_within l D A cs tt N ad _ (z) (by omega) (0) (by omega) ((F 13) - 1) (by omega)) ms_yX10_within q_1686 hd_yX10_within (by decide) (Nat.le_of_ble_eq_true rfl) (by decide) dX10_slide_13 rfl (kI0 fun vy27 gvy27 hvy27 => ?_)
  obtain ⟨hvy27, rfl⟩ := hvy27
  obtain rfl : vy27 = 0 := by omega
  refine z_if_eq (tgt := 28) C dX10_slide_16 (by decide) (by omega) (fun _ => ?_) (fun h => absurd h (by omega))
  refine z_aload_n C 0 dX10_slide_28 rfl ?_
  refine z_iconst (z := 1) C dX10_slide_29 rfl ?_
  have hgy28 := up_n egy25 ha11 (ne_o (i := i) (c := 11) (d := 0) rfl)
  refine z_cV (As := [.int (zI (1))]) (rest := []) (ci := 12) C (c_X10_refuses l D A cs tt N ad _ i hN _ hgy26 _ hgy28 (1) (by omega)) (by omega) hay1 hgy26 rfl rfl mv_yX10_refuses q_1866 hd_yX10_refuses (by decide) (Nat.le_of_ble_eq_true rfl) (by decide) dX10_slide_30 rfl (kI0 fun vy29 gvy29 hvy29 => ?_)
  obtain ⟨hrvy29, ⟨tvy29, hdvy29⟩, hfvy29⟩ := hvy29
  have hgy30 := (hfvy29 (i) (ne_o (i := i) (c := 0) (d := 11) rfl)).trans hgy26
  have hgy31 := up_n egy25 ha1 (ne_o (i := i) (c := 1) (d := 0) rfl)
  have hgy32 := (hfvy29 (i + 1) (ne_o (i := i) (c := 1) (d := 11) rfl)).trans hgy31
  have hFy33 : ∀ f, f ≠ 12 → (uZ F 12 (0)) f = F f := fun f n12 => ((uZ_n _ _ n12).trans rfl)
  have hey34 : (uZ F 12 (0)) 13 = F 13 := (fn rfl (by decide))
  have hey35 : (uZ F 12 (0)) 14 = F 14 := (fn rfl (by decide))
  have hey36 : (uZ F 12 (0)) 15 = F 15 := (fn rfl (by decide))
  have hey37 : (uZ F 12 (0)) 16 = F 16 := (fn rfl (by decide))
  have hey38 : (uZ F 12 (0)) 17 = F 17 := (fn rfl (by decide))
  have hey39 : (uZ F 12 (0)) 18 = F 18 := (fn rfl (by decide))
  have hey40 : (uZ F 12 (0)) 19 = F 19 := (fn rfl (by decide))
  have hey41 : (uZ F 12 (0)) 20 = F 20 := (fn rfl (by decide))
  have hey42 : (uZ F 12 (0)) 23 = F 23 := (fn rfl (by decide))
  have hey43 : (uZ F 12 (0)) 25 = F 25 := (fn rfl (by decide))
  have hey44 : (uZ F 12 (0)) 27 = F 27 := (fn rfl (by decide))
  have hey45 : (uZ F 12 (0)) 28 = F 28 := (fn rfl (by decide))
  have hey46 : (uZ F 12 (0)) 29 = F 29 := (fn rfl (by decide))
  have hKy47 : okF (uZ F 12 (0)) := by unfold okF; omega
  have hMy48 : okMr cs ad gvy29 i (x + 1) (uZ F 12 (0)) r := okMr.upd hM hgy30 hKy47 (fun f a => hFy33 f (by omega)) hgy32 (hA.mono (by omega)) (fun j a b => by
      by_cases e0 : j = i + 11
      · exact Or.inr ⟨11, _, e0, lsP.l (by decide), by rw [e0]; exact hdvy29⟩
      exact Or.inl (by rw [hfvy29 _ (by omega)]; rw [egy25, va_up_ne _ _ (by omega)]))
  have h23 : (uZ F 12 (0)) 23 = F 23 := (fn rfl (by decide))
  exact z_iret C hr hlk dX10_slide_33 (by decide) (by decide) ⟨vy29, rfl, rfl, rfl, by omega, ⟨_, _, hMy48, by omega⟩, fun j j1 => by rw [hfvy29 _ (by omega)]; rw [egy25, va_up_ne _ _ (by omega)]⟩

set_option maxRecDepth 100000 in
set_option maxHeartbeats 4000000 in
theorem c_X10_slide (l : Launch) (D : va_G) (A : Nat → Prop) (cs : Nat → ClassId) (tt : Nat) (N : Nat) (ad : Nat → Nat) (g : Nat → va_E) (i : Nat) (hN : i + 30 ≤ N) (x : Int) (hx : 0 ≤ x ∧ x ≤ 512) (F r : Nat → Int) (hM : okMr cs ad g i x F r) (z : Int) (hz : -2147483648 ≤ z ∧ z ≤ 2147483647) : zM l yX10_slide cX10_slide 2 (some .int) ({ frames := 11, cells := 0, slots := 0, locals := 660 } : Room) D A cs tt N ad g [.ref (ad i), .int (zI (z))] (rI0 N ad fun q g' => (-2147483648 ≤ q ∧ q ≤ 2147483647) ∧ (∃ F' r' : Nat → Int, okMr cs ad g' i (x + 1) F' r' ∧ F' 23 = F 23) ∧ ∀ j, j < i ∨ i + 30 ≤ j → g' j = g j) := by
  by_cases h9 : 0 ≤ z ∧ z ≤ 3
  · obtain ⟨n, rfl⟩ : ∃ n : Nat, z = (n : Int) := ⟨z.toNat, by omega⟩
    exact c_X10_slide_a l D A cs tt N ad g i hN x hx F r hM n (by omega) 
  · exact c_X10_slide_b l D A cs tt N ad g i hN x hx F r hM z hz (by omega) 

set_option maxRecDepth 100000 in
set_option maxHeartbeats 4000000 in
theorem c_X10_undo (l : Launch) (D : va_G) (A : Nat → Prop) (cs : Nat → ClassId) (tt : Nat) (N : Nat) (ad : Nat → Nat) (g : Nat → va_E) (i : Nat) (hN : i + 30 ≤ N) (x : Int) (hx : 0 ≤ x ∧ x ≤ 512) (F r : Nat → Int) (hM : okMr cs ad g i x F r) : zM l yX10_undo cX10_undo 1 (some .int) ({ frames := 2, cells := 0, slots := 0, locals := 120 } : Room) D A cs tt N ad g [.ref (ad i)] (rI0 N ad fun q g' => (-2147483648 ≤ q ∧ q ≤ 2147483647) ∧ (∃ F' r' : Nat → Int, okMr cs ad g' i (x + 1) F' r' ∧ F' 23 = F 23) ∧ ∀ j, j < i ∨ i + 30 ≤ j → g' j = g j) := by
  obtain ⟨hg, ⟨⟨e13, e14, e25, e27, e29⟩, k15, k16, k17, k18, k19, k20, k23⟩, hRD, hTx, hA, st, op, ai, fa, mu, tb, ns, nh, nd, rf, pi, tp, te, ki, li, ok1, ok2, fo, dd, dps, ⟨ha1, ha2, ha3, ha4, ha5, ha6, ha7, ha8, ha9, ha10, ha11, ha12, ha13, ha14, ha15, ha24, ha25, ha26, ha27, ha28, ha29⟩, hEv, hPt, hns, htp⟩ := id hM
  obtain ⟨-, hop, hai, hfa, hT, hT1⟩ := id hEv
  have hay1 : zAt ad (i) (ad i) := rfl
  have hay2 : zAt ad (i + 1) (ad (i + 1)) := rfl
  have hay3 : zAt ad (i + 2) (ad (i + 2)) := rfl
  have hay4 : zAt ad (i + 3) (ad (i + 3)) := rfl
  have hay5 : zAt ad (i + 4) (ad (i + 4)) := rfl
  have hay6 : zAt ad (i + 5) (ad (i + 5)) := rfl
  have hay7 : zAt ad (i + 6) (ad (i + 6)) := rfl
  have hay8 : zAt ad (i + 7) (ad (i + 7)) := rfl
  have hay9 : zAt ad (i + 8) (ad (i + 8)) := rfl
  have hay10 : zAt ad (i + 9) (ad (i + 9)) := rfl
  have hay11 : zAt ad (i + 10) (ad (i + 10)) := rfl
  have hay12 : zAt ad (i + 11) (ad (i + 11)) := rfl
  have hay13 : zAt ad (i + 12) (ad (i + 12)) := rfl
  have hay14 : zAt ad (i + 13) (ad (i + 13)) := rfl
  have hay15 : zAt ad (i + 14) (ad (i + 14)) := rfl
  have hay16 : zAt ad (i + 15) (ad (i + 15)) := rfl
  have hay17 : zAt ad (i + 24) (ad (i + 24)) := rfl
  have hay18 : zAt ad (i + 25) (ad (i + 25)) := rfl
  have hay19 : zAt ad (i + 26) (ad (i + 26)) := rfl
  have hay20 : zAt ad (i + 27) (ad (i + 27)) := rfl
  have hay21 : zAt ad (i + 28) (ad (i + 28)) := rfl
  have hay22 : zAt ad (i + 29) (ad (i + 29)) := rfl
  obtain ⟨⟨hsyy23, htyy23, hnyy23, hpyy23⟩, hlyy23⟩ := okA.at0 hA
  simp only [Nat.zero_add] at hsyy23 hnyy23 hpyy23
  have hmn : ∀ s, s < 4 → 0 ≤ r (6 + 86 * s) ∧ r (6 + 86 * s) ≤ 12 := fun s hs => (hsyy23 s hs).1
  have h5 : 0 ≤ r 5 ∧ r 5 ≤ 6 := hpyy23
  refine z_of (by decide) (Nat.le_of_ble_eq_true rfl) ?_
  intro pZ eZ sZ mZ below meth cZ C hr hlk hnm
  refine z_lv (lv' := [(0, .ref (ad i))]) [0] rfl ?_
  refine z_aload_n C 0 dX10_undo_0 rfl ?_
  refine z_iconst (z := 0) C dX10_undo_1 rfl ?_
  refine z_put (fs' := mF ad (i) (uZ F 12 (0))) C (by omega) hay1 hg tyX10 tyX10_ok nmX10 rfl inA_X10 12 (by decide) q_1471 rfl rfl rfl rfl (Nat.le_of_ble_eq_true rfl) rfl dX10_undo_2 (fun gy24 egy25 => ?_)
  have hgy26 := up_s egy25
  refine z_aload_n C 0 dX10_undo_5 rfl ?_
  refine z_get (v := .int (zI (F 15))) C (by omega) hay1 hgy26 rfl inA_X10 15 (by decide) q_1474 rfl (fv (F := (uZ F 12 (0))) (f := 15) (fn rfl (by decide))) dX10_undo_6 ?_
  refine z_if_ne (tgt := 14) C dX10_undo_9 (by decide) (by omega) (fun hby27 => ?_) (fun hby27 => ?_)
  · refine z_aload_n C 0 dX10_undo_14 rfl ?_
    refine z_dup C dX10_undo_15 rfl ?_
    refine z_get (v := .int (zI (F 15))) C (by omega) hay1 hgy26 rfl inA_X10 15 (by decide) q_1474 rfl (fv (F := (uZ F 12 (0))) (f := 15) (fn rfl (by decide))) dX10_undo_16 ?_
    refine z_iconst (z := 1) C dX10_undo_19 rfl ?_
    refine z_isub C dX10_undo_20 ?_
    refine z_put (fs' := mF ad (i) (uZ (uZ F 12 (0)) 15 ((F 15) - 1))) C (by omega) hay1 hgy26 tyX10 tyX10_ok nmX10 rfl inA_X10 15 (by decide) q_1474 rfl rfl rfl rfl (Nat.le_of_ble_eq_true rfl) rfl dX10_undo_21 (fun gy28 egy29 => ?_)
    have hgy30 := up_s egy29
    refine z_aload_n C 0 dX10_undo_24 rfl ?_
    refine z_aload_n C 0 dX10_undo_25 rfl ?_
    refine z_get (v := .int (zI (F 16))) C (by omega) hay1 hgy30 rfl inA_X10 16 (by decide) q_1475 rfl (fv (F := (uZ (uZ F 12 (0)) 15 ((F 15) - 1))) (f := 16) (fn (fn rfl (by decide)) (by decide))) dX10_undo_26 ?_
    refine z_aload_n C 0 dX10_undo_29 rfl ?_
    refine z_get (v := .int (zI ((F 15) - 1))) C (by omega) hay1 hgy30 rfl inA_X10 15 (by decide) q_1474 rfl (fv (F := (uZ (uZ F 12 (0)) 15 ((F 15) - 1))) (f := 15) (uZ_s _ _ _)) dX10_undo_30 ?_
    refine z_cS (As := [.int (zI (F 16)), .int (zI ((F 15) - 1))]) (rest := [.ref (ad i)]) C (c_X10_keptAt l D A cs tt N ad _ (F 16) (by omega) ((F 15) - 1) (by omega)) ms_yX10_keptAt q_1874 hd_yX10_keptAt (by decide) (Nat.le_of_ble_eq_true rfl) (by decide) dX10_undo_33 rfl (kI0 fun vy31 gvy31 hvy31 => ?_)
    obtain ⟨⟨wvy31, hwvy31, rfl⟩, rfl⟩ := hvy31
    obtain ⟨bvy31, hbvy31⟩ : ∃ b9 : Nat, 350 * wvy31 = b9 := ⟨_, rfl⟩
    rw [hbvy31]
    refine z_iconst (z := 0) C dX10_undo_36 rfl ?_
    refine z_sipush (z := 350) C dX10_undo_37 (by decide) ?_
    have hgy32 := up_n egy25 ha1 (ne_o (i := i) (c := 1) (d := 0) rfl)
    have hgy33 := up_n egy29 hgy32 (ne_o (i := i) (c := 1) (d := 0) rfl)
    refine z_cV (As := [.int (zI ((bvy31 : Int))), .int (zI (0)), .int (zI (350))]) (rest := []) (ci := 12) C (c_X10_copies l D A cs tt N ad _ i hN _ hgy30 _ hgy33 bvy31 0 350 (by omega) (by omega) (by omega)) (by omega) hay1 hgy30 rfl rfl mv_yX10_copies q_1877 hd_yX10_copies (by decide) (Nat.le_of_ble_eq_true rfl) (by decide) dX10_undo_40 rfl (kV0 fun gvy34 hvy34 => ?_)
    obtain ⟨⟨rvy34, hcvy34, hevy34, hovy34⟩, hfvy34⟩ := hvy34
    have hAy35 : okA rvy34 (x) := okA.copy (a := wvy31) (b := 0) (m := 1) hA (by omega) (by omega) (by omega) (fun k hk => by rw [show 350 * wvy31 = bvy31 by omega]; exact hevy34 k (by omega)) (fun j hj => hovy34 j (by omega))
    refine z_aload_n C 0 dX10_undo_43 rfl ?_
    have hgy36 := (hfvy34 (i) (ne_o (i := i) (c := 0) (d := 1) rfl)).trans hgy30
    refine z_get (v := .int (zI ((F 15) - 1))) C (by omega) hay1 hgy36 rfl inA_X10 15 (by decide) q_1474 rfl (fv (F := (uZ (uZ F 12 (0)) 15 ((F 15) - 1))) (f := 15) (uZ_s _ _ _)) dX10_undo_44 ?_
    have hFy37 : ∀ f, f ≠ 12 → f ≠ 15 → (uZ (uZ F 12 (0)) 15 ((F 15) - 1)) f = F f := fun f n12 n15 => ((uZ_n _ _ n15).trans ((uZ_n _ _ n12).trans rfl))
    have hey38 : (uZ (uZ F 12 (0)) 15 ((F 15) - 1)) 13 = F 13 := (fn (fn rfl (by decide)) (by decide))
    have hey39 : (uZ (uZ F 12 (0)) 15 ((F 15) - 1)) 14 = F 14 := (fn (fn rfl (by decide)) (by decide))
    have hey40 : (uZ (uZ F 12 (0)) 15 ((F 15) - 1)) 15 = (F 15) - 1 := (uZ_s _ _ _)
    have hey41 : (uZ (uZ F 12 (0)) 15 ((F 15) - 1)) 16 = F 16 := (fn (fn rfl (by decide)) (by decide))
    have hey42 : (uZ (uZ F 12 (0)) 15 ((F 15) - 1)) 17 = F 17 := (fn (fn rfl (by decide)) (by decide))
    have hey43 : (uZ (uZ F 12 (0)) 15 ((F 15) - 1)) 18 = F 18 := (fn (fn rfl (by decide)) (by decide))
    have hey44 : (uZ (uZ F 12 (0)) 15 ((F 15) - 1)) 19 = F 19 := (fn (fn rfl (by decide)) (by decide))
    have hey45 : (uZ (uZ F 12 (0)) 15 ((F 15) - 1)) 20 = F 20 := (fn (fn rfl (by decide)) (by decide))
    have hey46 : (uZ (uZ F 12 (0)) 15 ((F 15) - 1)) 23 = F 23 := (fn (fn rfl (by decide)) (by decide))
    have hey47 : (uZ (uZ F 12 (0)) 15 ((F 15) - 1)) 25 = F 25 := (fn (fn rfl (by decide)) (by decide))
    have hey48 : (uZ (uZ F 12 (0)) 15 ((F 15) - 1)) 27 = F 27 := (fn (fn rfl (by decide)) (by decide))
    have hey49 : (uZ (uZ F 12 (0)) 15 ((F 15) - 1)) 28 = F 28 := (fn (fn rfl (by decide)) (by decide))
    have hey50 : (uZ (uZ F 12 (0)) 15 ((F 15) - 1)) 29 = F 29 := (fn (fn rfl (by decide)) (by decide))
    have hKy51 : okF (uZ (uZ F 12 (0)) 15 ((F 15) - 1)) := by unfold okF; omega
    have hMy52 : okMr cs ad gvy34 i (x + 1) (uZ (uZ F 12 (0)) 15 ((F 15) - 1)) rvy34 := okMr.upd hM hgy36 hKy51 (fun f a => hFy37 f (by omega) (by omega)) hcvy34 (hAy35.mono (by omega)) (fun j a b => by
        exact Or.inl (by rw [hfvy34 _ (by omega)]; rw [egy29, va_up_ne _ _ (by omega)]; rw [egy25, va_up_ne _ _ (by omega)]))
    have h23 : (uZ (uZ F 12 (0)) 15 ((F 15) - 1)) 23 = F 23 := (fn (fn rfl (by decide)) (by decide))
    exact z_iret C hr hlk dX10_undo_47 (by decide) (by decide) ⟨(F 15) - 1, rfl, rfl, rfl, by omega, ⟨_, _, hMy52, by omega⟩, fun j j1 => by rw [hfvy34 _ (by omega)]; rw [egy29, va_up_ne _ _ (by omega)]; rw [egy25, va_up_ne _ _ (by omega)]⟩
  · refine z_iconst (z := -1) C dX10_undo_12 rfl ?_
    have hgy53 := up_n egy25 ha1 (ne_o (i := i) (c := 1) (d := 0) rfl)
    have hFy54 : ∀ f, f ≠ 12 → (uZ F 12 (0)) f = F f := fun f n12 => ((uZ_n _ _ n12).trans rfl)
    have hey55 : (uZ F 12 (0)) 13 = F 13 := (fn rfl (by decide))
    have hey56 : (uZ F 12 (0)) 14 = F 14 := (fn rfl (by decide))
    have hey57 : (uZ F 12 (0)) 15 = F 15 := (fn rfl (by decide))
    have hey58 : (uZ F 12 (0)) 16 = F 16 := (fn rfl (by decide))
    have hey59 : (uZ F 12 (0)) 17 = F 17 := (fn rfl (by decide))
    have hey60 : (uZ F 12 (0)) 18 = F 18 := (fn rfl (by decide))
    have hey61 : (uZ F 12 (0)) 19 = F 19 := (fn rfl (by decide))
    have hey62 : (uZ F 12 (0)) 20 = F 20 := (fn rfl (by decide))
    have hey63 : (uZ F 12 (0)) 23 = F 23 := (fn rfl (by decide))
    have hey64 : (uZ F 12 (0)) 25 = F 25 := (fn rfl (by decide))
    have hey65 : (uZ F 12 (0)) 27 = F 27 := (fn rfl (by decide))
    have hey66 : (uZ F 12 (0)) 28 = F 28 := (fn rfl (by decide))
    have hey67 : (uZ F 12 (0)) 29 = F 29 := (fn rfl (by decide))
    have hKy68 : okF (uZ F 12 (0)) := by unfold okF; omega
    have hMy69 : okMr cs ad gy24 i (x + 1) (uZ F 12 (0)) r := okMr.upd hM hgy26 hKy68 (fun f a => hFy54 f (by omega)) hgy53 (hA.mono (by omega)) (fun j a b => by
        exact Or.inl (by rw [egy25, va_up_ne _ _ (by omega)]))
    have h23 : (uZ F 12 (0)) 23 = F 23 := (fn rfl (by decide))
    exact z_iret C hr hlk dX10_undo_13 (by decide) (by decide) ⟨-1, rfl, rfl, rfl, by omega, ⟨_, _, hMy69, by omega⟩, fun j j1 => by rw [egy25, va_up_ne _ _ (by omega)]⟩

set_option maxRecDepth 100000 in
set_option maxHeartbeats 4000000 in
theorem c_X10_then_a (l : Launch) (D : va_G) (A : Nat → Prop) (cs : Nat → ClassId) (tt : Nat) (N : Nat) (ad : Nat → Nat) (g : Nat → va_E) (i : Nat) (hN : i + 30 ≤ N) (x : Int) (hx : 0 ≤ x ∧ x ≤ 512) (F r : Nat → Int) (hM : okMr cs ad g i x F r) (n : Nat) (hn4 : n < 4) (z1 : Int) (hz1 : -2147483648 ≤ z1 ∧ z1 ≤ 2147483647) (z2 : Int) (hz2 : -2147483648 ≤ z2 ∧ z2 ≤ 2147483647) : zM l yX10_then cX10_then 5 (some .int) ({ frames := 10, cells := 0, slots := 0, locals := 600 } : Room) D A cs tt N ad g [.ref (ad i), .int (zI ((n : Int))), .int (zI (z1)), .int (zI (z2))] (rI0 N ad fun q g' => (-2147483648 ≤ q ∧ q ≤ 2147483647) ∧ (∃ F' r' : Nat → Int, okMr cs ad g' i (x + 1) F' r' ∧ F' 23 = F 23) ∧ ∀ j, j < i ∨ i + 30 ≤ j → g' j = g j) := by
  obtain ⟨hg, ⟨⟨e13, e14, e25, e27, e29⟩, k15, k16, k17, k18, k19, k20, k23⟩, hRD, hTx, hA, st, op, ai, fa, mu, tb, ns, nh, nd, rf, pi, tp, te, ki, li, ok1, ok2, fo, dd, dps, ⟨ha1, ha2, ha3, ha4, ha5, ha6, ha7, ha8, ha9, ha10, ha11, ha12, ha13, ha14, ha15, ha24, ha25, ha26, ha27, ha28, ha29⟩, hEv, hPt, hns, htp⟩ := id hM
  obtain ⟨-, hop, hai, hfa, hT, hT1⟩ := id hEv
  have hay1 : zAt ad (i) (ad i) := rfl
  have hay2 : zAt ad (i + 1) (ad (i + 1)) := rfl
  have hay3 : zAt ad (i + 2) (ad (i + 2)) := rfl
  have hay4 : zAt ad (i + 3) (ad (i + 3)) := rfl
  have hay5 : zAt ad (i + 4) (ad (i + 4)) := rfl
  have hay6 : zAt ad (i + 5) (ad (i + 5)) := rfl
  have hay7 : zAt ad (i + 6) (ad (i + 6)) := rfl
  have hay8 : zAt ad (i + 7) (ad (i + 7)) := rfl
  have hay9 : zAt ad (i + 8) (ad (i + 8)) := rfl
  have hay10 : zAt ad (i + 9) (ad (i + 9)) := rfl
  have hay11 : zAt ad (i + 10) (ad (i + 10)) := rfl
  have hay12 : zAt ad (i + 11) (ad (i + 11)) := rfl
  have hay13 : zAt ad (i + 12) (ad (i + 12)) := rfl
  have hay14 : zAt ad (i + 13) (ad (i + 13)) := rfl
  have hay15 : zAt ad (i + 14) (ad (i + 14)) := rfl
  have hay16 : zAt ad (i + 15) (ad (i + 15)) := rfl
  have hay17 : zAt ad (i + 24) (ad (i + 24)) := rfl
  have hay18 : zAt ad (i + 25) (ad (i + 25)) := rfl
  have hay19 : zAt ad (i + 26) (ad (i + 26)) := rfl
  have hay20 : zAt ad (i + 27) (ad (i + 27)) := rfl
  have hay21 : zAt ad (i + 28) (ad (i + 28)) := rfl
  have hay22 : zAt ad (i + 29) (ad (i + 29)) := rfl
  obtain ⟨⟨hsyy23, htyy23, hnyy23, hpyy23⟩, hlyy23⟩ := okA.at0 hA
  simp only [Nat.zero_add] at hsyy23 hnyy23 hpyy23
  have hmn : ∀ s, s < 4 → 0 ≤ r (6 + 86 * s) ∧ r (6 + 86 * s) ≤ 12 := fun s hs => (hsyy23 s hs).1
  have h5 : 0 ≤ r 5 ∧ r 5 ≤ 6 := hpyy23
  refine z_of (by decide) (Nat.le_of_ble_eq_true rfl) ?_
  intro pZ eZ sZ mZ below meth cZ C hr hlk hnm
  refine z_lv (lv' := [(0, .ref (ad i)), (1, .int (zI ((n : Int)))), (2, .int (zI (z1))), (3, .int (zI (z2)))]) [0, 1, 2, 3] rfl ?_
  refine z_aload_n C 0 dX10_then_0 rfl ?_
  refine z_iconst (z := 0) C dX10_then_1 rfl ?_
  refine z_put (fs' := mF ad (i) (uZ F 12 (0))) C (by omega) hay1 hg tyX10 tyX10_ok nmX10 rfl inA_X10 12 (by decide) q_1471 rfl rfl rfl rfl (Nat.le_of_ble_eq_true rfl) rfl dX10_then_2 (fun gy24 egy25 => ?_)
  have hgy26 := up_s egy25
  refine z_aload_n C 0 dX10_then_5 rfl ?_
  refine z_iload_n C 1 dX10_then_6 rfl ?_
  have h13vy27 : (uZ F 12 (0)) 13 = F 13 := (fn rfl (by decide))
  have hey28 : (uZ F 12 (0)) 12 = 0 := (uZ_s _ _ _)
  refine z_cV (As := [.int (zI ((n : Int)))]) (rest := []) (ci := 12) C (c_X10_isSlope l D A cs tt N ad _ i hN _ hgy26 (by omega) (by omega) ((n : Int)) (by omega)) (by omega) hay1 hgy26 rfl rfl mv_yX10_isSlope q_1803 hd_yX10_isSlope (by decide) (Nat.le_of_ble_eq_true rfl) (by decide) dX10_then_7 rfl (kI0 fun vy27 gvy27 hvy27 => ?_)
  rw [h13vy27] at hvy27
  obtain ⟨hrvy27, ⟨Fvy27, hcvy27, htvy27, hFvy27⟩, hfvy27⟩ := hvy27
  rcases (show vy27 = 1 ∨ vy27 = 0 by omega) with rfl | rfl
  · have hxvy27 := hrvy27.2 rfl
    refine z_if_eq (tgt := 43) C dX10_then_10 (by decide) (by omega) (fun h => absurd h (by omega)) (fun _ => ?_)
    refine z_aload_n C 0 dX10_then_13 rfl ?_
    refine z_iload_n C 3 dX10_then_14 rfl ?_
    refine z_iconst (z := 0) C dX10_then_15 rfl ?_
    refine z_bipush (z := 6) C dX10_then_16 (by decide) ?_
    refine z_cS (As := [.int (zI (z2)), .int (zI (0)), .int (zI (6))]) (rest := [.ref (ad i)]) C (c_X10_within l D A cs tt N ad _ (z2) (by omega) (0) (by omega) (6) (by omega)) ms_yX10_within q_1686 hd_yX10_within (by decide) (Nat.le_of_ble_eq_true rfl) (by decide) dX10_then_18 rfl (kI0 fun vy29 gvy29 hvy29 => ?_)
    obtain ⟨hvy29, rfl⟩ := hvy29
    rcases hvy29 with ⟨rfl, hxvy29⟩ | ⟨rfl, hxvy29⟩
    · refine z_iconst (z := 1) C dX10_then_21 rfl ?_
      have hey31 : Fvy27 12 = Fvy27 12 := rfl
      refine z_cV (As := [.int (zI (1)), .int (zI (1))]) (rest := []) (ci := 12) C (c_X10_right l D A cs tt N ad _ i hN _ hcvy27 (by omega) (1) (by omega) (1) (by omega)) (by omega) hay1 hcvy27 rfl rfl mv_yX10_right q_1648 hd_yX10_right (by decide) (Nat.le_of_ble_eq_true rfl) (by decide) dX10_then_22 rfl (kI0 fun vy30 gvy30 hvy30 => ?_)
      obtain ⟨hrvy30, ⟨Fvy30, hcvy30, htvy30, hFvy30⟩, hfvy30⟩ := hvy30
      rcases (show vy30 = 1 ∨ vy30 = 0 by omega) with rfl | rfl
      · refine z_if_eq (tgt := 43) C dX10_then_25 (by decide) (by omega) (fun h => absurd h (by omega)) (fun _ => ?_)
        refine z_aload_n C 0 dX10_then_28 rfl ?_
        refine z_iload_n C 2 dX10_then_29 rfl ?_
        refine z_iconst (z := 0) C dX10_then_30 rfl ?_
        refine z_bipush (z := 72) C dX10_then_31 (by decide) ?_
        refine z_cS (As := [.int (zI (z1)), .int (zI (0)), .int (zI (72))]) (rest := [.ref (ad i)]) C (c_X10_within l D A cs tt N ad _ (z1) (by omega) (0) (by omega) (72) (by omega)) ms_yX10_within q_1686 hd_yX10_within (by decide) (Nat.le_of_ble_eq_true rfl) (by decide) dX10_then_33 rfl (kI0 fun vy32 gvy32 hvy32 => ?_)
        obtain ⟨hvy32, rfl⟩ := hvy32
        rcases hvy32 with ⟨rfl, hxvy32⟩ | ⟨rfl, hxvy32⟩
        · refine z_iconst (z := 2) C dX10_then_36 rfl ?_
          have hey34 : Fvy30 12 = Fvy30 12 := rfl
          refine z_cV (As := [.int (zI (1)), .int (zI (2))]) (rest := []) (ci := 12) C (c_X10_right l D A cs tt N ad _ i hN _ hcvy30 (by omega) (1) (by omega) (2) (by omega)) (by omega) hay1 hcvy30 rfl rfl mv_yX10_right q_1648 hd_yX10_right (by decide) (Nat.le_of_ble_eq_true rfl) (by decide) dX10_then_37 rfl (kI0 fun vy33 gvy33 hvy33 => ?_)
          obtain ⟨hrvy33, ⟨Fvy33, hcvy33, htvy33, hFvy33⟩, hfvy33⟩ := hvy33
          rcases (show vy33 = 1 ∨ vy33 = 0 by omega) with rfl | rfl
          · refine z_if_ne (tgt := 45) C dX10_then_40 (by decide) (by omega) (fun _ => ?_) (fun h => absurd h (by omega))
            refine z_aload_n C 0 dX10_then_45 rfl ?_
            have hgy35 := up_n egy25 ha1 (ne_o (i := i) (c := 1) (d := 0) rfl)
            have hgy36 := (hfvy27 (i + 1) (ne_o (i := i) (c := 1) (d := 0) rfl)).trans hgy35
            have hgy37 := (hfvy30 (i + 1) (ne_o (i := i) (c := 1) (d := 0) rfl)).trans hgy36
            have hgy38 := (hfvy33 (i + 1) (ne_o (i := i) (c := 1) (d := 0) rfl)).trans hgy37
            refine z_cV (As := []) (rest := []) (ci := 12) C (c_X10_tries l D A cs tt N ad _ i hN _ hcvy33 _ hgy38 (x) hA) (by omega) hay1 hcvy33 rfl rfl mv_yX10_tries q_1980 hd_yX10_tries (by decide) (Nat.le_of_ble_eq_true rfl) (by decide) dX10_then_46 rfl (kV0 fun gvy39 hvy39 => ?_)
            obtain ⟨⟨rvy39, hdvy39, hAvy39, hWvy39, h0vy39, hyvy39⟩, hfvy39⟩ := hvy39
            obtain ⟨⟨hsyy40, htyy40, hnyy40, hpyy40⟩, hlyy40⟩ := okA.at0 hAvy39
            simp only [Nat.zero_add] at hsyy40 hnyy40 hpyy40
            have hmn : ∀ s, s < 4 → 0 ≤ rvy39 (6 + 86 * s) ∧ rvy39 (6 + 86 * s) ≤ 12 := fun s hs => (hsyy40 s hs).1
            have h5 : 0 ≤ rvy39 5 ∧ rvy39 5 ≤ 6 := hpyy40
            refine z_aload_n C 0 dX10_then_49 rfl ?_
            refine z_sipush (z := 350) C dX10_then_50 (by decide) ?_
            refine z_iload_n C 2 dX10_then_53 rfl ?_
            have hgy41 := (hfvy39 (i) (ne_o (i := i) (c := 0) (d := 1) rfl)).trans hcvy33
            have hey43 : Fvy33 13 = F 13 := ((hFvy33 13 (by decide)).trans ((hFvy30 13 (by decide)).trans ((hFvy27 13 (by decide)).trans (fn rfl (by decide)))))
            have hey44 : Fvy33 14 = F 14 := ((hFvy33 14 (by decide)).trans ((hFvy30 14 (by decide)).trans ((hFvy27 14 (by decide)).trans (fn rfl (by decide)))))
            have hey45 : Fvy33 25 = F 25 := ((hFvy33 25 (by decide)).trans ((hFvy30 25 (by decide)).trans ((hFvy27 25 (by decide)).trans (fn rfl (by decide)))))
            have hey46 : Fvy33 27 = F 27 := ((hFvy33 27 (by decide)).trans ((hFvy30 27 (by decide)).trans ((hFvy27 27 (by decide)).trans (fn rfl (by decide)))))
            have hey47 : Fvy33 28 = F 28 := ((hFvy33 28 (by decide)).trans ((hFvy30 28 (by decide)).trans ((hFvy27 28 (by decide)).trans (fn rfl (by decide)))))
            have hey48 : Fvy33 29 = F 29 := ((hFvy33 29 (by decide)).trans ((hFvy30 29 (by decide)).trans ((hFvy27 29 (by decide)).trans (fn rfl (by decide)))))
            have hEvy42 : okEnv Fvy33 _ _ _ _ _ := ⟨by omega, hop, hai, hfa, hT, hT1⟩
            have hgy50 := up_n egy25 ha3 (ne_o (i := i) (c := 3) (d := 0) rfl)
            have hgy51 := (hfvy27 (i + 3) (ne_o (i := i) (c := 3) (d := 0) rfl)).trans hgy50
            have hgy52 := (hfvy30 (i + 3) (ne_o (i := i) (c := 3) (d := 0) rfl)).trans hgy51
            have hgy53 := (hfvy33 (i + 3) (ne_o (i := i) (c := 3) (d := 0) rfl)).trans hgy52
            have hgy54 := (hfvy39 (i + 3) (ne_o (i := i) (c := 3) (d := 1) rfl)).trans hgy53
            have hgy55 := up_n egy25 ha4 (ne_o (i := i) (c := 4) (d := 0) rfl)
            have hgy56 := (hfvy27 (i + 4) (ne_o (i := i) (c := 4) (d := 0) rfl)).trans hgy55
            have hgy57 := (hfvy30 (i + 4) (ne_o (i := i) (c := 4) (d := 0) rfl)).trans hgy56
            have hgy58 := (hfvy33 (i + 4) (ne_o (i := i) (c := 4) (d := 0) rfl)).trans hgy57
            have hgy59 := (hfvy39 (i + 4) (ne_o (i := i) (c := 4) (d := 1) rfl)).trans hgy58
            have hgy60 := up_n egy25 ha5 (ne_o (i := i) (c := 5) (d := 0) rfl)
            have hgy61 := (hfvy27 (i + 5) (ne_o (i := i) (c := 5) (d := 0) rfl)).trans hgy60
            have hgy62 := (hfvy30 (i + 5) (ne_o (i := i) (c := 5) (d := 0) rfl)).trans hgy61
            have hgy63 := (hfvy33 (i + 5) (ne_o (i := i) (c := 5) (d := 0) rfl)).trans hgy62
            have hgy64 := (hfvy39 (i + 5) (ne_o (i := i) (c := 5) (d := 1) rfl)).trans hgy63
            have hgy65 := up_n egy25 ha6 (ne_o (i := i) (c := 6) (d := 0) rfl)
            have hgy66 := (hfvy27 (i + 6) (ne_o (i := i) (c := 6) (d := 0) rfl)).trans hgy65
            have hgy67 := (hfvy30 (i + 6) (ne_o (i := i) (c := 6) (d := 0) rfl)).trans hgy66
            have hgy68 := (hfvy33 (i + 6) (ne_o (i := i) (c := 6) (d := 0) rfl)).trans hgy67
            have hgy69 := (hfvy39 (i + 6) (ne_o (i := i) (c := 6) (d := 1) rfl)).trans hgy68
            have hgy70 := up_n egy25 ha7 (ne_o (i := i) (c := 7) (d := 0) rfl)
            have hgy71 := (hfvy27 (i + 7) (ne_o (i := i) (c := 7) (d := 0) rfl)).trans hgy70
            have hgy72 := (hfvy30 (i + 7) (ne_o (i := i) (c := 7) (d := 0) rfl)).trans hgy71
            have hgy73 := (hfvy33 (i + 7) (ne_o (i := i) (c := 7) (d := 0) rfl)).trans hgy72
            have hgy74 := (hfvy39 (i + 7) (ne_o (i := i) (c := 7) (d := 1) rfl)).trans hgy73
            have hgy75 := up_n egy25 ha14 (ne_o (i := i) (c := 14) (d := 0) rfl)
            have hgy76 := (hfvy27 (i + 14) (ne_o (i := i) (c := 14) (d := 0) rfl)).trans hgy75
            have hgy77 := (hfvy30 (i + 14) (ne_o (i := i) (c := 14) (d := 0) rfl)).trans hgy76
            have hgy78 := (hfvy33 (i + 14) (ne_o (i := i) (c := 14) (d := 0) rfl)).trans hgy77
            have hgy79 := (hfvy39 (i + 14) (ne_o (i := i) (c := 14) (d := 1) rfl)).trans hgy78
            have hgy80 := up_n egy25 ha15 (ne_o (i := i) (c := 15) (d := 0) rfl)
            have hgy81 := (hfvy27 (i + 15) (ne_o (i := i) (c := 15) (d := 0) rfl)).trans hgy80
            have hgy82 := (hfvy30 (i + 15) (ne_o (i := i) (c := 15) (d := 0) rfl)).trans hgy81
            have hgy83 := (hfvy33 (i + 15) (ne_o (i := i) (c := 15) (d := 0) rfl)).trans hgy82
            have hgy84 := (hfvy39 (i + 15) (ne_o (i := i) (c := 15) (d := 1) rfl)).trans hgy83
            refine z_cV (As := [.int (zI (350)), .int (zI (z1))]) (rest := []) (ci := 12) C (c_X10_goes l D A cs tt N ad _ i hN _ hgy41 _ hdvy39 _ hgy54 _ hgy59 _ hgy64 _ hgy69 _ hgy74 _ hgy79 _ hgy84 350 (by omega) hEvy42 (x) (by omega) hWvy39 (z1) (by omega) (by omega) (by omega)) (by omega) hay1 hgy41 rfl rfl mv_yX10_goes q_1881 hd_yX10_goes (by decide) (Nat.le_of_ble_eq_true rfl) (by decide) dX10_then_54 rfl (kV0 fun gvy49 hvy49 => ?_)
            obtain ⟨⟨rvy49, hcvy49, hwvy49, htvy49, hyvy49⟩, ⟨t4vy49, h4vy49⟩, ⟨t5vy49, h5vy49⟩, hfvy49⟩ := hvy49
            have hAy85 : okA rvy49 (x) := okA.tried hAvy39 (fun j a => hyvy49 j (by omega))
            obtain ⟨⟨hsyy86, htyy86, hnyy86, hpyy86⟩, hlyy86⟩ := okA.at0 hAy85
            simp only [Nat.zero_add] at hsyy86 hnyy86 hpyy86
            have hmn : ∀ s, s < 4 → 0 ≤ rvy49 (6 + 86 * s) ∧ rvy49 (6 + 86 * s) ≤ 12 := fun s hs => (hsyy86 s hs).1
            have h5 : 0 ≤ rvy49 5 ∧ rvy49 5 ≤ 6 := hpyy86
            refine z_aload_n C 0 dX10_then_57 rfl ?_
            refine z_sipush (z := 350) C dX10_then_58 (by decide) ?_
            refine z_iload_n C 1 dX10_then_61 rfl ?_
            obtain ⟨py87, hpy87⟩ : ∃ p9 : Nat, 350 + 6 + 86 * n = p9 := ⟨_, rfl⟩
            have hgy88 := (hfvy49 (i) (ne_o (i := i) (c := 0) (d := 1) rfl) (ne_o (i := i) (c := 0) (d := 14) rfl) (ne_o (i := i) (c := 0) (d := 15) rfl)).trans hgy41
            have hgy90 := up_n egy25 ha2 (ne_o (i := i) (c := 2) (d := 0) rfl)
            have hgy91 := (hfvy27 (i + 2) (ne_o (i := i) (c := 2) (d := 0) rfl)).trans hgy90
            have hgy92 := (hfvy30 (i + 2) (ne_o (i := i) (c := 2) (d := 0) rfl)).trans hgy91
            have hgy93 := (hfvy33 (i + 2) (ne_o (i := i) (c := 2) (d := 0) rfl)).trans hgy92
            have hgy94 := (hfvy39 (i + 2) (ne_o (i := i) (c := 2) (d := 1) rfl)).trans hgy93
            have hgy95 := (hfvy49 (i + 2) (ne_o (i := i) (c := 2) (d := 1) rfl) (ne_o (i := i) (c := 2) (d := 14) rfl) (ne_o (i := i) (c := 2) (d := 15) rfl)).trans hgy94
            have hgy96 := (hfvy49 (i + 7) (ne_o (i := i) (c := 7) (d := 1) rfl) (ne_o (i := i) (c := 7) (d := 14) rfl) (ne_o (i := i) (c := 7) (d := 15) rfl)).trans hgy74
            have hqy97 : qS rvy49 py87 := ((hwvy49.1 n (by omega)).of (p2 := py87) (by omega)).q (by have hb9 := mBb (t := rvy49 350 + x) (by omega); omega)
            have hmky98 := hqy97.1
            refine z_cV (As := [.int (zI (350)), .int (zI ((n : Int)))]) (rest := []) (ci := 12) C (c_X10_weakest l D A cs tt N ad _ i hN _ hgy88 _ hcvy49 _ hgy95 _ hgy96 350 n py87 hpy87 (by omega) (by omega) hqy97) (by omega) hay1 hgy88 rfl rfl mv_yX10_weakest q_1807 hd_yX10_weakest (by decide) (Nat.le_of_ble_eq_true rfl) (by decide) dX10_then_62 rfl (kI0 fun vy89 gvy89 hvy89 => ?_)
            obtain ⟨hvy89, rfl⟩ := hvy89
            refine z_istore (lv' := [(4, .int (zI (vy89))), (0, .ref (ad i)), (1, .int (zI ((n : Int)))), (2, .int (zI (z1))), (3, .int (zI (z2)))]) C dX10_then_65 (by decide) rfl ?_
            refine z_iload_n C 4 dX10_then_67 rfl ?_
            by_cases hsy99 : z2 ≠ 0 ∧ z2 ≠ 1 ∧ z2 ≠ 2 ∧ z2 ≠ 3 ∧ z2 ≠ 4 ∧ z2 ≠ 5
            · refine z_tout (tgt := 179) C dX10_then_68 (by omega) (by omega) (by decide) ?_
              refine z_aload_n C 1 dX10_then_179 rfl ?_
              refine z_get (v := .ref (ad (i + 1))) C (by omega) hay1 hgy88 rfl inA_X10 0 (by decide) q_1459 rfl rfl dX10_then_180 ?_
              refine z_sipush (z := 356) C dX10_then_183 (by decide) ?_
              refine z_bipush (z := 86) C dX10_then_186 (by decide) ?_
              refine z_iload_n C 2 dX10_then_188 rfl ?_
              refine z_imul C dX10_then_189 ?_
              refine z_iadd C dX10_then_190 ?_
              refine z_iconst (z := 1) C dX10_then_191 rfl ?_
              refine z_iadd C dX10_then_192 ?_
              refine z_iald C (by omega) hay2 hcvy49 (((356 + (86 * (n : Int))) + 1).toNat) (by omega) (by omega) (by decide) dX10_then_193 ?_
              obtain ⟨xy100, exy101, hxy102⟩ := zI_of (zI (rvy49 (((356 + (86 * (n : Int))) + 1).toNat)))
              rw [exy101]
              have hFy103 : ∀ f, f ≠ 12 → Fvy33 f = F f := fun f n12 => ((hFvy33 f n12).trans ((hFvy30 f n12).trans ((hFvy27 f n12).trans ((uZ_n _ _ n12).trans rfl))))
              have hey104 : Fvy33 13 = F 13 := ((hFvy33 13 (by decide)).trans ((hFvy30 13 (by decide)).trans ((hFvy27 13 (by decide)).trans (fn rfl (by decide)))))
              have hey105 : Fvy33 14 = F 14 := ((hFvy33 14 (by decide)).trans ((hFvy30 14 (by decide)).trans ((hFvy27 14 (by decide)).trans (fn rfl (by decide)))))
              have hey106 : Fvy33 15 = F 15 := ((hFvy33 15 (by decide)).trans ((hFvy30 15 (by decide)).trans ((hFvy27 15 (by decide)).trans (fn rfl (by decide)))))
              have hey107 : Fvy33 16 = F 16 := ((hFvy33 16 (by decide)).trans ((hFvy30 16 (by decide)).trans ((hFvy27 16 (by decide)).trans (fn rfl (by decide)))))
              have hey108 : Fvy33 17 = F 17 := ((hFvy33 17 (by decide)).trans ((hFvy30 17 (by decide)).trans ((hFvy27 17 (by decide)).trans (fn rfl (by decide)))))
              have hey109 : Fvy33 18 = F 18 := ((hFvy33 18 (by decide)).trans ((hFvy30 18 (by decide)).trans ((hFvy27 18 (by decide)).trans (fn rfl (by decide)))))
              have hey110 : Fvy33 19 = F 19 := ((hFvy33 19 (by decide)).trans ((hFvy30 19 (by decide)).trans ((hFvy27 19 (by decide)).trans (fn rfl (by decide)))))
              have hey111 : Fvy33 20 = F 20 := ((hFvy33 20 (by decide)).trans ((hFvy30 20 (by decide)).trans ((hFvy27 20 (by decide)).trans (fn rfl (by decide)))))
              have hey112 : Fvy33 23 = F 23 := ((hFvy33 23 (by decide)).trans ((hFvy30 23 (by decide)).trans ((hFvy27 23 (by decide)).trans (fn rfl (by decide)))))
              have hey113 : Fvy33 25 = F 25 := ((hFvy33 25 (by decide)).trans ((hFvy30 25 (by decide)).trans ((hFvy27 25 (by decide)).trans (fn rfl (by decide)))))
              have hey114 : Fvy33 27 = F 27 := ((hFvy33 27 (by decide)).trans ((hFvy30 27 (by decide)).trans ((hFvy27 27 (by decide)).trans (fn rfl (by decide)))))
              have hey115 : Fvy33 28 = F 28 := ((hFvy33 28 (by decide)).trans ((hFvy30 28 (by decide)).trans ((hFvy27 28 (by decide)).trans (fn rfl (by decide)))))
              have hey116 : Fvy33 29 = F 29 := ((hFvy33 29 (by decide)).trans ((hFvy30 29 (by decide)).trans ((hFvy27 29 (by decide)).trans (fn rfl (by decide)))))
              have hKy117 : okF Fvy33 := by unfold okF; omega
              have hMy118 : okMr cs ad gvy49 i (x + 1) Fvy33 rvy49 := okMr.upd hM hgy88 hKy117 (fun f a => hFy103 f (by omega)) hcvy49 (hAy85.mono (by omega)) (fun j a b => by
                  by_cases e0 : j = i + 14
                  · exact Or.inr ⟨14, _, e0, lsP.l (by decide), by rw [e0]; exact h4vy49⟩
                  by_cases e1 : j = i + 15
                  · exact Or.inr ⟨15, _, e1, lsP.l (by decide), by rw [e1]; exact h5vy49⟩
                  exact Or.inl (by rw [hfvy49 _ (by omega) (by omega) (by omega)]; rw [hfvy39 _ (by omega)]; rw [hfvy33 _ (by omega)]; rw [hfvy30 _ (by omega)]; rw [hfvy27 _ (by omega)]; rw [egy25, va_up_ne _ _ (by omega)]))
              have h23 : Fvy33 23 = F 23 := ((hFvy33 23 (by decide)).trans ((hFvy30 23 (by decide)).trans ((hFvy27 23 (by decide)).trans (fn rfl (by decide)))))
              exact z_iret C hr hlk dX10_then_194 (by decide) (by decide) ⟨xy100, rfl, rfl, rfl, by omega, ⟨_, _, hMy118, by omega⟩, fun j j1 => by rw [hfvy49 _ (by omega) (by omega) (by omega)]; rw [hfvy39 _ (by omega)]; rw [hfvy33 _ (by omega)]; rw [hfvy30 _ (by omega)]; rw [hfvy27 _ (by omega)]; rw [egy25, va_up_ne _ _ (by omega)]⟩
            · rcases (show z2 = 0 ∨ z2 = 1 ∨ z2 = 2 ∨ z2 = 3 ∨ z2 = 4 ∨ z2 = 5 by omega) with rfl | rfl | rfl | rfl | rfl | rfl
              · refine z_tin (off := 40) (tgt := 108) C dX10_then_68 (by omega) (by omega) (by omega) rfl (by decide) ?_
                refine z_aload_n C 1 dX10_then_108 rfl ?_
                refine z_sipush (z := 350) C dX10_then_109 (by decide) ?_
                refine z_iload_n C 2 dX10_then_112 rfl ?_
                refine z_iconst (z := 3) C dX10_then_113 rfl ?_
                have hqy120 : qS rvy49 py87 := ((hwvy49.1 n (by omega)).of (p2 := py87) (by omega)).q (by have hb9 := mBb (t := rvy49 350 + x) (by omega); omega)
                have hmky121 := hqy120.1
                refine z_cV (As := [.int (zI (350)), .int (zI ((n : Int))), .int (zI (3))]) (rest := []) (ci := 12) C (c_X10_sumA l D A cs tt N ad _ i hN _ hgy88 _ hcvy49 350 n py87 hpy87 (by omega) (by omega) hqy120 3 (by omega)) (by omega) hay1 hgy88 rfl rfl mv_yX10_sum q_1745 hd_yX10_sum (by decide) (Nat.le_of_ble_eq_true rfl) (by decide) dX10_then_114 rfl (kI0 fun vy119 gvy119 hvy119 => ?_)
                obtain ⟨hvy119, rfl⟩ := hvy119
                have hFy122 : ∀ f, f ≠ 12 → Fvy33 f = F f := fun f n12 => ((hFvy33 f n12).trans ((hFvy30 f n12).trans ((hFvy27 f n12).trans ((uZ_n _ _ n12).trans rfl))))
                have hey123 : Fvy33 13 = F 13 := ((hFvy33 13 (by decide)).trans ((hFvy30 13 (by decide)).trans ((hFvy27 13 (by decide)).trans (fn rfl (by decide)))))
                have hey124 : Fvy33 14 = F 14 := ((hFvy33 14 (by decide)).trans ((hFvy30 14 (by decide)).trans ((hFvy27 14 (by decide)).trans (fn rfl (by decide)))))
                have hey125 : Fvy33 15 = F 15 := ((hFvy33 15 (by decide)).trans ((hFvy30 15 (by decide)).trans ((hFvy27 15 (by decide)).trans (fn rfl (by decide)))))
                have hey126 : Fvy33 16 = F 16 := ((hFvy33 16 (by decide)).trans ((hFvy30 16 (by decide)).trans ((hFvy27 16 (by decide)).trans (fn rfl (by decide)))))
                have hey127 : Fvy33 17 = F 17 := ((hFvy33 17 (by decide)).trans ((hFvy30 17 (by decide)).trans ((hFvy27 17 (by decide)).trans (fn rfl (by decide)))))
                have hey128 : Fvy33 18 = F 18 := ((hFvy33 18 (by decide)).trans ((hFvy30 18 (by decide)).trans ((hFvy27 18 (by decide)).trans (fn rfl (by decide)))))
                have hey129 : Fvy33 19 = F 19 := ((hFvy33 19 (by decide)).trans ((hFvy30 19 (by decide)).trans ((hFvy27 19 (by decide)).trans (fn rfl (by decide)))))
                have hey130 : Fvy33 20 = F 20 := ((hFvy33 20 (by decide)).trans ((hFvy30 20 (by decide)).trans ((hFvy27 20 (by decide)).trans (fn rfl (by decide)))))
                have hey131 : Fvy33 23 = F 23 := ((hFvy33 23 (by decide)).trans ((hFvy30 23 (by decide)).trans ((hFvy27 23 (by decide)).trans (fn rfl (by decide)))))
                have hey132 : Fvy33 25 = F 25 := ((hFvy33 25 (by decide)).trans ((hFvy30 25 (by decide)).trans ((hFvy27 25 (by decide)).trans (fn rfl (by decide)))))
                have hey133 : Fvy33 27 = F 27 := ((hFvy33 27 (by decide)).trans ((hFvy30 27 (by decide)).trans ((hFvy27 27 (by decide)).trans (fn rfl (by decide)))))
                have hey134 : Fvy33 28 = F 28 := ((hFvy33 28 (by decide)).trans ((hFvy30 28 (by decide)).trans ((hFvy27 28 (by decide)).trans (fn rfl (by decide)))))
                have hey135 : Fvy33 29 = F 29 := ((hFvy33 29 (by decide)).trans ((hFvy30 29 (by decide)).trans ((hFvy27 29 (by decide)).trans (fn rfl (by decide)))))
                have hKy136 : okF Fvy33 := by unfold okF; omega
                have hMy137 : okMr cs ad gvy49 i (x + 1) Fvy33 rvy49 := okMr.upd hM hgy88 hKy136 (fun f a => hFy122 f (by omega)) hcvy49 (hAy85.mono (by omega)) (fun j a b => by
                    by_cases e0 : j = i + 14
                    · exact Or.inr ⟨14, _, e0, lsP.l (by decide), by rw [e0]; exact h4vy49⟩
                    by_cases e1 : j = i + 15
                    · exact Or.inr ⟨15, _, e1, lsP.l (by decide), by rw [e1]; exact h5vy49⟩
                    exact Or.inl (by rw [hfvy49 _ (by omega) (by omega) (by omega)]; rw [hfvy39 _ (by omega)]; rw [hfvy33 _ (by omega)]; rw [hfvy30 _ (by omega)]; rw [hfvy27 _ (by omega)]; rw [egy25, va_up_ne _ _ (by omega)]))
                have h23 : Fvy33 23 = F 23 := ((hFvy33 23 (by decide)).trans ((hFvy30 23 (by decide)).trans ((hFvy27 23 (by decide)).trans (fn rfl (by decide)))))
                exact z_iret C hr hlk dX10_then_117 (by decide) (by decide) ⟨vy119, rfl, rfl, rfl, by omega, ⟨_, _, hMy137, by omega⟩, fun j j1 => by rw [hfvy49 _ (by omega) (by omega) (by omega)]; rw [hfvy39 _ (by omega)]; rw [hfvy33 _ (by omega)]; rw [hfvy30 _ (by omega)]; rw [hfvy27 _ (by omega)]; rw [egy25, va_up_ne _ _ (by omega)]⟩
              · refine z_tin (off := 50) (tgt := 118) C dX10_then_68 (by omega) (by omega) (by omega) rfl (by decide) ?_
                refine z_aload_n C 1 dX10_then_118 rfl ?_
                refine z_sipush (z := 350) C dX10_then_119 (by decide) ?_
                refine z_iload_n C 2 dX10_then_122 rfl ?_
                refine z_iconst (z := 1) C dX10_then_123 rfl ?_
                have hqy139 : qS rvy49 py87 := ((hwvy49.1 n (by omega)).of (p2 := py87) (by omega)).q (by have hb9 := mBb (t := rvy49 350 + x) (by omega); omega)
                have hmky140 := hqy139.1
                refine z_cV (As := [.int (zI (350)), .int (zI ((n : Int))), .int (zI (1))]) (rest := []) (ci := 12) C (c_X10_sumA l D A cs tt N ad _ i hN _ hgy88 _ hcvy49 350 n py87 hpy87 (by omega) (by omega) hqy139 1 (by omega)) (by omega) hay1 hgy88 rfl rfl mv_yX10_sum q_1745 hd_yX10_sum (by decide) (Nat.le_of_ble_eq_true rfl) (by decide) dX10_then_124 rfl (kI0 fun vy138 gvy138 hvy138 => ?_)
                obtain ⟨hvy138, rfl⟩ := hvy138
                have hFy141 : ∀ f, f ≠ 12 → Fvy33 f = F f := fun f n12 => ((hFvy33 f n12).trans ((hFvy30 f n12).trans ((hFvy27 f n12).trans ((uZ_n _ _ n12).trans rfl))))
                have hey142 : Fvy33 13 = F 13 := ((hFvy33 13 (by decide)).trans ((hFvy30 13 (by decide)).trans ((hFvy27 13 (by decide)).trans (fn rfl (by decide)))))
                have hey143 : Fvy33 14 = F 14 := ((hFvy33 14 (by decide)).trans ((hFvy30 14 (by decide)).trans ((hFvy27 14 (by decide)).trans (fn rfl (by decide)))))
                have hey144 : Fvy33 15 = F 15 := ((hFvy33 15 (by decide)).trans ((hFvy30 15 (by decide)).trans ((hFvy27 15 (by decide)).trans (fn rfl (by decide)))))
                have hey145 : Fvy33 16 = F 16 := ((hFvy33 16 (by decide)).trans ((hFvy30 16 (by decide)).trans ((hFvy27 16 (by decide)).trans (fn rfl (by decide)))))
                have hey146 : Fvy33 17 = F 17 := ((hFvy33 17 (by decide)).trans ((hFvy30 17 (by decide)).trans ((hFvy27 17 (by decide)).trans (fn rfl (by decide)))))
                have hey147 : Fvy33 18 = F 18 := ((hFvy33 18 (by decide)).trans ((hFvy30 18 (by decide)).trans ((hFvy27 18 (by decide)).trans (fn rfl (by decide)))))
                have hey148 : Fvy33 19 = F 19 := ((hFvy33 19 (by decide)).trans ((hFvy30 19 (by decide)).trans ((hFvy27 19 (by decide)).trans (fn rfl (by decide)))))
                have hey149 : Fvy33 20 = F 20 := ((hFvy33 20 (by decide)).trans ((hFvy30 20 (by decide)).trans ((hFvy27 20 (by decide)).trans (fn rfl (by decide)))))
                have hey150 : Fvy33 23 = F 23 := ((hFvy33 23 (by decide)).trans ((hFvy30 23 (by decide)).trans ((hFvy27 23 (by decide)).trans (fn rfl (by decide)))))
                have hey151 : Fvy33 25 = F 25 := ((hFvy33 25 (by decide)).trans ((hFvy30 25 (by decide)).trans ((hFvy27 25 (by decide)).trans (fn rfl (by decide)))))
                have hey152 : Fvy33 27 = F 27 := ((hFvy33 27 (by decide)).trans ((hFvy30 27 (by decide)).trans ((hFvy27 27 (by decide)).trans (fn rfl (by decide)))))
                have hey153 : Fvy33 28 = F 28 := ((hFvy33 28 (by decide)).trans ((hFvy30 28 (by decide)).trans ((hFvy27 28 (by decide)).trans (fn rfl (by decide)))))
                have hey154 : Fvy33 29 = F 29 := ((hFvy33 29 (by decide)).trans ((hFvy30 29 (by decide)).trans ((hFvy27 29 (by decide)).trans (fn rfl (by decide)))))
                have hKy155 : okF Fvy33 := by unfold okF; omega
                have hMy156 : okMr cs ad gvy49 i (x + 1) Fvy33 rvy49 := okMr.upd hM hgy88 hKy155 (fun f a => hFy141 f (by omega)) hcvy49 (hAy85.mono (by omega)) (fun j a b => by
                    by_cases e0 : j = i + 14
                    · exact Or.inr ⟨14, _, e0, lsP.l (by decide), by rw [e0]; exact h4vy49⟩
                    by_cases e1 : j = i + 15
                    · exact Or.inr ⟨15, _, e1, lsP.l (by decide), by rw [e1]; exact h5vy49⟩
                    exact Or.inl (by rw [hfvy49 _ (by omega) (by omega) (by omega)]; rw [hfvy39 _ (by omega)]; rw [hfvy33 _ (by omega)]; rw [hfvy30 _ (by omega)]; rw [hfvy27 _ (by omega)]; rw [egy25, va_up_ne _ _ (by omega)]))
                have h23 : Fvy33 23 = F 23 := ((hFvy33 23 (by decide)).trans ((hFvy30 23 (by decide)).trans ((hFvy27 23 (by decide)).trans (fn rfl (by decide)))))
                exact z_iret C hr hlk dX10_then_127 (by decide) (by decide) ⟨vy138, rfl, rfl, rfl, by omega, ⟨_, _, hMy156, by omega⟩, fun j j1 => by rw [hfvy49 _ (by omega) (by omega) (by omega)]; rw [hfvy39 _ (by omega)]; rw [hfvy33 _ (by omega)]; rw [hfvy30 _ (by omega)]; rw [hfvy27 _ (by omega)]; rw [egy25, va_up_ne _ _ (by omega)]⟩
              · refine z_tin (off := 60) (tgt := 128) C dX10_then_68 (by omega) (by omega) (by omega) rfl (by decide) ?_
                refine z_aload_n C 1 dX10_then_128 rfl ?_
                refine z_sipush (z := 350) C dX10_then_129 (by decide) ?_
                refine z_iload_n C 2 dX10_then_132 rfl ?_
                refine z_iconst (z := 2) C dX10_then_133 rfl ?_
                have hqy158 : qS rvy49 py87 := ((hwvy49.1 n (by omega)).of (p2 := py87) (by omega)).q (by have hb9 := mBb (t := rvy49 350 + x) (by omega); omega)
                have hmky159 := hqy158.1
                refine z_cV (As := [.int (zI (350)), .int (zI ((n : Int))), .int (zI (2))]) (rest := []) (ci := 12) C (c_X10_sumA l D A cs tt N ad _ i hN _ hgy88 _ hcvy49 350 n py87 hpy87 (by omega) (by omega) hqy158 2 (by omega)) (by omega) hay1 hgy88 rfl rfl mv_yX10_sum q_1745 hd_yX10_sum (by decide) (Nat.le_of_ble_eq_true rfl) (by decide) dX10_then_134 rfl (kI0 fun vy157 gvy157 hvy157 => ?_)
                obtain ⟨hvy157, rfl⟩ := hvy157
                have hFy160 : ∀ f, f ≠ 12 → Fvy33 f = F f := fun f n12 => ((hFvy33 f n12).trans ((hFvy30 f n12).trans ((hFvy27 f n12).trans ((uZ_n _ _ n12).trans rfl))))
                have hey161 : Fvy33 13 = F 13 := ((hFvy33 13 (by decide)).trans ((hFvy30 13 (by decide)).trans ((hFvy27 13 (by decide)).trans (fn rfl (by decide)))))
                have hey162 : Fvy33 14 = F 14 := ((hFvy33 14 (by decide)).trans ((hFvy30 14 (by decide)).trans ((hFvy27 14 (by decide)).trans (fn rfl (by decide)))))
                have hey163 : Fvy33 15 = F 15 := ((hFvy33 15 (by decide)).trans ((hFvy30 15 (by decide)).trans ((hFvy27 15 (by decide)).trans (fn rfl (by decide)))))
                have hey164 : Fvy33 16 = F 16 := ((hFvy33 16 (by decide)).trans ((hFvy30 16 (by decide)).trans ((hFvy27 16 (by decide)).trans (fn rfl (by decide)))))
                have hey165 : Fvy33 17 = F 17 := ((hFvy33 17 (by decide)).trans ((hFvy30 17 (by decide)).trans ((hFvy27 17 (by decide)).trans (fn rfl (by decide)))))
                have hey166 : Fvy33 18 = F 18 := ((hFvy33 18 (by decide)).trans ((hFvy30 18 (by decide)).trans ((hFvy27 18 (by decide)).trans (fn rfl (by decide)))))
                have hey167 : Fvy33 19 = F 19 := ((hFvy33 19 (by decide)).trans ((hFvy30 19 (by decide)).trans ((hFvy27 19 (by decide)).trans (fn rfl (by decide)))))
                have hey168 : Fvy33 20 = F 20 := ((hFvy33 20 (by decide)).trans ((hFvy30 20 (by decide)).trans ((hFvy27 20 (by decide)).trans (fn rfl (by decide)))))
                have hey169 : Fvy33 23 = F 23 := ((hFvy33 23 (by decide)).trans ((hFvy30 23 (by decide)).trans ((hFvy27 23 (by decide)).trans (fn rfl (by decide)))))
                have hey170 : Fvy33 25 = F 25 := ((hFvy33 25 (by decide)).trans ((hFvy30 25 (by decide)).trans ((hFvy27 25 (by decide)).trans (fn rfl (by decide)))))
                have hey171 : Fvy33 27 = F 27 := ((hFvy33 27 (by decide)).trans ((hFvy30 27 (by decide)).trans ((hFvy27 27 (by decide)).trans (fn rfl (by decide)))))
                have hey172 : Fvy33 28 = F 28 := ((hFvy33 28 (by decide)).trans ((hFvy30 28 (by decide)).trans ((hFvy27 28 (by decide)).trans (fn rfl (by decide)))))
                have hey173 : Fvy33 29 = F 29 := ((hFvy33 29 (by decide)).trans ((hFvy30 29 (by decide)).trans ((hFvy27 29 (by decide)).trans (fn rfl (by decide)))))
                have hKy174 : okF Fvy33 := by unfold okF; omega
                have hMy175 : okMr cs ad gvy49 i (x + 1) Fvy33 rvy49 := okMr.upd hM hgy88 hKy174 (fun f a => hFy160 f (by omega)) hcvy49 (hAy85.mono (by omega)) (fun j a b => by
                    by_cases e0 : j = i + 14
                    · exact Or.inr ⟨14, _, e0, lsP.l (by decide), by rw [e0]; exact h4vy49⟩
                    by_cases e1 : j = i + 15
                    · exact Or.inr ⟨15, _, e1, lsP.l (by decide), by rw [e1]; exact h5vy49⟩
                    exact Or.inl (by rw [hfvy49 _ (by omega) (by omega) (by omega)]; rw [hfvy39 _ (by omega)]; rw [hfvy33 _ (by omega)]; rw [hfvy30 _ (by omega)]; rw [hfvy27 _ (by omega)]; rw [egy25, va_up_ne _ _ (by omega)]))
                have h23 : Fvy33 23 = F 23 := ((hFvy33 23 (by decide)).trans ((hFvy30 23 (by decide)).trans ((hFvy27 23 (by decide)).trans (fn rfl (by decide)))))
                exact z_iret C hr hlk dX10_then_137 (by decide) (by decide) ⟨vy157, rfl, rfl, rfl, by omega, ⟨_, _, hMy175, by omega⟩, fun j j1 => by rw [hfvy49 _ (by omega) (by omega) (by omega)]; rw [hfvy39 _ (by omega)]; rw [hfvy33 _ (by omega)]; rw [hfvy30 _ (by omega)]; rw [hfvy27 _ (by omega)]; rw [egy25, va_up_ne _ _ (by omega)]⟩
              · refine z_tin (off := 70) (tgt := 138) C dX10_then_68 (by omega) (by omega) (by omega) rfl (by decide) ?_
                refine z_aload_n C 1 dX10_then_138 rfl ?_
                refine z_sipush (z := 350) C dX10_then_139 (by decide) ?_
                refine z_iload_n C 2 dX10_then_142 rfl ?_
                refine z_cV (As := [.int (zI (350)), .int (zI ((n : Int)))]) (rest := []) (ci := 12) C (c_X10_many l D A cs tt N ad _ i hN _ hgy88 _ hcvy49 350 n py87 hpy87 (by omega) (by omega)) (by omega) hay1 hgy88 rfl rfl mv_yX10_many q_1733 hd_yX10_many (by decide) (Nat.le_of_ble_eq_true rfl) (by decide) dX10_then_143 rfl (kI0 fun vy176 gvy176 hvy176 => ?_)
                obtain ⟨rfl, rfl⟩ := hvy176
                have hFy177 : ∀ f, f ≠ 12 → Fvy33 f = F f := fun f n12 => ((hFvy33 f n12).trans ((hFvy30 f n12).trans ((hFvy27 f n12).trans ((uZ_n _ _ n12).trans rfl))))
                have hey178 : Fvy33 13 = F 13 := ((hFvy33 13 (by decide)).trans ((hFvy30 13 (by decide)).trans ((hFvy27 13 (by decide)).trans (fn rfl (by decide)))))
                have hey179 : Fvy33 14 = F 14 := ((hFvy33 14 (by decide)).trans ((hFvy30 14 (by decide)).trans ((hFvy27 14 (by decide)).trans (fn rfl (by decide)))))
                have hey180 : Fvy33 15 = F 15 := ((hFvy33 15 (by decide)).trans ((hFvy30 15 (by decide)).trans ((hFvy27 15 (by decide)).trans (fn rfl (by decide)))))
                have hey181 : Fvy33 16 = F 16 := ((hFvy33 16 (by decide)).trans ((hFvy30 16 (by decide)).trans ((hFvy27 16 (by decide)).trans (fn rfl (by decide)))))
                have hey182 : Fvy33 17 = F 17 := ((hFvy33 17 (by decide)).trans ((hFvy30 17 (by decide)).trans ((hFvy27 17 (by decide)).trans (fn rfl (by decide)))))
                have hey183 : Fvy33 18 = F 18 := ((hFvy33 18 (by decide)).trans ((hFvy30 18 (by decide)).trans ((hFvy27 18 (by decide)).trans (fn rfl (by decide)))))
                have hey184 : Fvy33 19 = F 19 := ((hFvy33 19 (by decide)).trans ((hFvy30 19 (by decide)).trans ((hFvy27 19 (by decide)).trans (fn rfl (by decide)))))
                have hey185 : Fvy33 20 = F 20 := ((hFvy33 20 (by decide)).trans ((hFvy30 20 (by decide)).trans ((hFvy27 20 (by decide)).trans (fn rfl (by decide)))))
                have hey186 : Fvy33 23 = F 23 := ((hFvy33 23 (by decide)).trans ((hFvy30 23 (by decide)).trans ((hFvy27 23 (by decide)).trans (fn rfl (by decide)))))
                have hey187 : Fvy33 25 = F 25 := ((hFvy33 25 (by decide)).trans ((hFvy30 25 (by decide)).trans ((hFvy27 25 (by decide)).trans (fn rfl (by decide)))))
                have hey188 : Fvy33 27 = F 27 := ((hFvy33 27 (by decide)).trans ((hFvy30 27 (by decide)).trans ((hFvy27 27 (by decide)).trans (fn rfl (by decide)))))
                have hey189 : Fvy33 28 = F 28 := ((hFvy33 28 (by decide)).trans ((hFvy30 28 (by decide)).trans ((hFvy27 28 (by decide)).trans (fn rfl (by decide)))))
                have hey190 : Fvy33 29 = F 29 := ((hFvy33 29 (by decide)).trans ((hFvy30 29 (by decide)).trans ((hFvy27 29 (by decide)).trans (fn rfl (by decide)))))
                have hKy191 : okF Fvy33 := by unfold okF; omega
                have hMy192 : okMr cs ad gvy49 i (x + 1) Fvy33 rvy49 := okMr.upd hM hgy88 hKy191 (fun f a => hFy177 f (by omega)) hcvy49 (hAy85.mono (by omega)) (fun j a b => by
                    by_cases e0 : j = i + 14
                    · exact Or.inr ⟨14, _, e0, lsP.l (by decide), by rw [e0]; exact h4vy49⟩
                    by_cases e1 : j = i + 15
                    · exact Or.inr ⟨15, _, e1, lsP.l (by decide), by rw [e1]; exact h5vy49⟩
                    exact Or.inl (by rw [hfvy49 _ (by omega) (by omega) (by omega)]; rw [hfvy39 _ (by omega)]; rw [hfvy33 _ (by omega)]; rw [hfvy30 _ (by omega)]; rw [hfvy27 _ (by omega)]; rw [egy25, va_up_ne _ _ (by omega)]))
                have h23 : Fvy33 23 = F 23 := ((hFvy33 23 (by decide)).trans ((hFvy30 23 (by decide)).trans ((hFvy27 23 (by decide)).trans (fn rfl (by decide)))))
                exact z_iret C hr hlk dX10_then_146 (by decide) (by decide) ⟨rvy49 (py87), rfl, rfl, rfl, by omega, ⟨_, _, hMy192, by omega⟩, fun j j1 => by rw [hfvy49 _ (by omega) (by omega) (by omega)]; rw [hfvy39 _ (by omega)]; rw [hfvy33 _ (by omega)]; rw [hfvy30 _ (by omega)]; rw [hfvy27 _ (by omega)]; rw [egy25, va_up_ne _ _ (by omega)]⟩
              · refine z_tin (off := 79) (tgt := 147) C dX10_then_68 (by omega) (by omega) (by omega) rfl (by decide) ?_
                refine z_aload_n C 1 dX10_then_147 rfl ?_
                refine z_sipush (z := 350) C dX10_then_148 (by decide) ?_
                refine z_iload_n C 2 dX10_then_151 rfl ?_
                have hqy194 : qS rvy49 py87 := ((hwvy49.1 n (by omega)).of (p2 := py87) (by omega)).q (by have hb9 := mBb (t := rvy49 350 + x) (by omega); omega)
                have hmky195 := hqy194.1
                refine z_cV (As := [.int (zI (350)), .int (zI ((n : Int)))]) (rest := []) (ci := 12) C (c_X10_leastRatio l D A cs tt N ad _ i hN _ hgy88 _ hcvy49 _ hgy95 _ hgy96 350 n py87 hpy87 (by omega) (by omega) hqy194) (by omega) hay1 hgy88 rfl rfl mv_yX10_leastRatio q_1760 hd_yX10_leastRatio (by decide) (Nat.le_of_ble_eq_true rfl) (by decide) dX10_then_152 rfl (kI0 fun vy193 gvy193 hvy193 => ?_)
                obtain ⟨hvy193, rfl⟩ := hvy193
                have hFy196 : ∀ f, f ≠ 12 → Fvy33 f = F f := fun f n12 => ((hFvy33 f n12).trans ((hFvy30 f n12).trans ((hFvy27 f n12).trans ((uZ_n _ _ n12).trans rfl))))
                have hey197 : Fvy33 13 = F 13 := ((hFvy33 13 (by decide)).trans ((hFvy30 13 (by decide)).trans ((hFvy27 13 (by decide)).trans (fn rfl (by decide)))))
                have hey198 : Fvy33 14 = F 14 := ((hFvy33 14 (by decide)).trans ((hFvy30 14 (by decide)).trans ((hFvy27 14 (by decide)).trans (fn rfl (by decide)))))
                have hey199 : Fvy33 15 = F 15 := ((hFvy33 15 (by decide)).trans ((hFvy30 15 (by decide)).trans ((hFvy27 15 (by decide)).trans (fn rfl (by decide)))))
                have hey200 : Fvy33 16 = F 16 := ((hFvy33 16 (by decide)).trans ((hFvy30 16 (by decide)).trans ((hFvy27 16 (by decide)).trans (fn rfl (by decide)))))
                have hey201 : Fvy33 17 = F 17 := ((hFvy33 17 (by decide)).trans ((hFvy30 17 (by decide)).trans ((hFvy27 17 (by decide)).trans (fn rfl (by decide)))))
                have hey202 : Fvy33 18 = F 18 := ((hFvy33 18 (by decide)).trans ((hFvy30 18 (by decide)).trans ((hFvy27 18 (by decide)).trans (fn rfl (by decide)))))
                have hey203 : Fvy33 19 = F 19 := ((hFvy33 19 (by decide)).trans ((hFvy30 19 (by decide)).trans ((hFvy27 19 (by decide)).trans (fn rfl (by decide)))))
                have hey204 : Fvy33 20 = F 20 := ((hFvy33 20 (by decide)).trans ((hFvy30 20 (by decide)).trans ((hFvy27 20 (by decide)).trans (fn rfl (by decide)))))
                have hey205 : Fvy33 23 = F 23 := ((hFvy33 23 (by decide)).trans ((hFvy30 23 (by decide)).trans ((hFvy27 23 (by decide)).trans (fn rfl (by decide)))))
                have hey206 : Fvy33 25 = F 25 := ((hFvy33 25 (by decide)).trans ((hFvy30 25 (by decide)).trans ((hFvy27 25 (by decide)).trans (fn rfl (by decide)))))
                have hey207 : Fvy33 27 = F 27 := ((hFvy33 27 (by decide)).trans ((hFvy30 27 (by decide)).trans ((hFvy27 27 (by decide)).trans (fn rfl (by decide)))))
                have hey208 : Fvy33 28 = F 28 := ((hFvy33 28 (by decide)).trans ((hFvy30 28 (by decide)).trans ((hFvy27 28 (by decide)).trans (fn rfl (by decide)))))
                have hey209 : Fvy33 29 = F 29 := ((hFvy33 29 (by decide)).trans ((hFvy30 29 (by decide)).trans ((hFvy27 29 (by decide)).trans (fn rfl (by decide)))))
                have hKy210 : okF Fvy33 := by unfold okF; omega
                have hMy211 : okMr cs ad gvy49 i (x + 1) Fvy33 rvy49 := okMr.upd hM hgy88 hKy210 (fun f a => hFy196 f (by omega)) hcvy49 (hAy85.mono (by omega)) (fun j a b => by
                    by_cases e0 : j = i + 14
                    · exact Or.inr ⟨14, _, e0, lsP.l (by decide), by rw [e0]; exact h4vy49⟩
                    by_cases e1 : j = i + 15
                    · exact Or.inr ⟨15, _, e1, lsP.l (by decide), by rw [e1]; exact h5vy49⟩
                    exact Or.inl (by rw [hfvy49 _ (by omega) (by omega) (by omega)]; rw [hfvy39 _ (by omega)]; rw [hfvy33 _ (by omega)]; rw [hfvy30 _ (by omega)]; rw [hfvy27 _ (by omega)]; rw [egy25, va_up_ne _ _ (by omega)]))
                have h23 : Fvy33 23 = F 23 := ((hFvy33 23 (by decide)).trans ((hFvy30 23 (by decide)).trans ((hFvy27 23 (by decide)).trans (fn rfl (by decide)))))
                exact z_iret C hr hlk dX10_then_155 (by decide) (by decide) ⟨vy193, rfl, rfl, rfl, by omega, ⟨_, _, hMy211, by omega⟩, fun j j1 => by rw [hfvy49 _ (by omega) (by omega) (by omega)]; rw [hfvy39 _ (by omega)]; rw [hfvy33 _ (by omega)]; rw [hfvy30 _ (by omega)]; rw [hfvy27 _ (by omega)]; rw [egy25, va_up_ne _ _ (by omega)]⟩
              · refine z_tin (off := 88) (tgt := 156) C dX10_then_68 (by omega) (by omega) (by omega) rfl (by decide) ?_
                refine z_iload C 0 dX10_then_156 rfl ?_
                refine z_iconst (z := -1) C dX10_then_158 rfl ?_
                refine z_icmp_ne (tgt := 166) C dX10_then_159 (by decide) (by omega) (by omega) (fun hby212 => ?_) (fun hby212 => ?_)
                · refine z_aload_n C 1 dX10_then_166 rfl ?_
                  refine z_sipush (z := 350) C dX10_then_167 (by decide) ?_
                  refine z_iload_n C 2 dX10_then_170 rfl ?_
                  refine z_iload C 0 dX10_then_171 rfl ?_
                  refine z_bipush (z := 6) C dX10_then_173 (by decide) ?_
                  obtain ⟨ky213, hky213⟩ : ∃ k9 : Nat, (vy89) = (k9 : Int) := ⟨((vy89) : Int).toNat, by omega⟩
                  obtain ⟨qy214, hqy214⟩ : ∃ q9 : Nat, py87 + 2 + 7 * ky213 = q9 := ⟨_, rfl⟩
                  refine z_cV (As := [.int (zI (350)), .int (zI ((n : Int))), .int (zI (vy89)), .int (zI (6))]) (rest := []) (ci := 12) C (c_X10_of l D A cs tt N ad _ i hN _ hgy88 _ hcvy49 350 n py87 hpy87 (by omega) (by omega) (vy89) (6) (qy214 + 6) (by omega) (by omega) (by omega)) (by omega) hay1 hgy88 rfl rfl mv_yX10_of q_1749 hd_yX10_of (by decide) (Nat.le_of_ble_eq_true rfl) (by decide) dX10_then_175 rfl (kI0 fun vy215 gvy215 hvy215 => ?_)
                  obtain ⟨rfl, rfl⟩ := hvy215
                  obtain ⟨xy216, exy217, hxy218⟩ := zI_of (zI (rvy49 (qy214 + 6)))
                  rw [exy217]
                  have hFy219 : ∀ f, f ≠ 12 → Fvy33 f = F f := fun f n12 => ((hFvy33 f n12).trans ((hFvy30 f n12).trans ((hFvy27 f n12).trans ((uZ_n _ _ n12).trans rfl))))
                  have hey220 : Fvy33 13 = F 13 := ((hFvy33 13 (by decide)).trans ((hFvy30 13 (by decide)).trans ((hFvy27 13 (by decide)).trans (fn rfl (by decide)))))
                  have hey221 : Fvy33 14 = F 14 := ((hFvy33 14 (by decide)).trans ((hFvy30 14 (by decide)).trans ((hFvy27 14 (by decide)).trans (fn rfl (by decide)))))
                  have hey222 : Fvy33 15 = F 15 := ((hFvy33 15 (by decide)).trans ((hFvy30 15 (by decide)).trans ((hFvy27 15 (by decide)).trans (fn rfl (by decide)))))
                  have hey223 : Fvy33 16 = F 16 := ((hFvy33 16 (by decide)).trans ((hFvy30 16 (by decide)).trans ((hFvy27 16 (by decide)).trans (fn rfl (by decide)))))
                  have hey224 : Fvy33 17 = F 17 := ((hFvy33 17 (by decide)).trans ((hFvy30 17 (by decide)).trans ((hFvy27 17 (by decide)).trans (fn rfl (by decide)))))
                  have hey225 : Fvy33 18 = F 18 := ((hFvy33 18 (by decide)).trans ((hFvy30 18 (by decide)).trans ((hFvy27 18 (by decide)).trans (fn rfl (by decide)))))
                  have hey226 : Fvy33 19 = F 19 := ((hFvy33 19 (by decide)).trans ((hFvy30 19 (by decide)).trans ((hFvy27 19 (by decide)).trans (fn rfl (by decide)))))
                  have hey227 : Fvy33 20 = F 20 := ((hFvy33 20 (by decide)).trans ((hFvy30 20 (by decide)).trans ((hFvy27 20 (by decide)).trans (fn rfl (by decide)))))
                  have hey228 : Fvy33 23 = F 23 := ((hFvy33 23 (by decide)).trans ((hFvy30 23 (by decide)).trans ((hFvy27 23 (by decide)).trans (fn rfl (by decide)))))
                  have hey229 : Fvy33 25 = F 25 := ((hFvy33 25 (by decide)).trans ((hFvy30 25 (by decide)).trans ((hFvy27 25 (by decide)).trans (fn rfl (by decide)))))
                  have hey230 : Fvy33 27 = F 27 := ((hFvy33 27 (by decide)).trans ((hFvy30 27 (by decide)).trans ((hFvy27 27 (by decide)).trans (fn rfl (by decide)))))
                  have hey231 : Fvy33 28 = F 28 := ((hFvy33 28 (by decide)).trans ((hFvy30 28 (by decide)).trans ((hFvy27 28 (by decide)).trans (fn rfl (by decide)))))
                  have hey232 : Fvy33 29 = F 29 := ((hFvy33 29 (by decide)).trans ((hFvy30 29 (by decide)).trans ((hFvy27 29 (by decide)).trans (fn rfl (by decide)))))
                  have hKy233 : okF Fvy33 := by unfold okF; omega
                  have hMy234 : okMr cs ad gvy49 i (x + 1) Fvy33 rvy49 := okMr.upd hM hgy88 hKy233 (fun f a => hFy219 f (by omega)) hcvy49 (hAy85.mono (by omega)) (fun j a b => by
                      by_cases e0 : j = i + 14
                      · exact Or.inr ⟨14, _, e0, lsP.l (by decide), by rw [e0]; exact h4vy49⟩
                      by_cases e1 : j = i + 15
                      · exact Or.inr ⟨15, _, e1, lsP.l (by decide), by rw [e1]; exact h5vy49⟩
                      exact Or.inl (by rw [hfvy49 _ (by omega) (by omega) (by omega)]; rw [hfvy39 _ (by omega)]; rw [hfvy33 _ (by omega)]; rw [hfvy30 _ (by omega)]; rw [hfvy27 _ (by omega)]; rw [egy25, va_up_ne _ _ (by omega)]))
                  have h23 : Fvy33 23 = F 23 := ((hFvy33 23 (by decide)).trans ((hFvy30 23 (by decide)).trans ((hFvy27 23 (by decide)).trans (fn rfl (by decide)))))
                  exact z_iret C hr hlk dX10_then_178 (by decide) (by decide) ⟨xy216, rfl, rfl, rfl, by omega, ⟨_, _, hMy234, by omega⟩, fun j j1 => by rw [hfvy49 _ (by omega) (by omega) (by omega)]; rw [hfvy39 _ (by omega)]; rw [hfvy33 _ (by omega)]; rw [hfvy30 _ (by omega)]; rw [hfvy27 _ (by omega)]; rw [egy25, va_up_ne _ _ (by omega)]⟩
                · refine z_iconst (z := -1) C dX10_then_162 rfl ?_
                  refine z_goto (tgt := 178) C dX10_then_163 (by decide) ?_
                  have hFy235 : ∀ f, f ≠ 12 → Fvy33 f = F f := fun f n12 => ((hFvy33 f n12).trans ((hFvy30 f n12).trans ((hFvy27 f n12).trans ((uZ_n _ _ n12).trans rfl))))
                  have hey236 : Fvy33 13 = F 13 := ((hFvy33 13 (by decide)).trans ((hFvy30 13 (by decide)).trans ((hFvy27 13 (by decide)).trans (fn rfl (by decide)))))
                  have hey237 : Fvy33 14 = F 14 := ((hFvy33 14 (by decide)).trans ((hFvy30 14 (by decide)).trans ((hFvy27 14 (by decide)).trans (fn rfl (by decide)))))
                  have hey238 : Fvy33 15 = F 15 := ((hFvy33 15 (by decide)).trans ((hFvy30 15 (by decide)).trans ((hFvy27 15 (by decide)).trans (fn rfl (by decide)))))
                  have hey239 : Fvy33 16 = F 16 := ((hFvy33 16 (by decide)).trans ((hFvy30 16 (by decide)).trans ((hFvy27 16 (by decide)).trans (fn rfl (by decide)))))
                  have hey240 : Fvy33 17 = F 17 := ((hFvy33 17 (by decide)).trans ((hFvy30 17 (by decide)).trans ((hFvy27 17 (by decide)).trans (fn rfl (by decide)))))
                  have hey241 : Fvy33 18 = F 18 := ((hFvy33 18 (by decide)).trans ((hFvy30 18 (by decide)).trans ((hFvy27 18 (by decide)).trans (fn rfl (by decide)))))
                  have hey242 : Fvy33 19 = F 19 := ((hFvy33 19 (by decide)).trans ((hFvy30 19 (by decide)).trans ((hFvy27 19 (by decide)).trans (fn rfl (by decide)))))
                  have hey243 : Fvy33 20 = F 20 := ((hFvy33 20 (by decide)).trans ((hFvy30 20 (by decide)).trans ((hFvy27 20 (by decide)).trans (fn rfl (by decide)))))
                  have hey244 : Fvy33 23 = F 23 := ((hFvy33 23 (by decide)).trans ((hFvy30 23 (by decide)).trans ((hFvy27 23 (by decide)).trans (fn rfl (by decide)))))
                  have hey245 : Fvy33 25 = F 25 := ((hFvy33 25 (by decide)).trans ((hFvy30 25 (by decide)).trans ((hFvy27 25 (by decide)).trans (fn rfl (by decide)))))
                  have hey246 : Fvy33 27 = F 27 := ((hFvy33 27 (by decide)).trans ((hFvy30 27 (by decide)).trans ((hFvy27 27 (by decide)).trans (fn rfl (by decide)))))
                  have hey247 : Fvy33 28 = F 28 := ((hFvy33 28 (by decide)).trans ((hFvy30 28 (by decide)).trans ((hFvy27 28 (by decide)).trans (fn rfl (by decide)))))
                  have hey248 : Fvy33 29 = F 29 := ((hFvy33 29 (by decide)).trans ((hFvy30 29 (by decide)).trans ((hFvy27 29 (by decide)).trans (fn rfl (by decide)))))
                  have hKy249 : okF Fvy33 := by unfold okF; omega
                  have hMy250 : okMr cs ad gvy49 i (x + 1) Fvy33 rvy49 := okMr.upd hM hgy88 hKy249 (fun f a => hFy235 f (by omega)) hcvy49 (hAy85.mono (by omega)) (fun j a b => by
                      by_cases e0 : j = i + 14
                      · exact Or.inr ⟨14, _, e0, lsP.l (by decide), by rw [e0]; exact h4vy49⟩
                      by_cases e1 : j = i + 15
                      · exact Or.inr ⟨15, _, e1, lsP.l (by decide), by rw [e1]; exact h5vy49⟩
                      exact Or.inl (by rw [hfvy49 _ (by omega) (by omega) (by omega)]; rw [hfvy39 _ (by omega)]; rw [hfvy33 _ (by omega)]; rw [hfvy30 _ (by omega)]; rw [hfvy27 _ (by omega)]; rw [egy25, va_up_ne _ _ (by omega)]))
                  have h23 : Fvy33 23 = F 23 := ((hFvy33 23 (by decide)).trans ((hFvy30 23 (by decide)).trans ((hFvy27 23 (by decide)).trans (fn rfl (by decide)))))
                  exact z_iret C hr hlk dX10_then_178 (by decide) (by decide) ⟨-1, rfl, rfl, rfl, by omega, ⟨_, _, hMy250, by omega⟩, fun j j1 => by rw [hfvy49 _ (by omega) (by omega) (by omega)]; rw [hfvy39 _ (by omega)]; rw [hfvy33 _ (by omega)]; rw [hfvy30 _ (by omega)]; rw [hfvy27 _ (by omega)]; rw [egy25, va_up_ne _ _ (by omega)]⟩
          · refine z_if_ne (tgt := 45) C dX10_then_40 (by decide) (by omega) (fun h => absurd h (by omega)) (fun _ => ?_)
            refine z_iconst (z := 0) C dX10_then_43 rfl ?_
            have hgy251 := up_n egy25 ha1 (ne_o (i := i) (c := 1) (d := 0) rfl)
            have hgy252 := (hfvy27 (i + 1) (ne_o (i := i) (c := 1) (d := 0) rfl)).trans hgy251
            have hgy253 := (hfvy30 (i + 1) (ne_o (i := i) (c := 1) (d := 0) rfl)).trans hgy252
            have hgy254 := (hfvy33 (i + 1) (ne_o (i := i) (c := 1) (d := 0) rfl)).trans hgy253
            have hFy255 : ∀ f, f ≠ 12 → Fvy33 f = F f := fun f n12 => ((hFvy33 f n12).trans ((hFvy30 f n12).trans ((hFvy27 f n12).trans ((uZ_n _ _ n12).trans rfl))))
            have hey256 : Fvy33 13 = F 13 := ((hFvy33 13 (by decide)).trans ((hFvy30 13 (by decide)).trans ((hFvy27 13 (by decide)).trans (fn rfl (by decide)))))
            have hey257 : Fvy33 14 = F 14 := ((hFvy33 14 (by decide)).trans ((hFvy30 14 (by decide)).trans ((hFvy27 14 (by decide)).trans (fn rfl (by decide)))))
            have hey258 : Fvy33 15 = F 15 := ((hFvy33 15 (by decide)).trans ((hFvy30 15 (by decide)).trans ((hFvy27 15 (by decide)).trans (fn rfl (by decide)))))
            have hey259 : Fvy33 16 = F 16 := ((hFvy33 16 (by decide)).trans ((hFvy30 16 (by decide)).trans ((hFvy27 16 (by decide)).trans (fn rfl (by decide)))))
            have hey260 : Fvy33 17 = F 17 := ((hFvy33 17 (by decide)).trans ((hFvy30 17 (by decide)).trans ((hFvy27 17 (by decide)).trans (fn rfl (by decide)))))
            have hey261 : Fvy33 18 = F 18 := ((hFvy33 18 (by decide)).trans ((hFvy30 18 (by decide)).trans ((hFvy27 18 (by decide)).trans (fn rfl (by decide)))))
            have hey262 : Fvy33 19 = F 19 := ((hFvy33 19 (by decide)).trans ((hFvy30 19 (by decide)).trans ((hFvy27 19 (by decide)).trans (fn rfl (by decide)))))
            have hey263 : Fvy33 20 = F 20 := ((hFvy33 20 (by decide)).trans ((hFvy30 20 (by decide)).trans ((hFvy27 20 (by decide)).trans (fn rfl (by decide)))))
            have hey264 : Fvy33 23 = F 23 := ((hFvy33 23 (by decide)).trans ((hFvy30 23 (by decide)).trans ((hFvy27 23 (by decide)).trans (fn rfl (by decide)))))
            have hey265 : Fvy33 25 = F 25 := ((hFvy33 25 (by decide)).trans ((hFvy30 25 (by decide)).trans ((hFvy27 25 (by decide)).trans (fn rfl (by decide)))))
            have hey266 : Fvy33 27 = F 27 := ((hFvy33 27 (by decide)).trans ((hFvy30 27 (by decide)).trans ((hFvy27 27 (by decide)).trans (fn rfl (by decide)))))
            have hey267 : Fvy33 28 = F 28 := ((hFvy33 28 (by decide)).trans ((hFvy30 28 (by decide)).trans ((hFvy27 28 (by decide)).trans (fn rfl (by decide)))))
            have hey268 : Fvy33 29 = F 29 := ((hFvy33 29 (by decide)).trans ((hFvy30 29 (by decide)).trans ((hFvy27 29 (by decide)).trans (fn rfl (by decide)))))
            have hKy269 : okF Fvy33 := by unfold okF; omega
            have hMy270 : okMr cs ad gvy33 i (x + 1) Fvy33 r := okMr.upd hM hcvy33 hKy269 (fun f a => hFy255 f (by omega)) hgy254 (hA.mono (by omega)) (fun j a b => by
                exact Or.inl (by rw [hfvy33 _ (by omega)]; rw [hfvy30 _ (by omega)]; rw [hfvy27 _ (by omega)]; rw [egy25, va_up_ne _ _ (by omega)]))
            have h23 : Fvy33 23 = F 23 := ((hFvy33 23 (by decide)).trans ((hFvy30 23 (by decide)).trans ((hFvy27 23 (by decide)).trans (fn rfl (by decide)))))
            exact z_iret C hr hlk dX10_then_44 (by decide) (by decide) ⟨0, rfl, rfl, rfl, by omega, ⟨_, _, hMy270, by omega⟩, fun j j1 => by rw [hfvy33 _ (by omega)]; rw [hfvy30 _ (by omega)]; rw [hfvy27 _ (by omega)]; rw [egy25, va_up_ne _ _ (by omega)]⟩
        · refine z_iconst (z := 2) C dX10_then_36 rfl ?_
          have hey272 : Fvy30 12 = Fvy30 12 := rfl
          refine z_cV (As := [.int (zI (0)), .int (zI (2))]) (rest := []) (ci := 12) C (c_X10_right l D A cs tt N ad _ i hN _ hcvy30 (by omega) (0) (by omega) (2) (by omega)) (by omega) hay1 hcvy30 rfl rfl mv_yX10_right q_1648 hd_yX10_right (by decide) (Nat.le_of_ble_eq_true rfl) (by decide) dX10_then_37 rfl (kI0 fun vy271 gvy271 hvy271 => ?_)
          obtain ⟨hrvy271, ⟨Fvy271, hcvy271, htvy271, hFvy271⟩, hfvy271⟩ := hvy271
          obtain rfl : vy271 = 0 := by omega
          refine z_if_ne (tgt := 45) C dX10_then_40 (by decide) (by omega) (fun h => absurd h (by omega)) (fun _ => ?_)
          refine z_iconst (z := 0) C dX10_then_43 rfl ?_
          have hgy273 := up_n egy25 ha1 (ne_o (i := i) (c := 1) (d := 0) rfl)
          have hgy274 := (hfvy27 (i + 1) (ne_o (i := i) (c := 1) (d := 0) rfl)).trans hgy273
          have hgy275 := (hfvy30 (i + 1) (ne_o (i := i) (c := 1) (d := 0) rfl)).trans hgy274
          have hgy276 := (hfvy271 (i + 1) (ne_o (i := i) (c := 1) (d := 0) rfl)).trans hgy275
          have hFy277 : ∀ f, f ≠ 12 → Fvy271 f = F f := fun f n12 => ((hFvy271 f n12).trans ((hFvy30 f n12).trans ((hFvy27 f n12).trans ((uZ_n _ _ n12).trans rfl))))
          have hey278 : Fvy271 13 = F 13 := ((hFvy271 13 (by decide)).trans ((hFvy30 13 (by decide)).trans ((hFvy27 13 (by decide)).trans (fn rfl (by decide)))))
          have hey279 : Fvy271 14 = F 14 := ((hFvy271 14 (by decide)).trans ((hFvy30 14 (by decide)).trans ((hFvy27 14 (by decide)).trans (fn rfl (by decide)))))
          have hey280 : Fvy271 15 = F 15 := ((hFvy271 15 (by decide)).trans ((hFvy30 15 (by decide)).trans ((hFvy27 15 (by decide)).trans (fn rfl (by decide)))))
          have hey281 : Fvy271 16 = F 16 := ((hFvy271 16 (by decide)).trans ((hFvy30 16 (by decide)).trans ((hFvy27 16 (by decide)).trans (fn rfl (by decide)))))
          have hey282 : Fvy271 17 = F 17 := ((hFvy271 17 (by decide)).trans ((hFvy30 17 (by decide)).trans ((hFvy27 17 (by decide)).trans (fn rfl (by decide)))))
          have hey283 : Fvy271 18 = F 18 := ((hFvy271 18 (by decide)).trans ((hFvy30 18 (by decide)).trans ((hFvy27 18 (by decide)).trans (fn rfl (by decide)))))
          have hey284 : Fvy271 19 = F 19 := ((hFvy271 19 (by decide)).trans ((hFvy30 19 (by decide)).trans ((hFvy27 19 (by decide)).trans (fn rfl (by decide)))))
          have hey285 : Fvy271 20 = F 20 := ((hFvy271 20 (by decide)).trans ((hFvy30 20 (by decide)).trans ((hFvy27 20 (by decide)).trans (fn rfl (by decide)))))
          have hey286 : Fvy271 23 = F 23 := ((hFvy271 23 (by decide)).trans ((hFvy30 23 (by decide)).trans ((hFvy27 23 (by decide)).trans (fn rfl (by decide)))))
          have hey287 : Fvy271 25 = F 25 := ((hFvy271 25 (by decide)).trans ((hFvy30 25 (by decide)).trans ((hFvy27 25 (by decide)).trans (fn rfl (by decide)))))
          have hey288 : Fvy271 27 = F 27 := ((hFvy271 27 (by decide)).trans ((hFvy30 27 (by decide)).trans ((hFvy27 27 (by decide)).trans (fn rfl (by decide)))))
          have hey289 : Fvy271 28 = F 28 := ((hFvy271 28 (by decide)).trans ((hFvy30 28 (by decide)).trans ((hFvy27 28 (by decide)).trans (fn rfl (by decide)))))
          have hey290 : Fvy271 29 = F 29 := ((hFvy271 29 (by decide)).trans ((hFvy30 29 (by decide)).trans ((hFvy27 29 (by decide)).trans (fn rfl (by decide)))))
          have hKy291 : okF Fvy271 := by unfold okF; omega
          have hMy292 : okMr cs ad gvy271 i (x + 1) Fvy271 r := okMr.upd hM hcvy271 hKy291 (fun f a => hFy277 f (by omega)) hgy276 (hA.mono (by omega)) (fun j a b => by
              exact Or.inl (by rw [hfvy271 _ (by omega)]; rw [hfvy30 _ (by omega)]; rw [hfvy27 _ (by omega)]; rw [egy25, va_up_ne _ _ (by omega)]))
          have h23 : Fvy271 23 = F 23 := ((hFvy271 23 (by decide)).trans ((hFvy30 23 (by decide)).trans ((hFvy27 23 (by decide)).trans (fn rfl (by decide)))))
          exact z_iret C hr hlk dX10_then_44 (by decide) (by decide) ⟨0, rfl, rfl, rfl, by omega, ⟨_, _, hMy292, by omega⟩, fun j j1 => by rw [hfvy271 _ (by omega)]; rw [hfvy30 _ (by omega)]; rw [hfvy27 _ (by omega)]; rw [egy25, va_up_ne _ _ (by omega)]⟩
      · refine z_if_eq (tgt := 43) C dX10_then_25 (by decide) (by omega) (fun _ => ?_) (fun h => absurd h (by omega))
        refine z_iconst (z := 0) C dX10_then_43 rfl ?_
        have hgy293 := up_n egy25 ha1 (ne_o (i := i) (c := 1) (d := 0) rfl)
        have hgy294 := (hfvy27 (i + 1) (ne_o (i := i) (c := 1) (d := 0) rfl)).trans hgy293
        have hgy295 := (hfvy30 (i + 1) (ne_o (i := i) (c := 1) (d := 0) rfl)).trans hgy294
        have hFy296 : ∀ f, f ≠ 12 → Fvy30 f = F f := fun f n12 => ((hFvy30 f n12).trans ((hFvy27 f n12).trans ((uZ_n _ _ n12).trans rfl)))
        have hey297 : Fvy30 13 = F 13 := ((hFvy30 13 (by decide)).trans ((hFvy27 13 (by decide)).trans (fn rfl (by decide))))
        have hey298 : Fvy30 14 = F 14 := ((hFvy30 14 (by decide)).trans ((hFvy27 14 (by decide)).trans (fn rfl (by decide))))
        have hey299 : Fvy30 15 = F 15 := ((hFvy30 15 (by decide)).trans ((hFvy27 15 (by decide)).trans (fn rfl (by decide))))
        have hey300 : Fvy30 16 = F 16 := ((hFvy30 16 (by decide)).trans ((hFvy27 16 (by decide)).trans (fn rfl (by decide))))
        have hey301 : Fvy30 17 = F 17 := ((hFvy30 17 (by decide)).trans ((hFvy27 17 (by decide)).trans (fn rfl (by decide))))
        have hey302 : Fvy30 18 = F 18 := ((hFvy30 18 (by decide)).trans ((hFvy27 18 (by decide)).trans (fn rfl (by decide))))
        have hey303 : Fvy30 19 = F 19 := ((hFvy30 19 (by decide)).trans ((hFvy27 19 (by decide)).trans (fn rfl (by decide))))
        have hey304 : Fvy30 20 = F 20 := ((hFvy30 20 (by decide)).trans ((hFvy27 20 (by decide)).trans (fn rfl (by decide))))
        have hey305 : Fvy30 23 = F 23 := ((hFvy30 23 (by decide)).trans ((hFvy27 23 (by decide)).trans (fn rfl (by decide))))
        have hey306 : Fvy30 25 = F 25 := ((hFvy30 25 (by decide)).trans ((hFvy27 25 (by decide)).trans (fn rfl (by decide))))
        have hey307 : Fvy30 27 = F 27 := ((hFvy30 27 (by decide)).trans ((hFvy27 27 (by decide)).trans (fn rfl (by decide))))
        have hey308 : Fvy30 28 = F 28 := ((hFvy30 28 (by decide)).trans ((hFvy27 28 (by decide)).trans (fn rfl (by decide))))
        have hey309 : Fvy30 29 = F 29 := ((hFvy30 29 (by decide)).trans ((hFvy27 29 (by decide)).trans (fn rfl (by decide))))
        have hKy310 : okF Fvy30 := by unfold okF; omega
        have hMy311 : okMr cs ad gvy30 i (x + 1) Fvy30 r := okMr.upd hM hcvy30 hKy310 (fun f a => hFy296 f (by omega)) hgy295 (hA.mono (by omega)) (fun j a b => by
            exact Or.inl (by rw [hfvy30 _ (by omega)]; rw [hfvy27 _ (by omega)]; rw [egy25, va_up_ne _ _ (by omega)]))
        have h23 : Fvy30 23 = F 23 := ((hFvy30 23 (by decide)).trans ((hFvy27 23 (by decide)).trans (fn rfl (by decide))))
        exact z_iret C hr hlk dX10_then_44 (by decide) (by decide) ⟨0, rfl, rfl, rfl, by omega, ⟨_, _, hMy311, by omega⟩, fun j j1 => by rw [hfvy30 _ (by omega)]; rw [hfvy27 _ (by omega)]; rw [egy25, va_up_ne _ _ (by omega)]⟩
    · refine z_iconst (z := 1) C dX10_then_21 rfl ?_
      have hey313 : Fvy27 12 = Fvy27 12 := rfl
      refine z_cV (As := [.int (zI (0)), .int (zI (1))]) (rest := []) (ci := 12) C (c_X10_right l D A cs tt N ad _ i hN _ hcvy27 (by omega) (0) (by omega) (1) (by omega)) (by omega) hay1 hcvy27 rfl rfl mv_yX10_right q_1648 hd_yX10_right (by decide) (Nat.le_of_ble_eq_true rfl) (by decide) dX10_then_22 rfl (kI0 fun vy312 gvy312 hvy312 => ?_)
      obtain ⟨hrvy312, ⟨Fvy312, hcvy312, htvy312, hFvy312⟩, hfvy312⟩ := hvy312
      obtain rfl : vy312 = 0 := by omega
      refine z_if_eq (tgt := 43) C dX10_then_25 (by decide) (by omega) (fun _ => ?_) (fun h => absurd h (by omega))
      refine z_iconst (z := 0) C dX10_then_43 rfl ?_
      have hgy314 := up_n egy25 ha1 (ne_o (i := i) (c := 1) (d := 0) rfl)
      have hgy315 := (hfvy27 (i + 1) (ne_o (i := i) (c := 1) (d := 0) rfl)).trans hgy314
      have hgy316 := (hfvy312 (i + 1) (ne_o (i := i) (c := 1) (d := 0) rfl)).trans hgy315
      have hFy317 : ∀ f, f ≠ 12 → Fvy312 f = F f := fun f n12 => ((hFvy312 f n12).trans ((hFvy27 f n12).trans ((uZ_n _ _ n12).trans rfl)))
      have hey318 : Fvy312 13 = F 13 := ((hFvy312 13 (by decide)).trans ((hFvy27 13 (by decide)).trans (fn rfl (by decide))))
      have hey319 : Fvy312 14 = F 14 := ((hFvy312 14 (by decide)).trans ((hFvy27 14 (by decide)).trans (fn rfl (by decide))))
      have hey320 : Fvy312 15 = F 15 := ((hFvy312 15 (by decide)).trans ((hFvy27 15 (by decide)).trans (fn rfl (by decide))))
      have hey321 : Fvy312 16 = F 16 := ((hFvy312 16 (by decide)).trans ((hFvy27 16 (by decide)).trans (fn rfl (by decide))))
      have hey322 : Fvy312 17 = F 17 := ((hFvy312 17 (by decide)).trans ((hFvy27 17 (by decide)).trans (fn rfl (by decide))))
      have hey323 : Fvy312 18 = F 18 := ((hFvy312 18 (by decide)).trans ((hFvy27 18 (by decide)).trans (fn rfl (by decide))))
      have hey324 : Fvy312 19 = F 19 := ((hFvy312 19 (by decide)).trans ((hFvy27 19 (by decide)).trans (fn rfl (by decide))))
      have hey325 : Fvy312 20 = F 20 := ((hFvy312 20 (by decide)).trans ((hFvy27 20 (by decide)).trans (fn rfl (by decide))))
      have hey326 : Fvy312 23 = F 23 := ((hFvy312 23 (by decide)).trans ((hFvy27 23 (by decide)).trans (fn rfl (by decide))))
      have hey327 : Fvy312 25 = F 25 := ((hFvy312 25 (by decide)).trans ((hFvy27 25 (by decide)).trans (fn rfl (by decide))))
      have hey328 : Fvy312 27 = F 27 := ((hFvy312 27 (by decide)).trans ((hFvy27 27 (by decide)).trans (fn rfl (by decide))))
      have hey329 : Fvy312 28 = F 28 := ((hFvy312 28 (by decide)).trans ((hFvy27 28 (by decide)).trans (fn rfl (by decide))))
      have hey330 : Fvy312 29 = F 29 := ((hFvy312 29 (by decide)).trans ((hFvy27 29 (by decide)).trans (fn rfl (by decide))))
      have hKy331 : okF Fvy312 := by unfold okF; omega
      have hMy332 : okMr cs ad gvy312 i (x + 1) Fvy312 r := okMr.upd hM hcvy312 hKy331 (fun f a => hFy317 f (by omega)) hgy316 (hA.mono (by omega)) (fun j a b => by
          exact Or.inl (by rw [hfvy312 _ (by omega)]; rw [hfvy27 _ (by omega)]; rw [egy25, va_up_ne _ _ (by omega)]))
      have h23 : Fvy312 23 = F 23 := ((hFvy312 23 (by decide)).trans ((hFvy27 23 (by decide)).trans (fn rfl (by decide))))
      exact z_iret C hr hlk dX10_then_44 (by decide) (by decide) ⟨0, rfl, rfl, rfl, by omega, ⟨_, _, hMy332, by omega⟩, fun j j1 => by rw [hfvy312 _ (by omega)]; rw [hfvy27 _ (by omega)]; rw [egy25, va_up_ne _ _ (by omega)]⟩
  · refine z_if_eq (tgt := 43) C dX10_then_10 (by decide) (by omega) (fun _ => ?_) (fun h => absurd h (by omega))
    refine z_iconst (z := 0) C dX10_then_43 rfl ?_
    have hgy333 := up_n egy25 ha1 (ne_o (i := i) (c := 1) (d := 0) rfl)
    have hgy334 := (hfvy27 (i + 1) (ne_o (i := i) (c := 1) (d := 0) rfl)).trans hgy333
    have hFy335 : ∀ f, f ≠ 12 → Fvy27 f = F f := fun f n12 => ((hFvy27 f n12).trans ((uZ_n _ _ n12).trans rfl))
    have hey336 : Fvy27 13 = F 13 := ((hFvy27 13 (by decide)).trans (fn rfl (by decide)))
    have hey337 : Fvy27 14 = F 14 := ((hFvy27 14 (by decide)).trans (fn rfl (by decide)))
    have hey338 : Fvy27 15 = F 15 := ((hFvy27 15 (by decide)).trans (fn rfl (by decide)))
    have hey339 : Fvy27 16 = F 16 := ((hFvy27 16 (by decide)).trans (fn rfl (by decide)))
    have hey340 : Fvy27 17 = F 17 := ((hFvy27 17 (by decide)).trans (fn rfl (by decide)))
    have hey341 : Fvy27 18 = F 18 := ((hFvy27 18 (by decide)).trans (fn rfl (by decide)))
    have hey342 : Fvy27 19 = F 19 := ((hFvy27 19 (by decide)).trans (fn rfl (by decide)))
    have hey343 : Fvy27 20 = F 20 := ((hFvy27 20 (by decide)).trans (fn rfl (by decide)))
    have hey344 : Fvy27 23 = F 23 := ((hFvy27 23 (by decide)).trans (fn rfl (by decide)))
    have hey345 : Fvy27 25 = F 25 := ((hFvy27 25 (by decide)).trans (fn rfl (by decide)))
    have hey346 : Fvy27 27 = F 27 := ((hFvy27 27 (by decide)).trans (fn rfl (by decide)))
    have hey347 : Fvy27 28 = F 28 := ((hFvy27 28 (by decide)).trans (fn rfl (by decide)))
    have hey348 : Fvy27 29 = F 29 := ((hFvy27 29 (by decide)).trans (fn rfl (by decide)))
    have hKy349 : okF Fvy27 := by unfold okF; omega
    have hMy350 : okMr cs ad gvy27 i (x + 1) Fvy27 r := okMr.upd hM hcvy27 hKy349 (fun f a => hFy335 f (by omega)) hgy334 (hA.mono (by omega)) (fun j a b => by
        exact Or.inl (by rw [hfvy27 _ (by omega)]; rw [egy25, va_up_ne _ _ (by omega)]))
    have h23 : Fvy27 23 = F 23 := ((hFvy27 23 (by decide)).trans (fn rfl (by decide)))
    exact z_iret C hr hlk dX10_then_44 (by decide) (by decide) ⟨0, rfl, rfl, rfl, by omega, ⟨_, _, hMy350, by omega⟩, fun j j1 => by rw [hfvy27 _ (by omega)]; rw [egy25, va_up_ne _ _ (by omega)]⟩

set_option maxRecDepth 100000 in
set_option maxHeartbeats 4000000 in
theorem c_X10_then_b (l : Launch) (D : va_G) (A : Nat → Prop) (cs : Nat → ClassId) (tt : Nat) (N : Nat) (ad : Nat → Nat) (g : Nat → va_E) (i : Nat) (hN : i + 30 ≤ N) (x : Int) (hx : 0 ≤ x ∧ x ≤ 512) (F r : Nat → Int) (hM : okMr cs ad g i x F r) (z : Int) (hz : -2147483648 ≤ z ∧ z ≤ 2147483647) (hzo : z < 0 ∨ 3 < z) (z1 : Int) (hz1 : -2147483648 ≤ z1 ∧ z1 ≤ 2147483647) (z2 : Int) (hz2 : -2147483648 ≤ z2 ∧ z2 ≤ 2147483647) : zM l yX10_then cX10_then 5 (some .int) ({ frames := 10, cells := 0, slots := 0, locals := 600 } : Room) D A cs tt N ad g [.ref (ad i), .int (zI (z)), .int (zI (z1)), .int (zI (z2))] (rI0 N ad fun q g' => (-2147483648 ≤ q ∧ q ≤ 2147483647) ∧ (∃ F' r' : Nat → Int, okMr cs ad g' i (x + 1) F' r' ∧ F' 23 = F 23) ∧ ∀ j, j < i ∨ i + 30 ≤ j → g' j = g j) := by
  obtain ⟨hg, ⟨⟨e13, e14, e25, e27, e29⟩, k15, k16, k17, k18, k19, k20, k23⟩, hRD, hTx, hA, st, op, ai, fa, mu, tb, ns, nh, nd, rf, pi, tp, te, ki, li, ok1, ok2, fo, dd, dps, ⟨ha1, ha2, ha3, ha4, ha5, ha6, ha7, ha8, ha9, ha10, ha11, ha12, ha13, ha14, ha15, ha24, ha25, ha26, ha27, ha28, ha29⟩, hEv, hPt, hns, htp⟩ := id hM
  obtain ⟨-, hop, hai, hfa, hT, hT1⟩ := id hEv
  have hay1 : zAt ad (i) (ad i) := rfl
  have hay2 : zAt ad (i + 1) (ad (i + 1)) := rfl
  have hay3 : zAt ad (i + 2) (ad (i + 2)) := rfl
  have hay4 : zAt ad (i + 3) (ad (i + 3)) := rfl
  have hay5 : zAt ad (i + 4) (ad (i + 4)) := rfl
  have hay6 : zAt ad (i + 5) (ad (i + 5)) := rfl
  have hay7 : zAt ad (i + 6) (ad (i + 6)) := rfl
  have hay8 : zAt ad (i + 7) (ad (i + 7)) := rfl
  have hay9 : zAt ad (i + 8) (ad (i + 8)) := rfl
  have hay10 : zAt ad (i + 9) (ad (i + 9)) := rfl
  have hay11 : zAt ad (i + 10) (ad (i + 10)) := rfl
  have hay12 : zAt ad (i + 11) (ad (i + 11)) := rfl
  have hay13 : zAt ad (i + 12) (ad (i + 12)) := rfl
  have hay14 : zAt ad (i + 13) (ad (i + 13)) := rfl
  have hay15 : zAt ad (i + 14) (ad (i + 14)) := rfl
  have hay16 : zAt ad (i + 15) (ad (i + 15)) := rfl
  have hay17 : zAt ad (i + 24) (ad (i + 24)) := rfl
  have hay18 : zAt ad (i + 25) (ad (i + 25)) := rfl
  have hay19 : zAt ad (i + 26) (ad (i + 26)) := rfl
  have hay20 : zAt ad (i + 27) (ad (i + 27)) := rfl
  have hay21 : zAt ad (i + 28) (ad (i + 28)) := rfl
  have hay22 : zAt ad (i + 29) (ad (i + 29)) := rfl
  obtain ⟨⟨hsyy23, htyy23, hnyy23, hpyy23⟩, hlyy23⟩ := okA.at0 hA
  simp only [Nat.zero_add] at hsyy23 hnyy23 hpyy23
  have hmn : ∀ s, s < 4 → 0 ≤ r (6 + 86 * s) ∧ r (6 + 86 * s) ≤ 12 := fun s hs => (hsyy23 s hs).1
  have h5 : 0 ≤ r 5 ∧ r 5 ≤ 6 := hpyy23
  refine z_of (by decide) (Nat.le_of_ble_eq_true rfl) ?_
  intro pZ eZ sZ mZ below meth cZ C hr hlk hnm
  refine z_lv (lv' := [(0, .ref (ad i)), (1, .int (zI (z))), (2, .int (zI (z1))), (3, .int (zI (z2)))]) [0, 1, 2, 3] rfl ?_
  refine z_aload_n C 0 dX10_then_0 rfl ?_
  refine z_iconst (z := 0) C dX10_then_1 rfl ?_
  refine z_put (fs' := mF ad (i) (uZ F 12 (0))) C (by omega) hay1 hg tyX10 tyX10_ok nmX10 rfl inA_X10 12 (by decide) q_1471 rfl rfl rfl rfl (Nat.le_of_ble_eq_true rfl) rfl dX10_then_2 (fun gy24 egy25 => ?_)
  have hgy26 := up_s egy25
  refine z_aload_n C 0 dX10_then_5 rfl ?_
  refine z_iload_n C 1 dX10_then_6 rfl ?_
  have h13vy27 : (uZ F 12 (0)) 13 = F 13 := (fn rfl (by decide))
  have hey28 : (uZ F 12 (0)) 12 = 0 := (uZ_s _ _ _)
  refine z_cV (As := [.int (zI (z))]) (rest := []) (ci := 12) C (c_X10_isSlope l D A cs tt N ad _ i hN _ hgy26 (by omega) (by omega) (z) (by omega)) (by omega) hay1 hgy26 rfl rfl mv_yX10_isSlope q_1803 hd_yX10_isSlope (by decide) (Nat.le_of_ble_eq_true rfl) (by decide) dX10_then_7 rfl (kI0 fun vy27 gvy27 hvy27 => ?_)
  rw [h13vy27] at hvy27
  obtain ⟨hrvy27, ⟨Fvy27, hcvy27, htvy27, hFvy27⟩, hfvy27⟩ := hvy27
  obtain rfl : vy27 = 0 := by omega
  refine z_if_eq (tgt := 43) C dX10_then_10 (by decide) (by omega) (fun _ => ?_) (fun h => absurd h (by omega))
  refine z_iconst (z := 0) C dX10_then_43 rfl ?_
  have hgy29 := up_n egy25 ha1 (ne_o (i := i) (c := 1) (d := 0) rfl)
  have hgy30 := (hfvy27 (i + 1) (ne_o (i := i) (c := 1) (d := 0) rfl)).trans hgy29
  have hFy31 : ∀ f, f ≠ 12 → Fvy27 f = F f := fun f n12 => ((hFvy27 f n12).trans ((uZ_n _ _ n12).trans rfl))
  have hey32 : Fvy27 13 = F 13 := ((hFvy27 13 (by decide)).trans (fn rfl (by decide)))
  have hey33 : Fvy27 14 = F 14 := ((hFvy27 14 (by decide)).trans (fn rfl (by decide)))
  have hey34 : Fvy27 15 = F 15 := ((hFvy27 15 (by decide)).trans (fn rfl (by decide)))
  have hey35 : Fvy27 16 = F 16 := ((hFvy27 16 (by decide)).trans (fn rfl (by decide)))
  have hey36 : Fvy27 17 = F 17 := ((hFvy27 17 (by decide)).trans (fn rfl (by decide)))
  have hey37 : Fvy27 18 = F 18 := ((hFvy27 18 (by decide)).trans (fn rfl (by decide)))
  have hey38 : Fvy27 19 = F 19 := ((hFvy27 19 (by decide)).trans (fn rfl (by decide)))
  have hey39 : Fvy27 20 = F 20 := ((hFvy27 20 (by decide)).trans (fn rfl (by decide)))
  have hey40 : Fvy27 23 = F 23 := ((hFvy27 23 (by decide)).trans (fn rfl (by decide)))
  have hey41 : Fvy27 25 = F 25 := ((hFvy27 25 (by decide)).trans (fn rfl (by decide)))
  have hey42 : Fvy27 27 = F 27 := ((hFvy27 27 (by decide)).trans (fn rfl (by decide)))
  have hey43 : Fvy27 28 = F 28 := ((hFvy27 28 (by decide)).trans (fn rfl (by decide)))
  have hey44 : Fvy27 29 = F 29 := ((hFvy27 29 (by decide)).trans (fn rfl (by decide)))
  have hKy45 : okF Fvy27 := by unfold okF; omega
  have hMy46 : okMr cs ad gvy27 i (x + 1) Fvy27 r := okMr.upd hM hcvy27 hKy45 (fun f a => hFy31 f (by omega)) hgy30 (hA.mono (by omega)) (fun j a b => by
      exact Or.inl (by rw [hfvy27 _ (by omega)]; rw [egy25, va_up_ne _ _ (by omega)]))
  have h23 : Fvy27 23 = F 23 := ((hFvy27 23 (by decide)).trans (fn rfl (by decide)))
  exact z_iret C hr hlk dX10_then_44 (by decide) (by decide) ⟨0, rfl, rfl, rfl, by omega, ⟨_, _, hMy46, by omega⟩, fun j j1 => by rw [hfvy27 _ (by omega)]; rw [egy25, va_up_ne _ _ (by omega)]⟩

set_option maxRecDepth 100000 in
set_option maxHeartbeats 4000000 in
theorem c_X10_then (l : Launch) (D : va_G) (A : Nat → Prop) (cs : Nat → ClassId) (tt : Nat) (N : Nat) (ad : Nat → Nat) (g : Nat → va_E) (i : Nat) (hN : i + 30 ≤ N) (x : Int) (hx : 0 ≤ x ∧ x ≤ 512) (F r : Nat → Int) (hM : okMr cs ad g i x F r) (z : Int) (hz : -2147483648 ≤ z ∧ z ≤ 2147483647) (z1 : Int) (hz1 : -2147483648 ≤ z1 ∧ z1 ≤ 2147483647) (z2 : Int) (hz2 : -2147483648 ≤ z2 ∧ z2 ≤ 2147483647) : zM l yX10_then cX10_then 5 (some .int) ({ frames := 10, cells := 0, slots := 0, locals := 600 } : Room) D A cs tt N ad g [.ref (ad i), .int (zI (z)), .int (zI (z1)), .int (zI (z2))] (rI0 N ad fun q g' => (-2147483648 ≤ q ∧ q ≤ 2147483647) ∧ (∃ F' r' : Nat → Int, okMr cs ad g' i (x + 1) F' r' ∧ F' 23 = F 23) ∧ ∀ j, j < i ∨ i + 30 ≤ j → g' j = g j) := by
  by_cases h9 : 0 ≤ z ∧ z ≤ 3
  · obtain ⟨n, rfl⟩ : ∃ n : Nat, z = (n : Int) := ⟨z.toNat, by omega⟩
    exact c_X10_then_a l D A cs tt N ad g i hN x hx F r hM n (by omega) z1 hz1 z2 hz2
  · exact c_X10_then_b l D A cs tt N ad g i hN x hx F r hM z hz (by omega) z1 hz1 z2 hz2

