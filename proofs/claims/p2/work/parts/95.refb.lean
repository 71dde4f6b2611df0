theorem okW.slope0 {r r' : Nat → Int} {b s p : Nat} {x : Int} (h : okW r b x) (hs : s < 4) (hp : b + 6 + 86 * s = p) (hS : okS r' p (mB (r b + x)) (eB (r b + x))) (he : ∀ j, b ≤ j → j < b + 350 → j < p ∨ p + 86 ≤ j → j ≠ b + 2 → j ≠ b + 3 → j ≠ b + 4 → r' j = r j) : okW r' b x := by
  obtain ⟨h1, h2, h3, h4⟩ := h
  have h0 : r' b = r b := he b (by omega) (by omega) (by omega) (by omega) (by omega) (by omega)
  have hn : r' (b + 1) = r (b + 1) := he (b + 1) (by omega) (by omega) (by omega) (by omega) (by omega) (by omega)
  have h5 : r' (b + 5) = r (b + 5) := he (b + 5) (by omega) (by omega) (by omega) (by omega) (by omega) (by omega)
  refine ⟨fun k hk => ?_, by rw [h0]; exact h2, by rw [h0, hn]; exact h3, by rw [h5]; exact h4⟩
  rw [h0]
  by_cases e : k = s
  · subst e; rw [hp]; exact hS
  · exact (h1 k hk).ext (fun j a1 a2 => he j (by omega) (by omega) (by omega) (by omega) (by omega) (by omega))

set_option maxRecDepth 100000 in
set_option maxHeartbeats 4000000 in
theorem c_X10_extra (l : Launch) (D : va_G) (A : Nat → Prop) (cs : Nat → ClassId) (tt : Nat) (N : Nat) (ad : Nat → Nat) (g : Nat → va_E) (z : Int) (hz : 0 ≤ z ∧ z ≤ 30) : zM l yX10_extra cX10_extra 1 (some .int) ({ frames := 2, cells := 0, slots := 0, locals := 120 } : Room) D A cs tt N ad g [.int (zI (z))] (rI0 N ad fun r g' => (-2147483648 ≤ r ∧ r ≤ 2147483647) ∧ g = g') := by
  refine z_of (by decide) (Nat.le_of_ble_eq_true rfl) ?_
  intro pZ eZ sZ mZ below meth cZ C hr hlk hnm
  refine z_lv (lv' := [(0, .int (zI (z)))]) [0] rfl ?_
  refine z_iload_n C 0 dX10_extra_0 rfl ?_
  refine z_bipush (z := 10) C dX10_extra_1 (by decide) ?_
  refine z_cS (As := [.int (zI (z)), .int (zI (10))]) (rest := []) C (c_X10_lesser l D A cs tt N ad _ (z) (by omega) (10) (by omega)) ms_yX10_lesser q_1792 hd_yX10_lesser (by decide) (Nat.le_of_ble_eq_true rfl) (by decide) dX10_extra_3 rfl (kI0 fun vy1 gvy1 hvy1 => ?_)
  obtain ⟨hvy1, rfl⟩ := hvy1
  refine z_iconst (z := 2) C dX10_extra_6 rfl ?_
  refine z_iload_n C 0 dX10_extra_7 rfl ?_
  refine z_bipush (z := 10) C dX10_extra_8 (by decide) ?_
  refine z_isub C dX10_extra_10 ?_
  refine z_iconst (z := 0) C dX10_extra_11 rfl ?_
  refine z_cS (As := [.int (zI (z - 10)), .int (zI (0))]) (rest := [.int (zI (2)), .int (zI (vy1))]) C (c_X10_greater l D A cs tt N ad _ (z - 10) (by omega) (0) (by omega)) ms_yX10_greater q_1905 hd_yX10_greater (by decide) (Nat.le_of_ble_eq_true rfl) (by decide) dX10_extra_12 rfl (kI0 fun vy2 gvy2 hvy2 => ?_)
  obtain ⟨hvy2, rfl⟩ := hvy2
  refine z_bipush (z := 10) C dX10_extra_15 (by decide) ?_
  refine z_cS (As := [.int (zI (vy2)), .int (zI (10))]) (rest := [.int (zI (2)), .int (zI (vy1))]) C (c_X10_lesser l D A cs tt N ad _ (vy2) (by omega) (10) (by omega)) ms_yX10_lesser q_1792 hd_yX10_lesser (by decide) (Nat.le_of_ble_eq_true rfl) (by decide) dX10_extra_17 rfl (kI0 fun vy3 gvy3 hvy3 => ?_)
  obtain ⟨hvy3, rfl⟩ := hvy3
  refine z_imul C dX10_extra_20 ?_
  refine z_iadd C dX10_extra_21 ?_
  refine z_iconst (z := 4) C dX10_extra_22 rfl ?_
  refine z_iload_n C 0 dX10_extra_23 rfl ?_
  refine z_bipush (z := 20) C dX10_extra_24 (by decide) ?_
  refine z_isub C dX10_extra_26 ?_
  refine z_iconst (z := 0) C dX10_extra_27 rfl ?_
  refine z_cS (As := [.int (zI (z - 20)), .int (zI (0))]) (rest := [.int (zI (4)), .int (zI (vy1 + (2 * vy3)))]) C (c_X10_greater l D A cs tt N ad _ (z - 20) (by omega) (0) (by omega)) ms_yX10_greater q_1905 hd_yX10_greater (by decide) (Nat.le_of_ble_eq_true rfl) (by decide) dX10_extra_28 rfl (kI0 fun vy4 gvy4 hvy4 => ?_)
  obtain ⟨hvy4, rfl⟩ := hvy4
  refine z_imul C dX10_extra_31 ?_
  refine z_iadd C dX10_extra_32 ?_
  exact z_iret C hr hlk dX10_extra_33 (by decide) (by decide) ⟨(vy1 + (2 * vy3)) + (4 * vy4), rfl, rfl, rfl, by omega, rfl⟩

set_option maxRecDepth 100000 in
set_option maxHeartbeats 4000000 in
theorem c_X10_stands_a (l : Launch) (D : va_G) (A : Nat → Prop) (cs : Nat → ClassId) (tt : Nat) (N : Nat) (ad : Nat → Nat) (g : Nat → va_E) (i : Nat) (hN : i + 30 ≤ N) (x : Int) (hx : 0 ≤ x ∧ x ≤ 512) (F r : Nat → Int) (hM : okMr cs ad g i x F r) (n : Nat) (hn4 : n < 4) (z1 : Int) (hz1 : -2147483648 ≤ z1 ∧ z1 ≤ 2147483647) : zM l yX10_stands cX10_stands 5 (some .int) ({ frames := 8, cells := 0, slots := 0, locals := 480 } : Room) D A cs tt N ad g [.ref (ad i), .int (zI ((n : Int))), .int (zI (z1))] (rI0 N ad fun q g' => (-2147483648 ≤ q ∧ q ≤ 2147483647) ∧ (∃ F' r' : Nat → Int, okMr cs ad g' i (x + 1) F' r' ∧ F' 23 = F 23) ∧ ∀ j, j < i ∨ i + 30 ≤ j → g' j = g j) := by
  obtain ⟨hg, ⟨⟨e13, e14, e25, e27, e29⟩, k15, k16, k17, k18, k19, k20, k23⟩, hRD, hTx, hA, st, op, ai, fa, mu, tb, ns, nh, nd, rf, pi, tp, te, ki, li, ok1, ok2, fo, dd, dps, ⟨ha1, ha2, ha3, ha4, ha5, ha6, ha7, ha8, ha9, ha10, ha11, ha12, ha13, ha14, ha15, ha24, ha25, ha26, ha27, ha28, ha29⟩, hEv, hPt, hns, htp⟩ := id hM
  obtain ⟨-, hop, hai, hfa, hT, hT1⟩ := id hEv
  have hay1 : zAt ad (i) (ad i) := rfl
  have hay2 : zAt ad (i + 1) (ad (i + 1)) := rfl
  have hay3 : zAt ad (i + 2) (ad (i + 2)) := rfl
  have hay4 : zAt ad (i + 3) (ad (i + 3)) := rfl
  have hay5 : zAt ad (i + 4) (ad (i + 4)) := rfl
  have hay6 : zAt ad (i + 5) (ad (i + 5)) := rfl
  have hay7 : zAt ad (i + 6) (ad (i + 6)) := rfl
  have hay8 : zAt ad (i + 7) (ad (i + 7)) := rfl
  have hay9 : zAt ad (i + 8) (ad (i + 8)) := rfl
  have hay10 : zAt ad (i + 9) (ad (i + 9)) := rfl
  have hay11 : zAt ad (i + 10) (ad (i + 10)) := rfl
  have hay12 : zAt ad (i + 11) (ad (i + 11)) := rfl
  have hay13 : zAt ad (i + 12) (ad (i + 12)) := rfl
  have hay14 : zAt ad (i + 13) (ad (i + 13)) := rfl
  have hay15 : zAt ad (i + 14) (ad (i + 14)) := rfl
  have hay16 : zAt ad (i + 15) (ad (i + 15)) := rfl
  have hay17 : zAt ad (i + 24) (ad (i + 24)) := rfl
  have hay18 : zAt ad (i + 25) (ad (i + 25)) := rfl
  have hay19 : zAt ad (i + 26) (ad (i + 26)) := rfl
  have hay20 : zAt ad (i + 27) (ad (i + 27)) := rfl
  have hay21 : zAt ad (i + 28) (ad (i + 28)) := rfl
  have hay22 : zAt ad (i + 29) (ad (i + 29)) := rfl
  obtain ⟨⟨hsyy23, htyy23, hnyy23, hpyy23⟩, hlyy23⟩ := okA.at0 hA
  simp only [Nat.zero_add] at hsyy23 hnyy23 hpyy23
  have hmn : ∀ s, s < 4 → 0 ≤ r (6 + 86 * s) ∧ r (6 + 86 * s) ≤ 12 := fun s hs => (hsyy23 s hs).1
  have h5 : 0 ≤ r 5 ∧ r 5 ≤ 6 := hpyy23
  refine z_of (by decide) (Nat.le_of_ble_eq_true rfl) ?_
  intro pZ eZ sZ mZ below meth cZ C hr hlk hnm
  refine z_lv (lv' := [(0, .ref (ad i)), (1, .int (zI ((n : Int)))), (2, .int (zI (z1)))]) [0, 1, 2] rfl ?_
  refine z_aload_n C 0 dX10_stands_0 rfl ?_
  refine z_iconst (z := 0) C dX10_stands_1 rfl ?_
  refine z_put (fs' := mF ad (i) (uZ F 12 (0))) C (by omega) hay1 hg tyX10 tyX10_ok nmX10 rfl inA_X10 12 (by decide) q_1471 rfl rfl rfl rfl (Nat.le_of_ble_eq_true rfl) rfl dX10_stands_2 (fun gy24 egy25 => ?_)
  have hgy26 := up_s egy25
  refine z_aload_n C 0 dX10_stands_5 rfl ?_
  refine z_iload_n C 1 dX10_stands_6 rfl ?_
  have h13vy27 : (uZ F 12 (0)) 13 = F 13 := (fn rfl (by decide))
  have hey28 : (uZ F 12 (0)) 12 = 0 := (uZ_s _ _ _)
  refine z_cV (As := [.int (zI ((n : Int)))]) (rest := []) (ci := 12) C (c_X10_isSlope l D A cs tt N ad _ i hN _ hgy26 (by omega) (by omega) ((n : Int)) (by omega)) (by omega) hay1 hgy26 rfl rfl mv_yX10_isSlope q_1803 hd_yX10_isSlope (by decide) (Nat.le_of_ble_eq_true rfl) (by decide) dX10_stands_7 rfl (kI0 fun vy27 gvy27 hvy27 => ?_)
  rw [h13vy27] at hvy27
  obtain ⟨hrvy27, ⟨Fvy27, hcvy27, htvy27, hFvy27⟩, hfvy27⟩ := hvy27
  rcases (show vy27 = 1 ∨ vy27 = 0 by omega) with rfl | rfl
  · have hxvy27 := hrvy27.2 rfl
    refine z_if_eq (tgt := 27) C dX10_stands_10 (by decide) (by omega) (fun h => absurd h (by omega)) (fun _ => ?_)
    refine z_aload_n C 0 dX10_stands_13 rfl ?_
    refine z_iload_n C 2 dX10_stands_14 rfl ?_
    refine z_iconst (z := 0) C dX10_stands_15 rfl ?_
    refine z_iconst (z := 1) C dX10_stands_16 rfl ?_
    refine z_cS (As := [.int (zI (z1)), .int (zI (0)), .int (zI (1))]) (rest := [.ref (ad i)]) C (c_X10_within l D A cs tt N ad _ (z1) (by omega) (0) (by omega) (1) (by omega)) ms_yX10_within q_1686 hd_yX10_within (by decide) (Nat.le_of_ble_eq_true rfl) (by decide) dX10_stands_17 rfl (kI0 fun vy29 gvy29 hvy29 => ?_)
    obtain ⟨hvy29, rfl⟩ := hvy29
    rcases hvy29 with ⟨rfl, hxvy29⟩ | ⟨rfl, hxvy29⟩
    · refine z_iconst (z := 1) C dX10_stands_20 rfl ?_
      have hey31 : Fvy27 12 = Fvy27 12 := rfl
      refine z_cV (As := [.int (zI (1)), .int (zI (1))]) (rest := []) (ci := 12) C (c_X10_right l D A cs tt N ad _ i hN _ hcvy27 (by omega) (1) (by omega) (1) (by omega)) (by omega) hay1 hcvy27 rfl rfl mv_yX10_right q_1648 hd_yX10_right (by decide) (Nat.le_of_ble_eq_true rfl) (by decide) dX10_stands_21 rfl (kI0 fun vy30 gvy30 hvy30 => ?_)
      obtain ⟨hrvy30, ⟨Fvy30, hcvy30, htvy30, hFvy30⟩, hfvy30⟩ := hvy30
      rcases (show vy30 = 1 ∨ vy30 = 0 by omega) with rfl | rfl
      · refine z_if_ne (tgt := 29) C dX10_stands_24 (by decide) (by omega) (fun _ => ?_) (fun h => absurd h (by omega))
        refine z_iconst (z := 0) C dX10_stands_29 rfl ?_
        refine z_istore_n (lv' := [(3, .int (zI (0))), (0, .ref (ad i)), (1, .int (zI ((n : Int)))), (2, .int (zI (z1)))]) C dX10_stands_30 rfl (by decide) rfl ?_
        have lp1 : ∀ (n9 : Nat) (tt9 : Int) (g1 : Nat → va_E), (31 - tt9).toNat = n9 → (gvy30 = g1) → (0 ≤ tt9 ∧ tt9 ≤ 31) → zV pZ l eZ ({ frames := 8, cells := 0, slots := 0, locals := 480 } : Room) sZ mZ ([.ref (ad i), .int (zI ((n : Int))), .int (zI (z1))] : List Value).toArray below meth cZ (MQ below (zPost D A (rI0 N ad fun q g' => (-2147483648 ≤ q ∧ q ≤ 2147483647) ∧ (∃ F' r' : Nat → Int, okMr cs ad g' i (x + 1) F' r' ∧ F' 23 = F 23) ∧ ∀ j, j < i ∨ i + 30 ≤ j → g' j = g j)) ([.ref (ad i), .int (zI ((n : Int))), .int (zI (z1))] : List Value).toArray sZ ({ frames := 8, cells := 0, slots := 0, locals := 480 } : Room).cells ({ frames := 8, cells := 0, slots := 0, locals := 480 } : Room).slots A) D A 5 (N) ad g1 (0) (0) 31 [(0, .ref (ad i)), (1, .int (zI ((n : Int)))), (2, .int (zI (z1))), (3, .int (zI (tt9)))] [] := by
          intro n9
          induction n9 using Nat.strongRecOn with
          | ind n9 ih_lp1 =>
            intro tt9 g1 hm9 hgz hvlp10
            subst hgz
            refine z_iload_n C 3 dX10_stands_31 rfl ?_
            refine z_bipush (z := 30) C dX10_stands_32 (by decide) ?_
            refine z_icmp_gt (tgt := 97) C dX10_stands_34 (by decide) (by omega) (by omega) (fun hby32 => ?_) (fun hby32 => ?_)
            · refine z_iconst (z := -1) C dX10_stands_97 rfl ?_
              have hgy33 := up_n egy25 ha1 (ne_o (i := i) (c := 1) (d := 0) rfl)
              have hgy34 := (hfvy27 (i + 1) (ne_o (i := i) (c := 1) (d := 0) rfl)).trans hgy33
              have hgy35 := (hfvy30 (i + 1) (ne_o (i := i) (c := 1) (d := 0) rfl)).trans hgy34
              have hFy36 : ∀ f, f ≠ 12 → Fvy30 f = F f := fun f n12 => ((hFvy30 f n12).trans ((hFvy27 f n12).trans ((uZ_n _ _ n12).trans rfl)))
              have hey37 : Fvy30 13 = F 13 := ((hFvy30 13 (by decide)).trans ((hFvy27 13 (by decide)).trans (fn rfl (by decide))))
              have hey38 : Fvy30 14 = F 14 := ((hFvy30 14 (by decide)).trans ((hFvy27 14 (by decide)).trans (fn rfl (by decide))))
              have hey39 : Fvy30 15 = F 15 := ((hFvy30 15 (by decide)).trans ((hFvy27 15 (by decide)).trans (fn rfl (by decide))))
              have hey40 : Fvy30 16 = F 16 := ((hFvy30 16 (by decide)).trans ((hFvy27 16 (by decide)).trans (fn rfl (by decide))))
              have hey41 : Fvy30 17 = F 17 := ((hFvy30 17 (by decide)).trans ((hFvy27 17 (by decide)).trans (fn rfl (by decide))))
              have hey42 : Fvy30 18 = F 18 := ((hFvy30 18 (by decide)).trans ((hFvy27 18 (by decide)).trans (fn rfl (by decide))))
              have hey43 : Fvy30 19 = F 19 := ((hFvy30 19 (by decide)).trans ((hFvy27 19 (by decide)).trans (fn rfl (by decide))))
              have hey44 : Fvy30 20 = F 20 := ((hFvy30 20 (by decide)).trans ((hFvy27 20 (by decide)).trans (fn rfl (by decide))))
              have hey45 : Fvy30 23 = F 23 := ((hFvy30 23 (by decide)).trans ((hFvy27 23 (by decide)).trans (fn rfl (by decide))))
              have hey46 : Fvy30 25 = F 25 := ((hFvy30 25 (by decide)).trans ((hFvy27 25 (by decide)).trans (fn rfl (by decide))))
              have hey47 : Fvy30 27 = F 27 := ((hFvy30 27 (by decide)).trans ((hFvy27 27 (by decide)).trans (fn rfl (by decide))))
              have hey48 : Fvy30 28 = F 28 := ((hFvy30 28 (by decide)).trans ((hFvy27 28 (by decide)).trans (fn rfl (by decide))))
              have hey49 : Fvy30 29 = F 29 := ((hFvy30 29 (by decide)).trans ((hFvy27 29 (by decide)).trans (fn rfl (by decide))))
              have hKy50 : okF Fvy30 := by unfold okF; omega
              have hMy51 : okMr cs ad gvy30 i (x + 1) Fvy30 r := okMr.upd hM hcvy30 hKy50 (fun f a => hFy36 f (by omega)) hgy35 (hA.mono (by omega)) (fun j a b => by
                  exact Or.inl (by rw [hfvy30 _ (by omega)]; rw [hfvy27 _ (by omega)]; rw [egy25, va_up_ne _ _ (by omega)]))
              have h23 : Fvy30 23 = F 23 := ((hFvy30 23 (by decide)).trans ((hFvy27 23 (by decide)).trans (fn rfl (by decide))))
              exact z_iret C hr hlk dX10_stands_98 (by decide) (by decide) ⟨-1, rfl, rfl, rfl, by omega, ⟨_, _, hMy51, by omega⟩, fun j j1 => by rw [hfvy30 _ (by omega)]; rw [hfvy27 _ (by omega)]; rw [egy25, va_up_ne _ _ (by omega)]⟩
            · refine z_iconst (z := 0) C dX10_stands_37 rfl ?_
              refine z_istore (lv' := [(4, .int (zI (0))), (0, .ref (ad i)), (1, .int (zI ((n : Int)))), (2, .int (zI (z1))), (3, .int (zI (tt9)))]) C dX10_stands_38 (by decide) rfl ?_
              have lp2 : ∀ (n9 : Nat) (ll : Int) (g1 : Nat → va_E), (13 - ll).toNat = n9 → (gvy30 = g1) → (0 ≤ ll ∧ ll ≤ 12) → zV pZ l eZ ({ frames := 8, cells := 0, slots := 0, locals := 480 } : Room) sZ mZ ([.ref (ad i), .int (zI ((n : Int))), .int (zI (z1))] : List Value).toArray below meth cZ (MQ below (zPost D A (rI0 N ad fun q g' => (-2147483648 ≤ q ∧ q ≤ 2147483647) ∧ (∃ F' r' : Nat → Int, okMr cs ad g' i (x + 1) F' r' ∧ F' 23 = F 23) ∧ ∀ j, j < i ∨ i + 30 ≤ j → g' j = g j)) ([.ref (ad i), .int (zI ((n : Int))), .int (zI (z1))] : List Value).toArray sZ ({ frames := 8, cells := 0, slots := 0, locals := 480 } : Room).cells ({ frames := 8, cells := 0, slots := 0, locals := 480 } : Room).slots A) D A 5 (N) ad g1 (0) (0) 40 [(0, .ref (ad i)), (1, .int (zI ((n : Int)))), (2, .int (zI (z1))), (3, .int (zI (tt9))), (4, .int (zI (ll)))] [] := by
                intro n9
                induction n9 using Nat.strongRecOn with
                | ind n9 ih_lp2 =>
                  intro ll g1 hm9 hgz hvlp20
                  subst hgz
                  refine z_iload C 4 dX10_stands_40 rfl ?_
                  refine z_aload_n C 0 dX10_stands_42 rfl ?_
                  refine z_iconst (z := 0) C dX10_stands_43 rfl ?_
                  refine z_iload_n C 1 dX10_stands_44 rfl ?_
                  obtain ⟨py52, hpy52⟩ : ∃ p9 : Nat, 0 + 6 + 86 * n = p9 := ⟨_, rfl⟩
                  have hmyy53 := ((okA.at0 hA).1.1 n (by omega)).1
                  rw [hpy52] at hmyy53
                  have hgy54 := up_n egy25 ha1 (ne_o (i := i) (c := 1) (d := 0) rfl)
                  have hgy55 := (hfvy27 (i + 1) (ne_o (i := i) (c := 1) (d := 0) rfl)).trans hgy54
                  have hgy56 := (hfvy30 (i + 1) (ne_o (i := i) (c := 1) (d := 0) rfl)).trans hgy55
                  refine z_cV (As := [.int (zI (0)), .int (zI ((n : Int)))]) (rest := [.int (zI (ll))]) (ci := 12) C (c_X10_many l D A cs tt N ad _ i hN _ hcvy30 _ hgy56 0 n py52 hpy52 (by omega) (by omega)) (by omega) hay1 hcvy30 rfl rfl mv_yX10_many q_1733 hd_yX10_many (by decide) (Nat.le_of_ble_eq_true rfl) (by decide) dX10_stands_45 rfl (kI0 fun vy57 gvy57 hvy57 => ?_)
                  obtain ⟨rfl, rfl⟩ := hvy57
                  refine z_icmp_ge (tgt := 91) C dX10_stands_48 (by decide) (by omega) (by omega) (fun hby58 => ?_) (fun hby58 => ?_)
                  · refine z_iinc (z := tt9 + 1) (lv' := [(3, .int (zI (tt9 + 1))), (0, .ref (ad i)), (1, .int (zI ((n : Int)))), (2, .int (zI (z1))), (4, .int (zI (ll)))]) (j := 3) C dX10_stands_91 rfl rfl (by decide) rfl ?_
                    refine z_goto (tgt := 31) C dX10_stands_94 (by decide) ?_
                    refine z_lv (lv' := [(0, .ref (ad i)), (1, .int (zI ((n : Int)))), (2, .int (zI (z1))), (3, .int (zI (tt9 + 1)))]) [1, 2, 3, 0] rfl ?_
                    exact ih_lp1 _ (by omega) (tt9 + 1) _ rfl rfl (by omega)
                  · refine z_aload_n C 0 dX10_stands_51 rfl ?_
                    refine z_iconst (z := 0) C dX10_stands_52 rfl ?_
                    refine z_iload_n C 1 dX10_stands_53 rfl ?_
                    refine z_iload C 4 dX10_stands_54 rfl ?_
                    refine z_iload_n C 3 dX10_stands_56 rfl ?_
                    refine z_cS (As := [.int (zI (tt9))]) (rest := [.int (zI (ll)), .int (zI ((n : Int))), .int (zI (0)), .ref (ad i)]) C (c_X10_extra l D A cs tt N ad _ (tt9) (by omega)) ms_yX10_extra q_2000 hd_yX10_extra (by decide) (Nat.le_of_ble_eq_true rfl) (by decide) dX10_stands_57 rfl (kI0 fun vy59 gvy59 hvy59 => ?_)
                    obtain ⟨hvy59, rfl⟩ := hvy59
                    refine z_aload_n C 0 dX10_stands_60 rfl ?_
                    refine z_get (v := .ref (ad (i + 2))) C (by omega) hay1 hcvy30 rfl inA_X10 1 (by decide) q_1460 rfl rfl dX10_stands_61 ?_
                    refine z_iload_n C 1 dX10_stands_64 rfl ?_
                    have hgy60 := up_n egy25 ha2 (ne_o (i := i) (c := 2) (d := 0) rfl)
                    have hgy61 := (hfvy27 (i + 2) (ne_o (i := i) (c := 2) (d := 0) rfl)).trans hgy60
                    have hgy62 := (hfvy30 (i + 2) (ne_o (i := i) (c := 2) (d := 0) rfl)).trans hgy61
                    refine z_iald C (by omega) hay3 hgy62 (n) (by omega) (by omega) (by decide) dX10_stands_65 ?_
                    obtain ⟨xy63, exy64, hxy65⟩ := zI_of (zI (st (n)))
                    rw [exy64]
                    have hgy67 := up_n egy25 ha7 (ne_o (i := i) (c := 7) (d := 0) rfl)
                    have hgy68 := (hfvy27 (i + 7) (ne_o (i := i) (c := 7) (d := 0) rfl)).trans hgy67
                    have hgy69 := (hfvy30 (i + 7) (ne_o (i := i) (c := 7) (d := 0) rfl)).trans hgy68
                    have hqy70 : qS r py52 := (((okA.at0 hA).1.1 n (by omega)).of (p2 := py52) (by omega)).q (by have hb9 := mBb (t := r 0 + x) (by omega); omega)
                    have hmky71 := hqy70.1
                    refine z_cV (As := [.int (zI (0)), .int (zI ((n : Int))), .int (zI (ll)), .int (zI (vy59)), .int (zI (xy63))]) (rest := []) (ci := 12) C (c_X10_ratio l D A cs tt N ad _ i hN _ hcvy30 _ hgy56 _ hgy69 0 n py52 hpy52 (by omega) (by omega) hqy70 (ll) (by omega) (vy59) (by omega) (xy63) (by omega)) (by omega) hay1 hcvy30 rfl rfl mv_yX10_ratio q_1772 hd_yX10_ratio (by decide) (Nat.le_of_ble_eq_true rfl) (by decide) dX10_stands_66 rfl (kI0 fun vy66 gvy66 hvy66 => ?_)
                    obtain ⟨hvy66, hzvy66, rfl⟩ := hvy66
                    refine z_bipush (z := 100) C dX10_stands_69 (by decide) ?_
                    refine z_icmp_ge (tgt := 85) C dX10_stands_71 (by decide) (by omega) (by omega) (fun hby72 => ?_) (fun hby72 => ?_)
                    · refine z_iinc (z := ll + 1) (lv' := [(4, .int (zI (ll + 1))), (0, .ref (ad i)), (1, .int (zI ((n : Int)))), (2, .int (zI (z1))), (3, .int (zI (tt9)))]) (j := 4) C dX10_stands_85 rfl rfl (by decide) rfl ?_
                      refine z_goto (tgt := 40) C dX10_stands_88 (by decide) ?_
                      refine z_lv (lv' := [(0, .ref (ad i)), (1, .int (zI ((n : Int)))), (2, .int (zI (z1))), (3, .int (zI (tt9))), (4, .int (zI (ll + 1)))]) [1, 2, 3, 4, 0] rfl ?_
                      exact ih_lp2 _ (by omega) (ll + 1) _ rfl rfl (by omega)
                    · refine z_iload_n C 2 dX10_stands_74 rfl ?_
                      refine z_if_ne (tgt := 82) C dX10_stands_75 (by decide) (by omega) (fun hby73 => ?_) (fun hby73 => ?_)
                      · refine z_iload C 4 dX10_stands_82 rfl ?_
                        have hFy74 : ∀ f, f ≠ 12 → Fvy30 f = F f := fun f n12 => ((hFvy30 f n12).trans ((hFvy27 f n12).trans ((uZ_n _ _ n12).trans rfl)))
                        have hey75 : Fvy30 13 = F 13 := ((hFvy30 13 (by decide)).trans ((hFvy27 13 (by decide)).trans (fn rfl (by decide))))
                        have hey76 : Fvy30 14 = F 14 := ((hFvy30 14 (by decide)).trans ((hFvy27 14 (by decide)).trans (fn rfl (by decide))))
                        have hey77 : Fvy30 15 = F 15 := ((hFvy30 15 (by decide)).trans ((hFvy27 15 (by decide)).trans (fn rfl (by decide))))
                        have hey78 : Fvy30 16 = F 16 := ((hFvy30 16 (by decide)).trans ((hFvy27 16 (by decide)).trans (fn rfl (by decide))))
                        have hey79 : Fvy30 17 = F 17 := ((hFvy30 17 (by decide)).trans ((hFvy27 17 (by decide)).trans (fn rfl (by decide))))
                        have hey80 : Fvy30 18 = F 18 := ((hFvy30 18 (by decide)).trans ((hFvy27 18 (by decide)).trans (fn rfl (by decide))))
                        have hey81 : Fvy30 19 = F 19 := ((hFvy30 19 (by decide)).trans ((hFvy27 19 (by decide)).trans (fn rfl (by decide))))
                        have hey82 : Fvy30 20 = F 20 := ((hFvy30 20 (by decide)).trans ((hFvy27 20 (by decide)).trans (fn rfl (by decide))))
                        have hey83 : Fvy30 23 = F 23 := ((hFvy30 23 (by decide)).trans ((hFvy27 23 (by decide)).trans (fn rfl (by decide))))
                        have hey84 : Fvy30 25 = F 25 := ((hFvy30 25 (by decide)).trans ((hFvy27 25 (by decide)).trans (fn rfl (by decide))))
                        have hey85 : Fvy30 27 = F 27 := ((hFvy30 27 (by decide)).trans ((hFvy27 27 (by decide)).trans (fn rfl (by decide))))
                        have hey86 : Fvy30 28 = F 28 := ((hFvy30 28 (by decide)).trans ((hFvy27 28 (by decide)).trans (fn rfl (by decide))))
                        have hey87 : Fvy30 29 = F 29 := ((hFvy30 29 (by decide)).trans ((hFvy27 29 (by decide)).trans (fn rfl (by decide))))
                        have hKy88 : okF Fvy30 := by unfold okF; omega
                        have hMy89 : okMr cs ad gvy30 i (x + 1) Fvy30 r := okMr.upd hM hcvy30 hKy88 (fun f a => hFy74 f (by omega)) hgy56 (hA.mono (by omega)) (fun j a b => by
                            exact Or.inl (by rw [hfvy30 _ (by omega)]; rw [hfvy27 _ (by omega)]; rw [egy25, va_up_ne _ _ (by omega)]))
                        have h23 : Fvy30 23 = F 23 := ((hFvy30 23 (by decide)).trans ((hFvy27 23 (by decide)).trans (fn rfl (by decide))))
                        exact z_iret C hr hlk dX10_stands_84 (by decide) (by decide) ⟨ll, rfl, rfl, rfl, by omega, ⟨_, _, hMy89, by omega⟩, fun j j1 => by rw [hfvy30 _ (by omega)]; rw [hfvy27 _ (by omega)]; rw [egy25, va_up_ne _ _ (by omega)]⟩
                      · refine z_iload_n C 3 dX10_stands_78 rfl ?_
                        refine z_goto (tgt := 84) C dX10_stands_79 (by decide) ?_
                        have hFy90 : ∀ f, f ≠ 12 → Fvy30 f = F f := fun f n12 => ((hFvy30 f n12).trans ((hFvy27 f n12).trans ((uZ_n _ _ n12).trans rfl)))
                        have hey91 : Fvy30 13 = F 13 := ((hFvy30 13 (by decide)).trans ((hFvy27 13 (by decide)).trans (fn rfl (by decide))))
                        have hey92 : Fvy30 14 = F 14 := ((hFvy30 14 (by decide)).trans ((hFvy27 14 (by decide)).trans (fn rfl (by decide))))
                        have hey93 : Fvy30 15 = F 15 := ((hFvy30 15 (by decide)).trans ((hFvy27 15 (by decide)).trans (fn rfl (by decide))))
                        have hey94 : Fvy30 16 = F 16 := ((hFvy30 16 (by decide)).trans ((hFvy27 16 (by decide)).trans (fn rfl (by decide))))
                        have hey95 : Fvy30 17 = F 17 := ((hFvy30 17 (by decide)).trans ((hFvy27 17 (by decide)).trans (fn rfl (by decide))))
                        have hey96 : Fvy30 18 = F 18 := ((hFvy30 18 (by decide)).trans ((hFvy27 18 (by decide)).trans (fn rfl (by decide))))
                        have hey97 : Fvy30 19 = F 19 := ((hFvy30 19 (by decide)).trans ((hFvy27 19 (by decide)).trans (fn rfl (by decide))))
                        have hey98 : Fvy30 20 = F 20 := ((hFvy30 20 (by decide)).trans ((hFvy27 20 (by decide)).trans (fn rfl (by decide))))
                        have hey99 : Fvy30 23 = F 23 := ((hFvy30 23 (by decide)).trans ((hFvy27 23 (by decide)).trans (fn rfl (by decide))))
                        have hey100 : Fvy30 25 = F 25 := ((hFvy30 25 (by decide)).trans ((hFvy27 25 (by decide)).trans (fn rfl (by decide))))
                        have hey101 : Fvy30 27 = F 27 := ((hFvy30 27 (by decide)).trans ((hFvy27 27 (by decide)).trans (fn rfl (by decide))))
                        have hey102 : Fvy30 28 = F 28 := ((hFvy30 28 (by decide)).trans ((hFvy27 28 (by decide)).trans (fn rfl (by decide))))
                        have hey103 : Fvy30 29 = F 29 := ((hFvy30 29 (by decide)).trans ((hFvy27 29 (by decide)).trans (fn rfl (by decide))))
                        have hKy104 : okF Fvy30 := by unfold okF; omega
                        have hMy105 : okMr cs ad gvy30 i (x + 1) Fvy30 r := okMr.upd hM hcvy30 hKy104 (fun f a => hFy90 f (by omega)) hgy56 (hA.mono (by omega)) (fun j a b => by
                            exact Or.inl (by rw [hfvy30 _ (by omega)]; rw [hfvy27 _ (by omega)]; rw [egy25, va_up_ne _ _ (by omega)]))
                        have h23 : Fvy30 23 = F 23 := ((hFvy30 23 (by decide)).trans ((hFvy27 23 (by decide)).trans (fn rfl (by decide))))
                        exact z_iret C hr hlk dX10_stands_84 (by decide) (by decide) ⟨tt9, rfl, rfl, rfl, by omega, ⟨_, _, hMy105, by omega⟩, fun j j1 => by rw [hfvy30 _ (by omega)]; rw [hfvy27 _ (by omega)]; rw [egy25, va_up_ne _ _ (by omega)]⟩
              refine z_lv (lv' := [(0, .ref (ad i)), (1, .int (zI ((n : Int)))), (2, .int (zI (z1))), (3, .int (zI (tt9))), (4, .int (zI (0)))]) [1, 2, 3, 4, 0] rfl ?_
              exact lp2 _ (0) _ rfl rfl (by omega)
        refine z_lv (lv' := [(0, .ref (ad i)), (1, .int (zI ((n : Int)))), (2, .int (zI (z1))), (3, .int (zI (0)))]) [1, 2, 3, 0] rfl ?_
        exact lp1 _ (0) _ rfl rfl (by omega)
      · refine z_if_ne (tgt := 29) C dX10_stands_24 (by decide) (by omega) (fun h => absurd h (by omega)) (fun _ => ?_)
        refine z_iconst (z := 0) C dX10_stands_27 rfl ?_
        have hgy106 := up_n egy25 ha1 (ne_o (i := i) (c := 1) (d := 0) rfl)
        have hgy107 := (hfvy27 (i + 1) (ne_o (i := i) (c := 1) (d := 0) rfl)).trans hgy106
        have hgy108 := (hfvy30 (i + 1) (ne_o (i := i) (c := 1) (d := 0) rfl)).trans hgy107
        have hFy109 : ∀ f, f ≠ 12 → Fvy30 f = F f := fun f n12 => ((hFvy30 f n12).trans ((hFvy27 f n12).trans ((uZ_n _ _ n12).trans rfl)))
        have hey110 : Fvy30 13 = F 13 := ((hFvy30 13 (by decide)).trans ((hFvy27 13 (by decide)).trans (fn rfl (by decide))))
        have hey111 : Fvy30 14 = F 14 := ((hFvy30 14 (by decide)).trans ((hFvy27 14 (by decide)).trans (fn rfl (by decide))))
        have hey112 : Fvy30 15 = F 15 := ((hFvy30 15 (by decide)).trans ((hFvy27 15 (by decide)).trans (fn rfl (by decide))))
        have hey113 : Fvy30 16 = F 16 := ((hFvy30 16 (by decide)).trans ((hFvy27 16 (by decide)).trans (fn rfl (by decide))))
        have hey114 : Fvy30 17 = F 17 := ((hFvy30 17 (by decide)).trans ((hFvy27 17 (by decide)).trans (fn rfl (by decide))))
        have hey115 : Fvy30 18 = F 18 := ((hFvy30 18 (by decide)).trans ((hFvy27 18 (by decide)).trans (fn rfl (by decide))))
        have hey116 : Fvy30 19 = F 19 := ((hFvy30 19 (by decide)).trans ((hFvy27 19 (by decide)).trans (fn rfl (by decide))))
        have hey117 : Fvy30 20 = F 20 := ((hFvy30 20 (by decide)).trans ((hFvy27 20 (by decide)).trans (fn rfl (by decide))))
        have hey118 : Fvy30 23 = F 23 := ((hFvy30 23 (by decide)).trans ((hFvy27 23 (by decide)).trans (fn rfl (by decide))))
        have hey119 : Fvy30 25 = F 25 := ((hFvy30 25 (by decide)).trans ((hFvy27 25 (by decide)).trans (fn rfl (by decide))))
        have hey120 : Fvy30 27 = F 27 := ((hFvy30 27 (by decide)).trans ((hFvy27 27 (by decide)).trans (fn rfl (by decide))))
        have hey121 : Fvy30 28 = F 28 := ((hFvy30 28 (by decide)).trans ((hFvy27 28 (by decide)).trans (fn rfl (by decide))))
        have hey122 : Fvy30 29 = F 29 := ((hFvy30 29 (by decide)).trans ((hFvy27 29 (by decide)).trans (fn rfl (by decide))))
        have hKy123 : okF Fvy30 := by unfold okF; omega
        have hMy124 : okMr cs ad gvy30 i (x + 1) Fvy30 r := okMr.upd hM hcvy30 hKy123 (fun f a => hFy109 f (by omega)) hgy108 (hA.mono (by omega)) (fun j a b => by
            exact Or.inl (by rw [hfvy30 _ (by omega)]; rw [hfvy27 _ (by omega)]; rw [egy25, va_up_ne _ _ (by omega)]))
        have h23 : Fvy30 23 = F 23 := ((hFvy30 23 (by decide)).trans ((hFvy27 23 (by decide)).trans (fn rfl (by decide))))
        exact z_iret C hr hlk dX10_stands_28 (by decide) (by decide) ⟨0, rfl, rfl, rfl, by omega, ⟨_, _, hMy124, by omega⟩, fun j j1 => by rw [hfvy30 _ (by omega)]; rw [hfvy27 _ (by omega)]; rw [egy25, va_up_ne _ _ (by omega)]⟩
    · refine z_iconst (z := 1) C dX10_stands_20 rfl ?_
      have hey126 : Fvy27 12 = Fvy27 12 := rfl
      refine z_cV (As := [.int (zI (0)), .int (zI (1))]) (rest := []) (ci := 12) C (c_X10_right l D A cs tt N ad _ i hN _ hcvy27 (by omega) (0) (by omega) (1) (by omega)) (by omega) hay1 hcvy27 rfl rfl mv_yX10_right q_1648 hd_yX10_right (by decide) (Nat.le_of_ble_eq_true rfl) (by decide) dX10_stands_21 rfl (kI0 fun vy125 gvy125 hvy125 => ?_)
      obtain ⟨hrvy125, ⟨Fvy125, hcvy125, htvy125, hFvy125⟩, hfvy125⟩ := hvy125
      obtain rfl : vy125 = 0 := by omega
      refine z_if_ne (tgt := 29) C dX10_stands_24 (by decide) (by omega) (fun h => absurd h (by omega)) (fun _ => ?_)
      refine z_iconst (z := 0) C dX10_stands_27 rfl ?_
      have hgy127 := up_n egy25 ha1 (ne_o (i := i) (c := 1) (d := 0) rfl)
      have hgy128 := (hfvy27 (i + 1) (ne_o (i := i) (c := 1) (d := 0) rfl)).trans hgy127
      have hgy129 := (hfvy125 (i + 1) (ne_o (i := i) (c := 1) (d := 0) rfl)).trans hgy128
      have hFy130 : ∀ f, f ≠ 12 → Fvy125 f = F f := fun f n12 => ((hFvy125 f n12).trans ((hFvy27 f n12).trans ((uZ_n _ _ n12).trans rfl)))
      have hey131 : Fvy125 13 = F 13 := ((hFvy125 13 (by decide)).trans ((hFvy27 13 (by decide)).trans (fn rfl (by decide))))
      have hey132 : Fvy125 14 = F 14 := ((hFvy125 14 (by decide)).trans ((hFvy27 14 (by decide)).trans (fn rfl (by decide))))
      have hey133 : Fvy125 15 = F 15 := ((hFvy125 15 (by decide)).trans ((hFvy27 15 (by decide)).trans (fn rfl (by decide))))
      have hey134 : Fvy125 16 = F 16 := ((hFvy125 16 (by decide)).trans ((hFvy27 16 (by decide)).trans (fn rfl (by decide))))
      have hey135 : Fvy125 17 = F 17 := ((hFvy125 17 (by decide)).trans ((hFvy27 17 (by decide)).trans (fn rfl (by decide))))
      have hey136 : Fvy125 18 = F 18 := ((hFvy125 18 (by decide)).trans ((hFvy27 18 (by decide)).trans (fn rfl (by decide))))
      have hey137 : Fvy125 19 = F 19 := ((hFvy125 19 (by decide)).trans ((hFvy27 19 (by decide)).trans (fn rfl (by decide))))
      have hey138 : Fvy125 20 = F 20 := ((hFvy125 20 (by decide)).trans ((hFvy27 20 (by decide)).trans (fn rfl (by decide))))
      have hey139 : Fvy125 23 = F 23 := ((hFvy125 23 (by decide)).trans ((hFvy27 23 (by decide)).trans (fn rfl (by decide))))
      have hey140 : Fvy125 25 = F 25 := ((hFvy125 25 (by decide)).trans ((hFvy27 25 (by decide)).trans (fn rfl (by decide))))
      have hey141 : Fvy125 27 = F 27 := ((hFvy125 27 (by decide)).trans ((hFvy27 27 (by decide)).trans (fn rfl (by decide))))
      have hey142 : Fvy125 28 = F 28 := ((hFvy125 28 (by decide)).trans ((hFvy27 28 (by decide)).trans (fn rfl (by decide))))
      have hey143 : Fvy125 29 = F 29 := ((hFvy125 29 (by decide)).trans ((hFvy27 29 (by decide)).trans (fn rfl (by decide))))
      have hKy144 : okF Fvy125 := by unfold okF; omega
      have hMy145 : okMr cs ad gvy125 i (x + 1) Fvy125 r := okMr.upd hM hcvy125 hKy144 (fun f a => hFy130 f (by omega)) hgy129 (hA.mono (by omega)) (fun j a b => by
          exact Or.inl (by rw [hfvy125 _ (by omega)]; rw [hfvy27 _ (by omega)]; rw [egy25, va_up_ne _ _ (by omega)]))
      have h23 : Fvy125 23 = F 23 := ((hFvy125 23 (by decide)).trans ((hFvy27 23 (by decide)).trans (fn rfl (by decide))))
      exact z_iret C hr hlk dX10_stands_28 (by decide) (by decide) ⟨0, rfl, rfl, rfl, by omega, ⟨_, _, hMy145, by omega⟩, fun j j1 => by rw [hfvy125 _ (by omega)]; rw [hfvy27 _ (by omega)]; rw [egy25, va_up_ne _ _ (by omega)]⟩
  · refine z_if_eq (tgt := 27) C dX10_stands_10 (by decide) (by omega) (fun _ => ?_) (fun h => absurd h (by omega))
    refine z_iconst (z := 0) C dX10_stands_27 rfl ?_
    have hgy146 := up_n egy25 ha1 (ne_o (i := i) (c := 1) (d := 0) rfl)
    have hgy147 := (hfvy27 (i + 1) (ne_o (i := i) (c := 1) (d := 0) rfl)).trans hgy146
    have hFy148 : ∀ f, f ≠ 12 → Fvy27 f = F f := fun f n12 => ((hFvy27 f n12).trans ((uZ_n _ _ n12).trans rfl))
    have hey149 : Fvy27 13 = F 13 := ((hFvy27 13 (by decide)).trans (fn rfl (by decide)))
    have hey150 : Fvy27 14 = F 14 := ((hFvy27 14 (by decide)).trans (fn rfl (by decide)))
    have hey151 : Fvy27 15 = F 15 := ((hFvy27 15 (by decide)).trans (fn rfl (by decide)))
    have hey152 : Fvy27 16 = F 16 := ((hFvy27 16 (by decide)).trans (fn rfl (by decide)))
    have hey153 : Fvy27 17 = F 17 := ((hFvy27 17 (by decide)).trans (fn rfl (by decide)))
    have hey154 : Fvy27 18 = F 18 := ((hFvy27 18 (by decide)).trans (fn rfl (by decide)))
    have hey155 : Fvy27 19 = F 19 := ((hFvy27 19 (by decide)).trans (fn rfl (by decide)))
    have hey156 : Fvy27 20 = F 20 := ((hFvy27 20 (by decide)).trans (fn rfl (by decide)))
    have hey157 : Fvy27 23 = F 23 := ((hFvy27 23 (by decide)).trans (fn rfl (by decide)))
    have hey158 : Fvy27 25 = F 25 := ((hFvy27 25 (by decide)).trans (fn rfl (by decide)))
    have hey159 : Fvy27 27 = F 27 := ((hFvy27 27 (by decide)).trans (fn rfl (by decide)))
    have hey160 : Fvy27 28 = F 28 := ((hFvy27 28 (by decide)).trans (fn rfl (by decide)))
    have hey161 : Fvy27 29 = F 29 := ((hFvy27 29 (by decide)).trans (fn rfl (by decide)))
    have hKy162 : okF Fvy27 := by unfold okF; omega
    have hMy163 : okMr cs ad gvy27 i (x + 1) Fvy27 r := okMr.upd hM hcvy27 hKy162 (fun f a => hFy148 f (by omega)) hgy147 (hA.mono (by omega)) (fun j a b => by
        exact Or.inl (by rw [hfvy27 _ (by omega)]; rw [egy25, va_up_ne _ _ (by omega)]))
    have h23 : Fvy27 23 = F 23 := ((hFvy27 23 (by decide)).trans (fn rfl (by decide)))
    exact z_iret C hr hlk dX10_stands_28 (by decide) (by decide) ⟨0, rfl, rfl, rfl, by omega, ⟨_, _, hMy163, by omega⟩, fun j j1 => by rw [hfvy27 _ (by omega)]; rw [egy25, va_up_ne _ _ (by omega)]⟩

set_option maxRecDepth 100000 in
set_option maxHeartbeats 4000000 in
theorem c_X10_stands_b (l : Launch) (D : va_G) (A : Nat → Prop) (cs : Nat → ClassId) (tt : Nat) (N : Nat) (ad : Nat → Nat) (g : Nat → va_E) (i : Nat) (hN : i + 30 ≤ N) (x : Int) (hx : 0 ≤ x ∧ x ≤ 512) (F r : Nat → Int) (hM : okMr cs ad g i x F r) (z : Int) (hz : -2147483648 ≤ z ∧ z ≤ 2147483647) (hzo : z < 0 ∨ 3 < z) (z1 : Int) (hz1 : -2147483648 ≤ z1 ∧ z1 ≤ 2147483647) : zM l yX10_stands cX10_stands 5 (some .int) ({ frames := 8, cells := 0, slots := 0, locals := 480 } : Room) D A cs tt N ad g [.ref (ad i), .int (zI (z)), .int (zI (z1))] (rI0 N ad fun q g' => (-2147483648 ≤ q ∧ q ≤ 2147483647) ∧ (∃ F' r' : Nat → Int, okMr cs ad g' i (x + 1) F' r' ∧ F' 23 = F 23) ∧ ∀ j, j < i ∨ i + 30 ≤ j → g' j = g j) := by
  obtain ⟨hg, ⟨⟨e13, e14, e25, e27, e29⟩, k15, k16, k17, k18, k19, k20, k23⟩, hRD, hTx, hA, st, op, ai, fa, mu, tb, ns, nh, nd, rf, pi, tp, te, ki, li, ok1, ok2, fo, dd, dps, ⟨ha1, ha2, ha3, ha4, ha5, ha6, ha7, ha8, ha9, ha10, ha11, ha12, ha13, ha14, ha15, ha24, ha25, ha26, ha27, ha28, ha29⟩, hEv, hPt, hns, htp⟩ := id hM
  obtain ⟨-, hop, hai, hfa, hT, hT1⟩ := id hEv
  have hay1 : zAt ad (i) (ad i) := rfl
  have hay2 : zAt ad (i + 1) (ad (i + 1)) := rfl
  have hay3 : zAt ad (i + 2) (ad (i + 2)) := rfl
  have hay4 : zAt ad (i + 3) (ad (i + 3)) := rfl
  have hay5 : zAt ad (i + 4) (ad (i + 4)) := rfl
  have hay6 : zAt ad (i + 5) (ad (i + 5)) := rfl
  have hay7 : zAt ad (i + 6) (ad (i + 6)) := rfl
  have hay8 : zAt ad (i + 7) (ad (i + 7)) := rfl
  have hay9 : zAt ad (i + 8) (ad (i + 8)) := rfl
  have hay10 : zAt ad (i + 9) (ad (i + 9)) := rfl
  have hay11 : zAt ad (i + 10) (ad (i + 10)) := rfl
  have hay12 : zAt ad (i + 11) (ad (i + 11)) := rfl
  have hay13 : zAt ad (i + 12) (ad (i + 12)) := rfl
  have hay14 : zAt ad (i + 13) (ad (i + 13)) := rfl
  have hay15 : zAt ad (i + 14) (ad (i + 14)) := rfl
  have hay16 : zAt ad (i + 15) (ad (i + 15)) := rfl
  have hay17 : zAt ad (i + 24) (ad (i + 24)) := rfl
  have hay18 : zAt ad (i + 25) (ad (i + 25)) := rfl
  have hay19 : zAt ad (i + 26) (ad (i + 26)) := rfl
  have hay20 : zAt ad (i + 27) (ad (i + 27)) := rfl
  have hay21 : zAt ad (i + 28) (ad (i + 28)) := rfl
  have hay22 : zAt ad (i + 29) (ad (i + 29)) := rfl
  obtain ⟨⟨hsyy23, htyy23, hnyy23, hpyy23⟩, hlyy23⟩ := okA.at0 hA
  simp only [Nat.zero_add] at hsyy23 hnyy23 hpyy23
  have hmn : ∀ s, s < 4 → 0 ≤ r (6 + 86 * s) ∧ r (6 + 86 * s) ≤ 12 := fun s hs => (hsyy23 s hs).1
  have h5 : 0 ≤ r 5 ∧ r 5 ≤ 6 := hpyy23
  refine z_of (by decide) (Nat.le_of_ble_eq_true rfl) ?_
  intro pZ eZ sZ mZ below meth cZ C hr hlk hnm
  refine z_lv (lv' := [(0, .ref (ad i)), (1, .int (zI (z))), (2, .int (zI (z1)))]) [0, 1, 2] rfl ?_
  refine z_aload_n C 0 dX10_stands_0 rfl ?_
  refine z_iconst (z := 0) C dX10_stands_1 rfl ?_
  refine z_put (fs' := mF ad (i) (uZ F 12 (0))) C (by omega) hay1 hg tyX10 tyX10_ok nmX10 rfl inA_X10 12 (by decide) q_1471 rfl rfl rfl rfl (Nat.le_of_ble_eq_true rfl) rfl dX10_stands_2 (fun gy24 egy25 => ?_)
  have hgy26 := up_s egy25
  refine z_aload_n C 0 dX10_stands_5 rfl ?_
  refine z_iload_n C 1 dX10_stands_6 rfl ?_
  have h13vy27 : (uZ F 12 (0)) 13 = F 13 := (fn rfl (by decide))
  have hey28 : (uZ F 12 (0)) 12 = 0 := (uZ_s _ _ _)
  refine z_cV (As := [.int (zI (z))]) (rest := []) (ci := 12) C (c_X10_isSlope l D A cs tt N ad _ i hN _ hgy26 (by omega) (by omega) (z) (by omega)) (by omega) hay1 hgy26 rfl rfl mv_yX10_isSlope q_1803 hd_yX10_isSlope (by decide) (Nat.le_of_ble_eq_true rfl) (by decide) dX10_stands_7 rfl (kI0 fun vy27 gvy27 hvy27 => ?_)
  rw [h13vy27] at hvy27
  obtain ⟨hrvy27, ⟨Fvy27, hcvy27, htvy27, hFvy27⟩, hfvy27⟩ := hvy27
  obtain rfl : vy27 = 0 := by omega
  refine z_if_eq (tgt := 27) C dX10_stands_10 (by decide) (by omega) (fun _ => ?_) (fun h => absurd h (by omega))
  refine z_iconst (z := 0) C dX10_stands_27 rfl ?_
  have hgy29 := up_n egy25 ha1 (ne_o (i := i) (c := 1) (d := 0) rfl)
  have hgy30 := (hfvy27 (i + 1) (ne_o (i := i) (c := 1) (d := 0) rfl)).trans hgy29
  have hFy31 : ∀ f, f ≠ 12 → Fvy27 f = F f := fun f n12 => ((hFvy27 f n12).trans ((uZ_n _ _ n12).trans rfl))
  have hey32 : Fvy27 13 = F 13 := ((hFvy27 13 (by decide)).trans (fn rfl (by decide)))
  have hey33 : Fvy27 14 = F 14 := ((hFvy27 14 (by decide)).trans (fn rfl (by decide)))
  have hey34 : Fvy27 15 = F 15 := ((hFvy27 15 (by decide)).trans (fn rfl (by decide)))
  have hey35 : Fvy27 16 = F 16 := ((hFvy27 16 (by decide)).trans (fn rfl (by decide)))
  have hey36 : Fvy27 17 = F 17 := ((hFvy27 17 (by decide)).trans (fn rfl (by decide)))
  have hey37 : Fvy27 18 = F 18 := ((hFvy27 18 (by decide)).trans (fn rfl (by decide)))
  have hey38 : Fvy27 19 = F 19 := ((hFvy27 19 (by decide)).trans (fn rfl (by decide)))
  have hey39 : Fvy27 20 = F 20 := ((hFvy27 20 (by decide)).trans (fn rfl (by decide)))
  have hey40 : Fvy27 23 = F 23 := ((hFvy27 23 (by decide)).trans (fn rfl (by decide)))
  have hey41 : Fvy27 25 = F 25 := ((hFvy27 25 (by decide)).trans (fn rfl (by decide)))
  have hey42 : Fvy27 27 = F 27 := ((hFvy27 27 (by decide)).trans (fn rfl (by decide)))
  have hey43 : Fvy27 28 = F 28 := ((hFvy27 28 (by decide)).trans (fn rfl (by decide)))
  have hey44 : Fvy27 29 = F 29 := ((hFvy27 29 (by decide)).trans (fn rfl (by decide)))
  have hKy45 : okF Fvy27 := by unfold okF; omega
  have hMy46 : okMr cs ad gvy27 i (x + 1) Fvy27 r := okMr.upd hM hcvy27 hKy45 (fun f a => hFy31 f (by omega)) hgy30 (hA.mono (by omega)) (fun j a b => by
      exact Or.inl (by rw [hfvy27 _ (by omega)]; rw [egy25, va_up_ne _ _ (by omega)]))
  have h23 : Fvy27 23 = F 23 := ((hFvy27 23 (by decide)).trans (fn rfl (by decide)))
  exact z_iret C hr hlk dX10_stands_28 (by decide) (by decide) ⟨0, rfl, rfl, rfl, by omega, ⟨_, _, hMy46, by omega⟩, fun j j1 => by rw [hfvy27 _ (by omega)]; rw [egy25, va_up_ne _ _ (by omega)]⟩

set_option maxRecDepth 100000 in
set_option maxHeartbeats 4000000 in
theorem c_X10_stands (l : Launch) (D : va_G) (A : Nat → Prop) (cs : Nat → ClassId) (tt : Nat) (N : Nat) (ad : Nat → Nat) (g : Nat → va_E) (i : Nat) (hN : i + 30 ≤ N) (x : Int) (hx : 0 ≤ x ∧ x ≤ 512) (F r : Nat → Int) (hM : okMr cs ad g i x F r) (z : Int) (hz : -2147483648 ≤ z ∧ z ≤ 2147483647) (z1 : Int) (hz1 : -2147483648 ≤ z1 ∧ z1 ≤ 2147483647) : zM l yX10_stands cX10_stands 5 (some .int) ({ frames := 8, cells := 0, slots := 0, locals := 480 } : Room) D A cs tt N ad g [.ref (ad i), .int (zI (z)), .int (zI (z1))] (rI0 N ad fun q g' => (-2147483648 ≤ q ∧ q ≤ 2147483647) ∧ (∃ F' r' : Nat → Int, okMr cs ad g' i (x + 1) F' r' ∧ F' 23 = F 23) ∧ ∀ j, j < i ∨ i + 30 ≤ j → g' j = g j) := by
  by_cases h9 : 0 ≤ z ∧ z ≤ 3
  · obtain ⟨n, rfl⟩ : ∃ n : Nat, z = (n : Int) := ⟨z.toNat, by omega⟩
    exact c_X10_stands_a l D A cs tt N ad g i hN x hx F r hM n (by omega) z1 hz1
  · exact c_X10_stands_b l D A cs tt N ad g i hN x hx F r hM z hz (by omega) z1 hz1

set_option maxRecDepth 100000 in
set_option maxHeartbeats 4000000 in
theorem c_X10_toLoad_a (l : Launch) (D : va_G) (A : Nat → Prop) (cs : Nat → ClassId) (tt : Nat) (N : Nat) (ad : Nat → Nat) (g : Nat → va_E) (i : Nat) (hN : i + 30 ≤ N) (x : Int) (hx : 0 ≤ x ∧ x ≤ 512) (F r : Nat → Int) (hM : okMr cs ad g i x F r) (n : Nat) (hn4 : n < 4) : zM l yX10_toLoad cX10_toLoad 3 (some .int) ({ frames := 9, cells := 0, slots := 0, locals := 540 } : Room) D A cs tt N ad g [.ref (ad i), .int (zI ((n : Int)))] (rI0 N ad fun q g' => (-2147483648 ≤ q ∧ q ≤ 2147483647) ∧ (∃ F' r' : Nat → Int, okMr cs ad g' i (x + 1) F' r' ∧ F' 23 = F 23) ∧ ∀ j, j < i ∨ i + 30 ≤ j → g' j = g j) := by
  obtain ⟨hg, ⟨⟨e13, e14, e25, e27, e29⟩, k15, k16, k17, k18, k19, k20, k23⟩, hRD, hTx, hA, st, op, ai, fa, mu, tb, ns, nh, nd, rf, pi, tp, te, ki, li, ok1, ok2, fo, dd, dps, ⟨ha1, ha2, ha3, ha4, ha5, ha6, ha7, ha8, ha9, ha10, ha11, ha12, ha13, ha14, ha15, ha24, ha25, ha26, ha27, ha28, ha29⟩, hEv, hPt, hns, htp⟩ := id hM
  obtain ⟨-, hop, hai, hfa, hT, hT1⟩ := id hEv
  have hay1 : zAt ad (i) (ad i) := rfl
  have hay2 : zAt ad (i + 1) (ad (i + 1)) := rfl
  have hay3 : zAt ad (i + 2) (ad (i + 2)) := rfl
  have hay4 : zAt ad (i + 3) (ad (i + 3)) := rfl
  have hay5 : zAt ad (i + 4) (ad (i + 4)) := rfl
  have hay6 : zAt ad (i + 5) (ad (i + 5)) := rfl
  have hay7 : zAt ad (i + 6) (ad (i + 6)) := rfl
  have hay8 : zAt ad (i + 7) (ad (i + 7)) := rfl
  have hay9 : zAt ad (i + 8) (ad (i + 8)) := rfl
  have hay10 : zAt ad (i + 9) (ad (i + 9)) := rfl
  have hay11 : zAt ad (i + 10) (ad (i + 10)) := rfl
  have hay12 : zAt ad (i + 11) (ad (i + 11)) := rfl
  have hay13 : zAt ad (i + 12) (ad (i + 12)) := rfl
  have hay14 : zAt ad (i + 13) (ad (i + 13)) := rfl
  have hay15 : zAt ad (i + 14) (ad (i + 14)) := rfl
  have hay16 : zAt ad (i + 15) (ad (i + 15)) := rfl
  have hay17 : zAt ad (i + 24) (ad (i + 24)) := rfl
  have hay18 : zAt ad (i + 25) (ad (i + 25)) := rfl
  have hay19 : zAt ad (i + 26) (ad (i + 26)) := rfl
  have hay20 : zAt ad (i + 27) (ad (i + 27)) := rfl
  have hay21 : zAt ad (i + 28) (ad (i + 28)) := rfl
  have hay22 : zAt ad (i + 29) (ad (i + 29)) := rfl
  obtain ⟨⟨hsyy23, htyy23, hnyy23, hpyy23⟩, hlyy23⟩ := okA.at0 hA
  simp only [Nat.zero_add] at hsyy23 hnyy23 hpyy23
  have hmn : ∀ s, s < 4 → 0 ≤ r (6 + 86 * s) ∧ r (6 + 86 * s) ≤ 12 := fun s hs => (hsyy23 s hs).1
  have h5 : 0 ≤ r 5 ∧ r 5 ≤ 6 := hpyy23
  refine z_of (by decide) (Nat.le_of_ble_eq_true rfl) ?_
  intro pZ eZ sZ mZ below meth cZ C hr hlk hnm
  refine z_lv (lv' := [(0, .ref (ad i)), (1, .int (zI ((n : Int))))]) [0, 1] rfl ?_
  refine z_aload_n C 0 dX10_toLoad_0 rfl ?_
  refine z_iconst (z := 0) C dX10_toLoad_1 rfl ?_
  refine z_put (fs' := mF ad (i) (uZ F 12 (0))) C (by omega) hay1 hg tyX10 tyX10_ok nmX10 rfl inA_X10 12 (by decide) q_1471 rfl rfl rfl rfl (Nat.le_of_ble_eq_true rfl) rfl dX10_toLoad_2 (fun gy24 egy25 => ?_)
  have hgy26 := up_s egy25
  refine z_aload_n C 0 dX10_toLoad_5 rfl ?_
  refine z_iload_n C 1 dX10_toLoad_6 rfl ?_
  have h13vy27 : (uZ F 12 (0)) 13 = F 13 := (fn rfl (by decide))
  have hey28 : (uZ F 12 (0)) 12 = 0 := (uZ_s _ _ _)
  refine z_cV (As := [.int (zI ((n : Int)))]) (rest := []) (ci := 12) C (c_X10_isSlope l D A cs tt N ad _ i hN _ hgy26 (by omega) (by omega) ((n : Int)) (by omega)) (by omega) hay1 hgy26 rfl rfl mv_yX10_isSlope q_1803 hd_yX10_isSlope (by decide) (Nat.le_of_ble_eq_true rfl) (by decide) dX10_toLoad_7 rfl (kI0 fun vy27 gvy27 hvy27 => ?_)
  rw [h13vy27] at hvy27
  obtain ⟨hrvy27, ⟨Fvy27, hcvy27, htvy27, hFvy27⟩, hfvy27⟩ := hvy27
  rcases (show vy27 = 1 ∨ vy27 = 0 by omega) with rfl | rfl
  · have hxvy27 := hrvy27.2 rfl
    refine z_if_ne (tgt := 15) C dX10_toLoad_10 (by decide) (by omega) (fun _ => ?_) (fun h => absurd h (by omega))
    refine z_iconst (z := 1) C dX10_toLoad_15 rfl ?_
    refine z_istore_n (lv' := [(2, .int (zI (1))), (0, .ref (ad i)), (1, .int (zI ((n : Int))))]) C dX10_toLoad_16 rfl (by decide) rfl ?_
    have lp1 : ∀ (n9 : Nat) (nn : Int) (g1 : Nat → va_E), (100 - nn).toNat = n9 → (gvy27 = g1) → (1 ≤ nn ∧ nn ≤ 100) → zV pZ l eZ ({ frames := 9, cells := 0, slots := 0, locals := 540 } : Room) sZ mZ ([.ref (ad i), .int (zI ((n : Int)))] : List Value).toArray below meth cZ (MQ below (zPost D A (rI0 N ad fun q g' => (-2147483648 ≤ q ∧ q ≤ 2147483647) ∧ (∃ F' r' : Nat → Int, okMr cs ad g' i (x + 1) F' r' ∧ F' 23 = F 23) ∧ ∀ j, j < i ∨ i + 30 ≤ j → g' j = g j)) ([.ref (ad i), .int (zI ((n : Int)))] : List Value).toArray sZ ({ frames := 9, cells := 0, slots := 0, locals := 540 } : Room).cells ({ frames := 9, cells := 0, slots := 0, locals := 540 } : Room).slots A) D A 3 (N) ad g1 (0) (0) 17 [(0, .ref (ad i)), (1, .int (zI ((n : Int)))), (2, .int (zI (nn)))] [] := by
      intro n9
      induction n9 using Nat.strongRecOn with
      | ind n9 ih_lp1 =>
        intro nn g1 hm9 hgz hvlp10
        subst hgz
        refine z_iload_n C 2 dX10_toLoad_17 rfl ?_
        refine z_bipush (z := 99) C dX10_toLoad_18 (by decide) ?_
        refine z_icmp_gt (tgt := 49) C dX10_toLoad_20 (by decide) (by omega) (by omega) (fun hby29 => ?_) (fun hby29 => ?_)
        · refine z_iconst (z := -1) C dX10_toLoad_49 rfl ?_
          have hgy30 := up_n egy25 ha1 (ne_o (i := i) (c := 1) (d := 0) rfl)
          have hgy31 := (hfvy27 (i + 1) (ne_o (i := i) (c := 1) (d := 0) rfl)).trans hgy30
          have hFy32 : ∀ f, f ≠ 12 → Fvy27 f = F f := fun f n12 => ((hFvy27 f n12).trans ((uZ_n _ _ n12).trans rfl))
          have hey33 : Fvy27 13 = F 13 := ((hFvy27 13 (by decide)).trans (fn rfl (by decide)))
          have hey34 : Fvy27 14 = F 14 := ((hFvy27 14 (by decide)).trans (fn rfl (by decide)))
          have hey35 : Fvy27 15 = F 15 := ((hFvy27 15 (by decide)).trans (fn rfl (by decide)))
          have hey36 : Fvy27 16 = F 16 := ((hFvy27 16 (by decide)).trans (fn rfl (by decide)))
          have hey37 : Fvy27 17 = F 17 := ((hFvy27 17 (by decide)).trans (fn rfl (by decide)))
          have hey38 : Fvy27 18 = F 18 := ((hFvy27 18 (by decide)).trans (fn rfl (by decide)))
          have hey39 : Fvy27 19 = F 19 := ((hFvy27 19 (by decide)).trans (fn rfl (by decide)))
          have hey40 : Fvy27 20 = F 20 := ((hFvy27 20 (by decide)).trans (fn rfl (by decide)))
          have hey41 : Fvy27 23 = F 23 := ((hFvy27 23 (by decide)).trans (fn rfl (by decide)))
          have hey42 : Fvy27 25 = F 25 := ((hFvy27 25 (by decide)).trans (fn rfl (by decide)))
          have hey43 : Fvy27 27 = F 27 := ((hFvy27 27 (by decide)).trans (fn rfl (by decide)))
          have hey44 : Fvy27 28 = F 28 := ((hFvy27 28 (by decide)).trans (fn rfl (by decide)))
          have hey45 : Fvy27 29 = F 29 := ((hFvy27 29 (by decide)).trans (fn rfl (by decide)))
          have hKy46 : okF Fvy27 := by unfold okF; omega
          have hMy47 : okMr cs ad gvy27 i (x + 1) Fvy27 r := okMr.upd hM hcvy27 hKy46 (fun f a => hFy32 f (by omega)) hgy31 (hA.mono (by omega)) (fun j a b => by
              exact Or.inl (by rw [hfvy27 _ (by omega)]; rw [egy25, va_up_ne _ _ (by omega)]))
          have h23 : Fvy27 23 = F 23 := ((hFvy27 23 (by decide)).trans (fn rfl (by decide)))
          exact z_iret C hr hlk dX10_toLoad_50 (by decide) (by decide) ⟨-1, rfl, rfl, rfl, by omega, ⟨_, _, hMy47, by omega⟩, fun j j1 => by rw [hfvy27 _ (by omega)]; rw [egy25, va_up_ne _ _ (by omega)]⟩
        · refine z_aload_n C 0 dX10_toLoad_23 rfl ?_
          refine z_iconst (z := 0) C dX10_toLoad_24 rfl ?_
          refine z_iload_n C 1 dX10_toLoad_25 rfl ?_
          refine z_iload_n C 2 dX10_toLoad_26 rfl ?_
          refine z_aload_n C 0 dX10_toLoad_27 rfl ?_
          refine z_get (v := .ref (ad (i + 2))) C (by omega) hay1 hcvy27 rfl inA_X10 1 (by decide) q_1460 rfl rfl dX10_toLoad_28 ?_
          refine z_iload_n C 1 dX10_toLoad_31 rfl ?_
          have hgy48 := up_n egy25 ha2 (ne_o (i := i) (c := 2) (d := 0) rfl)
          have hgy49 := (hfvy27 (i + 2) (ne_o (i := i) (c := 2) (d := 0) rfl)).trans hgy48
          refine z_iald C (by omega) hay3 hgy49 (n) (by omega) (by omega) (by decide) dX10_toLoad_32 ?_
          obtain ⟨xy50, exy51, hxy52⟩ := zI_of (zI (st (n)))
          rw [exy51]
          obtain ⟨py53, hpy53⟩ : ∃ p9 : Nat, 0 + 6 + 86 * n = p9 := ⟨_, rfl⟩
          have hgy54 := up_n egy25 ha1 (ne_o (i := i) (c := 1) (d := 0) rfl)
          have hgy55 := (hfvy27 (i + 1) (ne_o (i := i) (c := 1) (d := 0) rfl)).trans hgy54
          have hgy57 := up_n egy25 ha7 (ne_o (i := i) (c := 7) (d := 0) rfl)
          have hgy58 := (hfvy27 (i + 7) (ne_o (i := i) (c := 7) (d := 0) rfl)).trans hgy57
          have hqy59 : qS r py53 := (((okA.at0 hA).1.1 n (by omega)).of (p2 := py53) (by omega)).q (by have hb9 := mBb (t := r 0 + x) (by omega); omega)
          have hmky60 := hqy59.1
          refine z_cV (As := [.int (zI (0)), .int (zI ((n : Int))), .int (zI (nn)), .int (zI (xy50))]) (rest := []) (ci := 12) C (c_X10_leastRatioBy l D A cs tt N ad _ i hN _ hcvy27 _ hgy55 _ hgy58 0 n py53 hpy53 (by omega) (by omega) hqy59 (nn) (by omega) (xy50) (by omega)) (by omega) hay1 hcvy27 rfl rfl mv_yX10_leastRatioBy q_1764 hd_yX10_leastRatioBy (by decide) (Nat.le_of_ble_eq_true rfl) (by decide) dX10_toLoad_33 rfl (kI0 fun vy56 gvy56 hvy56 => ?_)
          obtain ⟨hvy56, hzvy56, rfl⟩ := hvy56
          refine z_bipush (z := 100) C dX10_toLoad_36 (by decide) ?_
          refine z_icmp_ge (tgt := 43) C dX10_toLoad_38 (by decide) (by omega) (by omega) (fun hby61 => ?_) (fun hby61 => ?_)
          · refine z_iinc (z := nn + 1) (lv' := [(2, .int (zI (nn + 1))), (0, .ref (ad i)), (1, .int (zI ((n : Int))))]) (j := 2) C dX10_toLoad_43 rfl rfl (by decide) rfl ?_
            refine z_goto (tgt := 17) C dX10_toLoad_46 (by decide) ?_
            refine z_lv (lv' := [(0, .ref (ad i)), (1, .int (zI ((n : Int)))), (2, .int (zI (nn + 1)))]) [1, 2, 0] rfl ?_
            exact ih_lp1 _ (by omega) (nn + 1) _ rfl rfl (by omega)
          · refine z_iload_n C 2 dX10_toLoad_41 rfl ?_
            have hFy62 : ∀ f, f ≠ 12 → Fvy27 f = F f := fun f n12 => ((hFvy27 f n12).trans ((uZ_n _ _ n12).trans rfl))
            have hey63 : Fvy27 13 = F 13 := ((hFvy27 13 (by decide)).trans (fn rfl (by decide)))
            have hey64 : Fvy27 14 = F 14 := ((hFvy27 14 (by decide)).trans (fn rfl (by decide)))
            have hey65 : Fvy27 15 = F 15 := ((hFvy27 15 (by decide)).trans (fn rfl (by decide)))
            have hey66 : Fvy27 16 = F 16 := ((hFvy27 16 (by decide)).trans (fn rfl (by decide)))
            have hey67 : Fvy27 17 = F 17 := ((hFvy27 17 (by decide)).trans (fn rfl (by decide)))
            have hey68 : Fvy27 18 = F 18 := ((hFvy27 18 (by decide)).trans (fn rfl (by decide)))
            have hey69 : Fvy27 19 = F 19 := ((hFvy27 19 (by decide)).trans (fn rfl (by decide)))
            have hey70 : Fvy27 20 = F 20 := ((hFvy27 20 (by decide)).trans (fn rfl (by decide)))
            have hey71 : Fvy27 23 = F 23 := ((hFvy27 23 (by decide)).trans (fn rfl (by decide)))
            have hey72 : Fvy27 25 = F 25 := ((hFvy27 25 (by decide)).trans (fn rfl (by decide)))
            have hey73 : Fvy27 27 = F 27 := ((hFvy27 27 (by decide)).trans (fn rfl (by decide)))
            have hey74 : Fvy27 28 = F 28 := ((hFvy27 28 (by decide)).trans (fn rfl (by decide)))
            have hey75 : Fvy27 29 = F 29 := ((hFvy27 29 (by decide)).trans (fn rfl (by decide)))
            have hKy76 : okF Fvy27 := by unfold okF; omega
            have hMy77 : okMr cs ad gvy27 i (x + 1) Fvy27 r := okMr.upd hM hcvy27 hKy76 (fun f a => hFy62 f (by omega)) hgy55 (hA.mono (by omega)) (fun j a b => by
                exact Or.inl (by rw [hfvy27 _ (by omega)]; rw [egy25, va_up_ne _ _ (by omega)]))
            have h23 : Fvy27 23 = F 23 := ((hFvy27 23 (by decide)).trans (fn rfl (by decide)))
            exact z_iret C hr hlk dX10_toLoad_42 (by decide) (by decide) ⟨nn, rfl, rfl, rfl, by omega, ⟨_, _, hMy77, by omega⟩, fun j j1 => by rw [hfvy27 _ (by omega)]; rw [egy25, va_up_ne _ _ (by omega)]⟩
    refine z_lv (lv' := [(0, .ref (ad i)), (1, .int (zI ((n : Int)))), (2, .int (zI (1)))]) [1, 2, 0] rfl ?_
    exact lp1 _ (1) _ rfl rfl (by omega)
  · refine z_if_ne (tgt := 15) C dX10_toLoad_10 (by decide) (by omega) (fun h => absurd h (by omega)) (fun _ => ?_)
    refine z_iconst (z := 0) C dX10_toLoad_13 rfl ?_
    have hgy78 := up_n egy25 ha1 (ne_o (i := i) (c := 1) (d := 0) rfl)
    have hgy79 := (hfvy27 (i + 1) (ne_o (i := i) (c := 1) (d := 0) rfl)).trans hgy78
    have hFy80 : ∀ f, f ≠ 12 → Fvy27 f = F f := fun f n12 => ((hFvy27 f n12).trans ((uZ_n _ _ n12).trans rfl))
    have hey81 : Fvy27 13 = F 13 := ((hFvy27 13 (by decide)).trans (fn rfl (by decide)))
    have hey82 : Fvy27 14 = F 14 := ((hFvy27 14 (by decide)).trans (fn rfl (by decide)))
    have hey83 : Fvy27 15 = F 15 := ((hFvy27 15 (by decide)).trans (fn rfl (by decide)))
    have hey84 : Fvy27 16 = F 16 := ((hFvy27 16 (by decide)).trans (fn rfl (by decide)))
    have hey85 : Fvy27 17 = F 17 := ((hFvy27 17 (by decide)).trans (fn rfl (by decide)))
    have hey86 : Fvy27 18 = F 18 := ((hFvy27 18 (by decide)).trans (fn rfl (by decide)))
    have hey87 : Fvy27 19 = F 19 := ((hFvy27 19 (by decide)).trans (fn rfl (by decide)))
    have hey88 : Fvy27 20 = F 20 := ((hFvy27 20 (by decide)).trans (fn rfl (by decide)))
    have hey89 : Fvy27 23 = F 23 := ((hFvy27 23 (by decide)).trans (fn rfl (by decide)))
    have hey90 : Fvy27 25 = F 25 := ((hFvy27 25 (by decide)).trans (fn rfl (by decide)))
    have hey91 : Fvy27 27 = F 27 := ((hFvy27 27 (by decide)).trans (fn rfl (by decide)))
    have hey92 : Fvy27 28 = F 28 := ((hFvy27 28 (by decide)).trans (fn rfl (by decide)))
    have hey93 : Fvy27 29 = F 29 := ((hFvy27 29 (by decide)).trans (fn rfl (by decide)))
    have hKy94 : okF Fvy27 := by unfold okF; omega
    have hMy95 : okMr cs ad gvy27 i (x + 1) Fvy27 r := okMr.upd hM hcvy27 hKy94 (fun f a => hFy80 f (by omega)) hgy79 (hA.mono (by omega)) (fun j a b => by
        exact Or.inl (by rw [hfvy27 _ (by omega)]; rw [egy25, va_up_ne _ _ (by omega)]))
    have h23 : Fvy27 23 = F 23 := ((hFvy27 23 (by decide)).trans (fn rfl (by decide)))
    exact z_iret C hr hlk dX10_toLoad_14 (by decide) (by decide) ⟨0, rfl, rfl, rfl, by omega, ⟨_, _, hMy95, by omega⟩, fun j j1 => by rw [hfvy27 _ (by omega)]; rw [egy25, va_up_ne _ _ (by omega)]⟩

set_option maxRecDepth 100000 in
set_option maxHeartbeats 4000000 in
theorem c_X10_toLoad_b (l : Launch) (D : va_G) (A : Nat → Prop) (cs : Nat → ClassId) (tt : Nat) (N : Nat) (ad : Nat → Nat) (g : Nat → va_E) (i : Nat) (hN : i + 30 ≤ N) (x : Int) (hx : 0 ≤ x ∧ x ≤ 512) (F r : Nat → Int) (hM : okMr cs ad g i x F r) (z : Int) (hz : -2147483648 ≤ z ∧ z ≤ 2147483647) (hzo : z < 0 ∨ 3 < z) : zM l yX10_toLoad cX10_toLoad 3 (some .int) ({ frames := 9, cells := 0, slots := 0, locals := 540 } : Room) D A cs tt N ad g [.ref (ad i), .int (zI (z))] (rI0 N ad fun q g' => (-2147483648 ≤ q ∧ q ≤ 2147483647) ∧ (∃ F' r' : Nat → Int, okMr cs ad g' i (x + 1) F' r' ∧ F' 23 = F 23) ∧ ∀ j, j < i ∨ i + 30 ≤ j → g' j = g j) := by
  obtain ⟨hg, ⟨⟨e13, e14, e25, e27, e29⟩, k15, k16, k17, k18, k19, k20, k23⟩, hRD, hTx, hA, st, op, ai, fa, mu, tb, ns, nh, nd, rf, pi, tp, te, ki, li, ok1, ok2, fo, dd, dps, ⟨ha1, ha2, ha3, ha4, ha5, ha6, ha7, ha8, ha9, ha10, ha11, ha12, ha13, ha14, ha15, ha24, ha25, ha26, ha27, ha28, ha29⟩, hEv, hPt, hns, htp⟩ := id hM
  obtain ⟨-, hop, hai, hfa, hT, hT1⟩ := id hEv
  have hay1 : zAt ad (i) (ad i) := rfl
  have hay2 : zAt ad (i + 1) (ad (i + 1)) := rfl
  have hay3 : zAt ad (i + 2) (ad (i + 2)) := rfl
  have hay4 : zAt ad (i + 3) (ad (i + 3)) := rfl
  have hay5 : zAt ad (i + 4) (ad (i + 4)) := rfl
  have hay6 : zAt ad (i + 5) (ad (i + 5)) := rfl
  have hay7 : zAt ad (i + 6) (ad (i + 6)) := rfl
  have hay8 : zAt ad (i + 7) (ad (i + 7)) := rfl
  have hay9 : zAt ad (i + 8) (ad (i + 8)) := rfl
  have hay10 : zAt ad (i + 9) (ad (i + 9)) := rfl
  have hay11 : zAt ad (i + 10) (ad (i + 10)) := rfl
  have hay12 : zAt ad (i + 11) (ad (i + 11)) := rfl
  have hay13 : zAt ad (i + 12) (ad (i + 12)) := rfl
  have hay14 : zAt ad (i + 13) (ad (i + 13)) := rfl
  have hay15 : zAt ad (i + 14) (ad (i + 14)) := rfl
  have hay16 : zAt ad (i + 15) (ad (i + 15)) := rfl
  have hay17 : zAt ad (i + 24) (ad (i + 24)) := rfl
  have hay18 : zAt ad (i + 25) (ad (i + 25)) := rfl
  have hay19 : zAt ad (i + 26) (ad (i + 26)) := rfl
  have hay20 : zAt ad (i + 27) (ad (i + 27)) := rfl
  have hay21 : zAt ad (i + 28) (ad (i + 28)) := rfl
  have hay22 : zAt ad (i + 29) (ad (i + 29)) := rfl
  obtain ⟨⟨hsyy23, htyy23, hnyy23, hpyy23⟩, hlyy23⟩ := okA.at0 hA
  simp only [Nat.zero_add] at hsyy23 hnyy23 hpyy23
  have hmn : ∀ s, s < 4 → 0 ≤ r (6 + 86 * s) ∧ r (6 + 86 * s) ≤ 12 := fun s hs => (hsyy23 s hs).1
  have h5 : 0 ≤ r 5 ∧ r 5 ≤ 6 := hpyy23
  refine z_of (by decide) (Nat.le_of_ble_eq_true rfl) ?_
  intro pZ eZ sZ mZ below meth cZ C hr hlk hnm
  refine z_lv (lv' := [(0, .ref (ad i)), (1, .int (zI (z)))]) [0, 1] rfl ?_
  refine z_aload_n C 0 dX10_toLoad_0 rfl ?_
  refine z_iconst (z := 0) C dX10_toLoad_1 rfl ?_
  refine z_put (fs' := mF ad (i) (uZ F 12 (0))) C (by omega) hay1 hg tyX10 tyX10_ok nmX10 rfl inA_X10 12 (by decide) q_1471 rfl rfl rfl rfl (Nat.le_of_ble_eq_true rfl) rfl dX10_toLoad_2 (fun gy24 egy25 => ?_)
  have hgy26 := up_s egy25
  refine z_aload_n C 0 dX10_toLoad_5 rfl ?_
  refine z_iload_n C 1 dX10_toLoad_6 rfl ?_
  have h13vy27 : (uZ F 12 (0)) 13 = F 13 := (fn rfl (by decide))
  have hey28 : (uZ F 12 (0)) 12 = 0 := (uZ_s _ _ _)
  refine z_cV (As := [.int (zI (z))]) (rest := []) (ci := 12) C (c_X10_isSlope l D A cs tt N ad _ i hN _ hgy26 (by omega) (by omega) (z) (by omega)) (by omega) hay1 hgy26 rfl rfl mv_yX10_isSlope q_1803 hd_yX10_isSlope (by decide) (Nat.le_of_ble_eq_true rfl) (by decide) dX10_toLoad_7 rfl (kI0 fun vy27 gvy27 hvy27 => ?_)
  rw [h13vy27] at hvy27
  obtain ⟨hrvy27, ⟨Fvy27, hcvy27, htvy27, hFvy27⟩, hfvy27⟩ := hvy27
  obtain rfl : vy27 = 0 := by omega
  refine z_if_ne (tgt := 15) C dX10_toLoad_10 (by decide) (by omega) (fun h => absurd h (by omega)) (fun _ => ?_)
  refine z_iconst (z := 0) C dX10_toLoad_13 rfl ?_
  have hgy29 := up_n egy25 ha1 (ne_o (i := i) (c := 1) (d := 0) rfl)
  have hgy30 := (hfvy27 (i + 1) (ne_o (i := i) (c := 1) (d := 0) rfl)).trans hgy29
  have hFy31 : ∀ f, f ≠ 12 → Fvy27 f = F f := fun f n12 => ((hFvy27 f n12).trans ((uZ_n _ _ n12).trans rfl))
  have hey32 : Fvy27 13 = F 13 := ((hFvy27 13 (by decide)).trans (fn rfl (by decide)))
  have hey33 : Fvy27 14 = F 14 := ((hFvy27 14 (by decide)).trans (fn rfl (by decide)))
  have hey34 : Fvy27 15 = F 15 := ((hFvy27 15 (by decide)).trans (fn rfl (by decide)))
  have hey35 : Fvy27 16 = F 16 := ((hFvy27 16 (by decide)).trans (fn rfl (by decide)))
  have hey36 : Fvy27 17 = F 17 := ((hFvy27 17 (by decide)).trans (fn rfl (by decide)))
  have hey37 : Fvy27 18 = F 18 := ((hFvy27 18 (by decide)).trans (fn rfl (by decide)))
  have hey38 : Fvy27 19 = F 19 := ((hFvy27 19 (by decide)).trans (fn rfl (by decide)))
  have hey39 : Fvy27 20 = F 20 := ((hFvy27 20 (by decide)).trans (fn rfl (by decide)))
  have hey40 : Fvy27 23 = F 23 := ((hFvy27 23 (by decide)).trans (fn rfl (by decide)))
  have hey41 : Fvy27 25 = F 25 := ((hFvy27 25 (by decide)).trans (fn rfl (by decide)))
  have hey42 : Fvy27 27 = F 27 := ((hFvy27 27 (by decide)).trans (fn rfl (by decide)))
  have hey43 : Fvy27 28 = F 28 := ((hFvy27 28 (by decide)).trans (fn rfl (by decide)))
  have hey44 : Fvy27 29 = F 29 := ((hFvy27 29 (by decide)).trans (fn rfl (by decide)))
  have hKy45 : okF Fvy27 := by unfold okF; omega
  have hMy46 : okMr cs ad gvy27 i (x + 1) Fvy27 r := okMr.upd hM hcvy27 hKy45 (fun f a => hFy31 f (by omega)) hgy30 (hA.mono (by omega)) (fun j a b => by
      exact Or.inl (by rw [hfvy27 _ (by omega)]; rw [egy25, va_up_ne _ _ (by omega)]))
  have h23 : Fvy27 23 = F 23 := ((hFvy27 23 (by decide)).trans (fn rfl (by decide)))
  exact z_iret C hr hlk dX10_toLoad_14 (by decide) (by decide) ⟨0, rfl, rfl, rfl, by omega, ⟨_, _, hMy46, by omega⟩, fun j j1 => by rw [hfvy27 _ (by omega)]; rw [egy25, va_up_ne _ _ (by omega)]⟩

set_option maxRecDepth 100000 in
set_option maxHeartbeats 4000000 in
theorem c_X10_toLoad (l : Launch) (D : va_G) (A : Nat → Prop) (cs : Nat → ClassId) (tt : Nat) (N : Nat) (ad : Nat → Nat) (g : Nat → va_E) (i : Nat) (hN : i + 30 ≤ N) (x : Int) (hx : 0 ≤ x ∧ x ≤ 512) (F r : Nat → Int) (hM : okMr cs ad g i x F r) (z : Int) (hz : -2147483648 ≤ z ∧ z ≤ 2147483647) : zM l yX10_toLoad cX10_toLoad 3 (some .int) ({ frames := 9, cells := 0, slots := 0, locals := 540 } : Room) D A cs tt N ad g [.ref (ad i), .int (zI (z))] (rI0 N ad fun q g' => (-2147483648 ≤ q ∧ q ≤ 2147483647) ∧ (∃ F' r' : Nat → Int, okMr cs ad g' i (x + 1) F' r' ∧ F' 23 = F 23) ∧ ∀ j, j < i ∨ i + 30 ≤ j → g' j = g j) := by
  by_cases h9 : 0 ≤ z ∧ z ≤ 3
  · obtain ⟨n, rfl⟩ : ∃ n : Nat, z = (n : Int) := ⟨z.toNat, by omega⟩
    exact c_X10_toLoad_a l D A cs tt N ad g i hN x hx F r hM n (by omega) 
  · exact c_X10_toLoad_b l D A cs tt N ad g i hN x hx F r hM z hz (by omega) 

set_option maxRecDepth 100000 in
set_option maxHeartbeats 4000000 in
theorem c_X10_steepest_a (l : Launch) (D : va_G) (A : Nat → Prop) (cs : Nat → ClassId) (tt : Nat) (N : Nat) (ad : Nat → Nat) (g : Nat → va_E) (i : Nat) (hN : i + 30 ≤ N) (x : Int) (hx : 0 ≤ x ∧ x ≤ 512) (F r : Nat → Int) (hM : okMr cs ad g i x F r) (n : Nat) (hn4 : n < 4) : zM l yX10_steepest cX10_steepest 3 (some .int) ({ frames := 9, cells := 0, slots := 0, locals := 540 } : Room) D A cs tt N ad g [.ref (ad i), .int (zI ((n : Int)))] (rI0 N ad fun q g' => (-2147483648 ≤ q ∧ q ≤ 2147483647) ∧ (∃ F' r' : Nat → Int, okMr cs ad g' i (x + 1) F' r' ∧ F' 23 = F 23) ∧ ∀ j, j < i ∨ i + 30 ≤ j → g' j = g j) := by
  obtain ⟨hg, ⟨⟨e13, e14, e25, e27, e29⟩, k15, k16, k17, k18, k19, k20, k23⟩, hRD, hTx, hA, st, op, ai, fa, mu, tb, ns, nh, nd, rf, pi, tp, te, ki, li, ok1, ok2, fo, dd, dps, ⟨ha1, ha2, ha3, ha4, ha5, ha6, ha7, ha8, ha9, ha10, ha11, ha12, ha13, ha14, ha15, ha24, ha25, ha26, ha27, ha28, ha29⟩, hEv, hPt, hns, htp⟩ := id hM
  obtain ⟨-, hop, hai, hfa, hT, hT1⟩ := id hEv
  have hay1 : zAt ad (i) (ad i) := rfl
  have hay2 : zAt ad (i + 1) (ad (i + 1)) := rfl
  have hay3 : zAt ad (i + 2) (ad (i + 2)) := rfl
  have hay4 : zAt ad (i + 3) (ad (i + 3)) := rfl
  have hay5 : zAt ad (i + 4) (ad (i + 4)) := rfl
  have hay6 : zAt ad (i + 5) (ad (i + 5)) := rfl
  have hay7 : zAt ad (i + 6) (ad (i + 6)) := rfl
  have hay8 : zAt ad (i + 7) (ad (i + 7)) := rfl
  have hay9 : zAt ad (i + 8) (ad (i + 8)) := rfl
  have hay10 : zAt ad (i + 9) (ad (i + 9)) := rfl
  have hay11 : zAt ad (i + 10) (ad (i + 10)) := rfl
  have hay12 : zAt ad (i + 11) (ad (i + 11)) := rfl
  have hay13 : zAt ad (i + 12) (ad (i + 12)) := rfl
  have hay14 : zAt ad (i + 13) (ad (i + 13)) := rfl
  have hay15 : zAt ad (i + 14) (ad (i + 14)) := rfl
  have hay16 : zAt ad (i + 15) (ad (i + 15)) := rfl
  have hay17 : zAt ad (i + 24) (ad (i + 24)) := rfl
  have hay18 : zAt ad (i + 25) (ad (i + 25)) := rfl
  have hay19 : zAt ad (i + 26) (ad (i + 26)) := rfl
  have hay20 : zAt ad (i + 27) (ad (i + 27)) := rfl
  have hay21 : zAt ad (i + 28) (ad (i + 28)) := rfl
  have hay22 : zAt ad (i + 29) (ad (i + 29)) := rfl
  obtain ⟨⟨hsyy23, htyy23, hnyy23, hpyy23⟩, hlyy23⟩ := okA.at0 hA
  simp only [Nat.zero_add] at hsyy23 hnyy23 hpyy23
  have hmn : ∀ s, s < 4 → 0 ≤ r (6 + 86 * s) ∧ r (6 + 86 * s) ≤ 12 := fun s hs => (hsyy23 s hs).1
  have h5 : 0 ≤ r 5 ∧ r 5 ≤ 6 := hpyy23
  refine z_of (by decide) (Nat.le_of_ble_eq_true rfl) ?_
  intro pZ eZ sZ mZ below meth cZ C hr hlk hnm
  refine z_lv (lv' := [(0, .ref (ad i)), (1, .int (zI ((n : Int))))]) [0, 1] rfl ?_
  refine z_aload_n C 0 dX10_steepest_0 rfl ?_
  refine z_iconst (z := 0) C dX10_steepest_1 rfl ?_
  refine z_put (fs' := mF ad (i) (uZ F 12 (0))) C (by omega) hay1 hg tyX10 tyX10_ok nmX10 rfl inA_X10 12 (by decide) q_1471 rfl rfl rfl rfl (Nat.le_of_ble_eq_true rfl) rfl dX10_steepest_2 (fun gy24 egy25 => ?_)
  have hgy26 := up_s egy25
  refine z_aload_n C 0 dX10_steepest_5 rfl ?_
  refine z_iload_n C 1 dX10_steepest_6 rfl ?_
  have h13vy27 : (uZ F 12 (0)) 13 = F 13 := (fn rfl (by decide))
  have hey28 : (uZ F 12 (0)) 12 = 0 := (uZ_s _ _ _)
  refine z_cV (As := [.int (zI ((n : Int)))]) (rest := []) (ci := 12) C (c_X10_isSlope l D A cs tt N ad _ i hN _ hgy26 (by omega) (by omega) ((n : Int)) (by omega)) (by omega) hay1 hgy26 rfl rfl mv_yX10_isSlope q_1803 hd_yX10_isSlope (by decide) (Nat.le_of_ble_eq_true rfl) (by decide) dX10_steepest_7 rfl (kI0 fun vy27 gvy27 hvy27 => ?_)
  rw [h13vy27] at hvy27
  obtain ⟨hrvy27, ⟨Fvy27, hcvy27, htvy27, hFvy27⟩, hfvy27⟩ := hvy27
  rcases (show vy27 = 1 ∨ vy27 = 0 by omega) with rfl | rfl
  · have hxvy27 := hrvy27.2 rfl
    refine z_if_ne (tgt := 15) C dX10_steepest_10 (by decide) (by omega) (fun _ => ?_) (fun h => absurd h (by omega))
    refine z_bipush (z := 90) C dX10_steepest_15 (by decide) ?_
    refine z_istore_n (lv' := [(2, .int (zI (90))), (0, .ref (ad i)), (1, .int (zI ((n : Int))))]) C dX10_steepest_17 rfl (by decide) rfl ?_
    have lp1 : ∀ (n9 : Nat) (nn : Int) (g1 : Nat → va_E), (nn).toNat = n9 → (gvy27 = g1) → (0 ≤ nn ∧ nn ≤ 90) → zV pZ l eZ ({ frames := 9, cells := 0, slots := 0, locals := 540 } : Room) sZ mZ ([.ref (ad i), .int (zI ((n : Int)))] : List Value).toArray below meth cZ (MQ below (zPost D A (rI0 N ad fun q g' => (-2147483648 ≤ q ∧ q ≤ 2147483647) ∧ (∃ F' r' : Nat → Int, okMr cs ad g' i (x + 1) F' r' ∧ F' 23 = F 23) ∧ ∀ j, j < i ∨ i + 30 ≤ j → g' j = g j)) ([.ref (ad i), .int (zI ((n : Int)))] : List Value).toArray sZ ({ frames := 9, cells := 0, slots := 0, locals := 540 } : Room).cells ({ frames := 9, cells := 0, slots := 0, locals := 540 } : Room).slots A) D A 3 (N) ad g1 (0) (0) 18 [(0, .ref (ad i)), (1, .int (zI ((n : Int)))), (2, .int (zI (nn)))] [] := by
      intro n9
      induction n9 using Nat.strongRecOn with
      | ind n9 ih_lp1 =>
        intro nn g1 hm9 hgz hvlp10
        subst hgz
        refine z_aload_n C 0 dX10_steepest_18 rfl ?_
        refine z_iconst (z := 0) C dX10_steepest_19 rfl ?_
        refine z_iload_n C 1 dX10_steepest_20 rfl ?_
        refine z_iconst (z := 0) C dX10_steepest_21 rfl ?_
        refine z_iload_n C 2 dX10_steepest_22 rfl ?_
        obtain ⟨py29, hpy29⟩ : ∃ p9 : Nat, 0 + 6 + 86 * n = p9 := ⟨_, rfl⟩
        have hgy30 := up_n egy25 ha1 (ne_o (i := i) (c := 1) (d := 0) rfl)
        have hgy31 := (hfvy27 (i + 1) (ne_o (i := i) (c := 1) (d := 0) rfl)).trans hgy30
        have hgy33 := up_n egy25 ha7 (ne_o (i := i) (c := 7) (d := 0) rfl)
        have hgy34 := (hfvy27 (i + 7) (ne_o (i := i) (c := 7) (d := 0) rfl)).trans hgy33
        have hqy35 : qS r py29 := (((okA.at0 hA).1.1 n (by omega)).of (p2 := py29) (by omega)).q (by have hb9 := mBb (t := r 0 + x) (by omega); omega)
        have hmky36 := hqy35.1
        refine z_cV (As := [.int (zI (0)), .int (zI ((n : Int))), .int (zI (0)), .int (zI (nn))]) (rest := []) (ci := 12) C (c_X10_leastRatioBy l D A cs tt N ad _ i hN _ hcvy27 _ hgy31 _ hgy34 0 n py29 hpy29 (by omega) (by omega) hqy35 (0) (by omega) (nn) (by omega)) (by omega) hay1 hcvy27 rfl rfl mv_yX10_leastRatioBy q_1764 hd_yX10_leastRatioBy (by decide) (Nat.le_of_ble_eq_true rfl) (by decide) dX10_steepest_23 rfl (kI0 fun vy32 gvy32 hvy32 => ?_)
        obtain ⟨hvy32, hzvy32, rfl⟩ := hvy32
        refine z_bipush (z := 100) C dX10_steepest_26 (by decide) ?_
        refine z_icmp_ge (tgt := 37) C dX10_steepest_28 (by decide) (by omega) (by omega) (fun hby37 => ?_) (fun hby37 => ?_)
        · refine z_iload_n C 2 dX10_steepest_37 rfl ?_
          have hFy38 : ∀ f, f ≠ 12 → Fvy27 f = F f := fun f n12 => ((hFvy27 f n12).trans ((uZ_n _ _ n12).trans rfl))
          have hey39 : Fvy27 13 = F 13 := ((hFvy27 13 (by decide)).trans (fn rfl (by decide)))
          have hey40 : Fvy27 14 = F 14 := ((hFvy27 14 (by decide)).trans (fn rfl (by decide)))
          have hey41 : Fvy27 15 = F 15 := ((hFvy27 15 (by decide)).trans (fn rfl (by decide)))
          have hey42 : Fvy27 16 = F 16 := ((hFvy27 16 (by decide)).trans (fn rfl (by decide)))
          have hey43 : Fvy27 17 = F 17 := ((hFvy27 17 (by decide)).trans (fn rfl (by decide)))
          have hey44 : Fvy27 18 = F 18 := ((hFvy27 18 (by decide)).trans (fn rfl (by decide)))
          have hey45 : Fvy27 19 = F 19 := ((hFvy27 19 (by decide)).trans (fn rfl (by decide)))
          have hey46 : Fvy27 20 = F 20 := ((hFvy27 20 (by decide)).trans (fn rfl (by decide)))
          have hey47 : Fvy27 23 = F 23 := ((hFvy27 23 (by decide)).trans (fn rfl (by decide)))
          have hey48 : Fvy27 25 = F 25 := ((hFvy27 25 (by decide)).trans (fn rfl (by decide)))
          have hey49 : Fvy27 27 = F 27 := ((hFvy27 27 (by decide)).trans (fn rfl (by decide)))
          have hey50 : Fvy27 28 = F 28 := ((hFvy27 28 (by decide)).trans (fn rfl (by decide)))
          have hey51 : Fvy27 29 = F 29 := ((hFvy27 29 (by decide)).trans (fn rfl (by decide)))
          have hKy52 : okF Fvy27 := by unfold okF; omega
          have hMy53 : okMr cs ad gvy27 i (x + 1) Fvy27 r := okMr.upd hM hcvy27 hKy52 (fun f a => hFy38 f (by omega)) hgy31 (hA.mono (by omega)) (fun j a b => by
              exact Or.inl (by rw [hfvy27 _ (by omega)]; rw [egy25, va_up_ne _ _ (by omega)]))
          have h23 : Fvy27 23 = F 23 := ((hFvy27 23 (by decide)).trans (fn rfl (by decide)))
          exact z_iret C hr hlk dX10_steepest_38 (by decide) (by decide) ⟨nn, rfl, rfl, rfl, by omega, ⟨_, _, hMy53, by omega⟩, fun j j1 => by rw [hfvy27 _ (by omega)]; rw [egy25, va_up_ne _ _ (by omega)]⟩
        · refine z_iinc (z := nn - 1) (lv' := [(2, .int (zI (nn - 1))), (0, .ref (ad i)), (1, .int (zI ((n : Int))))]) (j := 2) C dX10_steepest_31 rfl (congrArg zI (by omega)) (by decide) rfl ?_
          refine z_goto (tgt := 18) C dX10_steepest_34 (by decide) ?_
          refine z_lv (lv' := [(0, .ref (ad i)), (1, .int (zI ((n : Int)))), (2, .int (zI (nn - 1)))]) [1, 2, 0] rfl ?_
          exact ih_lp1 _ (by omega) (nn - 1) _ rfl rfl (by omega)
    refine z_lv (lv' := [(0, .ref (ad i)), (1, .int (zI ((n : Int)))), (2, .int (zI (90)))]) [1, 2, 0] rfl ?_
    exact lp1 _ (90) _ rfl rfl (by omega)
  · refine z_if_ne (tgt := 15) C dX10_steepest_10 (by decide) (by omega) (fun h => absurd h (by omega)) (fun _ => ?_)
    refine z_iconst (z := 0) C dX10_steepest_13 rfl ?_
    have hgy54 := up_n egy25 ha1 (ne_o (i := i) (c := 1) (d := 0) rfl)
    have hgy55 := (hfvy27 (i + 1) (ne_o (i := i) (c := 1) (d := 0) rfl)).trans hgy54
    have hFy56 : ∀ f, f ≠ 12 → Fvy27 f = F f := fun f n12 => ((hFvy27 f n12).trans ((uZ_n _ _ n12).trans rfl))
    have hey57 : Fvy27 13 = F 13 := ((hFvy27 13 (by decide)).trans (fn rfl (by decide)))
    have hey58 : Fvy27 14 = F 14 := ((hFvy27 14 (by decide)).trans (fn rfl (by decide)))
    have hey59 : Fvy27 15 = F 15 := ((hFvy27 15 (by decide)).trans (fn rfl (by decide)))
    have hey60 : Fvy27 16 = F 16 := ((hFvy27 16 (by decide)).trans (fn rfl (by decide)))
    have hey61 : Fvy27 17 = F 17 := ((hFvy27 17 (by decide)).trans (fn rfl (by decide)))
    have hey62 : Fvy27 18 = F 18 := ((hFvy27 18 (by decide)).trans (fn rfl (by decide)))
    have hey63 : Fvy27 19 = F 19 := ((hFvy27 19 (by decide)).trans (fn rfl (by decide)))
    have hey64 : Fvy27 20 = F 20 := ((hFvy27 20 (by decide)).trans (fn rfl (by decide)))
    have hey65 : Fvy27 23 = F 23 := ((hFvy27 23 (by decide)).trans (fn rfl (by decide)))
    have hey66 : Fvy27 25 = F 25 := ((hFvy27 25 (by decide)).trans (fn rfl (by decide)))
    have hey67 : Fvy27 27 = F 27 := ((hFvy27 27 (by decide)).trans (fn rfl (by decide)))
    have hey68 : Fvy27 28 = F 28 := ((hFvy27 28 (by decide)).trans (fn rfl (by decide)))
    have hey69 : Fvy27 29 = F 29 := ((hFvy27 29 (by decide)).trans (fn rfl (by decide)))
    have hKy70 : okF Fvy27 := by unfold okF; omega
    have hMy71 : okMr cs ad gvy27 i (x + 1) Fvy27 r := okMr.upd hM hcvy27 hKy70 (fun f a => hFy56 f (by omega)) hgy55 (hA.mono (by omega)) (fun j a b => by
        exact Or.inl (by rw [hfvy27 _ (by omega)]; rw [egy25, va_up_ne _ _ (by omega)]))
    have h23 : Fvy27 23 = F 23 := ((hFvy27 23 (by decide)).trans (fn rfl (by decide)))
    exact z_iret C hr hlk dX10_steepest_14 (by decide) (by decide) ⟨0, rfl, rfl, rfl, by omega, ⟨_, _, hMy71, by omega⟩, fun j j1 => by rw [hfvy27 _ (by omega)]; rw [egy25, va_up_ne _ _ (by omega)]⟩

set_option maxRecDepth 100000 in
set_option maxHeartbeats 4000000 in
theorem c_X10_steepest_b (l : Launch) (D : va_G) (A : Nat → Prop) (cs : Nat → ClassId) (tt : Nat) (N : Nat) (ad : Nat → Nat) (g : Nat → va_E) (i : Nat) (hN : i + 30 ≤ N) (x : Int) (hx : 0 ≤ x ∧ x ≤ 512) (F r : Nat → Int) (hM : okMr cs ad g i x F r) (z : Int) (hz : -2147483648 ≤ z ∧ z ≤ 2147483647) (hzo : z < 0 ∨ 3 < z) : zM l yX10_steepest cX10_steepest 3 (some .int) ({ frames := 9, cells := 0, slots := 0, locals := 540 } : Room) D A cs tt N ad g [.ref (ad i), .int (zI (z))] (rI0 N ad fun q g' => (-2147483648 ≤ q ∧ q ≤ 2147483647) ∧ (∃ F' r' : Nat → Int, okMr cs ad g' i (x + 1) F' r' ∧ F' 23 = F 23) ∧ ∀ j, j < i ∨ i + 30 ≤ j → g' j = g j) := by
  obtain ⟨hg, ⟨⟨e13, e14, e25, e27, e29⟩, k15, k16, k17, k18, k19, k20, k23⟩, hRD, hTx, hA, st, op, ai, fa, mu, tb, ns, nh, nd, rf, pi, tp, te, ki, li, ok1, ok2, fo, dd, dps, ⟨ha1, ha2, ha3, ha4, ha5, ha6, ha7, ha8, ha9, ha10, ha11, ha12, ha13, ha14, ha15, ha24, ha25, ha26, ha27, ha28, ha29⟩, hEv, hPt, hns, htp⟩ := id hM
  obtain ⟨-, hop, hai, hfa, hT, hT1⟩ := id hEv
  have hay1 : zAt ad (i) (ad i) := rfl
  have hay2 : zAt ad (i + 1) (ad (i + 1)) := rfl
  have hay3 : zAt ad (i + 2) (ad (i + 2)) := rfl
  have hay4 : zAt ad (i + 3) (ad (i + 3)) := rfl
  have hay5 : zAt ad (i + 4) (ad (i + 4)) := rfl
  have hay6 : zAt ad (i + 5) (ad (i + 5)) := rfl
  have hay7 : zAt ad (i + 6) (ad (i + 6)) := rfl
  have hay8 : zAt ad (i + 7) (ad (i + 7)) := rfl
  have hay9 : zAt ad (i + 8) (ad (i + 8)) := rfl
  have hay10 : zAt ad (i + 9) (ad (i + 9)) := rfl
  have hay11 : zAt ad (i + 10) (ad (i + 10)) := rfl
  have hay12 : zAt ad (i + 11) (ad (i + 11)) := rfl
  have hay13 : zAt ad (i + 12) (ad (i + 12)) := rfl
  have hay14 : zAt ad (i + 13) (ad (i + 13)) := rfl
  have hay15 : zAt ad (i + 14) (ad (i + 14)) := rfl
  have hay16 : zAt ad (i + 15) (ad (i + 15)) := rfl
  have hay17 : zAt ad (i + 24) (ad (i + 24)) := rfl
  have hay18 : zAt ad (i + 25) (ad (i + 25)) := rfl
  have hay19 : zAt ad (i + 26) (ad (i + 26)) := rfl
  have hay20 : zAt ad (i + 27) (ad (i + 27)) := rfl
  have hay21 : zAt ad (i + 28) (ad (i + 28)) := rfl
  have hay22 : zAt ad (i + 29) (ad (i + 29)) := rfl
  obtain ⟨⟨hsyy23, htyy23, hnyy23, hpyy23⟩, hlyy23⟩ := okA.at0 hA
  simp only [Nat.zero_add] at hsyy23 hnyy23 hpyy23
  have hmn : ∀ s, s < 4 → 0 ≤ r (6 + 86 * s) ∧ r (6 + 86 * s) ≤ 12 := fun s hs => (hsyy23 s hs).1
  have h5 : 0 ≤ r 5 ∧ r 5 ≤ 6 := hpyy23
  refine z_of (by decide) (Nat.le_of_ble_eq_true rfl) ?_
  intro pZ eZ sZ mZ below meth cZ C hr hlk hnm
  refine z_lv (lv' := [(0, .ref (ad i)), (1, .int (zI (z)))]) [0, 1] rfl ?_
  refine z_aload_n C 0 dX10_steepest_0 rfl ?_
  refine z_iconst (z := 0) C dX10_steepest_1 rfl ?_
  refine z_put (fs' := mF ad (i) (uZ F 12 (0))) C (by omega) hay1 hg tyX10 tyX10_ok nmX10 rfl inA_X10 12 (by decide) q_1471 rfl rfl rfl rfl (Nat.le_of_ble_eq_true rfl) rfl dX10_steepest_2 (fun gy24 egy25 => ?_)
  have hgy26 := up_s egy25
  refine z_aload_n C 0 dX10_steepest_5 rfl ?_
  refine z_iload_n C 1 dX10_steepest_6 rfl ?_
  have h13vy27 : (uZ F 12 (0)) 13 = F 13 := (fn rfl (by decide))
  have hey28 : (uZ F 12 (0)) 12 = 0 := (uZ_s _ _ _)
  refine z_cV (As := [.int (zI (z))]) (rest := []) (ci := 12) C (c_X10_isSlope l D A cs tt N ad _ i hN _ hgy26 (by omega) (by omega) (z) (by omega)) (by omega) hay1 hgy26 rfl rfl mv_yX10_isSlope q_1803 hd_yX10_isSlope (by decide) (Nat.le_of_ble_eq_true rfl) (by decide) dX10_steepest_7 rfl (kI0 fun vy27 gvy27 hvy27 => ?_)
  rw [h13vy27] at hvy27
  obtain ⟨hrvy27, ⟨Fvy27, hcvy27, htvy27, hFvy27⟩, hfvy27⟩ := hvy27
  obtain rfl : vy27 = 0 := by omega
  refine z_if_ne (tgt := 15) C dX10_steepest_10 (by decide) (by omega) (fun h => absurd h (by omega)) (fun _ => ?_)
  refine z_iconst (z := 0) C dX10_steepest_13 rfl ?_
  have hgy29 := up_n egy25 ha1 (ne_o (i := i) (c := 1) (d := 0) rfl)
  have hgy30 := (hfvy27 (i + 1) (ne_o (i := i) (c := 1) (d := 0) rfl)).trans hgy29
  have hFy31 : ∀ f, f ≠ 12 → Fvy27 f = F f := fun f n12 => ((hFvy27 f n12).trans ((uZ_n _ _ n12).trans rfl))
  have hey32 : Fvy27 13 = F 13 := ((hFvy27 13 (by decide)).trans (fn rfl (by decide)))
  have hey33 : Fvy27 14 = F 14 := ((hFvy27 14 (by decide)).trans (fn rfl (by decide)))
  have hey34 : Fvy27 15 = F 15 := ((hFvy27 15 (by decide)).trans (fn rfl (by decide)))
  have hey35 : Fvy27 16 = F 16 := ((hFvy27 16 (by decide)).trans (fn rfl (by decide)))
  have hey36 : Fvy27 17 = F 17 := ((hFvy27 17 (by decide)).trans (fn rfl (by decide)))
  have hey37 : Fvy27 18 = F 18 := ((hFvy27 18 (by decide)).trans (fn rfl (by decide)))
  have hey38 : Fvy27 19 = F 19 := ((hFvy27 19 (by decide)).trans (fn rfl (by decide)))
  have hey39 : Fvy27 20 = F 20 := ((hFvy27 20 (by decide)).trans (fn rfl (by decide)))
  have hey40 : Fvy27 23 = F 23 := ((hFvy27 23 (by decide)).trans (fn rfl (by decide)))
  have hey41 : Fvy27 25 = F 25 := ((hFvy27 25 (by decide)).trans (fn rfl (by decide)))
  have hey42 : Fvy27 27 = F 27 := ((hFvy27 27 (by decide)).trans (fn rfl (by decide)))
  have hey43 : Fvy27 28 = F 28 := ((hFvy27 28 (by decide)).trans (fn rfl (by decide)))
  have hey44 : Fvy27 29 = F 29 := ((hFvy27 29 (by decide)).trans (fn rfl (by decide)))
  have hKy45 : okF Fvy27 := by unfold okF; omega
  have hMy46 : okMr cs ad gvy27 i (x + 1) Fvy27 r := okMr.upd hM hcvy27 hKy45 (fun f a => hFy31 f (by omega)) hgy30 (hA.mono (by omega)) (fun j a b => by
      exact Or.inl (by rw [hfvy27 _ (by omega)]; rw [egy25, va_up_ne _ _ (by omega)]))
  have h23 : Fvy27 23 = F 23 := ((hFvy27 23 (by decide)).trans (fn rfl (by decide)))
  exact z_iret C hr hlk dX10_steepest_14 (by decide) (by decide) ⟨0, rfl, rfl, rfl, by omega, ⟨_, _, hMy46, by omega⟩, fun j j1 => by rw [hfvy27 _ (by omega)]; rw [egy25, va_up_ne _ _ (by omega)]⟩

set_option maxRecDepth 100000 in
set_option maxHeartbeats 4000000 in
theorem c_X10_steepest (l : Launch) (D : va_G) (A : Nat → Prop) (cs : Nat → ClassId) (tt : Nat) (N : Nat) (ad : Nat → Nat) (g : Nat → va_E) (i : Nat) (hN : i + 30 ≤ N) (x : Int) (hx : 0 ≤ x ∧ x ≤ 512) (F r : Nat → Int) (hM : okMr cs ad g i x F r) (z : Int) (hz : -2147483648 ≤ z ∧ z ≤ 2147483647) : zM l yX10_steepest cX10_steepest 3 (some .int) ({ frames := 9, cells := 0, slots := 0, locals := 540 } : Room) D A cs tt N ad g [.ref (ad i), .int (zI (z))] (rI0 N ad fun q g' => (-2147483648 ≤ q ∧ q ≤ 2147483647) ∧ (∃ F' r' : Nat → Int, okMr cs ad g' i (x + 1) F' r' ∧ F' 23 = F 23) ∧ ∀ j, j < i ∨ i + 30 ≤ j → g' j = g j) := by
  by_cases h9 : 0 ≤ z ∧ z ≤ 3
  · obtain ⟨n, rfl⟩ : ∃ n : Nat, z = (n : Int) := ⟨z.toNat, by omega⟩
    exact c_X10_steepest_a l D A cs tt N ad g i hN x hx F r hM n (by omega) 
  · exact c_X10_steepest_b l D A cs tt N ad g i hN x hx F r hM z hz (by omega) 

set_option maxRecDepth 100000 in
set_option maxHeartbeats 4000000 in
theorem c_X10_hours (l : Launch) (D : va_G) (A : Nat → Prop) (cs : Nat → ClassId) (tt : Nat) (N : Nat) (ad : Nat → Nat) (g : Nat → va_E) (i : Nat) (hN : i + 30 ≤ N) (x : Int) (hx : 0 ≤ x ∧ x ≤ 512) (F r : Nat → Int) (hM : okMr cs ad g i x F r) (z : Int) (hz : -2147483648 ≤ z ∧ z ≤ 2147483647) : zM l yX10_hours cX10_hours 2 (some .int) ({ frames := 10, cells := 0, slots := 0, locals := 600 } : Room) D A cs tt N ad g [.ref (ad i), .int (zI (z))] (rI0 N ad fun q g' => (-2147483648 ≤ q ∧ q ≤ 2147483647) ∧ (∃ F' r' : Nat → Int, okMr cs ad g' i (x + 1) F' r' ∧ F' 23 = F 23) ∧ ∀ j, j < i ∨ i + 30 ≤ j → g' j = g j) := by
  obtain ⟨hg, ⟨⟨e13, e14, e25, e27, e29⟩, k15, k16, k17, k18, k19, k20, k23⟩, hRD, hTx, hA, st, op, ai, fa, mu, tb, ns, nh, nd, rf, pi, tp, te, ki, li, ok1, ok2, fo, dd, dps, ⟨ha1, ha2, ha3, ha4, ha5, ha6, ha7, ha8, ha9, ha10, ha11, ha12, ha13, ha14, ha15, ha24, ha25, ha26, ha27, ha28, ha29⟩, hEv, hPt, hns, htp⟩ := id hM
  obtain ⟨-, hop, hai, hfa, hT, hT1⟩ := id hEv
  have hay1 : zAt ad (i) (ad i) := rfl
  have hay2 : zAt ad (i + 1) (ad (i + 1)) := rfl
  have hay3 : zAt ad (i + 2) (ad (i + 2)) := rfl
  have hay4 : zAt ad (i + 3) (ad (i + 3)) := rfl
  have hay5 : zAt ad (i + 4) (ad (i + 4)) := rfl
  have hay6 : zAt ad (i + 5) (ad (i + 5)) := rfl
  have hay7 : zAt ad (i + 6) (ad (i + 6)) := rfl
  have hay8 : zAt ad (i + 7) (ad (i + 7)) := rfl
  have hay9 : zAt ad (i + 8) (ad (i + 8)) := rfl
  have hay10 : zAt ad (i + 9) (ad (i + 9)) := rfl
  have hay11 : zAt ad (i + 10) (ad (i + 10)) := rfl
  have hay12 : zAt ad (i + 11) (ad (i + 11)) := rfl
  have hay13 : zAt ad (i + 12) (ad (i + 12)) := rfl
  have hay14 : zAt ad (i + 13) (ad (i + 13)) := rfl
  have hay15 : zAt ad (i + 14) (ad (i + 14)) := rfl
  have hay16 : zAt ad (i + 15) (ad (i + 15)) := rfl
  have hay17 : zAt ad (i + 24) (ad (i + 24)) := rfl
  have hay18 : zAt ad (i + 25) (ad (i + 25)) := rfl
  have hay19 : zAt ad (i + 26) (ad (i + 26)) := rfl
  have hay20 : zAt ad (i + 27) (ad (i + 27)) := rfl
  have hay21 : zAt ad (i + 28) (ad (i + 28)) := rfl
  have hay22 : zAt ad (i + 29) (ad (i + 29)) := rfl
  obtain ⟨⟨hsyy23, htyy23, hnyy23, hpyy23⟩, hlyy23⟩ := okA.at0 hA
  simp only [Nat.zero_add] at hsyy23 hnyy23 hpyy23
  have hmn : ∀ s, s < 4 → 0 ≤ r (6 + 86 * s) ∧ r (6 + 86 * s) ≤ 12 := fun s hs => (hsyy23 s hs).1
  have h5 : 0 ≤ r 5 ∧ r 5 ≤ 6 := hpyy23
  refine z_of (by decide) (Nat.le_of_ble_eq_true rfl) ?_
  intro pZ eZ sZ mZ below meth cZ C hr hlk hnm
  refine z_lv (lv' := [(0, .ref (ad i)), (1, .int (zI (z)))]) [0, 1] rfl ?_
  refine z_aload_n C 0 dX10_hours_0 rfl ?_
  refine z_iconst (z := 0) C dX10_hours_1 rfl ?_
  refine z_put (fs' := mF ad (i) (uZ F 12 (0))) C (by omega) hay1 hg tyX10 tyX10_ok nmX10 rfl inA_X10 12 (by decide) q_1471 rfl rfl rfl rfl (Nat.le_of_ble_eq_true rfl) rfl dX10_hours_2 (fun gy24 egy25 => ?_)
  have hgy26 := up_s egy25
  refine z_iload_n C 1 dX10_hours_5 rfl ?_
  refine z_iconst (z := 1) C dX10_hours_6 rfl ?_
  refine z_bipush (z := 24) C dX10_hours_7 (by decide) ?_
  refine z_cS (As := [.int (zI (z)), .int (zI (1)), .int (zI (24))]) (rest := []) C (c_X10_within l D A cs tt N ad _ (z) (by omega) (1) (by omega) (24) (by omega)) ms_yX10_within q_1686 hd_yX10_within (by decide) (Nat.le_of_ble_eq_true rfl) (by decide) dX10_hours_9 rfl (kI0 fun vy27 gvy27 hvy27 => ?_)
  obtain ⟨hvy27, rfl⟩ := hvy27
  rcases hvy27 with ⟨rfl, hxvy27⟩ | ⟨rfl, hxvy27⟩
  · refine z_if_eq (tgt := 29) C dX10_hours_12 (by decide) (by omega) (fun h => absurd h (by omega)) (fun _ => ?_)
    refine z_aload_n C 0 dX10_hours_15 rfl ?_
    refine z_get (v := .ref (ad (i + 1))) C (by omega) hay1 hgy26 rfl inA_X10 0 (by decide) q_1459 rfl rfl dX10_hours_16 ?_
    refine z_iconst (z := 0) C dX10_hours_19 rfl ?_
    have hgy28 := up_n egy25 ha1 (ne_o (i := i) (c := 1) (d := 0) rfl)
    refine z_iald C (by omega) hay2 hgy28 (0) (by omega) (by omega) (by decide) dX10_hours_20 ?_
    refine z_iload_n C 1 dX10_hours_21 rfl ?_
    refine z_iadd C dX10_hours_22 ?_
    refine z_sipush (z := 2000) C dX10_hours_23 (by decide) ?_
    refine z_icmp_le (tgt := 35) C dX10_hours_26 (by decide) (by omega) (by omega) (fun hby29 => ?_) (fun hby29 => ?_)
    · refine z_aload_n C 0 dX10_hours_35 rfl ?_
      have hey31 : (uZ F 12 (0)) 15 = F 15 := (fn rfl (by decide))
      have hey32 : (uZ F 12 (0)) 16 = F 16 := (fn rfl (by decide))
      refine z_cV (As := []) (rest := []) (ci := 12) C (c_X10_keeps l D A cs tt N ad _ i hN _ hgy26 _ hgy28 (x) hA (by omega) (by omega)) (by omega) hay1 hgy26 rfl rfl mv_yX10_keeps q_1870 hd_yX10_keeps (by decide) (Nat.le_of_ble_eq_true rfl) (by decide) dX10_hours_36 rfl (kV0 fun gvy30 hvy30 => ?_)
      obtain ⟨⟨Fvy30, hcvy30, hbvy30, hFvy30⟩, ⟨rvy30, hdvy30, hAvy30, hyvy30⟩, hfvy30⟩ := hvy30
      have hk0vy30 : rvy30 0 = r 0 := hyvy30 0 (by omega)
      have hk1vy30 : rvy30 1 = r 1 := hyvy30 1 (by omega)
      have hk5vy30 : rvy30 5 = r 5 := hyvy30 5 (by omega)
      obtain ⟨⟨hsyy33, htyy33, hnyy33, hpyy33⟩, hlyy33⟩ := okA.at0 hAvy30
      simp only [Nat.zero_add] at hsyy33 hnyy33 hpyy33
      have hmn : ∀ s, s < 4 → 0 ≤ rvy30 (6 + 86 * s) ∧ rvy30 (6 + 86 * s) ≤ 12 := fun s hs => (hsyy33 s hs).1
      have h5 : 0 ≤ rvy30 5 ∧ rvy30 5 ≤ 6 := hpyy33
      refine z_aload_n C 0 dX10_hours_39 rfl ?_
      refine z_iconst (z := 0) C dX10_hours_40 rfl ?_
      refine z_iload_n C 1 dX10_hours_41 rfl ?_
      have hey35 : Fvy30 13 = F 13 := ((hFvy30 13 (by decide) (by decide)).trans (fn rfl (by decide)))
      have hey36 : Fvy30 14 = F 14 := ((hFvy30 14 (by decide) (by decide)).trans (fn rfl (by decide)))
      have hey37 : Fvy30 25 = F 25 := ((hFvy30 25 (by decide) (by decide)).trans (fn rfl (by decide)))
      have hey38 : Fvy30 27 = F 27 := ((hFvy30 27 (by decide) (by decide)).trans (fn rfl (by decide)))
      have hey39 : Fvy30 28 = F 28 := ((hFvy30 28 (by decide) (by decide)).trans (fn rfl (by decide)))
      have hey40 : Fvy30 29 = F 29 := ((hFvy30 29 (by decide) (by decide)).trans (fn rfl (by decide)))
      have hEvy34 : okEnv Fvy30 _ _ _ _ _ := ⟨by omega, hop, hai, hfa, hT, hT1⟩
      have hgy42 := up_n egy25 ha3 (ne_o (i := i) (c := 3) (d := 0) rfl)
      have hgy43 := (hfvy30 (i + 3) (ne_o (i := i) (c := 3) (d := 0) rfl) (ne_o (i := i) (c := 3) (d := 1) rfl)).trans hgy42
      have hgy44 := up_n egy25 ha4 (ne_o (i := i) (c := 4) (d := 0) rfl)
      have hgy45 := (hfvy30 (i + 4) (ne_o (i := i) (c := 4) (d := 0) rfl) (ne_o (i := i) (c := 4) (d := 1) rfl)).trans hgy44
      have hgy46 := up_n egy25 ha5 (ne_o (i := i) (c := 5) (d := 0) rfl)
      have hgy47 := (hfvy30 (i + 5) (ne_o (i := i) (c := 5) (d := 0) rfl) (ne_o (i := i) (c := 5) (d := 1) rfl)).trans hgy46
      have hgy48 := up_n egy25 ha6 (ne_o (i := i) (c := 6) (d := 0) rfl)
      have hgy49 := (hfvy30 (i + 6) (ne_o (i := i) (c := 6) (d := 0) rfl) (ne_o (i := i) (c := 6) (d := 1) rfl)).trans hgy48
      have hgy50 := up_n egy25 ha7 (ne_o (i := i) (c := 7) (d := 0) rfl)
      have hgy51 := (hfvy30 (i + 7) (ne_o (i := i) (c := 7) (d := 0) rfl) (ne_o (i := i) (c := 7) (d := 1) rfl)).trans hgy50
      have hgy52 := up_n egy25 ha14 (ne_o (i := i) (c := 14) (d := 0) rfl)
      have hgy53 := (hfvy30 (i + 14) (ne_o (i := i) (c := 14) (d := 0) rfl) (ne_o (i := i) (c := 14) (d := 1) rfl)).trans hgy52
      have hgy54 := up_n egy25 ha15 (ne_o (i := i) (c := 15) (d := 0) rfl)
      have hgy55 := (hfvy30 (i + 15) (ne_o (i := i) (c := 15) (d := 0) rfl) (ne_o (i := i) (c := 15) (d := 1) rfl)).trans hgy54
      refine z_cV (As := [.int (zI (0)), .int (zI (z))]) (rest := []) (ci := 12) C (c_X10_goes l D A cs tt N ad _ i hN _ hcvy30 _ hdvy30 _ hgy43 _ hgy45 _ hgy47 _ hgy49 _ hgy51 _ hgy53 _ hgy55 0 (by omega) hEvy34 (x) (by omega) (okA.at0 hAvy30).1 (z) (by omega) (by omega) (by omega)) (by omega) hay1 hcvy30 rfl rfl mv_yX10_goes q_1881 hd_yX10_goes (by decide) (Nat.le_of_ble_eq_true rfl) (by decide) dX10_hours_42 rfl (kV0 fun gvy41 hvy41 => ?_)
      obtain ⟨⟨rvy41, hcvy41, hwvy41, htvy41, hyvy41⟩, ⟨t4vy41, h4vy41⟩, ⟨t5vy41, h5vy41⟩, hfvy41⟩ := hvy41
      have hAy56 : okA rvy41 (x) := okA.first hAvy30 (Int.le_refl _) (fun j a => hyvy41 j (by omega)) hwvy41 (by omega)
      obtain ⟨⟨hsyy57, htyy57, hnyy57, hpyy57⟩, hlyy57⟩ := okA.at0 hAy56
      simp only [Nat.zero_add] at hsyy57 hnyy57 hpyy57
      have hmn : ∀ s, s < 4 → 0 ≤ rvy41 (6 + 86 * s) ∧ rvy41 (6 + 86 * s) ≤ 12 := fun s hs => (hsyy57 s hs).1
      have h5 : 0 ≤ rvy41 5 ∧ rvy41 5 ≤ 6 := hpyy57
      refine z_aload_n C 0 dX10_hours_45 rfl ?_
      have hgy58 := (hfvy41 (i) (ne_o (i := i) (c := 0) (d := 1) rfl) (ne_o (i := i) (c := 0) (d := 14) rfl) (ne_o (i := i) (c := 0) (d := 15) rfl)).trans hcvy30
      refine z_get (v := .ref (ad (i + 1))) C (by omega) hay1 hgy58 rfl inA_X10 0 (by decide) q_1459 rfl rfl dX10_hours_46 ?_
      refine z_iconst (z := 0) C dX10_hours_49 rfl ?_
      refine z_iald C (by omega) hay2 hcvy41 (0) (by omega) (by omega) (by decide) dX10_hours_50 ?_
      have hFy59 : ∀ f, f ≠ 12 → f ≠ 15 → f ≠ 16 → Fvy30 f = F f := fun f n12 n15 n16 => ((hFvy30 f n15 n16).trans ((uZ_n _ _ n12).trans rfl))
      have hey60 : Fvy30 13 = F 13 := ((hFvy30 13 (by decide) (by decide)).trans (fn rfl (by decide)))
      have hey61 : Fvy30 14 = F 14 := ((hFvy30 14 (by decide) (by decide)).trans (fn rfl (by decide)))
      have hey62 : Fvy30 15 = Fvy30 15 := rfl
      have hey63 : Fvy30 16 = Fvy30 16 := rfl
      have hey64 : Fvy30 17 = F 17 := ((hFvy30 17 (by decide) (by decide)).trans (fn rfl (by decide)))
      have hey65 : Fvy30 18 = F 18 := ((hFvy30 18 (by decide) (by decide)).trans (fn rfl (by decide)))
      have hey66 : Fvy30 19 = F 19 := ((hFvy30 19 (by decide) (by decide)).trans (fn rfl (by decide)))
      have hey67 : Fvy30 20 = F 20 := ((hFvy30 20 (by decide) (by decide)).trans (fn rfl (by decide)))
      have hey68 : Fvy30 23 = F 23 := ((hFvy30 23 (by decide) (by decide)).trans (fn rfl (by decide)))
      have hey69 : Fvy30 25 = F 25 := ((hFvy30 25 (by decide) (by decide)).trans (fn rfl (by decide)))
      have hey70 : Fvy30 27 = F 27 := ((hFvy30 27 (by decide) (by decide)).trans (fn rfl (by decide)))
      have hey71 : Fvy30 28 = F 28 := ((hFvy30 28 (by decide) (by decide)).trans (fn rfl (by decide)))
      have hey72 : Fvy30 29 = F 29 := ((hFvy30 29 (by decide) (by decide)).trans (fn rfl (by decide)))
      have hKy73 : okF Fvy30 := by unfold okF; omega
      have hMy74 : okMr cs ad gvy41 i (x + 1) Fvy30 rvy41 := okMr.upd hM hgy58 hKy73 (fun f a => hFy59 f (by omega) (by omega) (by omega)) hcvy41 (hAy56.mono (by omega)) (fun j a b => by
          by_cases e0 : j = i + 14
          · exact Or.inr ⟨14, _, e0, lsP.l (by decide), by rw [e0]; exact h4vy41⟩
          by_cases e1 : j = i + 15
          · exact Or.inr ⟨15, _, e1, lsP.l (by decide), by rw [e1]; exact h5vy41⟩
          exact Or.inl (by rw [hfvy41 _ (by omega) (by omega) (by omega)]; rw [hfvy30 _ (by omega) (by omega)]; rw [egy25, va_up_ne _ _ (by omega)]))
      have h23 : Fvy30 23 = F 23 := ((hFvy30 23 (by decide) (by decide)).trans (fn rfl (by decide)))
      exact z_iret C hr hlk dX10_hours_51 (by decide) (by decide) ⟨rvy41 (0), rfl, rfl, rfl, by omega, ⟨_, _, hMy74, by omega⟩, fun j j1 => by rw [hfvy41 _ (by omega) (by omega) (by omega)]; rw [hfvy30 _ (by omega) (by omega)]; rw [egy25, va_up_ne _ _ (by omega)]⟩
    · refine z_aload_n C 0 dX10_hours_29 rfl ?_
      refine z_iconst (z := 1) C dX10_hours_30 rfl ?_
      have hgy75 := up_n egy25 ha11 (ne_o (i := i) (c := 11) (d := 0) rfl)
      refine z_cV (As := [.int (zI (1))]) (rest := []) (ci := 12) C (c_X10_refuses l D A cs tt N ad _ i hN _ hgy26 _ hgy75 (1) (by omega)) (by omega) hay1 hgy26 rfl rfl mv_yX10_refuses q_1866 hd_yX10_refuses (by decide) (Nat.le_of_ble_eq_true rfl) (by decide) dX10_hours_31 rfl (kI0 fun vy76 gvy76 hvy76 => ?_)
      obtain ⟨hrvy76, ⟨tvy76, hdvy76⟩, hfvy76⟩ := hvy76
      have hgy77 := (hfvy76 (i) (ne_o (i := i) (c := 0) (d := 11) rfl)).trans hgy26
      have hgy78 := (hfvy76 (i + 1) (ne_o (i := i) (c := 1) (d := 11) rfl)).trans hgy28
      have hFy79 : ∀ f, f ≠ 12 → (uZ F 12 (0)) f = F f := fun f n12 => ((uZ_n _ _ n12).trans rfl)
      have hey80 : (uZ F 12 (0)) 13 = F 13 := (fn rfl (by decide))
      have hey81 : (uZ F 12 (0)) 14 = F 14 := (fn rfl (by decide))
      have hey82 : (uZ F 12 (0)) 15 = F 15 := (fn rfl (by decide))
      have hey83 : (uZ F 12 (0)) 16 = F 16 := (fn rfl (by decide))
      have hey84 : (uZ F 12 (0)) 17 = F 17 := (fn rfl (by decide))
      have hey85 : (uZ F 12 (0)) 18 = F 18 := (fn rfl (by decide))
      have hey86 : (uZ F 12 (0)) 19 = F 19 := (fn rfl (by decide))
      have hey87 : (uZ F 12 (0)) 20 = F 20 := (fn rfl (by decide))
      have hey88 : (uZ F 12 (0)) 23 = F 23 := (fn rfl (by decide))
      have hey89 : (uZ F 12 (0)) 25 = F 25 := (fn rfl (by decide))
      have hey90 : (uZ F 12 (0)) 27 = F 27 := (fn rfl (by decide))
      have hey91 : (uZ F 12 (0)) 28 = F 28 := (fn rfl (by decide))
      have hey92 : (uZ F 12 (0)) 29 = F 29 := (fn rfl (by decide))
      have hKy93 : okF (uZ F 12 (0)) := by unfold okF; omega
      have hMy94 : okMr cs ad gvy76 i (x + 1) (uZ F 12 (0)) r := okMr.upd hM hgy77 hKy93 (fun f a => hFy79 f (by omega)) hgy78 (hA.mono (by omega)) (fun j a b => by
          by_cases e0 : j = i + 11
          · exact Or.inr ⟨11, _, e0, lsP.l (by decide), by rw [e0]; exact hdvy76⟩
          exact Or.inl (by rw [hfvy76 _ (by omega)]; rw [egy25, va_up_ne _ _ (by omega)]))
      have h23 : (uZ F 12 (0)) 23 = F 23 := (fn rfl (by decide))
      exact z_iret C hr hlk dX10_hours_34 (by decide) (by decide) ⟨vy76, rfl, rfl, rfl, by omega, ⟨_, _, hMy94, by omega⟩, fun j j1 => by rw [hfvy76 _ (by omega)]; rw [egy25, va_up_ne _ _ (by omega)]⟩
  · refine z_if_eq (tgt := 29) C dX10_hours_12 (by decide) (by omega) (fun _ => ?_) (fun h => absurd h (by omega))
    refine z_aload_n C 0 dX10_hours_29 rfl ?_
    refine z_iconst (z := 1) C dX10_hours_30 rfl ?_
    have hgy95 := up_n egy25 ha11 (ne_o (i := i) (c := 11) (d := 0) rfl)
    refine z_cV (As := [.int (zI (1))]) (rest := []) (ci := 12) C (c_X10_refuses l D A cs tt N ad _ i hN _ hgy26 _ hgy95 (1) (by omega)) (by omega) hay1 hgy26 rfl rfl mv_yX10_refuses q_1866 hd_yX10_refuses (by decide) (Nat.le_of_ble_eq_true rfl) (by decide) dX10_hours_31 rfl (kI0 fun vy96 gvy96 hvy96 => ?_)
    obtain ⟨hrvy96, ⟨tvy96, hdvy96⟩, hfvy96⟩ := hvy96
    have hgy97 := (hfvy96 (i) (ne_o (i := i) (c := 0) (d := 11) rfl)).trans hgy26
    have hgy98 := up_n egy25 ha1 (ne_o (i := i) (c := 1) (d := 0) rfl)
    have hgy99 := (hfvy96 (i + 1) (ne_o (i := i) (c := 1) (d := 11) rfl)).trans hgy98
    have hFy100 : ∀ f, f ≠ 12 → (uZ F 12 (0)) f = F f := fun f n12 => ((uZ_n _ _ n12).trans rfl)
    have hey101 : (uZ F 12 (0)) 13 = F 13 := (fn rfl (by decide))
    have hey102 : (uZ F 12 (0)) 14 = F 14 := (fn rfl (by decide))
    have hey103 : (uZ F 12 (0)) 15 = F 15 := (fn rfl (by decide))
    have hey104 : (uZ F 12 (0)) 16 = F 16 := (fn rfl (by decide))
    have hey105 : (uZ F 12 (0)) 17 = F 17 := (fn rfl (by decide))
    have hey106 : (uZ F 12 (0)) 18 = F 18 := (fn rfl (by decide))
    have hey107 : (uZ F 12 (0)) 19 = F 19 := (fn rfl (by decide))
    have hey108 : (uZ F 12 (0)) 20 = F 20 := (fn rfl (by decide))
    have hey109 : (uZ F 12 (0)) 23 = F 23 := (fn rfl (by decide))
    have hey110 : (uZ F 12 (0)) 25 = F 25 := (fn rfl (by decide))
    have hey111 : (uZ F 12 (0)) 27 = F 27 := (fn rfl (by decide))
    have hey112 : (uZ F 12 (0)) 28 = F 28 := (fn rfl (by decide))
    have hey113 : (uZ F 12 (0)) 29 = F 29 := (fn rfl (by decide))
    have hKy114 : okF (uZ F 12 (0)) := by unfold okF; omega
    have hMy115 : okMr cs ad gvy96 i (x + 1) (uZ F 12 (0)) r := okMr.upd hM hgy97 hKy114 (fun f a => hFy100 f (by omega)) hgy99 (hA.mono (by omega)) (fun j a b => by
        by_cases e0 : j = i + 11
        · exact Or.inr ⟨11, _, e0, lsP.l (by decide), by rw [e0]; exact hdvy96⟩
        exact Or.inl (by rw [hfvy96 _ (by omega)]; rw [egy25, va_up_ne _ _ (by omega)]))
    have h23 : (uZ F 12 (0)) 23 = F 23 := (fn rfl (by decide))
    exact z_iret C hr hlk dX10_hours_34 (by decide) (by decide) ⟨vy96, rfl, rfl, rfl, by omega, ⟨_, _, hMy115, by omega⟩, fun j j1 => by rw [hfvy96 _ (by omega)]; rw [egy25, va_up_ne _ _ (by omega)]⟩

set_option maxRecDepth 100000 in
set_option maxHeartbeats 4000000 in
theorem c_X10_fall_a (l : Launch) (D : va_G) (A : Nat → Prop) (cs : Nat → ClassId) (tt : Nat) (N : Nat) (ad : Nat → Nat) (g : Nat → va_E) (i : Nat) (hN : i + 30 ≤ N) (x : Int) (hx : 0 ≤ x ∧ x ≤ 512) (F r : Nat → Int) (hM : okMr cs ad g i x F r) (n : Nat) (hn4 : n < 4) (z1 : Int) (hz1 : -2147483648 ≤ z1 ∧ z1 ≤ 2147483647) (z2 : Int) (hz2 : -2147483648 ≤ z2 ∧ z2 ≤ 2147483647) : zM l yX10_fall cX10_fall 4 (some .int) ({ frames := 6, cells := 0, slots := 0, locals := 360 } : Room) D A cs tt N ad g [.ref (ad i), .int (zI ((n : Int))), .int (zI (z1)), .int (zI (z2))] (rI0 N ad fun q g' => (-2147483648 ≤ q ∧ q ≤ 2147483647) ∧ (∃ F' r' : Nat → Int, okMr cs ad g' i (x + 1) F' r' ∧ F' 23 = F 23) ∧ ∀ j, j < i ∨ i + 30 ≤ j → g' j = g j) := by
  obtain ⟨hg, ⟨⟨e13, e14, e25, e27, e29⟩, k15, k16, k17, k18, k19, k20, k23⟩, hRD, hTx, hA, st, op, ai, fa, mu, tb, ns, nh, nd, rf, pi, tp, te, ki, li, ok1, ok2, fo, dd, dps, ⟨ha1, ha2, ha3, ha4, ha5, ha6, ha7, ha8, ha9, ha10, ha11, ha12, ha13, ha14, ha15, ha24, ha25, ha26, ha27, ha28, ha29⟩, hEv, hPt, hns, htp⟩ := id hM
  obtain ⟨-, hop, hai, hfa, hT, hT1⟩ := id hEv
  have hay1 : zAt ad (i) (ad i) := rfl
  have hay2 : zAt ad (i + 1) (ad (i + 1)) := rfl
  have hay3 : zAt ad (i + 2) (ad (i + 2)) := rfl
  have hay4 : zAt ad (i + 3) (ad (i + 3)) := rfl
  have hay5 : zAt ad (i + 4) (ad (i + 4)) := rfl
  have hay6 : zAt ad (i + 5) (ad (i + 5)) := rfl
  have hay7 : zAt ad (i + 6) (ad (i + 6)) := rfl
  have hay8 : zAt ad (i + 7) (ad (i + 7)) := rfl
  have hay9 : zAt ad (i + 8) (ad (i + 8)) := rfl
  have hay10 : zAt ad (i + 9) (ad (i + 9)) := rfl
  have hay11 : zAt ad (i + 10) (ad (i + 10)) := rfl
  have hay12 : zAt ad (i + 11) (ad (i + 11)) := rfl
  have hay13 : zAt ad (i + 12) (ad (i + 12)) := rfl
  have hay14 : zAt ad (i + 13) (ad (i + 13)) := rfl
  have hay15 : zAt ad (i + 14) (ad (i + 14)) := rfl
  have hay16 : zAt ad (i + 15) (ad (i + 15)) := rfl
  have hay17 : zAt ad (i + 24) (ad (i + 24)) := rfl
  have hay18 : zAt ad (i + 25) (ad (i + 25)) := rfl
  have hay19 : zAt ad (i + 26) (ad (i + 26)) := rfl
  have hay20 : zAt ad (i + 27) (ad (i + 27)) := rfl
  have hay21 : zAt ad (i + 28) (ad (i + 28)) := rfl
  have hay22 : zAt ad (i + 29) (ad (i + 29)) := rfl
  obtain ⟨⟨hsyy23, htyy23, hnyy23, hpyy23⟩, hlyy23⟩ := okA.at0 hA
  simp only [Nat.zero_add] at hsyy23 hnyy23 hpyy23
  have hmn : ∀ s, s < 4 → 0 ≤ r (6 + 86 * s) ∧ r (6 + 86 * s) ≤ 12 := fun s hs => (hsyy23 s hs).1
  have h5 : 0 ≤ r 5 ∧ r 5 ≤ 6 := hpyy23
  refine z_of (by decide) (Nat.le_of_ble_eq_true rfl) ?_
  intro pZ eZ sZ mZ below meth cZ C hr hlk hnm
  refine z_lv (lv' := [(0, .ref (ad i)), (1, .int (zI ((n : Int)))), (2, .int (zI (z1))), (3, .int (zI (z2)))]) [0, 1, 2, 3] rfl ?_
  refine z_aload_n C 0 dX10_fall_0 rfl ?_
  refine z_iconst (z := 0) C dX10_fall_1 rfl ?_
  refine z_put (fs' := mF ad (i) (uZ F 12 (0))) C (by omega) hay1 hg tyX10 tyX10_ok nmX10 rfl inA_X10 12 (by decide) q_1471 rfl rfl rfl rfl (Nat.le_of_ble_eq_true rfl) rfl dX10_fall_2 (fun gy24 egy25 => ?_)
  have hgy26 := up_s egy25
  refine z_iload_n C 1 dX10_fall_5 rfl ?_
  refine z_iconst (z := 0) C dX10_fall_6 rfl ?_
  refine z_aload_n C 0 dX10_fall_7 rfl ?_
  refine z_get (v := .int (zI (F 13))) C (by omega) hay1 hgy26 rfl inA_X10 13 (by decide) q_1472 rfl (fv (F := (uZ F 12 (0))) (f := 13) (fn rfl (by decide))) dX10_fall_8 ?_
  refine z_iconst (z := 1) C dX10_fall_11 rfl ?_
  refine z_isub C dX10_fall_12 ?_
  refine z_cS (As := [.int (zI ((n : Int))), .int (zI (0)), .int (zI ((F 13) - 1))]) (rest := []) C (c_X10_within l D A cs tt N ad _ ((n : Int)) (by omega) (0) (by omega) ((F 13) - 1) (by omega)) ms_yX10_within q_1686 hd_yX10_within (by decide) (Nat.le_of_ble_eq_true rfl) (by decide) dX10_fall_13 rfl (kI0 fun vy27 gvy27 hvy27 => ?_)
  obtain ⟨hvy27, rfl⟩ := hvy27
  rcases hvy27 with ⟨rfl, hxvy27⟩ | ⟨rfl, hxvy27⟩
  · refine z_if_eq (tgt := 56) C dX10_fall_16 (by decide) (by omega) (fun h => absurd h (by omega)) (fun _ => ?_)
    refine z_iload_n C 2 dX10_fall_19 rfl ?_
    refine z_iconst (z := 1) C dX10_fall_20 rfl ?_
    refine z_iconst (z := 3) C dX10_fall_21 rfl ?_
    refine z_cS (As := [.int (zI (z1)), .int (zI (1)), .int (zI (3))]) (rest := []) C (c_X10_within l D A cs tt N ad _ (z1) (by omega) (1) (by omega) (3) (by omega)) ms_yX10_within q_1686 hd_yX10_within (by decide) (Nat.le_of_ble_eq_true rfl) (by decide) dX10_fall_22 rfl (kI0 fun vy28 gvy28 hvy28 => ?_)
    obtain ⟨hvy28, rfl⟩ := hvy28
    rcases hvy28 with ⟨rfl, hxvy28⟩ | ⟨rfl, hxvy28⟩
    · refine z_if_eq (tgt := 56) C dX10_fall_25 (by decide) (by omega) (fun h => absurd h (by omega)) (fun _ => ?_)
      refine z_iload_n C 2 dX10_fall_28 rfl ?_
      refine z_iconst (z := 3) C dX10_fall_29 rfl ?_
      refine z_icmp_ge (tgt := 43) C dX10_fall_30 (by decide) (by omega) (by omega) (fun hby29 => ?_) (fun hby29 => ?_)
      · refine z_iload_n C 2 dX10_fall_43 rfl ?_
        refine z_iconst (z := 3) C dX10_fall_44 rfl ?_
        refine z_icmp_ne (tgt := 62) C dX10_fall_45 (by decide) (by omega) (by omega) (fun hby30 => ?_) (fun hby30 => ?_)
        · refine z_aload_n C 0 dX10_fall_62 rfl ?_
          have hgy31 := up_n egy25 ha1 (ne_o (i := i) (c := 1) (d := 0) rfl)
          have hey33 : (uZ F 12 (0)) 15 = F 15 := (fn rfl (by decide))
          have hey34 : (uZ F 12 (0)) 16 = F 16 := (fn rfl (by decide))
          refine z_cV (As := []) (rest := []) (ci := 12) C (c_X10_keeps l D A cs tt N ad _ i hN _ hgy26 _ hgy31 (x) hA (by omega) (by omega)) (by omega) hay1 hgy26 rfl rfl mv_yX10_keeps q_1870 hd_yX10_keeps (by decide) (Nat.le_of_ble_eq_true rfl) (by decide) dX10_fall_63 rfl (kV0 fun gvy32 hvy32 => ?_)
          obtain ⟨⟨Fvy32, hcvy32, hbvy32, hFvy32⟩, ⟨rvy32, hdvy32, hAvy32, hyvy32⟩, hfvy32⟩ := hvy32
          have hk0vy32 : rvy32 0 = r 0 := hyvy32 0 (by omega)
          have hk1vy32 : rvy32 1 = r 1 := hyvy32 1 (by omega)
          have hk5vy32 : rvy32 5 = r 5 := hyvy32 5 (by omega)
          obtain ⟨⟨hsyy35, htyy35, hnyy35, hpyy35⟩, hlyy35⟩ := okA.at0 hAvy32
          simp only [Nat.zero_add] at hsyy35 hnyy35 hpyy35
          have hmn : ∀ s, s < 4 → 0 ≤ rvy32 (6 + 86 * s) ∧ rvy32 (6 + 86 * s) ≤ 12 := fun s hs => (hsyy35 s hs).1
          have h5 : 0 ≤ rvy32 5 ∧ rvy32 5 ≤ 6 := hpyy35
          refine z_aload_n C 0 dX10_fall_66 rfl ?_
          refine z_iconst (z := 0) C dX10_fall_67 rfl ?_
          refine z_iload_n C 1 dX10_fall_68 rfl ?_
          refine z_iload_n C 2 dX10_fall_69 rfl ?_
          refine z_iload_n C 3 dX10_fall_70 rfl ?_
          refine z_aload_n C 0 dX10_fall_71 rfl ?_
          refine z_iconst (z := 0) C dX10_fall_72 rfl ?_
          have hey37 : Fvy32 14 = F 14 := ((hFvy32 14 (by decide) (by decide)).trans (fn rfl (by decide)))
          have hey38 : Fvy32 25 = F 25 := ((hFvy32 25 (by decide) (by decide)).trans (fn rfl (by decide)))
          have hgy39 := up_n egy25 ha4 (ne_o (i := i) (c := 4) (d := 0) rfl)
          have hgy40 := (hfvy32 (i + 4) (ne_o (i := i) (c := 4) (d := 0) rfl) (ne_o (i := i) (c := 4) (d := 1) rfl)).trans hgy39
          refine z_cV (As := [.int (zI (0))]) (rest := [.int (zI (z2)), .int (zI (z1)), .int (zI ((n : Int))), .int (zI (0)), .ref (ad i)]) (ci := 12) C (c_X10_airOf l D A cs tt N ad _ i hN _ hcvy32 _ hdvy32 _ hgy40 0 (by omega) (by omega) (by omega) (by omega) hai) (by omega) hay1 hcvy32 rfl rfl mv_yX10_airOf q_1827 hd_yX10_airOf (by decide) (Nat.le_of_ble_eq_true rfl) (by decide) dX10_fall_73 rfl (kI0 fun vy36 gvy36 hvy36 => ?_)
          obtain ⟨hvy36, rfl⟩ := hvy36
          obtain ⟨py41, hpy41⟩ : ∃ p9 : Nat, 0 + 6 + 86 * n = p9 := ⟨_, rfl⟩
          have hSy42 := ((okA.at0 hAvy32).1.1 n (by omega)).of (p2 := py41) (by omega)
          obtain ⟨b1hSy42, b2hSy42, b3hSy42, b4hSy42⟩ := mBb (t := rvy32 0 + x) (by omega)
          have hmky43 := hSy42.1
          have hcy44n := (okA.at0 hAvy32).1.2.2.1
          have hcy44t := (okA.at0 hAvy32).1.2.1
          have hwy46 : rvy32 (0 + 1) = r (0 + 1) := (hyvy32 _ (by omega)).trans (rfl)
          refine z_cV (As := [.int (zI (0)), .int (zI ((n : Int))), .int (zI (z1)), .int (zI (z2)), .int (zI (vy36))]) (rest := []) (ci := 12) C (c_X10_drops l D A cs tt N ad _ i hN _ hcvy32 _ hdvy32  0 n py41 hpy41 (by omega) (by omega) (by omega) (mB (rvy32 0 + x)) (eB (rvy32 0 + x)) (by omega) (by omega) hSy42 (by omega) (by omega) (z1) (by omega) (z2) (by omega) (vy36) (by omega)) (by omega) hay1 hcvy32 rfl rfl mv_yX10_drops q_1893 hd_yX10_drops (by decide) (Nat.le_of_ble_eq_true rfl) (by decide) dX10_fall_76 rfl (kV0 fun gvy45 hvy45 => ?_)
          obtain ⟨⟨rvy45, hcvy45, hovy45, hnvy45, hyvy45⟩, hfvy45⟩ := hvy45
          have hkvy45 := hovy45.1
          have hcy440 : rvy45 0 = rvy32 0 := (hyvy45 0 (by omega) (by omega))
          have hcy445 : rvy45 (0 + 5) = rvy32 (0 + 5) := (hyvy45 (0 + 5) (by omega) (by omega))
          have hcy446 := (okA.at0 hAvy32).1.2.2.2
          have hcy44 : okW rvy45 0 (x + 1) := okW.slope (okA.at0 hAvy32).1 (s := n) (p := py41) (by omega) (by omega) (hovy45.mono (by omega) (by omega)) hnvy45 hcy440 (by omega) (fun j a1 a2 a3 => (hyvy45 j (by omega) (by omega)))
          have hAy47 : okA rvy45 (x + 1) := okA.first hAvy32 (by omega) (fun j a => (hyvy45 j (by omega) (by omega))) hcy44 (by omega)
          obtain ⟨⟨hsyy48, htyy48, hnyy48, hpyy48⟩, hlyy48⟩ := okA.at0 hAy47
          simp only [Nat.zero_add] at hsyy48 hnyy48 hpyy48
          have hmn : ∀ s, s < 4 → 0 ≤ rvy45 (6 + 86 * s) ∧ rvy45 (6 + 86 * s) ≤ 12 := fun s hs => (hsyy48 s hs).1
          have h5 : 0 ≤ rvy45 5 ∧ rvy45 5 ≤ 6 := hpyy48
          refine z_aload_n C 0 dX10_fall_79 rfl ?_
          refine z_iconst (z := 0) C dX10_fall_80 rfl ?_
          refine z_iload_n C 1 dX10_fall_81 rfl ?_
          obtain ⟨py49, hpy49⟩ : ∃ p9 : Nat, 0 + 6 + 86 * n = p9 := ⟨_, rfl⟩
          have hmyy50 := ((okA.at0 hAy47).1.1 n (by omega)).1
          rw [hpy49] at hmyy50
          have hgy51 := (hfvy45 (i) (ne_o (i := i) (c := 0) (d := 1) rfl)).trans hcvy32
          refine z_cV (As := [.int (zI (0)), .int (zI ((n : Int)))]) (rest := []) (ci := 12) C (c_X10_many l D A cs tt N ad _ i hN _ hgy51 _ hcvy45 0 n py49 hpy49 (by omega) (by omega)) (by omega) hay1 hgy51 rfl rfl mv_yX10_many q_1733 hd_yX10_many (by decide) (Nat.le_of_ble_eq_true rfl) (by decide) dX10_fall_82 rfl (kI0 fun vy52 gvy52 hvy52 => ?_)
          obtain ⟨rfl, rfl⟩ := hvy52
          have hFy53 : ∀ f, f ≠ 12 → f ≠ 15 → f ≠ 16 → Fvy32 f = F f := fun f n12 n15 n16 => ((hFvy32 f n15 n16).trans ((uZ_n _ _ n12).trans rfl))
          have hey54 : Fvy32 13 = F 13 := ((hFvy32 13 (by decide) (by decide)).trans (fn rfl (by decide)))
          have hey55 : Fvy32 14 = F 14 := ((hFvy32 14 (by decide) (by decide)).trans (fn rfl (by decide)))
          have hey56 : Fvy32 15 = Fvy32 15 := rfl
          have hey57 : Fvy32 16 = Fvy32 16 := rfl
          have hey58 : Fvy32 17 = F 17 := ((hFvy32 17 (by decide) (by decide)).trans (fn rfl (by decide)))
          have hey59 : Fvy32 18 = F 18 := ((hFvy32 18 (by decide) (by decide)).trans (fn rfl (by decide)))
          have hey60 : Fvy32 19 = F 19 := ((hFvy32 19 (by decide) (by decide)).trans (fn rfl (by decide)))
          have hey61 : Fvy32 20 = F 20 := ((hFvy32 20 (by decide) (by decide)).trans (fn rfl (by decide)))
          have hey62 : Fvy32 23 = F 23 := ((hFvy32 23 (by decide) (by decide)).trans (fn rfl (by decide)))
          have hey63 : Fvy32 25 = F 25 := ((hFvy32 25 (by decide) (by decide)).trans (fn rfl (by decide)))
          have hey64 : Fvy32 27 = F 27 := ((hFvy32 27 (by decide) (by decide)).trans (fn rfl (by decide)))
          have hey65 : Fvy32 28 = F 28 := ((hFvy32 28 (by decide) (by decide)).trans (fn rfl (by decide)))
          have hey66 : Fvy32 29 = F 29 := ((hFvy32 29 (by decide) (by decide)).trans (fn rfl (by decide)))
          have hKy67 : okF Fvy32 := by unfold okF; omega
          have hMy68 : okMr cs ad gvy45 i (x + 1) Fvy32 rvy45 := okMr.upd hM hgy51 hKy67 (fun f a => hFy53 f (by omega) (by omega) (by omega)) hcvy45 (hAy47.mono (by omega)) (fun j a b => by
              exact Or.inl (by rw [hfvy45 _ (by omega)]; rw [hfvy32 _ (by omega) (by omega)]; rw [egy25, va_up_ne _ _ (by omega)]))
          have h23 : Fvy32 23 = F 23 := ((hFvy32 23 (by decide) (by decide)).trans (fn rfl (by decide)))
          exact z_iret C hr hlk dX10_fall_85 (by decide) (by decide) ⟨rvy45 (py49), rfl, rfl, rfl, by omega, ⟨_, _, hMy68, by omega⟩, fun j j1 => by rw [hfvy45 _ (by omega)]; rw [hfvy32 _ (by omega) (by omega)]; rw [egy25, va_up_ne _ _ (by omega)]⟩
        · refine z_aload_n C 0 dX10_fall_48 rfl ?_
          refine z_iconst (z := 0) C dX10_fall_49 rfl ?_
          have hgy69 := up_n egy25 ha1 (ne_o (i := i) (c := 1) (d := 0) rfl)
          have hey71 : (uZ F 12 (0)) 14 = F 14 := (fn rfl (by decide))
          have hey72 : (uZ F 12 (0)) 25 = F 25 := (fn rfl (by decide))
          have hgy73 := up_n egy25 ha4 (ne_o (i := i) (c := 4) (d := 0) rfl)
          refine z_cV (As := [.int (zI (0))]) (rest := []) (ci := 12) C (c_X10_airOf l D A cs tt N ad _ i hN _ hgy26 _ hgy69 _ hgy73 0 (by omega) (by omega) (by omega) (by omega) hai) (by omega) hay1 hgy26 rfl rfl mv_yX10_airOf q_1827 hd_yX10_airOf (by decide) (Nat.le_of_ble_eq_true rfl) (by decide) dX10_fall_50 rfl (kI0 fun vy70 gvy70 hvy70 => ?_)
          obtain ⟨hvy70, rfl⟩ := hvy70
          refine z_if_lt (tgt := 62) C dX10_fall_53 (by decide) (by omega) (fun hby74 => ?_) (fun hby74 => ?_)
          · refine z_aload_n C 0 dX10_fall_62 rfl ?_
            have hey76 : (uZ F 12 (0)) 15 = F 15 := (fn rfl (by decide))
            have hey77 : (uZ F 12 (0)) 16 = F 16 := (fn rfl (by decide))
            refine z_cV (As := []) (rest := []) (ci := 12) C (c_X10_keeps l D A cs tt N ad _ i hN _ hgy26 _ hgy69 (x) hA (by omega) (by omega)) (by omega) hay1 hgy26 rfl rfl mv_yX10_keeps q_1870 hd_yX10_keeps (by decide) (Nat.le_of_ble_eq_true rfl) (by decide) dX10_fall_63 rfl (kV0 fun gvy75 hvy75 => ?_)
            obtain ⟨⟨Fvy75, hcvy75, hbvy75, hFvy75⟩, ⟨rvy75, hdvy75, hAvy75, hyvy75⟩, hfvy75⟩ := hvy75
            have hk0vy75 : rvy75 0 = r 0 := hyvy75 0 (by omega)
            have hk1vy75 : rvy75 1 = r 1 := hyvy75 1 (by omega)
            have hk5vy75 : rvy75 5 = r 5 := hyvy75 5 (by omega)
            obtain ⟨⟨hsyy78, htyy78, hnyy78, hpyy78⟩, hlyy78⟩ := okA.at0 hAvy75
            simp only [Nat.zero_add] at hsyy78 hnyy78 hpyy78
            have hmn : ∀ s, s < 4 → 0 ≤ rvy75 (6 + 86 * s) ∧ rvy75 (6 + 86 * s) ≤ 12 := fun s hs => (hsyy78 s hs).1
            have h5 : 0 ≤ rvy75 5 ∧ rvy75 5 ≤ 6 := hpyy78
            refine z_aload_n C 0 dX10_fall_66 rfl ?_
            refine z_iconst (z := 0) C dX10_fall_67 rfl ?_
            refine z_iload_n C 1 dX10_fall_68 rfl ?_
            refine z_iload_n C 2 dX10_fall_69 rfl ?_
            refine z_iload_n C 3 dX10_fall_70 rfl ?_
            refine z_aload_n C 0 dX10_fall_71 rfl ?_
            refine z_iconst (z := 0) C dX10_fall_72 rfl ?_
            have hey80 : Fvy75 14 = F 14 := ((hFvy75 14 (by decide) (by decide)).trans (fn rfl (by decide)))
            have hey81 : Fvy75 25 = F 25 := ((hFvy75 25 (by decide) (by decide)).trans (fn rfl (by decide)))
            have hgy82 := (hfvy75 (i + 4) (ne_o (i := i) (c := 4) (d := 0) rfl) (ne_o (i := i) (c := 4) (d := 1) rfl)).trans hgy73
            refine z_cV (As := [.int (zI (0))]) (rest := [.int (zI (z2)), .int (zI (z1)), .int (zI ((n : Int))), .int (zI (0)), .ref (ad i)]) (ci := 12) C (c_X10_airOf l D A cs tt N ad _ i hN _ hcvy75 _ hdvy75 _ hgy82 0 (by omega) (by omega) (by omega) (by omega) hai) (by omega) hay1 hcvy75 rfl rfl mv_yX10_airOf q_1827 hd_yX10_airOf (by decide) (Nat.le_of_ble_eq_true rfl) (by decide) dX10_fall_73 rfl (kI0 fun vy79 gvy79 hvy79 => ?_)
            obtain ⟨hvy79, rfl⟩ := hvy79
            obtain ⟨py83, hpy83⟩ : ∃ p9 : Nat, 0 + 6 + 86 * n = p9 := ⟨_, rfl⟩
            have hSy84 := ((okA.at0 hAvy75).1.1 n (by omega)).of (p2 := py83) (by omega)
            obtain ⟨b1hSy84, b2hSy84, b3hSy84, b4hSy84⟩ := mBb (t := rvy75 0 + x) (by omega)
            have hmky85 := hSy84.1
            have hcy86n := (okA.at0 hAvy75).1.2.2.1
            have hcy86t := (okA.at0 hAvy75).1.2.1
            have hwy88 : rvy75 (0 + 1) = r (0 + 1) := (hyvy75 _ (by omega)).trans (rfl)
            refine z_cV (As := [.int (zI (0)), .int (zI ((n : Int))), .int (zI (z1)), .int (zI (z2)), .int (zI (vy79))]) (rest := []) (ci := 12) C (c_X10_drops l D A cs tt N ad _ i hN _ hcvy75 _ hdvy75  0 n py83 hpy83 (by omega) (by omega) (by omega) (mB (rvy75 0 + x)) (eB (rvy75 0 + x)) (by omega) (by omega) hSy84 (by omega) (by omega) (z1) (by omega) (z2) (by omega) (vy79) (by omega)) (by omega) hay1 hcvy75 rfl rfl mv_yX10_drops q_1893 hd_yX10_drops (by decide) (Nat.le_of_ble_eq_true rfl) (by decide) dX10_fall_76 rfl (kV0 fun gvy87 hvy87 => ?_)
            obtain ⟨⟨rvy87, hcvy87, hovy87, hnvy87, hyvy87⟩, hfvy87⟩ := hvy87
            have hkvy87 := hovy87.1
            have hcy860 : rvy87 0 = rvy75 0 := (hyvy87 0 (by omega) (by omega))
            have hcy865 : rvy87 (0 + 5) = rvy75 (0 + 5) := (hyvy87 (0 + 5) (by omega) (by omega))
            have hcy866 := (okA.at0 hAvy75).1.2.2.2
            have hcy86 : okW rvy87 0 (x + 1) := okW.slope (okA.at0 hAvy75).1 (s := n) (p := py83) (by omega) (by omega) (hovy87.mono (by omega) (by omega)) hnvy87 hcy860 (by omega) (fun j a1 a2 a3 => (hyvy87 j (by omega) (by omega)))
            have hAy89 : okA rvy87 (x + 1) := okA.first hAvy75 (by omega) (fun j a => (hyvy87 j (by omega) (by omega))) hcy86 (by omega)
            obtain ⟨⟨hsyy90, htyy90, hnyy90, hpyy90⟩, hlyy90⟩ := okA.at0 hAy89
            simp only [Nat.zero_add] at hsyy90 hnyy90 hpyy90
            have hmn : ∀ s, s < 4 → 0 ≤ rvy87 (6 + 86 * s) ∧ rvy87 (6 + 86 * s) ≤ 12 := fun s hs => (hsyy90 s hs).1
            have h5 : 0 ≤ rvy87 5 ∧ rvy87 5 ≤ 6 := hpyy90
            refine z_aload_n C 0 dX10_fall_79 rfl ?_
            refine z_iconst (z := 0) C dX10_fall_80 rfl ?_
            refine z_iload_n C 1 dX10_fall_81 rfl ?_
            obtain ⟨py91, hpy91⟩ : ∃ p9 : Nat, 0 + 6 + 86 * n = p9 := ⟨_, rfl⟩
            have hmyy92 := ((okA.at0 hAy89).1.1 n (by omega)).1
            rw [hpy91] at hmyy92
            have hgy93 := (hfvy87 (i) (ne_o (i := i) (c := 0) (d := 1) rfl)).trans hcvy75
            refine z_cV (As := [.int (zI (0)), .int (zI ((n : Int)))]) (rest := []) (ci := 12) C (c_X10_many l D A cs tt N ad _ i hN _ hgy93 _ hcvy87 0 n py91 hpy91 (by omega) (by omega)) (by omega) hay1 hgy93 rfl rfl mv_yX10_many q_1733 hd_yX10_many (by decide) (Nat.le_of_ble_eq_true rfl) (by decide) dX10_fall_82 rfl (kI0 fun vy94 gvy94 hvy94 => ?_)
            obtain ⟨rfl, rfl⟩ := hvy94
            have hFy95 : ∀ f, f ≠ 12 → f ≠ 15 → f ≠ 16 → Fvy75 f = F f := fun f n12 n15 n16 => ((hFvy75 f n15 n16).trans ((uZ_n _ _ n12).trans rfl))
            have hey96 : Fvy75 13 = F 13 := ((hFvy75 13 (by decide) (by decide)).trans (fn rfl (by decide)))
            have hey97 : Fvy75 14 = F 14 := ((hFvy75 14 (by decide) (by decide)).trans (fn rfl (by decide)))
            have hey98 : Fvy75 15 = Fvy75 15 := rfl
            have hey99 : Fvy75 16 = Fvy75 16 := rfl
            have hey100 : Fvy75 17 = F 17 := ((hFvy75 17 (by decide) (by decide)).trans (fn rfl (by decide)))
            have hey101 : Fvy75 18 = F 18 := ((hFvy75 18 (by decide) (by decide)).trans (fn rfl (by decide)))
            have hey102 : Fvy75 19 = F 19 := ((hFvy75 19 (by decide) (by decide)).trans (fn rfl (by decide)))
            have hey103 : Fvy75 20 = F 20 := ((hFvy75 20 (by decide) (by decide)).trans (fn rfl (by decide)))
            have hey104 : Fvy75 23 = F 23 := ((hFvy75 23 (by decide) (by decide)).trans (fn rfl (by decide)))
            have hey105 : Fvy75 25 = F 25 := ((hFvy75 25 (by decide) (by decide)).trans (fn rfl (by decide)))
            have hey106 : Fvy75 27 = F 27 := ((hFvy75 27 (by decide) (by decide)).trans (fn rfl (by decide)))
            have hey107 : Fvy75 28 = F 28 := ((hFvy75 28 (by decide) (by decide)).trans (fn rfl (by decide)))
            have hey108 : Fvy75 29 = F 29 := ((hFvy75 29 (by decide) (by decide)).trans (fn rfl (by decide)))
            have hKy109 : okF Fvy75 := by unfold okF; omega
            have hMy110 : okMr cs ad gvy87 i (x + 1) Fvy75 rvy87 := okMr.upd hM hgy93 hKy109 (fun f a => hFy95 f (by omega) (by omega) (by omega)) hcvy87 (hAy89.mono (by omega)) (fun j a b => by
                exact Or.inl (by rw [hfvy87 _ (by omega)]; rw [hfvy75 _ (by omega) (by omega)]; rw [egy25, va_up_ne _ _ (by omega)]))
            have h23 : Fvy75 23 = F 23 := ((hFvy75 23 (by decide) (by decide)).trans (fn rfl (by decide)))
            exact z_iret C hr hlk dX10_fall_85 (by decide) (by decide) ⟨rvy87 (py91), rfl, rfl, rfl, by omega, ⟨_, _, hMy110, by omega⟩, fun j j1 => by rw [hfvy87 _ (by omega)]; rw [hfvy75 _ (by omega) (by omega)]; rw [egy25, va_up_ne _ _ (by omega)]⟩
          · refine z_aload_n C 0 dX10_fall_56 rfl ?_
            refine z_iconst (z := 1) C dX10_fall_57 rfl ?_
            have hgy111 := up_n egy25 ha11 (ne_o (i := i) (c := 11) (d := 0) rfl)
            refine z_cV (As := [.int (zI (1))]) (rest := []) (ci := 12) C (c_X10_refuses l D A cs tt N ad _ i hN _ hgy26 _ hgy111 (1) (by omega)) (by omega) hay1 hgy26 rfl rfl mv_yX10_refuses q_1866 hd_yX10_refuses (by decide) (Nat.le_of_ble_eq_true rfl) (by decide) dX10_fall_58 rfl (kI0 fun vy112 gvy112 hvy112 => ?_)
            obtain ⟨hrvy112, ⟨tvy112, hdvy112⟩, hfvy112⟩ := hvy112
            have hgy113 := (hfvy112 (i) (ne_o (i := i) (c := 0) (d := 11) rfl)).trans hgy26
            have hgy114 := (hfvy112 (i + 1) (ne_o (i := i) (c := 1) (d := 11) rfl)).trans hgy69
            have hFy115 : ∀ f, f ≠ 12 → (uZ F 12 (0)) f = F f := fun f n12 => ((uZ_n _ _ n12).trans rfl)
            have hey116 : (uZ F 12 (0)) 13 = F 13 := (fn rfl (by decide))
            have hey117 : (uZ F 12 (0)) 14 = F 14 := (fn rfl (by decide))
            have hey118 : (uZ F 12 (0)) 15 = F 15 := (fn rfl (by decide))
            have hey119 : (uZ F 12 (0)) 16 = F 16 := (fn rfl (by decide))
            have hey120 : (uZ F 12 (0)) 17 = F 17 := (fn rfl (by decide))
            have hey121 : (uZ F 12 (0)) 18 = F 18 := (fn rfl (by decide))
            have hey122 : (uZ F 12 (0)) 19 = F 19 := (fn rfl (by decide))
            have hey123 : (uZ F 12 (0)) 20 = F 20 := (fn rfl (by decide))
            have hey124 : (uZ F 12 (0)) 23 = F 23 := (fn rfl (by decide))
            have hey125 : (uZ F 12 (0)) 25 = F 25 := (fn rfl (by decide))
            have hey126 : (uZ F 12 (0)) 27 = F 27 := (fn rfl (by decide))
            have hey127 : (uZ F 12 (0)) 28 = F 28 := (fn rfl (by decide))
            have hey128 : (uZ F 12 (0)) 29 = F 29 := (fn rfl (by decide))
            have hKy129 : okF (uZ F 12 (0)) := by unfold okF; omega
            have hMy130 : okMr cs ad gvy112 i (x + 1) (uZ F 12 (0)) r := okMr.upd hM hgy113 hKy129 (fun f a => hFy115 f (by omega)) hgy114 (hA.mono (by omega)) (fun j a b => by
                by_cases e0 : j = i + 11
                · exact Or.inr ⟨11, _, e0, lsP.l (by decide), by rw [e0]; exact hdvy112⟩
                exact Or.inl (by rw [hfvy112 _ (by omega)]; rw [egy25, va_up_ne _ _ (by omega)]))
            have h23 : (uZ F 12 (0)) 23 = F 23 := (fn rfl (by decide))
            exact z_iret C hr hlk dX10_fall_61 (by decide) (by decide) ⟨vy112, rfl, rfl, rfl, by omega, ⟨_, _, hMy130, by omega⟩, fun j j1 => by rw [hfvy112 _ (by omega)]; rw [egy25, va_up_ne _ _ (by omega)]⟩
      · refine z_iload_n C 3 dX10_fall_33 rfl ?_
        refine z_iconst (z := 1) C dX10_fall_34 rfl ?_
        refine z_bipush (z := 50) C dX10_fall_35 (by decide) ?_
        refine z_cS (As := [.int (zI (z2)), .int (zI (1)), .int (zI (50))]) (rest := []) C (c_X10_within l D A cs tt N ad _ (z2) (by omega) (1) (by omega) (50) (by omega)) ms_yX10_within q_1686 hd_yX10_within (by decide) (Nat.le_of_ble_eq_true rfl) (by decide) dX10_fall_37 rfl (kI0 fun vy131 gvy131 hvy131 => ?_)
        obtain ⟨hvy131, rfl⟩ := hvy131
        rcases hvy131 with ⟨rfl, hxvy131⟩ | ⟨rfl, hxvy131⟩
        · refine z_if_eq (tgt := 56) C dX10_fall_40 (by decide) (by omega) (fun h => absurd h (by omega)) (fun _ => ?_)
          refine z_iload_n C 2 dX10_fall_43 rfl ?_
          refine z_iconst (z := 3) C dX10_fall_44 rfl ?_
          refine z_icmp_ne (tgt := 62) C dX10_fall_45 (by decide) (by omega) (by omega) (fun hby132 => ?_) (fun hby132 => ?_)
          · refine z_aload_n C 0 dX10_fall_62 rfl ?_
            have hgy133 := up_n egy25 ha1 (ne_o (i := i) (c := 1) (d := 0) rfl)
            have hey135 : (uZ F 12 (0)) 15 = F 15 := (fn rfl (by decide))
            have hey136 : (uZ F 12 (0)) 16 = F 16 := (fn rfl (by decide))
            refine z_cV (As := []) (rest := []) (ci := 12) C (c_X10_keeps l D A cs tt N ad _ i hN _ hgy26 _ hgy133 (x) hA (by omega) (by omega)) (by omega) hay1 hgy26 rfl rfl mv_yX10_keeps q_1870 hd_yX10_keeps (by decide) (Nat.le_of_ble_eq_true rfl) (by decide) dX10_fall_63 rfl (kV0 fun gvy134 hvy134 => ?_)
            obtain ⟨⟨Fvy134, hcvy134, hbvy134, hFvy134⟩, ⟨rvy134, hdvy134, hAvy134, hyvy134⟩, hfvy134⟩ := hvy134
            have hk0vy134 : rvy134 0 = r 0 := hyvy134 0 (by omega)
            have hk1vy134 : rvy134 1 = r 1 := hyvy134 1 (by omega)
            have hk5vy134 : rvy134 5 = r 5 := hyvy134 5 (by omega)
            obtain ⟨⟨hsyy137, htyy137, hnyy137, hpyy137⟩, hlyy137⟩ := okA.at0 hAvy134
            simp only [Nat.zero_add] at hsyy137 hnyy137 hpyy137
            have hmn : ∀ s, s < 4 → 0 ≤ rvy134 (6 + 86 * s) ∧ rvy134 (6 + 86 * s) ≤ 12 := fun s hs => (hsyy137 s hs).1
            have h5 : 0 ≤ rvy134 5 ∧ rvy134 5 ≤ 6 := hpyy137
            refine z_aload_n C 0 dX10_fall_66 rfl ?_
            refine z_iconst (z := 0) C dX10_fall_67 rfl ?_
            refine z_iload_n C 1 dX10_fall_68 rfl ?_
            refine z_iload_n C 2 dX10_fall_69 rfl ?_
            refine z_iload_n C 3 dX10_fall_70 rfl ?_
            refine z_aload_n C 0 dX10_fall_71 rfl ?_
            refine z_iconst (z := 0) C dX10_fall_72 rfl ?_
            have hey139 : Fvy134 14 = F 14 := ((hFvy134 14 (by decide) (by decide)).trans (fn rfl (by decide)))
            have hey140 : Fvy134 25 = F 25 := ((hFvy134 25 (by decide) (by decide)).trans (fn rfl (by decide)))
            have hgy141 := up_n egy25 ha4 (ne_o (i := i) (c := 4) (d := 0) rfl)
            have hgy142 := (hfvy134 (i + 4) (ne_o (i := i) (c := 4) (d := 0) rfl) (ne_o (i := i) (c := 4) (d := 1) rfl)).trans hgy141
            refine z_cV (As := [.int (zI (0))]) (rest := [.int (zI (z2)), .int (zI (z1)), .int (zI ((n : Int))), .int (zI (0)), .ref (ad i)]) (ci := 12) C (c_X10_airOf l D A cs tt N ad _ i hN _ hcvy134 _ hdvy134 _ hgy142 0 (by omega) (by omega) (by omega) (by omega) hai) (by omega) hay1 hcvy134 rfl rfl mv_yX10_airOf q_1827 hd_yX10_airOf (by decide) (Nat.le_of_ble_eq_true rfl) (by decide) dX10_fall_73 rfl (kI0 fun vy138 gvy138 hvy138 => ?_)
            obtain ⟨hvy138, rfl⟩ := hvy138
            obtain ⟨py143, hpy143⟩ : ∃ p9 : Nat, 0 + 6 + 86 * n = p9 := ⟨_, rfl⟩
            have hSy144 := ((okA.at0 hAvy134).1.1 n (by omega)).of (p2 := py143) (by omega)
            obtain ⟨b1hSy144, b2hSy144, b3hSy144, b4hSy144⟩ := mBb (t := rvy134 0 + x) (by omega)
            have hmky145 := hSy144.1
            have hcy146n := (okA.at0 hAvy134).1.2.2.1
            have hcy146t := (okA.at0 hAvy134).1.2.1
            have hwy148 : rvy134 (0 + 1) = r (0 + 1) := (hyvy134 _ (by omega)).trans (rfl)
            refine z_cV (As := [.int (zI (0)), .int (zI ((n : Int))), .int (zI (z1)), .int (zI (z2)), .int (zI (vy138))]) (rest := []) (ci := 12) C (c_X10_drops l D A cs tt N ad _ i hN _ hcvy134 _ hdvy134  0 n py143 hpy143 (by omega) (by omega) (by omega) (mB (rvy134 0 + x)) (eB (rvy134 0 + x)) (by omega) (by omega) hSy144 (by omega) (by omega) (z1) (by omega) (z2) (by omega) (vy138) (by omega)) (by omega) hay1 hcvy134 rfl rfl mv_yX10_drops q_1893 hd_yX10_drops (by decide) (Nat.le_of_ble_eq_true rfl) (by decide) dX10_fall_76 rfl (kV0 fun gvy147 hvy147 => ?_)
            obtain ⟨⟨rvy147, hcvy147, hovy147, hnvy147, hyvy147⟩, hfvy147⟩ := hvy147
            have hkvy147 := hovy147.1
            have hcy1460 : rvy147 0 = rvy134 0 := (hyvy147 0 (by omega) (by omega))
            have hcy1465 : rvy147 (0 + 5) = rvy134 (0 + 5) := (hyvy147 (0 + 5) (by omega) (by omega))
            have hcy1466 := (okA.at0 hAvy134).1.2.2.2
            have hcy146 : okW rvy147 0 (x + 1) := okW.slope (okA.at0 hAvy134).1 (s := n) (p := py143) (by omega) (by omega) (hovy147.mono (by omega) (by omega)) hnvy147 hcy1460 (by omega) (fun j a1 a2 a3 => (hyvy147 j (by omega) (by omega)))
            have hAy149 : okA rvy147 (x + 1) := okA.first hAvy134 (by omega) (fun j a => (hyvy147 j (by omega) (by omega))) hcy146 (by omega)
            obtain ⟨⟨hsyy150, htyy150, hnyy150, hpyy150⟩, hlyy150⟩ := okA.at0 hAy149
            simp only [Nat.zero_add] at hsyy150 hnyy150 hpyy150
            have hmn : ∀ s, s < 4 → 0 ≤ rvy147 (6 + 86 * s) ∧ rvy147 (6 + 86 * s) ≤ 12 := fun s hs => (hsyy150 s hs).1
            have h5 : 0 ≤ rvy147 5 ∧ rvy147 5 ≤ 6 := hpyy150
            refine z_aload_n C 0 dX10_fall_79 rfl ?_
            refine z_iconst (z := 0) C dX10_fall_80 rfl ?_
            refine z_iload_n C 1 dX10_fall_81 rfl ?_
            obtain ⟨py151, hpy151⟩ : ∃ p9 : Nat, 0 + 6 + 86 * n = p9 := ⟨_, rfl⟩
            have hmyy152 := ((okA.at0 hAy149).1.1 n (by omega)).1
            rw [hpy151] at hmyy152
            have hgy153 := (hfvy147 (i) (ne_o (i := i) (c := 0) (d := 1) rfl)).trans hcvy134
            refine z_cV (As := [.int (zI (0)), .int (zI ((n : Int)))]) (rest := []) (ci := 12) C (c_X10_many l D A cs tt N ad _ i hN _ hgy153 _ hcvy147 0 n py151 hpy151 (by omega) (by omega)) (by omega) hay1 hgy153 rfl rfl mv_yX10_many q_1733 hd_yX10_many (by decide) (Nat.le_of_ble_eq_true rfl) (by decide) dX10_fall_82 rfl (kI0 fun vy154 gvy154 hvy154 => ?_)
            obtain ⟨rfl, rfl⟩ := hvy154
            have hFy155 : ∀ f, f ≠ 12 → f ≠ 15 → f ≠ 16 → Fvy134 f = F f := fun f n12 n15 n16 => ((hFvy134 f n15 n16).trans ((uZ_n _ _ n12).trans rfl))
            have hey156 : Fvy134 13 = F 13 := ((hFvy134 13 (by decide) (by decide)).trans (fn rfl (by decide)))
            have hey157 : Fvy134 14 = F 14 := ((hFvy134 14 (by decide) (by decide)).trans (fn rfl (by decide)))
            have hey158 : Fvy134 15 = Fvy134 15 := rfl
            have hey159 : Fvy134 16 = Fvy134 16 := rfl
            have hey160 : Fvy134 17 = F 17 := ((hFvy134 17 (by decide) (by decide)).trans (fn rfl (by decide)))
            have hey161 : Fvy134 18 = F 18 := ((hFvy134 18 (by decide) (by decide)).trans (fn rfl (by decide)))
            have hey162 : Fvy134 19 = F 19 := ((hFvy134 19 (by decide) (by decide)).trans (fn rfl (by decide)))
            have hey163 : Fvy134 20 = F 20 := ((hFvy134 20 (by decide) (by decide)).trans (fn rfl (by decide)))
            have hey164 : Fvy134 23 = F 23 := ((hFvy134 23 (by decide) (by decide)).trans (fn rfl (by decide)))
            have hey165 : Fvy134 25 = F 25 := ((hFvy134 25 (by decide) (by decide)).trans (fn rfl (by decide)))
            have hey166 : Fvy134 27 = F 27 := ((hFvy134 27 (by decide) (by decide)).trans (fn rfl (by decide)))
            have hey167 : Fvy134 28 = F 28 := ((hFvy134 28 (by decide) (by decide)).trans (fn rfl (by decide)))
            have hey168 : Fvy134 29 = F 29 := ((hFvy134 29 (by decide) (by decide)).trans (fn rfl (by decide)))
            have hKy169 : okF Fvy134 := by unfold okF; omega
            have hMy170 : okMr cs ad gvy147 i (x + 1) Fvy134 rvy147 := okMr.upd hM hgy153 hKy169 (fun f a => hFy155 f (by omega) (by omega) (by omega)) hcvy147 (hAy149.mono (by omega)) (fun j a b => by
                exact Or.inl (by rw [hfvy147 _ (by omega)]; rw [hfvy134 _ (by omega) (by omega)]; rw [egy25, va_up_ne _ _ (by omega)]))
            have h23 : Fvy134 23 = F 23 := ((hFvy134 23 (by decide) (by decide)).trans (fn rfl (by decide)))
            exact z_iret C hr hlk dX10_fall_85 (by decide) (by decide) ⟨rvy147 (py151), rfl, rfl, rfl, by omega, ⟨_, _, hMy170, by omega⟩, fun j j1 => by rw [hfvy147 _ (by omega)]; rw [hfvy134 _ (by omega) (by omega)]; rw [egy25, va_up_ne _ _ (by omega)]⟩
          · refine z_aload_n C 0 dX10_fall_48 rfl ?_
            refine z_iconst (z := 0) C dX10_fall_49 rfl ?_
            have hgy171 := up_n egy25 ha1 (ne_o (i := i) (c := 1) (d := 0) rfl)
            have hey173 : (uZ F 12 (0)) 14 = F 14 := (fn rfl (by decide))
            have hey174 : (uZ F 12 (0)) 25 = F 25 := (fn rfl (by decide))
            have hgy175 := up_n egy25 ha4 (ne_o (i := i) (c := 4) (d := 0) rfl)
            refine z_cV (As := [.int (zI (0))]) (rest := []) (ci := 12) C (c_X10_airOf l D A cs tt N ad _ i hN _ hgy26 _ hgy171 _ hgy175 0 (by omega) (by omega) (by omega) (by omega) hai) (by omega) hay1 hgy26 rfl rfl mv_yX10_airOf q_1827 hd_yX10_airOf (by decide) (Nat.le_of_ble_eq_true rfl) (by decide) dX10_fall_50 rfl (kI0 fun vy172 gvy172 hvy172 => ?_)
            obtain ⟨hvy172, rfl⟩ := hvy172
            refine z_if_lt (tgt := 62) C dX10_fall_53 (by decide) (by omega) (fun hby176 => ?_) (fun hby176 => ?_)
            · refine z_aload_n C 0 dX10_fall_62 rfl ?_
              have hey178 : (uZ F 12 (0)) 15 = F 15 := (fn rfl (by decide))
              have hey179 : (uZ F 12 (0)) 16 = F 16 := (fn rfl (by decide))
              refine z_cV (As := []) (rest := []) (ci := 12) C (c_X10_keeps l D A cs tt N ad _ i hN _ hgy26 _ hgy171 (x) hA (by omega) (by omega)) (by omega) hay1 hgy26 rfl rfl mv_yX10_keeps q_1870 hd_yX10_keeps (by decide) (Nat.le_of_ble_eq_true rfl) (by decide) dX10_fall_63 rfl (kV0 fun gvy177 hvy177 => ?_)
              obtain ⟨⟨Fvy177, hcvy177, hbvy177, hFvy177⟩, ⟨rvy177, hdvy177, hAvy177, hyvy177⟩, hfvy177⟩ := hvy177
              have hk0vy177 : rvy177 0 = r 0 := hyvy177 0 (by omega)
              have hk1vy177 : rvy177 1 = r 1 := hyvy177 1 (by omega)
              have hk5vy177 : rvy177 5 = r 5 := hyvy177 5 (by omega)
              obtain ⟨⟨hsyy180, htyy180, hnyy180, hpyy180⟩, hlyy180⟩ := okA.at0 hAvy177
              simp only [Nat.zero_add] at hsyy180 hnyy180 hpyy180
              have hmn : ∀ s, s < 4 → 0 ≤ rvy177 (6 + 86 * s) ∧ rvy177 (6 + 86 * s) ≤ 12 := fun s hs => (hsyy180 s hs).1
              have h5 : 0 ≤ rvy177 5 ∧ rvy177 5 ≤ 6 := hpyy180
              refine z_aload_n C 0 dX10_fall_66 rfl ?_
              refine z_iconst (z := 0) C dX10_fall_67 rfl ?_
              refine z_iload_n C 1 dX10_fall_68 rfl ?_
              refine z_iload_n C 2 dX10_fall_69 rfl ?_
              refine z_iload_n C 3 dX10_fall_70 rfl ?_
              refine z_aload_n C 0 dX10_fall_71 rfl ?_
              refine z_iconst (z := 0) C dX10_fall_72 rfl ?_
              have hey182 : Fvy177 14 = F 14 := ((hFvy177 14 (by decide) (by decide)).trans (fn rfl (by decide)))
              have hey183 : Fvy177 25 = F 25 := ((hFvy177 25 (by decide) (by decide)).trans (fn rfl (by decide)))
              have hgy184 := (hfvy177 (i + 4) (ne_o (i := i) (c := 4) (d := 0) rfl) (ne_o (i := i) (c := 4) (d := 1) rfl)).trans hgy175
              refine z_cV (As := [.int (zI (0))]) (rest := [.int (zI (z2)), .int (zI (z1)), .int (zI ((n : Int))), .int (zI (0)), .ref (ad i)]) (ci := 12) C (c_X10_airOf l D A cs tt N ad _ i hN _ hcvy177 _ hdvy177 _ hgy184 0 (by omega) (by omega) (by omega) (by omega) hai) (by omega) hay1 hcvy177 rfl rfl mv_yX10_airOf q_1827 hd_yX10_airOf (by decide) (Nat.le_of_ble_eq_true rfl) (by decide) dX10_fall_73 rfl (kI0 fun vy181 gvy181 hvy181 => ?_)
              obtain ⟨hvy181, rfl⟩ := hvy181
              obtain ⟨py185, hpy185⟩ : ∃ p9 : Nat, 0 + 6 + 86 * n = p9 := ⟨_, rfl⟩
              have hSy186 := ((okA.at0 hAvy177).1.1 n (by omega)).of (p2 := py185) (by omega)
              obtain ⟨b1hSy186, b2hSy186, b3hSy186, b4hSy186⟩ := mBb (t := rvy177 0 + x) (by omega)
              have hmky187 := hSy186.1
              have hcy188n := (okA.at0 hAvy177).1.2.2.1
              have hcy188t := (okA.at0 hAvy177).1.2.1
              have hwy190 : rvy177 (0 + 1) = r (0 + 1) := (hyvy177 _ (by omega)).trans (rfl)
              refine z_cV (As := [.int (zI (0)), .int (zI ((n : Int))), .int (zI (z1)), .int (zI (z2)), .int (zI (vy181))]) (rest := []) (ci := 12) C (c_X10_drops l D A cs tt N ad _ i hN _ hcvy177 _ hdvy177  0 n py185 hpy185 (by omega) (by omega) (by omega) (mB (rvy177 0 + x)) (eB (rvy177 0 + x)) (by omega) (by omega) hSy186 (by omega) (by omega) (z1) (by omega) (z2) (by omega) (vy181) (by omega)) (by omega) hay1 hcvy177 rfl rfl mv_yX10_drops q_1893 hd_yX10_drops (by decide) (Nat.le_of_ble_eq_true rfl) (by decide) dX10_fall_76 rfl (kV0 fun gvy189 hvy189 => ?_)
              obtain ⟨⟨rvy189, hcvy189, hovy189, hnvy189, hyvy189⟩, hfvy189⟩ := hvy189
              have hkvy189 := hovy189.1
              have hcy1880 : rvy189 0 = rvy177 0 := (hyvy189 0 (by omega) (by omega))
              have hcy1885 : rvy189 (0 + 5) = rvy177 (0 + 5) := (hyvy189 (0 + 5) (by omega) (by omega))
              have hcy1886 := (okA.at0 hAvy177).1.2.2.2
              have hcy188 : okW rvy189 0 (x + 1) := okW.slope (okA.at0 hAvy177).1 (s := n) (p := py185) (by omega) (by omega) (hovy189.mono (by omega) (by omega)) hnvy189 hcy1880 (by omega) (fun j a1 a2 a3 => (hyvy189 j (by omega) (by omega)))
              have hAy191 : okA rvy189 (x + 1) := okA.first hAvy177 (by omega) (fun j a => (hyvy189 j (by omega) (by omega))) hcy188 (by omega)
              obtain ⟨⟨hsyy192, htyy192, hnyy192, hpyy192⟩, hlyy192⟩ := okA.at0 hAy191
              simp only [Nat.zero_add] at hsyy192 hnyy192 hpyy192
              have hmn : ∀ s, s < 4 → 0 ≤ rvy189 (6 + 86 * s) ∧ rvy189 (6 + 86 * s) ≤ 12 := fun s hs => (hsyy192 s hs).1
              have h5 : 0 ≤ rvy189 5 ∧ rvy189 5 ≤ 6 := hpyy192
              refine z_aload_n C 0 dX10_fall_79 rfl ?_
              refine z_iconst (z := 0) C dX10_fall_80 rfl ?_
              refine z_iload_n C 1 dX10_fall_81 rfl ?_
              obtain ⟨py193, hpy193⟩ : ∃ p9 : Nat, 0 + 6 + 86 * n = p9 := ⟨_, rfl⟩
              have hmyy194 := ((okA.at0 hAy191).1.1 n (by omega)).1
              rw [hpy193] at hmyy194
              have hgy195 := (hfvy189 (i) (ne_o (i := i) (c := 0) (d := 1) rfl)).trans hcvy177
              refine z_cV (As := [.int (zI (0)), .int (zI ((n : Int)))]) (rest := []) (ci := 12) C (c_X10_many l D A cs tt N ad _ i hN _ hgy195 _ hcvy189 0 n py193 hpy193 (by omega) (by omega)) (by omega) hay1 hgy195 rfl rfl mv_yX10_many q_1733 hd_yX10_many (by decide) (Nat.le_of_ble_eq_true rfl) (by decide) dX10_fall_82 rfl (kI0 fun vy196 gvy196 hvy196 => ?_)
              obtain ⟨rfl, rfl⟩ := hvy196
              have hFy197 : ∀ f, f ≠ 12 → f ≠ 15 → f ≠ 16 → Fvy177 f = F f := fun f n12 n15 n16 => ((hFvy177 f n15 n16).trans ((uZ_n _ _ n12).trans rfl))
              have hey198 : Fvy177 13 = F 13 := ((hFvy177 13 (by decide) (by decide)).trans (fn rfl (by decide)))
              have hey199 : Fvy177 14 = F 14 := ((hFvy177 14 (by decide) (by decide)).trans (fn rfl (by decide)))
              have hey200 : Fvy177 15 = Fvy177 15 := rfl
              have hey201 : Fvy177 16 = Fvy177 16 := rfl
              have hey202 : Fvy177 17 = F 17 := ((hFvy177 17 (by decide) (by decide)).trans (fn rfl (by decide)))
              have hey203 : Fvy177 18 = F 18 := ((hFvy177 18 (by decide) (by decide)).trans (fn rfl (by decide)))
              have hey204 : Fvy177 19 = F 19 := ((hFvy177 19 (by decide) (by decide)).trans (fn rfl (by decide)))
              have hey205 : Fvy177 20 = F 20 := ((hFvy177 20 (by decide) (by decide)).trans (fn rfl (by decide)))
              have hey206 : Fvy177 23 = F 23 := ((hFvy177 23 (by decide) (by decide)).trans (fn rfl (by decide)))
              have hey207 : Fvy177 25 = F 25 := ((hFvy177 25 (by decide) (by decide)).trans (fn rfl (by decide)))
              have hey208 : Fvy177 27 = F 27 := ((hFvy177 27 (by decide) (by decide)).trans (fn rfl (by decide)))
              have hey209 : Fvy177 28 = F 28 := ((hFvy177 28 (by decide) (by decide)).trans (fn rfl (by decide)))
              have hey210 : Fvy177 29 = F 29 := ((hFvy177 29 (by decide) (by decide)).trans (fn rfl (by decide)))
              have hKy211 : okF Fvy177 := by unfold okF; omega
              have hMy212 : okMr cs ad gvy189 i (x + 1) Fvy177 rvy189 := okMr.upd hM hgy195 hKy211 (fun f a => hFy197 f (by omega) (by omega) (by omega)) hcvy189 (hAy191.mono (by omega)) (fun j a b => by
                  exact Or.inl (by rw [hfvy189 _ (by omega)]; rw [hfvy177 _ (by omega) (by omega)]; rw [egy25, va_up_ne _ _ (by omega)]))
              have h23 : Fvy177 23 = F 23 := ((hFvy177 23 (by decide) (by decide)).trans (fn rfl (by decide)))
              exact z_iret C hr hlk dX10_fall_85 (by decide) (by decide) ⟨rvy189 (py193), rfl, rfl, rfl, by omega, ⟨_, _, hMy212, by omega⟩, fun j j1 => by rw [hfvy189 _ (by omega)]; rw [hfvy177 _ (by omega) (by omega)]; rw [egy25, va_up_ne _ _ (by omega)]⟩
            · refine z_aload_n C 0 dX10_fall_56 rfl ?_
              refine z_iconst (z := 1) C dX10_fall_57 rfl ?_
              have hgy213 := up_n egy25 ha11 (ne_o (i := i) (c := 11) (d := 0) rfl)
              refine z_cV (As := [.int (zI (1))]) (rest := []) (ci := 12) C (c_X10_refuses l D A cs tt N ad _ i hN _ hgy26 _ hgy213 (1) (by omega)) (by omega) hay1 hgy26 rfl rfl mv_yX10_refuses q_1866 hd_yX10_refuses (by decide) (Nat.le_of_ble_eq_true rfl) (by decide) dX10_fall_58 rfl (kI0 fun vy214 gvy214 hvy214 => ?_)
              obtain ⟨hrvy214, ⟨tvy214, hdvy214⟩, hfvy214⟩ := hvy214
              have hgy215 := (hfvy214 (i) (ne_o (i := i) (c := 0) (d := 11) rfl)).trans hgy26
              have hgy216 := (hfvy214 (i + 1) (ne_o (i := i) (c := 1) (d := 11) rfl)).trans hgy171
              have hFy217 : ∀ f, f ≠ 12 → (uZ F 12 (0)) f = F f := fun f n12 => ((uZ_n _ _ n12).trans rfl)
              have hey218 : (uZ F 12 (0)) 13 = F 13 := (fn rfl (by decide))
              have hey219 : (uZ F 12 (0)) 14 = F 14 := (fn rfl (by decide))
              have hey220 : (uZ F 12 (0)) 15 = F 15 := (fn rfl (by decide))
              have hey221 : (uZ F 12 (0)) 16 = F 16 := (fn rfl (by decide))
              have hey222 : (uZ F 12 (0)) 17 = F 17 := (fn rfl (by decide))
              have hey223 : (uZ F 12 (0)) 18 = F 18 := (fn rfl (by decide))
              have hey224 : (uZ F 12 (0)) 19 = F 19 := (fn rfl (by decide))
              have hey225 : (uZ F 12 (0)) 20 = F 20 := (fn rfl (by decide))
              have hey226 : (uZ F 12 (0)) 23 = F 23 := (fn rfl (by decide))
              have hey227 : (uZ F 12 (0)) 25 = F 25 := (fn rfl (by decide))
              have hey228 : (uZ F 12 (0)) 27 = F 27 := (fn rfl (by decide))
              have hey229 : (uZ F 12 (0)) 28 = F 28 := (fn rfl (by decide))
              have hey230 : (uZ F 12 (0)) 29 = F 29 := (fn rfl (by decide))
              have hKy231 : okF (uZ F 12 (0)) := by unfold okF; omega
              have hMy232 : okMr cs ad gvy214 i (x + 1) (uZ F 12 (0)) r := okMr.upd hM hgy215 hKy231 (fun f a => hFy217 f (by omega)) hgy216 (hA.mono (by omega)) (fun j a b => by
                  by_cases e0 : j = i + 11
                  · exact Or.inr ⟨11, _, e0, lsP.l (by decide), by rw [e0]; exact hdvy214⟩
                  exact Or.inl (by rw [hfvy214 _ (by omega)]; rw [egy25, va_up_ne _ _ (by omega)]))
              have h23 : (uZ F 12 (0)) 23 = F 23 := (fn rfl (by decide))
              exact z_iret C hr hlk dX10_fall_61 (by decide) (by decide) ⟨vy214, rfl, rfl, rfl, by omega, ⟨_, _, hMy232, by omega⟩, fun j j1 => by rw [hfvy214 _ (by omega)]; rw [egy25, va_up_ne _ _ (by omega)]⟩
        · refine z_if_eq (tgt := 56) C dX10_fall_40 (by decide) (by omega) (fun _ => ?_) (fun h => absurd h (by omega))
          refine z_aload_n C 0 dX10_fall_56 rfl ?_
          refine z_iconst (z := 1) C dX10_fall_57 rfl ?_
          have hgy233 := up_n egy25 ha11 (ne_o (i := i) (c := 11) (d := 0) rfl)
          refine z_cV (As := [.int (zI (1))]) (rest := []) (ci := 12) C (c_X10_refuses l D A cs tt N ad _ i hN _ hgy26 _ hgy233 (1) (by omega)) (by omega) hay1 hgy26 rfl rfl mv_yX10_refuses q_1866 hd_yX10_refuses (by decide) (Nat.le_of_ble_eq_true rfl) (by decide) dX10_fall_58 rfl (kI0 fun vy234 gvy234 hvy234 => ?_)
          obtain ⟨hrvy234, ⟨tvy234, hdvy234⟩, hfvy234⟩ := hvy234
          have hgy235 := (hfvy234 (i) (ne_o (i := i) (c := 0) (d := 11) rfl)).trans hgy26
          have hgy236 := up_n egy25 ha1 (ne_o (i := i) (c := 1) (d := 0) rfl)
          have hgy237 := (hfvy234 (i + 1) (ne_o (i := i) (c := 1) (d := 11) rfl)).trans hgy236
          have hFy238 : ∀ f, f ≠ 12 → (uZ F 12 (0)) f = F f := fun f n12 => ((uZ_n _ _ n12).trans rfl)
          have hey239 : (uZ F 12 (0)) 13 = F 13 := (fn rfl (by decide))
          have hey240 : (uZ F 12 (0)) 14 = F 14 := (fn rfl (by decide))
          have hey241 : (uZ F 12 (0)) 15 = F 15 := (fn rfl (by decide))
          have hey242 : (uZ F 12 (0)) 16 = F 16 := (fn rfl (by decide))
          have hey243 : (uZ F 12 (0)) 17 = F 17 := (fn rfl (by decide))
          have hey244 : (uZ F 12 (0)) 18 = F 18 := (fn rfl (by decide))
          have hey245 : (uZ F 12 (0)) 19 = F 19 := (fn rfl (by decide))
          have hey246 : (uZ F 12 (0)) 20 = F 20 := (fn rfl (by decide))
          have hey247 : (uZ F 12 (0)) 23 = F 23 := (fn rfl (by decide))
          have hey248 : (uZ F 12 (0)) 25 = F 25 := (fn rfl (by decide))
          have hey249 : (uZ F 12 (0)) 27 = F 27 := (fn rfl (by decide))
          have hey250 : (uZ F 12 (0)) 28 = F 28 := (fn rfl (by decide))
          have hey251 : (uZ F 12 (0)) 29 = F 29 := (fn rfl (by decide))
          have hKy252 : okF (uZ F 12 (0)) := by unfold okF; omega
          have hMy253 : okMr cs ad gvy234 i (x + 1) (uZ F 12 (0)) r := okMr.upd hM hgy235 hKy252 (fun f a => hFy238 f (by omega)) hgy237 (hA.mono (by omega)) (fun j a b => by
              by_cases e0 : j = i + 11
              · exact Or.inr ⟨11, _, e0, lsP.l (by decide), by rw [e0]; exact hdvy234⟩
              exact Or.inl (by rw [hfvy234 _ (by omega)]; rw [egy25, va_up_ne _ _ (by omega)]))
          have h23 : (uZ F 12 (0)) 23 = F 23 := (fn rfl (by decide))
          exact z_iret C hr hlk dX10_fall_61 (by decide) (by decide) ⟨vy234, rfl, rfl, rfl, by omega, ⟨_, _, hMy253, by omega⟩, fun j j1 => by rw [hfvy234 _ (by omega)]; rw [egy25, va_up_ne _ _ (by omega)]⟩
    · refine z_if_eq (tgt := 56) C dX10_fall_25 (by decide) (by omega) (fun _ => ?_) (fun h => absurd h (by omega))
      refine z_aload_n C 0 dX10_fall_56 rfl ?_
      refine z_iconst (z := 1) C dX10_fall_57 rfl ?_
      have hgy254 := up_n egy25 ha11 (ne_o (i := i) (c := 11) (d := 0) rfl)
      refine z_cV (As := [.int (zI (1))]) (rest := []) (ci := 12) C (c_X10_refuses l D A cs tt N ad _ i hN _ hgy26 _ hgy254 (1) (by omega)) (by omega) hay1 hgy26 rfl rfl mv_yX10_refuses q_1866 hd_yX10_refuses (by decide) (Nat.le_of_ble_eq_true rfl) (by decide) dX10_fall_58 rfl (kI0 fun vy255 gvy255 hvy255 => ?_)
      obtain ⟨hrvy255, ⟨tvy255, hdvy255⟩, hfvy255⟩ := hvy255
      have hgy256 := (hfvy255 (i) (ne_o (i := i) (c := 0) (d := 11) rfl)).trans hgy26
      have hgy257 := up_n egy25 ha1 (ne_o (i := i) (c := 1) (d := 0) rfl)
      have hgy258 := (hfvy255 (i + 1) (ne_o (i := i) (c := 1) (d := 11) rfl)).trans hgy257
      have hFy259 : ∀ f, f ≠ 12 → (uZ F 12 (0)) f = F f := fun f n12 => ((uZ_n _ _ n12).trans rfl)
      have hey260 : (uZ F 12 (0)) 13 = F 13 := (fn rfl (by decide))
      have hey261 : (uZ F 12 (0)) 14 = F 14 := (fn rfl (by decide))
      have hey262 : (uZ F 12 (0)) 15 = F 15 := (fn rfl (by decide))
      have hey263 : (uZ F 12 (0)) 16 = F 16 := (fn rfl (by decide))
      have hey264 : (uZ F 12 (0)) 17 = F 17 := (fn rfl (by decide))
      have hey265 : (uZ F 12 (0)) 18 = F 18 := (fn rfl (by decide))
      have hey266 : (uZ F 12 (0)) 19 = F 19 := (fn rfl (by decide))
      have hey267 : (uZ F 12 (0)) 20 = F 20 := (fn rfl (by decide))
      have hey268 : (uZ F 12 (0)) 23 = F 23 := (fn rfl (by decide))
      have hey269 : (uZ F 12 (0)) 25 = F 25 := (fn rfl (by decide))
      have hey270 : (uZ F 12 (0)) 27 = F 27 := (fn rfl (by decide))
      have hey271 : (uZ F 12 (0)) 28 = F 28 := (fn rfl (by decide))
      have hey272 : (uZ F 12 (0)) 29 = F 29 := (fn rfl (by decide))
      have hKy273 : okF (uZ F 12 (0)) := by unfold okF; omega
      have hMy274 : okMr cs ad gvy255 i (x + 1) (uZ F 12 (0)) r := okMr.upd hM hgy256 hKy273 (fun f a => hFy259 f (by omega)) hgy258 (hA.mono (by omega)) (fun j a b => by
          by_cases e0 : j = i + 11
          · exact Or.inr ⟨11, _, e0, lsP.l (by decide), by rw [e0]; exact hdvy255⟩
          exact Or.inl (by rw [hfvy255 _ (by omega)]; rw [egy25, va_up_ne _ _ (by omega)]))
      have h23 : (uZ F 12 (0)) 23 = F 23 := (fn rfl (by decide))
      exact z_iret C hr hlk dX10_fall_61 (by decide) (by decide) ⟨vy255, rfl, rfl, rfl, by omega, ⟨_, _, hMy274, by omega⟩, fun j j1 => by rw [hfvy255 _ (by omega)]; rw [egy25, va_up_ne _ _ (by omega)]⟩
  · refine z_if_eq (tgt := 56) C dX10_fall_16 (by decide) (by omega) (fun _ => ?_) (fun h => absurd h (by omega))
    refine z_aload_n C 0 dX10_fall_56 rfl ?_
    refine z_iconst (z := 1) C dX10_fall_57 rfl ?_
    have hgy275 := up_n egy25 ha11 (ne_o (i := i) (c := 11) (d := 0) rfl)
    refine z_cV (As := [.int (zI (1))]) (rest := []) (ci := 12) C (c_X10_refuses l D A cs tt N ad _ i hN _ hgy26 _ hgy275 (1) (by omega)) (by omega) hay1 hgy26 rfl rfl mv_yX10_refuses q_1866 hd_yX10_refuses (by decide) (Nat.le_of_ble_eq_true rfl) (by decide) dX10_fall_58 rfl (kI0 fun vy276 gvy276 hvy276 => ?_)
    obtain ⟨hrvy276, ⟨tvy276, hdvy276⟩, hfvy276⟩ := hvy276
    have hgy277 := (hfvy276 (i) (ne_o (i := i) (c := 0) (d := 11) rfl)).trans hgy26
    have hgy278 := up_n egy25 ha1 (ne_o (i := i) (c := 1) (d := 0) rfl)
    have hgy279 := (hfvy276 (i + 1) (ne_o (i := i) (c := 1) (d := 11) rfl)).trans hgy278
    have hFy280 : ∀ f, f ≠ 12 → (uZ F 12 (0)) f = F f := fun f n12 => ((uZ_n _ _ n12).trans rfl)
    have hey281 : (uZ F 12 (0)) 13 = F 13 := (fn rfl (by decide))
    have hey282 : (uZ F 12 (0)) 14 = F 14 := (fn rfl (by decide))
    have hey283 : (uZ F 12 (0)) 15 = F 15 := (fn rfl (by decide))
    have hey284 : (uZ F 12 (0)) 16 = F 16 := (fn rfl (by decide))
    have hey285 : (uZ F 12 (0)) 17 = F 17 := (fn rfl (by decide))
    have hey286 : (uZ F 12 (0)) 18 = F 18 := (fn rfl (by decide))
    have hey287 : (uZ F 12 (0)) 19 = F 19 := (fn rfl (by decide))
    have hey288 : (uZ F 12 (0)) 20 = F 20 := (fn rfl (by decide))
    have hey289 : (uZ F 12 (0)) 23 = F 23 := (fn rfl (by decide))
    have hey290 : (uZ F 12 (0)) 25 = F 25 := (fn rfl (by decide))
    have hey291 : (uZ F 12 (0)) 27 = F 27 := (fn rfl (by decide))
    have hey292 : (uZ F 12 (0)) 28 = F 28 := (fn rfl (by decide))
    have hey293 : (uZ F 12 (0)) 29 = F 29 := (fn rfl (by decide))
    have hKy294 : okF (uZ F 12 (0)) := by unfold okF; omega
    have hMy295 : okMr cs ad gvy276 i (x + 1) (uZ F 12 (0)) r := okMr.upd hM hgy277 hKy294 (fun f a => hFy280 f (by omega)) hgy279 (hA.mono (by omega)) (fun j a b => by
        by_cases e0 : j = i + 11
        · exact Or.inr ⟨11, _, e0, lsP.l (by decide), by rw [e0]; exact hdvy276⟩
        exact Or.inl (by rw [hfvy276 _ (by omega)]; rw [egy25, va_up_ne _ _ (by omega)]))
    have h23 : (uZ F 12 (0)) 23 = F 23 := (fn rfl (by decide))
    exact z_iret C hr hlk dX10_fall_61 (by decide) (by decide) ⟨vy276, rfl, rfl, rfl, by omega, ⟨_, _, hMy295, by omega⟩, fun j j1 => by rw [hfvy276 _ (by omega)]; rw [egy25, va_up_ne _ _ (by omega)]⟩

set_option maxRecDepth 100000 in
set_option maxHeartbeats 4000000 in
theorem c_X10_fall_b (l : Launch) (D : va_G) (A : Nat → Prop) (cs : Nat → ClassId) (tt : Nat) (N : Nat) (ad : Nat → Nat) (g : Nat → va_E) (i : Nat) (hN : i + 30 ≤ N) (x : Int) (hx : 0 ≤ x ∧ x ≤ 512) (F r : Nat → Int) (hM : okMr cs ad g i x F r) (z : Int) (hz : -2147483648 ≤ z ∧ z ≤ 2147483647) (hzo : z < 0 ∨ 3 < z) (z1 : Int) (hz1 : -2147483648 ≤ z1 ∧ z1 ≤ 2147483647) (z2 : Int) (hz2 : -2147483648 ≤ z2 ∧ z2 ≤ 2147483647) : zM l yX10_fall cX10_fall 4 (some .int) ({ frames := 6, cells := 0, slots := 0, locals := 360 } : Room) D A cs tt N ad g [.ref (ad i), .int (zI (z)), .int (zI (z1)), .int (zI (z2))] (rI0 N ad fun q g' => (-2147483648 ≤ q ∧ q ≤ 2147483647) ∧ (∃ F' r' : Nat → Int, okMr cs ad g' i (x + 1) F' r' ∧ F' 23 = F 23) ∧ ∀ j, j < i ∨ i + 30 ≤ j → g' j = g j) := by
  obtain ⟨hg, ⟨⟨e13, e14, e25, e27, e29⟩, k15, k16, k17, k18, k19, k20, k23⟩, hRD, hTx, hA, st, op, ai, fa, mu, tb, ns, nh, nd, rf, pi, tp, te, ki, li, ok1, ok2, fo, dd, dps, ⟨ha1, ha2, ha3, ha4, ha5, ha6, ha7, ha8, ha9, ha10, ha11, ha12, ha13, ha14, ha15, ha24, ha25, ha26, ha27, ha28, ha29⟩, hEv, hPt, hns, htp⟩ := id hM
  obtain ⟨-, hop, hai, hfa, hT, hT1⟩ := id hEv
  have hay1 : zAt ad (i) (ad i) := rfl
  have hay2 : zAt ad (i + 1) (ad (i + 1)) := rfl
  have hay3 : zAt ad (i + 2) (ad (i + 2)) := rfl
  have hay4 : zAt ad (i + 3) (ad (i + 3)) := rfl
  have hay5 : zAt ad (i + 4) (ad (i + 4)) := rfl
  have hay6 : zAt ad (i + 5) (ad (i + 5)) := rfl
  have hay7 : zAt ad (i + 6) (ad (i + 6)) := rfl
  have hay8 : zAt ad (i + 7) (ad (i + 7)) := rfl
  have hay9 : zAt ad (i + 8) (ad (i + 8)) := rfl
  have hay10 : zAt ad (i + 9) (ad (i + 9)) := rfl
  have hay11 : zAt ad (i + 10) (ad (i + 10)) := rfl
  have hay12 : zAt ad (i + 11) (ad (i + 11)) := rfl
  have hay13 : zAt ad (i + 12) (ad (i + 12)) := rfl
  have hay14 : zAt ad (i + 13) (ad (i + 13)) := rfl
  have hay15 : zAt ad (i + 14) (ad (i + 14)) := rfl
  have hay16 : zAt ad (i + 15) (ad (i + 15)) := rfl
  have hay17 : zAt ad (i + 24) (ad (i + 24)) := rfl
  have hay18 : zAt ad (i + 25) (ad (i + 25)) := rfl
  have hay19 : zAt ad (i + 26) (ad (i + 26)) := rfl
  have hay20 : zAt ad (i + 27) (ad (i + 27)) := rfl
  have hay21 : zAt ad (i + 28) (ad (i + 28)) := rfl
  have hay22 : zAt ad (i + 29) (ad (i + 29)) := rfl
  obtain ⟨⟨hsyy23, htyy23, hnyy23, hpyy23⟩, hlyy23⟩ := okA.at0 hA
  simp only [Nat.zero_add] at hsyy23 hnyy23 hpyy23
  have hmn : ∀ s, s < 4 → 0 ≤ r (6 + 86 * s) ∧ r (6 + 86 * s) ≤ 12 := fun s hs => (hsyy23 s hs).1
  have h5 : 0 ≤ r 5 ∧ r 5 ≤ 6 := hpyy23
  refine z_of (by decide) (Nat.le_of_ble_eq_true rfl) ?_
  intro pZ eZ sZ mZ below meth cZ C hr hlk hnm
  refine z_lv (lv' := [(0, .ref (ad i)), (1, .int (zI (z))), (2, .int (zI (z1))), (3, .int (zI (z2)))]) [0, 1, 2, 3] rfl ?_
  refine z_aload_n C 0 dX10_fall_0 rfl ?_
  refine z_iconst (z := 0) C dX10_fall_1 rfl ?_
  refine z_put (fs' := mF ad (i) (uZ F 12 (0))) C (by omega) hay1 hg tyX10 tyX10_ok nmX10 rfl inA_X10 12 (by decide) q_1471 rfl rfl rfl rfl (Nat.le_of_ble_eq_true rfl) rfl dX10_fall_2 (fun gy24 egy25 => ?_)
  have hgy26 := up_s egy25
  refine z_iload_n C 1 dX10_fall_5 rfl ?_
  refine z_iconst (z := 0) C dX10_fall_6 rfl ?_
  refine z_aload_n C 0 dX10_fall_7 rfl ?_
  refine z_get (v := .int (zI (F 13))) C (by omega) hay1 hgy26 rfl inA_X10 13 (by decide) q_1472 rfl (fv (F := (uZ F 12 (0))) (f := 13) (fn rfl (by decide))) dX10_fall_8 ?_
  refine z_iconst (z := 1) C dX10_fall_11 rfl ?_
  refine z_isub C dX10_fall_12 ?_
  refine z_cS (As := [.int (zI (z)), .int (zI (0)), .int (zI ((F 13) - 1))]) (rest := []) C (c_X10_within l D A cs tt N ad _ (z) (by omega) (0) (by omega) ((F 13) - 1) (by omega)) ms_yX10_within q_1686 hd_yX10_within (by decide) (Nat.le_of_ble_eq_true rfl) (by decide) dX10_fall_13 rfl (kI0 fun vy27 gvy27 hvy27 => ?_)
  obtain ⟨hvy27, rfl⟩ := hvy27
  obtain rfl : vy27 = 0 := by omega
  refine z_if_eq (tgt := 56) C dX10_fall_16 (by decide) (by omega) (fun _ => ?_) (fun h => absurd h (by omega))
  refine z_aload_n C 0 dX10_fall_56 rfl ?_
  refine z_iconst (z := 1) C dX10_fall_57 rfl ?_
  have hgy28 := up_n egy25 ha11 (ne_o (i := i) (c := 11) (d := 0) rfl)
  refine z_cV (As := [.int (zI (1))]) (rest := []) (ci := 12) C (c_X10_refuses l D A cs tt N ad _ i hN _ hgy26 _ hgy28 (1) (by omega)) (by omega) hay1 hgy26 rfl rfl mv_yX10_refuses q_1866 hd_yX10_refuses (by decide) (Nat.le_of_ble_eq_true rfl) (by decide) dX10_fall_58 rfl (kI0 fun vy29 gvy29 hvy29 => ?_)
  obtain ⟨hrvy29, ⟨tvy29, hdvy29⟩, hfvy29⟩ := hvy29
  have hgy30 := (hfvy29 (i) (ne_o (i := i) (c := 0) (d := 11) rfl)).trans hgy26
  have hgy31 := up_n egy25 ha1 (ne_o (i := i) (c := 1) (d := 0) rfl)
  have hgy32 := (hfvy29 (i + 1) (ne_o (i := i) (c := 1) (d := 11) rfl)).trans hgy31
  have hFy33 : ∀ f, f ≠ 12 → (uZ F 12 (0)) f = F f := fun f n12 => ((uZ_n _ _ n12).trans rfl)
  have hey34 : (uZ F 12 (0)) 13 = F 13 := (fn rfl (by decide))
  have hey35 : (uZ F 12 (0)) 14 = F 14 := (fn rfl (by decide))
  have hey36 : (uZ F 12 (0)) 15 = F 15 := (fn rfl (by decide))
  have hey37 : (uZ F 12 (0)) 16 = F 16 := (fn rfl (by decide))
  have hey38 : (uZ F 12 (0)) 17 = F 17 := (fn rfl (by decide))
  have hey39 : (uZ F 12 (0)) 18 = F 18 := (fn rfl (by decide))
  have hey40 : (uZ F 12 (0)) 19 = F 19 := (fn rfl (by decide))
  have hey41 : (uZ F 12 (0)) 20 = F 20 := (fn rfl (by decide))
  have hey42 : (uZ F 12 (0)) 23 = F 23 := (fn rfl (by decide))
  have hey43 : (uZ F 12 (0)) 25 = F 25 := (fn rfl (by decide))
  have hey44 : (uZ F 12 (0)) 27 = F 27 := (fn rfl (by decide))
  have hey45 : (uZ F 12 (0)) 28 = F 28 := (fn rfl (by decide))
  have hey46 : (uZ F 12 (0)) 29 = F 29 := (fn rfl (by decide))
  have hKy47 : okF (uZ F 12 (0)) := by unfold okF; omega
  have hMy48 : okMr cs ad gvy29 i (x + 1) (uZ F 12 (0)) r := okMr.upd hM hgy30 hKy47 (fun f a => hFy33 f (by omega)) hgy32 (hA.mono (by omega)) (fun j a b => by
      by_cases e0 : j = i + 11
      · exact Or.inr ⟨11, _, e0, lsP.l (by decide), by rw [e0]; exact hdvy29⟩
      exact Or.inl (by rw [hfvy29 _ (by omega)]; rw [egy25, va_up_ne _ _ (by omega)]))
  have h23 : (uZ F 12 (0)) 23 = F 23 := (fn rfl (by decide))
  exact z_iret C hr hlk dX10_fall_61 (by decide) (by decide) ⟨vy29, rfl, rfl, rfl, by omega, ⟨_, _, hMy48, by omega⟩, fun j j1 => by rw [hfvy29 _ (by omega)]; rw [egy25, va_up_ne _ _ (by omega)]⟩

set_option maxRecDepth 100000 in
set_option maxHeartbeats 4000000 in
theorem c_X10_fall (l : Launch) (D : va_G) (A : Nat → Prop) (cs : Nat → ClassId) (tt : Nat) (N : Nat) (ad : Nat → Nat) (g : Nat → va_E) (i : Nat) (hN : i + 30 ≤ N) (x : Int) (hx : 0 ≤ x ∧ x ≤ 512) (F r : Nat → Int) (hM : okMr cs ad g i x F r) (z : Int) (hz : -2147483648 ≤ z ∧ z ≤ 2147483647) (z1 : Int) (hz1 : -2147483648 ≤ z1 ∧ z1 ≤ 2147483647) (z2 : Int) (hz2 : -2147483648 ≤ z2 ∧ z2 ≤ 2147483647) : zM l yX10_fall cX10_fall 4 (some .int) ({ frames := 6, cells := 0, slots := 0, locals := 360 } : Room) D A cs tt N ad g [.ref (ad i), .int (zI (z)), .int (zI (z1)), .int (zI (z2))] (rI0 N ad fun q g' => (-2147483648 ≤ q ∧ q ≤ 2147483647) ∧ (∃ F' r' : Nat → Int, okMr cs ad g' i (x + 1) F' r' ∧ F' 23 = F 23) ∧ ∀ j, j < i ∨ i + 30 ≤ j → g' j = g j) := by
  by_cases h9 : 0 ≤ z ∧ z ≤ 3
  · obtain ⟨n, rfl⟩ : ∃ n : Nat, z = (n : Int) := ⟨z.toNat, by omega⟩
    exact c_X10_fall_a l D A cs tt N ad g i hN x hx F r hM n (by omega) z1 hz1 z2 hz2
  · exact c_X10_fall_b l D A cs tt N ad g i hN x hx F r hM z hz (by omega) z1 hz1 z2 hz2

set_option maxRecDepth 100000 in
set_option maxHeartbeats 4000000 in
theorem c_X10_dig_a (l : Launch) (D : va_G) (A : Nat → Prop) (cs : Nat → ClassId) (tt : Nat) (N : Nat) (ad : Nat → Nat) (g : Nat → va_E) (i : Nat) (hN : i + 30 ≤ N) (x : Int) (hx : 0 ≤ x ∧ x ≤ 512) (F r : Nat → Int) (hM : okMr cs ad g i x F r) (n : Nat) (hn4 : n < 4) : zM l yX10_dig cX10_dig 3 (some .int) ({ frames := 5, cells := 0, slots := 0, locals := 300 } : Room) D A cs tt N ad g [.ref (ad i), .int (zI ((n : Int)))] (rI0 N ad fun q g' => (-2147483648 ≤ q ∧ q ≤ 2147483647) ∧ (∃ F' r' : Nat → Int, okMr cs ad g' i (x + 1) F' r' ∧ F' 23 = F 23) ∧ ∀ j, j < i ∨ i + 30 ≤ j → g' j = g j) := by
  obtain ⟨hg, ⟨⟨e13, e14, e25, e27, e29⟩, k15, k16, k17, k18, k19, k20, k23⟩, hRD, hTx, hA, st, op, ai, fa, mu, tb, ns, nh, nd, rf, pi, tp, te, ki, li, ok1, ok2, fo, dd, dps, ⟨ha1, ha2, ha3, ha4, ha5, ha6, ha7, ha8, ha9, ha10, ha11, ha12, ha13, ha14, ha15, ha24, ha25, ha26, ha27, ha28, ha29⟩, hEv, hPt, hns, htp⟩ := id hM
  obtain ⟨-, hop, hai, hfa, hT, hT1⟩ := id hEv
  have hay1 : zAt ad (i) (ad i) := rfl
  have hay2 : zAt ad (i + 1) (ad (i + 1)) := rfl
  have hay3 : zAt ad (i + 2) (ad (i + 2)) := rfl
  have hay4 : zAt ad (i + 3) (ad (i + 3)) := rfl
  have hay5 : zAt ad (i + 4) (ad (i + 4)) := rfl
  have hay6 : zAt ad (i + 5) (ad (i + 5)) := rfl
  have hay7 : zAt ad (i + 6) (ad (i + 6)) := rfl
  have hay8 : zAt ad (i + 7) (ad (i + 7)) := rfl
  have hay9 : zAt ad (i + 8) (ad (i + 8)) := rfl
  have hay10 : zAt ad (i + 9) (ad (i + 9)) := rfl
  have hay11 : zAt ad (i + 10) (ad (i + 10)) := rfl
  have hay12 : zAt ad (i + 11) (ad (i + 11)) := rfl
  have hay13 : zAt ad (i + 12) (ad (i + 12)) := rfl
  have hay14 : zAt ad (i + 13) (ad (i + 13)) := rfl
  have hay15 : zAt ad (i + 14) (ad (i + 14)) := rfl
  have hay16 : zAt ad (i + 15) (ad (i + 15)) := rfl
  have hay17 : zAt ad (i + 24) (ad (i + 24)) := rfl
  have hay18 : zAt ad (i + 25) (ad (i + 25)) := rfl
  have hay19 : zAt ad (i + 26) (ad (i + 26)) := rfl
  have hay20 : zAt ad (i + 27) (ad (i + 27)) := rfl
  have hay21 : zAt ad (i + 28) (ad (i + 28)) := rfl
  have hay22 : zAt ad (i + 29) (ad (i + 29)) := rfl
  obtain ⟨⟨hsyy23, htyy23, hnyy23, hpyy23⟩, hlyy23⟩ := okA.at0 hA
  simp only [Nat.zero_add] at hsyy23 hnyy23 hpyy23
  have hmn : ∀ s, s < 4 → 0 ≤ r (6 + 86 * s) ∧ r (6 + 86 * s) ≤ 12 := fun s hs => (hsyy23 s hs).1
  have h5 : 0 ≤ r 5 ∧ r 5 ≤ 6 := hpyy23
  refine z_of (by decide) (Nat.le_of_ble_eq_true rfl) ?_
  intro pZ eZ sZ mZ below meth cZ C hr hlk hnm
  refine z_lv (lv' := [(0, .ref (ad i)), (1, .int (zI ((n : Int))))]) [0, 1] rfl ?_
  refine z_aload_n C 0 dX10_dig_0 rfl ?_
  refine z_iconst (z := 0) C dX10_dig_1 rfl ?_
  refine z_put (fs' := mF ad (i) (uZ F 12 (0))) C (by omega) hay1 hg tyX10 tyX10_ok nmX10 rfl inA_X10 12 (by decide) q_1471 rfl rfl rfl rfl (Nat.le_of_ble_eq_true rfl) rfl dX10_dig_2 (fun gy24 egy25 => ?_)
  have hgy26 := up_s egy25
  refine z_iload_n C 1 dX10_dig_5 rfl ?_
  refine z_iconst (z := 0) C dX10_dig_6 rfl ?_
  refine z_aload_n C 0 dX10_dig_7 rfl ?_
  refine z_get (v := .int (zI (F 13))) C (by omega) hay1 hgy26 rfl inA_X10 13 (by decide) q_1472 rfl (fv (F := (uZ F 12 (0))) (f := 13) (fn rfl (by decide))) dX10_dig_8 ?_
  refine z_iconst (z := 1) C dX10_dig_11 rfl ?_
  refine z_isub C dX10_dig_12 ?_
  refine z_cS (As := [.int (zI ((n : Int))), .int (zI (0)), .int (zI ((F 13) - 1))]) (rest := []) C (c_X10_within l D A cs tt N ad _ ((n : Int)) (by omega) (0) (by omega) ((F 13) - 1) (by omega)) ms_yX10_within q_1686 hd_yX10_within (by decide) (Nat.le_of_ble_eq_true rfl) (by decide) dX10_dig_13 rfl (kI0 fun vy27 gvy27 hvy27 => ?_)
  obtain ⟨hvy27, rfl⟩ := hvy27
  rcases hvy27 with ⟨rfl, hxvy27⟩ | ⟨rfl, hxvy27⟩
  · refine z_if_eq (tgt := 28) C dX10_dig_16 (by decide) (by omega) (fun h => absurd h (by omega)) (fun _ => ?_)
    refine z_aload_n C 0 dX10_dig_19 rfl ?_
    refine z_iconst (z := 0) C dX10_dig_20 rfl ?_
    refine z_iload_n C 1 dX10_dig_21 rfl ?_
    obtain ⟨py28, hpy28⟩ : ∃ p9 : Nat, 0 + 6 + 86 * n = p9 := ⟨_, rfl⟩
    have hmyy29 := ((okA.at0 hA).1.1 n (by omega)).1
    rw [hpy28] at hmyy29
    have hgy30 := up_n egy25 ha1 (ne_o (i := i) (c := 1) (d := 0) rfl)
    refine z_cV (As := [.int (zI (0)), .int (zI ((n : Int)))]) (rest := []) (ci := 12) C (c_X10_many l D A cs tt N ad _ i hN _ hgy26 _ hgy30 0 n py28 hpy28 (by omega) (by omega)) (by omega) hay1 hgy26 rfl rfl mv_yX10_many q_1733 hd_yX10_many (by decide) (Nat.le_of_ble_eq_true rfl) (by decide) dX10_dig_22 rfl (kI0 fun vy31 gvy31 hvy31 => ?_)
    obtain ⟨rfl, rfl⟩ := hvy31
    refine z_if_ne (tgt := 34) C dX10_dig_25 (by decide) (by omega) (fun hby32 => ?_) (fun hby32 => ?_)
    · refine z_aload_n C 0 dX10_dig_34 rfl ?_
      have hey34 : (uZ F 12 (0)) 15 = F 15 := (fn rfl (by decide))
      have hey35 : (uZ F 12 (0)) 16 = F 16 := (fn rfl (by decide))
      refine z_cV (As := []) (rest := []) (ci := 12) C (c_X10_keeps l D A cs tt N ad _ i hN _ hgy26 _ hgy30 (x) hA (by omega) (by omega)) (by omega) hay1 hgy26 rfl rfl mv_yX10_keeps q_1870 hd_yX10_keeps (by decide) (Nat.le_of_ble_eq_true rfl) (by decide) dX10_dig_35 rfl (kV0 fun gvy33 hvy33 => ?_)
      obtain ⟨⟨Fvy33, hcvy33, hbvy33, hFvy33⟩, ⟨rvy33, hdvy33, hAvy33, hyvy33⟩, hfvy33⟩ := hvy33
      have hk0vy33 : rvy33 0 = r 0 := hyvy33 0 (by omega)
      have hk1vy33 : rvy33 1 = r 1 := hyvy33 1 (by omega)
      have hk5vy33 : rvy33 5 = r 5 := hyvy33 5 (by omega)
      have hkpy36 : rvy33 py28 = r py28 := hyvy33 py28 (by omega)
      obtain ⟨⟨hsyy37, htyy37, hnyy37, hpyy37⟩, hlyy37⟩ := okA.at0 hAvy33
      simp only [Nat.zero_add] at hsyy37 hnyy37 hpyy37
      have hmn : ∀ s, s < 4 → 0 ≤ rvy33 (6 + 86 * s) ∧ rvy33 (6 + 86 * s) ≤ 12 := fun s hs => (hsyy37 s hs).1
      have h5 : 0 ≤ rvy33 5 ∧ rvy33 5 ≤ 6 := hpyy37
      refine z_aload_n C 0 dX10_dig_38 rfl ?_
      refine z_iconst (z := 0) C dX10_dig_39 rfl ?_
      refine z_iload_n C 1 dX10_dig_40 rfl ?_
      refine z_aload_n C 0 dX10_dig_41 rfl ?_
      refine z_iconst (z := 0) C dX10_dig_42 rfl ?_
      refine z_iload_n C 1 dX10_dig_43 rfl ?_
      have hmyy38 := ((okA.at0 hAvy33).1.1 n (by omega)).1
      rw [hpy28] at hmyy38
      rw [show rvy33 (py28) = r (py28) from (hyvy33 _ (by omega)).trans (rfl)] at hmyy38
      refine z_cV (As := [.int (zI (0)), .int (zI ((n : Int)))]) (rest := [.int (zI ((n : Int))), .int (zI (0)), .ref (ad i)]) (ci := 12) C (c_X10_many l D A cs tt N ad _ i hN _ hcvy33 _ hdvy33 0 n py28 hpy28 (by omega) (by omega)) (by omega) hay1 hcvy33 rfl rfl mv_yX10_many q_1733 hd_yX10_many (by decide) (Nat.le_of_ble_eq_true rfl) (by decide) dX10_dig_44 rfl (kI0 fun vy39 gvy39 hvy39 => ?_)
      obtain ⟨rfl, rfl⟩ := hvy39
      rw [show rvy33 (py28) = r (py28) from (hyvy33 _ (by omega)).trans (rfl)]
      refine z_iconst (z := 1) C dX10_dig_47 rfl ?_
      refine z_isub C dX10_dig_48 ?_
      refine z_bipush (z := 6) C dX10_dig_49 (by decide) ?_
      obtain ⟨ky40, hky40⟩ : ∃ k9 : Nat, ((r (py28)) - 1) = (k9 : Int) := ⟨(((r (py28)) - 1) : Int).toNat, by omega⟩
      obtain ⟨qy41, hqy41⟩ : ∃ q9 : Nat, py28 + 2 + 7 * ky40 = q9 := ⟨_, rfl⟩
      refine z_cV (As := [.int (zI (0)), .int (zI ((n : Int))), .int (zI ((r (py28)) - 1)), .int (zI (6))]) (rest := []) (ci := 12) C (c_X10_of l D A cs tt N ad _ i hN _ hcvy33 _ hdvy33 0 n py28 hpy28 (by omega) (by omega) ((r (py28)) - 1) (6) (qy41 + 6) (by omega) (by omega) (by omega)) (by omega) hay1 hcvy33 rfl rfl mv_yX10_of q_1749 hd_yX10_of (by decide) (Nat.le_of_ble_eq_true rfl) (by decide) dX10_dig_51 rfl (kI0 fun vy42 gvy42 hvy42 => ?_)
      obtain ⟨rfl, rfl⟩ := hvy42
      rw [show rvy33 (qy41 + 6) = r (qy41 + 6) from (hyvy33 _ (by omega)).trans (rfl)]
      refine z_istore_n (lv' := [(2, .int (zI (r (qy41 + 6)))), (0, .ref (ad i)), (1, .int (zI ((n : Int))))]) C dX10_dig_54 rfl (by decide) rfl ?_
      refine z_aload_n C 1 dX10_dig_55 rfl ?_
      refine z_iconst (z := 0) C dX10_dig_56 rfl ?_
      refine z_iload_n C 2 dX10_dig_57 rfl ?_
      have hSy43 := ((okA.at0 hAvy33).1.1 n (by omega)).of (p2 := py28) (by omega)
      obtain ⟨b1hSy43, b2hSy43, b3hSy43, b4hSy43⟩ := mBb (t := rvy33 0 + x) (by omega)
      have hmky44 := hSy43.1
      have hcy45n := (okA.at0 hAvy33).1.2.2.1
      have hcy45t := (okA.at0 hAvy33).1.2.1
      refine z_cV (As := [.int (zI (0)), .int (zI ((n : Int)))]) (rest := []) (ci := 12) C (c_X10_digs l D A cs tt N ad _ i hN _ hcvy33 _ hdvy33 0 n py28 hpy28 (by omega) (by omega) (mB (rvy33 0 + x)) (eB (rvy33 0 + x)) (by omega) (by omega) hSy43 (by omega)) (by omega) hay1 hcvy33 rfl rfl mv_yX10_digs q_1956 hd_yX10_digs (by decide) (Nat.le_of_ble_eq_true rfl) (by decide) dX10_dig_58 rfl (kV0 fun gvy46 hvy46 => ?_)
      obtain ⟨⟨rvy46, hcvy46, hovy46, hyvy46⟩, hfvy46⟩ := hvy46
      have hcy450 : rvy46 0 = rvy33 0 := (hyvy46 0 (by omega) (by omega) (by omega) (by omega))
      have hcy45 : okW rvy46 0 (x) := okW.slope0 (okA.at0 hAvy33).1 (s := n) (p := py28) (by omega) (by omega) hovy46 (fun j a1 a2 a3 a4 a5 a6 => hyvy46 j a3 a4 a5 a6)
      have hAy47 : okA rvy46 (x) := okA.first hAvy33 (Int.le_refl _) (fun j a => (hyvy46 j (by omega) (by omega) (by omega) (by omega))) hcy45 (by omega)
      obtain ⟨⟨hsyy48, htyy48, hnyy48, hpyy48⟩, hlyy48⟩ := okA.at0 hAy47
      simp only [Nat.zero_add] at hsyy48 hnyy48 hpyy48
      have hmn : ∀ s, s < 4 → 0 ≤ rvy46 (6 + 86 * s) ∧ rvy46 (6 + 86 * s) ≤ 12 := fun s hs => (hsyy48 s hs).1
      have h5 : 0 ≤ rvy46 5 ∧ rvy46 5 ≤ 6 := hpyy48
      refine z_iload_n C 0 dX10_dig_61 rfl ?_
      obtain ⟨xy49, exy50, hxy51⟩ := zI_of (zI (r (qy41 + 6)))
      rw [exy50]
      have hgy52 := (hfvy46 (i) (ne_o (i := i) (c := 0) (d := 1) rfl)).trans hcvy33
      have hFy53 : ∀ f, f ≠ 12 → f ≠ 15 → f ≠ 16 → Fvy33 f = F f := fun f n12 n15 n16 => ((hFvy33 f n15 n16).trans ((uZ_n _ _ n12).trans rfl))
      have hey54 : Fvy33 13 = F 13 := ((hFvy33 13 (by decide) (by decide)).trans (fn rfl (by decide)))
      have hey55 : Fvy33 14 = F 14 := ((hFvy33 14 (by decide) (by decide)).trans (fn rfl (by decide)))
      have hey56 : Fvy33 15 = Fvy33 15 := rfl
      have hey57 : Fvy33 16 = Fvy33 16 := rfl
      have hey58 : Fvy33 17 = F 17 := ((hFvy33 17 (by decide) (by decide)).trans (fn rfl (by decide)))
      have hey59 : Fvy33 18 = F 18 := ((hFvy33 18 (by decide) (by decide)).trans (fn rfl (by decide)))
      have hey60 : Fvy33 19 = F 19 := ((hFvy33 19 (by decide) (by decide)).trans (fn rfl (by decide)))
      have hey61 : Fvy33 20 = F 20 := ((hFvy33 20 (by decide) (by decide)).trans (fn rfl (by decide)))
      have hey62 : Fvy33 23 = F 23 := ((hFvy33 23 (by decide) (by decide)).trans (fn rfl (by decide)))
      have hey63 : Fvy33 25 = F 25 := ((hFvy33 25 (by decide) (by decide)).trans (fn rfl (by decide)))
      have hey64 : Fvy33 27 = F 27 := ((hFvy33 27 (by decide) (by decide)).trans (fn rfl (by decide)))
      have hey65 : Fvy33 28 = F 28 := ((hFvy33 28 (by decide) (by decide)).trans (fn rfl (by decide)))
      have hey66 : Fvy33 29 = F 29 := ((hFvy33 29 (by decide) (by decide)).trans (fn rfl (by decide)))
      have hKy67 : okF Fvy33 := by unfold okF; omega
      have hMy68 : okMr cs ad gvy46 i (x + 1) Fvy33 rvy46 := okMr.upd hM hgy52 hKy67 (fun f a => hFy53 f (by omega) (by omega) (by omega)) hcvy46 (hAy47.mono (by omega)) (fun j a b => by
          exact Or.inl (by rw [hfvy46 _ (by omega)]; rw [hfvy33 _ (by omega) (by omega)]; rw [egy25, va_up_ne _ _ (by omega)]))
      have h23 : Fvy33 23 = F 23 := ((hFvy33 23 (by decide) (by decide)).trans (fn rfl (by decide)))
      exact z_iret C hr hlk dX10_dig_62 (by decide) (by decide) ⟨xy49, rfl, rfl, rfl, by omega, ⟨_, _, hMy68, by omega⟩, fun j j1 => by rw [hfvy46 _ (by omega)]; rw [hfvy33 _ (by omega) (by omega)]; rw [egy25, va_up_ne _ _ (by omega)]⟩
    · refine z_aload_n C 0 dX10_dig_28 rfl ?_
      refine z_iconst (z := 1) C dX10_dig_29 rfl ?_
      have hgy69 := up_n egy25 ha11 (ne_o (i := i) (c := 11) (d := 0) rfl)
      refine z_cV (As := [.int (zI (1))]) (rest := []) (ci := 12) C (c_X10_refuses l D A cs tt N ad _ i hN _ hgy26 _ hgy69 (1) (by omega)) (by omega) hay1 hgy26 rfl rfl mv_yX10_refuses q_1866 hd_yX10_refuses (by decide) (Nat.le_of_ble_eq_true rfl) (by decide) dX10_dig_30 rfl (kI0 fun vy70 gvy70 hvy70 => ?_)
      obtain ⟨hrvy70, ⟨tvy70, hdvy70⟩, hfvy70⟩ := hvy70
      have hgy71 := (hfvy70 (i) (ne_o (i := i) (c := 0) (d := 11) rfl)).trans hgy26
      have hgy72 := (hfvy70 (i + 1) (ne_o (i := i) (c := 1) (d := 11) rfl)).trans hgy30
      have hFy73 : ∀ f, f ≠ 12 → (uZ F 12 (0)) f = F f := fun f n12 => ((uZ_n _ _ n12).trans rfl)
      have hey74 : (uZ F 12 (0)) 13 = F 13 := (fn rfl (by decide))
      have hey75 : (uZ F 12 (0)) 14 = F 14 := (fn rfl (by decide))
      have hey76 : (uZ F 12 (0)) 15 = F 15 := (fn rfl (by decide))
      have hey77 : (uZ F 12 (0)) 16 = F 16 := (fn rfl (by decide))
      have hey78 : (uZ F 12 (0)) 17 = F 17 := (fn rfl (by decide))
      have hey79 : (uZ F 12 (0)) 18 = F 18 := (fn rfl (by decide))
      have hey80 : (uZ F 12 (0)) 19 = F 19 := (fn rfl (by decide))
      have hey81 : (uZ F 12 (0)) 20 = F 20 := (fn rfl (by decide))
      have hey82 : (uZ F 12 (0)) 23 = F 23 := (fn rfl (by decide))
      have hey83 : (uZ F 12 (0)) 25 = F 25 := (fn rfl (by decide))
      have hey84 : (uZ F 12 (0)) 27 = F 27 := (fn rfl (by decide))
      have hey85 : (uZ F 12 (0)) 28 = F 28 := (fn rfl (by decide))
      have hey86 : (uZ F 12 (0)) 29 = F 29 := (fn rfl (by decide))
      have hKy87 : okF (uZ F 12 (0)) := by unfold okF; omega
      have hMy88 : okMr cs ad gvy70 i (x + 1) (uZ F 12 (0)) r := okMr.upd hM hgy71 hKy87 (fun f a => hFy73 f (by omega)) hgy72 (hA.mono (by omega)) (fun j a b => by
          by_cases e0 : j = i + 11
          · exact Or.inr ⟨11, _, e0, lsP.l (by decide), by rw [e0]; exact hdvy70⟩
          exact Or.inl (by rw [hfvy70 _ (by omega)]; rw [egy25, va_up_ne _ _ (by omega)]))
      have h23 : (uZ F 12 (0)) 23 = F 23 := (fn rfl (by decide))
      exact z_iret C hr hlk dX10_dig_33 (by decide) (by decide) ⟨vy70, rfl, rfl, rfl, by omega, ⟨_, _, hMy88, by omega⟩, fun j j1 => by rw [hfvy70 _ (by omega)]; rw [egy25, va_up_ne _ _ (by omega)]⟩
  · refine z_if_eq (tgt := 28) C dX10_dig_16 (by decide) (by omega) (fun _ => ?_) (fun h => absurd h (by omega))
    refine z_aload_n C 0 dX10_dig_28 rfl ?_
    refine z_iconst (z := 1) C dX10_dig_29 rfl ?_
    have hgy89 := up_n egy25 ha11 (ne_o (i := i) (c := 11) (d := 0) rfl)
    refine z_cV (As := [.int (zI (1))]) (rest := []) (ci := 12) C (c_X10_refuses l D A cs tt N ad _ i hN _ hgy26 _ hgy89 (1) (by omega)) (by omega) hay1 hgy26 rfl rfl mv_yX10_refuses q_1866 hd_yX10_refuses (by decide) (Nat.le_of_ble_eq_true rfl) (by decide) dX10_dig_30 rfl (kI0 fun vy90 gvy90 hvy90 => ?_)
    obtain ⟨hrvy90, ⟨tvy90, hdvy90⟩, hfvy90⟩ := hvy90
    have hgy91 := (hfvy90 (i) (ne_o (i := i) (c := 0) (d := 11) rfl)).trans hgy26
    have hgy92 := up_n egy25 ha1 (ne_o (i := i) (c := 1) (d := 0) rfl)
    have hgy93 := (hfvy90 (i + 1) (ne_o (i := i) (c := 1) (d := 11) rfl)).trans hgy92
    have hFy94 : ∀ f, f ≠ 12 → (uZ F 12 (0)) f = F f := fun f n12 => ((uZ_n _ _ n12).trans rfl)
    have hey95 : (uZ F 12 (0)) 13 = F 13 := (fn rfl (by decide))
    have hey96 : (uZ F 12 (0)) 14 = F 14 := (fn rfl (by decide))
    have hey97 : (uZ F 12 (0)) 15 = F 15 := (fn rfl (by decide))
    have hey98 : (uZ F 12 (0)) 16 = F 16 := (fn rfl (by decide))
    have hey99 : (uZ F 12 (0)) 17 = F 17 := (fn rfl (by decide))
    have hey100 : (uZ F 12 (0)) 18 = F 18 := (fn rfl (by decide))
    have hey101 : (uZ F 12 (0)) 19 = F 19 := (fn rfl (by decide))
    have hey102 : (uZ F 12 (0)) 20 = F 20 := (fn rfl (by decide))
    have hey103 : (uZ F 12 (0)) 23 = F 23 := (fn rfl (by decide))
    have hey104 : (uZ F 12 (0)) 25 = F 25 := (fn rfl (by decide))
    have hey105 : (uZ F 12 (0)) 27 = F 27 := (fn rfl (by decide))
    have hey106 : (uZ F 12 (0)) 28 = F 28 := (fn rfl (by decide))
    have hey107 : (uZ F 12 (0)) 29 = F 29 := (fn rfl (by decide))
    have hKy108 : okF (uZ F 12 (0)) := by unfold okF; omega
    have hMy109 : okMr cs ad gvy90 i (x + 1) (uZ F 12 (0)) r := okMr.upd hM hgy91 hKy108 (fun f a => hFy94 f (by omega)) hgy93 (hA.mono (by omega)) (fun j a b => by
        by_cases e0 : j = i + 11
        · exact Or.inr ⟨11, _, e0, lsP.l (by decide), by rw [e0]; exact hdvy90⟩
        exact Or.inl (by rw [hfvy90 _ (by omega)]; rw [egy25, va_up_ne _ _ (by omega)]))
    have h23 : (uZ F 12 (0)) 23 = F 23 := (fn rfl (by decide))
    exact z_iret C hr hlk dX10_dig_33 (by decide) (by decide) ⟨vy90, rfl, rfl, rfl, by omega, ⟨_, _, hMy109, by omega⟩, fun j j1 => by rw [hfvy90 _ (by omega)]; rw [egy25, va_up_ne _ _ (by omega)]⟩

set_option maxRecDepth 100000 in
set_option maxHeartbeats 4000000 in
theorem c_X10_dig_b (l : Launch) (D : va_G) (A : Nat → Prop) (cs : Nat → ClassId) (tt : Nat) (N : Nat) (ad : Nat → Nat) (g : Nat → va_E) (i : Nat) (hN : i + 30 ≤ N) (x : Int) (hx : 0 ≤ x ∧ x ≤ 512) (F r : Nat → Int) (hM : okMr cs ad g i x F r) (z : Int) (hz : -2147483648 ≤ z ∧ z ≤ 2147483647) (hzo : z < 0 ∨ 3 < z) : zM l yX10_dig cX10_dig 3 (some .int) ({ frames := 5, cells := 0, slots := 0, locals := 300 } : Room) D A cs tt N ad g [.ref (ad i), .int (zI (z))] (rI0 N ad fun q g' => (-2147483648 ≤ q ∧ q ≤ 2147483647) ∧ (∃ F' r' : Nat → Int, okMr cs ad g' i (x + 1) F' r' ∧ F' 23 = F 23) ∧ ∀ j, j < i ∨ i + 30 ≤ j → g' j = g j) := by
  obtain ⟨hg, ⟨⟨e13, e14, e25, e27, e29⟩, k15, k16, k17, k18, k19, k20, k23⟩, hRD, hTx, hA, st, op, ai, fa, mu, tb, ns, nh, nd, rf, pi, tp, te, ki, li, ok1, ok2, fo, dd, dps, ⟨ha1, ha2, ha3, ha4, ha5, ha6, ha7, ha8, ha9, ha10, ha11, ha12, ha13, ha14, ha15, ha24, ha25, ha26, ha27, ha28, ha29⟩, hEv, hPt, hns, htp⟩ := id hM
  obtain ⟨-, hop, hai, hfa, hT, hT1⟩ := id hEv
  have hay1 : zAt ad (i) (ad i) := rfl
  have hay2 : zAt ad (i + 1) (ad (i + 1)) := rfl
  have hay3 : zAt ad (i + 2) (ad (i + 2)) := rfl
  have hay4 : zAt ad (i + 3) (ad (i + 3)) := rfl
  have hay5 : zAt ad (i + 4) (ad (i + 4)) := rfl
  have hay6 : zAt ad (i + 5) (ad (i + 5)) := rfl
  have hay7 : zAt ad (i + 6) (ad (i + 6)) := rfl
  have hay8 : zAt ad (i + 7) (ad (i + 7)) := rfl
  have hay9 : zAt ad (i + 8) (ad (i + 8)) := rfl
  have hay10 : zAt ad (i + 9) (ad (i + 9)) := rfl
  have hay11 : zAt ad (i + 10) (ad (i + 10)) := rfl
  have hay12 : zAt ad (i + 11) (ad (i + 11)) := rfl
  have hay13 : zAt ad (i + 12) (ad (i + 12)) := rfl
  have hay14 : zAt ad (i + 13) (ad (i + 13)) := rfl
  have hay15 : zAt ad (i + 14) (ad (i + 14)) := rfl
  have hay16 : zAt ad (i + 15) (ad (i + 15)) := rfl
  have hay17 : zAt ad (i + 24) (ad (i + 24)) := rfl
  have hay18 : zAt ad (i + 25) (ad (i + 25)) := rfl
  have hay19 : zAt ad (i + 26) (ad (i + 26)) := rfl
  have hay20 : zAt ad (i + 27) (ad (i + 27)) := rfl
  have hay21 : zAt ad (i + 28) (ad (i + 28)) := rfl
  have hay22 : zAt ad (i + 29) (ad (i + 29)) := rfl
  obtain ⟨⟨hsyy23, htyy23, hnyy23, hpyy23⟩, hlyy23⟩ := okA.at0 hA
  simp only [Nat.zero_add] at hsyy23 hnyy23 hpyy23
  have hmn : ∀ s, s < 4 → 0 ≤ r (6 + 86 * s) ∧ r (6 + 86 * s) ≤ 12 := fun s hs => (hsyy23 s hs).1
  have h5 : 0 ≤ r 5 ∧ r 5 ≤ 6 := hpyy23
  refine z_of (by decide) (Nat.le_of_ble_eq_true rfl) ?_
  intro pZ eZ sZ mZ below meth cZ C hr hlk hnm
  refine z_lv (lv' := [(0, .ref (ad i)), (1, .int (zI (z)))]) [0, 1] rfl ?_
  refine z_aload_n C 0 dX10_dig_0 rfl ?_
  refine z_iconst (z := 0) C dX10_dig_1 rfl ?_
  refine z_put (fs' := mF ad (i) (uZ F 12 (0))) C (by omega) hay1 hg tyX10 tyX10_ok nmX10 rfl inA_X10 12 (by decide) q_1471 rfl rfl rfl rfl (Nat.le_of_ble_eq_true rfl) rfl dX10_dig_2 (fun gy24 egy25 => ?_)
  have hgy26 := up_s egy25
  refine z_iload_n C 1 dX10_dig_5 rfl ?_
  refine z_iconst (z := 0) C dX10_dig_6 rfl ?_
  refine z_aload_n C 0 dX10_dig_7 rfl ?_
  refine z_get (v := .int (zI (F 13))) C (by omega) hay1 hgy26 rfl inA_X10 13 (by decide) q_1472 rfl (fv (F := (uZ F 12 (0))) (f := 13) (fn rfl (by decide))) dX10_dig_8 ?_
  refine z_iconst (z := 1) C dX10_dig_11 rfl ?_
  refine z_isub C dX10_dig_12 ?_
  refine z_cS (As := [.int (zI (z)), .int (zI (0)), .int (zI ((F 13) - 1))]) (rest := []) C (c_X10_within l D A cs tt N ad _ (z) (by omega) (0) (by omega) ((F 13) - 1) (by omega)) ms_yX10_within q_1686 hd_yX10_within (by decide) (Nat.le_of_ble_eq_true rfl) (by decide) dX10_dig_13 rfl (kI0 fun vy27 gvy27 hvy27 => ?_)
  obtain ⟨hvy27, rfl⟩ := hvy27
  obtain rfl : vy27 = 0 := by omega
  refine z_if_eq (tgt := 28) C dX10_dig_16 (by decide) (by omega) (fun _ => ?_) (fun h => absurd h (by omega))
  refine z_aload_n C 0 dX10_dig_28 rfl ?_
  refine z_iconst (z := 1) C dX10_dig_29 rfl ?_
  have hgy28 := up_n egy25 ha11 (ne_o (i := i) (c := 11) (d := 0) rfl)
  refine z_cV (As := [.int (zI (1))]) (rest := []) (ci := 12) C (c_X10_refuses l D A cs tt N ad _ i hN _ hgy26 _ hgy28 (1) (by omega)) (by omega) hay1 hgy26 rfl rfl mv_yX10_refuses q_1866 hd_yX10_refuses (by decide) (Nat.le_of_ble_eq_true rfl) (by decide) dX10_dig_30 rfl (kI0 fun vy29 gvy29 hvy29 => ?_)
  obtain ⟨hrvy29, ⟨tvy29, hdvy29⟩, hfvy29⟩ := hvy29
  have hgy30 := (hfvy29 (i) (ne_o (i := i) (c := 0) (d := 11) rfl)).trans hgy26
  have hgy31 := up_n egy25 ha1 (ne_o (i := i) (c := 1) (d := 0) rfl)
  have hgy32 := (hfvy29 (i + 1) (ne_o (i := i) (c := 1) (d := 11) rfl)).trans hgy31
  have hFy33 : ∀ f, f ≠ 12 → (uZ F 12 (0)) f = F f := fun f n12 => ((uZ_n _ _ n12).trans rfl)
  have hey34 : (uZ F 12 (0)) 13 = F 13 := (fn rfl (by decide))
  have hey35 : (uZ F 12 (0)) 14 = F 14 := (fn rfl (by decide))
  have hey36 : (uZ F 12 (0)) 15 = F 15 := (fn rfl (by decide))
  have hey37 : (uZ F 12 (0)) 16 = F 16 := (fn rfl (by decide))
  have hey38 : (uZ F 12 (0)) 17 = F 17 := (fn rfl (by decide))
  have hey39 : (uZ F 12 (0)) 18 = F 18 := (fn rfl (by decide))
  have hey40 : (uZ F 12 (0)) 19 = F 19 := (fn rfl (by decide))
  have hey41 : (uZ F 12 (0)) 20 = F 20 := (fn rfl (by decide))
  have hey42 : (uZ F 12 (0)) 23 = F 23 := (fn rfl (by decide))
  have hey43 : (uZ F 12 (0)) 25 = F 25 := (fn rfl (by decide))
  have hey44 : (uZ F 12 (0)) 27 = F 27 := (fn rfl (by decide))
  have hey45 : (uZ F 12 (0)) 28 = F 28 := (fn rfl (by decide))
  have hey46 : (uZ F 12 (0)) 29 = F 29 := (fn rfl (by decide))
  have hKy47 : okF (uZ F 12 (0)) := by unfold okF; omega
  have hMy48 : okMr cs ad gvy29 i (x + 1) (uZ F 12 (0)) r := okMr.upd hM hgy30 hKy47 (fun f a => hFy33 f (by omega)) hgy32 (hA.mono (by omega)) (fun j a b => by
      by_cases e0 : j = i + 11
      · exact Or.inr ⟨11, _, e0, lsP.l (by decide), by rw [e0]; exact hdvy29⟩
      exact Or.inl (by rw [hfvy29 _ (by omega)]; rw [egy25, va_up_ne _ _ (by omega)]))
  have h23 : (uZ F 12 (0)) 23 = F 23 := (fn rfl (by decide))
  exact z_iret C hr hlk dX10_dig_33 (by decide) (by decide) ⟨vy29, rfl, rfl, rfl, by omega, ⟨_, _, hMy48, by omega⟩, fun j j1 => by rw [hfvy29 _ (by omega)]; rw [egy25, va_up_ne _ _ (by omega)]⟩

set_option maxRecDepth 100000 in
set_option maxHeartbeats 4000000 in
theorem c_X10_dig (l : Launch) (D : va_G) (A : Nat → Prop) (cs : Nat → ClassId) (tt : Nat) (N : Nat) (ad : Nat → Nat) (g : Nat → va_E) (i : Nat) (hN : i + 30 ≤ N) (x : Int) (hx : 0 ≤ x ∧ x ≤ 512) (F r : Nat → Int) (hM : okMr cs ad g i x F r) (z : Int) (hz : -2147483648 ≤ z ∧ z ≤ 2147483647) : zM l yX10_dig cX10_dig 3 (some .int) ({ frames := 5, cells := 0, slots := 0, locals := 300 } : Room) D A cs tt N ad g [.ref (ad i), .int (zI (z))] (rI0 N ad fun q g' => (-2147483648 ≤ q ∧ q ≤ 2147483647) ∧ (∃ F' r' : Nat → Int, okMr cs ad g' i (x + 1) F' r' ∧ F' 23 = F 23) ∧ ∀ j, j < i ∨ i + 30 ≤ j → g' j = g j) := by
  by_cases h9 : 0 ≤ z ∧ z ≤ 3
  · obtain ⟨n, rfl⟩ : ∃ n : Nat, z = (n : Int) := ⟨z.toNat, by omega⟩
    exact c_X10_dig_a l D A cs tt N ad g i hN x hx F r hM n (by omega) 
  · exact c_X10_dig_b l D A cs tt N ad g i hN x hx F r hM z hz (by omega) 

set_option maxRecDepth 100000 in
set_option maxHeartbeats 4000000 in
theorem c_X10_slide_a (l : Launch) (D : va_G) (A : Nat → Prop) (cs : Nat → ClassId) (tt : Nat) (N : Nat) (ad : Nat → Nat) (g : Nat → va_E) (i : Nat) (hN : i + 30 ≤ N) (x : Int) (hx : 0 ≤ x ∧ x ≤ 512) (F r : Nat → Int) (hM : okMr cs ad g i x F r) (n : Nat) (hn4 : n < 4) : zM l yX10_slide cX10_slide 2 (some .int) ({ frames := 11, cells := 0, slots := 0, locals := 660 } : Room) D A cs tt N ad g [.ref (ad i), .int (zI ((n : Int)))] (rI0 N ad fun q g' => (-2147483648 ≤ q ∧ q ≤ 2147483647) ∧ (∃ F' r' : Nat → Int, okMr cs ad g' i (x + 1) F' r' ∧ F' 23 = F 23) ∧ ∀ j, j < i ∨ i + 30 ≤ j → g' j = g j) := by
  obtain ⟨hg, ⟨⟨e13, e14, e25, e27, e29⟩, k15, k16, k17, k18, k19, k20, k23⟩, hRD, hTx, hA, st, op, ai, fa, mu, tb, ns, nh, nd, rf, pi, tp, te, ki, li, ok1, ok2, fo, dd, dps, ⟨ha1, ha2, ha3, ha4, ha5, ha6, ha7, ha8, ha9, ha10, ha11, ha12, ha13, ha14, ha15, ha24, ha25, ha26, ha27, ha28, ha29⟩, hEv, hPt, hns, htp⟩ := id hM
  obtain ⟨-, hop, hai, hfa, hT, hT1⟩ := id hEv
  have hay1 : zAt ad (i) (ad i) := rfl
  have hay2 : zAt ad (i + 1) (ad (i + 1)) := rfl
  have hay3 : zAt ad (i + 2) (ad (i + 2)) := rfl
  have hay4 : zAt ad (i + 3) (ad (i + 3)) := rfl
  have hay5 : zAt ad (i + 4) (ad (i + 4)) := rfl
  have hay6 : zAt ad (i + 5) (ad (i + 5)) := rfl
  have hay7 : zAt ad (i + 6) (ad (i + 6)) := rfl
  have hay8 : zAt ad (i + 7) (ad (i + 7)) := rfl
  have hay9 : zAt ad (i + 8) (ad (i + 8)) := rfl
  have hay10 : zAt ad (i + 9) (ad (i + 9)) := rfl
  have hay11 : zAt ad (i + 10) (ad (i + 10)) := rfl
  have hay12 : zAt ad (i + 11) (ad (i + 11)) := rfl
  have hay13 : zAt ad (i + 12) (ad (i + 12)) := rfl
  have hay14 : zAt ad (i + 13) (ad (i + 13)) := rfl
  have hay15 : zAt ad (i + 14) (ad (i + 14)) := rfl
  have hay16 : zAt ad (i + 15) (ad (i + 15)) := rfl
  have hay17 : zAt ad (i + 24) (ad (i + 24)) := rfl
  have hay18 : zAt ad (i + 25) (ad (i + 25)) := rfl
  have hay19 : zAt ad (i + 26) (ad (i + 26)) := rfl
  have hay20 : zAt ad (i + 27) (ad (i + 27)) := rfl
  have hay21 : zAt ad (i + 28) (ad (i + 28)) := rfl
  have hay22 : zAt ad (i + 29) (ad (i + 29)) := rfl
  obtain ⟨⟨hsyy23, htyy23, hnyy23, hpyy23⟩, hlyy23⟩ := okA.at0 hA
  simp only [Nat.zero_add] at hsyy23 hnyy23 hpyy23
  have hmn : ∀ s, s < 4 → 0 ≤ r (6 + 86 * s) ∧ r (6 + 86 * s) ≤ 12 := fun s hs => (hsyy23 s hs).1
  have h5 : 0 ≤ r 5 ∧ r 5 ≤ 6 := hpyy23
  refine z_of (by decide) (Nat.le_of_ble_eq_true rfl) ?_
  intro pZ eZ sZ mZ below meth cZ C hr hlk hnm
  refine z_lv (lv' := [(0, .ref (ad i)), (1, .int (zI ((n : Int))))]) [0, 1] rfl ?_
  refine z_aload_n C 0 dX10_slide_0 rfl ?_
  refine z_iconst (z := 0) C dX10_slide_1 rfl ?_
  refine z_put (fs' := mF ad (i) (uZ F 12 (0))) C (by omega) hay1 hg tyX10 tyX10_ok nmX10 rfl inA_X10 12 (by decide) q_1471 rfl rfl rfl rfl (Nat.le_of_ble_eq_true rfl) rfl dX10_slide_2 (fun gy24 egy25 => ?_)
  have hgy26 := up_s egy25
  refine z_iload_n C 1 dX10_slide_5 rfl ?_
  refine z_iconst (z := 0) C dX10_slide_6 rfl ?_
  refine z_aload_n C 0 dX10_slide_7 rfl ?_
  refine z_get (v := .int (zI (F 13))) C (by omega) hay1 hgy26 rfl inA_X10 13 (by decide) q_1472 rfl (fv (F := (uZ F 12 (0))) (f := 13) (fn rfl (by decide))) dX10_slide_8 ?_
  refine z_iconst (z := 1) C dX10_slide_11 rfl ?_
  refine z_isub C dX10_slide_12 ?_
  refine z_cS (As := [.int (zI ((n : Int))), .int (zI (0)), .int (zI ((F 13) - 1))]) (rest := []) C (c_X10_within l D A cs tt N ad _ ((n : Int)) (by omega) (0) (by omega) ((F 13) - 1) (by omega)) ms_yX10_within q_1686 hd_yX10_within (by decide) (Nat.le_of_ble_eq_true rfl) (by decide) dX10_slide_13 rfl (kI0 fun vy27 gvy27 hvy27 => ?_)
  obtain ⟨hvy27, rfl⟩ := hvy27
  rcases hvy27 with ⟨rfl, hxvy27⟩ | ⟨rfl, hxvy27⟩
  · refine z_if_eq (tgt := 28) C dX10_slide_16 (by decide) (by omega) (fun h => absurd h (by omega)) (fun _ => ?_)
    refine z_aload_n C 0 dX10_slide_19 rfl ?_
    refine z_iconst (z := 0) C dX10_slide_20 rfl ?_
    refine z_iload_n C 1 dX10_slide_21 rfl ?_
    obtain ⟨py28, hpy28⟩ : ∃ p9 : Nat, 0 + 6 + 86 * n = p9 := ⟨_, rfl⟩
    have hgy29 := up_n egy25 ha1 (ne_o (i := i) (c := 1) (d := 0) rfl)
    have hgy31 := up_n egy25 ha2 (ne_o (i := i) (c := 2) (d := 0) rfl)
    have hgy32 := up_n egy25 ha7 (ne_o (i := i) (c := 7) (d := 0) rfl)
    have hqy33 : qS r py28 := (((okA.at0 hA).1.1 n (by omega)).of (p2 := py28) (by omega)).q (by have hb9 := mBb (t := r 0 + x) (by omega); omega)
    have hmky34 := hqy33.1
    refine z_cV (As := [.int (zI (0)), .int (zI ((n : Int)))]) (rest := []) (ci := 12) C (c_X10_isUnstable l D A cs tt N ad _ i hN _ hgy26 _ hgy29 _ hgy31 _ hgy32 0 n py28 hpy28 (by omega) (by omega) hqy33) (by omega) hay1 hgy26 rfl rfl mv_yX10_isUnstable q_1811 hd_yX10_isUnstable (by decide) (Nat.le_of_ble_eq_true rfl) (by decide) dX10_slide_22 rfl (kI0 fun vy30 gvy30 hvy30 => ?_)
    obtain ⟨hvy30, rfl⟩ := hvy30
    refine z_if_ne (tgt := 34) C dX10_slide_25 (by decide) (by omega) (fun hby35 => ?_) (fun hby35 => ?_)
    · refine z_aload_n C 0 dX10_slide_34 rfl ?_
      have hey37 : (uZ F 12 (0)) 15 = F 15 := (fn rfl (by decide))
      have hey38 : (uZ F 12 (0)) 16 = F 16 := (fn rfl (by decide))
      refine z_cV (As := []) (rest := []) (ci := 12) C (c_X10_keeps l D A cs tt N ad _ i hN _ hgy26 _ hgy29 (x) hA (by omega) (by omega)) (by omega) hay1 hgy26 rfl rfl mv_yX10_keeps q_1870 hd_yX10_keeps (by decide) (Nat.le_of_ble_eq_true rfl) (by decide) dX10_slide_35 rfl (kV0 fun gvy36 hvy36 => ?_)
      obtain ⟨⟨Fvy36, hcvy36, hbvy36, hFvy36⟩, ⟨rvy36, hdvy36, hAvy36, hyvy36⟩, hfvy36⟩ := hvy36
      have hk0vy36 : rvy36 0 = r 0 := hyvy36 0 (by omega)
      have hk1vy36 : rvy36 1 = r 1 := hyvy36 1 (by omega)
      have hk5vy36 : rvy36 5 = r 5 := hyvy36 5 (by omega)
      have hkpy39 : rvy36 py28 = r py28 := hyvy36 py28 (by omega)
      obtain ⟨⟨hsyy40, htyy40, hnyy40, hpyy40⟩, hlyy40⟩ := okA.at0 hAvy36
      simp only [Nat.zero_add] at hsyy40 hnyy40 hpyy40
      have hmn : ∀ s, s < 4 → 0 ≤ rvy36 (6 + 86 * s) ∧ rvy36 (6 + 86 * s) ≤ 12 := fun s hs => (hsyy40 s hs).1
      have h5 : 0 ≤ rvy36 5 ∧ rvy36 5 ≤ 6 := hpyy40
      refine z_aload_n C 0 dX10_slide_38 rfl ?_
      refine z_iconst (z := 0) C dX10_slide_39 rfl ?_
      refine z_iload_n C 1 dX10_slide_40 rfl ?_
      have hSy41 := ((okA.at0 hAvy36).1.1 n (by omega)).of (p2 := py28) (by omega)
      obtain ⟨b1hSy41, b2hSy41, b3hSy41, b4hSy41⟩ := mBb (t := rvy36 0 + x) (by omega)
      have hmky42 := hSy41.1
      have hcy43n := (okA.at0 hAvy36).1.2.2.1
      have hcy43t := (okA.at0 hAvy36).1.2.1
      have hgy45 := (hfvy36 (i + 2) (ne_o (i := i) (c := 2) (d := 0) rfl) (ne_o (i := i) (c := 2) (d := 1) rfl)).trans hgy31
      have hgy46 := (hfvy36 (i + 7) (ne_o (i := i) (c := 7) (d := 0) rfl) (ne_o (i := i) (c := 7) (d := 1) rfl)).trans hgy32
      refine z_cV (As := [.int (zI (0)), .int (zI ((n : Int)))]) (rest := []) (ci := 12) C (c_X10_slides l D A cs tt N ad _ i hN _ hcvy36 _ hdvy36 _ hgy45 _ hgy46 0 n py28 hpy28 (by omega) (by omega) (mB (rvy36 0 + x)) (eB (rvy36 0 + x)) (by omega) (by omega) hSy41) (by omega) hay1 hcvy36 rfl rfl mv_yX10_slides q_1964 hd_yX10_slides (by decide) (Nat.le_of_ble_eq_true rfl) (by decide) dX10_slide_41 rfl (kI0 fun vy44 gvy44 hvy44 => ?_)
      obtain ⟨hrvy44, ⟨rvy44, hcvy44, hovy44, hyvy44⟩, hfvy44⟩ := hvy44
      have hcy430 : rvy44 0 = rvy36 0 := (hyvy44 0 (by omega) (by omega) (by omega) (by omega))
      have hcy43 : okW rvy44 0 (x) := okW.slope0 (okA.at0 hAvy36).1 (s := n) (p := py28) (by omega) (by omega) hovy44 (fun j a1 a2 a3 a4 a5 a6 => hyvy44 j a3 a4 a5 a6)
      have hAy47 : okA rvy44 (x) := okA.first hAvy36 (Int.le_refl _) (fun j a => (hyvy44 j (by omega) (by omega) (by omega) (by omega))) hcy43 (by omega)
      obtain ⟨⟨hsyy48, htyy48, hnyy48, hpyy48⟩, hlyy48⟩ := okA.at0 hAy47
      simp only [Nat.zero_add] at hsyy48 hnyy48 hpyy48
      have hmn : ∀ s, s < 4 → 0 ≤ rvy44 (6 + 86 * s) ∧ rvy44 (6 + 86 * s) ≤ 12 := fun s hs => (hsyy48 s hs).1
      have h5 : 0 ≤ rvy44 5 ∧ rvy44 5 ≤ 6 := hpyy48
      have hgy49 := (hfvy44 (i) (ne_o (i := i) (c := 0) (d := 1) rfl)).trans hcvy36
      have hFy50 : ∀ f, f ≠ 12 → f ≠ 15 → f ≠ 16 → Fvy36 f = F f := fun f n12 n15 n16 => ((hFvy36 f n15 n16).trans ((uZ_n _ _ n12).trans rfl))
      have hey51 : Fvy36 13 = F 13 := ((hFvy36 13 (by decide) (by decide)).trans (fn rfl (by decide)))
      have hey52 : Fvy36 14 = F 14 := ((hFvy36 14 (by decide) (by decide)).trans (fn rfl (by decide)))
      have hey53 : Fvy36 15 = Fvy36 15 := rfl
      have hey54 : Fvy36 16 = Fvy36 16 := rfl
      have hey55 : Fvy36 17 = F 17 := ((hFvy36 17 (by decide) (by decide)).trans (fn rfl (by decide)))
      have hey56 : Fvy36 18 = F 18 := ((hFvy36 18 (by decide) (by decide)).trans (fn rfl (by decide)))
      have hey57 : Fvy36 19 = F 19 := ((hFvy36 19 (by decide) (by decide)).trans (fn rfl (by decide)))
      have hey58 : Fvy36 20 = F 20 := ((hFvy36 20 (by decide) (by decide)).trans (fn rfl (by decide)))
      have hey59 : Fvy36 23 = F 23 := ((hFvy36 23 (by decide) (by decide)).trans (fn rfl (by decide)))
      have hey60 : Fvy36 25 = F 25 := ((hFvy36 25 (by decide) (by decide)).trans (fn rfl (by decide)))
      have hey61 : Fvy36 27 = F 27 := ((hFvy36 27 (by decide) (by decide)).trans (fn rfl (by decide)))
      have hey62 : Fvy36 28 = F 28 := ((hFvy36 28 (by decide) (by decide)).trans (fn rfl (by decide)))
      have hey63 : Fvy36 29 = F 29 := ((hFvy36 29 (by decide) (by decide)).trans (fn rfl (by decide)))
      have hKy64 : okF Fvy36 := by unfold okF; omega
      have hMy65 : okMr cs ad gvy44 i (x + 1) Fvy36 rvy44 := okMr.upd hM hgy49 hKy64 (fun f a => hFy50 f (by omega) (by omega) (by omega)) hcvy44 (hAy47.mono (by omega)) (fun j a b => by
          exact Or.inl (by rw [hfvy44 _ (by omega)]; rw [hfvy36 _ (by omega) (by omega)]; rw [egy25, va_up_ne _ _ (by omega)]))
      have h23 : Fvy36 23 = F 23 := ((hFvy36 23 (by decide) (by decide)).trans (fn rfl (by decide)))
      exact z_iret C hr hlk dX10_slide_44 (by decide) (by decide) ⟨vy44, rfl, rfl, rfl, by omega, ⟨_, _, hMy65, by omega⟩, fun j j1 => by rw [hfvy44 _ (by omega)]; rw [hfvy36 _ (by omega) (by omega)]; rw [egy25, va_up_ne _ _ (by omega)]⟩
    · refine z_aload_n C 0 dX10_slide_28 rfl ?_
      refine z_iconst (z := 1) C dX10_slide_29 rfl ?_
      have hgy66 := up_n egy25 ha11 (ne_o (i := i) (c := 11) (d := 0) rfl)
      refine z_cV (As := [.int (zI (1))]) (rest := []) (ci := 12) C (c_X10_refuses l D A cs tt N ad _ i hN _ hgy26 _ hgy66 (1) (by omega)) (by omega) hay1 hgy26 rfl rfl mv_yX10_refuses q_1866 hd_yX10_refuses (by decide) (Nat.le_of_ble_eq_true rfl) (by decide) dX10_slide_30 rfl (kI0 fun vy67 gvy67 hvy67 => ?_)
      obtain ⟨hrvy67, ⟨tvy67, hdvy67⟩, hfvy67⟩ := hvy67
      have hgy68 := (hfvy67 (i) (ne_o (i := i) (c := 0) (d := 11) rfl)).trans hgy26
      have hgy69 := (hfvy67 (i + 1) (ne_o (i := i) (c := 1) (d := 11) rfl)).trans hgy29
      have hFy70 : ∀ f, f ≠ 12 → (uZ F 12 (0)) f = F f := fun f n12 => ((uZ_n _ _ n12).trans rfl)
      have hey71 : (uZ F 12 (0)) 13 = F 13 := (fn rfl (by decide))
      have hey72 : (uZ F 12 (0)) 14 = F 14 := (fn rfl (by decide))
      have hey73 : (uZ F 12 (0)) 15 = F 15 := (fn rfl (by decide))
      have hey74 : (uZ F 12 (0)) 16 = F 16 := (fn rfl (by decide))
      have hey75 : (uZ F 12 (0)) 17 = F 17 := (fn rfl (by decide))
      have hey76 : (uZ F 12 (0)) 18 = F 18 := (fn rfl (by decide))
      have hey77 : (uZ F 12 (0)) 19 = F 19 := (fn rfl (by decide))
      have hey78 : (uZ F 12 (0)) 20 = F 20 := (fn rfl (by decide))
      have hey79 : (uZ F 12 (0)) 23 = F 23 := (fn rfl (by decide))
      have hey80 : (uZ F 12 (0)) 25 = F 25 := (fn rfl (by decide))
      have hey81 : (uZ F 12 (0)) 27 = F 27 := (fn rfl (by decide))
      have hey82 : (uZ F 12 (0)) 28 = F 28 := (fn rfl (by decide))
      have hey83 : (uZ F 12 (0)) 29 = F 29 := (fn rfl (by decide))
      have hKy84 : okF (uZ F 12 (0)) := by unfold okF; omega
      have hMy85 : okMr cs ad gvy67 i (x + 1) (uZ F 12 (0)) r := okMr.upd hM hgy68 hKy84 (fun f a => hFy70 f (by omega)) hgy69 (hA.mono (by omega)) (fun j a b => by
          by_cases e0 : j = i + 11
          · exact Or.inr ⟨11, _, e0, lsP.l (by decide), by rw [e0]; exact hdvy67⟩
          exact Or.inl (by rw [hfvy67 _ (by omega)]; rw [egy25, va_up_ne _ _ (by omega)]))
      have h23 : (uZ F 12 (0)) 23 = F 23 := (fn rfl (by decide))
      exact z_iret C hr hlk dX10_slide_33 (by decide) (by decide) ⟨vy67, rfl, rfl, rfl, by omega, ⟨_, _, hMy85, by omega⟩, fun j j1 => by rw [hfvy67 _ (by omega)]; rw [egy25, va_up_ne _ _ (by omega)]⟩
  · refine z_if_eq (tgt := 28) C dX10_slide_16 (by decide) (by omega) (fun _ => ?_) (fun h => absurd h (by omega))
    refine z_aload_n C 0 dX10_slide_28 rfl ?_
    refine z_iconst (z := 1) C dX10_slide_29 rfl ?_
    have hgy86 := up_n egy25 ha11 (ne_o (i := i) (c := 11) (d := 0) rfl)
    refine z_cV (As := [.int (zI (1))]) (rest := []) (ci := 12) C (c_X10_refuses l D A cs tt N ad _ i hN _ hgy26 _ hgy86 (1) (by omega)) (by omega) hay1 hgy26 rfl rfl mv_yX10_refuses q_1866 hd_yX10_refuses (by decide) (Nat.le_of_ble_eq_true rfl) (by decide) dX10_slide_30 rfl (kI0 fun vy87 gvy87 hvy87 => ?_)
    obtain ⟨hrvy87, ⟨tvy87, hdvy87⟩, hfvy87⟩ := hvy87
    have hgy88 := (hfvy87 (i) (ne_o (i := i) (c := 0) (d := 11) rfl)).trans hgy26
    have hgy89 := up_n egy25 ha1 (ne_o (i := i) (c := 1) (d := 0) rfl)
    have hgy90 := (hfvy87 (i + 1) (ne_o (i := i) (c := 1) (d := 11) rfl)).trans hgy89
    have hFy91 : ∀ f, f ≠ 12 → (uZ F 12 (0)) f = F f := fun f n12 => ((uZ_n _ _ n12).trans rfl)
    have hey92 : (uZ F 12 (0)) 13 = F 13 := (fn rfl (by decide))
    have hey93 : (uZ F 12 (0)) 14 = F 14 := (fn rfl (by decide))
    have hey94 : (uZ F 12 (0)) 15 = F 15 := (fn rfl (by decide))
    have hey95 : (uZ F 12 (0)) 16 = F 16 := (fn rfl (by decide))
    have hey96 : (uZ F 12 (0)) 17 = F 17 := (fn rfl (by decide))
    have hey97 : (uZ F 12 (0)) 18 = F 18 := (fn rfl (by decide))
    have hey98 : (uZ F 12 (0)) 19 = F 19 := (fn rfl (by decide))
    have hey99 : (uZ F 12 (0)) 20 = F 20 := (fn rfl (by decide))
    have hey100 : (uZ F 12 (0)) 23 = F 23 := (fn rfl (by decide))
    have hey101 : (uZ F 12 (0)) 25 = F 25 := (fn rfl (by decide))
    have hey102 : (uZ F 12 (0)) 27 = F 27 := (fn rfl (by decide))
    have hey103 : (uZ F 12 (0)) 28 = F 28 := (fn rfl (by decide))
    have hey104 : (uZ F 12 (0)) 29 = F 29 := (fn rfl (by decide))
    have hKy105 : okF (uZ F 12 (0)) := by unfold okF; omega
    have hMy106 : okMr cs ad gvy87 i (x + 1) (uZ F 12 (0)) r := okMr.upd hM hgy88 hKy105 (fun f a => hFy91 f (by omega)) hgy90 (hA.mono (by omega)) (fun j a b => by
        by_cases e0 : j = i + 11
        · exact Or.inr ⟨11, _, e0, lsP.l (by decide), by rw [e0]; exact hdvy87⟩
        exact Or.inl (by rw [hfvy87 _ (by omega)]; rw [egy25, va_up_ne _ _ (by omega)]))
    have h23 : (uZ F 12 (0)) 23 = F 23 := (fn rfl (by decide))
    exact z_iret C hr hlk dX10_slide_33 (by decide) (by decide) ⟨vy87, rfl, rfl, rfl, by omega, ⟨_, _, hMy106, by omega⟩, fun j j1 => by rw [hfvy87 _ (by omega)]; rw [egy25, va_up_ne _ _ (by omega)]⟩

set_option maxRecDepth 100000 in
set_option maxHeartbeats 4000000 in
theorem c_X10_slide_b (l : Launch) (D : va_G) (A : Nat → Prop) (cs : Nat → ClassId) (tt : Nat) (N : Nat) (ad : Nat → Nat) (g : Nat → va_E) (i : Nat) (hN : i + 30 ≤ N) (x : Int) (hx : 0 ≤ x ∧ x ≤ 512) (F r : Nat → Int) (hM : okMr cs ad g i x F r) (z : Int) (hz : -2147483648 ≤ z ∧ z ≤ 2147483647) (hzo : z < 0 ∨ 3 < z) : zM l yX10_slide cX10_slide 2 (some .int) ({ frames := 11, cells := 0, slots := 0, locals := 660 } : Room) D A cs tt N ad g [.ref (ad i), .int (zI (z))] (rI0 N ad fun q g' => (-2147483648 ≤ q ∧ q ≤ 2147483647) ∧ (∃ F' r' : Nat → Int, okMr cs ad g' i (x + 1) F' r' ∧ F' 23 = F 23) ∧ ∀ j, j < i ∨ i + 30 ≤ j → g' j = g j) := by
  obtain ⟨hg, ⟨⟨e13, e14, e25, e27, e29⟩, k15, k16, k17, k18, k19, k20, k23⟩, hRD, hTx, hA, st, op, ai, fa, mu, tb, ns, nh, nd, rf, pi, tp, te, ki, li, ok1, ok2, fo, dd, dps, ⟨ha1, ha2, ha3, ha4, ha5, ha6, ha7, ha8, ha9, ha10, ha11, ha12, ha13, ha14, ha15, ha24, ha25, ha26, ha27, ha28, ha29⟩, hEv, hPt, hns, htp⟩ := id hM
  obtain ⟨-, hop, hai, hfa, hT, hT1⟩ := id hEv
  have hay1 : zAt ad (i) (ad i) := rfl
  have hay2 : zAt ad (i + 1) (ad (i + 1)) := rfl
  have hay3 : zAt ad (i + 2) (ad (i + 2)) := rfl
  have hay4 : zAt ad (i + 3) (ad (i + 3)) := rfl
  have hay5 : zAt ad (i + 4) (ad (i + 4)) := rfl
  have hay6 : zAt ad (i + 5) (ad (i + 5)) := rfl
  have hay7 : zAt ad (i + 6) (ad (i + 6)) := rfl
  have hay8 : zAt ad (i + 7) (ad (i + 7)) := rfl
  have hay9 : zAt ad (i + 8) (ad (i + 8)) := rfl
  have hay10 : zAt ad (i + 9) (ad (i + 9)) := rfl
  have hay11 : zAt ad (i + 10) (ad (i + 10)) := rfl
  have hay12 : zAt ad (i + 11) (ad (i + 11)) := rfl
  have hay13 : zAt ad (i + 12) (ad (i + 12)) := rfl
  have hay14 : zAt ad (i + 13) (ad (i + 13)) := rfl
  have hay15 : zAt ad (i + 14) (ad (i + 14)) := rfl
  have hay16 : zAt ad (i + 15) (ad (i + 15)) := rfl
  have hay17 : zAt ad (i + 24) (ad (i + 24)) := rfl
  have hay18 : zAt ad (i + 25) (ad (i + 25)) := rfl
  have hay19 : zAt ad (i + 26) (ad (i + 26)) := rfl
  have hay20 : zAt ad (i + 27) (ad (i + 27)) := rfl
  have hay21 : zAt ad (i + 28) (ad (i + 28)) := rfl
  have hay22 : zAt ad (i + 29) (ad (i + 29)) := rfl
  obtain ⟨⟨hsyy23, htyy23, hnyy23, hpyy23⟩, hlyy23⟩ := okA.at0 hA
  simp only [Nat.zero_add] at hsyy23 hnyy23 hpyy23
  have hmn : ∀ s, s < 4 → 0 ≤ r (6 + 86 * s) ∧ r (6 + 86 * s) ≤ 12 := fun s hs => (hsyy23 s hs).1
  have h5 : 0 ≤ r 5 ∧ r 5 ≤ 6 := hpyy23
  refine z_of (by decide) (Nat.le_of_ble_eq_true rfl) ?_
  intro pZ eZ sZ mZ below meth cZ C hr hlk hnm
  refine z_lv (lv' := [(0, .ref (ad i)), (1, .int (zI (z)))]) [0, 1] rfl ?_
  refine z_aload_n C 0 dX10_slide_0 rfl ?_
  refine z_iconst (z := 0) C dX10_slide_1 rfl ?_
  refine z_put (fs' := mF ad (i) (uZ F 12 (0))) C (by omega) hay1 hg tyX10 tyX10_ok nmX10 rfl inA_X10 12 (by decide) q_1471 rfl rfl rfl rfl (Nat.le_of_ble_eq_true rfl) rfl dX10_slide_2 (fun gy24 egy25 => ?_)
  have hgy26 := up_s egy25
  refine z_iload_n C 1 dX10_slide_5 rfl ?_
  refine z_iconst (z := 0) C dX10_slide_6 rfl ?_
  refine z_aload_n C 0 dX10_slide_7 rfl ?_
  refine z_get (v := .int (zI (F 13))) C (by omega) hay1 hgy26 rfl inA_X10 13 (by decide) q_1472 rfl (fv (F := (uZ F 12 (0))) (f := 13) (fn rfl (by decide))) dX10_slide_8 ?_
  refine z_iconst (z := 1) C dX10_slide_11 rfl ?_
  refine z_isub C dX10_slide_12 ?_
  refine z_cS (As := [.int (zI (z)), .int (zI (0)), .int (zI ((F 13) - 1))]) (rest := []) C (c_X10_within l D A cs tt N ad _ (z) (by omega) (0) (by omega) ((F 13) - 1) (by omega)) ms_yX10_within q_1686 hd_yX10_within (by decide) (Nat.le_of_ble_eq_true rfl) (by decide) dX10_slide_13 rfl (kI0 fun vy27 gvy27 hvy27 => ?_)
  obtain ⟨hvy27, rfl⟩ := hvy27
  obtain rfl : vy27 = 0 := by omega
  refine z_if_eq (tgt := 28) C dX10_slide_16 (by decide) (by omega) (fun _ => ?_) (fun h => absurd h (by omega))
  refine z_aload_n C 0 dX10_slide_28 rfl ?_
  refine z_iconst (z := 1) C dX10_slide_29 rfl ?_
  have hgy28 := up_n egy25 ha11 (ne_o (i := i) (c := 11) (d := 0) rfl)
  refine z_cV (As := [.int (zI (1))]) (rest := []) (ci := 12) C (c_X10_refuses l D A cs tt N ad _ i hN _ hgy26 _ hgy28 (1) (by omega)) (by omega) hay1 hgy26 rfl rfl mv_yX10_refuses q_1866 hd_yX10_refuses (by decide) (Nat.le_of_ble_eq_true rfl) (by decide) dX10_slide_30 rfl (kI0 fun vy29 gvy29 hvy29 => ?_)
  obtain ⟨hrvy29, ⟨tvy29, hdvy29⟩, hfvy29⟩ := hvy29
  have hgy30 := (hfvy29 (i) (ne_o (i := i) (c := 0) (d := 11) rfl)).trans hgy26
  have hgy31 := up_n egy25 ha1 (ne_o (i := i) (c := 1) (d := 0) rfl)
  have hgy32 := (hfvy29 (i + 1) (ne_o (i := i) (c := 1) (d := 11) rfl)).trans hgy31
  have hFy33 : ∀ f, f ≠ 12 → (uZ F 12 (0)) f = F f := fun f n12 => ((uZ_n _ _ n12).trans rfl)
  have hey34 : (uZ F 12 (0)) 13 = F 13 := (fn rfl (by decide))
  have hey35 : (uZ F 12 (0)) 14 = F 14 := (fn rfl (by decide))
  have hey36 : (uZ F 12 (0)) 15 = F 15 := (fn rfl (by decide))
  have hey37 : (uZ F 12 (0)) 16 = F 16 := (fn rfl (by decide))
  have hey38 : (uZ F 12 (0)) 17 = F 17 := (fn rfl (by decide))
  have hey39 : (uZ F 12 (0)) 18 = F 18 := (fn rfl (by decide))
  have hey40 : (uZ F 12 (0)) 19 = F 19 := (fn rfl (by decide))
  have hey41 : (uZ F 12 (0)) 20 = F 20 := (fn rfl (by decide))
  have hey42 : (uZ F 12 (0)) 23 = F 23 := (fn rfl (by decide))
  have hey43 : (uZ F 12 (0)) 25 = F 25 := (fn rfl (by decide))
  have hey44 : (uZ F 12 (0)) 27 = F 27 := (fn rfl (by decide))
  have hey45 : (uZ F 12 (0)) 28 = F 28 := (fn rfl (by decide))
  have hey46 : (uZ F 12 (0)) 29 = F 29 := (fn rfl (by decide))
  have hKy47 : okF (uZ F 12 (0)) := by unfold okF; omega
  have hMy48 : okMr cs ad gvy29 i (x + 1) (uZ F 12 (0)) r := okMr.upd hM hgy30 hKy47 (fun f a => hFy33 f (by omega)) hgy32 (hA.mono (by omega)) (fun j a b => by
      by_cases e0 : j = i + 11
      · exact Or.inr ⟨11, _, e0, lsP.l (by decide), by rw [e0]; exact hdvy29⟩
      exact Or.inl (by rw [hfvy29 _ (by omega)]; rw [egy25, va_up_ne _ _ (by omega)]))
  have h23 : (uZ F 12 (0)) 23 = F 23 := (fn rfl (by decide))
  exact z_iret C hr hlk dX10_slide_33 (by decide) (by decide) ⟨vy29, rfl, rfl, rfl, by omega, ⟨_, _, hMy48, by omega⟩, fun j j1 => by rw [hfvy29 _ (by omega)]; rw [egy25, va_up_ne _ _ (by omega)]⟩

set_option maxRecDepth 100000 in
set_option maxHeartbeats 4000000 in
theorem c_X10_slide (l : Launch) (D : va_G) (A : Nat → Prop) (cs : Nat → ClassId) (tt : Nat) (N : Nat) (ad : Nat → Nat) (g : Nat → va_E) (i : Nat) (hN : i + 30 ≤ N) (x : Int) (hx : 0 ≤ x ∧ x ≤ 512) (F r : Nat → Int) (hM : okMr cs ad g i x F r) (z : Int) (hz : -2147483648 ≤ z ∧ z ≤ 2147483647) : zM l yX10_slide cX10_slide 2 (some .int) ({ frames := 11, cells := 0, slots := 0, locals := 660 } : Room) D A cs tt N ad g [.ref (ad i), .int (zI (z))] (rI0 N ad fun q g' => (-2147483648 ≤ q ∧ q ≤ 2147483647) ∧ (∃ F' r' : Nat → Int, okMr cs ad g' i (x + 1) F' r' ∧ F' 23 = F 23) ∧ ∀ j, j < i ∨ i + 30 ≤ j → g' j = g j) := by
  by_cases h9 : 0 ≤ z ∧ z ≤ 3
  · obtain ⟨n, rfl⟩ : ∃ n : Nat, z = (n : Int) := ⟨z.toNat, by omega⟩
    exact c_X10_slide_a l D A cs tt N ad g i hN x hx F r hM n (by omega) 
  · exact c_X10_slide_b l D A cs tt N ad g i hN x hx F r hM z hz (by omega) 

set_option maxRecDepth 100000 in
set_option maxHeartbeats 4000000 in
theorem c_X10_undo (l : Launch) (D : va_G) (A : Nat → Prop) (cs : Nat → ClassId) (tt : Nat) (N : Nat) (ad : Nat → Nat) (g : Nat → va_E) (i : Nat) (hN : i + 30 ≤ N) (x : Int) (hx : 0 ≤ x ∧ x ≤ 512) (F r : Nat → Int) (hM : okMr cs ad g i x F r) : zM l yX10_undo cX10_undo 1 (some .int) ({ frames := 2, cells := 0, slots := 0, locals := 120 } : Room) D A cs tt N ad g [.ref (ad i)] (rI0 N ad fun q g' => (-2147483648 ≤ q ∧ q ≤ 2147483647) ∧ (∃ F' r' : Nat → Int, okMr cs ad g' i (x + 1) F' r' ∧ F' 23 = F 23) ∧ ∀ j, j < i ∨ i + 30 ≤ j → g' j = g j) := by
  obtain ⟨hg, ⟨⟨e13, e14, e25, e27, e29⟩, k15, k16, k17, k18, k19, k20, k23⟩, hRD, hTx, hA, st, op, ai, fa, mu, tb, ns, nh, nd, rf, pi, tp, te, ki, li, ok1, ok2, fo, dd, dps, ⟨ha1, ha2, ha3, ha4, ha5, ha6, ha7, ha8, ha9, ha10, ha11, ha12, ha13, ha14, ha15, ha24, ha25, ha26, ha27, ha28, ha29⟩, hEv, hPt, hns, htp⟩ := id hM
  obtain ⟨-, hop, hai, hfa, hT, hT1⟩ := id hEv
  have hay1 : zAt ad (i) (ad i) := rfl
  have hay2 : zAt ad (i + 1) (ad (i + 1)) := rfl
  have hay3 : zAt ad (i + 2) (ad (i + 2)) := rfl
  have hay4 : zAt ad (i + 3) (ad (i + 3)) := rfl
  have hay5 : zAt ad (i + 4) (ad (i + 4)) := rfl
  have hay6 : zAt ad (i + 5) (ad (i + 5)) := rfl
  have hay7 : zAt ad (i + 6) (ad (i + 6)) := rfl
  have hay8 : zAt ad (i + 7) (ad (i + 7)) := rfl
  have hay9 : zAt ad (i + 8) (ad (i + 8)) := rfl
  have hay10 : zAt ad (i + 9) (ad (i + 9)) := rfl
  have hay11 : zAt ad (i + 10) (ad (i + 10)) := rfl
  have hay12 : zAt ad (i + 11) (ad (i + 11)) := rfl
  have hay13 : zAt ad (i + 12) (ad (i + 12)) := rfl
  have hay14 : zAt ad (i + 13) (ad (i + 13)) := rfl
  have hay15 : zAt ad (i + 14) (ad (i + 14)) := rfl
  have hay16 : zAt ad (i + 15) (ad (i + 15)) := rfl
  have hay17 : zAt ad (i + 24) (ad (i + 24)) := rfl
  have hay18 : zAt ad (i + 25) (ad (i + 25)) := rfl
  have hay19 : zAt ad (i + 26) (ad (i + 26)) := rfl
  have hay20 : zAt ad (i + 27) (ad (i + 27)) := rfl
  have hay21 : zAt ad (i + 28) (ad (i + 28)) := rfl
  have hay22 : zAt ad (i + 29) (ad (i + 29)) := rfl
  obtain ⟨⟨hsyy23, htyy23, hnyy23, hpyy23⟩, hlyy23⟩ := okA.at0 hA
  simp only [Nat.zero_add] at hsyy23 hnyy23 hpyy23
  have hmn : ∀ s, s < 4 → 0 ≤ r (6 + 86 * s) ∧ r (6 + 86 * s) ≤ 12 := fun s hs => (hsyy23 s hs).1
  have h5 : 0 ≤ r 5 ∧ r 5 ≤ 6 := hpyy23
  refine z_of (by decide) (Nat.le_of_ble_eq_true rfl) ?_
  intro pZ eZ sZ mZ below meth cZ C hr hlk hnm
  refine z_lv (lv' := [(0, .ref (ad i))]) [0] rfl ?_
  refine z_aload_n C 0 dX10_undo_0 rfl ?_
  refine z_iconst (z := 0) C dX10_undo_1 rfl ?_
  refine z_put (fs' := mF ad (i) (uZ F 12 (0))) C (by omega) hay1 hg tyX10 tyX10_ok nmX10 rfl inA_X10 12 (by decide) q_1471 rfl rfl rfl rfl (Nat.le_of_ble_eq_true rfl) rfl dX10_undo_2 (fun gy24 egy25 => ?_)
  have hgy26 := up_s egy25
  refine z_aload_n C 0 dX10_undo_5 rfl ?_
  refine z_get (v := .int (zI (F 15))) C (by omega) hay1 hgy26 rfl inA_X10 15 (by decide) q_1474 rfl (fv (F := (uZ F 12 (0))) (f := 15) (fn rfl (by decide))) dX10_undo_6 ?_
  refine z_if_ne (tgt := 14) C dX10_undo_9 (by decide) (by omega) (fun hby27 => ?_) (fun hby27 => ?_)
  · refine z_aload_n C 0 dX10_undo_14 rfl ?_
    refine z_dup C dX10_undo_15 rfl ?_
    refine z_get (v := .int (zI (F 15))) C (by omega) hay1 hgy26 rfl inA_X10 15 (by decide) q_1474 rfl (fv (F := (uZ F 12 (0))) (f := 15) (fn rfl (by decide))) dX10_undo_16 ?_
    refine z_iconst (z := 1) C dX10_undo_19 rfl ?_
    refine z_isub C dX10_undo_20 ?_
    refine z_put (fs' := mF ad (i) (uZ (uZ F 12 (0)) 15 ((F 15) - 1))) C (by omega) hay1 hgy26 tyX10 tyX10_ok nmX10 rfl inA_X10 15 (by decide) q_1474 rfl rfl rfl rfl (Nat.le_of_ble_eq_true rfl) rfl dX10_undo_21 (fun gy28 egy29 => ?_)
    have hgy30 := up_s egy29
    refine z_aload_n C 0 dX10_undo_24 rfl ?_
    refine z_aload_n C 0 dX10_undo_25 rfl ?_
    refine z_get (v := .int (zI (F 16))) C (by omega) hay1 hgy30 rfl inA_X10 16 (by decide) q_1475 rfl (fv (F := (uZ (uZ F 12 (0)) 15 ((F 15) - 1))) (f := 16) (fn (fn rfl (by decide)) (by decide))) dX10_undo_26 ?_
    refine z_aload_n C 0 dX10_undo_29 rfl ?_
    refine z_get (v := .int (zI ((F 15) - 1))) C (by omega) hay1 hgy30 rfl inA_X10 15 (by decide) q_1474 rfl (fv (F := (uZ (uZ F 12 (0)) 15 ((F 15) - 1))) (f := 15) (uZ_s _ _ _)) dX10_undo_30 ?_
    refine z_cS (As := [.int (zI (F 16)), .int (zI ((F 15) - 1))]) (rest := [.ref (ad i)]) C (c_X10_keptAt l D A cs tt N ad _ (F 16) (by omega) ((F 15) - 1) (by omega)) ms_yX10_keptAt q_1874 hd_yX10_keptAt (by decide) (Nat.le_of_ble_eq_true rfl) (by decide) dX10_undo_33 rfl (kI0 fun vy31 gvy31 hvy31 => ?_)
    obtain ⟨⟨wvy31, hwvy31, rfl⟩, rfl⟩ := hvy31
    obtain ⟨bvy31, hbvy31⟩ : ∃ b9 : Nat, 350 * wvy31 = b9 := ⟨_, rfl⟩
    rw [hbvy31]
    refine z_iconst (z := 0) C dX10_undo_36 rfl ?_
    refine z_sipush (z := 350) C dX10_undo_37 (by decide) ?_
    have hgy32 := up_n egy25 ha1 (ne_o (i := i) (c := 1) (d := 0) rfl)
    have hgy33 := up_n egy29 hgy32 (ne_o (i := i) (c := 1) (d := 0) rfl)
    refine z_cV (As := [.int (zI ((bvy31 : Int))), .int (zI (0)), .int (zI (350))]) (rest := []) (ci := 12) C (c_X10_copies l D A cs tt N ad _ i hN _ hgy30 _ hgy33 bvy31 0 350 (by omega) (by omega) (by omega)) (by omega) hay1 hgy30 rfl rfl mv_yX10_copies q_1877 hd_yX10_copies (by decide) (Nat.le_of_ble_eq_true rfl) (by decide) dX10_undo_40 rfl (kV0 fun gvy34 hvy34 => ?_)
    obtain ⟨⟨rvy34, hcvy34, hevy34, hovy34⟩, hfvy34⟩ := hvy34
    have hAy35 : okA rvy34 (x) := okA.copy (a := wvy31) (b := 0) (m := 1) hA (by omega) (by omega) (by omega) (fun k hk => by rw [show 350 * wvy31 = bvy31 by omega]; exact hevy34 k (by omega)) (fun j hj => hovy34 j (by omega))
    refine z_aload_n C 0 dX10_undo_43 rfl ?_
    have hgy36 := (hfvy34 (i) (ne_o (i := i) (c := 0) (d := 1) rfl)).trans hgy30
    refine z_get (v := .int (zI ((F 15) - 1))) C (by omega) hay1 hgy36 rfl inA_X10 15 (by decide) q_1474 rfl (fv (F := (uZ (uZ F 12 (0)) 15 ((F 15) - 1))) (f := 15) (uZ_s _ _ _)) dX10_undo_44 ?_
    have hFy37 : ∀ f, f ≠ 12 → f ≠ 15 → (uZ (uZ F 12 (0)) 15 ((F 15) - 1)) f = F f := fun f n12 n15 => ((uZ_n _ _ n15).trans ((uZ_n _ _ n12).trans rfl))
    have hey38 : (uZ (uZ F 12 (0)) 15 ((F 15) - 1)) 13 = F 13 := (fn (fn rfl (by decide)) (by decide))
    have hey39 : (uZ (uZ F 12 (0)) 15 ((F 15) - 1)) 14 = F 14 := (fn (fn rfl (by decide)) (by decide))
    have hey40 : (uZ (uZ F 12 (0)) 15 ((F 15) - 1)) 15 = (F 15) - 1 := (uZ_s _ _ _)
    have hey41 : (uZ (uZ F 12 (0)) 15 ((F 15) - 1)) 16 = F 16 := (fn (fn rfl (by decide)) (by decide))
    have hey42 : (uZ (uZ F 12 (0)) 15 ((F 15) - 1)) 17 = F 17 := (fn (fn rfl (by decide)) (by decide))
    have hey43 : (uZ (uZ F 12 (0)) 15 ((F 15) - 1)) 18 = F 18 := (fn (fn rfl (by decide)) (by decide))
    have hey44 : (uZ (uZ F 12 (0)) 15 ((F 15) - 1)) 19 = F 19 := (fn (fn rfl (by decide)) (by decide))
    have hey45 : (uZ (uZ F 12 (0)) 15 ((F 15) - 1)) 20 = F 20 := (fn (fn rfl (by decide)) (by decide))
    have hey46 : (uZ (uZ F 12 (0)) 15 ((F 15) - 1)) 23 = F 23 := (fn (fn rfl (by decide)) (by decide))
    have hey47 : (uZ (uZ F 12 (0)) 15 ((F 15) - 1)) 25 = F 25 := (fn (fn rfl (by decide)) (by decide))
    have hey48 : (uZ (uZ F 12 (0)) 15 ((F 15) - 1)) 27 = F 27 := (fn (fn rfl (by decide)) (by decide))
    have hey49 : (uZ (uZ F 12 (0)) 15 ((F 15) - 1)) 28 = F 28 := (fn (fn rfl (by decide)) (by decide))
    have hey50 : (uZ (uZ F 12 (0)) 15 ((F 15) - 1)) 29 = F 29 := (fn (fn rfl (by decide)) (by decide))
    have hKy51 : okF (uZ (uZ F 12 (0)) 15 ((F 15) - 1)) := by unfold okF; omega
    have hMy52 : okMr cs ad gvy34 i (x + 1) (uZ (uZ F 12 (0)) 15 ((F 15) - 1)) rvy34 := okMr.upd hM hgy36 hKy51 (fun f a => hFy37 f (by omega) (by omega)) hcvy34 (hAy35.mono (by omega)) (fun j a b => by
        exact Or.inl (by rw [hfvy34 _ (by omega)]; rw [egy29, va_up_ne _ _ (by omega)]; rw [egy25, va_up_ne _ _ (by omega)]))
    have h23 : (uZ (uZ F 12 (0)) 15 ((F 15) - 1)) 23 = F 23 := (fn (fn rfl (by decide)) (by decide))
    exact z_iret C hr hlk dX10_undo_47 (by decide) (by decide) ⟨(F 15) - 1, rfl, rfl, rfl, by omega, ⟨_, _, hMy52, by omega⟩, fun j j1 => by rw [hfvy34 _ (by omega)]; rw [egy29, va_up_ne _ _ (by omega)]; rw [egy25, va_up_ne _ _ (by omega)]⟩
  · refine z_iconst (z := -1) C dX10_undo_12 rfl ?_
    have hgy53 := up_n egy25 ha1 (ne_o (i := i) (c := 1) (d := 0) rfl)
    have hFy54 : ∀ f, f ≠ 12 → (uZ F 12 (0)) f = F f := fun f n12 => ((uZ_n _ _ n12).trans rfl)
    have hey55 : (uZ F 12 (0)) 13 = F 13 := (fn rfl (by decide))
    have hey56 : (uZ F 12 (0)) 14 = F 14 := (fn rfl (by decide))
    have hey57 : (uZ F 12 (0)) 15 = F 15 := (fn rfl (by decide))
    have hey58 : (uZ F 12 (0)) 16 = F 16 := (fn rfl (by decide))
    have hey59 : (uZ F 12 (0)) 17 = F 17 := (fn rfl (by decide))
    have hey60 : (uZ F 12 (0)) 18 = F 18 := (fn rfl (by decide))
    have hey61 : (uZ F 12 (0)) 19 = F 19 := (fn rfl (by decide))
    have hey62 : (uZ F 12 (0)) 20 = F 20 := (fn rfl (by decide))
    have hey63 : (uZ F 12 (0)) 23 = F 23 := (fn rfl (by decide))
    have hey64 : (uZ F 12 (0)) 25 = F 25 := (fn rfl (by decide))
    have hey65 : (uZ F 12 (0)) 27 = F 27 := (fn rfl (by decide))
    have hey66 : (uZ F 12 (0)) 28 = F 28 := (fn rfl (by decide))
    have hey67 : (uZ F 12 (0)) 29 = F 29 := (fn rfl (by decide))
    have hKy68 : okF (uZ F 12 (0)) := by unfold okF; omega
    have hMy69 : okMr cs ad gy24 i (x + 1) (uZ F 12 (0)) r := okMr.upd hM hgy26 hKy68 (fun f a => hFy54 f (by omega)) hgy53 (hA.mono (by omega)) (fun j a b => by
        exact Or.inl (by rw [egy25, va_up_ne _ _ (by omega)]))
    have h23 : (uZ F 12 (0)) 23 = F 23 := (fn rfl (by decide))
    exact z_iret C hr hlk dX10_undo_13 (by decide) (by decide) ⟨-1, rfl, rfl, rfl, by omega, ⟨_, _, hMy69, by omega⟩, fun j j1 => by rw [egy25, va_up_ne _ _ (by omega)]⟩

set_option maxRecDepth 100000 in
set_option maxHeartbeats 4000000 in
theorem c_X10_then_a (l : Launch) (D : va_G) (A : Nat → Prop) (cs : Nat → ClassId) (tt : Nat) (N : Nat) (ad : Nat → Nat) (g : Nat → va_E) (i : Nat) (hN : i + 30 ≤ N) (x : Int) (hx : 0 ≤ x ∧ x ≤ 512) (F r : Nat → Int) (hM : okMr cs ad g i x F r) (n : Nat) (hn4 : n < 4) (z1 : Int) (hz1 : -2147483648 ≤ z1 ∧ z1 ≤ 2147483647) (z2 : Int) (hz2 : -2147483648 ≤ z2 ∧ z2 ≤ 2147483647) : zM l yX10_then cX10_then 5 (some .int) ({ frames := 10, cells := 0, slots := 0, locals := 600 } : Room) D A cs tt N ad g [.ref (ad i), .int (zI ((n : Int))), .int (zI (z1)), .int (zI (z2))] (rI0 N ad fun q g' => (-2147483648 ≤ q ∧ q ≤ 2147483647) ∧ (∃ F' r' : Nat → Int, okMr cs ad g' i (x + 1) F' r' ∧ F' 23 = F 23) ∧ ∀ j, j < i ∨ i + 30 ≤ j → g' j = g j) := by
  obtain ⟨hg, ⟨⟨e13, e14, e25, e27, e29⟩, k15, k16, k17, k18, k19, k20, k23⟩, hRD, hTx, hA, st, op, ai, fa, mu, tb, ns, nh, nd, rf, pi, tp, te, ki, li, ok1, ok2, fo, dd, dps, ⟨ha1, ha2, ha3, ha4, ha5, ha6, ha7, ha8, ha9, ha10, ha11, ha12, ha13, ha14, ha15, ha24, ha25, ha26, ha27, ha28, ha29⟩, hEv, hPt, hns, htp⟩ := id hM
  obtain ⟨-, hop, hai, hfa, hT, hT1⟩ := id hEv
  have hay1 : zAt ad (i) (ad i) := rfl
  have hay2 : zAt ad (i + 1) (ad (i + 1)) := rfl
  have hay3 : zAt ad (i + 2) (ad (i + 2)) := rfl
  have hay4 : zAt ad (i + 3) (ad (i + 3)) := rfl
  have hay5 : zAt ad (i + 4) (ad (i + 4)) := rfl
  have hay6 : zAt ad (i + 5) (ad (i + 5)) := rfl
  have hay7 : zAt ad (i + 6) (ad (i + 6)) := rfl
  have hay8 : zAt ad (i + 7) (ad (i + 7)) := rfl
  have hay9 : zAt ad (i + 8) (ad (i + 8)) := rfl
  have hay10 : zAt ad (i + 9) (ad (i + 9)) := rfl
  have hay11 : zAt ad (i + 10) (ad (i + 10)) := rfl
  have hay12 : zAt ad (i + 11) (ad (i + 11)) := rfl
  have hay13 : zAt ad (i + 12) (ad (i + 12)) := rfl
  have hay14 : zAt ad (i + 13) (ad (i + 13)) := rfl
  have hay15 : zAt ad (i + 14) (ad (i + 14)) := rfl
  have hay16 : zAt ad (i + 15) (ad (i + 15)) := rfl
  have hay17 : zAt ad (i + 24) (ad (i + 24)) := rfl
  have hay18 : zAt ad (i + 25) (ad (i + 25)) := rfl
  have hay19 : zAt ad (i + 26) (ad (i + 26)) := rfl
  have hay20 : zAt ad (i + 27) (ad (i + 27)) := rfl
  have hay21 : zAt ad (i + 28) (ad (i + 28)) := rfl
  have hay22 : zAt ad (i + 29) (ad (i + 29)) := rfl
  obtain ⟨⟨hsyy23, htyy23, hnyy23, hpyy23⟩, hlyy23⟩ := okA.at0 hA
  simp only [Nat.zero_add] at hsyy23 hnyy23 hpyy23
  have hmn : ∀ s, s < 4 → 0 ≤ r (6 + 86 * s) ∧ r (6 + 86 * s) ≤ 12 := fun s hs => (hsyy23 s hs).1
  have h5 : 0 ≤ r 5 ∧ r 5 ≤ 6 := hpyy23
  refine z_of (by decide) (Nat.le_of_ble_eq_true rfl) ?_
  intro pZ eZ sZ mZ below meth cZ C hr hlk hnm
  refine z_lv (lv' := [(0, .ref (ad i)), (1, .int (zI ((n : Int)))), (2, .int (zI (z1))), (3, .int (zI (z2)))]) [0, 1, 2, 3] rfl ?_
  refine z_aload_n C 0 dX10_then_0 rfl ?_
  refine z_iconst (z := 0) C dX10_then_1 rfl ?_
  refine z_put (fs' := mF ad (i) (uZ F 12 (0))) C (by omega) hay1 hg tyX10 tyX10_ok nmX10 rfl inA_X10 12 (by decide) q_1471 rfl rfl rfl rfl (Nat.le_of_ble_eq_true rfl) rfl dX10_then_2 (fun gy24 egy25 => ?_)
  have hgy26 := up_s egy25
  refine z_aload_n C 0 dX10_then_5 rfl ?_
  refine z_iload_n C 1 dX10_then_6 rfl ?_
  have h13vy27 : (uZ F 12 (0)) 13 = F 13 := (fn rfl (by decide))
  have hey28 : (uZ F 12 (0)) 12 = 0 := (uZ_s _ _ _)
  refine z_cV (As := [.int (zI ((n : Int)))]) (rest := []) (ci := 12) C (c_X10_isSlope l D A cs tt N ad _ i hN _ hgy26 (by omega) (by omega) ((n : Int)) (by omega)) (by omega) hay1 hgy26 rfl rfl mv_yX10_isSlope q_1803 hd_yX10_isSlope (by decide) (Nat.le_of_ble_eq_true rfl) (by decide) dX10_then_7 rfl (kI0 fun vy27 gvy27 hvy27 => ?_)
  rw [h13vy27] at hvy27
  obtain ⟨hrvy27, ⟨Fvy27, hcvy27, htvy27, hFvy27⟩, hfvy27⟩ := hvy27
  rcases (show vy27 = 1 ∨ vy27 = 0 by omega) with rfl | rfl
  · have hxvy27 := hrvy27.2 rfl
    refine z_if_eq (tgt := 43) C dX10_then_10 (by decide) (by omega) (fun h => absurd h (by omega)) (fun _ => ?_)
    refine z_aload_n C 0 dX10_then_13 rfl ?_
    refine z_iload_n C 3 dX10_then_14 rfl ?_
    refine z_iconst (z := 0) C dX10_then_15 rfl ?_
    refine z_bipush (z := 6) C dX10_then_16 (by decide) ?_
    refine z_cS (As := [.int (zI (z2)), .int (zI (0)), .int (zI (6))]) (rest := [.ref (ad i)]) C (c_X10_within l D A cs tt N ad _ (z2) (by omega) (0) (by omega) (6) (by omega)) ms_yX10_within q_1686 hd_yX10_within (by decide) (Nat.le_of_ble_eq_true rfl) (by decide) dX10_then_18 rfl (kI0 fun vy29 gvy29 hvy29 => ?_)
    obtain ⟨hvy29, rfl⟩ := hvy29
    rcases hvy29 with ⟨rfl, hxvy29⟩ | ⟨rfl, hxvy29⟩
    · refine z_iconst (z := 1) C dX10_then_21 rfl ?_
      have hey31 : Fvy27 12 = Fvy27 12 := rfl
      refine z_cV (As := [.int (zI (1)), .int (zI (1))]) (rest := []) (ci := 12) C (c_X10_right l D A cs tt N ad _ i hN _ hcvy27 (by omega) (1) (by omega) (1) (by omega)) (by omega) hay1 hcvy27 rfl rfl mv_yX10_right q_1648 hd_yX10_right (by decide) (Nat.le_of_ble_eq_true rfl) (by decide) dX10_then_22 rfl (kI0 fun vy30 gvy30 hvy30 => ?_)
      obtain ⟨hrvy30, ⟨Fvy30, hcvy30, htvy30, hFvy30⟩, hfvy30⟩ := hvy30
      rcases (show vy30 = 1 ∨ vy30 = 0 by omega) with rfl | rfl
      · refine z_if_eq (tgt := 43) C dX10_then_25 (by decide) (by omega) (fun h => absurd h (by omega)) (fun _ => ?_)
        refine z_aload_n C 0 dX10_then_28 rfl ?_
        refine z_iload_n C 2 dX10_then_29 rfl ?_
        refine z_iconst (z := 0) C dX10_then_30 rfl ?_
        refine z_bipush (z := 72) C dX10_then_31 (by decide) ?_
        refine z_cS (As := [.int (zI (z1)), .int (zI (0)), .int (zI (72))]) (rest := [.ref (ad i)]) C (c_X10_within l D A cs tt N ad _ (z1) (by omega) (0) (by omega) (72) (by omega)) ms_yX10_within q_1686 hd_yX10_within (by decide) (Nat.le_of_ble_eq_true rfl) (by decide) dX10_then_33 rfl (kI0 fun vy32 gvy32 hvy32 => ?_)
        obtain ⟨hvy32, rfl⟩ := hvy32
        rcases hvy32 with ⟨rfl, hxvy32⟩ | ⟨rfl, hxvy32⟩
        · refine z_iconst (z := 2) C dX10_then_36 rfl ?_
          have hey34 : Fvy30 12 = Fvy30 12 := rfl
          refine z_cV (As := [.int (zI (1)), .int (zI (2))]) (rest := []) (ci := 12) C (c_X10_right l D A cs tt N ad _ i hN _ hcvy30 (by omega) (1) (by omega) (2) (by omega)) (by omega) hay1 hcvy30 rfl rfl mv_yX10_right q_1648 hd_yX10_right (by decide) (Nat.le_of_ble_eq_true rfl) (by decide) dX10_then_37 rfl (kI0 fun vy33 gvy33 hvy33 => ?_)
          obtain ⟨hrvy33, ⟨Fvy33, hcvy33, htvy33, hFvy33⟩, hfvy33⟩ := hvy33
          rcases (show vy33 = 1 ∨ vy33 = 0 by omega) with rfl | rfl
          · refine z_if_ne (tgt := 45) C dX10_then_40 (by decide) (by omega) (fun _ => ?_) (fun h => absurd h (by omega))
            refine z_aload_n C 0 dX10_then_45 rfl ?_
            have hgy35 := up_n egy25 ha1 (ne_o (i := i) (c := 1) (d := 0) rfl)
            have hgy36 := (hfvy27 (i + 1) (ne_o (i := i) (c := 1) (d := 0) rfl)).trans hgy35
            have hgy37 := (hfvy30 (i + 1) (ne_o (i := i) (c := 1) (d := 0) rfl)).trans hgy36
            have hgy38 := (hfvy33 (i + 1) (ne_o (i := i) (c := 1) (d := 0) rfl)).trans hgy37
            refine z_cV (As := []) (rest := []) (ci := 12) C (c_X10_tries l D A cs tt N ad _ i hN _ hcvy33 _ hgy38 (x) hA) (by omega) hay1 hcvy33 rfl rfl mv_yX10_tries q_1980 hd_yX10_tries (by decide) (Nat.le_of_ble_eq_true rfl) (by decide) dX10_then_46 rfl (kV0 fun gvy39 hvy39 => ?_)
            obtain ⟨⟨rvy39, hdvy39, hAvy39, hWvy39, h0vy39, hyvy39⟩, hfvy39⟩ := hvy39
            obtain ⟨⟨hsyy40, htyy40, hnyy40, hpyy40⟩, hlyy40⟩ := okA.at0 hAvy39
            simp only [Nat.zero_add] at hsyy40 hnyy40 hpyy40
            have hmn : ∀ s, s < 4 → 0 ≤ rvy39 (6 + 86 * s) ∧ rvy39 (6 + 86 * s) ≤ 12 := fun s hs => (hsyy40 s hs).1
            have h5 : 0 ≤ rvy39 5 ∧ rvy39 5 ≤ 6 := hpyy40
            refine z_aload_n C 0 dX10_then_49 rfl ?_
            refine z_sipush (z := 350) C dX10_then_50 (by decide) ?_
            refine z_iload_n C 2 dX10_then_53 rfl ?_
            have hgy41 := (hfvy39 (i) (ne_o (i := i) (c := 0) (d := 1) rfl)).trans hcvy33
            have hey43 : Fvy33 13 = F 13 := ((hFvy33 13 (by decide)).trans ((hFvy30 13 (by decide)).trans ((hFvy27 13 (by decide)).trans (fn rfl (by decide)))))
            have hey44 : Fvy33 14 = F 14 := ((hFvy33 14 (by decide)).trans ((hFvy30 14 (by decide)).trans ((hFvy27 14 (by decide)).trans (fn rfl (by decide)))))
            have hey45 : Fvy33 25 = F 25 := ((hFvy33 25 (by decide)).trans ((hFvy30 25 (by decide)).trans ((hFvy27 25 (by decide)).trans (fn rfl (by decide)))))
            have hey46 : Fvy33 27 = F 27 := ((hFvy33 27 (by decide)).trans ((hFvy30 27 (by decide)).trans ((hFvy27 27 (by decide)).trans (fn rfl (by decide)))))
            have hey47 : Fvy33 28 = F 28 := ((hFvy33 28 (by decide)).trans ((hFvy30 28 (by decide)).trans ((hFvy27 28 (by decide)).trans (fn rfl (by decide)))))
            have hey48 : Fvy33 29 = F 29 := ((hFvy33 29 (by decide)).trans ((hFvy30 29 (by decide)).trans ((hFvy27 29 (by decide)).trans (fn rfl (by decide)))))
            have hEvy42 : okEnv Fvy33 _ _ _ _ _ := ⟨by omega, hop, hai, hfa, hT, hT1⟩
            have hgy50 := up_n egy25 ha3 (ne_o (i := i) (c := 3) (d := 0) rfl)
            have hgy51 := (hfvy27 (i + 3) (ne_o (i := i) (c := 3) (d := 0) rfl)).trans hgy50
            have hgy52 := (hfvy30 (i + 3) (ne_o (i := i) (c := 3) (d := 0) rfl)).trans hgy51
            have hgy53 := (hfvy33 (i + 3) (ne_o (i := i) (c := 3) (d := 0) rfl)).trans hgy52
            have hgy54 := (hfvy39 (i + 3) (ne_o (i := i) (c := 3) (d := 1) rfl)).trans hgy53
            have hgy55 := up_n egy25 ha4 (ne_o (i := i) (c := 4) (d := 0) rfl)
            have hgy56 := (hfvy27 (i + 4) (ne_o (i := i) (c := 4) (d := 0) rfl)).trans hgy55
            have hgy57 := (hfvy30 (i + 4) (ne_o (i := i) (c := 4) (d := 0) rfl)).trans hgy56
            have hgy58 := (hfvy33 (i + 4) (ne_o (i := i) (c := 4) (d := 0) rfl)).trans hgy57
            have hgy59 := (hfvy39 (i + 4) (ne_o (i := i) (c := 4) (d := 1) rfl)).trans hgy58
            have hgy60 := up_n egy25 ha5 (ne_o (i := i) (c := 5) (d := 0) rfl)
            have hgy61 := (hfvy27 (i + 5) (ne_o (i := i) (c := 5) (d := 0) rfl)).trans hgy60
            have hgy62 := (hfvy30 (i + 5) (ne_o (i := i) (c := 5) (d := 0) rfl)).trans hgy61
            have hgy63 := (hfvy33 (i + 5) (ne_o (i := i) (c := 5) (d := 0) rfl)).trans hgy62
            have hgy64 := (hfvy39 (i + 5) (ne_o (i := i) (c := 5) (d := 1) rfl)).trans hgy63
            have hgy65 := up_n egy25 ha6 (ne_o (i := i) (c := 6) (d := 0) rfl)
            have hgy66 := (hfvy27 (i + 6) (ne_o (i := i) (c := 6) (d := 0) rfl)).trans hgy65
            have hgy67 := (hfvy30 (i + 6) (ne_o (i := i) (c := 6) (d := 0) rfl)).trans hgy66
            have hgy68 := (hfvy33 (i + 6) (ne_o (i := i) (c := 6) (d := 0) rfl)).trans hgy67
            have hgy69 := (hfvy39 (i + 6) (ne_o (i := i) (c := 6) (d := 1) rfl)).trans hgy68
            have hgy70 := up_n egy25 ha7 (ne_o (i := i) (c := 7) (d := 0) rfl)
            have hgy71 := (hfvy27 (i + 7) (ne_o (i := i) (c := 7) (d := 0) rfl)).trans hgy70
            have hgy72 := (hfvy30 (i + 7) (ne_o (i := i) (c := 7) (d := 0) rfl)).trans hgy71
            have hgy73 := (hfvy33 (i + 7) (ne_o (i := i) (c := 7) (d := 0) rfl)).trans hgy72
            have hgy74 := (hfvy39 (i + 7) (ne_o (i := i) (c := 7) (d := 1) rfl)).trans hgy73
            have hgy75 := up_n egy25 ha14 (ne_o (i := i) (c := 14) (d := 0) rfl)
            have hgy76 := (hfvy27 (i + 14) (ne_o (i := i) (c := 14) (d := 0) rfl)).trans hgy75
            have hgy77 := (hfvy30 (i + 14) (ne_o (i := i) (c := 14) (d := 0) rfl)).trans hgy76
            have hgy78 := (hfvy33 (i + 14) (ne_o (i := i) (c := 14) (d := 0) rfl)).trans hgy77
            have hgy79 := (hfvy39 (i + 14) (ne_o (i := i) (c := 14) (d := 1) rfl)).trans hgy78
            have hgy80 := up_n egy25 ha15 (ne_o (i := i) (c := 15) (d := 0) rfl)
            have hgy81 := (hfvy27 (i + 15) (ne_o (i := i) (c := 15) (d := 0) rfl)).trans hgy80
            have hgy82 := (hfvy30 (i + 15) (ne_o (i := i) (c := 15) (d := 0) rfl)).trans hgy81
            have hgy83 := (hfvy33 (i + 15) (ne_o (i := i) (c := 15) (d := 0) rfl)).trans hgy82
            have hgy84 := (hfvy39 (i + 15) (ne_o (i := i) (c := 15) (d := 1) rfl)).trans hgy83
            refine z_cV (As := [.int (zI (350)), .int (zI (z1))]) (rest := []) (ci := 12) C (c_X10_goes l D A cs tt N ad _ i hN _ hgy41 _ hdvy39 _ hgy54 _ hgy59 _ hgy64 _ hgy69 _ hgy74 _ hgy79 _ hgy84 350 (by omega) hEvy42 (x) (by omega) hWvy39 (z1) (by omega) (by omega) (by omega)) (by omega) hay1 hgy41 rfl rfl mv_yX10_goes q_1881 hd_yX10_goes (by decide) (Nat.le_of_ble_eq_true rfl) (by decide) dX10_then_54 rfl (kV0 fun gvy49 hvy49 => ?_)
            obtain ⟨⟨rvy49, hcvy49, hwvy49, htvy49, hyvy49⟩, ⟨t4vy49, h4vy49⟩, ⟨t5vy49, h5vy49⟩, hfvy49⟩ := hvy49
            have hAy85 : okA rvy49 (x) := okA.tried hAvy39 (fun j a => hyvy49 j (by omega))
            obtain ⟨⟨hsyy86, htyy86, hnyy86, hpyy86⟩, hlyy86⟩ := okA.at0 hAy85
            simp only [Nat.zero_add] at hsyy86 hnyy86 hpyy86
            have hmn : ∀ s, s < 4 → 0 ≤ rvy49 (6 + 86 * s) ∧ rvy49 (6 + 86 * s) ≤ 12 := fun s hs => (hsyy86 s hs).1
            have h5 : 0 ≤ rvy49 5 ∧ rvy49 5 ≤ 6 := hpyy86
            refine z_aload_n C 0 dX10_then_57 rfl ?_
            refine z_sipush (z := 350) C dX10_then_58 (by decide) ?_
            refine z_iload_n C 1 dX10_then_61 rfl ?_
            obtain ⟨py87, hpy87⟩ : ∃ p9 : Nat, 350 + 6 + 86 * n = p9 := ⟨_, rfl⟩
            have hgy88 := (hfvy49 (i) (ne_o (i := i) (c := 0) (d := 1) rfl) (ne_o (i := i) (c := 0) (d := 14) rfl) (ne_o (i := i) (c := 0) (d := 15) rfl)).trans hgy41
            have hgy90 := up_n egy25 ha2 (ne_o (i := i) (c := 2) (d := 0) rfl)
            have hgy91 := (hfvy27 (i + 2) (ne_o (i := i) (c := 2) (d := 0) rfl)).trans hgy90
            have hgy92 := (hfvy30 (i + 2) (ne_o (i := i) (c := 2) (d := 0) rfl)).trans hgy91
            have hgy93 := (hfvy33 (i + 2) (ne_o (i := i) (c := 2) (d := 0) rfl)).trans hgy92
            have hgy94 := (hfvy39 (i + 2) (ne_o (i := i) (c := 2) (d := 1) rfl)).trans hgy93
            have hgy95 := (hfvy49 (i + 2) (ne_o (i := i) (c := 2) (d := 1) rfl) (ne_o (i := i) (c := 2) (d := 14) rfl) (ne_o (i := i) (c := 2) (d := 15) rfl)).trans hgy94
            have hgy96 := (hfvy49 (i + 7) (ne_o (i := i) (c := 7) (d := 1) rfl) (ne_o (i := i) (c := 7) (d := 14) rfl) (ne_o (i := i) (c := 7) (d := 15) rfl)).trans hgy74
            have hqy97 : qS rvy49 py87 := ((hwvy49.1 n (by omega)).of (p2 := py87) (by omega)).q (by have hb9 := mBb (t := rvy49 350 + x) (by omega); omega)
            have hmky98 := hqy97.1
            refine z_cV (As := [.int (zI (350)), .int (zI ((n : Int)))]) (rest := []) (ci := 12) C (c_X10_weakest l D A cs tt N ad _ i hN _ hgy88 _ hcvy49 _ hgy95 _ hgy96 350 n py87 hpy87 (by omega) (by omega) hqy97) (by omega) hay1 hgy88 rfl rfl mv_yX10_weakest q_1807 hd_yX10_weakest (by decide) (Nat.le_of_ble_eq_true rfl) (by decide) dX10_then_62 rfl (kI0 fun vy89 gvy89 hvy89 => ?_)
            obtain ⟨hvy89, rfl⟩ := hvy89
            refine z_istore (lv' := [(4, .int (zI (vy89))), (0, .ref (ad i)), (1, .int (zI ((n : Int)))), (2, .int (zI (z1))), (3, .int (zI (z2)))]) C dX10_then_65 (by decide) rfl ?_
            refine z_iload_n C 4 dX10_then_67 rfl ?_
            by_cases hsy99 : z2 ≠ 0 ∧ z2 ≠ 1 ∧ z2 ≠ 2 ∧ z2 ≠ 3 ∧ z2 ≠ 4 ∧ z2 ≠ 5
            · refine z_tout (tgt := 179) C dX10_then_68 (by omega) (by omega) (by decide) ?_
              refine z_aload_n C 1 dX10_then_179 rfl ?_
              refine z_get (v := .ref (ad (i + 1))) C (by omega) hay1 hgy88 rfl inA_X10 0 (by decide) q_1459 rfl rfl dX10_then_180 ?_
              refine z_sipush (z := 356) C dX10_then_183 (by decide) ?_
              refine z_bipush (z := 86) C dX10_then_186 (by decide) ?_
              refine z_iload_n C 2 dX10_then_188 rfl ?_
              refine z_imul C dX10_then_189 ?_
              refine z_iadd C dX10_then_190 ?_
              refine z_iconst (z := 1) C dX10_then_191 rfl ?_
              refine z_iadd C dX10_then_192 ?_
              refine z_iald C (by omega) hay2 hcvy49 (((356 + (86 * (n : Int))) + 1).toNat) (by omega) (by omega) (by decide) dX10_then_193 ?_
              obtain ⟨xy100, exy101, hxy102⟩ := zI_of (zI (rvy49 (((356 + (86 * (n : Int))) + 1).toNat)))
              rw [exy101]
              have hFy103 : ∀ f, f ≠ 12 → Fvy33 f = F f := fun f n12 => ((hFvy33 f n12).trans ((hFvy30 f n12).trans ((hFvy27 f n12).trans ((uZ_n _ _ n12).trans rfl))))
              have hey104 : Fvy33 13 = F 13 := ((hFvy33 13 (by decide)).trans ((hFvy30 13 (by decide)).trans ((hFvy27 13 (by decide)).trans (fn rfl (by decide)))))
              have hey105 : Fvy33 14 = F 14 := ((hFvy33 14 (by decide)).trans ((hFvy30 14 (by decide)).trans ((hFvy27 14 (by decide)).trans (fn rfl (by decide)))))
              have hey106 : Fvy33 15 = F 15 := ((hFvy33 15 (by decide)).trans ((hFvy30 15 (by decide)).trans ((hFvy27 15 (by decide)).trans (fn rfl (by decide)))))
              have hey107 : Fvy33 16 = F 16 := ((hFvy33 16 (by decide)).trans ((hFvy30 16 (by decide)).trans ((hFvy27 16 (by decide)).trans (fn rfl (by decide)))))
              have hey108 : Fvy33 17 = F 17 := ((hFvy33 17 (by decide)).trans ((hFvy30 17 (by decide)).trans ((hFvy27 17 (by decide)).trans (fn rfl (by decide)))))
              have hey109 : Fvy33 18 = F 18 := ((hFvy33 18 (by decide)).trans ((hFvy30 18 (by decide)).trans ((hFvy27 18 (by decide)).trans (fn rfl (by decide)))))
              have hey110 : Fvy33 19 = F 19 := ((hFvy33 19 (by decide)).trans ((hFvy30 19 (by decide)).trans ((hFvy27 19 (by decide)).trans (fn rfl (by decide)))))
              have hey111 : Fvy33 20 = F 20 := ((hFvy33 20 (by decide)).trans ((hFvy30 20 (by decide)).trans ((hFvy27 20 (by decide)).trans (fn rfl (by decide)))))
              have hey112 : Fvy33 23 = F 23 := ((hFvy33 23 (by decide)).trans ((hFvy30 23 (by decide)).trans ((hFvy27 23 (by decide)).trans (fn rfl (by decide)))))
              have hey113 : Fvy33 25 = F 25 := ((hFvy33 25 (by decide)).trans ((hFvy30 25 (by decide)).trans ((hFvy27 25 (by decide)).trans (fn rfl (by decide)))))
              have hey114 : Fvy33 27 = F 27 := ((hFvy33 27 (by decide)).trans ((hFvy30 27 (by decide)).trans ((hFvy27 27 (by decide)).trans (fn rfl (by decide)))))
              have hey115 : Fvy33 28 = F 28 := ((hFvy33 28 (by decide)).trans ((hFvy30 28 (by decide)).trans ((hFvy27 28 (by decide)).trans (fn rfl (by decide)))))
              have hey116 : Fvy33 29 = F 29 := ((hFvy33 29 (by decide)).trans ((hFvy30 29 (by decide)).trans ((hFvy27 29 (by decide)).trans (fn rfl (by decide)))))
              have hKy117 : okF Fvy33 := by unfold okF; omega
              have hMy118 : okMr cs ad gvy49 i (x + 1) Fvy33 rvy49 := okMr.upd hM hgy88 hKy117 (fun f a => hFy103 f (by omega)) hcvy49 (hAy85.mono (by omega)) (fun j a b => by
                  by_cases e0 : j = i + 14
                  · exact Or.inr ⟨14, _, e0, lsP.l (by decide), by rw [e0]; exact h4vy49⟩
                  by_cases e1 : j = i + 15
                  · exact Or.inr ⟨15, _, e1, lsP.l (by decide), by rw [e1]; exact h5vy49⟩
                  exact Or.inl (by rw [hfvy49 _ (by omega) (by omega) (by omega)]; rw [hfvy39 _ (by omega)]; rw [hfvy33 _ (by omega)]; rw [hfvy30 _ (by omega)]; rw [hfvy27 _ (by omega)]; rw [egy25, va_up_ne _ _ (by omega)]))
              have h23 : Fvy33 23 = F 23 := ((hFvy33 23 (by decide)).trans ((hFvy30 23 (by decide)).trans ((hFvy27 23 (by decide)).trans (fn rfl (by decide)))))
              exact z_iret C hr hlk dX10_then_194 (by decide) (by decide) ⟨xy100, rfl, rfl, rfl, by omega, ⟨_, _, hMy118, by omega⟩, fun j j1 => by rw [hfvy49 _ (by omega) (by omega) (by omega)]; rw [hfvy39 _ (by omega)]; rw [hfvy33 _ (by omega)]; rw [hfvy30 _ (by omega)]; rw [hfvy27 _ (by omega)]; rw [egy25, va_up_ne _ _ (by omega)]⟩
            · rcases (show z2 = 0 ∨ z2 = 1 ∨ z2 = 2 ∨ z2 = 3 ∨ z2 = 4 ∨ z2 = 5 by omega) with rfl | rfl | rfl | rfl | rfl | rfl
              · refine z_tin (off := 40) (tgt := 108) C dX10_then_68 (by omega) (by omega) (by omega) rfl (by decide) ?_
                refine z_aload_n C 1 dX10_then_108 rfl ?_
                refine z_sipush (z := 350) C dX10_then_109 (by decide) ?_
                refine z_iload_n C 2 dX10_then_112 rfl ?_
                refine z_iconst (z := 3) C dX10_then_113 rfl ?_
                have hqy120 : qS rvy49 py87 := ((hwvy49.1 n (by omega)).of (p2 := py87) (by omega)).q (by have hb9 := mBb (t := rvy49 350 + x) (by omega); omega)
                have hmky121 := hqy120.1
                refine z_cV (As := [.int (zI (350)), .int (zI ((n : Int))), .int (zI (3))]) (rest := []) (ci := 12) C (c_X10_sumA l D A cs tt N ad _ i hN _ hgy88 _ hcvy49 350 n py87 hpy87 (by omega) (by omega) hqy120 3 (by omega)) (by omega) hay1 hgy88 rfl rfl mv_yX10_sum q_1745 hd_yX10_sum (by decide) (Nat.le_of_ble_eq_true rfl) (by decide) dX10_then_114 rfl (kI0 fun vy119 gvy119 hvy119 => ?_)
                obtain ⟨hvy119, rfl⟩ := hvy119
                have hFy122 : ∀ f, f ≠ 12 → Fvy33 f = F f := fun f n12 => ((hFvy33 f n12).trans ((hFvy30 f n12).trans ((hFvy27 f n12).trans ((uZ_n _ _ n12).trans rfl))))
                have hey123 : Fvy33 13 = F 13 := ((hFvy33 13 (by decide)).trans ((hFvy30 13 (by decide)).trans ((hFvy27 13 (by decide)).trans (fn rfl (by decide)))))
                have hey124 : Fvy33 14 = F 14 := ((hFvy33 14 (by decide)).trans ((hFvy30 14 (by decide)).trans ((hFvy27 14 (by decide)).trans (fn rfl (by decide)))))
                have hey125 : Fvy33 15 = F 15 := ((hFvy33 15 (by decide)).trans ((hFvy30 15 (by decide)).trans ((hFvy27 15 (by decide)).trans (fn rfl (by decide)))))
                have hey126 : Fvy33 16 = F 16 := ((hFvy33 16 (by decide)).trans ((hFvy30 16 (by decide)).trans ((hFvy27 16 (by decide)).trans (fn rfl (by decide)))))
                have hey127 : Fvy33 17 = F 17 := ((hFvy33 17 (by decide)).trans ((hFvy30 17 (by decide)).trans ((hFvy27 17 (by decide)).trans (fn rfl (by decide)))))
                have hey128 : Fvy33 18 = F 18 := ((hFvy33 18 (by decide)).trans ((hFvy30 18 (by decide)).trans ((hFvy27 18 (by decide)).trans (fn rfl (by decide)))))
                have hey129 : Fvy33 19 = F 19 := ((hFvy33 19 (by decide)).trans ((hFvy30 19 (by decide)).trans ((hFvy27 19 (by decide)).trans (fn rfl (by decide)))))
                have hey130 : Fvy33 20 = F 20 := ((hFvy33 20 (by decide)).trans ((hFvy30 20 (by decide)).trans ((hFvy27 20 (by decide)).trans (fn rfl (by decide)))))
                have hey131 : Fvy33 23 = F 23 := ((hFvy33 23 (by decide)).trans ((hFvy30 23 (by decide)).trans ((hFvy27 23 (by decide)).trans (fn rfl (by decide)))))
                have hey132 : Fvy33 25 = F 25 := ((hFvy33 25 (by decide)).trans ((hFvy30 25 (by decide)).trans ((hFvy27 25 (by decide)).trans (fn rfl (by decide)))))
                have hey133 : Fvy33 27 = F 27 := ((hFvy33 27 (by decide)).trans ((hFvy30 27 (by decide)).trans ((hFvy27 27 (by decide)).trans (fn rfl (by decide)))))
                have hey134 : Fvy33 28 = F 28 := ((hFvy33 28 (by decide)).trans ((hFvy30 28 (by decide)).trans ((hFvy27 28 (by decide)).trans (fn rfl (by decide)))))
                have hey135 : Fvy33 29 = F 29 := ((hFvy33 29 (by decide)).trans ((hFvy30 29 (by decide)).trans ((hFvy27 29 (by decide)).trans (fn rfl (by decide)))))
                have hKy136 : okF Fvy33 := by unfold okF; omega
                have hMy137 : okMr cs ad gvy49 i (x + 1) Fvy33 rvy49 := okMr.upd hM hgy88 hKy136 (fun f a => hFy122 f (by omega)) hcvy49 (hAy85.mono (by omega)) (fun j a b => by
                    by_cases e0 : j = i + 14
                    · exact Or.inr ⟨14, _, e0, lsP.l (by decide), by rw [e0]; exact h4vy49⟩
                    by_cases e1 : j = i + 15
                    · exact Or.inr ⟨15, _, e1, lsP.l (by decide), by rw [e1]; exact h5vy49⟩
                    exact Or.inl (by rw [hfvy49 _ (by omega) (by omega) (by omega)]; rw [hfvy39 _ (by omega)]; rw [hfvy33 _ (by omega)]; rw [hfvy30 _ (by omega)]; rw [hfvy27 _ (by omega)]; rw [egy25, va_up_ne _ _ (by omega)]))
                have h23 : Fvy33 23 = F 23 := ((hFvy33 23 (by decide)).trans ((hFvy30 23 (by decide)).trans ((hFvy27 23 (by decide)).trans (fn rfl (by decide)))))
                exact z_iret C hr hlk dX10_then_117 (by decide) (by decide) ⟨vy119, rfl, rfl, rfl, by omega, ⟨_, _, hMy137, by omega⟩, fun j j1 => by rw [hfvy49 _ (by omega) (by omega) (by omega)]; rw [hfvy39 _ (by omega)]; rw [hfvy33 _ (by omega)]; rw [hfvy30 _ (by omega)]; rw [hfvy27 _ (by omega)]; rw [egy25, va_up_ne _ _ (by omega)]⟩
              · refine z_tin (off := 50) (tgt := 118) C dX10_then_68 (by omega) (by omega) (by omega) rfl (by decide) ?_
                refine z_aload_n C 1 dX10_then_118 rfl ?_
                refine z_sipush (z := 350) C dX10_then_119 (by decide) ?_
                refine z_iload_n C 2 dX10_then_122 rfl ?_
                refine z_iconst (z := 1) C dX10_then_123 rfl ?_
                have hqy139 : qS rvy49 py87 := ((hwvy49.1 n (by omega)).of (p2 := py87) (by omega)).q (by have hb9 := mBb (t := rvy49 350 + x) (by omega); omega)
                have hmky140 := hqy139.1
                refine z_cV (As := [.int (zI (350)), .int (zI ((n : Int))), .int (zI (1))]) (rest := []) (ci := 12) C (c_X10_sumA l D A cs tt N ad _ i hN _ hgy88 _ hcvy49 350 n py87 hpy87 (by omega) (by omega) hqy139 1 (by omega)) (by omega) hay1 hgy88 rfl rfl mv_yX10_sum q_1745 hd_yX10_sum (by decide) (Nat.le_of_ble_eq_true rfl) (by decide) dX10_then_124 rfl (kI0 fun vy138 gvy138 hvy138 => ?_)
                obtain ⟨hvy138, rfl⟩ := hvy138
                have hFy141 : ∀ f, f ≠ 12 → Fvy33 f = F f := fun f n12 => ((hFvy33 f n12).trans ((hFvy30 f n12).trans ((hFvy27 f n12).trans ((uZ_n _ _ n12).trans rfl))))
                have hey142 : Fvy33 13 = F 13 := ((hFvy33 13 (by decide)).trans ((hFvy30 13 (by decide)).trans ((hFvy27 13 (by decide)).trans (fn rfl (by decide)))))
                have hey143 : Fvy33 14 = F 14 := ((hFvy33 14 (by decide)).trans ((hFvy30 14 (by decide)).trans ((hFvy27 14 (by decide)).trans (fn rfl (by decide)))))
                have hey144 : Fvy33 15 = F 15 := ((hFvy33 15 (by decide)).trans ((hFvy30 15 (by decide)).trans ((hFvy27 15 (by decide)).trans (fn rfl (by decide)))))
                have hey145 : Fvy33 16 = F 16 := ((hFvy33 16 (by decide)).trans ((hFvy30 16 (by decide)).trans ((hFvy27 16 (by decide)).trans (fn rfl (by decide)))))
                have hey146 : Fvy33 17 = F 17 := ((hFvy33 17 (by decide)).trans ((hFvy30 17 (by decide)).trans ((hFvy27 17 (by decide)).trans (fn rfl (by decide)))))
                have hey147 : Fvy33 18 = F 18 := ((hFvy33 18 (by decide)).trans ((hFvy30 18 (by decide)).trans ((hFvy27 18 (by decide)).trans (fn rfl (by decide)))))
                have hey148 : Fvy33 19 = F 19 := ((hFvy33 19 (by decide)).trans ((hFvy30 19 (by decide)).trans ((hFvy27 19 (by decide)).trans (fn rfl (by decide)))))
                have hey149 : Fvy33 20 = F 20 := ((hFvy33 20 (by decide)).trans ((hFvy30 20 (by decide)).trans ((hFvy27 20 (by decide)).trans (fn rfl (by decide)))))
                have hey150 : Fvy33 23 = F 23 := ((hFvy33 23 (by decide)).trans ((hFvy30 23 (by decide)).trans ((hFvy27 23 (by decide)).trans (fn rfl (by decide)))))
                have hey151 : Fvy33 25 = F 25 := ((hFvy33 25 (by decide)).trans ((hFvy30 25 (by decide)).trans ((hFvy27 25 (by decide)).trans (fn rfl (by decide)))))
                have hey152 : Fvy33 27 = F 27 := ((hFvy33 27 (by decide)).trans ((hFvy30 27 (by decide)).trans ((hFvy27 27 (by decide)).trans (fn rfl (by decide)))))
                have hey153 : Fvy33 28 = F 28 := ((hFvy33 28 (by decide)).trans ((hFvy30 28 (by decide)).trans ((hFvy27 28 (by decide)).trans (fn rfl (by decide)))))
                have hey154 : Fvy33 29 = F 29 := ((hFvy33 29 (by decide)).trans ((hFvy30 29 (by decide)).trans ((hFvy27 29 (by decide)).trans (fn rfl (by decide)))))
                have hKy155 : okF Fvy33 := by unfold okF; omega
                have hMy156 : okMr cs ad gvy49 i (x + 1) Fvy33 rvy49 := okMr.upd hM hgy88 hKy155 (fun f a => hFy141 f (by omega)) hcvy49 (hAy85.mono (by omega)) (fun j a b => by
                    by_cases e0 : j = i + 14
                    · exact Or.inr ⟨14, _, e0, lsP.l (by decide), by rw [e0]; exact h4vy49⟩
                    by_cases e1 : j = i + 15
                    · exact Or.inr ⟨15, _, e1, lsP.l (by decide), by rw [e1]; exact h5vy49⟩
                    exact Or.inl (by rw [hfvy49 _ (by omega) (by omega) (by omega)]; rw [hfvy39 _ (by omega)]; rw [hfvy33 _ (by omega)]; rw [hfvy30 _ (by omega)]; rw [hfvy27 _ (by omega)]; rw [egy25, va_up_ne _ _ (by omega)]))
                have h23 : Fvy33 23 = F 23 := ((hFvy33 23 (by decide)).trans ((hFvy30 23 (by decide)).trans ((hFvy27 23 (by decide)).trans (fn rfl (by decide)))))
                exact z_iret C hr hlk dX10_then_127 (by decide) (by decide) ⟨vy138, rfl, rfl, rfl, by omega, ⟨_, _, hMy156, by omega⟩, fun j j1 => by rw [hfvy49 _ (by omega) (by omega) (by omega)]; rw [hfvy39 _ (by omega)]; rw [hfvy33 _ (by omega)]; rw [hfvy30 _ (by omega)]; rw [hfvy27 _ (by omega)]; rw [egy25, va_up_ne _ _ (by omega)]⟩
              · refine z_tin (off := 60) (tgt := 128) C dX10_then_68 (by omega) (by omega) (by omega) rfl (by decide) ?_
                refine z_aload_n C 1 dX10_then_128 rfl ?_
                refine z_sipush (z := 350) C dX10_then_129 (by decide) ?_
                refine z_iload_n C 2 dX10_then_132 rfl ?_
                refine z_iconst (z := 2) C dX10_then_133 rfl ?_
                have hqy158 : qS rvy49 py87 := ((hwvy49.1 n (by omega)).of (p2 := py87) (by omega)).q (by have hb9 := mBb (t := rvy49 350 + x) (by omega); omega)
                have hmky159 := hqy158.1
                refine z_cV (As := [.int (zI (350)), .int (zI ((n : Int))), .int (zI (2))]) (rest := []) (ci := 12) C (c_X10_sumA l D A cs tt N ad _ i hN _ hgy88 _ hcvy49 350 n py87 hpy87 (by omega) (by omega) hqy158 2 (by omega)) (by omega) hay1 hgy88 rfl rfl mv_yX10_sum q_1745 hd_yX10_sum (by decide) (Nat.le_of_ble_eq_true rfl) (by decide) dX10_then_134 rfl (kI0 fun vy157 gvy157 hvy157 => ?_)
                obtain ⟨hvy157, rfl⟩ := hvy157
                have hFy160 : ∀ f, f ≠ 12 → Fvy33 f = F f := fun f n12 => ((hFvy33 f n12).trans ((hFvy30 f n12).trans ((hFvy27 f n12).trans ((uZ_n _ _ n12).trans rfl))))
                have hey161 : Fvy33 13 = F 13 := ((hFvy33 13 (by decide)).trans ((hFvy30 13 (by decide)).trans ((hFvy27 13 (by decide)).trans (fn rfl (by decide)))))
                have hey162 : Fvy33 14 = F 14 := ((hFvy33 14 (by decide)).trans ((hFvy30 14 (by decide)).trans ((hFvy27 14 (by decide)).trans (fn rfl (by decide)))))
                have hey163 : Fvy33 15 = F 15 := ((hFvy33 15 (by decide)).trans ((hFvy30 15 (by decide)).trans ((hFvy27 15 (by decide)).trans (fn rfl (by decide)))))
                have hey164 : Fvy33 16 = F 16 := ((hFvy33 16 (by decide)).trans ((hFvy30 16 (by decide)).trans ((hFvy27 16 (by decide)).trans (fn rfl (by decide)))))
                have hey165 : Fvy33 17 = F 17 := ((hFvy33 17 (by decide)).trans ((hFvy30 17 (by decide)).trans ((hFvy27 17 (by decide)).trans (fn rfl (by decide)))))
                have hey166 : Fvy33 18 = F 18 := ((hFvy33 18 (by decide)).trans ((hFvy30 18 (by decide)).trans ((hFvy27 18 (by decide)).trans (fn rfl (by decide)))))
                have hey167 : Fvy33 19 = F 19 := ((hFvy33 19 (by decide)).trans ((hFvy30 19 (by decide)).trans ((hFvy27 19 (by decide)).trans (fn rfl (by decide)))))
                have hey168 : Fvy33 20 = F 20 := ((hFvy33 20 (by decide)).trans ((hFvy30 20 (by decide)).trans ((hFvy27 20 (by decide)).trans (fn rfl (by decide)))))
                have hey169 : Fvy33 23 = F 23 := ((hFvy33 23 (by decide)).trans ((hFvy30 23 (by decide)).trans ((hFvy27 23 (by decide)).trans (fn rfl (by decide)))))
                have hey170 : Fvy33 25 = F 25 := ((hFvy33 25 (by decide)).trans ((hFvy30 25 (by decide)).trans ((hFvy27 25 (by decide)).trans (fn rfl (by decide)))))
                have hey171 : Fvy33 27 = F 27 := ((hFvy33 27 (by decide)).trans ((hFvy30 27 (by decide)).trans ((hFvy27 27 (by decide)).trans (fn rfl (by decide)))))
                have hey172 : Fvy33 28 = F 28 := ((hFvy33 28 (by decide)).trans ((hFvy30 28 (by decide)).trans ((hFvy27 28 (by decide)).trans (fn rfl (by decide)))))
                have hey173 : Fvy33 29 = F 29 := ((hFvy33 29 (by decide)).trans ((hFvy30 29 (by decide)).trans ((hFvy27 29 (by decide)).trans (fn rfl (by decide)))))
                have hKy174 : okF Fvy33 := by unfold okF; omega
                have hMy175 : okMr cs ad gvy49 i (x + 1) Fvy33 rvy49 := okMr.upd hM hgy88 hKy174 (fun f a => hFy160 f (by omega)) hcvy49 (hAy85.mono (by omega)) (fun j a b => by
                    by_cases e0 : j = i + 14
                    · exact Or.inr ⟨14, _, e0, lsP.l (by decide), by rw [e0]; exact h4vy49⟩
                    by_cases e1 : j = i + 15
                    · exact Or.inr ⟨15, _, e1, lsP.l (by decide), by rw [e1]; exact h5vy49⟩
                    exact Or.inl (by rw [hfvy49 _ (by omega) (by omega) (by omega)]; rw [hfvy39 _ (by omega)]; rw [hfvy33 _ (by omega)]; rw [hfvy30 _ (by omega)]; rw [hfvy27 _ (by omega)]; rw [egy25, va_up_ne _ _ (by omega)]))
                have h23 : Fvy33 23 = F 23 := ((hFvy33 23 (by decide)).trans ((hFvy30 23 (by decide)).trans ((hFvy27 23 (by decide)).trans (fn rfl (by decide)))))
                exact z_iret C hr hlk dX10_then_137 (by decide) (by decide) ⟨vy157, rfl, rfl, rfl, by omega, ⟨_, _, hMy175, by omega⟩, fun j j1 => by rw [hfvy49 _ (by omega) (by omega) (by omega)]; rw [hfvy39 _ (by omega)]; rw [hfvy33 _ (by omega)]; rw [hfvy30 _ (by omega)]; rw [hfvy27 _ (by omega)]; rw [egy25, va_up_ne _ _ (by omega)]⟩
              · refine z_tin (off := 70) (tgt := 138) C dX10_then_68 (by omega) (by omega) (by omega) rfl (by decide) ?_
                refine z_aload_n C 1 dX10_then_138 rfl ?_
                refine z_sipush (z := 350) C dX10_then_139 (by decide) ?_
                refine z_iload_n C 2 dX10_then_142 rfl ?_
                have hmyy176 := (hwvy49.1 n (by omega)).1
                rw [hpy87] at hmyy176
                refine z_cV (As := [.int (zI (350)), .int (zI ((n : Int)))]) (rest := []) (ci := 12) C (c_X10_many l D A cs tt N ad _ i hN _ hgy88 _ hcvy49 350 n py87 hpy87 (by omega) (by omega)) (by omega) hay1 hgy88 rfl rfl mv_yX10_many q_1733 hd_yX10_many (by decide) (Nat.le_of_ble_eq_true rfl) (by decide) dX10_then_143 rfl (kI0 fun vy177 gvy177 hvy177 => ?_)
                obtain ⟨rfl, rfl⟩ := hvy177
                have hFy178 : ∀ f, f ≠ 12 → Fvy33 f = F f := fun f n12 => ((hFvy33 f n12).trans ((hFvy30 f n12).trans ((hFvy27 f n12).trans ((uZ_n _ _ n12).trans rfl))))
                have hey179 : Fvy33 13 = F 13 := ((hFvy33 13 (by decide)).trans ((hFvy30 13 (by decide)).trans ((hFvy27 13 (by decide)).trans (fn rfl (by decide)))))
                have hey180 : Fvy33 14 = F 14 := ((hFvy33 14 (by decide)).trans ((hFvy30 14 (by decide)).trans ((hFvy27 14 (by decide)).trans (fn rfl (by decide)))))
                have hey181 : Fvy33 15 = F 15 := ((hFvy33 15 (by decide)).trans ((hFvy30 15 (by decide)).trans ((hFvy27 15 (by decide)).trans (fn rfl (by decide)))))
                have hey182 : Fvy33 16 = F 16 := ((hFvy33 16 (by decide)).trans ((hFvy30 16 (by decide)).trans ((hFvy27 16 (by decide)).trans (fn rfl (by decide)))))
                have hey183 : Fvy33 17 = F 17 := ((hFvy33 17 (by decide)).trans ((hFvy30 17 (by decide)).trans ((hFvy27 17 (by decide)).trans (fn rfl (by decide)))))
                have hey184 : Fvy33 18 = F 18 := ((hFvy33 18 (by decide)).trans ((hFvy30 18 (by decide)).trans ((hFvy27 18 (by decide)).trans (fn rfl (by decide)))))
                have hey185 : Fvy33 19 = F 19 := ((hFvy33 19 (by decide)).trans ((hFvy30 19 (by decide)).trans ((hFvy27 19 (by decide)).trans (fn rfl (by decide)))))
                have hey186 : Fvy33 20 = F 20 := ((hFvy33 20 (by decide)).trans ((hFvy30 20 (by decide)).trans ((hFvy27 20 (by decide)).trans (fn rfl (by decide)))))
                have hey187 : Fvy33 23 = F 23 := ((hFvy33 23 (by decide)).trans ((hFvy30 23 (by decide)).trans ((hFvy27 23 (by decide)).trans (fn rfl (by decide)))))
                have hey188 : Fvy33 25 = F 25 := ((hFvy33 25 (by decide)).trans ((hFvy30 25 (by decide)).trans ((hFvy27 25 (by decide)).trans (fn rfl (by decide)))))
                have hey189 : Fvy33 27 = F 27 := ((hFvy33 27 (by decide)).trans ((hFvy30 27 (by decide)).trans ((hFvy27 27 (by decide)).trans (fn rfl (by decide)))))
                have hey190 : Fvy33 28 = F 28 := ((hFvy33 28 (by decide)).trans ((hFvy30 28 (by decide)).trans ((hFvy27 28 (by decide)).trans (fn rfl (by decide)))))
                have hey191 : Fvy33 29 = F 29 := ((hFvy33 29 (by decide)).trans ((hFvy30 29 (by decide)).trans ((hFvy27 29 (by decide)).trans (fn rfl (by decide)))))
                have hKy192 : okF Fvy33 := by unfold okF; omega
                have hMy193 : okMr cs ad gvy49 i (x + 1) Fvy33 rvy49 := okMr.upd hM hgy88 hKy192 (fun f a => hFy178 f (by omega)) hcvy49 (hAy85.mono (by omega)) (fun j a b => by
                    by_cases e0 : j = i + 14
                    · exact Or.inr ⟨14, _, e0, lsP.l (by decide), by rw [e0]; exact h4vy49⟩
                    by_cases e1 : j = i + 15
                    · exact Or.inr ⟨15, _, e1, lsP.l (by decide), by rw [e1]; exact h5vy49⟩
                    exact Or.inl (by rw [hfvy49 _ (by omega) (by omega) (by omega)]; rw [hfvy39 _ (by omega)]; rw [hfvy33 _ (by omega)]; rw [hfvy30 _ (by omega)]; rw [hfvy27 _ (by omega)]; rw [egy25, va_up_ne _ _ (by omega)]))
                have h23 : Fvy33 23 = F 23 := ((hFvy33 23 (by decide)).trans ((hFvy30 23 (by decide)).trans ((hFvy27 23 (by decide)).trans (fn rfl (by decide)))))
                exact z_iret C hr hlk dX10_then_146 (by decide) (by decide) ⟨rvy49 (py87), rfl, rfl, rfl, by omega, ⟨_, _, hMy193, by omega⟩, fun j j1 => by rw [hfvy49 _ (by omega) (by omega) (by omega)]; rw [hfvy39 _ (by omega)]; rw [hfvy33 _ (by omega)]; rw [hfvy30 _ (by omega)]; rw [hfvy27 _ (by omega)]; rw [egy25, va_up_ne _ _ (by omega)]⟩
              · refine z_tin (off := 79) (tgt := 147) C dX10_then_68 (by omega) (by omega) (by omega) rfl (by decide) ?_
                refine z_aload_n C 1 dX10_then_147 rfl ?_
                refine z_sipush (z := 350) C dX10_then_148 (by decide) ?_
                refine z_iload_n C 2 dX10_then_151 rfl ?_
                have hqy195 : qS rvy49 py87 := ((hwvy49.1 n (by omega)).of (p2 := py87) (by omega)).q (by have hb9 := mBb (t := rvy49 350 + x) (by omega); omega)
                have hmky196 := hqy195.1
                refine z_cV (As := [.int (zI (350)), .int (zI ((n : Int)))]) (rest := []) (ci := 12) C (c_X10_leastRatio l D A cs tt N ad _ i hN _ hgy88 _ hcvy49 _ hgy95 _ hgy96 350 n py87 hpy87 (by omega) (by omega) hqy195) (by omega) hay1 hgy88 rfl rfl mv_yX10_leastRatio q_1760 hd_yX10_leastRatio (by decide) (Nat.le_of_ble_eq_true rfl) (by decide) dX10_then_152 rfl (kI0 fun vy194 gvy194 hvy194 => ?_)
                obtain ⟨hvy194, rfl⟩ := hvy194
                have hFy197 : ∀ f, f ≠ 12 → Fvy33 f = F f := fun f n12 => ((hFvy33 f n12).trans ((hFvy30 f n12).trans ((hFvy27 f n12).trans ((uZ_n _ _ n12).trans rfl))))
                have hey198 : Fvy33 13 = F 13 := ((hFvy33 13 (by decide)).trans ((hFvy30 13 (by decide)).trans ((hFvy27 13 (by decide)).trans (fn rfl (by decide)))))
                have hey199 : Fvy33 14 = F 14 := ((hFvy33 14 (by decide)).trans ((hFvy30 14 (by decide)).trans ((hFvy27 14 (by decide)).trans (fn rfl (by decide)))))
                have hey200 : Fvy33 15 = F 15 := ((hFvy33 15 (by decide)).trans ((hFvy30 15 (by decide)).trans ((hFvy27 15 (by decide)).trans (fn rfl (by decide)))))
                have hey201 : Fvy33 16 = F 16 := ((hFvy33 16 (by decide)).trans ((hFvy30 16 (by decide)).trans ((hFvy27 16 (by decide)).trans (fn rfl (by decide)))))
                have hey202 : Fvy33 17 = F 17 := ((hFvy33 17 (by decide)).trans ((hFvy30 17 (by decide)).trans ((hFvy27 17 (by decide)).trans (fn rfl (by decide)))))
                have hey203 : Fvy33 18 = F 18 := ((hFvy33 18 (by decide)).trans ((hFvy30 18 (by decide)).trans ((hFvy27 18 (by decide)).trans (fn rfl (by decide)))))
                have hey204 : Fvy33 19 = F 19 := ((hFvy33 19 (by decide)).trans ((hFvy30 19 (by decide)).trans ((hFvy27 19 (by decide)).trans (fn rfl (by decide)))))
                have hey205 : Fvy33 20 = F 20 := ((hFvy33 20 (by decide)).trans ((hFvy30 20 (by decide)).trans ((hFvy27 20 (by decide)).trans (fn rfl (by decide)))))
                have hey206 : Fvy33 23 = F 23 := ((hFvy33 23 (by decide)).trans ((hFvy30 23 (by decide)).trans ((hFvy27 23 (by decide)).trans (fn rfl (by decide)))))
                have hey207 : Fvy33 25 = F 25 := ((hFvy33 25 (by decide)).trans ((hFvy30 25 (by decide)).trans ((hFvy27 25 (by decide)).trans (fn rfl (by decide)))))
                have hey208 : Fvy33 27 = F 27 := ((hFvy33 27 (by decide)).trans ((hFvy30 27 (by decide)).trans ((hFvy27 27 (by decide)).trans (fn rfl (by decide)))))
                have hey209 : Fvy33 28 = F 28 := ((hFvy33 28 (by decide)).trans ((hFvy30 28 (by decide)).trans ((hFvy27 28 (by decide)).trans (fn rfl (by decide)))))
                have hey210 : Fvy33 29 = F 29 := ((hFvy33 29 (by decide)).trans ((hFvy30 29 (by decide)).trans ((hFvy27 29 (by decide)).trans (fn rfl (by decide)))))
                have hKy211 : okF Fvy33 := by unfold okF; omega
                have hMy212 : okMr cs ad gvy49 i (x + 1) Fvy33 rvy49 := okMr.upd hM hgy88 hKy211 (fun f a => hFy197 f (by omega)) hcvy49 (hAy85.mono (by omega)) (fun j a b => by
                    by_cases e0 : j = i + 14
                    · exact Or.inr ⟨14, _, e0, lsP.l (by decide), by rw [e0]; exact h4vy49⟩
                    by_cases e1 : j = i + 15
                    · exact Or.inr ⟨15, _, e1, lsP.l (by decide), by rw [e1]; exact h5vy49⟩
                    exact Or.inl (by rw [hfvy49 _ (by omega) (by omega) (by omega)]; rw [hfvy39 _ (by omega)]; rw [hfvy33 _ (by omega)]; rw [hfvy30 _ (by omega)]; rw [hfvy27 _ (by omega)]; rw [egy25, va_up_ne _ _ (by omega)]))
                have h23 : Fvy33 23 = F 23 := ((hFvy33 23 (by decide)).trans ((hFvy30 23 (by decide)).trans ((hFvy27 23 (by decide)).trans (fn rfl (by decide)))))
                exact z_iret C hr hlk dX10_then_155 (by decide) (by decide) ⟨vy194, rfl, rfl, rfl, by omega, ⟨_, _, hMy212, by omega⟩, fun j j1 => by rw [hfvy49 _ (by omega) (by omega) (by omega)]; rw [hfvy39 _ (by omega)]; rw [hfvy33 _ (by omega)]; rw [hfvy30 _ (by omega)]; rw [hfvy27 _ (by omega)]; rw [egy25, va_up_ne _ _ (by omega)]⟩
              · refine z_tin (off := 88) (tgt := 156) C dX10_then_68 (by omega) (by omega) (by omega) rfl (by decide) ?_
                refine z_iload C 0 dX10_then_156 rfl ?_
                refine z_iconst (z := -1) C dX10_then_158 rfl ?_
                refine z_icmp_ne (tgt := 166) C dX10_then_159 (by decide) (by omega) (by omega) (fun hby213 => ?_) (fun hby213 => ?_)
                · refine z_aload_n C 1 dX10_then_166 rfl ?_
                  refine z_sipush (z := 350) C dX10_then_167 (by decide) ?_
                  refine z_iload_n C 2 dX10_then_170 rfl ?_
                  refine z_iload C 0 dX10_then_171 rfl ?_
                  refine z_bipush (z := 6) C dX10_then_173 (by decide) ?_
                  obtain ⟨ky214, hky214⟩ : ∃ k9 : Nat, (vy89) = (k9 : Int) := ⟨((vy89) : Int).toNat, by omega⟩
                  obtain ⟨qy215, hqy215⟩ : ∃ q9 : Nat, py87 + 2 + 7 * ky214 = q9 := ⟨_, rfl⟩
                  refine z_cV (As := [.int (zI (350)), .int (zI ((n : Int))), .int (zI (vy89)), .int (zI (6))]) (rest := []) (ci := 12) C (c_X10_of l D A cs tt N ad _ i hN _ hgy88 _ hcvy49 350 n py87 hpy87 (by omega) (by omega) (vy89) (6) (qy215 + 6) (by omega) (by omega) (by omega)) (by omega) hay1 hgy88 rfl rfl mv_yX10_of q_1749 hd_yX10_of (by decide) (Nat.le_of_ble_eq_true rfl) (by decide) dX10_then_175 rfl (kI0 fun vy216 gvy216 hvy216 => ?_)
                  obtain ⟨rfl, rfl⟩ := hvy216
                  obtain ⟨xy217, exy218, hxy219⟩ := zI_of (zI (rvy49 (qy215 + 6)))
                  rw [exy218]
                  have hFy220 : ∀ f, f ≠ 12 → Fvy33 f = F f := fun f n12 => ((hFvy33 f n12).trans ((hFvy30 f n12).trans ((hFvy27 f n12).trans ((uZ_n _ _ n12).trans rfl))))
                  have hey221 : Fvy33 13 = F 13 := ((hFvy33 13 (by decide)).trans ((hFvy30 13 (by decide)).trans ((hFvy27 13 (by decide)).trans (fn rfl (by decide)))))
                  have hey222 : Fvy33 14 = F 14 := ((hFvy33 14 (by decide)).trans ((hFvy30 14 (by decide)).trans ((hFvy27 14 (by decide)).trans (fn rfl (by decide)))))
                  have hey223 : Fvy33 15 = F 15 := ((hFvy33 15 (by decide)).trans ((hFvy30 15 (by decide)).trans ((hFvy27 15 (by decide)).trans (fn rfl (by decide)))))
                  have hey224 : Fvy33 16 = F 16 := ((hFvy33 16 (by decide)).trans ((hFvy30 16 (by decide)).trans ((hFvy27 16 (by decide)).trans (fn rfl (by decide)))))
                  have hey225 : Fvy33 17 = F 17 := ((hFvy33 17 (by decide)).trans ((hFvy30 17 (by decide)).trans ((hFvy27 17 (by decide)).trans (fn rfl (by decide)))))
                  have hey226 : Fvy33 18 = F 18 := ((hFvy33 18 (by decide)).trans ((hFvy30 18 (by decide)).trans ((hFvy27 18 (by decide)).trans (fn rfl (by decide)))))
                  have hey227 : Fvy33 19 = F 19 := ((hFvy33 19 (by decide)).trans ((hFvy30 19 (by decide)).trans ((hFvy27 19 (by decide)).trans (fn rfl (by decide)))))
                  have hey228 : Fvy33 20 = F 20 := ((hFvy33 20 (by decide)).trans ((hFvy30 20 (by decide)).trans ((hFvy27 20 (by decide)).trans (fn rfl (by decide)))))
                  have hey229 : Fvy33 23 = F 23 := ((hFvy33 23 (by decide)).trans ((hFvy30 23 (by decide)).trans ((hFvy27 23 (by decide)).trans (fn rfl (by decide)))))
                  have hey230 : Fvy33 25 = F 25 := ((hFvy33 25 (by decide)).trans ((hFvy30 25 (by decide)).trans ((hFvy27 25 (by decide)).trans (fn rfl (by decide)))))
                  have hey231 : Fvy33 27 = F 27 := ((hFvy33 27 (by decide)).trans ((hFvy30 27 (by decide)).trans ((hFvy27 27 (by decide)).trans (fn rfl (by decide)))))
                  have hey232 : Fvy33 28 = F 28 := ((hFvy33 28 (by decide)).trans ((hFvy30 28 (by decide)).trans ((hFvy27 28 (by decide)).trans (fn rfl (by decide)))))
                  have hey233 : Fvy33 29 = F 29 := ((hFvy33 29 (by decide)).trans ((hFvy30 29 (by decide)).trans ((hFvy27 29 (by decide)).trans (fn rfl (by decide)))))
                  have hKy234 : okF Fvy33 := by unfold okF; omega
                  have hMy235 : okMr cs ad gvy49 i (x + 1) Fvy33 rvy49 := okMr.upd hM hgy88 hKy234 (fun f a => hFy220 f (by omega)) hcvy49 (hAy85.mono (by omega)) (fun j a b => by
                      by_cases e0 : j = i + 14
                      · exact Or.inr ⟨14, _, e0, lsP.l (by decide), by rw [e0]; exact h4vy49⟩
                      by_cases e1 : j = i + 15
                      · exact Or.inr ⟨15, _, e1, lsP.l (by decide), by rw [e1]; exact h5vy49⟩
                      exact Or.inl (by rw [hfvy49 _ (by omega) (by omega) (by omega)]; rw [hfvy39 _ (by omega)]; rw [hfvy33 _ (by omega)]; rw [hfvy30 _ (by omega)]; rw [hfvy27 _ (by omega)]; rw [egy25, va_up_ne _ _ (by omega)]))
                  have h23 : Fvy33 23 = F 23 := ((hFvy33 23 (by decide)).trans ((hFvy30 23 (by decide)).trans ((hFvy27 23 (by decide)).trans (fn rfl (by decide)))))
                  exact z_iret C hr hlk dX10_then_178 (by decide) (by decide) ⟨xy217, rfl, rfl, rfl, by omega, ⟨_, _, hMy235, by omega⟩, fun j j1 => by rw [hfvy49 _ (by omega) (by omega) (by omega)]; rw [hfvy39 _ (by omega)]; rw [hfvy33 _ (by omega)]; rw [hfvy30 _ (by omega)]; rw [hfvy27 _ (by omega)]; rw [egy25, va_up_ne _ _ (by omega)]⟩
                · refine z_iconst (z := -1) C dX10_then_162 rfl ?_
                  refine z_goto (tgt := 178) C dX10_then_163 (by decide) ?_
                  have hFy236 : ∀ f, f ≠ 12 → Fvy33 f = F f := fun f n12 => ((hFvy33 f n12).trans ((hFvy30 f n12).trans ((hFvy27 f n12).trans ((uZ_n _ _ n12).trans rfl))))
                  have hey237 : Fvy33 13 = F 13 := ((hFvy33 13 (by decide)).trans ((hFvy30 13 (by decide)).trans ((hFvy27 13 (by decide)).trans (fn rfl (by decide)))))
                  have hey238 : Fvy33 14 = F 14 := ((hFvy33 14 (by decide)).trans ((hFvy30 14 (by decide)).trans ((hFvy27 14 (by decide)).trans (fn rfl (by decide)))))
                  have hey239 : Fvy33 15 = F 15 := ((hFvy33 15 (by decide)).trans ((hFvy30 15 (by decide)).trans ((hFvy27 15 (by decide)).trans (fn rfl (by decide)))))
                  have hey240 : Fvy33 16 = F 16 := ((hFvy33 16 (by decide)).trans ((hFvy30 16 (by decide)).trans ((hFvy27 16 (by decide)).trans (fn rfl (by decide)))))
                  have hey241 : Fvy33 17 = F 17 := ((hFvy33 17 (by decide)).trans ((hFvy30 17 (by decide)).trans ((hFvy27 17 (by decide)).trans (fn rfl (by decide)))))
                  have hey242 : Fvy33 18 = F 18 := ((hFvy33 18 (by decide)).trans ((hFvy30 18 (by decide)).trans ((hFvy27 18 (by decide)).trans (fn rfl (by decide)))))
                  have hey243 : Fvy33 19 = F 19 := ((hFvy33 19 (by decide)).trans ((hFvy30 19 (by decide)).trans ((hFvy27 19 (by decide)).trans (fn rfl (by decide)))))
                  have hey244 : Fvy33 20 = F 20 := ((hFvy33 20 (by decide)).trans ((hFvy30 20 (by decide)).trans ((hFvy27 20 (by decide)).trans (fn rfl (by decide)))))
                  have hey245 : Fvy33 23 = F 23 := ((hFvy33 23 (by decide)).trans ((hFvy30 23 (by decide)).trans ((hFvy27 23 (by decide)).trans (fn rfl (by decide)))))
                  have hey246 : Fvy33 25 = F 25 := ((hFvy33 25 (by decide)).trans ((hFvy30 25 (by decide)).trans ((hFvy27 25 (by decide)).trans (fn rfl (by decide)))))
                  have hey247 : Fvy33 27 = F 27 := ((hFvy33 27 (by decide)).trans ((hFvy30 27 (by decide)).trans ((hFvy27 27 (by decide)).trans (fn rfl (by decide)))))
                  have hey248 : Fvy33 28 = F 28 := ((hFvy33 28 (by decide)).trans ((hFvy30 28 (by decide)).trans ((hFvy27 28 (by decide)).trans (fn rfl (by decide)))))
                  have hey249 : Fvy33 29 = F 29 := ((hFvy33 29 (by decide)).trans ((hFvy30 29 (by decide)).trans ((hFvy27 29 (by decide)).trans (fn rfl (by decide)))))
                  have hKy250 : okF Fvy33 := by unfold okF; omega
                  have hMy251 : okMr cs ad gvy49 i (x + 1) Fvy33 rvy49 := okMr.upd hM hgy88 hKy250 (fun f a => hFy236 f (by omega)) hcvy49 (hAy85.mono (by omega)) (fun j a b => by
                      by_cases e0 : j = i + 14
                      · exact Or.inr ⟨14, _, e0, lsP.l (by decide), by rw [e0]; exact h4vy49⟩
                      by_cases e1 : j = i + 15
                      · exact Or.inr ⟨15, _, e1, lsP.l (by decide), by rw [e1]; exact h5vy49⟩
                      exact Or.inl (by rw [hfvy49 _ (by omega) (by omega) (by omega)]; rw [hfvy39 _ (by omega)]; rw [hfvy33 _ (by omega)]; rw [hfvy30 _ (by omega)]; rw [hfvy27 _ (by omega)]; rw [egy25, va_up_ne _ _ (by omega)]))
                  have h23 : Fvy33 23 = F 23 := ((hFvy33 23 (by decide)).trans ((hFvy30 23 (by decide)).trans ((hFvy27 23 (by decide)).trans (fn rfl (by decide)))))
                  exact z_iret C hr hlk dX10_then_178 (by decide) (by decide) ⟨-1, rfl, rfl, rfl, by omega, ⟨_, _, hMy251, by omega⟩, fun j j1 => by rw [hfvy49 _ (by omega) (by omega) (by omega)]; rw [hfvy39 _ (by omega)]; rw [hfvy33 _ (by omega)]; rw [hfvy30 _ (by omega)]; rw [hfvy27 _ (by omega)]; rw [egy25, va_up_ne _ _ (by omega)]⟩
          · refine z_if_ne (tgt := 45) C dX10_then_40 (by decide) (by omega) (fun h => absurd h (by omega)) (fun _ => ?_)
            refine z_iconst (z := 0) C dX10_then_43 rfl ?_
            have hgy252 := up_n egy25 ha1 (ne_o (i := i) (c := 1) (d := 0) rfl)
            have hgy253 := (hfvy27 (i + 1) (ne_o (i := i) (c := 1) (d := 0) rfl)).trans hgy252
            have hgy254 := (hfvy30 (i + 1) (ne_o (i := i) (c := 1) (d := 0) rfl)).trans hgy253
            have hgy255 := (hfvy33 (i + 1) (ne_o (i := i) (c := 1) (d := 0) rfl)).trans hgy254
            have hFy256 : ∀ f, f ≠ 12 → Fvy33 f = F f := fun f n12 => ((hFvy33 f n12).trans ((hFvy30 f n12).trans ((hFvy27 f n12).trans ((uZ_n _ _ n12).trans rfl))))
            have hey257 : Fvy33 13 = F 13 := ((hFvy33 13 (by decide)).trans ((hFvy30 13 (by decide)).trans ((hFvy27 13 (by decide)).trans (fn rfl (by decide)))))
            have hey258 : Fvy33 14 = F 14 := ((hFvy33 14 (by decide)).trans ((hFvy30 14 (by decide)).trans ((hFvy27 14 (by decide)).trans (fn rfl (by decide)))))
            have hey259 : Fvy33 15 = F 15 := ((hFvy33 15 (by decide)).trans ((hFvy30 15 (by decide)).trans ((hFvy27 15 (by decide)).trans (fn rfl (by decide)))))
            have hey260 : Fvy33 16 = F 16 := ((hFvy33 16 (by decide)).trans ((hFvy30 16 (by decide)).trans ((hFvy27 16 (by decide)).trans (fn rfl (by decide)))))
            have hey261 : Fvy33 17 = F 17 := ((hFvy33 17 (by decide)).trans ((hFvy30 17 (by decide)).trans ((hFvy27 17 (by decide)).trans (fn rfl (by decide)))))
            have hey262 : Fvy33 18 = F 18 := ((hFvy33 18 (by decide)).trans ((hFvy30 18 (by decide)).trans ((hFvy27 18 (by decide)).trans (fn rfl (by decide)))))
            have hey263 : Fvy33 19 = F 19 := ((hFvy33 19 (by decide)).trans ((hFvy30 19 (by decide)).trans ((hFvy27 19 (by decide)).trans (fn rfl (by decide)))))
            have hey264 : Fvy33 20 = F 20 := ((hFvy33 20 (by decide)).trans ((hFvy30 20 (by decide)).trans ((hFvy27 20 (by decide)).trans (fn rfl (by decide)))))
            have hey265 : Fvy33 23 = F 23 := ((hFvy33 23 (by decide)).trans ((hFvy30 23 (by decide)).trans ((hFvy27 23 (by decide)).trans (fn rfl (by decide)))))
            have hey266 : Fvy33 25 = F 25 := ((hFvy33 25 (by decide)).trans ((hFvy30 25 (by decide)).trans ((hFvy27 25 (by decide)).trans (fn rfl (by decide)))))
            have hey267 : Fvy33 27 = F 27 := ((hFvy33 27 (by decide)).trans ((hFvy30 27 (by decide)).trans ((hFvy27 27 (by decide)).trans (fn rfl (by decide)))))
            have hey268 : Fvy33 28 = F 28 := ((hFvy33 28 (by decide)).trans ((hFvy30 28 (by decide)).trans ((hFvy27 28 (by decide)).trans (fn rfl (by decide)))))
            have hey269 : Fvy33 29 = F 29 := ((hFvy33 29 (by decide)).trans ((hFvy30 29 (by decide)).trans ((hFvy27 29 (by decide)).trans (fn rfl (by decide)))))
            have hKy270 : okF Fvy33 := by unfold okF; omega
            have hMy271 : okMr cs ad gvy33 i (x + 1) Fvy33 r := okMr.upd hM hcvy33 hKy270 (fun f a => hFy256 f (by omega)) hgy255 (hA.mono (by omega)) (fun j a b => by
                exact Or.inl (by rw [hfvy33 _ (by omega)]; rw [hfvy30 _ (by omega)]; rw [hfvy27 _ (by omega)]; rw [egy25, va_up_ne _ _ (by omega)]))
            have h23 : Fvy33 23 = F 23 := ((hFvy33 23 (by decide)).trans ((hFvy30 23 (by decide)).trans ((hFvy27 23 (by decide)).trans (fn rfl (by decide)))))
            exact z_iret C hr hlk dX10_then_44 (by decide) (by decide) ⟨0, rfl, rfl, rfl, by omega, ⟨_, _, hMy271, by omega⟩, fun j j1 => by rw [hfvy33 _ (by omega)]; rw [hfvy30 _ (by omega)]; rw [hfvy27 _ (by omega)]; rw [egy25, va_up_ne _ _ (by omega)]⟩
        · refine z_iconst (z := 2) C dX10_then_36 rfl ?_
          have hey273 : Fvy30 12 = Fvy30 12 := rfl
          refine z_cV (As := [.int (zI (0)), .int (zI (2))]) (rest := []) (ci := 12) C (c_X10_right l D A cs tt N ad _ i hN _ hcvy30 (by omega) (0) (by omega) (2) (by omega)) (by omega) hay1 hcvy30 rfl rfl mv_yX10_right q_1648 hd_yX10_right (by decide) (Nat.le_of_ble_eq_true rfl) (by decide) dX10_then_37 rfl (kI0 fun vy272 gvy272 hvy272 => ?_)
          obtain ⟨hrvy272, ⟨Fvy272, hcvy272, htvy272, hFvy272⟩, hfvy272⟩ := hvy272
          obtain rfl : vy272 = 0 := by omega
          refine z_if_ne (tgt := 45) C dX10_then_40 (by decide) (by omega) (fun h => absurd h (by omega)) (fun _ => ?_)
          refine z_iconst (z := 0) C dX10_then_43 rfl ?_
          have hgy274 := up_n egy25 ha1 (ne_o (i := i) (c := 1) (d := 0) rfl)
          have hgy275 := (hfvy27 (i + 1) (ne_o (i := i) (c := 1) (d := 0) rfl)).trans hgy274
          have hgy276 := (hfvy30 (i + 1) (ne_o (i := i) (c := 1) (d := 0) rfl)).trans hgy275
          have hgy277 := (hfvy272 (i + 1) (ne_o (i := i) (c := 1) (d := 0) rfl)).trans hgy276
          have hFy278 : ∀ f, f ≠ 12 → Fvy272 f = F f := fun f n12 => ((hFvy272 f n12).trans ((hFvy30 f n12).trans ((hFvy27 f n12).trans ((uZ_n _ _ n12).trans rfl))))
          have hey279 : Fvy272 13 = F 13 := ((hFvy272 13 (by decide)).trans ((hFvy30 13 (by decide)).trans ((hFvy27 13 (by decide)).trans (fn rfl (by decide)))))
          have hey280 : Fvy272 14 = F 14 := ((hFvy272 14 (by decide)).trans ((hFvy30 14 (by decide)).trans ((hFvy27 14 (by decide)).trans (fn rfl (by decide)))))
          have hey281 : Fvy272 15 = F 15 := ((hFvy272 15 (by decide)).trans ((hFvy30 15 (by decide)).trans ((hFvy27 15 (by decide)).trans (fn rfl (by decide)))))
          have hey282 : Fvy272 16 = F 16 := ((hFvy272 16 (by decide)).trans ((hFvy30 16 (by decide)).trans ((hFvy27 16 (by decide)).trans (fn rfl (by decide)))))
          have hey283 : Fvy272 17 = F 17 := ((hFvy272 17 (by decide)).trans ((hFvy30 17 (by decide)).trans ((hFvy27 17 (by decide)).trans (fn rfl (by decide)))))
          have hey284 : Fvy272 18 = F 18 := ((hFvy272 18 (by decide)).trans ((hFvy30 18 (by decide)).trans ((hFvy27 18 (by decide)).trans (fn rfl (by decide)))))
          have hey285 : Fvy272 19 = F 19 := ((hFvy272 19 (by decide)).trans ((hFvy30 19 (by decide)).trans ((hFvy27 19 (by decide)).trans (fn rfl (by decide)))))
          have hey286 : Fvy272 20 = F 20 := ((hFvy272 20 (by decide)).trans ((hFvy30 20 (by decide)).trans ((hFvy27 20 (by decide)).trans (fn rfl (by decide)))))
          have hey287 : Fvy272 23 = F 23 := ((hFvy272 23 (by decide)).trans ((hFvy30 23 (by decide)).trans ((hFvy27 23 (by decide)).trans (fn rfl (by decide)))))
          have hey288 : Fvy272 25 = F 25 := ((hFvy272 25 (by decide)).trans ((hFvy30 25 (by decide)).trans ((hFvy27 25 (by decide)).trans (fn rfl (by decide)))))
          have hey289 : Fvy272 27 = F 27 := ((hFvy272 27 (by decide)).trans ((hFvy30 27 (by decide)).trans ((hFvy27 27 (by decide)).trans (fn rfl (by decide)))))
          have hey290 : Fvy272 28 = F 28 := ((hFvy272 28 (by decide)).trans ((hFvy30 28 (by decide)).trans ((hFvy27 28 (by decide)).trans (fn rfl (by decide)))))
          have hey291 : Fvy272 29 = F 29 := ((hFvy272 29 (by decide)).trans ((hFvy30 29 (by decide)).trans ((hFvy27 29 (by decide)).trans (fn rfl (by decide)))))
          have hKy292 : okF Fvy272 := by unfold okF; omega
          have hMy293 : okMr cs ad gvy272 i (x + 1) Fvy272 r := okMr.upd hM hcvy272 hKy292 (fun f a => hFy278 f (by omega)) hgy277 (hA.mono (by omega)) (fun j a b => by
              exact Or.inl (by rw [hfvy272 _ (by omega)]; rw [hfvy30 _ (by omega)]; rw [hfvy27 _ (by omega)]; rw [egy25, va_up_ne _ _ (by omega)]))
          have h23 : Fvy272 23 = F 23 := ((hFvy272 23 (by decide)).trans ((hFvy30 23 (by decide)).trans ((hFvy27 23 (by decide)).trans (fn rfl (by decide)))))
          exact z_iret C hr hlk dX10_then_44 (by decide) (by decide) ⟨0, rfl, rfl, rfl, by omega, ⟨_, _, hMy293, by omega⟩, fun j j1 => by rw [hfvy272 _ (by omega)]; rw [hfvy30 _ (by omega)]; rw [hfvy27 _ (by omega)]; rw [egy25, va_up_ne _ _ (by omega)]⟩
      · refine z_if_eq (tgt := 43) C dX10_then_25 (by decide) (by omega) (fun _ => ?_) (fun h => absurd h (by omega))
        refine z_iconst (z := 0) C dX10_then_43 rfl ?_
        have hgy294 := up_n egy25 ha1 (ne_o (i := i) (c := 1) (d := 0) rfl)
        have hgy295 := (hfvy27 (i + 1) (ne_o (i := i) (c := 1) (d := 0) rfl)).trans hgy294
        have hgy296 := (hfvy30 (i + 1) (ne_o (i := i) (c := 1) (d := 0) rfl)).trans hgy295
        have hFy297 : ∀ f, f ≠ 12 → Fvy30 f = F f := fun f n12 => ((hFvy30 f n12).trans ((hFvy27 f n12).trans ((uZ_n _ _ n12).trans rfl)))
        have hey298 : Fvy30 13 = F 13 := ((hFvy30 13 (by decide)).trans ((hFvy27 13 (by decide)).trans (fn rfl (by decide))))
        have hey299 : Fvy30 14 = F 14 := ((hFvy30 14 (by decide)).trans ((hFvy27 14 (by decide)).trans (fn rfl (by decide))))
        have hey300 : Fvy30 15 = F 15 := ((hFvy30 15 (by decide)).trans ((hFvy27 15 (by decide)).trans (fn rfl (by decide))))
        have hey301 : Fvy30 16 = F 16 := ((hFvy30 16 (by decide)).trans ((hFvy27 16 (by decide)).trans (fn rfl (by decide))))
        have hey302 : Fvy30 17 = F 17 := ((hFvy30 17 (by decide)).trans ((hFvy27 17 (by decide)).trans (fn rfl (by decide))))
        have hey303 : Fvy30 18 = F 18 := ((hFvy30 18 (by decide)).trans ((hFvy27 18 (by decide)).trans (fn rfl (by decide))))
        have hey304 : Fvy30 19 = F 19 := ((hFvy30 19 (by decide)).trans ((hFvy27 19 (by decide)).trans (fn rfl (by decide))))
        have hey305 : Fvy30 20 = F 20 := ((hFvy30 20 (by decide)).trans ((hFvy27 20 (by decide)).trans (fn rfl (by decide))))
        have hey306 : Fvy30 23 = F 23 := ((hFvy30 23 (by decide)).trans ((hFvy27 23 (by decide)).trans (fn rfl (by decide))))
        have hey307 : Fvy30 25 = F 25 := ((hFvy30 25 (by decide)).trans ((hFvy27 25 (by decide)).trans (fn rfl (by decide))))
        have hey308 : Fvy30 27 = F 27 := ((hFvy30 27 (by decide)).trans ((hFvy27 27 (by decide)).trans (fn rfl (by decide))))
        have hey309 : Fvy30 28 = F 28 := ((hFvy30 28 (by decide)).trans ((hFvy27 28 (by decide)).trans (fn rfl (by decide))))
        have hey310 : Fvy30 29 = F 29 := ((hFvy30 29 (by decide)).trans ((hFvy27 29 (by decide)).trans (fn rfl (by decide))))
        have hKy311 : okF Fvy30 := by unfold okF; omega
        have hMy312 : okMr cs ad gvy30 i (x + 1) Fvy30 r := okMr.upd hM hcvy30 hKy311 (fun f a => hFy297 f (by omega)) hgy296 (hA.mono (by omega)) (fun j a b => by
            exact Or.inl (by rw [hfvy30 _ (by omega)]; rw [hfvy27 _ (by omega)]; rw [egy25, va_up_ne _ _ (by omega)]))
        have h23 : Fvy30 23 = F 23 := ((hFvy30 23 (by decide)).trans ((hFvy27 23 (by decide)).trans (fn rfl (by decide))))
        exact z_iret C hr hlk dX10_then_44 (by decide) (by decide) ⟨0, rfl, rfl, rfl, by omega, ⟨_, _, hMy312, by omega⟩, fun j j1 => by rw [hfvy30 _ (by omega)]; rw [hfvy27 _ (by omega)]; rw [egy25, va_up_ne _ _ (by omega)]⟩
    · refine z_iconst (z := 1) C dX10_then_21 rfl ?_
      have hey314 : Fvy27 12 = Fvy27 12 := rfl
      refine z_cV (As := [.int (zI (0)), .int (zI (1))]) (rest := []) (ci := 12) C (c_X10_right l D A cs tt N ad _ i hN _ hcvy27 (by omega) (0) (by omega) (1) (by omega)) (by omega) hay1 hcvy27 rfl rfl mv_yX10_right q_1648 hd_yX10_right (by decide) (Nat.le_of_ble_eq_true rfl) (by decide) dX10_then_22 rfl (kI0 fun vy313 gvy313 hvy313 => ?_)
      obtain ⟨hrvy313, ⟨Fvy313, hcvy313, htvy313, hFvy313⟩, hfvy313⟩ := hvy313
      obtain rfl : vy313 = 0 := by omega
      refine z_if_eq (tgt := 43) C dX10_then_25 (by decide) (by omega) (fun _ => ?_) (fun h => absurd h (by omega))
      refine z_iconst (z := 0) C dX10_then_43 rfl ?_
      have hgy315 := up_n egy25 ha1 (ne_o (i := i) (c := 1) (d := 0) rfl)
      have hgy316 := (hfvy27 (i + 1) (ne_o (i := i) (c := 1) (d := 0) rfl)).trans hgy315
      have hgy317 := (hfvy313 (i + 1) (ne_o (i := i) (c := 1) (d := 0) rfl)).trans hgy316
      have hFy318 : ∀ f, f ≠ 12 → Fvy313 f = F f := fun f n12 => ((hFvy313 f n12).trans ((hFvy27 f n12).trans ((uZ_n _ _ n12).trans rfl)))
      have hey319 : Fvy313 13 = F 13 := ((hFvy313 13 (by decide)).trans ((hFvy27 13 (by decide)).trans (fn rfl (by decide))))
      have hey320 : Fvy313 14 = F 14 := ((hFvy313 14 (by decide)).trans ((hFvy27 14 (by decide)).trans (fn rfl (by decide))))
      have hey321 : Fvy313 15 = F 15 := ((hFvy313 15 (by decide)).trans ((hFvy27 15 (by decide)).trans (fn rfl (by decide))))
      have hey322 : Fvy313 16 = F 16 := ((hFvy313 16 (by decide)).trans ((hFvy27 16 (by decide)).trans (fn rfl (by decide))))
      have hey323 : Fvy313 17 = F 17 := ((hFvy313 17 (by decide)).trans ((hFvy27 17 (by decide)).trans (fn rfl (by decide))))
      have hey324 : Fvy313 18 = F 18 := ((hFvy313 18 (by decide)).trans ((hFvy27 18 (by decide)).trans (fn rfl (by decide))))
      have hey325 : Fvy313 19 = F 19 := ((hFvy313 19 (by decide)).trans ((hFvy27 19 (by decide)).trans (fn rfl (by decide))))
      have hey326 : Fvy313 20 = F 20 := ((hFvy313 20 (by decide)).trans ((hFvy27 20 (by decide)).trans (fn rfl (by decide))))
      have hey327 : Fvy313 23 = F 23 := ((hFvy313 23 (by decide)).trans ((hFvy27 23 (by decide)).trans (fn rfl (by decide))))
      have hey328 : Fvy313 25 = F 25 := ((hFvy313 25 (by decide)).trans ((hFvy27 25 (by decide)).trans (fn rfl (by decide))))
      have hey329 : Fvy313 27 = F 27 := ((hFvy313 27 (by decide)).trans ((hFvy27 27 (by decide)).trans (fn rfl (by decide))))
      have hey330 : Fvy313 28 = F 28 := ((hFvy313 28 (by decide)).trans ((hFvy27 28 (by decide)).trans (fn rfl (by decide))))
      have hey331 : Fvy313 29 = F 29 := ((hFvy313 29 (by decide)).trans ((hFvy27 29 (by decide)).trans (fn rfl (by decide))))
      have hKy332 : okF Fvy313 := by unfold okF; omega
      have hMy333 : okMr cs ad gvy313 i (x + 1) Fvy313 r := okMr.upd hM hcvy313 hKy332 (fun f a => hFy318 f (by omega)) hgy317 (hA.mono (by omega)) (fun j a b => by
          exact Or.inl (by rw [hfvy313 _ (by omega)]; rw [hfvy27 _ (by omega)]; rw [egy25, va_up_ne _ _ (by omega)]))
      have h23 : Fvy313 23 = F 23 := ((hFvy313 23 (by decide)).trans ((hFvy27 23 (by decide)).trans (fn rfl (by decide))))
      exact z_iret C hr hlk dX10_then_44 (by decide) (by decide) ⟨0, rfl, rfl, rfl, by omega, ⟨_, _, hMy333, by omega⟩, fun j j1 => by rw [hfvy313 _ (by omega)]; rw [hfvy27 _ (by omega)]; rw [egy25, va_up_ne _ _ (by omega)]⟩
  · refine z_if_eq (tgt := 43) C dX10_then_10 (by decide) (by omega) (fun _ => ?_) (fun h => absurd h (by omega))
    refine z_iconst (z := 0) C dX10_then_43 rfl ?_
    have hgy334 := up_n egy25 ha1 (ne_o (i := i) (c := 1) (d := 0) rfl)
    have hgy335 := (hfvy27 (i + 1) (ne_o (i := i) (c := 1) (d := 0) rfl)).trans hgy334
    have hFy336 : ∀ f, f ≠ 12 → Fvy27 f = F f := fun f n12 => ((hFvy27 f n12).trans ((uZ_n _ _ n12).trans rfl))
    have hey337 : Fvy27 13 = F 13 := ((hFvy27 13 (by decide)).trans (fn rfl (by decide)))
    have hey338 : Fvy27 14 = F 14 := ((hFvy27 14 (by decide)).trans (fn rfl (by decide)))
    have hey339 : Fvy27 15 = F 15 := ((hFvy27 15 (by decide)).trans (fn rfl (by decide)))
    have hey340 : Fvy27 16 = F 16 := ((hFvy27 16 (by decide)).trans (fn rfl (by decide)))
    have hey341 : Fvy27 17 = F 17 := ((hFvy27 17 (by decide)).trans (fn rfl (by decide)))
    have hey342 : Fvy27 18 = F 18 := ((hFvy27 18 (by decide)).trans (fn rfl (by decide)))
    have hey343 : Fvy27 19 = F 19 := ((hFvy27 19 (by decide)).trans (fn rfl (by decide)))
    have hey344 : Fvy27 20 = F 20 := ((hFvy27 20 (by decide)).trans (fn rfl (by decide)))
    have hey345 : Fvy27 23 = F 23 := ((hFvy27 23 (by decide)).trans (fn rfl (by decide)))
    have hey346 : Fvy27 25 = F 25 := ((hFvy27 25 (by decide)).trans (fn rfl (by decide)))
    have hey347 : Fvy27 27 = F 27 := ((hFvy27 27 (by decide)).trans (fn rfl (by decide)))
    have hey348 : Fvy27 28 = F 28 := ((hFvy27 28 (by decide)).trans (fn rfl (by decide)))
    have hey349 : Fvy27 29 = F 29 := ((hFvy27 29 (by decide)).trans (fn rfl (by decide)))
    have hKy350 : okF Fvy27 := by unfold okF; omega
    have hMy351 : okMr cs ad gvy27 i (x + 1) Fvy27 r := okMr.upd hM hcvy27 hKy350 (fun f a => hFy336 f (by omega)) hgy335 (hA.mono (by omega)) (fun j a b => by
        exact Or.inl (by rw [hfvy27 _ (by omega)]; rw [egy25, va_up_ne _ _ (by omega)]))
    have h23 : Fvy27 23 = F 23 := ((hFvy27 23 (by decide)).trans (fn rfl (by decide)))
    exact z_iret C hr hlk dX10_then_44 (by decide) (by decide) ⟨0, rfl, rfl, rfl, by omega, ⟨_, _, hMy351, by omega⟩, fun j j1 => by rw [hfvy27 _ (by omega)]; rw [egy25, va_up_ne _ _ (by omega)]⟩

set_option maxRecDepth 100000 in
set_option maxHeartbeats 4000000 in
theorem c_X10_then_b (l : Launch) (D : va_G) (A : Nat → Prop) (cs : Nat → ClassId) (tt : Nat) (N : Nat) (ad : Nat → Nat) (g : Nat → va_E) (i : Nat) (hN : i + 30 ≤ N) (x : Int) (hx : 0 ≤ x ∧ x ≤ 512) (F r : Nat → Int) (hM : okMr cs ad g i x F r) (z : Int) (hz : -2147483648 ≤ z ∧ z ≤ 2147483647) (hzo : z < 0 ∨ 3 < z) (z1 : Int) (hz1 : -2147483648 ≤ z1 ∧ z1 ≤ 2147483647) (z2 : Int) (hz2 : -2147483648 ≤ z2 ∧ z2 ≤ 2147483647) : zM l yX10_then cX10_then 5 (some .int) ({ frames := 10, cells := 0, slots := 0, locals := 600 } : Room) D A cs tt N ad g [.ref (ad i), .int (zI (z)), .int (zI (z1)), .int (zI (z2))] (rI0 N ad fun q g' => (-2147483648 ≤ q ∧ q ≤ 2147483647) ∧ (∃ F' r' : Nat → Int, okMr cs ad g' i (x + 1) F' r' ∧ F' 23 = F 23) ∧ ∀ j, j < i ∨ i + 30 ≤ j → g' j = g j) := by
  obtain ⟨hg, ⟨⟨e13, e14, e25, e27, e29⟩, k15, k16, k17, k18, k19, k20, k23⟩, hRD, hTx, hA, st, op, ai, fa, mu, tb, ns, nh, nd, rf, pi, tp, te, ki, li, ok1, ok2, fo, dd, dps, ⟨ha1, ha2, ha3, ha4, ha5, ha6, ha7, ha8, ha9, ha10, ha11, ha12, ha13, ha14, ha15, ha24, ha25, ha26, ha27, ha28, ha29⟩, hEv, hPt, hns, htp⟩ := id hM
  obtain ⟨-, hop, hai, hfa, hT, hT1⟩ := id hEv
  have hay1 : zAt ad (i) (ad i) := rfl
  have hay2 : zAt ad (i + 1) (ad (i + 1)) := rfl
  have hay3 : zAt ad (i + 2) (ad (i + 2)) := rfl
  have hay4 : zAt ad (i + 3) (ad (i + 3)) := rfl
  have hay5 : zAt ad (i + 4) (ad (i + 4)) := rfl
  have hay6 : zAt ad (i + 5) (ad (i + 5)) := rfl
  have hay7 : zAt ad (i + 6) (ad (i + 6)) := rfl
  have hay8 : zAt ad (i + 7) (ad (i + 7)) := rfl
  have hay9 : zAt ad (i + 8) (ad (i + 8)) := rfl
  have hay10 : zAt ad (i + 9) (ad (i + 9)) := rfl
  have hay11 : zAt ad (i + 10) (ad (i + 10)) := rfl
  have hay12 : zAt ad (i + 11) (ad (i + 11)) := rfl
  have hay13 : zAt ad (i + 12) (ad (i + 12)) := rfl
  have hay14 : zAt ad (i + 13) (ad (i + 13)) := rfl
  have hay15 : zAt ad (i + 14) (ad (i + 14)) := rfl
  have hay16 : zAt ad (i + 15) (ad (i + 15)) := rfl
  have hay17 : zAt ad (i + 24) (ad (i + 24)) := rfl
  have hay18 : zAt ad (i + 25) (ad (i + 25)) := rfl
  have hay19 : zAt ad (i + 26) (ad (i + 26)) := rfl
  have hay20 : zAt ad (i + 27) (ad (i + 27)) := rfl
  have hay21 : zAt ad (i + 28) (ad (i + 28)) := rfl
  have hay22 : zAt ad (i + 29) (ad (i + 29)) := rfl
  obtain ⟨⟨hsyy23, htyy23, hnyy23, hpyy23⟩, hlyy23⟩ := okA.at0 hA
  simp only [Nat.zero_add] at hsyy23 hnyy23 hpyy23
  have hmn : ∀ s, s < 4 → 0 ≤ r (6 + 86 * s) ∧ r (6 + 86 * s) ≤ 12 := fun s hs => (hsyy23 s hs).1
  have h5 : 0 ≤ r 5 ∧ r 5 ≤ 6 := hpyy23
  refine z_of (by decide) (Nat.le_of_ble_eq_true rfl) ?_
  intro pZ eZ sZ mZ below meth cZ C hr hlk hnm
  refine z_lv (lv' := [(0, .ref (ad i)), (1, .int (zI (z))), (2, .int (zI (z1))), (3, .int (zI (z2)))]) [0, 1, 2, 3] rfl ?_
  refine z_aload_n C 0 dX10_then_0 rfl ?_
  refine z_iconst (z := 0) C dX10_then_1 rfl ?_
  refine z_put (fs' := mF ad (i) (uZ F 12 (0))) C (by omega) hay1 hg tyX10 tyX10_ok nmX10 rfl inA_X10 12 (by decide) q_1471 rfl rfl rfl rfl (Nat.le_of_ble_eq_true rfl) rfl dX10_then_2 (fun gy24 egy25 => ?_)
  have hgy26 := up_s egy25
  refine z_aload_n C 0 dX10_then_5 rfl ?_
  refine z_iload_n C 1 dX10_then_6 rfl ?_
  have h13vy27 : (uZ F 12 (0)) 13 = F 13 := (fn rfl (by decide))
  have hey28 : (uZ F 12 (0)) 12 = 0 := (uZ_s _ _ _)
  refine z_cV (As := [.int (zI (z))]) (rest := []) (ci := 12) C (c_X10_isSlope l D A cs tt N ad _ i hN _ hgy26 (by omega) (by omega) (z) (by omega)) (by omega) hay1 hgy26 rfl rfl mv_yX10_isSlope q_1803 hd_yX10_isSlope (by decide) (Nat.le_of_ble_eq_true rfl) (by decide) dX10_then_7 rfl (kI0 fun vy27 gvy27 hvy27 => ?_)
  rw [h13vy27] at hvy27
  obtain ⟨hrvy27, ⟨Fvy27, hcvy27, htvy27, hFvy27⟩, hfvy27⟩ := hvy27
  obtain rfl : vy27 = 0 := by omega
  refine z_if_eq (tgt := 43) C dX10_then_10 (by decide) (by omega) (fun _ => ?_) (fun h => absurd h (by omega))
  refine z_iconst (z := 0) C dX10_then_43 rfl ?_
  have hgy29 := up_n egy25 ha1 (ne_o (i := i) (c := 1) (d := 0) rfl)
  have hgy30 := (hfvy27 (i + 1) (ne_o (i := i) (c := 1) (d := 0) rfl)).trans hgy29
  have hFy31 : ∀ f, f ≠ 12 → Fvy27 f = F f := fun f n12 => ((hFvy27 f n12).trans ((uZ_n _ _ n12).trans rfl))
  have hey32 : Fvy27 13 = F 13 := ((hFvy27 13 (by decide)).trans (fn rfl (by decide)))
  have hey33 : Fvy27 14 = F 14 := ((hFvy27 14 (by decide)).trans (fn rfl (by decide)))
  have hey34 : Fvy27 15 = F 15 := ((hFvy27 15 (by decide)).trans (fn rfl (by decide)))
  have hey35 : Fvy27 16 = F 16 := ((hFvy27 16 (by decide)).trans (fn rfl (by decide)))
  have hey36 : Fvy27 17 = F 17 := ((hFvy27 17 (by decide)).trans (fn rfl (by decide)))
  have hey37 : Fvy27 18 = F 18 := ((hFvy27 18 (by decide)).trans (fn rfl (by decide)))
  have hey38 : Fvy27 19 = F 19 := ((hFvy27 19 (by decide)).trans (fn rfl (by decide)))
  have hey39 : Fvy27 20 = F 20 := ((hFvy27 20 (by decide)).trans (fn rfl (by decide)))
  have hey40 : Fvy27 23 = F 23 := ((hFvy27 23 (by decide)).trans (fn rfl (by decide)))
  have hey41 : Fvy27 25 = F 25 := ((hFvy27 25 (by decide)).trans (fn rfl (by decide)))
  have hey42 : Fvy27 27 = F 27 := ((hFvy27 27 (by decide)).trans (fn rfl (by decide)))
  have hey43 : Fvy27 28 = F 28 := ((hFvy27 28 (by decide)).trans (fn rfl (by decide)))
  have hey44 : Fvy27 29 = F 29 := ((hFvy27 29 (by decide)).trans (fn rfl (by decide)))
  have hKy45 : okF Fvy27 := by unfold okF; omega
  have hMy46 : okMr cs ad gvy27 i (x + 1) Fvy27 r := okMr.upd hM hcvy27 hKy45 (fun f a => hFy31 f (by omega)) hgy30 (hA.mono (by omega)) (fun j a b => by
      exact Or.inl (by rw [hfvy27 _ (by omega)]; rw [egy25, va_up_ne _ _ (by omega)]))
  have h23 : Fvy27 23 = F 23 := ((hFvy27 23 (by decide)).trans (fn rfl (by decide)))
  exact z_iret C hr hlk dX10_then_44 (by decide) (by decide) ⟨0, rfl, rfl, rfl, by omega, ⟨_, _, hMy46, by omega⟩, fun j j1 => by rw [hfvy27 _ (by omega)]; rw [egy25, va_up_ne _ _ (by omega)]⟩

set_option maxRecDepth 100000 in
set_option maxHeartbeats 4000000 in
theorem c_X10_then (l : Launch) (D : va_G) (A : Nat → Prop) (cs : Nat → ClassId) (tt : Nat) (N : Nat) (ad : Nat → Nat) (g : Nat → va_E) (i : Nat) (hN : i + 30 ≤ N) (x : Int) (hx : 0 ≤ x ∧ x ≤ 512) (F r : Nat → Int) (hM : okMr cs ad g i x F r) (z : Int) (hz : -2147483648 ≤ z ∧ z ≤ 2147483647) (z1 : Int) (hz1 : -2147483648 ≤ z1 ∧ z1 ≤ 2147483647) (z2 : Int) (hz2 : -2147483648 ≤ z2 ∧ z2 ≤ 2147483647) : zM l yX10_then cX10_then 5 (some .int) ({ frames := 10, cells := 0, slots := 0, locals := 600 } : Room) D A cs tt N ad g [.ref (ad i), .int (zI (z)), .int (zI (z1)), .int (zI (z2))] (rI0 N ad fun q g' => (-2147483648 ≤ q ∧ q ≤ 2147483647) ∧ (∃ F' r' : Nat → Int, okMr cs ad g' i (x + 1) F' r' ∧ F' 23 = F 23) ∧ ∀ j, j < i ∨ i + 30 ≤ j → g' j = g j) := by
  by_cases h9 : 0 ≤ z ∧ z ≤ 3
  · obtain ⟨n, rfl⟩ : ∃ n : Nat, z = (n : Int) := ⟨z.toNat, by omega⟩
    exact c_X10_then_a l D A cs tt N ad g i hN x hx F r hM n (by omega) z1 hz1 z2 hz2
  · exact c_X10_then_b l D A cs tt N ad g i hN x hx F r hM z hz (by omega) z1 hz1 z2 hz2

