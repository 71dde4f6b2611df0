section
-- 9mf.uim.lean.txt
set_option maxRecDepth 100000 in
set_option maxHeartbeats 4000000 in
theorem c_vImage (l : Launch) (D : va_G) (A : Nat → Prop) (cs : Nat → ClassId) (tt : Nat) (N : Nat) (ad : Nat → Nat) (g : Nat → va_E) (i : Nat) (hN : i + 30 ≤ N) (x : Int) (hx : 0 ≤ x ∧ x ≤ 512) (F r : Nat → Int) {st op ai fa mu tb tp : Nat → Int} (hM : okMr cs ad g i x F r st op ai fa mu tb tp) (n8 : Nat → Int) (hc8 : g (i + 8) = iA cs 16 n8) (n9a : Nat → Int) (hc9 : g (i + 9) = iA cs 16 n9a) (n10 : Nat → Int) (hc10 : g (i + 10) = iA cs 16 n10) (n11 : Nat → Int) (hc11 : g (i + 11) = iA cs 6 n11) (n12a : Nat → Int) (hc12 : g (i + 12) = iA cs 1080 n12a) (hP12 : okPt n12a) (hP8 : ∀ k, k < 16 → 0 ≤ n8 k ∧ n8 k ≤ 3) : zM l yX10_image cX10_image 2 none ({ frames := 2, cells := 0, slots := 0, locals := 120 } : Room) D A cs tt N ad g [.ref (ad i)] (rV0 N ad fun g' => (∃ F' r' : Nat → Int, okMr cs ad g' i (x + 1) F' r' st op ai fa mu tb tp ∧ (F' 13 = F 13 ∧ F' 14 = F 14 ∧ F' 17 = F 17 ∧ F' 18 = F 15 ∧ F' 19 = F 16 ∧ F' 20 = F 17 ∧ F' 21 = 1 ∧ F' 23 = F 23 ∧ F' 24 = F 24 ∧ F' 25 = F 25 ∧ F' 26 = F 26 ∧ F' 27 = F 27 ∧ F' 28 = F 28 ∧ F' 29 = F 29) ∧ (F' 15 = F 15 ∧ F' 16 = F 16) ∧ (∀ q, q < 350 → r' (14700 + q) = r q) ∧ (∀ q, q < 14000 → r' (15050 + q) = r (700 + q)) ∧ ∀ j, j < 14700 → r' j = r j) ∧ (∃ t' : Nat → Int, g' (i + 8) = iA cs 16 t' ∧ (∀ k, k < 16 → 0 ≤ t' k ∧ t' k ≤ 3) ∧ (∀ q, q < 8 → t' (8 + q) = n8 q) ∧ ∀ q, q < 8 → t' q = n8 q) ∧ (∃ t' : Nat → Int, g' (i + 9) = iA cs 16 t' ∧ (∀ q, q < 8 → t' (8 + q) = n9a q) ∧ ∀ q, q < 8 → t' q = n9a q) ∧ (∃ t' : Nat → Int, g' (i + 10) = iA cs 16 t' ∧ (∀ q, q < 8 → t' (8 + q) = n10 q) ∧ ∀ q, q < 8 → t' q = n10 q) ∧ (∃ t' : Nat → Int, g' (i + 11) = iA cs 6 t' ∧ (∀ q, q < 3 → t' (3 + q) = n11 q) ∧ ∀ q, q < 3 → t' q = n11 q) ∧ (∃ t' : Nat → Int, g' (i + 12) = iA cs 1080 t' ∧ okPt t' ∧ (∀ q, q < 540 → t' (540 + q) = n12a q) ∧ ∀ q, q < 540 → t' q = n12a q) ∧ ∀ j, j < i ∨ i + 30 ≤ j → g' j = g j) := by
  obtain ⟨hg, ⟨⟨e13, e14, e25, e27, e29⟩, k15, k16, k17, k18, k19, k20, k23, k21⟩, hRD, hTx, hA, ns, nh, nd, rf, pi, te, ki, li, ok1, ok2, fo, dd, dps, ⟨ha1, ha2, ha3, ha4, ha5, ha6, ha7, ha8, ha9, ha10, ha11, ha12, ha13, ha14, ha15, ha24, ha25, ha26, ha27, ha28, ha29⟩, hEv, hPt, hns, htp⟩ := id hM
  obtain ⟨-, hop, hai, hfa, hT, hT1⟩ := id hEv
  have hay1 : zAt ad (i) (ad i) := rfl
  have hay2 : zAt ad (i + 1) (ad (i + 1)) := rfl
  have hay3 : zAt ad (i + 2) (ad (i + 2)) := rfl
  have hay4 : zAt ad (i + 3) (ad (i + 3)) := rfl
  have hay5 : zAt ad (i + 4) (ad (i + 4)) := rfl
  have hay6 : zAt ad (i + 5) (ad (i + 5)) := rfl
  have hay7 : zAt ad (i + 6) (ad (i + 6)) := rfl
  have hay8 : zAt ad (i + 7) (ad (i + 7)) := rfl
  have hay9 : zAt ad (i + 8) (ad (i + 8)) := rfl
  have hay10 : zAt ad (i + 9) (ad (i + 9)) := rfl
  have hay11 : zAt ad (i + 10) (ad (i + 10)) := rfl
  have hay12 : zAt ad (i + 11) (ad (i + 11)) := rfl
  have hay13 : zAt ad (i + 12) (ad (i + 12)) := rfl
  have hay14 : zAt ad (i + 13) (ad (i + 13)) := rfl
  have hay15 : zAt ad (i + 14) (ad (i + 14)) := rfl
  have hay16 : zAt ad (i + 15) (ad (i + 15)) := rfl
  have hay17 : zAt ad (i + 24) (ad (i + 24)) := rfl
  have hay18 : zAt ad (i + 25) (ad (i + 25)) := rfl
  have hay19 : zAt ad (i + 26) (ad (i + 26)) := rfl
  have hay20 : zAt ad (i + 27) (ad (i + 27)) := rfl
  have hay21 : zAt ad (i + 28) (ad (i + 28)) := rfl
  have hay22 : zAt ad (i + 29) (ad (i + 29)) := rfl
  obtain ⟨⟨hsyy23, htyy23, hnyy23, hpyy23⟩, hlyy23⟩ := okA.at0 hA
  simp only [Nat.zero_add] at hsyy23 hnyy23 hpyy23
  have hmn : ∀ s, s < 4 → 0 ≤ r (6 + 86 * s) ∧ r (6 + 86 * s) ≤ 12 := fun s hs => (hsyy23 s hs).1
  have h5 : 0 ≤ r 5 ∧ r 5 ≤ 6 := hpyy23
  refine z_of (by decide) (Nat.le_of_ble_eq_true rfl) ?_
  intro pY eY sY mY below meth cY C hr hlk hnm
  refine z_lv (lv' := [(0, .ref (ad i))]) [0] rfl ?_
  refine z_aload_n C 0 dX10_image_0 rfl ?_
  refine z_iconst (z := 0) C dX10_image_1 rfl ?_
  refine z_put (fs' := mF ad (i) (uZ F 12 (0))) C (lt_A0 hN rfl) hay1 hg tyX10 tyX10_ok nmX10 rfl inA_X10 12 (by decide) q_1471 rfl rfl rfl rfl (Nat.le_of_ble_eq_true rfl) rfl dX10_image_2 (fun gy24 egy25 => ?_)
  have hgy26 := up_s egy25
  refine z_aload_n C 0 dX10_image_5 rfl ?_
  refine z_iconst (z := 0) C dX10_image_6 rfl ?_
  refine z_sipush (z := 14700) C dX10_image_7 (by decide) ?_
  refine z_sipush (z := 350) C dX10_image_10 (by decide) ?_
  have hgy27 := up_n egy25 ha1 (ne_o (i := i) (c := 1) (d := 0) rfl)
  refine z_cV (As := [.int (zI (0)), .int (zI (14700)), .int (zI (350))]) (rest := []) (ci := 12) C (c_X10_copies l D A cs tt N ad _ i hN _ hgy26 _ hgy27 0 14700 350 (by omega) (by omega) (by omega)) (lt_A0 hN rfl) hay1 hgy26 rfl rfl mv_yX10_copies q_1877 hd_yX10_copies (by decide) (Nat.le_of_ble_eq_true rfl) (by decide) dX10_image_13 rfl (kV0 fun gvy28 hvy28 => ?_)
  obtain ⟨⟨rvy28, hcvy28, hevy28, hovy28⟩, hfvy28⟩ := hvy28
  have hAy29 : okA rvy28 (x) := okA.copy (a := 0) (b := 42) (m := 1) hA (by omega) (by omega) (by omega) (fun k hk => hevy28 k (by omega)) (fun j hj => hovy28 j (by omega))
  refine z_aload_n C 0 dX10_image_16 rfl ?_
  refine z_sipush (z := 700) C dX10_image_17 (by decide) ?_
  refine z_sipush (z := 15050) C dX10_image_20 (by decide) ?_
  refine z_sipush (z := 14000) C dX10_image_23 (by decide) ?_
  have hgy30 := (hfvy28 (i) (ne_o (i := i) (c := 0) (d := 1) rfl)).trans hgy26
  refine z_cV (As := [.int (zI (700)), .int (zI (15050)), .int (zI (14000))]) (rest := []) (ci := 12) C (c_X10_copies l D A cs tt N ad _ i hN _ hgy30 _ hcvy28 700 15050 14000 (by omega) (by omega) (by omega)) (lt_A0 hN rfl) hay1 hgy30 rfl rfl mv_yX10_copies q_1877 hd_yX10_copies (by decide) (Nat.le_of_ble_eq_true rfl) (by decide) dX10_image_26 rfl (kV0 fun gvy31 hvy31 => ?_)
  obtain ⟨⟨rvy31, hcvy31, hevy31, hovy31⟩, hfvy31⟩ := hvy31
  have hAy32 : okA rvy31 (x) := okA.copy (a := 2) (b := 43) (m := 40) hAy29 (by omega) (by omega) (by omega) (fun k hk => hevy31 k (by omega)) (fun j hj => hovy31 j (by omega))
  refine z_aload_n C 0 dX10_image_29 rfl ?_
  refine z_aload_n C 0 dX10_image_30 rfl ?_
  have hgy33 := (hfvy31 (i) (ne_o (i := i) (c := 0) (d := 1) rfl)).trans hgy30
  refine z_get (v := .int (zI (F 15))) C (lt_A0 hN rfl) hay1 hgy33 rfl inA_X10 15 (by decide) q_1474 rfl (fv (F := (uZ F 12 (0))) (f := 15) (fn rfl (by decide))) dX10_image_31 ?_
  refine z_put (fs' := mF ad (i) (uZ (uZ F 12 (0)) 18 (F 15))) C (lt_A0 hN rfl) hay1 hgy33 tyX10 tyX10_ok nmX10 rfl inA_X10 18 (by decide) q_1477 rfl rfl rfl rfl (Nat.le_of_ble_eq_true rfl) rfl dX10_image_34 (fun gy34 egy35 => ?_)
  have hgy36 := up_s egy35
  refine z_aload_n C 0 dX10_image_37 rfl ?_
  refine z_aload_n C 0 dX10_image_38 rfl ?_
  refine z_get (v := .int (zI (F 16))) C (lt_A0 hN rfl) hay1 hgy36 rfl inA_X10 16 (by decide) q_1475 rfl (fv (F := (uZ (uZ F 12 (0)) 18 (F 15))) (f := 16) (fn (fn rfl (by decide)) (by decide))) dX10_image_39 ?_
  refine z_put (fs' := mF ad (i) (uZ (uZ (uZ F 12 (0)) 18 (F 15)) 19 (F 16))) C (lt_A0 hN rfl) hay1 hgy36 tyX10 tyX10_ok nmX10 rfl inA_X10 19 (by decide) q_1478 rfl rfl rfl rfl (Nat.le_of_ble_eq_true rfl) rfl dX10_image_42 (fun gy37 egy38 => ?_)
  have hgy39 := up_s egy38
  refine z_aload_n C 0 dX10_image_45 rfl ?_
  refine z_aload_n C 0 dX10_image_46 rfl ?_
  refine z_get (v := .int (zI (F 17))) C (lt_A0 hN rfl) hay1 hgy39 rfl inA_X10 17 (by decide) q_1476 rfl (fv (F := (uZ (uZ (uZ F 12 (0)) 18 (F 15)) 19 (F 16))) (f := 17) (fn (fn (fn rfl (by decide)) (by decide)) (by decide))) dX10_image_47 ?_
  refine z_put (fs' := mF ad (i) (uZ (uZ (uZ (uZ F 12 (0)) 18 (F 15)) 19 (F 16)) 20 (F 17))) C (lt_A0 hN rfl) hay1 hgy39 tyX10 tyX10_ok nmX10 rfl inA_X10 20 (by decide) q_1479 rfl rfl rfl rfl (Nat.le_of_ble_eq_true rfl) rfl dX10_image_50 (fun gy40 egy41 => ?_)
  have hgy42 := up_s egy41
  refine z_iconst (z := 0) C dX10_image_53 rfl ?_
  refine z_istore_n (lv' := [(1, .int (zI (0))), (0, .ref (ad i))]) C dX10_image_54 rfl (by decide) rfl ?_
  have lp1 : ∀ (n9 : Nat) (kk : Int) (p12 : Nat → Int) (g1 : Nat → va_E), (541 - kk).toNat = n9 → (g1 (i + 12) = iA cs 1080 p12) → (∀ j, j ≠ i + 12 → g1 j = gy40 j) → (∀ j, j < 540 ∨ 540 + 540 ≤ j → p12 j = n12a j) → (∀ q : Nat, (q : Int) < kk → p12 (540 + q) = n12a (0 + q)) → (0 ≤ kk ∧ kk ≤ 540) → zV pY l eY ({ frames := 2, cells := 0, slots := 0, locals := 120 } : Room) sY mY ([.ref (ad i)] : List Value).toArray below meth cY (MQ below (zPost D A (rV0 N ad fun g' => (∃ F' r' : Nat → Int, okMr cs ad g' i (x + 1) F' r' st op ai fa mu tb tp ∧ (F' 13 = F 13 ∧ F' 14 = F 14 ∧ F' 17 = F 17 ∧ F' 18 = F 15 ∧ F' 19 = F 16 ∧ F' 20 = F 17 ∧ F' 21 = 1 ∧ F' 23 = F 23 ∧ F' 24 = F 24 ∧ F' 25 = F 25 ∧ F' 26 = F 26 ∧ F' 27 = F 27 ∧ F' 28 = F 28 ∧ F' 29 = F 29) ∧ (F' 15 = F 15 ∧ F' 16 = F 16) ∧ (∀ q, q < 350 → r' (14700 + q) = r q) ∧ (∀ q, q < 14000 → r' (15050 + q) = r (700 + q)) ∧ ∀ j, j < 14700 → r' j = r j) ∧ (∃ t' : Nat → Int, g' (i + 8) = iA cs 16 t' ∧ (∀ k, k < 16 → 0 ≤ t' k ∧ t' k ≤ 3) ∧ (∀ q, q < 8 → t' (8 + q) = n8 q) ∧ ∀ q, q < 8 → t' q = n8 q) ∧ (∃ t' : Nat → Int, g' (i + 9) = iA cs 16 t' ∧ (∀ q, q < 8 → t' (8 + q) = n9a q) ∧ ∀ q, q < 8 → t' q = n9a q) ∧ (∃ t' : Nat → Int, g' (i + 10) = iA cs 16 t' ∧ (∀ q, q < 8 → t' (8 + q) = n10 q) ∧ ∀ q, q < 8 → t' q = n10 q) ∧ (∃ t' : Nat → Int, g' (i + 11) = iA cs 6 t' ∧ (∀ q, q < 3 → t' (3 + q) = n11 q) ∧ ∀ q, q < 3 → t' q = n11 q) ∧ (∃ t' : Nat → Int, g' (i + 12) = iA cs 1080 t' ∧ okPt t' ∧ (∀ q, q < 540 → t' (540 + q) = n12a q) ∧ ∀ q, q < 540 → t' q = n12a q) ∧ ∀ j, j < i ∨ i + 30 ≤ j → g' j = g j)) ([.ref (ad i)] : List Value).toArray sY ({ frames := 2, cells := 0, slots := 0, locals := 120 } : Room).cells ({ frames := 2, cells := 0, slots := 0, locals := 120 } : Room).slots A) D A 2 (N) ad g1 (0) (0) 55 [(0, .ref (ad i)), (1, .int (zI (kk)))] [] := by
    intro n9
    induction n9 using Nat.strongRecOn with
    | ind n9 ih_lp1 =>
      intro kk p12 g1 hm9 f212 f3w fA12 fk12 hvk
      obtain ⟨nk, hnk⟩ : ∃ n9 : Nat, kk = (n9 : Int) := ⟨kk.toNat, by omega⟩
      refine z_iload_n C 1 dX10_image_55 rfl ?_
      refine z_sipush (z := 540) C dX10_image_56 (by decide) ?_
      refine z_icmp_ge (tgt := 84) C dX10_image_59 (by decide) (by omega) (by omega) (fun hby43 => ?_) (fun hby43 => ?_)
      · refine z_iconst (z := 0) C dX10_image_84 rfl ?_
        refine z_istore_n (lv' := [(1, .int (zI (0))), (0, .ref (ad i))]) C dX10_image_85 rfl (by decide) rfl ?_
        have hkk : kk = 540 := by omega
        have he12 : ∀ q, q < 540 → p12 (540 + q) = n12a (0 + q) := fun q hq => fk12 q (by omega)
        have hA12 : ∀ q, q < 540 → p12 (0 + q) = n12a (0 + q) := fun q hq => fA12 (0 + q) (by omega)
        clear fk12
        obtain ⟨gl55, hgl55⟩ : ∃ y9 : Nat → va_E, y9 = g1 := ⟨_, rfl⟩
        rw [← hgl55] at f3w f212
        rw [← hgl55]
        have f3w55 := f3w
        have hQ12 : okPt p12 := okPt.cpy (a := 0) (b := 6) hP12 (by omega) (fun m hm => he12 m hm) (fun m hm => hA12 m hm)
        have lp2 : ∀ (n9 : Nat) (kk : Int) (p8 : Nat → Int) (p9 : Nat → Int) (p10 : Nat → Int) (g1 : Nat → va_E), (9 - kk).toNat = n9 → (g1 (i + 8) = iA cs 16 p8) → (g1 (i + 9) = iA cs 16 p9) → (g1 (i + 10) = iA cs 16 p10) → (∀ j, j ≠ i + 8 → j ≠ i + 9 → j ≠ i + 10 → g1 j = gl55 j) → (∀ j, j < 8 ∨ 8 + 8 ≤ j → p8 j = n8 j) → (∀ q : Nat, (q : Int) < kk → p8 (8 + q) = n8 (0 + q)) → (∀ j, j < 8 ∨ 8 + 8 ≤ j → p9 j = n9a j) → (∀ q : Nat, (q : Int) < kk → p9 (8 + q) = n9a (0 + q)) → (∀ j, j < 8 ∨ 8 + 8 ≤ j → p10 j = n10 j) → (∀ q : Nat, (q : Int) < kk → p10 (8 + q) = n10 (0 + q)) → (0 ≤ kk ∧ kk ≤ 8) → zV pY l eY ({ frames := 2, cells := 0, slots := 0, locals := 120 } : Room) sY mY ([.ref (ad i)] : List Value).toArray below meth cY (MQ below (zPost D A (rV0 N ad fun g' => (∃ F' r' : Nat → Int, okMr cs ad g' i (x + 1) F' r' st op ai fa mu tb tp ∧ (F' 13 = F 13 ∧ F' 14 = F 14 ∧ F' 17 = F 17 ∧ F' 18 = F 15 ∧ F' 19 = F 16 ∧ F' 20 = F 17 ∧ F' 21 = 1 ∧ F' 23 = F 23 ∧ F' 24 = F 24 ∧ F' 25 = F 25 ∧ F' 26 = F 26 ∧ F' 27 = F 27 ∧ F' 28 = F 28 ∧ F' 29 = F 29) ∧ (F' 15 = F 15 ∧ F' 16 = F 16) ∧ (∀ q, q < 350 → r' (14700 + q) = r q) ∧ (∀ q, q < 14000 → r' (15050 + q) = r (700 + q)) ∧ ∀ j, j < 14700 → r' j = r j) ∧ (∃ t' : Nat → Int, g' (i + 8) = iA cs 16 t' ∧ (∀ k, k < 16 → 0 ≤ t' k ∧ t' k ≤ 3) ∧ (∀ q, q < 8 → t' (8 + q) = n8 q) ∧ ∀ q, q < 8 → t' q = n8 q) ∧ (∃ t' : Nat → Int, g' (i + 9) = iA cs 16 t' ∧ (∀ q, q < 8 → t' (8 + q) = n9a q) ∧ ∀ q, q < 8 → t' q = n9a q) ∧ (∃ t' : Nat → Int, g' (i + 10) = iA cs 16 t' ∧ (∀ q, q < 8 → t' (8 + q) = n10 q) ∧ ∀ q, q < 8 → t' q = n10 q) ∧ (∃ t' : Nat → Int, g' (i + 11) = iA cs 6 t' ∧ (∀ q, q < 3 → t' (3 + q) = n11 q) ∧ ∀ q, q < 3 → t' q = n11 q) ∧ (∃ t' : Nat → Int, g' (i + 12) = iA cs 1080 t' ∧ okPt t' ∧ (∀ q, q < 540 → t' (540 + q) = n12a q) ∧ ∀ q, q < 540 → t' q = n12a q) ∧ ∀ j, j < i ∨ i + 30 ≤ j → g' j = g j)) ([.ref (ad i)] : List Value).toArray sY ({ frames := 2, cells := 0, slots := 0, locals := 120 } : Room).cells ({ frames := 2, cells := 0, slots := 0, locals := 120 } : Room).slots A) D A 2 (N) ad g1 (0) (0) 86 [(0, .ref (ad i)), (1, .int (zI (kk)))] [] := by
          intro n9
          induction n9 using Nat.strongRecOn with
          | ind n9 ih_lp2 =>
            intro kk p8 p9 p10 g1 hm9 f28 f29 f210 f3w fA8 fk8 fA9 fk9 fA10 fk10 hvk
            obtain ⟨nk, hnk⟩ : ∃ n9 : Nat, kk = (n9 : Int) := ⟨kk.toNat, by omega⟩
            refine z_iload_n C 1 dX10_image_86 rfl ?_
            refine z_bipush (z := 8) C dX10_image_87 (by decide) ?_
            refine z_icmp_ge (tgt := 143) C dX10_image_89 (by decide) (by omega) (by omega) (fun hby44 => ?_) (fun hby44 => ?_)
            · refine z_iconst (z := 0) C dX10_image_143 rfl ?_
              refine z_istore_n (lv' := [(1, .int (zI (0))), (0, .ref (ad i))]) C dX10_image_144 rfl (by decide) rfl ?_
              have hkk : kk = 8 := by omega
              have he8 : ∀ q, q < 8 → p8 (8 + q) = n8 (0 + q) := fun q hq => fk8 q (by omega)
              have hA8 : ∀ q, q < 8 → p8 (0 + q) = n8 (0 + q) := fun q hq => fA8 (0 + q) (by omega)
              have he9 : ∀ q, q < 8 → p9 (8 + q) = n9a (0 + q) := fun q hq => fk9 q (by omega)
              have hA9 : ∀ q, q < 8 → p9 (0 + q) = n9a (0 + q) := fun q hq => fA9 (0 + q) (by omega)
              have he10 : ∀ q, q < 8 → p10 (8 + q) = n10 (0 + q) := fun q hq => fk10 q (by omega)
              have hA10 : ∀ q, q < 8 → p10 (0 + q) = n10 (0 + q) := fun q hq => fA10 (0 + q) (by omega)
              clear fk8 fk9 fk10
              obtain ⟨gl86, hgl86⟩ : ∃ y9 : Nat → va_E, y9 = g1 := ⟨_, rfl⟩
              rw [← hgl86] at f3w f28 f29 f210
              rw [← hgl86]
              have f3w86 := f3w
              have lp3 : ∀ (n9 : Nat) (kk : Int) (p11 : Nat → Int) (g1 : Nat → va_E), (4 - kk).toNat = n9 → (g1 (i + 11) = iA cs 6 p11) → (∀ j, j ≠ i + 11 → g1 j = gl86 j) → (∀ j, j < 3 ∨ 3 + 3 ≤ j → p11 j = n11 j) → (∀ q : Nat, (q : Int) < kk → p11 (3 + q) = n11 (0 + q)) → (0 ≤ kk ∧ kk ≤ 3) → zV pY l eY ({ frames := 2, cells := 0, slots := 0, locals := 120 } : Room) sY mY ([.ref (ad i)] : List Value).toArray below meth cY (MQ below (zPost D A (rV0 N ad fun g' => (∃ F' r' : Nat → Int, okMr cs ad g' i (x + 1) F' r' st op ai fa mu tb tp ∧ (F' 13 = F 13 ∧ F' 14 = F 14 ∧ F' 17 = F 17 ∧ F' 18 = F 15 ∧ F' 19 = F 16 ∧ F' 20 = F 17 ∧ F' 21 = 1 ∧ F' 23 = F 23 ∧ F' 24 = F 24 ∧ F' 25 = F 25 ∧ F' 26 = F 26 ∧ F' 27 = F 27 ∧ F' 28 = F 28 ∧ F' 29 = F 29) ∧ (F' 15 = F 15 ∧ F' 16 = F 16) ∧ (∀ q, q < 350 → r' (14700 + q) = r q) ∧ (∀ q, q < 14000 → r' (15050 + q) = r (700 + q)) ∧ ∀ j, j < 14700 → r' j = r j) ∧ (∃ t' : Nat → Int, g' (i + 8) = iA cs 16 t' ∧ (∀ k, k < 16 → 0 ≤ t' k ∧ t' k ≤ 3) ∧ (∀ q, q < 8 → t' (8 + q) = n8 q) ∧ ∀ q, q < 8 → t' q = n8 q) ∧ (∃ t' : Nat → Int, g' (i + 9) = iA cs 16 t' ∧ (∀ q, q < 8 → t' (8 + q) = n9a q) ∧ ∀ q, q < 8 → t' q = n9a q) ∧ (∃ t' : Nat → Int, g' (i + 10) = iA cs 16 t' ∧ (∀ q, q < 8 → t' (8 + q) = n10 q) ∧ ∀ q, q < 8 → t' q = n10 q) ∧ (∃ t' : Nat → Int, g' (i + 11) = iA cs 6 t' ∧ (∀ q, q < 3 → t' (3 + q) = n11 q) ∧ ∀ q, q < 3 → t' q = n11 q) ∧ (∃ t' : Nat → Int, g' (i + 12) = iA cs 1080 t' ∧ okPt t' ∧ (∀ q, q < 540 → t' (540 + q) = n12a q) ∧ ∀ q, q < 540 → t' q = n12a q) ∧ ∀ j, j < i ∨ i + 30 ≤ j → g' j = g j)) ([.ref (ad i)] : List Value).toArray sY ({ frames := 2, cells := 0, slots := 0, locals := 120 } : Room).cells ({ frames := 2, cells := 0, slots := 0, locals := 120 } : Room).slots A) D A 2 (N) ad g1 (0) (0) 145 [(0, .ref (ad i)), (1, .int (zI (kk)))] [] := by
                intro n9
                induction n9 using Nat.strongRecOn with
                | ind n9 ih_lp3 =>
                  intro kk p11 g1 hm9 f211 f3w fA11 fk11 hvk
                  obtain ⟨nk, hnk⟩ : ∃ n9 : Nat, kk = (n9 : Int) := ⟨kk.toNat, by omega⟩
                  refine z_iload_n C 1 dX10_image_145 rfl ?_
                  refine z_iconst (z := 3) C dX10_image_146 rfl ?_
                  refine z_icmp_ge (tgt := 170) C dX10_image_147 (by decide) (by omega) (by omega) (fun hby45 => ?_) (fun hby45 => ?_)
                  · refine z_aload_n C 0 dX10_image_170 rfl ?_
                    refine z_iconst (z := 1) C dX10_image_171 rfl ?_
                    have hgy46 := (f3w55 (i) (ne_o (i := i) (c := 0) (d := 12) rfl)).trans hgy42
                    have hgy47 := (f3w86 (i) (ne_o (i := i) (c := 0) (d := 8) rfl) (ne_o (i := i) (c := 0) (d := 9) rfl) (ne_o (i := i) (c := 0) (d := 10) rfl)).trans hgy46
                    have hgy48 := (f3w (i) (ne_o (i := i) (c := 0) (d := 11) rfl)).trans hgy47
                    refine z_put (fs' := mF ad (i) (uZ (uZ (uZ (uZ (uZ F 12 (0)) 18 (F 15)) 19 (F 16)) 20 (F 17)) 21 (1))) C (lt_A0 hN rfl) hay1 hgy48 tyX10 tyX10_ok nmX10 rfl inA_X10 21 (by decide) q_1480 rfl rfl rfl rfl (Nat.le_of_ble_eq_true rfl) rfl dX10_image_172 (fun gy49 egy50 => ?_)
                    have hgy51 := up_s egy50
                    have hkk : kk = 3 := by omega
                    have he11 : ∀ q, q < 3 → p11 (3 + q) = n11 (0 + q) := fun q hq => fk11 q (by omega)
                    have hA11 : ∀ q, q < 3 → p11 (0 + q) = n11 (0 + q) := fun q hq => fA11 (0 + q) (by omega)
                    clear fk11
                    have hQ8 : ∀ k, k < 16 → 0 ≤ p8 k ∧ p8 k ≤ 3 := fun k hk => by
                      by_cases e : k < 8
                      · have h9 := hA8 k e; rw [Nat.zero_add] at h9; rw [h9]; exact hP8 k hk
                      · have h9 := he8 (k - 8) (by omega); rw [show 8 + (k - 8) = k by omega, Nat.zero_add] at h9; rw [h9]; exact hP8 _ (by omega)
                    have hgy52 := (f3w (i + 8) (ne_o (i := i) (c := 8) (d := 11) rfl)).trans f28
                    have hgy53 := up_n egy50 hgy52 (ne_o (i := i) (c := 8) (d := 0) rfl)
                    have hgy54 := (f3w (i + 9) (ne_o (i := i) (c := 9) (d := 11) rfl)).trans f29
                    have hgy55 := up_n egy50 hgy54 (ne_o (i := i) (c := 9) (d := 0) rfl)
                    have hgy56 := (f3w (i + 10) (ne_o (i := i) (c := 10) (d := 11) rfl)).trans f210
                    have hgy57 := up_n egy50 hgy56 (ne_o (i := i) (c := 10) (d := 0) rfl)
                    have hgy58 := up_n egy50 f211 (ne_o (i := i) (c := 11) (d := 0) rfl)
                    have hgy59 := (f3w86 (i + 12) (ne_o (i := i) (c := 12) (d := 8) rfl) (ne_o (i := i) (c := 12) (d := 9) rfl) (ne_o (i := i) (c := 12) (d := 10) rfl)).trans f212
                    have hgy60 := (f3w (i + 12) (ne_o (i := i) (c := 12) (d := 11) rfl)).trans hgy59
                    have hgy61 := up_n egy50 hgy60 (ne_o (i := i) (c := 12) (d := 0) rfl)
                    have hgy62 := up_n egy35 hcvy31 (ne_o (i := i) (c := 1) (d := 0) rfl)
                    have hgy63 := up_n egy38 hgy62 (ne_o (i := i) (c := 1) (d := 0) rfl)
                    have hgy64 := up_n egy41 hgy63 (ne_o (i := i) (c := 1) (d := 0) rfl)
                    have hgy65 := (f3w55 (i + 1) (ne_o (i := i) (c := 1) (d := 12) rfl)).trans hgy64
                    have hgy66 := (f3w86 (i + 1) (ne_o (i := i) (c := 1) (d := 8) rfl) (ne_o (i := i) (c := 1) (d := 9) rfl) (ne_o (i := i) (c := 1) (d := 10) rfl)).trans hgy65
                    have hgy67 := (f3w (i + 1) (ne_o (i := i) (c := 1) (d := 11) rfl)).trans hgy66
                    have hgy68 := up_n egy50 hgy67 (ne_o (i := i) (c := 1) (d := 0) rfl)
                    have hFy69 : ∀ f, f ≠ 12 → f ≠ 18 → f ≠ 19 → f ≠ 20 → f ≠ 21 → (uZ (uZ (uZ (uZ (uZ F 12 (0)) 18 (F 15)) 19 (F 16)) 20 (F 17)) 21 (1)) f = F f := fun f n12 n18 n19 n20 n21 => ((uZ_n _ _ n21).trans ((uZ_n _ _ n20).trans ((uZ_n _ _ n19).trans ((uZ_n _ _ n18).trans ((uZ_n _ _ n12).trans rfl)))))
                    have hey70 : (uZ (uZ (uZ (uZ (uZ F 12 (0)) 18 (F 15)) 19 (F 16)) 20 (F 17)) 21 (1)) 13 = F 13 := (fn (fn (fn (fn (fn rfl (by decide)) (by decide)) (by decide)) (by decide)) (by decide))
                    have hey71 : (uZ (uZ (uZ (uZ (uZ F 12 (0)) 18 (F 15)) 19 (F 16)) 20 (F 17)) 21 (1)) 14 = F 14 := (fn (fn (fn (fn (fn rfl (by decide)) (by decide)) (by decide)) (by decide)) (by decide))
                    have hey72 : (uZ (uZ (uZ (uZ (uZ F 12 (0)) 18 (F 15)) 19 (F 16)) 20 (F 17)) 21 (1)) 15 = F 15 := (fn (fn (fn (fn (fn rfl (by decide)) (by decide)) (by decide)) (by decide)) (by decide))
                    have hey73 : (uZ (uZ (uZ (uZ (uZ F 12 (0)) 18 (F 15)) 19 (F 16)) 20 (F 17)) 21 (1)) 16 = F 16 := (fn (fn (fn (fn (fn rfl (by decide)) (by decide)) (by decide)) (by decide)) (by decide))
                    have hey74 : (uZ (uZ (uZ (uZ (uZ F 12 (0)) 18 (F 15)) 19 (F 16)) 20 (F 17)) 21 (1)) 17 = F 17 := (fn (fn (fn (fn (fn rfl (by decide)) (by decide)) (by decide)) (by decide)) (by decide))
                    have hey75 : (uZ (uZ (uZ (uZ (uZ F 12 (0)) 18 (F 15)) 19 (F 16)) 20 (F 17)) 21 (1)) 18 = F 15 := (fn (fn (fn (uZ_s _ _ _) (by decide)) (by decide)) (by decide))
                    have hey76 : (uZ (uZ (uZ (uZ (uZ F 12 (0)) 18 (F 15)) 19 (F 16)) 20 (F 17)) 21 (1)) 19 = F 16 := (fn (fn (uZ_s _ _ _) (by decide)) (by decide))
                    have hey77 : (uZ (uZ (uZ (uZ (uZ F 12 (0)) 18 (F 15)) 19 (F 16)) 20 (F 17)) 21 (1)) 20 = F 17 := (fn (uZ_s _ _ _) (by decide))
                    have hey78 : (uZ (uZ (uZ (uZ (uZ F 12 (0)) 18 (F 15)) 19 (F 16)) 20 (F 17)) 21 (1)) 21 = 1 := (uZ_s _ _ _)
                    have hey79 : (uZ (uZ (uZ (uZ (uZ F 12 (0)) 18 (F 15)) 19 (F 16)) 20 (F 17)) 21 (1)) 23 = F 23 := (fn (fn (fn (fn (fn rfl (by decide)) (by decide)) (by decide)) (by decide)) (by decide))
                    have hey80 : (uZ (uZ (uZ (uZ (uZ F 12 (0)) 18 (F 15)) 19 (F 16)) 20 (F 17)) 21 (1)) 25 = F 25 := (fn (fn (fn (fn (fn rfl (by decide)) (by decide)) (by decide)) (by decide)) (by decide))
                    have hey81 : (uZ (uZ (uZ (uZ (uZ F 12 (0)) 18 (F 15)) 19 (F 16)) 20 (F 17)) 21 (1)) 27 = F 27 := (fn (fn (fn (fn (fn rfl (by decide)) (by decide)) (by decide)) (by decide)) (by decide))
                    have hey82 : (uZ (uZ (uZ (uZ (uZ F 12 (0)) 18 (F 15)) 19 (F 16)) 20 (F 17)) 21 (1)) 28 = F 28 := (fn (fn (fn (fn (fn rfl (by decide)) (by decide)) (by decide)) (by decide)) (by decide))
                    have hey83 : (uZ (uZ (uZ (uZ (uZ F 12 (0)) 18 (F 15)) 19 (F 16)) 20 (F 17)) 21 (1)) 29 = F 29 := (fn (fn (fn (fn (fn rfl (by decide)) (by decide)) (by decide)) (by decide)) (by decide))
                    have hKy84 : okF (uZ (uZ (uZ (uZ (uZ F 12 (0)) 18 (F 15)) 19 (F 16)) 20 (F 17)) 21 (1)) := by unfold okF; omega
                    have hMy85 : okMr cs ad gy49 i (x + 1) (uZ (uZ (uZ (uZ (uZ F 12 (0)) 18 (F 15)) 19 (F 16)) 20 (F 17)) 21 (1)) rvy31 st op ai fa mu tb tp := okMr.upd hM hgy51 hKy84 (fun f a => hFy69 f (by omega) (by omega) (by omega) (by omega) (by omega)) hgy68 (hAy32.mono (by omega)) (fun j a b => by
                        by_cases e0 : j = i + 12
                        · exact Or.inr ⟨12, (p12), e0, (Or.inr (Or.inr ⟨rfl, hQ12⟩)), by rw [e0]; exact hgy61⟩
                        by_cases e1 : j = i + 8
                        · exact Or.inr ⟨8, (p8), e1, (Or.inr (Or.inl ⟨rfl, hQ8⟩)), by rw [e1]; exact hgy53⟩
                        by_cases e2 : j = i + 9
                        · exact Or.inr ⟨9, _, e2, lsP.l (by decide), by rw [e2]; exact hgy55⟩
                        by_cases e3 : j = i + 10
                        · exact Or.inr ⟨10, _, e3, lsP.l (by decide), by rw [e3]; exact hgy57⟩
                        by_cases e4 : j = i + 11
                        · exact Or.inr ⟨11, _, e4, lsP.l (by decide), by rw [e4]; exact hgy58⟩
                        exact Or.inl (by rw [egy50, va_up_ne _ _ (by omega)]; rw [f3w _ (by omega)]; rw [f3w86 _ (by omega) (by omega) (by omega)]; rw [f3w55 _ (by omega)]; rw [egy41, va_up_ne _ _ (by omega)]; rw [egy38, va_up_ne _ _ (by omega)]; rw [egy35, va_up_ne _ _ (by omega)]; rw [hfvy31 _ (by omega)]; rw [hfvy28 _ (by omega)]; rw [egy25, va_up_ne _ _ (by omega)]))
                    have hkpy86 : (uZ (uZ (uZ (uZ (uZ F 12 (0)) 18 (F 15)) 19 (F 16)) 20 (F 17)) 21 (1)) 13 = F 13 := (fn (fn (fn (fn (fn rfl (by decide)) (by decide)) (by decide)) (by decide)) (by decide))
                    have hkpy87 : (uZ (uZ (uZ (uZ (uZ F 12 (0)) 18 (F 15)) 19 (F 16)) 20 (F 17)) 21 (1)) 14 = F 14 := (fn (fn (fn (fn (fn rfl (by decide)) (by decide)) (by decide)) (by decide)) (by decide))
                    have hkpy88 : (uZ (uZ (uZ (uZ (uZ F 12 (0)) 18 (F 15)) 19 (F 16)) 20 (F 17)) 21 (1)) 17 = F 17 := (fn (fn (fn (fn (fn rfl (by decide)) (by decide)) (by decide)) (by decide)) (by decide))
                    have hkpy89 : (uZ (uZ (uZ (uZ (uZ F 12 (0)) 18 (F 15)) 19 (F 16)) 20 (F 17)) 21 (1)) 18 = F 15 := (fn (fn (fn (uZ_s _ _ _) (by decide)) (by decide)) (by decide))
                    have hkpy90 : (uZ (uZ (uZ (uZ (uZ F 12 (0)) 18 (F 15)) 19 (F 16)) 20 (F 17)) 21 (1)) 19 = F 16 := (fn (fn (uZ_s _ _ _) (by decide)) (by decide))
                    have hkpy91 : (uZ (uZ (uZ (uZ (uZ F 12 (0)) 18 (F 15)) 19 (F 16)) 20 (F 17)) 21 (1)) 20 = F 17 := (fn (uZ_s _ _ _) (by decide))
                    have hkpy92 : (uZ (uZ (uZ (uZ (uZ F 12 (0)) 18 (F 15)) 19 (F 16)) 20 (F 17)) 21 (1)) 21 = 1 := (uZ_s _ _ _)
                    have hkpy93 : (uZ (uZ (uZ (uZ (uZ F 12 (0)) 18 (F 15)) 19 (F 16)) 20 (F 17)) 21 (1)) 23 = F 23 := (fn (fn (fn (fn (fn rfl (by decide)) (by decide)) (by decide)) (by decide)) (by decide))
                    have hkpy94 : (uZ (uZ (uZ (uZ (uZ F 12 (0)) 18 (F 15)) 19 (F 16)) 20 (F 17)) 21 (1)) 24 = F 24 := (fn (fn (fn (fn (fn rfl (by decide)) (by decide)) (by decide)) (by decide)) (by decide))
                    have hkpy95 : (uZ (uZ (uZ (uZ (uZ F 12 (0)) 18 (F 15)) 19 (F 16)) 20 (F 17)) 21 (1)) 25 = F 25 := (fn (fn (fn (fn (fn rfl (by decide)) (by decide)) (by decide)) (by decide)) (by decide))
                    have hkpy96 : (uZ (uZ (uZ (uZ (uZ F 12 (0)) 18 (F 15)) 19 (F 16)) 20 (F 17)) 21 (1)) 26 = F 26 := (fn (fn (fn (fn (fn rfl (by decide)) (by decide)) (by decide)) (by decide)) (by decide))
                    have hkpy97 : (uZ (uZ (uZ (uZ (uZ F 12 (0)) 18 (F 15)) 19 (F 16)) 20 (F 17)) 21 (1)) 27 = F 27 := (fn (fn (fn (fn (fn rfl (by decide)) (by decide)) (by decide)) (by decide)) (by decide))
                    have hkpy98 : (uZ (uZ (uZ (uZ (uZ F 12 (0)) 18 (F 15)) 19 (F 16)) 20 (F 17)) 21 (1)) 28 = F 28 := (fn (fn (fn (fn (fn rfl (by decide)) (by decide)) (by decide)) (by decide)) (by decide))
                    have hkpy99 : (uZ (uZ (uZ (uZ (uZ F 12 (0)) 18 (F 15)) 19 (F 16)) 20 (F 17)) 21 (1)) 29 = F 29 := (fn (fn (fn (fn (fn rfl (by decide)) (by decide)) (by decide)) (by decide)) (by decide))
                    have hkpy100 : (uZ (uZ (uZ (uZ (uZ F 12 (0)) 18 (F 15)) 19 (F 16)) 20 (F 17)) 21 (1)) 15 = F 15 := (fn (fn (fn (fn (fn rfl (by decide)) (by decide)) (by decide)) (by decide)) (by decide))
                    have hkpy101 : (uZ (uZ (uZ (uZ (uZ F 12 (0)) 18 (F 15)) 19 (F 16)) 20 (F 17)) 21 (1)) 16 = F 16 := (fn (fn (fn (fn (fn rfl (by decide)) (by decide)) (by decide)) (by decide)) (by decide))
                    have hr1 : ∀ q, q < 350 → rvy31 (14700 + q) = r (0 + q) := fun q hq => (hovy31 _ (by omega)).trans (hevy28 q (by omega))
                    have hr2 : ∀ q, q < 14000 → rvy31 (15050 + q) = r (700 + q) := fun q hq => (hevy31 q (by omega)).trans (hovy28 _ (by omega))
                    have hr3 : ∀ j, j < 14700 → rvy31 j = r j := fun j hj => (hovy31 _ (by omega)).trans (hovy28 _ (by omega))
                    exact z_vret C hr hlk dX10_image_175 (by decide) (by decide) ⟨rfl, rfl, rfl, ⟨_, _, hMy85, by omega, by omega, fun q hq => by have h9 := hr1 q hq; first | exact h9 | (simp only [Nat.zero_add] at h9; exact h9), hr2, hr3⟩, ⟨_, hgy53, hQ8, fun q hq => by have h9 := he8 q hq; first | exact h9 | (simp only [Nat.zero_add] at h9; exact h9), fun q hq => by have h9 := hA8 q hq; first | exact h9 | (simp only [Nat.zero_add] at h9; exact h9)⟩, ⟨_, hgy55, fun q hq => by have h9 := he9 q hq; first | exact h9 | (simp only [Nat.zero_add] at h9; exact h9), fun q hq => by have h9 := hA9 q hq; first | exact h9 | (simp only [Nat.zero_add] at h9; exact h9)⟩, ⟨_, hgy57, fun q hq => by have h9 := he10 q hq; first | exact h9 | (simp only [Nat.zero_add] at h9; exact h9), fun q hq => by have h9 := hA10 q hq; first | exact h9 | (simp only [Nat.zero_add] at h9; exact h9)⟩, ⟨_, hgy58, fun q hq => by have h9 := he11 q hq; first | exact h9 | (simp only [Nat.zero_add] at h9; exact h9), fun q hq => by have h9 := hA11 q hq; first | exact h9 | (simp only [Nat.zero_add] at h9; exact h9)⟩, ⟨_, hgy61, hQ12, fun q hq => by have h9 := he12 q hq; first | exact h9 | (simp only [Nat.zero_add] at h9; exact h9), fun q hq => by have h9 := hA12 q hq; first | exact h9 | (simp only [Nat.zero_add] at h9; exact h9)⟩, fun j j1 => by rw [egy50, va_up_ne _ _ (by omega)]; rw [f3w _ (by omega)]; rw [f3w86 _ (by omega) (by omega) (by omega)]; rw [f3w55 _ (by omega)]; rw [egy41, va_up_ne _ _ (by omega)]; rw [egy38, va_up_ne _ _ (by omega)]; rw [egy35, va_up_ne _ _ (by omega)]; rw [hfvy31 _ (by omega)]; rw [hfvy28 _ (by omega)]; rw [egy25, va_up_ne _ _ (by omega)]⟩
                  · refine z_aload_n C 0 dX10_image_150 rfl ?_
                    have hgy102 := (f3w55 (i) (ne_o (i := i) (c := 0) (d := 12) rfl)).trans hgy42
                    have hgy103 := (f3w86 (i) (ne_o (i := i) (c := 0) (d := 8) rfl) (ne_o (i := i) (c := 0) (d := 9) rfl) (ne_o (i := i) (c := 0) (d := 10) rfl)).trans hgy102
                    have hgy104 := (f3w (i) (ne_o (i := i) (c := 0) (d := 11) rfl)).trans hgy103
                    refine z_get (v := .ref (ad (i + 11))) C (lt_A0 hN rfl) hay1 hgy104 rfl inA_X10 10 (by decide) q_1469 rfl rfl dX10_image_151 ?_
                    refine z_iconst (z := 3) C dX10_image_154 rfl ?_
                    refine z_iload_n C 1 dX10_image_155 rfl ?_
                    refine z_iadd C dX10_image_156 ?_
                    refine z_aload_n C 0 dX10_image_157 rfl ?_
                    refine z_get (v := .ref (ad (i + 11))) C (lt_A0 hN rfl) hay1 hgy104 rfl inA_X10 10 (by decide) q_1469 rfl rfl dX10_image_158 ?_
                    refine z_iload_n C 1 dX10_image_161 rfl ?_
                    refine z_iald C (lt_A (c := 11) hN rfl) hay12 f211 (nk) (by omega) (by omega) (by decide) dX10_image_162 ?_
                    refine z_iast C (lt_A (c := 11) hN rfl) hay12 f211 (3 + nk) (by omega) (by omega) (by decide) dX10_image_163 (fun gy105 egy106 => ?_)
                    have hgy107 := up_s egy106
                    obtain ⟨ry108, hvy109⟩ : ∃ rZ9 : Nat → Int, rZ9 = uZ p11 (3 + nk) (p11 (nk)) := ⟨_, rfl⟩
                    rw [← hvy109] at hgy107
                    refine z_iinc (z := kk + 1) (lv' := [(1, .int (zI (kk + 1))), (0, .ref (ad i))]) (j := 1) C dX10_image_164 rfl rfl (by decide) rfl ?_
                    refine z_goto (tgt := 145) C dX10_image_167 (by decide) ?_
                    have hfry110 : ∀ j, j ≠ 3 + nk → ry108 j = p11 j := fun j n0 => (congrFun hvy109 _).trans ((uZ_n _ _ n0).trans (rfl))
                    have hwy111 : ry108 (3 + nk) = p11 (nk) := (congrFun hvy109 _).trans (uZ_s _ _ _)
                    have hsrc11 : p11 (nk) = n11 (nk) := fA11 (nk) (by omega)
                    have hd11 : ry108 (3 + nk) = n11 (nk) := (((congrFun hvy109 _).trans (uZ_s _ _ _)) : ry108 (3 + nk) = p11 (nk)).trans hsrc11
                    have hfk11 : ∀ q : Nat, (q : Int) < kk + 1 → ry108 (3 + q) = n11 (0 + q) := by
                      intro q a
                      by_cases e : q = nk
                      · rw [e]; exact (congrArg ry108 (show 3 + nk = 3 + nk by omega)).trans (hd11.trans (congrArg n11 (show nk = 0 + nk by omega)))
                      · rw [hfry110 _ (by omega)]; exact fk11 q (by omega)
                    refine z_lv (lv' := [(0, .ref (ad i)), (1, .int (zI (kk + 1)))]) [1, 0] rfl ?_
                    exact ih_lp3 _ (by omega) (kk + 1) ry108 gy105 rfl hgy107 (fun j j11 => by rw [egy106, va_up_ne _ _ (by omega)]; exact f3w j j11) (fun j a => (hfry110 _ (by omega)).trans (fA11 j a)) hfk11 (by omega)
              have hgy112 := up_n egy25 hc11 (ne_o (i := i) (c := 11) (d := 0) rfl)
              have hgy113 := (hfvy28 (i + 11) (ne_o (i := i) (c := 11) (d := 1) rfl)).trans hgy112
              have hgy114 := (hfvy31 (i + 11) (ne_o (i := i) (c := 11) (d := 1) rfl)).trans hgy113
              have hgy115 := up_n egy35 hgy114 (ne_o (i := i) (c := 11) (d := 0) rfl)
              have hgy116 := up_n egy38 hgy115 (ne_o (i := i) (c := 11) (d := 0) rfl)
              have hgy117 := up_n egy41 hgy116 (ne_o (i := i) (c := 11) (d := 0) rfl)
              have hgy118 := (f3w55 (i + 11) (ne_o (i := i) (c := 11) (d := 12) rfl)).trans hgy117
              have hgy119 := (f3w86 (i + 11) (ne_o (i := i) (c := 11) (d := 8) rfl) (ne_o (i := i) (c := 11) (d := 9) rfl) (ne_o (i := i) (c := 11) (d := 10) rfl)).trans hgy118
              refine z_lv (lv' := [(0, .ref (ad i)), (1, .int (zI (0)))]) [1, 0] rfl ?_
              exact lp3 _ (0) n11 gl86 rfl hgy119 (fun j _ => rfl) (fun j _ => rfl) (fun q a => absurd a (by omega)) (by omega)
            · refine z_aload_n C 0 dX10_image_92 rfl ?_
              have hgy120 := (f3w55 (i) (ne_o (i := i) (c := 0) (d := 12) rfl)).trans hgy42
              have hgy121 := (f3w (i) (ne_o (i := i) (c := 0) (d := 8) rfl) (ne_o (i := i) (c := 0) (d := 9) rfl) (ne_o (i := i) (c := 0) (d := 10) rfl)).trans hgy120
              refine z_get (v := .ref (ad (i + 8))) C (lt_A0 hN rfl) hay1 hgy121 rfl inA_X10 7 (by decide) q_1466 rfl rfl dX10_image_93 ?_
              refine z_bipush (z := 8) C dX10_image_96 (by decide) ?_
              refine z_iload_n C 1 dX10_image_98 rfl ?_
              refine z_iadd C dX10_image_99 ?_
              refine z_aload_n C 0 dX10_image_100 rfl ?_
              refine z_get (v := .ref (ad (i + 8))) C (lt_A0 hN rfl) hay1 hgy121 rfl inA_X10 7 (by decide) q_1466 rfl rfl dX10_image_101 ?_
              refine z_iload_n C 1 dX10_image_104 rfl ?_
              refine z_iald C (lt_A (c := 8) hN rfl) hay9 f28 (nk) (by omega) (by omega) (by decide) dX10_image_105 ?_
              refine z_iast C (lt_A (c := 8) hN rfl) hay9 f28 (8 + nk) (by omega) (by omega) (by decide) dX10_image_106 (fun gy122 egy123 => ?_)
              have hgy124 := up_s egy123
              obtain ⟨ry125, hvy126⟩ : ∃ rZ9 : Nat → Int, rZ9 = uZ p8 (8 + nk) (p8 (nk)) := ⟨_, rfl⟩
              rw [← hvy126] at hgy124
              refine z_aload_n C 0 dX10_image_107 rfl ?_
              have hgy127 := up_n egy123 hgy121 (ne_o (i := i) (c := 0) (d := 8) rfl)
              refine z_get (v := .ref (ad (i + 9))) C (lt_A0 hN rfl) hay1 hgy127 rfl inA_X10 8 (by decide) q_1467 rfl rfl dX10_image_108 ?_
              refine z_bipush (z := 8) C dX10_image_111 (by decide) ?_
              refine z_iload_n C 1 dX10_image_113 rfl ?_
              refine z_iadd C dX10_image_114 ?_
              refine z_aload_n C 0 dX10_image_115 rfl ?_
              refine z_get (v := .ref (ad (i + 9))) C (lt_A0 hN rfl) hay1 hgy127 rfl inA_X10 8 (by decide) q_1467 rfl rfl dX10_image_116 ?_
              refine z_iload_n C 1 dX10_image_119 rfl ?_
              have hgy128 := up_n egy123 f29 (ne_o (i := i) (c := 9) (d := 8) rfl)
              refine z_iald C (lt_A (c := 9) hN rfl) hay10 hgy128 (nk) (by omega) (by omega) (by decide) dX10_image_120 ?_
              refine z_iast C (lt_A (c := 9) hN rfl) hay10 hgy128 (8 + nk) (by omega) (by omega) (by decide) dX10_image_121 (fun gy129 egy130 => ?_)
              have hgy131 := up_s egy130
              obtain ⟨ry132, hvy133⟩ : ∃ rZ9 : Nat → Int, rZ9 = uZ p9 (8 + nk) (p9 (nk)) := ⟨_, rfl⟩
              rw [← hvy133] at hgy131
              refine z_aload_n C 0 dX10_image_122 rfl ?_
              have hgy134 := up_n egy130 hgy127 (ne_o (i := i) (c := 0) (d := 9) rfl)
              refine z_get (v := .ref (ad (i + 10))) C (lt_A0 hN rfl) hay1 hgy134 rfl inA_X10 9 (by decide) q_1468 rfl rfl dX10_image_123 ?_
              refine z_bipush (z := 8) C dX10_image_126 (by decide) ?_
              refine z_iload_n C 1 dX10_image_128 rfl ?_
              refine z_iadd C dX10_image_129 ?_
              refine z_aload_n C 0 dX10_image_130 rfl ?_
              refine z_get (v := .ref (ad (i + 10))) C (lt_A0 hN rfl) hay1 hgy134 rfl inA_X10 9 (by decide) q_1468 rfl rfl dX10_image_131 ?_
              refine z_iload_n C 1 dX10_image_134 rfl ?_
              have hgy135 := up_n egy123 f210 (ne_o (i := i) (c := 10) (d := 8) rfl)
              have hgy136 := up_n egy130 hgy135 (ne_o (i := i) (c := 10) (d := 9) rfl)
              refine z_iald C (lt_A (c := 10) hN rfl) hay11 hgy136 (nk) (by omega) (by omega) (by decide) dX10_image_135 ?_
              refine z_iast C (lt_A (c := 10) hN rfl) hay11 hgy136 (8 + nk) (by omega) (by omega) (by decide) dX10_image_136 (fun gy137 egy138 => ?_)
              have hgy139 := up_s egy138
              obtain ⟨ry140, hvy141⟩ : ∃ rZ9 : Nat → Int, rZ9 = uZ p10 (8 + nk) (p10 (nk)) := ⟨_, rfl⟩
              rw [← hvy141] at hgy139
              refine z_iinc (z := kk + 1) (lv' := [(1, .int (zI (kk + 1))), (0, .ref (ad i))]) (j := 1) C dX10_image_137 rfl rfl (by decide) rfl ?_
              refine z_goto (tgt := 86) C dX10_image_140 (by decide) ?_
              have hfry142 : ∀ j, j ≠ 8 + nk → ry125 j = p8 j := fun j n0 => (congrFun hvy126 _).trans ((uZ_n _ _ n0).trans (rfl))
              have hwy143 : ry125 (8 + nk) = p8 (nk) := (congrFun hvy126 _).trans (uZ_s _ _ _)
              have hsrc8 : p8 (nk) = n8 (nk) := fA8 (nk) (by omega)
              have hd8 : ry125 (8 + nk) = n8 (nk) := (((congrFun hvy126 _).trans (uZ_s _ _ _)) : ry125 (8 + nk) = p8 (nk)).trans hsrc8
              have hfk8 : ∀ q : Nat, (q : Int) < kk + 1 → ry125 (8 + q) = n8 (0 + q) := by
                intro q a
                by_cases e : q = nk
                · rw [e]; exact (congrArg ry125 (show 8 + nk = 8 + nk by omega)).trans (hd8.trans (congrArg n8 (show nk = 0 + nk by omega)))
                · rw [hfry142 _ (by omega)]; exact fk8 q (by omega)
              have hfry144 : ∀ j, j ≠ 8 + nk → ry132 j = p9 j := fun j n0 => (congrFun hvy133 _).trans ((uZ_n _ _ n0).trans (rfl))
              have hwy145 : ry132 (8 + nk) = p9 (nk) := (congrFun hvy133 _).trans (uZ_s _ _ _)
              have hsrc9 : p9 (nk) = n9a (nk) := fA9 (nk) (by omega)
              have hd9 : ry132 (8 + nk) = n9a (nk) := (((congrFun hvy133 _).trans (uZ_s _ _ _)) : ry132 (8 + nk) = p9 (nk)).trans hsrc9
              have hfk9 : ∀ q : Nat, (q : Int) < kk + 1 → ry132 (8 + q) = n9a (0 + q) := by
                intro q a
                by_cases e : q = nk
                · rw [e]; exact (congrArg ry132 (show 8 + nk = 8 + nk by omega)).trans (hd9.trans (congrArg n9a (show nk = 0 + nk by omega)))
                · rw [hfry144 _ (by omega)]; exact fk9 q (by omega)
              have hfry146 : ∀ j, j ≠ 8 + nk → ry140 j = p10 j := fun j n0 => (congrFun hvy141 _).trans ((uZ_n _ _ n0).trans (rfl))
              have hwy147 : ry140 (8 + nk) = p10 (nk) := (congrFun hvy141 _).trans (uZ_s _ _ _)
              have hsrc10 : p10 (nk) = n10 (nk) := fA10 (nk) (by omega)
              have hd10 : ry140 (8 + nk) = n10 (nk) := (((congrFun hvy141 _).trans (uZ_s _ _ _)) : ry140 (8 + nk) = p10 (nk)).trans hsrc10
              have hfk10 : ∀ q : Nat, (q : Int) < kk + 1 → ry140 (8 + q) = n10 (0 + q) := by
                intro q a
                by_cases e : q = nk
                · rw [e]; exact (congrArg ry140 (show 8 + nk = 8 + nk by omega)).trans (hd10.trans (congrArg n10 (show nk = 0 + nk by omega)))
                · rw [hfry146 _ (by omega)]; exact fk10 q (by omega)
              have hgy148 := up_n egy130 hgy124 (ne_o (i := i) (c := 8) (d := 9) rfl)
              have hgy149 := up_n egy138 hgy148 (ne_o (i := i) (c := 8) (d := 10) rfl)
              have hgy150 := up_n egy138 hgy131 (ne_o (i := i) (c := 9) (d := 10) rfl)
              refine z_lv (lv' := [(0, .ref (ad i)), (1, .int (zI (kk + 1)))]) [1, 0] rfl ?_
              exact ih_lp2 _ (by omega) (kk + 1) ry125 ry132 ry140 gy137 rfl hgy149 hgy150 hgy139 (fun j j8 j9 j10 => by rw [egy138, va_up_ne _ _ (by omega)]; rw [egy130, va_up_ne _ _ (by omega)]; rw [egy123, va_up_ne _ _ (by omega)]; exact f3w j j8 j9 j10) (fun j a => (hfry142 _ (by omega)).trans (fA8 j a)) hfk8 (fun j a => (hfry144 _ (by omega)).trans (fA9 j a)) hfk9 (fun j a => (hfry146 _ (by omega)).trans (fA10 j a)) hfk10 (by omega)
        have hgy151 := up_n egy25 hc8 (ne_o (i := i) (c := 8) (d := 0) rfl)
        have hgy152 := (hfvy28 (i + 8) (ne_o (i := i) (c := 8) (d := 1) rfl)).trans hgy151
        have hgy153 := (hfvy31 (i + 8) (ne_o (i := i) (c := 8) (d := 1) rfl)).trans hgy152
        have hgy154 := up_n egy35 hgy153 (ne_o (i := i) (c := 8) (d := 0) rfl)
        have hgy155 := up_n egy38 hgy154 (ne_o (i := i) (c := 8) (d := 0) rfl)
        have hgy156 := up_n egy41 hgy155 (ne_o (i := i) (c := 8) (d := 0) rfl)
        have hgy157 := (f3w55 (i + 8) (ne_o (i := i) (c := 8) (d := 12) rfl)).trans hgy156
        have hgy158 := up_n egy25 hc9 (ne_o (i := i) (c := 9) (d := 0) rfl)
        have hgy159 := (hfvy28 (i + 9) (ne_o (i := i) (c := 9) (d := 1) rfl)).trans hgy158
        have hgy160 := (hfvy31 (i + 9) (ne_o (i := i) (c := 9) (d := 1) rfl)).trans hgy159
        have hgy161 := up_n egy35 hgy160 (ne_o (i := i) (c := 9) (d := 0) rfl)
        have hgy162 := up_n egy38 hgy161 (ne_o (i := i) (c := 9) (d := 0) rfl)
        have hgy163 := up_n egy41 hgy162 (ne_o (i := i) (c := 9) (d := 0) rfl)
        have hgy164 := (f3w55 (i + 9) (ne_o (i := i) (c := 9) (d := 12) rfl)).trans hgy163
        have hgy165 := up_n egy25 hc10 (ne_o (i := i) (c := 10) (d := 0) rfl)
        have hgy166 := (hfvy28 (i + 10) (ne_o (i := i) (c := 10) (d := 1) rfl)).trans hgy165
        have hgy167 := (hfvy31 (i + 10) (ne_o (i := i) (c := 10) (d := 1) rfl)).trans hgy166
        have hgy168 := up_n egy35 hgy167 (ne_o (i := i) (c := 10) (d := 0) rfl)
        have hgy169 := up_n egy38 hgy168 (ne_o (i := i) (c := 10) (d := 0) rfl)
        have hgy170 := up_n egy41 hgy169 (ne_o (i := i) (c := 10) (d := 0) rfl)
        have hgy171 := (f3w55 (i + 10) (ne_o (i := i) (c := 10) (d := 12) rfl)).trans hgy170
        refine z_lv (lv' := [(0, .ref (ad i)), (1, .int (zI (0)))]) [1, 0] rfl ?_
        exact lp2 _ (0) n8 n9a n10 gl55 rfl hgy157 hgy164 hgy171 (fun j _ _ _ => rfl) (fun j _ => rfl) (fun q a => absurd a (by omega)) (fun j _ => rfl) (fun q a => absurd a (by omega)) (fun j _ => rfl) (fun q a => absurd a (by omega)) (by omega)
      · refine z_aload_n C 0 dX10_image_62 rfl ?_
        have hgy172 := (f3w (i) (ne_o (i := i) (c := 0) (d := 12) rfl)).trans hgy42
        refine z_get (v := .ref (ad (i + 12))) C (lt_A0 hN rfl) hay1 hgy172 rfl inA_X10 11 (by decide) q_1470 rfl rfl dX10_image_63 ?_
        refine z_sipush (z := 540) C dX10_image_66 (by decide) ?_
        refine z_iload_n C 1 dX10_image_69 rfl ?_
        refine z_iadd C dX10_image_70 ?_
        refine z_aload_n C 0 dX10_image_71 rfl ?_
        refine z_get (v := .ref (ad (i + 12))) C (lt_A0 hN rfl) hay1 hgy172 rfl inA_X10 11 (by decide) q_1470 rfl rfl dX10_image_72 ?_
        refine z_iload_n C 1 dX10_image_75 rfl ?_
        refine z_iald C (lt_A (c := 12) hN rfl) hay13 f212 (nk) (by omega) (by omega) (by decide) dX10_image_76 ?_
        refine z_iast C (lt_A (c := 12) hN rfl) hay13 f212 (540 + nk) (by omega) (by omega) (by decide) dX10_image_77 (fun gy173 egy174 => ?_)
        have hgy175 := up_s egy174
        obtain ⟨ry176, hvy177⟩ : ∃ rZ9 : Nat → Int, rZ9 = uZ p12 (540 + nk) (p12 (nk)) := ⟨_, rfl⟩
        rw [← hvy177] at hgy175
        refine z_iinc (z := kk + 1) (lv' := [(1, .int (zI (kk + 1))), (0, .ref (ad i))]) (j := 1) C dX10_image_78 rfl rfl (by decide) rfl ?_
        refine z_goto (tgt := 55) C dX10_image_81 (by decide) ?_
        have hfry178 : ∀ j, j ≠ 540 + nk → ry176 j = p12 j := fun j n0 => (congrFun hvy177 _).trans ((uZ_n _ _ n0).trans (rfl))
        have hwy179 : ry176 (540 + nk) = p12 (nk) := (congrFun hvy177 _).trans (uZ_s _ _ _)
        have hsrc12 : p12 (nk) = n12a (nk) := fA12 (nk) (by omega)
        have hd12 : ry176 (540 + nk) = n12a (nk) := (((congrFun hvy177 _).trans (uZ_s _ _ _)) : ry176 (540 + nk) = p12 (nk)).trans hsrc12
        have hfk12 : ∀ q : Nat, (q : Int) < kk + 1 → ry176 (540 + q) = n12a (0 + q) := by
          intro q a
          by_cases e : q = nk
          · rw [e]; exact (congrArg ry176 (show 540 + nk = 540 + nk by omega)).trans (hd12.trans (congrArg n12a (show nk = 0 + nk by omega)))
          · rw [hfry178 _ (by omega)]; exact fk12 q (by omega)
        refine z_lv (lv' := [(0, .ref (ad i)), (1, .int (zI (kk + 1)))]) [1, 0] rfl ?_
        exact ih_lp1 _ (by omega) (kk + 1) ry176 gy173 rfl hgy175 (fun j j12 => by rw [egy174, va_up_ne _ _ (by omega)]; exact f3w j j12) (fun j a => (hfry178 _ (by omega)).trans (fA12 j a)) hfk12 (by omega)
  have hgy180 := up_n egy25 hc12 (ne_o (i := i) (c := 12) (d := 0) rfl)
  have hgy181 := (hfvy28 (i + 12) (ne_o (i := i) (c := 12) (d := 1) rfl)).trans hgy180
  have hgy182 := (hfvy31 (i + 12) (ne_o (i := i) (c := 12) (d := 1) rfl)).trans hgy181
  have hgy183 := up_n egy35 hgy182 (ne_o (i := i) (c := 12) (d := 0) rfl)
  have hgy184 := up_n egy38 hgy183 (ne_o (i := i) (c := 12) (d := 0) rfl)
  have hgy185 := up_n egy41 hgy184 (ne_o (i := i) (c := 12) (d := 0) rfl)
  refine z_lv (lv' := [(0, .ref (ad i)), (1, .int (zI (0)))]) [1, 0] rfl ?_
  exact lp1 _ (0) n12a gy40 rfl hgy185 (fun j _ => rfl) (fun j _ => rfl) (fun q a => absurd a (by omega)) (by omega)

set_option maxRecDepth 100000 in
set_option maxHeartbeats 4000000 in
theorem c_vRestore (l : Launch) (D : va_G) (A : Nat → Prop) (cs : Nat → ClassId) (tt : Nat) (N : Nat) (ad : Nat → Nat) (g : Nat → va_E) (i : Nat) (hN : i + 30 ≤ N) (x : Int) (hx : 0 ≤ x ∧ x ≤ 512) (F r : Nat → Int) {st op ai fa mu tb tp : Nat → Int} (hM : okMr cs ad g i x F r st op ai fa mu tb tp) (n8 : Nat → Int) (hc8 : g (i + 8) = iA cs 16 n8) (n9a : Nat → Int) (hc9 : g (i + 9) = iA cs 16 n9a) (n10 : Nat → Int) (hc10 : g (i + 10) = iA cs 16 n10) (n11 : Nat → Int) (hc11 : g (i + 11) = iA cs 6 n11) (n12a : Nat → Int) (hc12 : g (i + 12) = iA cs 1080 n12a) (hP12 : okPt n12a) (hP8 : ∀ k, k < 16 → 0 ≤ n8 k ∧ n8 k ≤ 3) : zM l yX10_restore cX10_restore 2 (some .boolean) ({ frames := 2, cells := 0, slots := 0, locals := 120 } : Room) D A cs tt N ad g [.ref (ad i)] (rI0 N ad fun q g' => (F 21 = 0 ∧ q = 0 ∧ (∃ F' r' : Nat → Int, okMr cs ad g' i (x + 1) F' r' st op ai fa mu tb tp ∧ (F' 13 = F 13 ∧ F' 14 = F 14 ∧ F' 17 = F 17 ∧ F' 18 = F 18 ∧ F' 19 = F 19 ∧ F' 20 = F 20 ∧ F' 21 = F 21 ∧ F' 23 = F 23 ∧ F' 24 = F 24 ∧ F' 25 = F 25 ∧ F' 26 = F 26 ∧ F' 27 = F 27 ∧ F' 28 = F 28 ∧ F' 29 = F 29) ∧ (F' 15 = F 15 ∧ F' 16 = F 16) ∧ ∀ j, j < 350 ∨ 700 ≤ j → r' j = r j) ∧ (∀ j, i + 8 ≤ j → j ≤ i + 12 → g' j = g j) ∧ ∀ j, j < i ∨ i + 30 ≤ j → g' j = g j) ∨ (F 21 ≠ 0 ∧ q = 1 ∧ (∃ F' r' : Nat → Int, okMr cs ad g' i (x + 1) F' r' st op ai fa mu tb tp ∧ (F' 13 = F 13 ∧ F' 14 = F 14 ∧ F' 17 = F 20 ∧ F' 18 = F 18 ∧ F' 19 = F 19 ∧ F' 20 = F 20 ∧ F' 21 = F 21 ∧ F' 23 = F 23 ∧ F' 24 = F 24 ∧ F' 25 = F 25 ∧ F' 26 = F 26 ∧ F' 27 = F 27 ∧ F' 28 = F 28 ∧ F' 29 = F 29) ∧ (F' 15 = F 18 ∧ F' 16 = F 19) ∧ (∀ q, q < 350 → r' q = r (14700 + q)) ∧ (∀ q, q < 14000 → r' (700 + q) = r (15050 + q)) ∧ ∀ j, 14700 ≤ j → r' j = r j) ∧ (∃ t' : Nat → Int, g' (i + 8) = iA cs 16 t' ∧ (∀ k, k < 16 → 0 ≤ t' k ∧ t' k ≤ 3) ∧ (∀ q, q < 8 → t' q = n8 (8 + q)) ∧ ∀ q, q < 8 → t' (8 + q) = n8 (8 + q)) ∧ (∃ t' : Nat → Int, g' (i + 9) = iA cs 16 t' ∧ (∀ q, q < 8 → t' q = n9a (8 + q)) ∧ ∀ q, q < 8 → t' (8 + q) = n9a (8 + q)) ∧ (∃ t' : Nat → Int, g' (i + 10) = iA cs 16 t' ∧ (∀ q, q < 8 → t' q = n10 (8 + q)) ∧ ∀ q, q < 8 → t' (8 + q) = n10 (8 + q)) ∧ (∃ t' : Nat → Int, g' (i + 11) = iA cs 6 t' ∧ (∀ q, q < 3 → t' q = n11 (3 + q)) ∧ ∀ q, q < 3 → t' (3 + q) = n11 (3 + q)) ∧ (∃ t' : Nat → Int, g' (i + 12) = iA cs 1080 t' ∧ okPt t' ∧ (∀ q, q < 540 → t' q = n12a (540 + q)) ∧ ∀ q, q < 540 → t' (540 + q) = n12a (540 + q)) ∧ ∀ j, j < i ∨ i + 30 ≤ j → g' j = g j)) := by
  obtain ⟨hg, ⟨⟨e13, e14, e25, e27, e29⟩, k15, k16, k17, k18, k19, k20, k23, k21⟩, hRD, hTx, hA, ns, nh, nd, rf, pi, te, ki, li, ok1, ok2, fo, dd, dps, ⟨ha1, ha2, ha3, ha4, ha5, ha6, ha7, ha8, ha9, ha10, ha11, ha12, ha13, ha14, ha15, ha24, ha25, ha26, ha27, ha28, ha29⟩, hEv, hPt, hns, htp⟩ := id hM
  obtain ⟨-, hop, hai, hfa, hT, hT1⟩ := id hEv
  have hay1 : zAt ad (i) (ad i) := rfl
  have hay2 : zAt ad (i + 1) (ad (i + 1)) := rfl
  have hay3 : zAt ad (i + 2) (ad (i + 2)) := rfl
  have hay4 : zAt ad (i + 3) (ad (i + 3)) := rfl
  have hay5 : zAt ad (i + 4) (ad (i + 4)) := rfl
  have hay6 : zAt ad (i + 5) (ad (i + 5)) := rfl
  have hay7 : zAt ad (i + 6) (ad (i + 6)) := rfl
  have hay8 : zAt ad (i + 7) (ad (i + 7)) := rfl
  have hay9 : zAt ad (i + 8) (ad (i + 8)) := rfl
  have hay10 : zAt ad (i + 9) (ad (i + 9)) := rfl
  have hay11 : zAt ad (i + 10) (ad (i + 10)) := rfl
  have hay12 : zAt ad (i + 11) (ad (i + 11)) := rfl
  have hay13 : zAt ad (i + 12) (ad (i + 12)) := rfl
  have hay14 : zAt ad (i + 13) (ad (i + 13)) := rfl
  have hay15 : zAt ad (i + 14) (ad (i + 14)) := rfl
  have hay16 : zAt ad (i + 15) (ad (i + 15)) := rfl
  have hay17 : zAt ad (i + 24) (ad (i + 24)) := rfl
  have hay18 : zAt ad (i + 25) (ad (i + 25)) := rfl
  have hay19 : zAt ad (i + 26) (ad (i + 26)) := rfl
  have hay20 : zAt ad (i + 27) (ad (i + 27)) := rfl
  have hay21 : zAt ad (i + 28) (ad (i + 28)) := rfl
  have hay22 : zAt ad (i + 29) (ad (i + 29)) := rfl
  obtain ⟨⟨hsyy23, htyy23, hnyy23, hpyy23⟩, hlyy23⟩ := okA.at0 hA
  simp only [Nat.zero_add] at hsyy23 hnyy23 hpyy23
  have hmn : ∀ s, s < 4 → 0 ≤ r (6 + 86 * s) ∧ r (6 + 86 * s) ≤ 12 := fun s hs => (hsyy23 s hs).1
  have h5 : 0 ≤ r 5 ∧ r 5 ≤ 6 := hpyy23
  refine z_of (by decide) (Nat.le_of_ble_eq_true rfl) ?_
  intro pY eY sY mY below meth cY C hr hlk hnm
  refine z_lv (lv' := [(0, .ref (ad i))]) [0] rfl ?_
  refine z_aload_n C 0 dX10_restore_0 rfl ?_
  refine z_iconst (z := 0) C dX10_restore_1 rfl ?_
  refine z_put (fs' := mF ad (i) (uZ F 12 (0))) C (lt_A0 hN rfl) hay1 hg tyX10 tyX10_ok nmX10 rfl inA_X10 12 (by decide) q_1471 rfl rfl rfl rfl (Nat.le_of_ble_eq_true rfl) rfl dX10_restore_2 (fun gy24 egy25 => ?_)
  have hgy26 := up_s egy25
  refine z_aload_n C 0 dX10_restore_5 rfl ?_
  refine z_get (v := .int (zI (F 21))) C (lt_A0 hN rfl) hay1 hgy26 rfl inA_X10 21 (by decide) q_1480 rfl (fv (F := (uZ F 12 (0))) (f := 21) (fn rfl (by decide))) dX10_restore_6 ?_
  refine z_if_ne (tgt := 14) C dX10_restore_9 (by decide) (by omega) (fun hby27 => ?_) (fun hby27 => ?_)
  · refine z_aload_n C 0 dX10_restore_14 rfl ?_
    refine z_sipush (z := 14700) C dX10_restore_15 (by decide) ?_
    refine z_iconst (z := 0) C dX10_restore_18 rfl ?_
    refine z_sipush (z := 350) C dX10_restore_19 (by decide) ?_
    have hgy28 := up_n egy25 ha1 (ne_o (i := i) (c := 1) (d := 0) rfl)
    refine z_cV (As := [.int (zI (14700)), .int (zI (0)), .int (zI (350))]) (rest := []) (ci := 12) C (c_X10_copies l D A cs tt N ad _ i hN _ hgy26 _ hgy28 14700 0 350 (by omega) (by omega) (by omega)) (lt_A0 hN rfl) hay1 hgy26 rfl rfl mv_yX10_copies q_1877 hd_yX10_copies (by decide) (Nat.le_of_ble_eq_true rfl) (by decide) dX10_restore_22 rfl (kV0 fun gvy29 hvy29 => ?_)
    obtain ⟨⟨rvy29, hcvy29, hevy29, hovy29⟩, hfvy29⟩ := hvy29
    have hAy30 : okA rvy29 (x) := okA.copy (a := 42) (b := 0) (m := 1) hA (by omega) (by omega) (by omega) (fun k hk => hevy29 k (by omega)) (fun j hj => hovy29 j (by omega))
    refine z_aload_n C 0 dX10_restore_25 rfl ?_
    refine z_sipush (z := 15050) C dX10_restore_26 (by decide) ?_
    refine z_sipush (z := 700) C dX10_restore_29 (by decide) ?_
    refine z_sipush (z := 14000) C dX10_restore_32 (by decide) ?_
    have hgy31 := (hfvy29 (i) (ne_o (i := i) (c := 0) (d := 1) rfl)).trans hgy26
    refine z_cV (As := [.int (zI (15050)), .int (zI (700)), .int (zI (14000))]) (rest := []) (ci := 12) C (c_X10_copies l D A cs tt N ad _ i hN _ hgy31 _ hcvy29 15050 700 14000 (by omega) (by omega) (by omega)) (lt_A0 hN rfl) hay1 hgy31 rfl rfl mv_yX10_copies q_1877 hd_yX10_copies (by decide) (Nat.le_of_ble_eq_true rfl) (by decide) dX10_restore_35 rfl (kV0 fun gvy32 hvy32 => ?_)
    obtain ⟨⟨rvy32, hcvy32, hevy32, hovy32⟩, hfvy32⟩ := hvy32
    have hAy33 : okA rvy32 (x) := okA.copy (a := 43) (b := 2) (m := 40) hAy30 (by omega) (by omega) (by omega) (fun k hk => hevy32 k (by omega)) (fun j hj => hovy32 j (by omega))
    refine z_aload_n C 0 dX10_restore_38 rfl ?_
    refine z_aload_n C 0 dX10_restore_39 rfl ?_
    have hgy34 := (hfvy32 (i) (ne_o (i := i) (c := 0) (d := 1) rfl)).trans hgy31
    refine z_get (v := .int (zI (F 18))) C (lt_A0 hN rfl) hay1 hgy34 rfl inA_X10 18 (by decide) q_1477 rfl (fv (F := (uZ F 12 (0))) (f := 18) (fn rfl (by decide))) dX10_restore_40 ?_
    refine z_put (fs' := mF ad (i) (uZ (uZ F 12 (0)) 15 (F 18))) C (lt_A0 hN rfl) hay1 hgy34 tyX10 tyX10_ok nmX10 rfl inA_X10 15 (by decide) q_1474 rfl rfl rfl rfl (Nat.le_of_ble_eq_true rfl) rfl dX10_restore_43 (fun gy35 egy36 => ?_)
    have hgy37 := up_s egy36
    refine z_aload_n C 0 dX10_restore_46 rfl ?_
    refine z_aload_n C 0 dX10_restore_47 rfl ?_
    refine z_get (v := .int (zI (F 19))) C (lt_A0 hN rfl) hay1 hgy37 rfl inA_X10 19 (by decide) q_1478 rfl (fv (F := (uZ (uZ F 12 (0)) 15 (F 18))) (f := 19) (fn (fn rfl (by decide)) (by decide))) dX10_restore_48 ?_
    refine z_put (fs' := mF ad (i) (uZ (uZ (uZ F 12 (0)) 15 (F 18)) 16 (F 19))) C (lt_A0 hN rfl) hay1 hgy37 tyX10 tyX10_ok nmX10 rfl inA_X10 16 (by decide) q_1475 rfl rfl rfl rfl (Nat.le_of_ble_eq_true rfl) rfl dX10_restore_51 (fun gy38 egy39 => ?_)
    have hgy40 := up_s egy39
    refine z_aload_n C 0 dX10_restore_54 rfl ?_
    refine z_aload_n C 0 dX10_restore_55 rfl ?_
    refine z_get (v := .int (zI (F 20))) C (lt_A0 hN rfl) hay1 hgy40 rfl inA_X10 20 (by decide) q_1479 rfl (fv (F := (uZ (uZ (uZ F 12 (0)) 15 (F 18)) 16 (F 19))) (f := 20) (fn (fn (fn rfl (by decide)) (by decide)) (by decide))) dX10_restore_56 ?_
    refine z_put (fs' := mF ad (i) (uZ (uZ (uZ (uZ F 12 (0)) 15 (F 18)) 16 (F 19)) 17 (F 20))) C (lt_A0 hN rfl) hay1 hgy40 tyX10 tyX10_ok nmX10 rfl inA_X10 17 (by decide) q_1476 rfl rfl rfl rfl (Nat.le_of_ble_eq_true rfl) rfl dX10_restore_59 (fun gy41 egy42 => ?_)
    have hgy43 := up_s egy42
    refine z_iconst (z := 0) C dX10_restore_62 rfl ?_
    refine z_istore_n (lv' := [(1, .int (zI (0))), (0, .ref (ad i))]) C dX10_restore_63 rfl (by decide) rfl ?_
    have lp1 : ∀ (n9 : Nat) (kk : Int) (p12 : Nat → Int) (g1 : Nat → va_E), (541 - kk).toNat = n9 → (g1 (i + 12) = iA cs 1080 p12) → (∀ j, j ≠ i + 12 → g1 j = gy41 j) → (∀ j, j < 0 ∨ 0 + 540 ≤ j → p12 j = n12a j) → (∀ q : Nat, (q : Int) < kk → p12 (0 + q) = n12a (540 + q)) → (0 ≤ kk ∧ kk ≤ 540) → zV pY l eY ({ frames := 2, cells := 0, slots := 0, locals := 120 } : Room) sY mY ([.ref (ad i)] : List Value).toArray below meth cY (MQ below (zPost D A (rI0 N ad fun q g' => (F 21 = 0 ∧ q = 0 ∧ (∃ F' r' : Nat → Int, okMr cs ad g' i (x + 1) F' r' st op ai fa mu tb tp ∧ (F' 13 = F 13 ∧ F' 14 = F 14 ∧ F' 17 = F 17 ∧ F' 18 = F 18 ∧ F' 19 = F 19 ∧ F' 20 = F 20 ∧ F' 21 = F 21 ∧ F' 23 = F 23 ∧ F' 24 = F 24 ∧ F' 25 = F 25 ∧ F' 26 = F 26 ∧ F' 27 = F 27 ∧ F' 28 = F 28 ∧ F' 29 = F 29) ∧ (F' 15 = F 15 ∧ F' 16 = F 16) ∧ ∀ j, j < 350 ∨ 700 ≤ j → r' j = r j) ∧ (∀ j, i + 8 ≤ j → j ≤ i + 12 → g' j = g j) ∧ ∀ j, j < i ∨ i + 30 ≤ j → g' j = g j) ∨ (F 21 ≠ 0 ∧ q = 1 ∧ (∃ F' r' : Nat → Int, okMr cs ad g' i (x + 1) F' r' st op ai fa mu tb tp ∧ (F' 13 = F 13 ∧ F' 14 = F 14 ∧ F' 17 = F 20 ∧ F' 18 = F 18 ∧ F' 19 = F 19 ∧ F' 20 = F 20 ∧ F' 21 = F 21 ∧ F' 23 = F 23 ∧ F' 24 = F 24 ∧ F' 25 = F 25 ∧ F' 26 = F 26 ∧ F' 27 = F 27 ∧ F' 28 = F 28 ∧ F' 29 = F 29) ∧ (F' 15 = F 18 ∧ F' 16 = F 19) ∧ (∀ q, q < 350 → r' q = r (14700 + q)) ∧ (∀ q, q < 14000 → r' (700 + q) = r (15050 + q)) ∧ ∀ j, 14700 ≤ j → r' j = r j) ∧ (∃ t' : Nat → Int, g' (i + 8) = iA cs 16 t' ∧ (∀ k, k < 16 → 0 ≤ t' k ∧ t' k ≤ 3) ∧ (∀ q, q < 8 → t' q = n8 (8 + q)) ∧ ∀ q, q < 8 → t' (8 + q) = n8 (8 + q)) ∧ (∃ t' : Nat → Int, g' (i + 9) = iA cs 16 t' ∧ (∀ q, q < 8 → t' q = n9a (8 + q)) ∧ ∀ q, q < 8 → t' (8 + q) = n9a (8 + q)) ∧ (∃ t' : Nat → Int, g' (i + 10) = iA cs 16 t' ∧ (∀ q, q < 8 → t' q = n10 (8 + q)) ∧ ∀ q, q < 8 → t' (8 + q) = n10 (8 + q)) ∧ (∃ t' : Nat → Int, g' (i + 11) = iA cs 6 t' ∧ (∀ q, q < 3 → t' q = n11 (3 + q)) ∧ ∀ q, q < 3 → t' (3 + q) = n11 (3 + q)) ∧ (∃ t' : Nat → Int, g' (i + 12) = iA cs 1080 t' ∧ okPt t' ∧ (∀ q, q < 540 → t' q = n12a (540 + q)) ∧ ∀ q, q < 540 → t' (540 + q) = n12a (540 + q)) ∧ ∀ j, j < i ∨ i + 30 ≤ j → g' j = g j))) ([.ref (ad i)] : List Value).toArray sY ({ frames := 2, cells := 0, slots := 0, locals := 120 } : Room).cells ({ frames := 2, cells := 0, slots := 0, locals := 120 } : Room).slots A) D A 2 (N) ad g1 (0) (0) 64 [(0, .ref (ad i)), (1, .int (zI (kk)))] [] := by
      intro n9
      induction n9 using Nat.strongRecOn with
      | ind n9 ih_lp1 =>
        intro kk p12 g1 hm9 f212 f3w fA12 fk12 hvk
        obtain ⟨nk, hnk⟩ : ∃ n9 : Nat, kk = (n9 : Int) := ⟨kk.toNat, by omega⟩
        refine z_iload_n C 1 dX10_restore_64 rfl ?_
        refine z_sipush (z := 540) C dX10_restore_65 (by decide) ?_
        refine z_icmp_ge (tgt := 93) C dX10_restore_68 (by decide) (by omega) (by omega) (fun hby44 => ?_) (fun hby44 => ?_)
        · refine z_iconst (z := 0) C dX10_restore_93 rfl ?_
          refine z_istore_n (lv' := [(1, .int (zI (0))), (0, .ref (ad i))]) C dX10_restore_94 rfl (by decide) rfl ?_
          have hkk : kk = 540 := by omega
          have he12 : ∀ q, q < 540 → p12 (0 + q) = n12a (540 + q) := fun q hq => fk12 q (by omega)
          have hA12 : ∀ q, q < 540 → p12 (540 + q) = n12a (540 + q) := fun q hq => fA12 (540 + q) (by omega)
          clear fk12
          obtain ⟨gl64, hgl64⟩ : ∃ y9 : Nat → va_E, y9 = g1 := ⟨_, rfl⟩
          rw [← hgl64] at f3w f212
          rw [← hgl64]
          have f3w64 := f3w
          have hQ12 : okPt p12 := okPt.cpy (a := 6) (b := 0) hP12 (by omega) (fun m hm => he12 m hm) (fun m hm => hA12 m hm)
          have lp2 : ∀ (n9 : Nat) (kk : Int) (p8 : Nat → Int) (p9 : Nat → Int) (p10 : Nat → Int) (g1 : Nat → va_E), (9 - kk).toNat = n9 → (g1 (i + 8) = iA cs 16 p8) → (g1 (i + 9) = iA cs 16 p9) → (g1 (i + 10) = iA cs 16 p10) → (∀ j, j ≠ i + 8 → j ≠ i + 9 → j ≠ i + 10 → g1 j = gl64 j) → (∀ j, j < 0 ∨ 0 + 8 ≤ j → p8 j = n8 j) → (∀ q : Nat, (q : Int) < kk → p8 (0 + q) = n8 (8 + q)) → (∀ j, j < 0 ∨ 0 + 8 ≤ j → p9 j = n9a j) → (∀ q : Nat, (q : Int) < kk → p9 (0 + q) = n9a (8 + q)) → (∀ j, j < 0 ∨ 0 + 8 ≤ j → p10 j = n10 j) → (∀ q : Nat, (q : Int) < kk → p10 (0 + q) = n10 (8 + q)) → (0 ≤ kk ∧ kk ≤ 8) → zV pY l eY ({ frames := 2, cells := 0, slots := 0, locals := 120 } : Room) sY mY ([.ref (ad i)] : List Value).toArray below meth cY (MQ below (zPost D A (rI0 N ad fun q g' => (F 21 = 0 ∧ q = 0 ∧ (∃ F' r' : Nat → Int, okMr cs ad g' i (x + 1) F' r' st op ai fa mu tb tp ∧ (F' 13 = F 13 ∧ F' 14 = F 14 ∧ F' 17 = F 17 ∧ F' 18 = F 18 ∧ F' 19 = F 19 ∧ F' 20 = F 20 ∧ F' 21 = F 21 ∧ F' 23 = F 23 ∧ F' 24 = F 24 ∧ F' 25 = F 25 ∧ F' 26 = F 26 ∧ F' 27 = F 27 ∧ F' 28 = F 28 ∧ F' 29 = F 29) ∧ (F' 15 = F 15 ∧ F' 16 = F 16) ∧ ∀ j, j < 350 ∨ 700 ≤ j → r' j = r j) ∧ (∀ j, i + 8 ≤ j → j ≤ i + 12 → g' j = g j) ∧ ∀ j, j < i ∨ i + 30 ≤ j → g' j = g j) ∨ (F 21 ≠ 0 ∧ q = 1 ∧ (∃ F' r' : Nat → Int, okMr cs ad g' i (x + 1) F' r' st op ai fa mu tb tp ∧ (F' 13 = F 13 ∧ F' 14 = F 14 ∧ F' 17 = F 20 ∧ F' 18 = F 18 ∧ F' 19 = F 19 ∧ F' 20 = F 20 ∧ F' 21 = F 21 ∧ F' 23 = F 23 ∧ F' 24 = F 24 ∧ F' 25 = F 25 ∧ F' 26 = F 26 ∧ F' 27 = F 27 ∧ F' 28 = F 28 ∧ F' 29 = F 29) ∧ (F' 15 = F 18 ∧ F' 16 = F 19) ∧ (∀ q, q < 350 → r' q = r (14700 + q)) ∧ (∀ q, q < 14000 → r' (700 + q) = r (15050 + q)) ∧ ∀ j, 14700 ≤ j → r' j = r j) ∧ (∃ t' : Nat → Int, g' (i + 8) = iA cs 16 t' ∧ (∀ k, k < 16 → 0 ≤ t' k ∧ t' k ≤ 3) ∧ (∀ q, q < 8 → t' q = n8 (8 + q)) ∧ ∀ q, q < 8 → t' (8 + q) = n8 (8 + q)) ∧ (∃ t' : Nat → Int, g' (i + 9) = iA cs 16 t' ∧ (∀ q, q < 8 → t' q = n9a (8 + q)) ∧ ∀ q, q < 8 → t' (8 + q) = n9a (8 + q)) ∧ (∃ t' : Nat → Int, g' (i + 10) = iA cs 16 t' ∧ (∀ q, q < 8 → t' q = n10 (8 + q)) ∧ ∀ q, q < 8 → t' (8 + q) = n10 (8 + q)) ∧ (∃ t' : Nat → Int, g' (i + 11) = iA cs 6 t' ∧ (∀ q, q < 3 → t' q = n11 (3 + q)) ∧ ∀ q, q < 3 → t' (3 + q) = n11 (3 + q)) ∧ (∃ t' : Nat → Int, g' (i + 12) = iA cs 1080 t' ∧ okPt t' ∧ (∀ q, q < 540 → t' q = n12a (540 + q)) ∧ ∀ q, q < 540 → t' (540 + q) = n12a (540 + q)) ∧ ∀ j, j < i ∨ i + 30 ≤ j → g' j = g j))) ([.ref (ad i)] : List Value).toArray sY ({ frames := 2, cells := 0, slots := 0, locals := 120 } : Room).cells ({ frames := 2, cells := 0, slots := 0, locals := 120 } : Room).slots A) D A 2 (N) ad g1 (0) (0) 95 [(0, .ref (ad i)), (1, .int (zI (kk)))] [] := by
            intro n9
            induction n9 using Nat.strongRecOn with
            | ind n9 ih_lp2 =>
              intro kk p8 p9 p10 g1 hm9 f28 f29 f210 f3w fA8 fk8 fA9 fk9 fA10 fk10 hvk
              obtain ⟨nk, hnk⟩ : ∃ n9 : Nat, kk = (n9 : Int) := ⟨kk.toNat, by omega⟩
              refine z_iload_n C 1 dX10_restore_95 rfl ?_
              refine z_bipush (z := 8) C dX10_restore_96 (by decide) ?_
              refine z_icmp_ge (tgt := 152) C dX10_restore_98 (by decide) (by omega) (by omega) (fun hby45 => ?_) (fun hby45 => ?_)
              · refine z_iconst (z := 0) C dX10_restore_152 rfl ?_
                refine z_istore_n (lv' := [(1, .int (zI (0))), (0, .ref (ad i))]) C dX10_restore_153 rfl (by decide) rfl ?_
                have hkk : kk = 8 := by omega
                have he8 : ∀ q, q < 8 → p8 (0 + q) = n8 (8 + q) := fun q hq => fk8 q (by omega)
                have hA8 : ∀ q, q < 8 → p8 (8 + q) = n8 (8 + q) := fun q hq => fA8 (8 + q) (by omega)
                have he9 : ∀ q, q < 8 → p9 (0 + q) = n9a (8 + q) := fun q hq => fk9 q (by omega)
                have hA9 : ∀ q, q < 8 → p9 (8 + q) = n9a (8 + q) := fun q hq => fA9 (8 + q) (by omega)
                have he10 : ∀ q, q < 8 → p10 (0 + q) = n10 (8 + q) := fun q hq => fk10 q (by omega)
                have hA10 : ∀ q, q < 8 → p10 (8 + q) = n10 (8 + q) := fun q hq => fA10 (8 + q) (by omega)
                clear fk8 fk9 fk10
                obtain ⟨gl95, hgl95⟩ : ∃ y9 : Nat → va_E, y9 = g1 := ⟨_, rfl⟩
                rw [← hgl95] at f3w f28 f29 f210
                rw [← hgl95]
                have f3w95 := f3w
                have lp3 : ∀ (n9 : Nat) (kk : Int) (p11 : Nat → Int) (g1 : Nat → va_E), (4 - kk).toNat = n9 → (g1 (i + 11) = iA cs 6 p11) → (∀ j, j ≠ i + 11 → g1 j = gl95 j) → (∀ j, j < 0 ∨ 0 + 3 ≤ j → p11 j = n11 j) → (∀ q : Nat, (q : Int) < kk → p11 (0 + q) = n11 (3 + q)) → (0 ≤ kk ∧ kk ≤ 3) → zV pY l eY ({ frames := 2, cells := 0, slots := 0, locals := 120 } : Room) sY mY ([.ref (ad i)] : List Value).toArray below meth cY (MQ below (zPost D A (rI0 N ad fun q g' => (F 21 = 0 ∧ q = 0 ∧ (∃ F' r' : Nat → Int, okMr cs ad g' i (x + 1) F' r' st op ai fa mu tb tp ∧ (F' 13 = F 13 ∧ F' 14 = F 14 ∧ F' 17 = F 17 ∧ F' 18 = F 18 ∧ F' 19 = F 19 ∧ F' 20 = F 20 ∧ F' 21 = F 21 ∧ F' 23 = F 23 ∧ F' 24 = F 24 ∧ F' 25 = F 25 ∧ F' 26 = F 26 ∧ F' 27 = F 27 ∧ F' 28 = F 28 ∧ F' 29 = F 29) ∧ (F' 15 = F 15 ∧ F' 16 = F 16) ∧ ∀ j, j < 350 ∨ 700 ≤ j → r' j = r j) ∧ (∀ j, i + 8 ≤ j → j ≤ i + 12 → g' j = g j) ∧ ∀ j, j < i ∨ i + 30 ≤ j → g' j = g j) ∨ (F 21 ≠ 0 ∧ q = 1 ∧ (∃ F' r' : Nat → Int, okMr cs ad g' i (x + 1) F' r' st op ai fa mu tb tp ∧ (F' 13 = F 13 ∧ F' 14 = F 14 ∧ F' 17 = F 20 ∧ F' 18 = F 18 ∧ F' 19 = F 19 ∧ F' 20 = F 20 ∧ F' 21 = F 21 ∧ F' 23 = F 23 ∧ F' 24 = F 24 ∧ F' 25 = F 25 ∧ F' 26 = F 26 ∧ F' 27 = F 27 ∧ F' 28 = F 28 ∧ F' 29 = F 29) ∧ (F' 15 = F 18 ∧ F' 16 = F 19) ∧ (∀ q, q < 350 → r' q = r (14700 + q)) ∧ (∀ q, q < 14000 → r' (700 + q) = r (15050 + q)) ∧ ∀ j, 14700 ≤ j → r' j = r j) ∧ (∃ t' : Nat → Int, g' (i + 8) = iA cs 16 t' ∧ (∀ k, k < 16 → 0 ≤ t' k ∧ t' k ≤ 3) ∧ (∀ q, q < 8 → t' q = n8 (8 + q)) ∧ ∀ q, q < 8 → t' (8 + q) = n8 (8 + q)) ∧ (∃ t' : Nat → Int, g' (i + 9) = iA cs 16 t' ∧ (∀ q, q < 8 → t' q = n9a (8 + q)) ∧ ∀ q, q < 8 → t' (8 + q) = n9a (8 + q)) ∧ (∃ t' : Nat → Int, g' (i + 10) = iA cs 16 t' ∧ (∀ q, q < 8 → t' q = n10 (8 + q)) ∧ ∀ q, q < 8 → t' (8 + q) = n10 (8 + q)) ∧ (∃ t' : Nat → Int, g' (i + 11) = iA cs 6 t' ∧ (∀ q, q < 3 → t' q = n11 (3 + q)) ∧ ∀ q, q < 3 → t' (3 + q) = n11 (3 + q)) ∧ (∃ t' : Nat → Int, g' (i + 12) = iA cs 1080 t' ∧ okPt t' ∧ (∀ q, q < 540 → t' q = n12a (540 + q)) ∧ ∀ q, q < 540 → t' (540 + q) = n12a (540 + q)) ∧ ∀ j, j < i ∨ i + 30 ≤ j → g' j = g j))) ([.ref (ad i)] : List Value).toArray sY ({ frames := 2, cells := 0, slots := 0, locals := 120 } : Room).cells ({ frames := 2, cells := 0, slots := 0, locals := 120 } : Room).slots A) D A 2 (N) ad g1 (0) (0) 154 [(0, .ref (ad i)), (1, .int (zI (kk)))] [] := by
                  intro n9
                  induction n9 using Nat.strongRecOn with
                  | ind n9 ih_lp3 =>
                    intro kk p11 g1 hm9 f211 f3w fA11 fk11 hvk
                    obtain ⟨nk, hnk⟩ : ∃ n9 : Nat, kk = (n9 : Int) := ⟨kk.toNat, by omega⟩
                    refine z_iload_n C 1 dX10_restore_154 rfl ?_
                    refine z_iconst (z := 3) C dX10_restore_155 rfl ?_
                    refine z_icmp_ge (tgt := 179) C dX10_restore_156 (by decide) (by omega) (by omega) (fun hby46 => ?_) (fun hby46 => ?_)
                    · refine z_iconst (z := 1) C dX10_restore_179 rfl ?_
                      have hkk : kk = 3 := by omega
                      have he11 : ∀ q, q < 3 → p11 (0 + q) = n11 (3 + q) := fun q hq => fk11 q (by omega)
                      have hA11 : ∀ q, q < 3 → p11 (3 + q) = n11 (3 + q) := fun q hq => fA11 (3 + q) (by omega)
                      clear fk11
                      have hQ8 : ∀ k, k < 16 → 0 ≤ p8 k ∧ p8 k ≤ 3 := fun k hk => by
                        by_cases e : k < 8
                        · have h9 := he8 k e; rw [Nat.zero_add] at h9; rw [h9]; exact hP8 _ (by omega)
                        · have h9 := hA8 (k - 8) (by omega); rw [show 8 + (k - 8) = k by omega] at h9; rw [h9]; exact hP8 _ hk
                      have hgy47 := (f3w (i + 8) (ne_o (i := i) (c := 8) (d := 11) rfl)).trans f28
                      have hgy48 := (f3w (i + 9) (ne_o (i := i) (c := 9) (d := 11) rfl)).trans f29
                      have hgy49 := (f3w (i + 10) (ne_o (i := i) (c := 10) (d := 11) rfl)).trans f210
                      have hgy50 := (f3w95 (i + 12) (ne_o (i := i) (c := 12) (d := 8) rfl) (ne_o (i := i) (c := 12) (d := 9) rfl) (ne_o (i := i) (c := 12) (d := 10) rfl)).trans f212
                      have hgy51 := (f3w (i + 12) (ne_o (i := i) (c := 12) (d := 11) rfl)).trans hgy50
                      have hgy52 := (f3w64 (i) (ne_o (i := i) (c := 0) (d := 12) rfl)).trans hgy43
                      have hgy53 := (f3w95 (i) (ne_o (i := i) (c := 0) (d := 8) rfl) (ne_o (i := i) (c := 0) (d := 9) rfl) (ne_o (i := i) (c := 0) (d := 10) rfl)).trans hgy52
                      have hgy54 := (f3w (i) (ne_o (i := i) (c := 0) (d := 11) rfl)).trans hgy53
                      have hgy55 := up_n egy36 hcvy32 (ne_o (i := i) (c := 1) (d := 0) rfl)
                      have hgy56 := up_n egy39 hgy55 (ne_o (i := i) (c := 1) (d := 0) rfl)
                      have hgy57 := up_n egy42 hgy56 (ne_o (i := i) (c := 1) (d := 0) rfl)
                      have hgy58 := (f3w64 (i + 1) (ne_o (i := i) (c := 1) (d := 12) rfl)).trans hgy57
                      have hgy59 := (f3w95 (i + 1) (ne_o (i := i) (c := 1) (d := 8) rfl) (ne_o (i := i) (c := 1) (d := 9) rfl) (ne_o (i := i) (c := 1) (d := 10) rfl)).trans hgy58
                      have hgy60 := (f3w (i + 1) (ne_o (i := i) (c := 1) (d := 11) rfl)).trans hgy59
                      have hFy61 : ∀ f, f ≠ 12 → f ≠ 15 → f ≠ 16 → f ≠ 17 → (uZ (uZ (uZ (uZ F 12 (0)) 15 (F 18)) 16 (F 19)) 17 (F 20)) f = F f := fun f n12 n15 n16 n17 => ((uZ_n _ _ n17).trans ((uZ_n _ _ n16).trans ((uZ_n _ _ n15).trans ((uZ_n _ _ n12).trans rfl))))
                      have hey62 : (uZ (uZ (uZ (uZ F 12 (0)) 15 (F 18)) 16 (F 19)) 17 (F 20)) 13 = F 13 := (fn (fn (fn (fn rfl (by decide)) (by decide)) (by decide)) (by decide))
                      have hey63 : (uZ (uZ (uZ (uZ F 12 (0)) 15 (F 18)) 16 (F 19)) 17 (F 20)) 14 = F 14 := (fn (fn (fn (fn rfl (by decide)) (by decide)) (by decide)) (by decide))
                      have hey64 : (uZ (uZ (uZ (uZ F 12 (0)) 15 (F 18)) 16 (F 19)) 17 (F 20)) 15 = F 18 := (fn (fn (uZ_s _ _ _) (by decide)) (by decide))
                      have hey65 : (uZ (uZ (uZ (uZ F 12 (0)) 15 (F 18)) 16 (F 19)) 17 (F 20)) 16 = F 19 := (fn (uZ_s _ _ _) (by decide))
                      have hey66 : (uZ (uZ (uZ (uZ F 12 (0)) 15 (F 18)) 16 (F 19)) 17 (F 20)) 17 = F 20 := (uZ_s _ _ _)
                      have hey67 : (uZ (uZ (uZ (uZ F 12 (0)) 15 (F 18)) 16 (F 19)) 17 (F 20)) 18 = F 18 := (fn (fn (fn (fn rfl (by decide)) (by decide)) (by decide)) (by decide))
                      have hey68 : (uZ (uZ (uZ (uZ F 12 (0)) 15 (F 18)) 16 (F 19)) 17 (F 20)) 19 = F 19 := (fn (fn (fn (fn rfl (by decide)) (by decide)) (by decide)) (by decide))
                      have hey69 : (uZ (uZ (uZ (uZ F 12 (0)) 15 (F 18)) 16 (F 19)) 17 (F 20)) 20 = F 20 := (fn (fn (fn (fn rfl (by decide)) (by decide)) (by decide)) (by decide))
                      have hey70 : (uZ (uZ (uZ (uZ F 12 (0)) 15 (F 18)) 16 (F 19)) 17 (F 20)) 21 = F 21 := (fn (fn (fn (fn rfl (by decide)) (by decide)) (by decide)) (by decide))
                      have hey71 : (uZ (uZ (uZ (uZ F 12 (0)) 15 (F 18)) 16 (F 19)) 17 (F 20)) 23 = F 23 := (fn (fn (fn (fn rfl (by decide)) (by decide)) (by decide)) (by decide))
                      have hey72 : (uZ (uZ (uZ (uZ F 12 (0)) 15 (F 18)) 16 (F 19)) 17 (F 20)) 25 = F 25 := (fn (fn (fn (fn rfl (by decide)) (by decide)) (by decide)) (by decide))
                      have hey73 : (uZ (uZ (uZ (uZ F 12 (0)) 15 (F 18)) 16 (F 19)) 17 (F 20)) 27 = F 27 := (fn (fn (fn (fn rfl (by decide)) (by decide)) (by decide)) (by decide))
                      have hey74 : (uZ (uZ (uZ (uZ F 12 (0)) 15 (F 18)) 16 (F 19)) 17 (F 20)) 28 = F 28 := (fn (fn (fn (fn rfl (by decide)) (by decide)) (by decide)) (by decide))
                      have hey75 : (uZ (uZ (uZ (uZ F 12 (0)) 15 (F 18)) 16 (F 19)) 17 (F 20)) 29 = F 29 := (fn (fn (fn (fn rfl (by decide)) (by decide)) (by decide)) (by decide))
                      have hKy76 : okF (uZ (uZ (uZ (uZ F 12 (0)) 15 (F 18)) 16 (F 19)) 17 (F 20)) := by unfold okF; omega
                      have hMy77 : okMr cs ad g1 i (x + 1) (uZ (uZ (uZ (uZ F 12 (0)) 15 (F 18)) 16 (F 19)) 17 (F 20)) rvy32 st op ai fa mu tb tp := okMr.upd hM hgy54 hKy76 (fun f a => hFy61 f (by omega) (by omega) (by omega) (by omega)) hgy60 (hAy33.mono (by omega)) (fun j a b => by
                          by_cases e0 : j = i + 12
                          · exact Or.inr ⟨12, (p12), e0, (Or.inr (Or.inr ⟨rfl, hQ12⟩)), by rw [e0]; exact hgy51⟩
                          by_cases e1 : j = i + 8
                          · exact Or.inr ⟨8, (p8), e1, (Or.inr (Or.inl ⟨rfl, hQ8⟩)), by rw [e1]; exact hgy47⟩
                          by_cases e2 : j = i + 9
                          · exact Or.inr ⟨9, _, e2, lsP.l (by decide), by rw [e2]; exact hgy48⟩
                          by_cases e3 : j = i + 10
                          · exact Or.inr ⟨10, _, e3, lsP.l (by decide), by rw [e3]; exact hgy49⟩
                          by_cases e4 : j = i + 11
                          · exact Or.inr ⟨11, _, e4, lsP.l (by decide), by rw [e4]; exact f211⟩
                          exact Or.inl (by rw [f3w _ (by omega)]; rw [f3w95 _ (by omega) (by omega) (by omega)]; rw [f3w64 _ (by omega)]; rw [egy42, va_up_ne _ _ (by omega)]; rw [egy39, va_up_ne _ _ (by omega)]; rw [egy36, va_up_ne _ _ (by omega)]; rw [hfvy32 _ (by omega)]; rw [hfvy29 _ (by omega)]; rw [egy25, va_up_ne _ _ (by omega)]))
                      have hkpy78 : (uZ (uZ (uZ (uZ F 12 (0)) 15 (F 18)) 16 (F 19)) 17 (F 20)) 13 = F 13 := (fn (fn (fn (fn rfl (by decide)) (by decide)) (by decide)) (by decide))
                      have hkpy79 : (uZ (uZ (uZ (uZ F 12 (0)) 15 (F 18)) 16 (F 19)) 17 (F 20)) 14 = F 14 := (fn (fn (fn (fn rfl (by decide)) (by decide)) (by decide)) (by decide))
                      have hkpy80 : (uZ (uZ (uZ (uZ F 12 (0)) 15 (F 18)) 16 (F 19)) 17 (F 20)) 17 = F 20 := (uZ_s _ _ _)
                      have hkpy81 : (uZ (uZ (uZ (uZ F 12 (0)) 15 (F 18)) 16 (F 19)) 17 (F 20)) 18 = F 18 := (fn (fn (fn (fn rfl (by decide)) (by decide)) (by decide)) (by decide))
                      have hkpy82 : (uZ (uZ (uZ (uZ F 12 (0)) 15 (F 18)) 16 (F 19)) 17 (F 20)) 19 = F 19 := (fn (fn (fn (fn rfl (by decide)) (by decide)) (by decide)) (by decide))
                      have hkpy83 : (uZ (uZ (uZ (uZ F 12 (0)) 15 (F 18)) 16 (F 19)) 17 (F 20)) 20 = F 20 := (fn (fn (fn (fn rfl (by decide)) (by decide)) (by decide)) (by decide))
                      have hkpy84 : (uZ (uZ (uZ (uZ F 12 (0)) 15 (F 18)) 16 (F 19)) 17 (F 20)) 21 = F 21 := (fn (fn (fn (fn rfl (by decide)) (by decide)) (by decide)) (by decide))
                      have hkpy85 : (uZ (uZ (uZ (uZ F 12 (0)) 15 (F 18)) 16 (F 19)) 17 (F 20)) 23 = F 23 := (fn (fn (fn (fn rfl (by decide)) (by decide)) (by decide)) (by decide))
                      have hkpy86 : (uZ (uZ (uZ (uZ F 12 (0)) 15 (F 18)) 16 (F 19)) 17 (F 20)) 24 = F 24 := (fn (fn (fn (fn rfl (by decide)) (by decide)) (by decide)) (by decide))
                      have hkpy87 : (uZ (uZ (uZ (uZ F 12 (0)) 15 (F 18)) 16 (F 19)) 17 (F 20)) 25 = F 25 := (fn (fn (fn (fn rfl (by decide)) (by decide)) (by decide)) (by decide))
                      have hkpy88 : (uZ (uZ (uZ (uZ F 12 (0)) 15 (F 18)) 16 (F 19)) 17 (F 20)) 26 = F 26 := (fn (fn (fn (fn rfl (by decide)) (by decide)) (by decide)) (by decide))
                      have hkpy89 : (uZ (uZ (uZ (uZ F 12 (0)) 15 (F 18)) 16 (F 19)) 17 (F 20)) 27 = F 27 := (fn (fn (fn (fn rfl (by decide)) (by decide)) (by decide)) (by decide))
                      have hkpy90 : (uZ (uZ (uZ (uZ F 12 (0)) 15 (F 18)) 16 (F 19)) 17 (F 20)) 28 = F 28 := (fn (fn (fn (fn rfl (by decide)) (by decide)) (by decide)) (by decide))
                      have hkpy91 : (uZ (uZ (uZ (uZ F 12 (0)) 15 (F 18)) 16 (F 19)) 17 (F 20)) 29 = F 29 := (fn (fn (fn (fn rfl (by decide)) (by decide)) (by decide)) (by decide))
                      have hkpy92 : (uZ (uZ (uZ (uZ F 12 (0)) 15 (F 18)) 16 (F 19)) 17 (F 20)) 15 = F 18 := (fn (fn (uZ_s _ _ _) (by decide)) (by decide))
                      have hkpy93 : (uZ (uZ (uZ (uZ F 12 (0)) 15 (F 18)) 16 (F 19)) 17 (F 20)) 16 = F 19 := (fn (uZ_s _ _ _) (by decide))
                      have hr1 : ∀ q, q < 350 → rvy32 (0 + q) = r (14700 + q) := fun q hq => (hovy32 _ (by omega)).trans (hevy29 q (by omega))
                      have hr2 : ∀ q, q < 14000 → rvy32 (700 + q) = r (15050 + q) := fun q hq => (hevy32 q (by omega)).trans (hovy29 _ (by omega))
                      have hr3 : ∀ j, 14700 ≤ j → rvy32 j = r j := fun j hj => (hovy32 _ (by omega)).trans (hovy29 _ (by omega))
                      exact z_zret C hr hlk dX10_restore_180 (by decide) (by decide) (by decide) ⟨1, rfl, rfl, rfl, Or.inr (by refine ⟨by omega, rfl, ?_⟩; exact ⟨⟨_, _, hMy77, by omega, by omega, fun q hq => by have h9 := hr1 q hq; first | exact h9 | (simp only [Nat.zero_add] at h9; exact h9), hr2, hr3⟩, ⟨_, hgy47, hQ8, fun q hq => by have h9 := he8 q hq; first | exact h9 | (simp only [Nat.zero_add] at h9; exact h9), fun q hq => by have h9 := hA8 q hq; first | exact h9 | (simp only [Nat.zero_add] at h9; exact h9)⟩, ⟨_, hgy48, fun q hq => by have h9 := he9 q hq; first | exact h9 | (simp only [Nat.zero_add] at h9; exact h9), fun q hq => by have h9 := hA9 q hq; first | exact h9 | (simp only [Nat.zero_add] at h9; exact h9)⟩, ⟨_, hgy49, fun q hq => by have h9 := he10 q hq; first | exact h9 | (simp only [Nat.zero_add] at h9; exact h9), fun q hq => by have h9 := hA10 q hq; first | exact h9 | (simp only [Nat.zero_add] at h9; exact h9)⟩, ⟨_, f211, fun q hq => by have h9 := he11 q hq; first | exact h9 | (simp only [Nat.zero_add] at h9; exact h9), fun q hq => by have h9 := hA11 q hq; first | exact h9 | (simp only [Nat.zero_add] at h9; exact h9)⟩, ⟨_, hgy51, hQ12, fun q hq => by have h9 := he12 q hq; first | exact h9 | (simp only [Nat.zero_add] at h9; exact h9), fun q hq => by have h9 := hA12 q hq; first | exact h9 | (simp only [Nat.zero_add] at h9; exact h9)⟩, fun j j1 => by rw [f3w _ (by omega)]; rw [f3w95 _ (by omega) (by omega) (by omega)]; rw [f3w64 _ (by omega)]; rw [egy42, va_up_ne _ _ (by omega)]; rw [egy39, va_up_ne _ _ (by omega)]; rw [egy36, va_up_ne _ _ (by omega)]; rw [hfvy32 _ (by omega)]; rw [hfvy29 _ (by omega)]; rw [egy25, va_up_ne _ _ (by omega)]⟩)⟩
                    · refine z_aload_n C 0 dX10_restore_159 rfl ?_
                      have hgy94 := (f3w64 (i) (ne_o (i := i) (c := 0) (d := 12) rfl)).trans hgy43
                      have hgy95 := (f3w95 (i) (ne_o (i := i) (c := 0) (d := 8) rfl) (ne_o (i := i) (c := 0) (d := 9) rfl) (ne_o (i := i) (c := 0) (d := 10) rfl)).trans hgy94
                      have hgy96 := (f3w (i) (ne_o (i := i) (c := 0) (d := 11) rfl)).trans hgy95
                      refine z_get (v := .ref (ad (i + 11))) C (lt_A0 hN rfl) hay1 hgy96 rfl inA_X10 10 (by decide) q_1469 rfl rfl dX10_restore_160 ?_
                      refine z_iload_n C 1 dX10_restore_163 rfl ?_
                      refine z_aload_n C 0 dX10_restore_164 rfl ?_
                      refine z_get (v := .ref (ad (i + 11))) C (lt_A0 hN rfl) hay1 hgy96 rfl inA_X10 10 (by decide) q_1469 rfl rfl dX10_restore_165 ?_
                      refine z_iconst (z := 3) C dX10_restore_168 rfl ?_
                      refine z_iload_n C 1 dX10_restore_169 rfl ?_
                      refine z_iadd C dX10_restore_170 ?_
                      refine z_iald C (lt_A (c := 11) hN rfl) hay12 f211 (3 + nk) (by omega) (by omega) (by decide) dX10_restore_171 ?_
                      refine z_iast C (lt_A (c := 11) hN rfl) hay12 f211 (nk) (by omega) (by omega) (by decide) dX10_restore_172 (fun gy97 egy98 => ?_)
                      have hgy99 := up_s egy98
                      obtain ⟨ry100, hvy101⟩ : ∃ rZ9 : Nat → Int, rZ9 = uZ p11 (nk) (p11 (3 + nk)) := ⟨_, rfl⟩
                      rw [← hvy101] at hgy99
                      refine z_iinc (z := kk + 1) (lv' := [(1, .int (zI (kk + 1))), (0, .ref (ad i))]) (j := 1) C dX10_restore_173 rfl rfl (by decide) rfl ?_
                      refine z_goto (tgt := 154) C dX10_restore_176 (by decide) ?_
                      have hfry102 : ∀ j, j ≠ nk → ry100 j = p11 j := fun j n0 => (congrFun hvy101 _).trans ((uZ_n _ _ n0).trans (rfl))
                      have hwy103 : ry100 (nk) = p11 (3 + nk) := (congrFun hvy101 _).trans (uZ_s _ _ _)
                      have hsrc11 : p11 (3 + nk) = n11 (3 + nk) := fA11 (3 + nk) (by omega)
                      have hd11 : ry100 (nk) = n11 (3 + nk) := (((congrFun hvy101 _).trans (uZ_s _ _ _)) : ry100 (nk) = p11 (3 + nk)).trans hsrc11
                      have hfk11 : ∀ q : Nat, (q : Int) < kk + 1 → ry100 (0 + q) = n11 (3 + q) := by
                        intro q a
                        by_cases e : q = nk
                        · rw [e]; exact (congrArg ry100 (show 0 + nk = nk by omega)).trans (hd11.trans (congrArg n11 (show 3 + nk = 3 + nk by omega)))
                        · rw [hfry102 _ (by omega)]; exact fk11 q (by omega)
                      refine z_lv (lv' := [(0, .ref (ad i)), (1, .int (zI (kk + 1)))]) [1, 0] rfl ?_
                      exact ih_lp3 _ (by omega) (kk + 1) ry100 gy97 rfl hgy99 (fun j j11 => by rw [egy98, va_up_ne _ _ (by omega)]; exact f3w j j11) (fun j a => (hfry102 _ (by omega)).trans (fA11 j a)) hfk11 (by omega)
                have hgy104 := up_n egy25 hc11 (ne_o (i := i) (c := 11) (d := 0) rfl)
                have hgy105 := (hfvy29 (i + 11) (ne_o (i := i) (c := 11) (d := 1) rfl)).trans hgy104
                have hgy106 := (hfvy32 (i + 11) (ne_o (i := i) (c := 11) (d := 1) rfl)).trans hgy105
                have hgy107 := up_n egy36 hgy106 (ne_o (i := i) (c := 11) (d := 0) rfl)
                have hgy108 := up_n egy39 hgy107 (ne_o (i := i) (c := 11) (d := 0) rfl)
                have hgy109 := up_n egy42 hgy108 (ne_o (i := i) (c := 11) (d := 0) rfl)
                have hgy110 := (f3w64 (i + 11) (ne_o (i := i) (c := 11) (d := 12) rfl)).trans hgy109
                have hgy111 := (f3w95 (i + 11) (ne_o (i := i) (c := 11) (d := 8) rfl) (ne_o (i := i) (c := 11) (d := 9) rfl) (ne_o (i := i) (c := 11) (d := 10) rfl)).trans hgy110
                refine z_lv (lv' := [(0, .ref (ad i)), (1, .int (zI (0)))]) [1, 0] rfl ?_
                exact lp3 _ (0) n11 gl95 rfl hgy111 (fun j _ => rfl) (fun j _ => rfl) (fun q a => absurd a (by omega)) (by omega)
              · refine z_aload_n C 0 dX10_restore_101 rfl ?_
                have hgy112 := (f3w64 (i) (ne_o (i := i) (c := 0) (d := 12) rfl)).trans hgy43
                have hgy113 := (f3w (i) (ne_o (i := i) (c := 0) (d := 8) rfl) (ne_o (i := i) (c := 0) (d := 9) rfl) (ne_o (i := i) (c := 0) (d := 10) rfl)).trans hgy112
                refine z_get (v := .ref (ad (i + 8))) C (lt_A0 hN rfl) hay1 hgy113 rfl inA_X10 7 (by decide) q_1466 rfl rfl dX10_restore_102 ?_
                refine z_iload_n C 1 dX10_restore_105 rfl ?_
                refine z_aload_n C 0 dX10_restore_106 rfl ?_
                refine z_get (v := .ref (ad (i + 8))) C (lt_A0 hN rfl) hay1 hgy113 rfl inA_X10 7 (by decide) q_1466 rfl rfl dX10_restore_107 ?_
                refine z_bipush (z := 8) C dX10_restore_110 (by decide) ?_
                refine z_iload_n C 1 dX10_restore_112 rfl ?_
                refine z_iadd C dX10_restore_113 ?_
                refine z_iald C (lt_A (c := 8) hN rfl) hay9 f28 (8 + nk) (by omega) (by omega) (by decide) dX10_restore_114 ?_
                refine z_iast C (lt_A (c := 8) hN rfl) hay9 f28 (nk) (by omega) (by omega) (by decide) dX10_restore_115 (fun gy114 egy115 => ?_)
                have hgy116 := up_s egy115
                obtain ⟨ry117, hvy118⟩ : ∃ rZ9 : Nat → Int, rZ9 = uZ p8 (nk) (p8 (8 + nk)) := ⟨_, rfl⟩
                rw [← hvy118] at hgy116
                refine z_aload_n C 0 dX10_restore_116 rfl ?_
                have hgy119 := up_n egy115 hgy113 (ne_o (i := i) (c := 0) (d := 8) rfl)
                refine z_get (v := .ref (ad (i + 9))) C (lt_A0 hN rfl) hay1 hgy119 rfl inA_X10 8 (by decide) q_1467 rfl rfl dX10_restore_117 ?_
                refine z_iload_n C 1 dX10_restore_120 rfl ?_
                refine z_aload_n C 0 dX10_restore_121 rfl ?_
                refine z_get (v := .ref (ad (i + 9))) C (lt_A0 hN rfl) hay1 hgy119 rfl inA_X10 8 (by decide) q_1467 rfl rfl dX10_restore_122 ?_
                refine z_bipush (z := 8) C dX10_restore_125 (by decide) ?_
                refine z_iload_n C 1 dX10_restore_127 rfl ?_
                refine z_iadd C dX10_restore_128 ?_
                have hgy120 := up_n egy115 f29 (ne_o (i := i) (c := 9) (d := 8) rfl)
                refine z_iald C (lt_A (c := 9) hN rfl) hay10 hgy120 (8 + nk) (by omega) (by omega) (by decide) dX10_restore_129 ?_
                refine z_iast C (lt_A (c := 9) hN rfl) hay10 hgy120 (nk) (by omega) (by omega) (by decide) dX10_restore_130 (fun gy121 egy122 => ?_)
                have hgy123 := up_s egy122
                obtain ⟨ry124, hvy125⟩ : ∃ rZ9 : Nat → Int, rZ9 = uZ p9 (nk) (p9 (8 + nk)) := ⟨_, rfl⟩
                rw [← hvy125] at hgy123
                refine z_aload_n C 0 dX10_restore_131 rfl ?_
                have hgy126 := up_n egy122 hgy119 (ne_o (i := i) (c := 0) (d := 9) rfl)
                refine z_get (v := .ref (ad (i + 10))) C (lt_A0 hN rfl) hay1 hgy126 rfl inA_X10 9 (by decide) q_1468 rfl rfl dX10_restore_132 ?_
                refine z_iload_n C 1 dX10_restore_135 rfl ?_
                refine z_aload_n C 0 dX10_restore_136 rfl ?_
                refine z_get (v := .ref (ad (i + 10))) C (lt_A0 hN rfl) hay1 hgy126 rfl inA_X10 9 (by decide) q_1468 rfl rfl dX10_restore_137 ?_
                refine z_bipush (z := 8) C dX10_restore_140 (by decide) ?_
                refine z_iload_n C 1 dX10_restore_142 rfl ?_
                refine z_iadd C dX10_restore_143 ?_
                have hgy127 := up_n egy115 f210 (ne_o (i := i) (c := 10) (d := 8) rfl)
                have hgy128 := up_n egy122 hgy127 (ne_o (i := i) (c := 10) (d := 9) rfl)
                refine z_iald C (lt_A (c := 10) hN rfl) hay11 hgy128 (8 + nk) (by omega) (by omega) (by decide) dX10_restore_144 ?_
                refine z_iast C (lt_A (c := 10) hN rfl) hay11 hgy128 (nk) (by omega) (by omega) (by decide) dX10_restore_145 (fun gy129 egy130 => ?_)
                have hgy131 := up_s egy130
                obtain ⟨ry132, hvy133⟩ : ∃ rZ9 : Nat → Int, rZ9 = uZ p10 (nk) (p10 (8 + nk)) := ⟨_, rfl⟩
                rw [← hvy133] at hgy131
                refine z_iinc (z := kk + 1) (lv' := [(1, .int (zI (kk + 1))), (0, .ref (ad i))]) (j := 1) C dX10_restore_146 rfl rfl (by decide) rfl ?_
                refine z_goto (tgt := 95) C dX10_restore_149 (by decide) ?_
                have hfry134 : ∀ j, j ≠ nk → ry117 j = p8 j := fun j n0 => (congrFun hvy118 _).trans ((uZ_n _ _ n0).trans (rfl))
                have hwy135 : ry117 (nk) = p8 (8 + nk) := (congrFun hvy118 _).trans (uZ_s _ _ _)
                have hsrc8 : p8 (8 + nk) = n8 (8 + nk) := fA8 (8 + nk) (by omega)
                have hd8 : ry117 (nk) = n8 (8 + nk) := (((congrFun hvy118 _).trans (uZ_s _ _ _)) : ry117 (nk) = p8 (8 + nk)).trans hsrc8
                have hfk8 : ∀ q : Nat, (q : Int) < kk + 1 → ry117 (0 + q) = n8 (8 + q) := by
                  intro q a
                  by_cases e : q = nk
                  · rw [e]; exact (congrArg ry117 (show 0 + nk = nk by omega)).trans (hd8.trans (congrArg n8 (show 8 + nk = 8 + nk by omega)))
                  · rw [hfry134 _ (by omega)]; exact fk8 q (by omega)
                have hfry136 : ∀ j, j ≠ nk → ry124 j = p9 j := fun j n0 => (congrFun hvy125 _).trans ((uZ_n _ _ n0).trans (rfl))
                have hwy137 : ry124 (nk) = p9 (8 + nk) := (congrFun hvy125 _).trans (uZ_s _ _ _)
                have hsrc9 : p9 (8 + nk) = n9a (8 + nk) := fA9 (8 + nk) (by omega)
                have hd9 : ry124 (nk) = n9a (8 + nk) := (((congrFun hvy125 _).trans (uZ_s _ _ _)) : ry124 (nk) = p9 (8 + nk)).trans hsrc9
                have hfk9 : ∀ q : Nat, (q : Int) < kk + 1 → ry124 (0 + q) = n9a (8 + q) := by
                  intro q a
                  by_cases e : q = nk
                  · rw [e]; exact (congrArg ry124 (show 0 + nk = nk by omega)).trans (hd9.trans (congrArg n9a (show 8 + nk = 8 + nk by omega)))
                  · rw [hfry136 _ (by omega)]; exact fk9 q (by omega)
                have hfry138 : ∀ j, j ≠ nk → ry132 j = p10 j := fun j n0 => (congrFun hvy133 _).trans ((uZ_n _ _ n0).trans (rfl))
                have hwy139 : ry132 (nk) = p10 (8 + nk) := (congrFun hvy133 _).trans (uZ_s _ _ _)
                have hsrc10 : p10 (8 + nk) = n10 (8 + nk) := fA10 (8 + nk) (by omega)
                have hd10 : ry132 (nk) = n10 (8 + nk) := (((congrFun hvy133 _).trans (uZ_s _ _ _)) : ry132 (nk) = p10 (8 + nk)).trans hsrc10
                have hfk10 : ∀ q : Nat, (q : Int) < kk + 1 → ry132 (0 + q) = n10 (8 + q) := by
                  intro q a
                  by_cases e : q = nk
                  · rw [e]; exact (congrArg ry132 (show 0 + nk = nk by omega)).trans (hd10.trans (congrArg n10 (show 8 + nk = 8 + nk by omega)))
                  · rw [hfry138 _ (by omega)]; exact fk10 q (by omega)
                have hgy140 := up_n egy122 hgy116 (ne_o (i := i) (c := 8) (d := 9) rfl)
                have hgy141 := up_n egy130 hgy140 (ne_o (i := i) (c := 8) (d := 10) rfl)
                have hgy142 := up_n egy130 hgy123 (ne_o (i := i) (c := 9) (d := 10) rfl)
                refine z_lv (lv' := [(0, .ref (ad i)), (1, .int (zI (kk + 1)))]) [1, 0] rfl ?_
                exact ih_lp2 _ (by omega) (kk + 1) ry117 ry124 ry132 gy129 rfl hgy141 hgy142 hgy131 (fun j j8 j9 j10 => by rw [egy130, va_up_ne _ _ (by omega)]; rw [egy122, va_up_ne _ _ (by omega)]; rw [egy115, va_up_ne _ _ (by omega)]; exact f3w j j8 j9 j10) (fun j a => (hfry134 _ (by omega)).trans (fA8 j a)) hfk8 (fun j a => (hfry136 _ (by omega)).trans (fA9 j a)) hfk9 (fun j a => (hfry138 _ (by omega)).trans (fA10 j a)) hfk10 (by omega)
          have hgy143 := up_n egy25 hc8 (ne_o (i := i) (c := 8) (d := 0) rfl)
          have hgy144 := (hfvy29 (i + 8) (ne_o (i := i) (c := 8) (d := 1) rfl)).trans hgy143
          have hgy145 := (hfvy32 (i + 8) (ne_o (i := i) (c := 8) (d := 1) rfl)).trans hgy144
          have hgy146 := up_n egy36 hgy145 (ne_o (i := i) (c := 8) (d := 0) rfl)
          have hgy147 := up_n egy39 hgy146 (ne_o (i := i) (c := 8) (d := 0) rfl)
          have hgy148 := up_n egy42 hgy147 (ne_o (i := i) (c := 8) (d := 0) rfl)
          have hgy149 := (f3w64 (i + 8) (ne_o (i := i) (c := 8) (d := 12) rfl)).trans hgy148
          have hgy150 := up_n egy25 hc9 (ne_o (i := i) (c := 9) (d := 0) rfl)
          have hgy151 := (hfvy29 (i + 9) (ne_o (i := i) (c := 9) (d := 1) rfl)).trans hgy150
          have hgy152 := (hfvy32 (i + 9) (ne_o (i := i) (c := 9) (d := 1) rfl)).trans hgy151
          have hgy153 := up_n egy36 hgy152 (ne_o (i := i) (c := 9) (d := 0) rfl)
          have hgy154 := up_n egy39 hgy153 (ne_o (i := i) (c := 9) (d := 0) rfl)
          have hgy155 := up_n egy42 hgy154 (ne_o (i := i) (c := 9) (d := 0) rfl)
          have hgy156 := (f3w64 (i + 9) (ne_o (i := i) (c := 9) (d := 12) rfl)).trans hgy155
          have hgy157 := up_n egy25 hc10 (ne_o (i := i) (c := 10) (d := 0) rfl)
          have hgy158 := (hfvy29 (i + 10) (ne_o (i := i) (c := 10) (d := 1) rfl)).trans hgy157
          have hgy159 := (hfvy32 (i + 10) (ne_o (i := i) (c := 10) (d := 1) rfl)).trans hgy158
          have hgy160 := up_n egy36 hgy159 (ne_o (i := i) (c := 10) (d := 0) rfl)
          have hgy161 := up_n egy39 hgy160 (ne_o (i := i) (c := 10) (d := 0) rfl)
          have hgy162 := up_n egy42 hgy161 (ne_o (i := i) (c := 10) (d := 0) rfl)
          have hgy163 := (f3w64 (i + 10) (ne_o (i := i) (c := 10) (d := 12) rfl)).trans hgy162
          refine z_lv (lv' := [(0, .ref (ad i)), (1, .int (zI (0)))]) [1, 0] rfl ?_
          exact lp2 _ (0) n8 n9a n10 gl64 rfl hgy149 hgy156 hgy163 (fun j _ _ _ => rfl) (fun j _ => rfl) (fun q a => absurd a (by omega)) (fun j _ => rfl) (fun q a => absurd a (by omega)) (fun j _ => rfl) (fun q a => absurd a (by omega)) (by omega)
        · refine z_aload_n C 0 dX10_restore_71 rfl ?_
          have hgy164 := (f3w (i) (ne_o (i := i) (c := 0) (d := 12) rfl)).trans hgy43
          refine z_get (v := .ref (ad (i + 12))) C (lt_A0 hN rfl) hay1 hgy164 rfl inA_X10 11 (by decide) q_1470 rfl rfl dX10_restore_72 ?_
          refine z_iload_n C 1 dX10_restore_75 rfl ?_
          refine z_aload_n C 0 dX10_restore_76 rfl ?_
          refine z_get (v := .ref (ad (i + 12))) C (lt_A0 hN rfl) hay1 hgy164 rfl inA_X10 11 (by decide) q_1470 rfl rfl dX10_restore_77 ?_
          refine z_sipush (z := 540) C dX10_restore_80 (by decide) ?_
          refine z_iload_n C 1 dX10_restore_83 rfl ?_
          refine z_iadd C dX10_restore_84 ?_
          refine z_iald C (lt_A (c := 12) hN rfl) hay13 f212 (540 + nk) (by omega) (by omega) (by decide) dX10_restore_85 ?_
          refine z_iast C (lt_A (c := 12) hN rfl) hay13 f212 (nk) (by omega) (by omega) (by decide) dX10_restore_86 (fun gy165 egy166 => ?_)
          have hgy167 := up_s egy166
          obtain ⟨ry168, hvy169⟩ : ∃ rZ9 : Nat → Int, rZ9 = uZ p12 (nk) (p12 (540 + nk)) := ⟨_, rfl⟩
          rw [← hvy169] at hgy167
          refine z_iinc (z := kk + 1) (lv' := [(1, .int (zI (kk + 1))), (0, .ref (ad i))]) (j := 1) C dX10_restore_87 rfl rfl (by decide) rfl ?_
          refine z_goto (tgt := 64) C dX10_restore_90 (by decide) ?_
          have hfry170 : ∀ j, j ≠ nk → ry168 j = p12 j := fun j n0 => (congrFun hvy169 _).trans ((uZ_n _ _ n0).trans (rfl))
          have hwy171 : ry168 (nk) = p12 (540 + nk) := (congrFun hvy169 _).trans (uZ_s _ _ _)
          have hsrc12 : p12 (540 + nk) = n12a (540 + nk) := fA12 (540 + nk) (by omega)
          have hd12 : ry168 (nk) = n12a (540 + nk) := (((congrFun hvy169 _).trans (uZ_s _ _ _)) : ry168 (nk) = p12 (540 + nk)).trans hsrc12
          have hfk12 : ∀ q : Nat, (q : Int) < kk + 1 → ry168 (0 + q) = n12a (540 + q) := by
            intro q a
            by_cases e : q = nk
            · rw [e]; exact (congrArg ry168 (show 0 + nk = nk by omega)).trans (hd12.trans (congrArg n12a (show 540 + nk = 540 + nk by omega)))
            · rw [hfry170 _ (by omega)]; exact fk12 q (by omega)
          refine z_lv (lv' := [(0, .ref (ad i)), (1, .int (zI (kk + 1)))]) [1, 0] rfl ?_
          exact ih_lp1 _ (by omega) (kk + 1) ry168 gy165 rfl hgy167 (fun j j12 => by rw [egy166, va_up_ne _ _ (by omega)]; exact f3w j j12) (fun j a => (hfry170 _ (by omega)).trans (fA12 j a)) hfk12 (by omega)
    have hgy172 := up_n egy25 hc12 (ne_o (i := i) (c := 12) (d := 0) rfl)
    have hgy173 := (hfvy29 (i + 12) (ne_o (i := i) (c := 12) (d := 1) rfl)).trans hgy172
    have hgy174 := (hfvy32 (i + 12) (ne_o (i := i) (c := 12) (d := 1) rfl)).trans hgy173
    have hgy175 := up_n egy36 hgy174 (ne_o (i := i) (c := 12) (d := 0) rfl)
    have hgy176 := up_n egy39 hgy175 (ne_o (i := i) (c := 12) (d := 0) rfl)
    have hgy177 := up_n egy42 hgy176 (ne_o (i := i) (c := 12) (d := 0) rfl)
    refine z_lv (lv' := [(0, .ref (ad i)), (1, .int (zI (0)))]) [1, 0] rfl ?_
    exact lp1 _ (0) n12a gy41 rfl hgy177 (fun j _ => rfl) (fun j _ => rfl) (fun q a => absurd a (by omega)) (by omega)
  · refine z_iconst (z := 0) C dX10_restore_12 rfl ?_
    have hgy178 := up_n egy25 ha1 (ne_o (i := i) (c := 1) (d := 0) rfl)
    have hFy179 : ∀ f, f ≠ 12 → (uZ F 12 (0)) f = F f := fun f n12 => ((uZ_n _ _ n12).trans rfl)
    have hey180 : (uZ F 12 (0)) 13 = F 13 := (fn rfl (by decide))
    have hey181 : (uZ F 12 (0)) 14 = F 14 := (fn rfl (by decide))
    have hey182 : (uZ F 12 (0)) 15 = F 15 := (fn rfl (by decide))
    have hey183 : (uZ F 12 (0)) 16 = F 16 := (fn rfl (by decide))
    have hey184 : (uZ F 12 (0)) 17 = F 17 := (fn rfl (by decide))
    have hey185 : (uZ F 12 (0)) 18 = F 18 := (fn rfl (by decide))
    have hey186 : (uZ F 12 (0)) 19 = F 19 := (fn rfl (by decide))
    have hey187 : (uZ F 12 (0)) 20 = F 20 := (fn rfl (by decide))
    have hey188 : (uZ F 12 (0)) 21 = F 21 := (fn rfl (by decide))
    have hey189 : (uZ F 12 (0)) 23 = F 23 := (fn rfl (by decide))
    have hey190 : (uZ F 12 (0)) 25 = F 25 := (fn rfl (by decide))
    have hey191 : (uZ F 12 (0)) 27 = F 27 := (fn rfl (by decide))
    have hey192 : (uZ F 12 (0)) 28 = F 28 := (fn rfl (by decide))
    have hey193 : (uZ F 12 (0)) 29 = F 29 := (fn rfl (by decide))
    have hKy194 : okF (uZ F 12 (0)) := okF.mv hM.2.1 hey180 hey181 hey182 hey183 hey184 hey185 hey186 hey187 hey188 hey189 hey190 hey191 hey192 hey193
    have hMy195 : okMr cs ad gy24 i (x + 1) (uZ F 12 (0)) r st op ai fa mu tb tp := okMr.upd hM hgy26 hKy194 (fun f a => hFy179 f (by omega)) hgy178 (hA.mono (by omega)) (fun j a b => by
        exact Or.inl (by rw [egy25, va_up_ne _ _ (by omega)]))
    have hkpy196 : (uZ F 12 (0)) 13 = F 13 := (fn rfl (by decide))
    have hkpy197 : (uZ F 12 (0)) 14 = F 14 := (fn rfl (by decide))
    have hkpy198 : (uZ F 12 (0)) 17 = F 17 := (fn rfl (by decide))
    have hkpy199 : (uZ F 12 (0)) 18 = F 18 := (fn rfl (by decide))
    have hkpy200 : (uZ F 12 (0)) 19 = F 19 := (fn rfl (by decide))
    have hkpy201 : (uZ F 12 (0)) 20 = F 20 := (fn rfl (by decide))
    have hkpy202 : (uZ F 12 (0)) 21 = F 21 := (fn rfl (by decide))
    have hkpy203 : (uZ F 12 (0)) 23 = F 23 := (fn rfl (by decide))
    have hkpy204 : (uZ F 12 (0)) 24 = F 24 := (fn rfl (by decide))
    have hkpy205 : (uZ F 12 (0)) 25 = F 25 := (fn rfl (by decide))
    have hkpy206 : (uZ F 12 (0)) 26 = F 26 := (fn rfl (by decide))
    have hkpy207 : (uZ F 12 (0)) 27 = F 27 := (fn rfl (by decide))
    have hkpy208 : (uZ F 12 (0)) 28 = F 28 := (fn rfl (by decide))
    have hkpy209 : (uZ F 12 (0)) 29 = F 29 := (fn rfl (by decide))
    have hkpy210 : (uZ F 12 (0)) 15 = F 15 := (fn rfl (by decide))
    have hkpy211 : (uZ F 12 (0)) 16 = F 16 := (fn rfl (by decide))
    exact z_zret C hr hlk dX10_restore_13 (by decide) (by decide) (by decide) ⟨0, rfl, rfl, rfl, Or.inl ⟨by omega, rfl, ⟨_, _, hMy195, by omega, by omega, fun j _ => rfl⟩, fun j j1 j2 => by rw [egy25, va_up_ne _ _ (by omega)], fun j j1 => by rw [egy25, va_up_ne _ _ (by omega)]⟩⟩
end
section
-- 9mi.pj.lean.txt
theorem skH_e {tb tb' C : Nat → Int} {i : Nat} (hT : ∀ k, k < 15 → tb' k = tb k) (hk : 0 ≤ C (7 * i) ∧ C (7 * i) ≤ 4) : skH tb' C i = skH tb C i := by
  have e := hT ((5 : Int) + C (7 * i)).toNat (by omega)
  unfold skH
  rw [e]
theorem skB_e {tb tb' C : Nat → Int} {i : Nat} {ro : Int} (hT : ∀ k, k < 15 → tb' k = tb k) (hk : 0 ≤ C (7 * i) ∧ C (7 * i) ≤ 4) : skB tb' C i = skB tb C i ∧ skR tb' C i ro = skR tb C i ro := by
  have e := skH_e (i := i) hT hk
  unfold skB skR
  rw [e]
  exact ⟨rfl, rfl⟩
theorem skZ_e {tb tb' : Nat → Int} {n : Nat} (hT : ∀ k, k < 15 → tb' k = tb k) (ht : okTb tb) : ∀ (k : Nat) (C : Nat → Int) (ro : Int), okP C n → k ≤ n → skZ tb' k C ro = skZ tb k C ro := by
  intro k
  induction k with
  | zero => intro C ro _ _; rfl
  | succ k ih =>
    intro C ro h hk
    have h1 := skA_ok (i := k) h (by omega)
    have h2 := skB_ok (ro := ro) ht h1.1 (i := k) (by omega)
    have h0 := (h1.1.ly (l := k) (by omega)).1.1
    obtain ⟨e1, e2⟩ := skB_e (i := k) (ro := ro) hT h0
    show skZ tb' k (skB tb' (skA C k) k) (skR tb' (skA C k) k ro) = skZ tb k (skB tb (skA C k) k) (skR tb (skA C k) k ro)
    rw [e1, e2]
    exact ih _ _ h2.1 (by omega)
theorem prs_e {tb tb' C : Nat → Int} {n : Nat} (hT : ∀ k, k < 15 → tb' k = tb k) (h : okP C n) : stK C n 3 0 (fun l => prZ tb' C n l) = stK C n 3 0 (fun l => prZ tb C n l) := by
  funext q
  unfold stK
  by_cases e : q % 7 = 3 ∧ 0 ≤ q / 7 ∧ q / 7 < n
  · rw [if_pos e, if_pos e]
    have h0 := (h.ly (l := q / 7) e.2.2).1.1
    have e1 := hT ((10 : Int) + C (7 * (q / 7))).toNat (by omega)
    show prZ tb' C n (q / 7) = prZ tb C n (q / 7)
    unfold prZ prD
    rw [e1]
  · rw [if_neg e, if_neg e]
theorem hs_e {tb tb' : Nat → Int} {M E G air opn what much nm : Int} {S : SL9} (hT : ∀ k, k < 15 → tb' k = tb k) (ht : okTb tb) (h : okSl M E G S) (hM : M + 50 ≤ 138500) (hE : E + 139000 ≤ 400000000) (hw : what = 1 ∨ what = 2 → 1 ≤ much ∧ much ≤ 50) (ha : -300 ≤ air ∧ air ≤ 100) (ho : 0 ≤ opn ∧ opn ≤ 20) (hm : 0 ≤ nm ∧ nm ≤ 20000) (hG : 0 ≤ G) : hsZ tb' air opn what much nm S = hsZ tb air opn what much nm S := by
  have h1 := (fo_sl (X := 0) h hM (by omega) hw ha hm hG).1
  have h3 := ev_sl (ht_sl h1 ha ho)
  have h4 := sk_sl ht h3
  unfold hsZ
  have e1 : skS tb' (evS (htZ air opn (foZ what much air nm S))) = skS tb (evS (htZ air opn (foZ what much air nm S))) := by
    have e := skZ_e hT ht (evS (htZ air opn (foZ what much air nm S))).1 (evS (htZ air opn (foZ what much air nm S))).2.1 (evS (htZ air opn (foZ what much air nm S))).2.2 h3.1 (Nat.le_refl _)
    unfold skS
    rw [e]
  rw [e1]
  have e2 : prS tb' (skS tb (evS (htZ air opn (foZ what much air nm S)))) = prS tb (skS tb (evS (htZ air opn (foZ what much air nm S)))) := by
    have e := prs_e hT h4.1
    unfold prS
    rw [e]
  rw [e2]
theorem ho_e {tb tb' op op' : Nat → Int} {air what much : Int} {n : Nat} {x X : Int} {W : WL9} (hT : ∀ k, k < 15 → tb' k = tb k) (hO : ∀ k, k < n → op' k = op k) (hn : n ≤ 4) (ht : okTb tb) (h : okWl x X W) (hx : 0 ≤ x) (hTm : W.1 0 + x + 1 ≤ 2722) (hw : what = 1 ∨ what = 2 → 1 ≤ much ∧ much ≤ 50) (ha : -300 ≤ air ∧ air ≤ 100) (ho : ∀ k, k < n → 0 ≤ op k ∧ op k ≤ 20) : hoW tb' op' air what much 15 n W = hoW tb op air what much 15 n W := by
  have hs : ∀ k, k ≤ n → hoS tb' op' air what much 15 k W = hoS tb op air what much 15 k W := by
    intro k
    induction k with
    | zero => exact fun _ => rfl
    | succ k ih =>
      intro hk
      have hh := hoS_h (tb := tb) (op := op) (air := air) (what := what) (much := much) (z := 15) (W := W) k
      obtain ⟨a1, a2, a3⟩ := hh
      have e3 := a3 k (Nat.le_refl k)
      obtain ⟨h1, h2, h3, -⟩ := id h
      have hk4 : (k : Int) ≤ 4 := by omega
      have b1 : mB (W.1 0 + x) = 2400 + 50 * (W.1 0 + x) := rfl
      have b2 : eB (W.1 0 + x) = 12000 + 139000 * (W.1 0 + x) := rfl
      show (if 15 / 2 ^ k % 2 = 1 then hoU tb' op' air what much k (hoS tb' op' air what much 15 k W) else hoS tb' op' air what much 15 k W) = (if 15 / 2 ^ k % 2 = 1 then hoU tb op air what much k (hoS tb op air what much 15 k W) else hoS tb op air what much 15 k W)
      rw [if_pos (b15 (by omega)), if_pos (b15 (by omega)), ih (by omega)]
      unfold hoU
      rw [hO k (by omega), e3, hs_e (nm := (hoS tb op air what much 15 k W).1 1) hT ht (h1 k (by omega)).1 (by omega) (by omega) hw ha (ho k (by omega)) (by omega) (by omega)]
  unfold hoW
  rw [hs n (Nat.le_refl _)]
/-- the FORECAST as the reference's fields say it, when nothing is tried with it -/
def plF (F : Nat → Int) : Prop := F 25 = 0 ∧ F 26 = -1 ∧ F 27 = -1 ∧ F 29 = 0
theorem rAWM_e {F ai fa mu ai' fa' mu' : Nat → Int} {ho tm : Int} (hp : plF F) (h14 : F 14 = ho) (hh : 0 ≤ ho ∧ ho ≤ 24) (hA : ∀ k : Nat, (k : Int) < ho → ai k = ai' k ∧ fa k = fa' k ∧ mu k = mu' k) : rAi F ai' tm = fcZ ho 0 ai tm ∧ rWh F fa' tm = fcZ ho 0 fa tm ∧ rMu F mu' tm = fcZ ho 0 mu tm := by
  obtain ⟨p1, p2, p3, p4⟩ := hp
  unfold rAi rWh rMu fcZ
  rw [h14]
  by_cases e : ho = 0
  · rw [if_pos e, if_pos e, if_pos e, if_pos e, if_pos e, if_pos e]; exact ⟨rfl, rfl, rfl⟩
  · have h0 := emd24 (ho := ho) (tm := tm) (by omega)
    have h1 := hA (tm % ho).toNat (by omega)
    rw [if_neg e, if_neg e, if_neg e, if_neg e, if_neg e, if_neg e, if_pos p1, if_neg (by omega), if_neg (by omega), h1.1, h1.2.1, h1.2.2]
    exact ⟨rfl, rfl, rfl⟩
theorem gw_cw {F op ai fa mu tb op' ai' fa' mu' tb' : Nat → Int} {sl ho : Int} {n : Nat} {x X : Int} {W : WL9} (hp : plF F) (h14 : F 14 = ho) (hA : ∀ k : Nat, (k : Int) < ho → ai k = ai' k ∧ fa k = fa' k ∧ mu k = mu' k) (hO : ∀ k, k < n → op' k = op k) (hT : ∀ k, k < 15 → tb' k = tb k) (hf : okFc sl ho 0 op ai fa mu tb) (hsl : sl = (n : Int)) (h : okWl x X W) (hn : n ≤ 4) (hX : 0 ≤ X) (hx : 0 ≤ x) : ∀ k : Nat, W.1 0 + (k : Int) + x ≤ 2722 → W.1 0 + (k : Int) ≤ 2180 → gwR F op' ai' fa' mu' tb' n k W = cwC ho 0 op ai fa mu tb n k W := by
  intro k
  induction k with
  | zero => exact fun _ _ => rfl
  | succ k ih =>
    intro a b
    obtain ⟨c1, c2, c3⟩ := cw_ok hf hsl h hn hX hx k (by omega) (by omega)
    show hwR F op' ai' fa' mu' tb' n (gwR F op' ai' fa' mu' tb' n k W) = hwC ho 0 op ai fa mu tb n (cwC ho 0 op ai fa mu tb n k W)
    rw [ih (by omega) (by omega)]
    unfold hwR hwC
    obtain ⟨e1, e2, e3⟩ := rAWM_e (tm := (cwC ho 0 op ai fa mu tb n k W).1 0) hp h14 hf.1 hA
    have hfm := fc_fm (tm := (cwC ho 0 op ai fa mu tb n k W).1 0) hf
    rw [e1, e2, e3]
    exact ho_e hT hO hn hf.2.2.2.2.2 c1 hx (by omega) (fun e => ⟨hfm.2.2 e, hfm.2.1.2⟩) (fc_air hf) (fun k hk => hf.2.2.1 k (by omega))
/-- HOURS are the same on both sides -/
theorem hoA_hoC {F op ai fa mu tb op' ai' fa' mu' tb' : Nat → Int} {sl ho z : Int} {n na : Nat} {x : Int} {W : WL9} {H : Nat → WL9} (hp : plF F) (h14 : F 14 = ho) (hA : ∀ k : Nat, (k : Int) < ho → ai k = ai' k ∧ fa k = fa' k ∧ mu k = mu' k) (hO : ∀ k, k < n → op' k = op k) (hT : ∀ k, k < 15 → tb' k = tb k) (hf : okFc sl ho 0 op ai fa mu tb) (hsl : sl = (n : Int)) (h : okWx x W) (hn : n ≤ 4) (hx : 0 ≤ x ∧ x ≤ 512) : hoA F op' ai' fa' mu' tb' n z W na H = hoC ho 0 op ai fa mu tb n z W na H := by
  unfold hoA hoC
  by_cases e : (1 ≤ z ∧ z ≤ 24) ∧ W.1 0 + z ≤ 2000
  · rw [if_pos e, if_pos e]
    have h0 := h.1.2.1
    rw [gw_cw hp h14 hA hO hT hf hsl h.1 hn (by omega) hx.1 z.toNat (by omega) (by omega)]
  · rw [if_neg e, if_neg e]
theorem falA_falC {F ai ai' fa mu fa' mu' : Nat → Int} {ho z z1 z2 : Int} {n na : Nat} {W : WL9} {H : Nat → WL9} (hp : plF F) (h14 : F 14 = ho) (hh : 0 ≤ ho ∧ ho ≤ 24) (hA : ∀ k : Nat, (k : Int) < ho → ai k = ai' k ∧ fa k = fa' k ∧ mu k = mu' k) : falA F ai' n z z1 z2 W na H = falC ho 0 ai n z z1 z2 W na H := by
  unfold falA falC
  rw [(rAWM_e (tm := W.1 0) hp h14 hh hA).1]
end
section
-- 9ml.pk6.lean.txt
theorem rlZ_e {tb tb' K : Nat → Int} {n l : Nat} {more steep : Int} (hT : ∀ k, k < 15 → tb' k = tb k) (h : okP K n) (hl : l < n) : rlZ tb' K n more steep l = rlZ tb K n more steep l := by
  have h0 := (h.ly hl).1.1
  have e : stZ tb' K l = stZ tb K l := by
    unfold stZ st0Z
    rw [hT (K (7 * l)).toNat (by omega)]
  unfold rlZ raZ
  rw [e]
theorem isLr_e {tb tb' K : Nat → Int} {n : Nat} {more steep v : Int} (hT : ∀ k, k < 15 → tb' k = tb k) (h : okP K n) (hl : isLr tb' K n more steep v) : isLr tb K n more steep v := by
  rcases hl with a | ⟨k, a, b, c⟩
  · exact Or.inl a
  · exact Or.inr ⟨k, a, b.trans (rlZ_e hT h a), fun l hl => by rw [← rlZ_e hT h a, ← rlZ_e hT h hl]; exact c l hl⟩
theorem isWk_e {tb tb' K : Nat → Int} {n : Nat} {more steep w : Int} (hT : ∀ k, k < 15 → tb' k = tb k) (h : okP K n) (hl : isWk tb' K n more steep w) : isWk tb K n more steep w := by
  rcases hl with a | ⟨k, a, b, c, d⟩
  · exact Or.inl a
  · exact Or.inr ⟨k, a, b, fun l hl => by rw [← rlZ_e hT h b, ← rlZ_e hT h hl]; exact c l hl, fun l hl => by rw [← rlZ_e hT h b, ← rlZ_e (l := l) hT h (by omega)]; exact d l hl⟩
/-- a SLIDE of the reference is that of the class -/
theorem sldA_j {st st' tb tb' : Nat → Int} {n : Nat} {z : Int} {x X : Int} {W W1 W2 : WL9} {na n1 n2 : Nat} {H H1 H2 : Nat → WL9} {q1 q2 : Int} (hn : n ≤ 4) (hT : ∀ k, k < 15 → tb' k = tb k) (hS : ∀ k, k < n → st' k = st k) (hW : okWl x X W) (h1 : sldA st tb n z W na H q1 W1 n1 H1) (h2 : sldA st' tb' n z W na H q2 W2 n2 H2) : q1 = q2 ∧ W1 = W2 ∧ n1 = n2 ∧ H1 = H2 := by
  by_cases hz : 0 ≤ z ∧ z < (n : Int)
  · have hk : z.toNat < n := by omega
    have hO := (hW.1 z.toNat (by omega)).1.1
    have eS := hS z.toNat hk
    unfold sldA at h2
    rw [eS] at h2
    rcases h1 with ⟨a, rfl, rfl, rfl, rfl⟩ | ⟨-, ⟨v, a, b⟩, w, c, rfl, rfl, rfl, rfl⟩
    · rcases a with a | ⟨v, a, b⟩
      · exact absurd hz a
      · rcases h2 with ⟨-, rfl, rfl, rfl, rfl⟩ | ⟨-, ⟨v2, a2, b2⟩, -⟩
        · exact ⟨rfl, rfl, rfl, rfl⟩
        · have := isLr_u a (isLr_e hT hO a2)
          omega
    · rcases h2 with ⟨a2, rfl, rfl, rfl, rfl⟩ | ⟨-, -, w2, c2, rfl, rfl, rfl, rfl⟩
      · rcases a2 with a2 | ⟨v2, a2, b2⟩
        · exact absurd hz a2
        · have := isLr_u a (isLr_e hT hO a2)
          omega
      · have e := isWk_u c (isWk_e hT hO c2)
        have e2 : w = w2 := by omega
        subst e2
        exact ⟨rfl, rfl, rfl, rfl⟩
  · rcases h1 with ⟨-, rfl, rfl, rfl, rfl⟩ | ⟨a, -⟩
    · rcases h2 with ⟨-, rfl, rfl, rfl, rfl⟩ | ⟨a, -⟩
      · exact ⟨rfl, rfl, rfl, rfl⟩
      · exact absurd a hz
    · exact absurd a hz
/-- slopes that aren't there are empty -/
def emW (n : Nat) (W : WL9) : Prop := ∀ s, n ≤ s → s < 4 → (W.2 s).1 = 0 ∧ (W.2 s).2.2 = 0
theorem emW.ho {n : Nat} {tb op : Nat → Int} {air what much : Int} {z : Nat} {W : WL9} (h : emW n W) : emW n (hoW tb op air what much z n W) := fun s h1 h2 => by
  have e : (hoW tb op air what much z n W).2 s = W.2 s := (hoS_h (tb := tb) (op := op) (air := air) (what := what) (much := much) (z := z) (W := W) n).2.2 s h1
  rw [e]
  exact h s h1 h2
theorem emW.sl {n s : Nat} {t : Nat → Int} {S : SL9} {W : WL9} (h : emW n W) (hs : s < n) : emW n (t, uS W.2 s S) := fun k h1 h2 => by
  show (uS W.2 s S k).1 = 0 ∧ (uS W.2 s S k).2.2 = 0
  rw [uS_n _ _ (by omega)]
  exact h k h1 h2
theorem emW.cw {n : Nat} {ho ua : Int} {op ai fa mu tb : Nat → Int} {W : WL9} (h : emW n W) : ∀ k, emW n (cwC ho ua op ai fa mu tb n k W) := by
  intro k
  induction k with
  | zero => exact h
  | succ k ih =>
    show emW n (hwC ho ua op ai fa mu tb n (cwC ho ua op ai fa mu tb n k W))
    unfold hwC
    exact ih.ho
end
section
-- 9mo.pim.lean.txt
/-- the reference's image, if there is one: its rows and fields are those of such worlds -/
def imF (F : Nat → Int) : Nat → Int := fun k => if k = 15 then F 18 else if k = 16 then F 19 else F k
def imR (r : Nat → Int) : Nat → Int := fun j => if j < 350 then r (14700 + j) else r (j + 14350)
def okIX (F r : Nat → Int) (x : Int) (W : WL9) (na : Nat) (H : Nat → WL9) : Prop := F 21 = 0 ∨ okRX (imF F) (imR r) x W na H
theorem okRX.eq {F F' r r' : Nat → Int} {x y : Int} {W : WL9} {na : Nat} {H : Nat → WL9} (h : okRX F r x W na H) (hx : x ≤ y) (h1 : F' 15 = F 15) (h2 : F' 16 = F 16) (ea : ∀ q, q < 350 → r' q = r q) (eb : ∀ q, q < 14000 → r' (700 + q) = r (700 + q)) : okRX F' r' y W na H := h.nx hx h1 h2 (fun j hj => by
  by_cases e : j < 350
  · exact ea j e
  · have h9 := eb (j - 700) (by omega)
    rw [show 700 + (j - 700) = j by omega] at h9
    exact h9)
theorem okIX.nx {F F' r r' : Nat → Int} {x y : Int} {W : WL9} {na : Nat} {H : Nat → WL9} (h : okIX F r x W na H) (hx : x ≤ y) (h1 : F' 18 = F 18) (h2 : F' 19 = F 19) (h3 : F' 21 = F 21) (e : ∀ j, 14700 ≤ j → r' j = r j) : okIX F' r' y W na H := by
  rcases h with h | h
  · exact Or.inl (by omega)
  · refine Or.inr (h.eq hx h1 h2 (fun q hq => ?_) (fun q hq => ?_))
    · show (if q < 350 then r' (14700 + q) else r' (q + 14350)) = (if q < 350 then r (14700 + q) else r (q + 14350))
      rw [if_pos hq, if_pos hq]
      exact e _ (by omega)
    · show (if 700 + q < 350 then r' (14700 + (700 + q)) else r' (700 + q + 14350)) = (if 700 + q < 350 then r (14700 + (700 + q)) else r (700 + q + 14350))
      rw [if_neg (by omega), if_neg (by omega)]
      exact e _ (by omega)
theorem okRX.image {F F' r r' : Nat → Int} {x y : Int} {W : WL9} {na : Nat} {H : Nat → WL9} (h : okRX F r x W na H) (hx : x ≤ y) (h1 : F' 18 = F 15) (h2 : F' 19 = F 16) (ea : ∀ q, q < 350 → r' (14700 + q) = r q) (eb : ∀ q, q < 14000 → r' (15050 + q) = r (700 + q)) : okIX F' r' y W na H := by
  refine Or.inr (h.eq hx h1 h2 (fun q hq => ?_) (fun q hq => ?_))
  · show (if q < 350 then r' (14700 + q) else r' (q + 14350)) = r q
    rw [if_pos hq]
    exact ea q hq
  · show (if 700 + q < 350 then r' (14700 + (700 + q)) else r' (700 + q + 14350)) = r (700 + q)
    rw [if_neg (by omega), show 700 + q + 14350 = 15050 + q by omega]
    exact eb q hq
theorem okIX.restore {F F' r r' : Nat → Int} {x y : Int} {W : WL9} {na : Nat} {H : Nat → WL9} (h : okIX F r x W na H) (h21 : F 21 ≠ 0) (hx : x ≤ y) (h1 : F' 15 = F 18) (h2 : F' 16 = F 19) (ea : ∀ q, q < 350 → r' q = r (14700 + q)) (eb : ∀ q, q < 14000 → r' (700 + q) = r (15050 + q)) : okRX F' r' y W na H := by
  rcases h with h | h
  · exact absurd h h21
  · refine h.eq hx h1 h2 (fun q hq => ?_) (fun q hq => ?_)
    · show r' q = (if q < 350 then r (14700 + q) else r (q + 14350))
      rw [if_pos hq]
      exact ea q hq
    · show r' (700 + q) = (if 700 + q < 350 then r (14700 + (700 + q)) else r (700 + q + 14350))
      rw [if_neg (by omega), show 700 + q + 14350 = 15050 + q by omega]
      exact eb q hq
end
section
-- 9mu.pz.lean.txt
/-- the world of a fresh object -/
def zS9 : SL9 := (0, fun _ => 0, 0)
def zW9 : WL9 := (fun _ => 0, fun _ => zS9)
theorem zS9.ok {M E G : Int} (hM : 0 ≤ M) (hE : 0 ≤ E) : okSl M E G zS9 := ⟨⟨Nat.zero_le _, fun l hl => absurd hl (Nat.not_lt_zero l), (by decide : (0 : Int) ≤ 138500), (by decide : (0 : Int) ≤ 400000000)⟩, Int.le_refl _, (show (0 : Int) + 0 ≤ M by omega), hE, fun l hl => absurd hl (Nat.not_lt_zero l)⟩
theorem zS9.sx {X : Int} (hX : 0 ≤ X) : okSx X zS9 := ⟨fun l hl => absurd hl (Nat.not_lt_zero l), hX⟩
theorem zW9.ok {x X : Int} (hx : 0 ≤ x) (hX : 0 ≤ X) : okWl x X zW9 := by
  have e1 : mB ((0 : Int) + x) = 2400 + 50 * ((0 : Int) + x) := rfl
  have e2 : eB ((0 : Int) + x) = 12000 + 139000 * ((0 : Int) + x) := rfl
  refine ⟨fun s hs => ⟨?_, zS9.sx hX⟩, ?_, ?_, ?_⟩
  · show okSl (mB ((0 : Int) + x)) (eB ((0 : Int) + x)) 0 zS9
    exact zS9.ok (by omega) (by omega)
  · show (0 : Int) ≤ 0 ∧ (0 : Int) ≤ 2180
    omega
  · show (0 : Int) ≤ 0 ∧ (0 : Int) ≤ 900 + 4 * (0 + x)
    omega
  · show (0 : Int) ≤ 0 ∧ (0 : Int) ≤ 6
    omega
theorem zW9.wx {x : Int} (hx : 0 ≤ x) : okWx x zW9 := ⟨zW9.ok hx (by omega), (by decide : (0 : Int) ≤ 2000)⟩
theorem isWr.zero {r : Nat → Int} {b : Nat} (h : ∀ j, b ≤ j → j < b + 350 → r j = 0) : isWr r b zW9 := ⟨fun k hk => h _ (by omega) (by omega), fun s hs => ⟨h _ (by omega) (by omega), h _ (by omega) (by omega), fun q hq => absurd hq (Nat.not_lt_zero q)⟩⟩
theorem okRX.fresh {F r : Nat → Int} {x : Int} {H : Nat → WL9} (h15 : F 15 = 0) (h16 : F 16 = 0) (hr : ∀ j, j < 350 → r j = 0) (hx : 0 ≤ x) : okRX F r x zW9 0 H := ⟨⟨isWr.zero (fun j _ h => hr j (by omega)), zW9.wx hx⟩, ⟨0, ⟨h15, h16⟩, ⟨by omega, by omega⟩, fun k hk => absurd hk (Nat.not_lt_zero k)⟩, fun k hk => absurd hk (Nat.not_lt_zero k)⟩
theorem emW.zero (n : Nat) : emW n zW9 := fun _ _ _ => ⟨rfl, rfl⟩
end
section
-- 9n1.pps.lean.txt
/-- a told layer, in the class's layout -/
def lyL (C : Nat → Int) (l : Nat) : Prop := (0 ≤ C (12 * 0 + l) ∧ C (12 * 0 + l) ≤ 4) ∧ (1 ≤ C (12 * 1 + l) ∧ C (12 * 1 + l) ≤ 99) ∧ (0 ≤ C (12 * 2 + l) ∧ C (12 * 2 + l) ≤ 99) ∧ (C (12 * 1 + l) + C (12 * 2 + l) ≤ C (12 * 3 + l) ∧ C (12 * 3 + l) ≤ 999) ∧ (-300 ≤ C (12 * 4 + l) ∧ C (12 * 4 + l) ≤ 0) ∧ C (12 * 5 + l) = 0 ∧ 0 ≤ C (12 * 6 + l) ∧ C (12 * 6 + l) ≤ 48
def okPS (s : Int × Int × Int × (Nat → Int) × (Nat → Int) × (Nat → Int) × (Nat → Int) × (Nat → Int) × (Nat → Int) × (Nat → Int) × (Nat → Int) × (Nat → Nat → Int)) : Prop := ((0 ≤ s.1 ∧ s.1 ≤ 4) ∧ (0 ≤ s.2.1 ∧ s.2.1 ≤ 24)) ∧ (∀ k : Nat, (k : Int) < s.1 → (0 ≤ s.2.2.2.2.1 k ∧ s.2.2.2.2.1 k ≤ 90) ∧ 0 ≤ s.2.2.2.2.2.1 k ∧ s.2.2.2.2.2.1 k ≤ 20) ∧ (∀ k : Nat, (k : Int) < s.2.1 → (-300 ≤ s.2.2.2.2.2.2.1 k ∧ s.2.2.2.2.2.2.1 k ≤ 100) ∧ (0 ≤ s.2.2.2.2.2.2.2.1 k ∧ s.2.2.2.2.2.2.2.1 k ≤ 3) ∧ (0 ≤ s.2.2.2.2.2.2.2.2.1 k ∧ s.2.2.2.2.2.2.2.2.1 k ≤ 50) ∧ (s.2.2.2.2.2.2.2.1 k = 1 ∨ s.2.2.2.2.2.2.2.1 k = 2 → 1 ≤ s.2.2.2.2.2.2.2.2.1 k)) ∧ okTb s.2.2.2.2.2.2.2.2.2.1 ∧ ((∀ k, k < 4 → 0 ≤ s.2.2.2.1 k ∧ s.2.2.2.1 k ≤ 12) ∧ ∀ k : Nat, s.1 ≤ (k : Int) → s.2.2.2.1 k = 0) ∧ (0 ≤ s.2.2.1 ∧ s.2.2.1 ≤ s.2.2.2.1 0 + s.2.2.2.1 1 + s.2.2.2.1 2 + s.2.2.2.1 3) ∧ ∀ j l : Nat, (j : Int) < s.1 → (l : Int) < s.2.2.2.1 j → lyL (s.2.2.2.2.2.2.2.2.2.2.2 j) l
theorem tk_nu_ok {T : Nat → Int} {n f : Nat} {lo hi : Int} {a : Int × Nat} (h : tk_nu T n lo hi f = .ok a) : lo ≤ a.1 ∧ a.1 ≤ hi := by
  unfold tk_nu at h
  by_cases h1 : tk_so T n f ≠ 2
  · rw [if_pos h1] at h; cases h
  · rw [if_neg h1] at h
    by_cases h2 : ¬ (lo ≤ tk_va T n f ∧ tk_va T n f ≤ hi)
    · rw [if_pos h2] at h; cases h
    · rw [if_neg h2] at h
      cases h
      exact Decidable.not_not.mp h2
theorem cl_slope_ok {T : Nat → Int} {n f : Nat} {sl : Int} {v : (Int × Int) × Nat} (h : cl_slope T n sl f = .ok v) : sl < 4 ∧ (0 ≤ v.1.1 ∧ v.1.1 ≤ 90) ∧ 0 ≤ v.1.2 ∧ v.1.2 ≤ 20 := by
  unfold cl_slope at h
  by_cases h1 : 4 ≤ sl
  · rw [if_pos h1] at h; cases h
  · rw [if_neg h1] at h
    cases h2 : tk_nu T n 0 90 (tk_nx T n f) with
    | error e => simp only [h2] at h; cases h
    | ok a =>
      simp only [h2] at h
      cases h3 : tk_nu T n 0 20 a.2 with
      | error e => simp only [h3] at h; cases h
      | ok b =>
        simp only [h3] at h
        cases h
        exact ⟨by omega, tk_nu_ok h2, tk_nu_ok h3⟩
theorem tk_fa_b (T : Nat → Int) (n f : Nat) : 0 ≤ tk_fa T n f ∧ tk_fa T n f ≤ 3 := by
  unfold tk_fa
  split <;> omega
theorem cl_hour2_ok {T : Nat → Int} {n f : Nat} {a : Int} {v : (Int × Int × Int) × Nat} (h : cl_hour2 T n a f = .ok v) : v.1.1 = a ∧ (0 ≤ v.1.2.1 ∧ v.1.2.1 ≤ 3) ∧ (0 ≤ v.1.2.2 ∧ v.1.2.2 ≤ 50) ∧ (v.1.2.1 = 1 ∨ v.1.2.1 = 2 → 1 ≤ v.1.2.2) := by
  have hb := tk_fa_b T n f
  unfold cl_hour2 at h
  by_cases h1 : tk_fa T n f = 0
  · rw [if_pos h1] at h; cases h
    exact ⟨rfl, (show (0 : Int) ≤ 0 ∧ (0 : Int) ≤ 3 by decide), (show (0 : Int) ≤ 0 ∧ (0 : Int) ≤ 50 by decide), fun e => absurd (show (0 : Int) = 1 ∨ (0 : Int) = 2 from e) (by decide)⟩
  · rw [if_neg h1] at h
    by_cases h2 : tk_fa T n f = 3
    · rw [if_pos h2] at h; cases h
      refine ⟨rfl, hb, (show (0 : Int) ≤ 0 ∧ (0 : Int) ≤ 50 by decide), fun e => ?_⟩
      have e2 : tk_fa T n f = 1 ∨ tk_fa T n f = 2 := e
      omega
    · rw [if_neg h2] at h
      cases h3 : tk_nu T n 1 50 (tk_nx T n f) with
      | error e => simp only [h3] at h; cases h
      | ok b =>
        simp only [h3] at h
        cases h
        have h4 := tk_nu_ok h3
        exact ⟨rfl, hb, (show 0 ≤ b.1 ∧ b.1 ≤ 50 by omega), fun _ => (show 1 ≤ b.1 by omega)⟩
theorem cl_hour_ok {T : Nat → Int} {n f : Nat} {ho : Int} {v : (Int × Int × Int) × Nat} (h : cl_hour T n ho f = .ok v) : ho < 24 ∧ (-300 ≤ v.1.1 ∧ v.1.1 ≤ 100) ∧ (0 ≤ v.1.2.1 ∧ v.1.2.1 ≤ 3) ∧ (0 ≤ v.1.2.2 ∧ v.1.2.2 ≤ 50) ∧ (v.1.2.1 = 1 ∨ v.1.2.1 = 2 → 1 ≤ v.1.2.2) := by
  unfold cl_hour at h
  by_cases h1 : 24 ≤ ho
  · rw [if_pos h1] at h; cases h
  · rw [if_neg h1] at h
    by_cases h2 : tk_so T n (tk_nx T n f) = 4
    · rw [if_pos h2] at h
      cases h3 : tk_nu T n 0 300 (tk_nx T n (tk_nx T n f)) with
      | error e => simp only [h3] at h; cases h
      | ok a =>
        simp only [h3] at h
        have h4 := tk_nu_ok h3
        obtain ⟨b1, b2⟩ := cl_hour2_ok h
        exact ⟨by omega, by omega, b2⟩
    · rw [if_neg h2] at h
      cases h3 : tk_nu T n 0 100 (tk_nx T n f) with
      | error e => simp only [h3] at h; cases h
      | ok a =>
        simp only [h3] at h
        have h4 := tk_nu_ok h3
        obtain ⟨b1, b2⟩ := cl_hour2_ok h
        exact ⟨by omega, by omega, b2⟩
theorem cl_table_ok {T : Nat → Int} {n f : Nat} {td : Nat → Int} {row lo hi : Int} {v : (Int × Int) × Nat} (h : cl_table T n td row lo hi f = .ok v) : (row ≤ v.1.1 ∧ v.1.1 ≤ row + 4) ∧ lo ≤ v.1.2 ∧ v.1.2 ≤ hi := by
  have hb := tk_kd_b T n (tk_nx T n f)
  unfold cl_table at h
  by_cases h1 : tk_kd T n (tk_nx T n f) = -1
  · rw [if_pos h1] at h; cases h
  · rw [if_neg h1] at h
    by_cases h2 : td (row + tk_kd T n (tk_nx T n f)).toNat = 1
    · rw [if_pos h2] at h; cases h
    · rw [if_neg h2] at h
      cases h3 : tk_nu T n lo hi (tk_nx T n (tk_nx T n f)) with
      | error e => simp only [h3] at h; cases h
      | ok a =>
        simp only [h3] at h
        cases h
        exact ⟨(show row ≤ row + tk_kd T n (tk_nx T n f) ∧ row + tk_kd T n (tk_nx T n f) ≤ row + 4 by omega), tk_nu_ok h3⟩
theorem cl_layer2_ok {T : Nat → Int} {n f : Nat} {s k : Int} {v : (Int × Int × Int × Int × Int × Int) × Nat} (h : cl_layer2 T n s k f = .ok v) : (v.1.1 = s ∧ v.1.2.1 = k) ∧ (1 ≤ v.1.2.2.1 ∧ v.1.2.2.1 ≤ 99) ∧ (0 ≤ v.1.2.2.2.1 ∧ v.1.2.2.2.1 ≤ 99) ∧ (v.1.2.2.1 + v.1.2.2.2.1 ≤ v.1.2.2.2.2.1 ∧ v.1.2.2.2.2.1 ≤ 999) ∧ -300 ≤ v.1.2.2.2.2.2 ∧ v.1.2.2.2.2.2 ≤ 0 := by
  unfold cl_layer2 at h
  cases h1 : tk_nu T n 1 99 f with
  | error e => simp only [h1] at h; cases h
  | ok i =>
    simp only [h1] at h
    cases h2 : tk_nu T n 0 99 i.2 with
    | error e => simp only [h2] at h; cases h
    | ok w =>
      simp only [h2] at h
      cases h3 : tk_nu T n 1 999 w.2 with
      | error e => simp only [h3] at h; cases h
      | ok d =>
        simp only [h3] at h
        by_cases h4 : d.1 < i.1 + w.1
        · rw [if_pos h4] at h; cases h
        · rw [if_neg h4] at h
          cases h5 : tk_nu T n 0 300 d.2 with
          | error e => simp only [h5] at h; cases h
          | ok c =>
            simp only [h5] at h
            cases h
            have b1 := tk_nu_ok h1
            have b2 := tk_nu_ok h2
            have b3 := tk_nu_ok h3
            have b5 := tk_nu_ok h5
            exact ⟨⟨rfl, rfl⟩, b1, b2, (show i.1 + w.1 ≤ d.1 ∧ d.1 ≤ 999 by omega), (show -300 ≤ -c.1 ∧ -c.1 ≤ 0 by omega)⟩
theorem cl_layer_ok {T : Nat → Int} {n f : Nat} {sl : Int} {mn : Nat → Int} {v : (Int × Int × Int × Int × Int × Int) × Nat} (h : cl_layer T n sl mn f = .ok v) : (0 ≤ v.1.1 ∧ v.1.1 ≤ 3 ∧ v.1.1 < sl ∧ mn v.1.1.toNat < 12) ∧ (0 ≤ v.1.2.1 ∧ v.1.2.1 ≤ 4) ∧ (1 ≤ v.1.2.2.1 ∧ v.1.2.2.1 ≤ 99) ∧ (0 ≤ v.1.2.2.2.1 ∧ v.1.2.2.2.1 ≤ 99) ∧ (v.1.2.2.1 + v.1.2.2.2.1 ≤ v.1.2.2.2.2.1 ∧ v.1.2.2.2.2.1 ≤ 999) ∧ -300 ≤ v.1.2.2.2.2.2 ∧ v.1.2.2.2.2.2 ≤ 0 := by
  unfold cl_layer at h
  cases h1 : tk_nu T n 0 3 (tk_nx T n f) with
  | error e => simp only [h1] at h; cases h
  | ok s =>
    simp only [h1] at h
    have b1 := tk_nu_ok h1
    by_cases h2 : sl ≤ s.1
    · rw [if_pos h2] at h; cases h
    · rw [if_neg h2] at h
      by_cases h3 : 12 ≤ mn s.1.toNat
      · rw [if_pos h3] at h; cases h
      · rw [if_neg h3] at h
        have hb := tk_kd_b T n s.2
        by_cases h4 : tk_kd T n s.2 = -1
        · rw [if_pos h4] at h; cases h
        · rw [if_neg h4] at h
          obtain ⟨⟨c1, c2⟩, c3⟩ := cl_layer2_ok h
          exact ⟨by rw [c1]; omega, by omega, c3⟩
theorem cl_fin_ok {a : Type} {T : Nat → Int} {n : Nat} {x : Except (Int × Nat) (a × Nat)} {v : a × Nat} (h : cl_fin T n x = .ok v) : ∃ u : a × Nat, x = .ok u ∧ u.1 = v.1 := by
  cases x with
  | error e => cases h
  | ok u =>
    unfold cl_fin at h
    simp only at h
    by_cases h1 : tk_so T n u.2 = 3
    · rw [if_pos h1] at h; cases h
      exact ⟨u, rfl, rfl⟩
    · rw [if_neg h1] at h; cases h
theorem okTb.put {tb : Nat → Int} {k : Nat} {v : Int} (h : okTb tb) (h1 : k < 10 → 0 ≤ v ∧ v ≤ 99) (h2 : 10 ≤ k → 1 ≤ v ∧ v ≤ 9999) : okTb (uZ tb k v) := by
  refine ⟨fun j hj => ?_, fun j a b => ?_⟩
  · by_cases e : j = k
    · rw [e, uZ_s]; exact h1 (by omega)
    · rw [uZ_n _ _ e]; exact h.1 j hj
  · by_cases e : j = k
    · rw [e, uZ_s]; exact h2 (by omega)
    · rw [uZ_n _ _ e]; exact h.2 j a b
theorem okPS.slope {s : Int × Int × Int × (Nat → Int) × (Nat → Int) × (Nat → Int) × (Nat → Int) × (Nat → Int) × (Nat → Int) × (Nat → Int) × (Nat → Int) × (Nat → Nat → Int)} (h : okPS s) {a b : Int} (h4 : s.1 < 4) (ha : 0 ≤ a ∧ a ≤ 90) (hb : 0 ≤ b ∧ b ≤ 20) : okPS (s.1 + 1, s.2.1, s.2.2.1, s.2.2.2.1, uZ s.2.2.2.2.1 (s.1).toNat a, uZ s.2.2.2.2.2.1 (s.1).toNat b, s.2.2.2.2.2.2.1, s.2.2.2.2.2.2.2.1, s.2.2.2.2.2.2.2.2.1, s.2.2.2.2.2.2.2.2.2.1, s.2.2.2.2.2.2.2.2.2.2.1, s.2.2.2.2.2.2.2.2.2.2.2) := by
  obtain ⟨⟨h1, h2⟩, h3, h5, h6, ⟨h7, h8⟩, h9, h10⟩ := h
  refine ⟨⟨(show 0 ≤ s.1 + 1 ∧ s.1 + 1 ≤ 4 by omega), h2⟩, fun k hk => ?_, h5, h6, ⟨h7, fun k hk => h8 k (by have e : s.1 + 1 ≤ (k : Int) := hk; omega)⟩, h9, fun j l hj hl => ?_⟩
  · have hk2 : (k : Int) < s.1 + 1 := hk
    show (0 ≤ uZ s.2.2.2.2.1 (s.1).toNat a k ∧ uZ s.2.2.2.2.1 (s.1).toNat a k ≤ 90) ∧ 0 ≤ uZ s.2.2.2.2.2.1 (s.1).toNat b k ∧ uZ s.2.2.2.2.2.1 (s.1).toNat b k ≤ 20
    by_cases e : k = (s.1).toNat
    · rw [e, uZ_s, uZ_s]; exact ⟨ha, hb⟩
    · rw [uZ_n _ _ e, uZ_n _ _ e]; exact h3 k (by omega)
  · have hj2 : (j : Int) < s.1 + 1 := hj
    have hl2 : (l : Int) < s.2.2.2.1 j := hl
    by_cases e : (j : Int) < s.1
    · exact h10 j l e hl2
    · have := h8 j (by omega)
      omega
theorem okPS.hour {s : Int × Int × Int × (Nat → Int) × (Nat → Int) × (Nat → Int) × (Nat → Int) × (Nat → Int) × (Nat → Int) × (Nat → Int) × (Nat → Int) × (Nat → Nat → Int)} (h : okPS s) {a b c : Int} (h4 : s.2.1 < 24) (ha : -300 ≤ a ∧ a ≤ 100) (hb : 0 ≤ b ∧ b ≤ 3) (hc : 0 ≤ c ∧ c ≤ 50) (hbc : b = 1 ∨ b = 2 → 1 ≤ c) : okPS (s.1, s.2.1 + 1, s.2.2.1, s.2.2.2.1, s.2.2.2.2.1, s.2.2.2.2.2.1, uZ s.2.2.2.2.2.2.1 (s.2.1).toNat a, uZ s.2.2.2.2.2.2.2.1 (s.2.1).toNat b, uZ s.2.2.2.2.2.2.2.2.1 (s.2.1).toNat c, s.2.2.2.2.2.2.2.2.2.1, s.2.2.2.2.2.2.2.2.2.2.1, s.2.2.2.2.2.2.2.2.2.2.2) := by
  obtain ⟨⟨h1, h2⟩, h3, h5, h6⟩ := h
  refine ⟨⟨h1, (show 0 ≤ s.2.1 + 1 ∧ s.2.1 + 1 ≤ 24 by omega)⟩, h3, fun k hk => ?_, h6⟩
  have hk2 : (k : Int) < s.2.1 + 1 := hk
  show (-300 ≤ uZ s.2.2.2.2.2.2.1 (s.2.1).toNat a k ∧ uZ s.2.2.2.2.2.2.1 (s.2.1).toNat a k ≤ 100) ∧ (0 ≤ uZ s.2.2.2.2.2.2.2.1 (s.2.1).toNat b k ∧ uZ s.2.2.2.2.2.2.2.1 (s.2.1).toNat b k ≤ 3) ∧ (0 ≤ uZ s.2.2.2.2.2.2.2.2.1 (s.2.1).toNat c k ∧ uZ s.2.2.2.2.2.2.2.2.1 (s.2.1).toNat c k ≤ 50) ∧ (uZ s.2.2.2.2.2.2.2.1 (s.2.1).toNat b k = 1 ∨ uZ s.2.2.2.2.2.2.2.1 (s.2.1).toNat b k = 2 → 1 ≤ uZ s.2.2.2.2.2.2.2.2.1 (s.2.1).toNat c k)
  by_cases e : k = (s.2.1).toNat
  · rw [e, uZ_s, uZ_s, uZ_s]; exact ⟨ha, hb, hc, hbc⟩
  · rw [uZ_n _ _ e, uZ_n _ _ e, uZ_n _ _ e]; exact h5 k (by omega)
theorem okPS.table {s : Int × Int × Int × (Nat → Int) × (Nat → Int) × (Nat → Int) × (Nat → Int) × (Nat → Int) × (Nat → Int) × (Nat → Int) × (Nat → Int) × (Nat → Nat → Int)} (h : okPS s) {k : Nat} {v : Int} {td : Nat → Int} (h1 : k < 10 → 0 ≤ v ∧ v ≤ 99) (h2 : 10 ≤ k → 1 ≤ v ∧ v ≤ 9999) : okPS (s.1, s.2.1, s.2.2.1, s.2.2.2.1, s.2.2.2.2.1, s.2.2.2.2.2.1, s.2.2.2.2.2.2.1, s.2.2.2.2.2.2.2.1, s.2.2.2.2.2.2.2.2.1, uZ s.2.2.2.2.2.2.2.2.2.1 k v, td, s.2.2.2.2.2.2.2.2.2.2.2) := by
  obtain ⟨a1, a2, a3, a4, a5⟩ := h
  exact ⟨a1, a2, a3, a4.put h1 h2, a5⟩
theorem okPS.layer {s : Int × Int × Int × (Nat → Int) × (Nat → Int) × (Nat → Int) × (Nat → Int) × (Nat → Int) × (Nat → Int) × (Nat → Int) × (Nat → Int) × (Nat → Nat → Int)} (h : okPS s) {z kd i1 w1 d1 c1 : Int} (hz : 0 ≤ z ∧ z ≤ 3 ∧ z < s.1 ∧ s.2.2.2.1 z.toNat < 12) (hk : 0 ≤ kd ∧ kd ≤ 4) (hi : 1 ≤ i1 ∧ i1 ≤ 99) (hw : 0 ≤ w1 ∧ w1 ≤ 99) (hd : i1 + w1 ≤ d1 ∧ d1 ≤ 999) (hc : -300 ≤ c1 ∧ c1 ≤ 0) : okPS (s.1, s.2.1, s.2.2.1 + 1, uZ s.2.2.2.1 z.toNat (s.2.2.2.1 z.toNat + 1), s.2.2.2.2.1, s.2.2.2.2.2.1, s.2.2.2.2.2.2.1, s.2.2.2.2.2.2.2.1, s.2.2.2.2.2.2.2.2.1, s.2.2.2.2.2.2.2.2.2.1, s.2.2.2.2.2.2.2.2.2.2.1, fun j => if j = z.toNat then la_ (s.2.2.2.2.2.2.2.2.2.2.2 z.toNat) (s.2.2.2.1 z.toNat) kd i1 w1 d1 c1 (s.2.2.1) else s.2.2.2.2.2.2.2.2.2.2.2 j) := by
  obtain ⟨h0, h3, h5, h6, ⟨h7, h8⟩, h9, h10⟩ := h
  obtain ⟨k, hk4⟩ : ∃ k : Nat, z = (k : Int) := ⟨z.toNat, by omega⟩
  subst hk4
  rw [Int.toNat_natCast] at *
  obtain ⟨z1, z2, z3, z4⟩ := hz
  have m0 := h7 0 (by decide)
  have m1 := h7 1 (by decide)
  have m2 := h7 2 (by decide)
  have m3 := h7 3 (by decide)
  have hs : uZ s.2.2.2.1 k (s.2.2.2.1 k + 1) 0 + uZ s.2.2.2.1 k (s.2.2.2.1 k + 1) 1 + uZ s.2.2.2.1 k (s.2.2.2.1 k + 1) 2 + uZ s.2.2.2.1 k (s.2.2.2.1 k + 1) 3 = s.2.2.2.1 0 + s.2.2.2.1 1 + s.2.2.2.1 2 + s.2.2.2.1 3 + 1 := by
    rcases (show k = 0 ∨ k = 1 ∨ k = 2 ∨ k = 3 by omega) with rfl | rfl | rfl | rfl
    · rw [uZ_s, uZ_n _ _ (by decide), uZ_n _ _ (by decide), uZ_n _ _ (by decide)]; omega
    · rw [uZ_n _ _ (by decide), uZ_s, uZ_n _ _ (by decide), uZ_n _ _ (by decide)]; omega
    · rw [uZ_n _ _ (by decide), uZ_n _ _ (by decide), uZ_s, uZ_n _ _ (by decide)]; omega
    · rw [uZ_n _ _ (by decide), uZ_n _ _ (by decide), uZ_n _ _ (by decide), uZ_s]; omega
  refine ⟨h0, h3, h5, h6, ⟨fun j hj => ?_, fun j hj => ?_⟩, ?_, fun j l hj hl => ?_⟩
  · show 0 ≤ uZ s.2.2.2.1 k (s.2.2.2.1 k + 1) j ∧ uZ s.2.2.2.1 k (s.2.2.2.1 k + 1) j ≤ 12
    have hm := h7 j hj
    by_cases e : j = k
    · rw [e] at hm ⊢; rw [uZ_s]; omega
    · rw [uZ_n _ _ e]; exact hm
  · show uZ s.2.2.2.1 k (s.2.2.2.1 k + 1) j = 0
    have hj2 : s.1 ≤ (j : Int) := hj
    rw [uZ_n _ _ (by omega)]
    exact h8 j hj2
  · show 0 ≤ s.2.2.1 + 1 ∧ s.2.2.1 + 1 ≤ uZ s.2.2.2.1 k (s.2.2.2.1 k + 1) 0 + uZ s.2.2.2.1 k (s.2.2.2.1 k + 1) 1 + uZ s.2.2.2.1 k (s.2.2.2.1 k + 1) 2 + uZ s.2.2.2.1 k (s.2.2.2.1 k + 1) 3
    omega
  · show lyL (if j = k then la_ (s.2.2.2.2.2.2.2.2.2.2.2 k) (s.2.2.2.1 k) kd i1 w1 d1 c1 (s.2.2.1) else s.2.2.2.2.2.2.2.2.2.2.2 j) l
    have hl2 : (l : Int) < uZ s.2.2.2.1 k (s.2.2.2.1 k + 1) j := hl
    have hj2 : (j : Int) < s.1 := hj
    by_cases e : j = k
    · rw [if_pos e]
      rw [e, uZ_s] at hl2
      have hmk := h7 k (by omega)
      obtain ⟨m, hm⟩ : ∃ m : Nat, s.2.2.2.1 k = (m : Int) := ⟨(s.2.2.2.1 k).toNat, by omega⟩
      rw [hm] at hl2 z4 hmk ⊢
      have la : ∀ f, f < 7 → la_ (s.2.2.2.2.2.2.2.2.2.2.2 k) (m : Int) kd i1 w1 d1 c1 (s.2.2.1) (12 * f + l) = if l = m then ([kd, i1, w1, d1, c1, 0, s.2.2.1] : List Int).getD f 0 else s.2.2.2.2.2.2.2.2.2.2.2 k (12 * f + l) := fun f hf => la_at (by omega) (by omega) hf kd i1 w1 d1 c1 _
      unfold lyL
      rw [la 0 (by decide), la 1 (by decide), la 2 (by decide), la 3 (by decide), la 4 (by decide), la 5 (by decide), la 6 (by decide)]
      by_cases e2 : l = m
      · simp only [if_pos e2]
        exact ⟨hk, hi, hw, hd, hc, rfl, (show 0 ≤ s.2.2.1 ∧ s.2.2.1 ≤ 48 by omega)⟩
      · simp only [if_neg e2]
        exact h10 k l (by omega) (by omega)
    · rw [if_neg e]
      rw [uZ_n _ _ e] at hl2
      exact h10 j l hj2 hl2
theorem okPS.step {T : Nat → Int} {n f : Nat} {s : Int × Int × Int × (Nat → Int) × (Nat → Int) × (Nat → Int) × (Nat → Int) × (Nat → Int) × (Nat → Int) × (Nat → Int) × (Nat → Int) × (Nat → Nat → Int)} {v : (Int × Int × Int × (Nat → Int) × (Nat → Int) × (Nat → Int) × (Nat → Int) × (Nat → Int) × (Nat → Int) × (Nat → Int) × (Nat → Int) × (Nat → Nat → Int)) × Nat} (h : okPS s) (hs : ps_step T n s f = .ok v) : okPS v.1 := by
  unfold ps_step at hs
  by_cases h0 : tk_w T n f = 0
  · rw [if_pos h0] at hs
    cases hc : cl_fin T n (cl_slope T n s.1 f) with
    | error e => simp only [hc] at hs; cases hs
    | ok u =>
      simp only [hc] at hs
      cases hs
      obtain ⟨u2, e1, e2⟩ := cl_fin_ok hc
      have e3 := cl_slope_ok e1
      rw [e2] at e3
      exact h.slope e3.1 e3.2.1 e3.2.2
  rw [if_neg h0] at hs
  by_cases h1 : tk_w T n f = 1
  · rw [if_pos h1] at hs
    cases hc : cl_fin T n (cl_layer T n s.1 s.2.2.2.1 f) with
    | error e => simp only [hc] at hs; cases hs
    | ok u =>
      simp only [hc] at hs
      cases hs
      obtain ⟨u2, e1, e2⟩ := cl_fin_ok hc
      have e3 := cl_layer_ok e1
      rw [e2] at e3
      obtain ⟨b1, b2, b3, b4, b5, b6⟩ := e3
      exact h.layer b1 b2 b3 b4 b5 b6
  rw [if_neg h1] at hs
  by_cases h2 : tk_w T n f = 2
  · rw [if_pos h2] at hs
    cases hc : cl_fin T n (cl_hour T n s.2.1 f) with
    | error e => simp only [hc] at hs; cases hs
    | ok u =>
      simp only [hc] at hs
      cases hs
      obtain ⟨u2, e1, e2⟩ := cl_fin_ok hc
      have e3 := cl_hour_ok e1
      rw [e2] at e3
      exact h.hour e3.1 e3.2.1 e3.2.2.1 e3.2.2.2.1 e3.2.2.2.2
  rw [if_neg h2] at hs
  by_cases h6 : tk_w T n f = 6
  · rw [if_pos h6] at hs
    cases hc : cl_fin T n (cl_table T n s.2.2.2.2.2.2.2.2.2.2.1 0 0 99 f) with
    | error e => simp only [hc] at hs; cases hs
    | ok u =>
      simp only [hc] at hs
      cases hs
      obtain ⟨u2, e1, e2⟩ := cl_fin_ok hc
      have e3 := cl_table_ok e1
      rw [e2] at e3
      obtain ⟨b1, b2⟩ := e3
      exact h.table (fun _ => by omega) (fun _ => by omega)
  rw [if_neg h6] at hs
  by_cases h7 : tk_w T n f = 7
  · rw [if_pos h7] at hs
    cases hc : cl_fin T n (cl_table T n s.2.2.2.2.2.2.2.2.2.2.1 5 0 99 f) with
    | error e => simp only [hc] at hs; cases hs
    | ok u =>
      simp only [hc] at hs
      cases hs
      obtain ⟨u2, e1, e2⟩ := cl_fin_ok hc
      have e3 := cl_table_ok e1
      rw [e2] at e3
      obtain ⟨b1, b2⟩ := e3
      exact h.table (fun _ => by omega) (fun _ => by omega)
  rw [if_neg h7] at hs
  by_cases h8 : tk_w T n f = 8
  · rw [if_pos h8] at hs
    cases hc : cl_fin T n (cl_table T n s.2.2.2.2.2.2.2.2.2.2.1 10 1 9999 f) with
    | error e => simp only [hc] at hs; cases hs
    | ok u =>
      simp only [hc] at hs
      cases hs
      obtain ⟨u2, e1, e2⟩ := cl_fin_ok hc
      have e3 := cl_table_ok e1
      rw [e2] at e3
      obtain ⟨b1, b2⟩ := e3
      exact h.table (fun _ => by omega) (fun _ => by omega)
  rw [if_neg h8] at hs
  cases hs
theorem okPS.run {T : Nat → Int} {n : Nat} : ∀ (k : Nat) (s : Int × Int × Int × (Nat → Int) × (Nat → Int) × (Nat → Int) × (Nat → Int) × (Nat → Int) × (Nat → Int) × (Nat → Int) × (Nat → Int) × (Nat → Nat → Int)) (f : Nat) (r : (Int × Int) × (Int × Int × Int × (Nat → Int) × (Nat → Int) × (Nat → Int) × (Nat → Int) × (Nat → Int) × (Nat → Int) × (Nat → Int) × (Nat → Int) × (Nat → Nat → Int))), okPS s → ps_run T n k s f = some r → okPS r.2 := by
  intro k
  induction k with
  | zero => intro s f r h hr; exact absurd hr (by simp [ps_run])
  | succ k ih =>
    intro s f r h hr
    simp only [ps_run] at hr
    by_cases e : tk_so T n f = 0
    · rw [if_pos e] at hr; cases hr; exact h
    · rw [if_neg e] at hr
      cases hs : ps_step T n s f with
      | error e2 => simp only [hs] at hr; cases hr; exact h
      | ok v => simp only [hs] at hr; exact ih v.1 v.2 r (h.step hs) hr
theorem okTb.std : okTb tabZ := by
  have h : ∀ j : Fin 15, (j.val < 10 → 0 ≤ tabZ j.val ∧ tabZ j.val ≤ 99) ∧ (10 ≤ j.val → 1 ≤ tabZ j.val ∧ tabZ j.val ≤ 9999) := by decide
  exact ⟨fun k hk => (h ⟨k, by omega⟩).1 hk, fun k a b => (h ⟨k, b⟩).2 a⟩
theorem okPS.start (st0 op0 ai0 fa0 mu0 : Nat → Int) (L0 : Nat → Nat → Int) : okPS (0, 0, 0, (fun _ => 0), st0, op0, ai0, fa0, mu0, tabZ, (fun _ => 0), L0) :=
  ⟨⟨(by decide : (0 : Int) ≤ 0 ∧ (0 : Int) ≤ 4), (by decide : (0 : Int) ≤ 0 ∧ (0 : Int) ≤ 24)⟩, fun k hk => absurd (show (k : Int) < 0 from hk) (by omega), fun k hk => absurd (show (k : Int) < 0 from hk) (by omega), okTb.std, ⟨fun k hk => (by decide : (0 : Int) ≤ 0 ∧ (0 : Int) ≤ 12), fun k hk => rfl⟩, (by decide : (0 : Int) ≤ 0 ∧ (0 : Int) ≤ 0 + 0 + 0 + 0), fun j l hj hl => absurd (show (j : Int) < 0 from hj) (by omega)⟩
/-- the world that is told -/
def tW9 (nm : Int) (mn : Nat → Int) (L : Nat → Nat → Int) : WL9 := (fun k => if k = 1 then nm else 0, fun j => ((mn j).toNat, fun q => L j (12 * (q % 7) + q / 7), 0))
theorem tW_wl {cs : Nat → ClassId} {ad : Nat → Nat} {g : Nat → va_E} {a : Nat} {wt mn : Nat → Int} {L : Nat → Nat → Int} {nm : Int} (h : isWorld cs ad g a wt mn (fun _ => 0) L) (hm : ∀ k, k < 4 → 0 ≤ mn k ∧ mn k ≤ 12) (h0 : ∀ k, k < 6 → k ≠ 1 → wt k = 0) (h1 : wt 1 = nm) : isWl cs ad g a (tW9 nm mn L) := by
  obtain ⟨h2, h3, h4⟩ := h
  refine ⟨?_, h3, fun k hk => ⟨L k, ?_, fun j f hj hf => ?_⟩⟩
  · rw [h0 0 (by decide) (by decide), h1, h0 2 (by decide) (by decide), h0 3 (by decide) (by decide), h0 4 (by decide) (by decide), h0 5 (by decide) (by decide)] at h2
    exact h2
  · have h5 := h4 k hk
    have h6 := hm k hk
    show isPack cs ad g (a + 2 + 2 * k) (((mn k).toNat : Nat) : Int) 0 (L k)
    rw [Int.toNat_of_nonneg h6.1]
    exact h5
  · show L k (12 * f + j) = L k (12 * ((7 * j + f) % 7) + (7 * j + f) / 7)
    rw [show (7 * j + f) % 7 = f by omega, show (7 * j + f) / 7 = j by omega]
theorem tW_wr {s : Int × Int × Int × (Nat → Int) × (Nat → Int) × (Nat → Int) × (Nat → Int) × (Nat → Int) × (Nat → Int) × (Nat → Int) × (Nat → Int) × (Nat → Nat → Int)} {r : Nat → Int} (h : rwT s r) (hm : ∀ k, k < 4 → 0 ≤ s.2.2.2.1 k ∧ s.2.2.2.1 k ≤ 12) : isWr r 0 (tW9 s.2.2.1 s.2.2.2.1 s.2.2.2.2.2.2.2.2.2.2.2) := by
  obtain ⟨⟨a0, a1, a2, a3, a4, a5⟩, h2⟩ := h
  refine ⟨fun k hk => ?_, fun j hj => ?_⟩
  · rw [Nat.zero_add]
    rcases (show k = 0 ∨ k = 1 ∨ k = 2 ∨ k = 3 ∨ k = 4 ∨ k = 5 by omega) with rfl | rfl | rfl | rfl | rfl | rfl
    · exact a0
    · exact a1
    · exact a2
    · exact a3
    · exact a4
    · exact a5
  · obtain ⟨b1, b2, b3⟩ := h2 j hj
    have h6 := hm j hj
    rw [show 0 + 6 + 86 * j = 6 + 86 * j by omega]
    refine ⟨?_, b2, fun q hq => ?_⟩
    · show r (6 + 86 * j) = (((s.2.2.2.1 j).toNat : Nat) : Int)
      rw [Int.toNat_of_nonneg h6.1]
      exact b1
    · have hq2 : q < 7 * (s.2.2.2.1 j).toNat := hq
      show r (6 + 86 * j + 2 + q) = s.2.2.2.2.2.2.2.2.2.2.2 j (12 * (q % 7) + q / 7)
      have h9 := b3 (q / 7) (by omega) (q % 7) (by omega)
      rw [show 6 + 86 * j + 2 + 7 * (q / 7) + q % 7 = 6 + 86 * j + 2 + q by omega] at h9
      exact h9
theorem tW_sums {K : Nat → Int} : ∀ n : Nat, (∀ l, l < n → (1 ≤ K (7 * l + 1) ∧ K (7 * l + 1) ≤ 99) ∧ (0 ≤ K (7 * l + 2) ∧ K (7 * l + 2) ≤ 99) ∧ K (7 * l + 1) + K (7 * l + 2) ≤ K (7 * l + 3) ∧ K (7 * l + 3) ≤ 999) → sZ K n ≤ 198 * (n : Int) ∧ dZ K n ≤ 999 * (n : Int) ∧ xZ K n = 0 := by
  intro n
  induction n with
  | zero => intro _; exact ⟨(by decide : (0 : Int) ≤ 0), (by decide : (0 : Int) ≤ 0), rfl⟩
  | succ n ih =>
    intro h
    obtain ⟨a, b, c⟩ := ih (fun l hl => h l (by omega))
    obtain ⟨d1, d2, d3, d4⟩ := h n (by omega)
    have e1 : sZ K (n + 1) = sZ K n + (K (7 * n + 1) + K (7 * n + 2)) := rfl
    have e2 : dZ K (n + 1) = dZ K n + K (7 * n + 3) := rfl
    have e3 : xZ K (n + 1) = xZ K n + (if K (7 * n + 3) < K (7 * n + 1) + K (7 * n + 2) then K (7 * n + 1) + K (7 * n + 2) - K (7 * n + 3) else 0) := rfl
    rw [if_neg (by omega)] at e3
    omega
theorem okPS.wl {s : Int × Int × Int × (Nat → Int) × (Nat → Int) × (Nat → Int) × (Nat → Int) × (Nat → Int) × (Nat → Int) × (Nat → Int) × (Nat → Int) × (Nat → Nat → Int)} (h : okPS s) {x : Int} (hx : 0 ≤ x) : okWx x (tW9 s.2.2.1 s.2.2.2.1 s.2.2.2.2.2.2.2.2.2.2.2) := by
  obtain ⟨⟨h1, h2⟩, h3, h5, h6, ⟨h7, h8⟩, h9, h10⟩ := h
  have m0 := h7 0 (by decide)
  have m1 := h7 1 (by decide)
  have m2 := h7 2 (by decide)
  have m3 := h7 3 (by decide)
  have e1 : mB ((0 : Int) + x) = 2400 + 50 * ((0 : Int) + x) := rfl
  have e2 : eB ((0 : Int) + x) = 12000 + 139000 * ((0 : Int) + x) := rfl
  refine ⟨⟨fun j hj => ?_, (by decide : (0 : Int) ≤ 0 ∧ (0 : Int) ≤ 2180), (show 0 ≤ s.2.2.1 ∧ s.2.2.1 ≤ 900 + 4 * (0 + x) by omega), (by decide : (0 : Int) ≤ 0 ∧ (0 : Int) ≤ 6)⟩, (by decide : (0 : Int) ≤ 2000)⟩
  obtain ⟨K, hK⟩ : ∃ K : Nat → Int, K = fun q => s.2.2.2.2.2.2.2.2.2.2.2 j (12 * (q % 7) + q / 7) := ⟨_, rfl⟩
  obtain ⟨n, hn⟩ : ∃ n : Nat, n = (s.2.2.2.1 j).toNat := ⟨_, rfl⟩
  have hm := h7 j hj
  have hKf : ∀ l f, f < 7 → K (7 * l + f) = s.2.2.2.2.2.2.2.2.2.2.2 j (12 * f + l) := fun l f hf => by
    rw [hK]
    show s.2.2.2.2.2.2.2.2.2.2.2 j (12 * ((7 * l + f) % 7) + (7 * l + f) / 7) = s.2.2.2.2.2.2.2.2.2.2.2 j (12 * f + l)
    rw [show (7 * l + f) % 7 = f by omega, show (7 * l + f) / 7 = l by omega]
  have hsl : 0 < n → (j : Int) < s.1 := fun h0 => by
    by_cases e : (j : Int) < s.1
    · exact e
    · have := h8 j (by omega)
      omega
  have hly : ∀ l, l < n → lyL (s.2.2.2.2.2.2.2.2.2.2.2 j) l := fun l hl => h10 j l (hsl (by omega)) (by omega)
  have hs := tW_sums (K := K) n (fun l hl => by
    obtain ⟨b0, b1, b2, b3, b4, b5, b6⟩ := hly l hl
    rw [hKf l 1 (by decide), hKf l 2 (by decide), hKf l 3 (by decide)]
    exact ⟨b1, b2, b3⟩)
  obtain ⟨s1, s2, s3⟩ := hs
  have hn12 : n ≤ 12 := by omega
  show okSl (mB ((0 : Int) + x)) (eB ((0 : Int) + x)) 0 ((s.2.2.2.1 j).toNat, (fun q => s.2.2.2.2.2.2.2.2.2.2.2 j (12 * (q % 7) + q / 7)), 0) ∧ okSx (50 * x) ((s.2.2.2.1 j).toNat, (fun q => s.2.2.2.2.2.2.2.2.2.2.2 j (12 * (q % 7) + q / 7)), 0)
  rw [← hn, ← hK]
  refine ⟨⟨⟨hn12, fun l hl => ?_, (show sZ K n ≤ 138500 by omega), (show dZ K n ≤ 400000000 by omega)⟩, Int.le_refl _, (show (0 : Int) + sZ K n ≤ mB ((0 : Int) + x) by omega), (show dZ K n ≤ eB ((0 : Int) + x) by omega), fun l hl => ?_⟩, fun l hl => ?_, (show xZ K n ≤ 50 * x by omega)⟩
  · obtain ⟨b0, b1, b2, b3, b4, b5, b6⟩ := hly l hl
    have k0 := hKf l 0 (by decide)
    rw [Nat.add_zero] at k0
    unfold lyP
    show (0 ≤ K (7 * l) ∧ K (7 * l) ≤ 4) ∧ 1 ≤ K (7 * l + 1) ∧ 0 ≤ K (7 * l + 2) ∧ 1 ≤ K (7 * l + 3) ∧ (-300 ≤ K (7 * l + 4) ∧ K (7 * l + 4) ≤ 0) ∧ (0 ≤ K (7 * l + 5) ∧ K (7 * l + 5) ≤ 100000) ∧ 0 ≤ K (7 * l + 6) ∧ K (7 * l + 6) ≤ 20000
    rw [k0, hKf l 1 (by decide), hKf l 2 (by decide), hKf l 3 (by decide), hKf l 4 (by decide), hKf l 5 (by decide), hKf l 6 (by decide)]
    omega
  · obtain ⟨b0, b1, b2, b3, b4, b5, b6⟩ := hly l hl
    show K (7 * l + 5) ≤ 0
    rw [hKf l 5 (by decide)]
    omega
  · obtain ⟨b0, b1, b2, b3, b4, b5, b6⟩ := hly l hl
    show K (7 * l + 1) ≤ K (7 * l + 3)
    rw [hKf l 1 (by decide), hKf l 3 (by decide)]
    omega
theorem okPS.em {s : Int × Int × Int × (Nat → Int) × (Nat → Int) × (Nat → Int) × (Nat → Int) × (Nat → Int) × (Nat → Int) × (Nat → Int) × (Nat → Int) × (Nat → Nat → Int)} (h : okPS s) {n : Nat} (hn : s.1 = (n : Int)) : emW n (tW9 s.2.2.1 s.2.2.2.1 s.2.2.2.2.2.2.2.2.2.2.2) := fun j h1 h2 => by
  have h3 := h.2.2.2.2.1.2 j (by omega)
  exact ⟨(show (s.2.2.2.1 j).toNat = 0 by omega), rfl⟩
theorem okPS.fc {s : Int × Int × Int × (Nat → Int) × (Nat → Int) × (Nat → Int) × (Nat → Int) × (Nat → Int) × (Nat → Int) × (Nat → Int) × (Nat → Int) × (Nat → Nat → Int)} (h : okPS s) : okFc s.1 s.2.1 0 s.2.2.2.2.2.1 s.2.2.2.2.2.2.1 s.2.2.2.2.2.2.2.1 s.2.2.2.2.2.2.2.2.1 s.2.2.2.2.2.2.2.2.2.1 := ⟨h.1.2, (by decide), fun k hk => (h.2.1 k hk).2, fun k hk => (h.2.2.1 k hk).1, fun k hk => (h.2.2.1 k hk).2, h.2.2.2.1⟩
end
section
-- 9n4.words.lean.txt
-- words of qsn
theorem q_44 : (Jvm.Cond.fieldLink "SnowRecorder" (97 : Nat) "SnowRecorder$TextReader" "place" "I") ∈ AW := AW_m1 44 (by decide +kernel) (by decide +kernel)
theorem q_619 : (Jvm.Cond.methodLink "SnowRecorder" (373 : Nat) ({ cls := "SnowRecorder$Notes", name := "add", desc := "(III)V" } : Jvm.MethodName)) ∈ AW := AW_m3 139 (by decide +kernel) (by decide +kernel)
theorem q_620 : (Jvm.Cond.instanceMethod ({ cls := "SnowRecorder$Notes", name := "add", desc := "(III)V" } : Jvm.MethodName)) ∈ AW := AW_m3 140 (by decide +kernel) (by decide +kernel)
theorem q_621 : (Jvm.Cond.selects "SnowRecorder$Notes" ({ cls := "SnowRecorder$Notes", name := "add", desc := "(III)V" } : Jvm.MethodName) ({ cls := "SnowRecorder$Notes", name := "add", desc := "(III)V" } : Jvm.MethodName)) ∈ AW := AW_m3 141 (by decide +kernel) (by decide +kernel)
theorem q_622 : (Jvm.Cond.code ({ cls := "SnowRecorder$Notes", name := "add", desc := "(III)V" } : Jvm.MethodName) prog_4_method_3_code (4 : Nat) (Option.none : Option Jvm.ClassFile.FieldType)) ∈ AW := AW_m3 142 (by decide +kernel) (by decide +kernel)
theorem q_724 : (Jvm.Cond.methodLink "SnowRecorder" (93 : Nat) ({ cls := "SnowRecorder$TextReader", name := "read", desc := "([BILSnowRecorder$Plan;LSnowRecorder$World;)I" } : Jvm.MethodName)) ∈ AW := AW_m4 4 (by decide +kernel) (by decide +kernel)
theorem q_725 : (Jvm.Cond.instanceMethod ({ cls := "SnowRecorder$TextReader", name := "read", desc := "([BILSnowRecorder$Plan;LSnowRecorder$World;)I" } : Jvm.MethodName)) ∈ AW := AW_m4 5 (by decide +kernel) (by decide +kernel)
theorem q_726 : (Jvm.Cond.selects "SnowRecorder$TextReader" ({ cls := "SnowRecorder$TextReader", name := "read", desc := "([BILSnowRecorder$Plan;LSnowRecorder$World;)I" } : Jvm.MethodName) ({ cls := "SnowRecorder$TextReader", name := "read", desc := "([BILSnowRecorder$Plan;LSnowRecorder$World;)I" } : Jvm.MethodName)) ∈ AW := AW_m4 6 (by decide +kernel) (by decide +kernel)
theorem q_727 : (Jvm.Cond.code ({ cls := "SnowRecorder$TextReader", name := "read", desc := "([BILSnowRecorder$Plan;LSnowRecorder$World;)I" } : Jvm.MethodName) prog_9_method_2_code (6 : Nat) (Option.some Jvm.ClassFile.FieldType.int)) ∈ AW := AW_m4 7 (by decide +kernel) (by decide +kernel)
theorem q_866 : (Jvm.Cond.methodLink "SnowRecorder" (108 : Nat) ({ cls := "SnowRecorder$State", name := "beginWith", desc := "(LSnowRecorder$World;)V" } : Jvm.MethodName)) ∈ AW := AW_m4 146 (by decide +kernel) (by decide +kernel)
theorem q_867 : (Jvm.Cond.instanceMethod ({ cls := "SnowRecorder$State", name := "beginWith", desc := "(LSnowRecorder$World;)V" } : Jvm.MethodName)) ∈ AW := AW_m4 147 (by decide +kernel) (by decide +kernel)
theorem q_868 : (Jvm.Cond.selects "SnowRecorder$State" ({ cls := "SnowRecorder$State", name := "beginWith", desc := "(LSnowRecorder$World;)V" } : Jvm.MethodName) ({ cls := "SnowRecorder$State", name := "beginWith", desc := "(LSnowRecorder$World;)V" } : Jvm.MethodName)) ∈ AW := AW_m4 148 (by decide +kernel) (by decide +kernel)
theorem q_869 : (Jvm.Cond.code ({ cls := "SnowRecorder$State", name := "beginWith", desc := "(LSnowRecorder$World;)V" } : Jvm.MethodName) prog_8_method_2_code (2 : Nat) (Option.none : Option Jvm.ClassFile.FieldType)) ∈ AW := AW_m4 149 (by decide +kernel) (by decide +kernel)
theorem hd_yX7_read : yX7_read.cls ≠ "java/lang/invoke/MethodHandle" ∧ yX7_read.cls ≠ "java/lang/invoke/VarHandle" ∧ (parseMethodDescriptor yX7_read.desc).map (fun d => d.parameters.length) = some 4 := by decide +kernel
theorem hd_yX6_beginWith : yX6_beginWith.cls ≠ "java/lang/invoke/MethodHandle" ∧ yX6_beginWith.cls ≠ "java/lang/invoke/VarHandle" ∧ (parseMethodDescriptor yX6_beginWith.desc).map (fun d => d.parameters.length) = some 1 := by decide +kernel
theorem hd_yX2_add : yX2_add.cls ≠ "java/lang/invoke/MethodHandle" ∧ yX2_add.cls ≠ "java/lang/invoke/VarHandle" ∧ (parseMethodDescriptor yX2_add.desc).map (fun d => d.parameters.length) = some 3 := by decide +kernel
theorem mv_yX7_read : zWv yX7_read cX7_read 6 (some .int) := ⟨q_725, q_726, q_2, q_727⟩
theorem mv_yX6_beginWith : zWv yX6_beginWith cX6_beginWith 2 none := ⟨q_867, q_868, q_4, q_869⟩
theorem mv_yX2_add : zWv yX2_add cX2_add 4 none := ⟨q_620, q_621, q_7, q_622⟩
end
section
-- 9n5.dec.lean.txt
-- decode rows of qsn
theorem dX9_snow_0 : decode cX9_snow 0 = .ok (.iload_n 1, 1) := by decide +kernel
theorem dX9_snow_1 : decode cX9_snow 1 = .ok (.ifCond .lt 11, 3) := by decide +kernel
theorem dX9_snow_12 : decode cX9_snow 12 = .ok (.new 86, 3) := by decide +kernel
theorem dX9_snow_15 : decode cX9_snow 15 = .ok (.dup, 1) := by decide +kernel
theorem dX9_snow_16 : decode cX9_snow 16 = .ok (.ldc 88, 2) := by decide +kernel
theorem dX9_snow_18 : decode cX9_snow 18 = .ok (.invokespecial 90, 3) := by decide +kernel
theorem dX9_snow_21 : decode cX9_snow 21 = .ok (.athrow, 1) := by decide +kernel
theorem dX9_snow_4 : decode cX9_snow 4 = .ok (.iload_n 1, 1) := by decide +kernel
theorem dX9_snow_5 : decode cX9_snow 5 = .ok (.aload_n 0, 1) := by decide +kernel
theorem dX9_snow_6 : decode cX9_snow 6 = .ok (.getfield 13, 3) := by decide +kernel
theorem dX9_snow_9 : decode cX9_snow 9 = .ok (.if_icmp .le 13, 3) := by decide +kernel
theorem dX9_snow_22 : decode cX9_snow 22 = .ok (.aload_n 0, 1) := by decide +kernel
theorem dX9_snow_23 : decode cX9_snow 23 = .ok (.getfield 23, 3) := by decide +kernel
theorem dX9_snow_26 : decode cX9_snow 26 = .ok (.aload_n 0, 1) := by decide +kernel
theorem dX9_snow_27 : decode cX9_snow 27 = .ok (.getfield 9, 3) := by decide +kernel
theorem dX9_snow_30 : decode cX9_snow 30 = .ok (.iload_n 1, 1) := by decide +kernel
theorem dX9_snow_31 : decode cX9_snow 31 = .ok (.aload_n 0, 1) := by decide +kernel
theorem dX9_snow_32 : decode cX9_snow 32 = .ok (.getfield 48, 3) := by decide +kernel
theorem dX9_snow_35 : decode cX9_snow 35 = .ok (.aload_n 0, 1) := by decide +kernel
theorem dX9_snow_36 : decode cX9_snow 36 = .ok (.getfield 54, 3) := by decide +kernel
theorem dX9_snow_39 : decode cX9_snow 39 = .ok (.invokevirtual 93, 3) := by decide +kernel
theorem dX9_snow_42 : decode cX9_snow 42 = .ok (.istore_n 2, 1) := by decide +kernel
theorem dX9_snow_43 : decode cX9_snow 43 = .ok (.aload_n 0, 1) := by decide +kernel
theorem dX9_snow_44 : decode cX9_snow 44 = .ok (.iconst 0, 1) := by decide +kernel
theorem dX9_snow_45 : decode cX9_snow 45 = .ok (.putfield 13, 3) := by decide +kernel
theorem dX9_snow_48 : decode cX9_snow 48 = .ok (.aload_n 0, 1) := by decide +kernel
theorem dX9_snow_49 : decode cX9_snow 49 = .ok (.aload_n 0, 1) := by decide +kernel
theorem dX9_snow_50 : decode cX9_snow 50 = .ok (.getfield 23, 3) := by decide +kernel
theorem dX9_snow_53 : decode cX9_snow 53 = .ok (.getfield 97, 3) := by decide +kernel
theorem dX9_snow_56 : decode cX9_snow 56 = .ok (.putfield 17, 3) := by decide +kernel
theorem dX9_snow_59 : decode cX9_snow 59 = .ok (.iload_n 2, 1) := by decide +kernel
theorem dX9_snow_60 : decode cX9_snow 60 = .ok (.ifCond .eq 18, 3) := by decide +kernel
theorem dX9_snow_78 : decode cX9_snow 78 = .ok (.aload_n 0, 1) := by decide +kernel
theorem dX9_snow_79 : decode cX9_snow 79 = .ok (.getfield 30, 3) := by decide +kernel
theorem dX9_snow_82 : decode cX9_snow 82 = .ok (.aload_n 0, 1) := by decide +kernel
theorem dX9_snow_83 : decode cX9_snow 83 = .ok (.getfield 48, 3) := by decide +kernel
theorem dX9_snow_86 : decode cX9_snow 86 = .ok (.invokevirtual 104, 3) := by decide +kernel
theorem dX9_snow_89 : decode cX9_snow 89 = .ok (.aload_n 0, 1) := by decide +kernel
theorem dX9_snow_90 : decode cX9_snow 90 = .ok (.getfield 37, 3) := by decide +kernel
theorem dX9_snow_93 : decode cX9_snow 93 = .ok (.aload_n 0, 1) := by decide +kernel
theorem dX9_snow_94 : decode cX9_snow 94 = .ok (.getfield 54, 3) := by decide +kernel
theorem dX9_snow_97 : decode cX9_snow 97 = .ok (.invokevirtual 108, 3) := by decide +kernel
theorem dX9_snow_100 : decode cX9_snow 100 = .ok (.aload_n 0, 1) := by decide +kernel
theorem dX9_snow_101 : decode cX9_snow 101 = .ok (.iconst 0, 1) := by decide +kernel
theorem dX9_snow_102 : decode cX9_snow 102 = .ok (.putfield 44, 3) := by decide +kernel
theorem dX9_snow_105 : decode cX9_snow 105 = .ok (.iconst 0, 1) := by decide +kernel
theorem dX9_snow_106 : decode cX9_snow 106 = .ok (.ireturn, 1) := by decide +kernel
theorem dX9_snow_63 : decode cX9_snow 63 = .ok (.aload_n 0, 1) := by decide +kernel
theorem dX9_snow_64 : decode cX9_snow 64 = .ok (.getfield 37, 3) := by decide +kernel
theorem dX9_snow_67 : decode cX9_snow 67 = .ok (.getfield 100, 3) := by decide +kernel
theorem dX9_snow_70 : decode cX9_snow 70 = .ok (.iconst 0, 1) := by decide +kernel
theorem dX9_snow_71 : decode cX9_snow 71 = .ok (.dup2, 1) := by decide +kernel
theorem dX9_snow_72 : decode cX9_snow 72 = .ok (.iaload, 1) := by decide +kernel
theorem dX9_snow_73 : decode cX9_snow 73 = .ok (.iconst 1, 1) := by decide +kernel
theorem dX9_snow_74 : decode cX9_snow 74 = .ok (.iadd, 1) := by decide +kernel
theorem dX9_snow_75 : decode cX9_snow 75 = .ok (.iastore, 1) := by decide +kernel
theorem dX9_snow_76 : decode cX9_snow 76 = .ok (.iload_n 2, 1) := by decide +kernel
theorem dX9_snow_77 : decode cX9_snow 77 = .ok (.ireturn, 1) := by decide +kernel
theorem dX9_note_0 : decode cX9_note 0 = .ok (.aload_n 0, 1) := by decide +kernel
theorem dX9_note_1 : decode cX9_note 1 = .ok (.iload_n 1, 1) := by decide +kernel
theorem dX9_note_2 : decode cX9_note 2 = .ok (.invokevirtual 268, 3) := by decide +kernel
theorem dX9_note_5 : decode cX9_note 5 = .ok (.ifCond .eq 28, 3) := by decide +kernel
theorem dX9_note_33 : decode cX9_note 33 = .ok (.iconst 0, 1) := by decide +kernel
theorem dX9_note_34 : decode cX9_note 34 = .ok (.istore 4, 2) := by decide +kernel
theorem dX9_note_36 : decode cX9_note 36 = .ok (.iload 4, 2) := by decide +kernel
theorem dX9_note_38 : decode cX9_note 38 = .ok (.ifCond .eq 18, 3) := by decide +kernel
theorem dX9_note_56 : decode cX9_note 56 = .ok (.aload_n 0, 1) := by decide +kernel
theorem dX9_note_57 : decode cX9_note 57 = .ok (.iconst 2, 1) := by decide +kernel
theorem dX9_note_58 : decode cX9_note 58 = .ok (.invokevirtual 255, 3) := by decide +kernel
theorem dX9_note_61 : decode cX9_note 61 = .ok (.ireturn, 1) := by decide +kernel
theorem dX9_note_8 : decode cX9_note 8 = .ok (.iload_n 2, 1) := by decide +kernel
theorem dX9_note_9 : decode cX9_note 9 = .ok (.ifCond .lt 24, 3) := by decide +kernel
theorem dX9_note_12 : decode cX9_note 12 = .ok (.iload_n 2, 1) := by decide +kernel
theorem dX9_note_13 : decode cX9_note 13 = .ok (.bipush 48, 2) := by decide +kernel
theorem dX9_note_15 : decode cX9_note 15 = .ok (.if_icmp .gt 18, 3) := by decide +kernel
theorem dX9_note_18 : decode cX9_note 18 = .ok (.iload_n 3, 1) := by decide +kernel
theorem dX9_note_19 : decode cX9_note 19 = .ok (.ifCond .lt 14, 3) := by decide +kernel
theorem dX9_note_22 : decode cX9_note 22 = .ok (.iload_n 3, 1) := by decide +kernel
theorem dX9_note_23 : decode cX9_note 23 = .ok (.sipush 9999, 3) := by decide +kernel
theorem dX9_note_26 : decode cX9_note 26 = .ok (.if_icmp .gt 7, 3) := by decide +kernel
theorem dX9_note_29 : decode cX9_note 29 = .ok (.iconst 1, 1) := by decide +kernel
theorem dX9_note_30 : decode cX9_note 30 = .ok (.goto 4, 3) := by decide +kernel
theorem dX9_note_41 : decode cX9_note 41 = .ok (.aload_n 0, 1) := by decide +kernel
theorem dX9_note_42 : decode cX9_note 42 = .ok (.getfield 37, 3) := by decide +kernel
theorem dX9_note_45 : decode cX9_note 45 = .ok (.getfield 156, 3) := by decide +kernel
theorem dX9_note_48 : decode cX9_note 48 = .ok (.getfield 160, 3) := by decide +kernel
theorem dX9_note_51 : decode cX9_note 51 = .ok (.bipush 8, 2) := by decide +kernel
theorem dX9_note_53 : decode cX9_note 53 = .ok (.if_icmp .lt 9, 3) := by decide +kernel
theorem dX9_note_62 : decode cX9_note 62 = .ok (.aload_n 0, 1) := by decide +kernel
theorem dX9_note_63 : decode cX9_note 63 = .ok (.getfield 37, 3) := by decide +kernel
theorem dX9_note_66 : decode cX9_note 66 = .ok (.getfield 156, 3) := by decide +kernel
theorem dX9_note_69 : decode cX9_note 69 = .ok (.iload_n 1, 1) := by decide +kernel
theorem dX9_note_70 : decode cX9_note 70 = .ok (.iload_n 2, 1) := by decide +kernel
theorem dX9_note_71 : decode cX9_note 71 = .ok (.iload_n 3, 1) := by decide +kernel
theorem dX9_note_72 : decode cX9_note 72 = .ok (.invokevirtual 373, 3) := by decide +kernel
theorem dX9_note_75 : decode cX9_note 75 = .ok (.aload_n 0, 1) := by decide +kernel
theorem dX9_note_76 : decode cX9_note 76 = .ok (.getfield 37, 3) := by decide +kernel
theorem dX9_note_79 : decode cX9_note 79 = .ok (.getfield 156, 3) := by decide +kernel
theorem dX9_note_82 : decode cX9_note 82 = .ok (.getfield 160, 3) := by decide +kernel
theorem dX9_note_85 : decode cX9_note 85 = .ok (.ireturn, 1) := by decide +kernel
theorem dX9_forget_0 : decode cX9_forget 0 = .ok (.aload_n 0, 1) := by decide +kernel
theorem dX9_forget_1 : decode cX9_forget 1 = .ok (.getfield 37, 3) := by decide +kernel
theorem dX9_forget_4 : decode cX9_forget 4 = .ok (.getfield 156, 3) := by decide +kernel
theorem dX9_forget_7 : decode cX9_forget 7 = .ok (.iconst 0, 1) := by decide +kernel
theorem dX9_forget_8 : decode cX9_forget 8 = .ok (.putfield 160, 3) := by decide +kernel
theorem dX9_forget_11 : decode cX9_forget 11 = .ok (.return_, 1) := by decide +kernel
end
section
-- 9n6.qsn.lean.txt
section XNT
variable {cs : Nat → ClassId} {ad : Nat → Nat} {g g' : Nat → va_E} {i na : Nat} {H : Nat → WL9} {W : WL9} {P : Nat → PT9} {nz : Int} {nu nv nw rf : Nat → Int}
theorem xKt.notes {nz' : Int} {nu' nv' nw' : Nat → Int} (h : xKt cs ad g i na H W P nz nu nv nw rf) (hn : na ≤ 40) (hG : ∀ j, j < i + 13 ∨ i + 17 ≤ j → g' j = g j) (hN : isNotes cs ad g' (i + 13) nz' nu' nv' nw') : xKt cs ad g' i na H W P nz' nu' nv' nw' rf := by
  obtain ⟨h1, h2, h3, h4, h5, h6⟩ := h
  exact ⟨(hG _ (by omega)).trans h1, h2.mv (fun j _ _ => hG j (by omega)), h3.mv (fun j _ _ _ => hG j (by omega)) hn, fun k hk => (h4 k hk).mv (fun j _ _ => hG j (by omega)), hN, (hG _ (by omega)).trans h6⟩
theorem xKt.refd2 {rf' : Nat → Int} (h : xKt cs ad g i na H W P nz nu nv nw rf) (hn : na ≤ 40) (hG : ∀ j, i ≤ j → j < i + 436 → j ≠ i + 17 → g' j = g j) (hr : g' (i + 17) = iA cs 3 rf') : xKt cs ad g' i na H W P nz nu nv nw rf' := by
  obtain ⟨h1, h2, h3, h4, h5, h6⟩ := h
  exact ⟨(hG _ (by omega) (by omega) (by omega)).trans h1, h2.mv (fun j _ _ => hG j (by omega) (by omega) (by omega)), h3.mv (fun j _ _ _ => hG j (by omega) (by omega) (by omega)) hn, fun k hk => (h4 k hk).mv (fun j _ _ => hG j (by omega) (by omega) (by omega)), h5.mv (fun _ _ _ => rfl) (fun j _ _ => hG j (by omega) (by omega) (by omega)), hr⟩
theorem nt_put {nz z z1 : Int} (hnt : ∀ k, k < 8 → (0 ≤ nu k ∧ nu k ≤ 3) ∧ 0 ≤ nv k ∧ nv k ≤ 48) (hz : 0 ≤ z ∧ z ≤ 3) (hz1 : 0 ≤ z1 ∧ z1 ≤ 48) : ∀ k, k < 8 → (0 ≤ uZ nu nz.toNat z k ∧ uZ nu nz.toNat z k ≤ 3) ∧ 0 ≤ uZ nv nz.toNat z1 k ∧ uZ nv nz.toNat z1 k ≤ 48 := fun k hk => by
  by_cases e : k = nz.toNat
  · rw [e, uZ_s, uZ_s]; exact ⟨hz, hz1⟩
  · rw [uZ_n _ _ e, uZ_n _ _ e]; exact hnt k hk
end XNT

set_option maxRecDepth 100000 in
set_option maxHeartbeats 4000000 in
theorem c_qBegin (l : Launch) (D : va_G) (A : Nat → Prop) (cs : Nat → ClassId) (tt : Nat) (N : Nat) (ad : Nat → Nat) (g : Nat → va_E) (i : Nat) (hN : i + 436 ≤ N) (na : Nat) (nz : Int) (H : Nat → WL9) (W : WL9) (P : Nat → PT9) (nu nv nw rf : Nat → Int) (hS : okState cs ad g i (na : Int) nz) (hX : xKt cs ad g i na H W P nz nu nv nw rf) (d : Nat) (hNd : d + 10 ≤ N) (hd : okWorld cs ad g d) (W2 : WL9) (hW2 : isWl cs ad g d W2) (hid : i + 436 ≤ d ∨ d + 10 ≤ i) : zM l yX6_beginWith cX6_beginWith 2 none ({ frames := 3, cells := 0, slots := 0, locals := 180 } : Room) D A cs tt N ad g [.ref (ad i), .ref (ad d)] (rV0 N ad fun g' => okState cs ad g' i 0 0 ∧ xKt cs ad g' i 0 H W2 P 0 nu nv nw rf ∧ ∀ j, j < i ∨ i + 436 ≤ j → g' j = g j) := by
  obtain ⟨q1, q2, q3, ⟨qb, qf, q4, q5⟩, q6, ⟨qc, q7, q8⟩, q9, q10, qr, q11⟩ := id hS
  have hay1 : zAt ad (i) (ad i) := rfl
  have hay2 : zAt ad (i + 11) (ad (i + 11)) := rfl
  have hay3 : zAt ad (i + 12) (ad (i + 12)) := rfl
  have hay4 : zAt ad (i + 17) (ad (i + 17)) := rfl
  have hay5 : zAt ad (i + 1) (ad (i + 1)) := rfl
  have hay6 : zAt ad (i + 13) (ad (i + 13)) := rfl
  have hna := hS.2.1
  refine z_of (by decide) (Nat.le_of_ble_eq_true rfl) ?_
  intro pY eY sY mY below meth cY C hr hlk hnm
  refine z_lv (lv' := [(0, .ref (ad i)), (1, .ref (ad d))]) [0, 1] rfl ?_
  have hay7 : zAt ad (d) (ad d) := rfl
  obtain ⟨tk, zk, ok, rk, hzk, htk, hwk⟩ := id q3
  refine z_aload_n C 0 dX6_beginWith_0 rfl ?_
  refine z_get (v := .ref (ad (i + 1))) C (lt_A0 hN rfl) hay1 q1 rfl inA_X6 0 (by decide) q_257 rfl rfl dX6_beginWith_1 ?_
  refine z_aload_n C 1 dX6_beginWith_4 rfl ?_
  refine z_cV (As := [.ref (ad d)]) (rest := []) (ci := 10) C (c_X8_copyFrom l D A cs tt N ad _ (i + 1) (by omega) q3 d hNd hd (by omega)) (lt_A (c := 1) hN rfl) hay5 hwk.1 rfl rfl mv_yX8_copyFrom q_420 hd_yX8_copyFrom (by decide) (Nat.le_of_ble_eq_true rfl) (by decide) dX6_beginWith_5 rfl (kV0 fun gc hc => ?_)
  obtain ⟨⟨t1, z1, o1, r1, hz1, ht1, hn1, hw1⟩, hf1⟩ := hc
  have hs2 : okState cs ad gc i (na : Int) nz := okState.now hS hf1 ⟨_, _, _, _, hz1, ht1, hw1⟩
  have hwl : isWl cs ad gc (i + 1) W2 := copy_wl hn1 hw1 hW2
  have hx2 := xKt.now hX (by omega) hf1 hwl
  obtain ⟨p1, p2, p3, -, p6, -, p9, ⟨nu9, nv9, nw9, hn2, hn3, hn4⟩, -⟩ := id hs2
  have hxn := hx2.2.2.2.2.1
  refine z_aload_n C 0 dX6_beginWith_8 rfl ?_
  refine z_iconst (z := 0) C dX6_beginWith_9 rfl ?_
  refine z_put (fs' := [.ref (ad (i + 1)), .ref (ad (i + 11)), .int (zI (0)), .ref (ad (i + 12)), .ref (ad (i + 13)), .ref (ad (i + 17))]) C (lt_A0 hN rfl) hay1 p1 tyX6 tyX6_ok nmX6 rfl inA_X6 2 (by decide) q_260 rfl rfl rfl rfl (Nat.le_of_ble_eq_true rfl) rfl dX6_beginWith_10 (fun gy8 egy9 => ?_)
  have hgy10 := up_s egy9
  refine z_aload_n C 0 dX6_beginWith_13 rfl ?_
  refine z_get (v := .ref (ad (i + 13))) C (lt_A0 hN rfl) hay1 hgy10 rfl inA_X6 4 (by decide) q_264 rfl rfl dX6_beginWith_14 ?_
  refine z_iconst (z := 0) C dX6_beginWith_17 rfl ?_
  have hgy11 := up_n egy9 hn4.1 (ne_o (i := i) (c := 13) (d := 0) rfl)
  refine z_put (fs' := [.int (zI (0)), .ref (ad (i + 13 + 1)), .ref (ad (i + 13 + 2)), .ref (ad (i + 13 + 3))]) C (lt_A (c := 13) hN rfl) hay6 hgy11 tyX2 tyX2_ok nmX2 rfl inA_X2 0 (by decide) q_217 rfl rfl rfl rfl (Nat.le_of_ble_eq_true rfl) rfl dX6_beginWith_18 (fun gy12 egy13 => ?_)
  have hgy14 := up_s egy13
  have hgy15 := up_n egy13 hgy10 (ne_o (i := i) (c := 0) (d := 13) rfl)
  have hs3 : okState cs ad (va_up gc i (stC ad i 0)) i 0 nz := okState.head (by decide) hs2 (fun j j1 => va_up_ne _ _ j1) (va_up_self _ _ _)
  have hx3 : xKt cs ad (va_up gc i (stC ad i 0)) i 0 H W2 P nz nu nv nw rf := xKt.head hx2 (by omega) (Nat.zero_le _) (fun j j1 => va_up_ne _ _ j1) (va_up_self _ _ _)
  have hfe : ∀ j, j < i + 13 ∨ i + 17 ≤ j → gy12 j = va_up gc i (stC ad i 0) j := fun j j1 => by
    by_cases e : j = i
    · rw [e, va_up_self]; exact hgy15
    · rw [va_up_ne _ _ e]; rw [egy13, va_up_ne _ _ (by omega)]; rw [egy9, va_up_ne _ _ (by omega)]
  have hs4 : okState cs ad gy12 i 0 0 := okState.notes hs3 hfe ⟨nu9, nv9, nw9, by decide, hn3, hgy14, by rw [egy13, va_up_ne _ _ (by omega)]; rw [egy9, va_up_ne _ _ (by omega)]; exact hn4.2.1, by rw [egy13, va_up_ne _ _ (by omega)]; rw [egy9, va_up_ne _ _ (by omega)]; exact hn4.2.2.1, by rw [egy13, va_up_ne _ _ (by omega)]; rw [egy9, va_up_ne _ _ (by omega)]; exact hn4.2.2.2⟩
  have hx4 : xKt cs ad gy12 i 0 H W2 P 0 nu nv nw rf := xKt.notes hx3 (by omega) hfe ⟨hgy14, by rw [egy13, va_up_ne _ _ (by omega)]; rw [egy9, va_up_ne _ _ (by omega)]; exact hxn.2.1, by rw [egy13, va_up_ne _ _ (by omega)]; rw [egy9, va_up_ne _ _ (by omega)]; exact hxn.2.2.1, by rw [egy13, va_up_ne _ _ (by omega)]; rw [egy9, va_up_ne _ _ (by omega)]; exact hxn.2.2.2⟩
  exact z_vret C hr hlk dX6_beginWith_21 (by decide) (by decide) ⟨rfl, rfl, rfl, hs4, hx4, fun j j1 => by rw [egy13, va_up_ne _ _ (by omega)]; rw [egy9, va_up_ne _ _ (by omega)]; rw [hf1 _ (by omega)]⟩

set_option maxRecDepth 100000 in
set_option maxHeartbeats 4000000 in
theorem c_qSnow (l : Launch) (D : va_G) (A : Nat → Prop) (cs : Nat → ClassId) (tt : Nat) (N : Nat) (ad : Nat → Nat) (g : Nat → va_E) (hN : 952 ≤ N) (t fp im nz kz sl ho ua : Int) (st op ai fa mu tb tp : Nat → Int) (hR : okRec cs ad g N t fp im nz kz sl ho ua st op ai fa mu tb tp) (na : Nat) (H : Nat → WL9) (W : WL9) (P : Nat → PT9) (nu nv nw rf : Nat → Int) (hS : okState cs ad g 11 (na : Int) nz) (hXK : xKt cs ad g 11 na H W P nz nu nv nw rf) (hTr : ∀ k, k < 900 → -128 ≤ tp k ∧ tp k ≤ 127) (hl0 : l.stackTraces = false) (z : Int) (hz : -2147483648 ≤ z ∧ z ≤ 2147483647) : zMX l yX9_snow cX9_snow 3 (some .int) ({ frames := 12, cells := 6, slots := 60, locals := 720 } : Room) D A cs tt N ad g [.ref (ad 0), .int (zI (z))] (rI0 N ad fun r g' => ((0 ≤ r ∧ r ≤ 5) ∧ 0 ≤ z ∧ z ≤ t) ∧ (∃ (st0 op0 ai0 fa0 mu0 : Nat → Int) (L0 : Nat → Nat → Int) (k9 : Nat) (pl9 : Int) (s9 : Int × Int × Int × (Nat → Int) × (Nat → Int) × (Nat → Int) × (Nat → Int) × (Nat → Int) × (Nat → Int) × (Nat → Int) × (Nat → Int) × (Nat → Nat → Int)), ps_run (unS tp) (z).toNat k9 (0, 0, 0, (fun _ => 0), st0, op0, ai0, fa0, mu0, tabZ, (fun _ => 0), L0) (tk_at (unS tp) (z).toNat 0) = some ((r, pl9), s9) ∧ ((r = 0 ∧ okRec cs ad g' N 0 pl9 0 0 kz (s9.1) (s9.2.1) 0 (s9.2.2.2.2.1) (s9.2.2.2.2.2.1) (s9.2.2.2.2.2.2.1) (s9.2.2.2.2.2.2.2.1) (s9.2.2.2.2.2.2.2.2.1) (s9.2.2.2.2.2.2.2.2.2.1) tp ∧ (okState cs ad g' 11 0 0 ∧ xKt cs ad g' 11 0 H (tW9 (s9.2.2.1) (s9.2.2.2.1) (s9.2.2.2.2.2.2.2.2.2.2.2)) P 0 nu nv nw rf)) ∨ (r ≠ 0 ∧ okRec cs ad g' N 0 pl9 im nz kz sl ho ua st op ai fa mu tb tp ∧ (okState cs ad g' 11 (na : Int) nz ∧ xKt cs ad g' 11 na H W P nz nu nv nw (uZ rf 0 (rf 0 + 1)))))) ∧ ∀ j, (447 ≤ j ∧ j < 883) ∨ 921 ≤ j → j < 952 → g' j = g j) (fun E N' ad' g' => (E = eIA ∧ ¬ (0 ≤ z ∧ z ≤ t)) ∧ N' = N ∧ ad' = ad ∧ g' = g) := by
  obtain ⟨ary1, bry1, cry1, dry1, ery1, fry1, gry11, hry1, ⟨acry1, iry1⟩, ⟨kcry1, jry1⟩, kry1, lry1, mry1, nry1, ory1, pry1⟩ := id hR
  have hay2 : zAt ad (0) (ad 0) := rfl
  have hay3 : zAt ad (1) (ad 1) := rfl
  have hay4 : zAt ad (2) (ad 2) := rfl
  have hay5 : zAt ad (4) (ad 4) := rfl
  have hay6 : zAt ad (11) (ad 11) := rfl
  have hay7 : zAt ad (447) (ad 447) := rfl
  have hay8 : zAt ad (883) (ad 883) := rfl
  have hay9 : zAt ad (890) (ad 890) := rfl
  have hay10 : zAt ad (900) (ad 900) := rfl
  have hay11 : zAt ad (910) (ad 910) := rfl
  have hay12 : zAt ad (917) (ad 917) := rfl
  have hay13 : zAt ad (919) (ad 919) := rfl
  have hay14 : zAt ad (4 + 1) (ad (4 + 1)) := rfl
  have hay15 : zAt ad (4 + 2) (ad (4 + 2)) := rfl
  have hay16 : zAt ad (4 + 3) (ad (4 + 3)) := rfl
  have hay17 : zAt ad (4 + 4) (ad (4 + 4)) := rfl
  have hay18 : zAt ad (4 + 5) (ad (4 + 5)) := rfl
  have hay19 : zAt ad (4 + 6) (ad (4 + 6)) := rfl
  obtain ⟨thcy20, zhcy20, ohcy20, rhcy20, hzhcy20, hthcy20, hwhcy20⟩ := id lry1
  obtain ⟨thcy21, zhcy21, ohcy21, rhcy21, hzhcy21, hthcy21, hwhcy21⟩ := id mry1
  obtain ⟨asy22, bsy22, csy22, dsy22, esy22, ⟨ptsy22, fsy22, gsy221⟩, hsy22, ⟨nusy22, nvsy22, nwsy22, isy22, jsy22, ksy22, lsy22, msy22, nsy22⟩, rfsy22, osy22⟩ := id iry1
  have hay23 : zAt ad (11 + 1) (ad (11 + 1)) := rfl
  have hay24 : zAt ad (11 + 11) (ad (11 + 11)) := rfl
  have hay25 : zAt ad (11 + 12) (ad (11 + 12)) := rfl
  have hay26 : zAt ad (11 + 13) (ad (11 + 13)) := rfl
  have hay27 : zAt ad (11 + 13 + 1) (ad (11 + 13 + 1)) := rfl
  have hay28 : zAt ad (11 + 13 + 2) (ad (11 + 13 + 2)) := rfl
  have hay29 : zAt ad (11 + 13 + 3) (ad (11 + 13 + 3)) := rfl
  have hay30 : zAt ad (11 + 17) (ad (11 + 17)) := rfl
  obtain ⟨uy31t, uy31z, uy31o, uy31r, uy31z4, uy31t5, uy311, ⟨uy31u, uy312, uy313⟩, uy314⟩ := id csy22
  have hay32 : zAt ad (11 + 1) (ad (11 + 1)) := rfl
  have hay33 : zAt ad (11 + 1 + 1) (ad (11 + 1 + 1)) := rfl
  obtain ⟨sloy34, hooy34, uaoy34, stoy34, opoy34, aioy34, faoy34, muoy34, tboy34, hsloy34, hhooy34, hpoy34⟩ := id kry1
  have hay35 : zAt ad (883 + 1) (ad (883 + 1)) := rfl
  have hay36 : zAt ad (883 + 2) (ad (883 + 2)) := rfl
  have hay37 : zAt ad (883 + 3) (ad (883 + 3)) := rfl
  have hay38 : zAt ad (883 + 4) (ad (883 + 4)) := rfl
  have hay39 : zAt ad (883 + 5) (ad (883 + 5)) := rfl
  have hay40 : zAt ad (883 + 6) (ad (883 + 6)) := rfl
  have hna40 : na ≤ 40 := by have h9 := hS.2.1; omega
  refine z_ofX (by decide) (Nat.le_of_ble_eq_true rfl) ?_
  intro p e s m below meth c C hr hlk hxt
  refine z_lv (lv' := [(0, .ref (ad 0)), (1, .int (zI (z)))]) [0, 1] rfl ?_
  refine z_iload_n C 1 dX9_snow_0 rfl ?_
  refine z_if_lt (tgt := 12) C dX9_snow_1 (by decide) (by omega) (fun hby41 => ?_) (fun hby41 => ?_)
  · exact z_thr (cls := eIA) (text := "the tape has not so many bytes") C hl0 (by decide +kernel) q_658 q_19 (by decide +kernel) at_IA gd_IA dX9_snow_12 dX9_snow_15 dX9_snow_16 dX9_snow_18 dX9_snow_21 hxt (by decide) (Nat.le_of_ble_eq_true rfl) (by decide) (by decide) hlk (by decide) (by decide) ⟨⟨rfl, by omega⟩, rfl, rfl, rfl⟩
  · refine z_iload_n C 1 dX9_snow_4 rfl ?_
    refine z_aload_n C 0 dX9_snow_5 rfl ?_
    refine z_get (v := .int (zI (t))) C (lt_K hN (rfl : Nat.blt (0) 952 = true)) hay2 ary1 rfl inA_X9 1 (by decide) q_350 rfl rfl dX9_snow_6 ?_
    refine z_icmp_le (tgt := 22) C dX9_snow_9 (by decide) (by omega) (by omega) (fun hby42 => ?_) (fun hby42 => ?_)
    · refine z_aload_n C 0 dX9_snow_22 rfl ?_
      refine z_get (v := .ref (ad 2)) C (lt_K hN (rfl : Nat.blt (0) 952 = true)) hay2 ary1 rfl inA_X9 3 (by decide) q_352 rfl rfl dX9_snow_23 ?_
      refine z_aload_n C 0 dX9_snow_26 rfl ?_
      refine z_get (v := .ref (ad 1)) C (lt_K hN (rfl : Nat.blt (0) 952 = true)) hay2 ary1 rfl inA_X9 0 (by decide) q_349 rfl rfl dX9_snow_27 ?_
      refine z_iload_n C 1 dX9_snow_30 rfl ?_
      refine z_aload_n C 0 dX9_snow_31 rfl ?_
      refine z_get (v := .ref (ad 883)) C (lt_K hN (rfl : Nat.blt (0) 952 = true)) hay2 ary1 rfl inA_X9 8 (by decide) q_357 rfl rfl dX9_snow_32 ?_
      refine z_aload_n C 0 dX9_snow_35 rfl ?_
      refine z_get (v := .ref (ad 890)) C (lt_K hN (rfl : Nat.blt (0) 952 = true)) hay2 ary1 rfl inA_X9 9 (by decide) q_358 rfl rfl dX9_snow_36 ?_
      obtain ⟨x0xy44, x1xy44, x3xy44, x4xy44, x5xy44, x6xy44, x7xy44, x8xy44, txxy44, hcxy44⟩ := id ery1
      obtain ⟨sloy45, hooy45, uaoy45, stoy45, opoy45, aioy45, faoy45, muoy45, tboy45, hsloy45, hhooy45, hpoy45⟩ := id kry1
      obtain ⟨n9, hn9⟩ : ∃ n9 : Nat, z = (n9 : Int) := ⟨(z).toNat, by omega⟩
      have hxT := xT_un hTr
      refine z_cV (As := [.ref (ad 1), .int (zI (z)), .ref (ad 883), .ref (ad 890)]) (rest := []) (ci := 9) C (c_xRead l D A cs tt N ad _ (by omega) tp (unS tp) hxT n9 (by omega) ery1 dry1 _ _ _ _ _ _ _ _ _ ⟨hpoy45.1, hpoy45.2.1, hpoy45.2.2.1, hpoy45.2.2.2.1, hpoy45.2.2.2.2.1, hpoy45.2.2.2.2.2.1, hpoy45.2.2.2.2.2.2⟩ (by omega) (by omega) lry1 (z) hn9) (lt_K hN (rfl : Nat.blt (2) 952 = true)) hay4 hcxy44 rfl rfl mv_yX7_read q_724 hd_yX7_read (by decide) (Nat.le_of_ble_eq_true rfl) (by decide) dX9_snow_39 rfl (kI0 fun vy43 gvy43 hvy43 => ?_)
      obtain ⟨⟨L0, k9, co9, pl9, ⟨sl9, ho9, nm9, mn9, st9, op9, ai9, fa9, mu9, tb9, B9, L9⟩, hrun9, hr9, hco9, ⟨en9, ty9, a99, be9, tk9, td9, hc9⟩, h19, hX9⟩, hfvy43⟩ := hvy43
      obtain rfl : co9 = vy43 := hr9.symm
      obtain ⟨hP9, hsl9, hho9, hmn9, wt9, hwt9, hnm9, hW9⟩ := hX9
      have hPl9 : isPlan cs ad gvy43 883 sl9 ho9 0 st9 op9 ai9 fa9 mu9 tb9 := hP9
      have hs9 : 0 ≤ sl9 ∧ sl9 ≤ 4 := hsl9
      have ho99 : 0 ≤ ho9 ∧ ho9 ≤ 24 := hho9
      have hw9 : okWorld cs ad gvy43 890 := ⟨_, _, _, _, hmn9, by rw [hwt9 5 (by decide) (by decide)]; omega, hW9⟩
      have hop9 : okPlan cs ad gvy43 883 := ⟨_, _, _, _, _, _, _, _, _, hs9, ho99, hPl9⟩
      have hrd9 : okRdr ad gvy43 2 := ⟨_, _, _, _, _, _, _, _, _, hc9⟩
      obtain ⟨thcy46, zhcy46, ohcy46, rhcy46, hzhcy46, hthcy46, hwhcy46⟩ := id hw9
      have hTw := tW_wl hW9 hmn9 hwt9 hnm9
      refine z_istore_n (lv' := [(2, .int (zI (co9))), (0, .ref (ad 0)), (1, .int (zI (z)))]) C dX9_snow_42 rfl (by decide) rfl ?_
      refine z_aload_n C 1 dX9_snow_43 rfl ?_
      refine z_iconst (z := 0) C dX9_snow_44 rfl ?_
      have hgy47 := (hfvy43 (0) (by decide) (by omega)).trans ary1
      refine z_put (fs' := [.ref (ad 1), .int (zI (0)), .int (zI (fp)), .ref (ad 2), .ref (ad 4), .ref (ad 11), .ref (ad 447), .int (zI (im)), .ref (ad 883), .ref (ad 890), .ref (ad 900), .ref (ad 910), .ref (ad 917), .ref (ad 919)]) C (lt_K hN (rfl : Nat.blt (0) 952 = true)) hay2 hgy47 tyX9 tyX9_ok nmX9 rfl inA_X9 1 (by decide) q_350 rfl rfl rfl rfl (Nat.le_of_ble_eq_true rfl) rfl dX9_snow_45 (fun gy48 egy49 => ?_)
      have hgy50 := up_s egy49
      refine z_aload_n C 1 dX9_snow_48 rfl ?_
      refine z_aload_n C 1 dX9_snow_49 rfl ?_
      refine z_get (v := .ref (ad 2)) C (lt_K hN (rfl : Nat.blt (0) 952 = true)) hay2 hgy50 rfl inA_X9 3 (by decide) q_352 rfl rfl dX9_snow_50 ?_
      have hgy51 := up_n egy49 hc9 (by decide)
      refine z_get (v := .int (zI (pl9))) C (lt_K hN (rfl : Nat.blt (2) 952 = true)) hay4 hgy51 rfl inA_X7 0 (by decide) q_44 rfl rfl dX9_snow_53 ?_
      refine z_put (fs' := [.ref (ad 1), .int (zI (0)), .int (zI (pl9)), .ref (ad 2), .ref (ad 4), .ref (ad 11), .ref (ad 447), .int (zI (im)), .ref (ad 883), .ref (ad 890), .ref (ad 900), .ref (ad 910), .ref (ad 917), .ref (ad 919)]) C (lt_K hN (rfl : Nat.blt (0) 952 = true)) hay2 hgy50 tyX9 tyX9_ok nmX9 rfl inA_X9 2 (by decide) q_351 rfl rfl rfl rfl (Nat.le_of_ble_eq_true rfl) rfl dX9_snow_56 (fun gy52 egy53 => ?_)
      have hgy54 := up_s egy53
      refine z_iload_n C 0 dX9_snow_59 rfl ?_
      refine z_if_eq (tgt := 78) C dX9_snow_60 (by decide) (by omega) (fun hby55 => ?_) (fun hby55 => ?_)
      · refine z_aload_n C 1 dX9_snow_78 rfl ?_
        refine z_get (v := .ref (ad 4)) C (lt_K hN (rfl : Nat.blt (0) 952 = true)) hay2 hgy54 rfl inA_X9 4 (by decide) q_353 rfl rfl dX9_snow_79 ?_
        refine z_aload_n C 1 dX9_snow_82 rfl ?_
        refine z_get (v := .ref (ad 883)) C (lt_K hN (rfl : Nat.blt (0) 952 = true)) hay2 hgy54 rfl inA_X9 8 (by decide) q_357 rfl rfl dX9_snow_83 ?_
        have hpy57 := isPlan.mv (ad' := ad) (g' := gy52) (fun j h1 h2 => by rfl) (fun j h1 h2 => by rw [egy53, va_up_ne _ _ (by omega)]; rw [egy49, va_up_ne _ _ (by omega)]) hPl9
        have hgy58 := (hfvy43 (4) (by decide) (by omega)).trans fry1.1
        have hgy59 := up_n egy49 hgy58 (by decide)
        have hgy60 := up_n egy53 hgy59 (by decide)
        have hgy61 := (hfvy43 (4 + 1) (by omega) (by omega)).trans fry1.2.1
        have hgy62 := up_n egy49 hgy61 (by omega)
        have hgy63 := up_n egy53 hgy62 (by omega)
        have hgy64 := (hfvy43 (4 + 2) (by omega) (by omega)).trans fry1.2.2.1
        have hgy65 := up_n egy49 hgy64 (by omega)
        have hgy66 := up_n egy53 hgy65 (by omega)
        have hgy67 := (hfvy43 (4 + 3) (by omega) (by omega)).trans fry1.2.2.2.1
        have hgy68 := up_n egy49 hgy67 (by omega)
        have hgy69 := up_n egy53 hgy68 (by omega)
        have hgy70 := (hfvy43 (4 + 4) (by omega) (by omega)).trans fry1.2.2.2.2.1
        have hgy71 := up_n egy49 hgy70 (by omega)
        have hgy72 := up_n egy53 hgy71 (by omega)
        have hgy73 := (hfvy43 (4 + 5) (by omega) (by omega)).trans fry1.2.2.2.2.2.1
        have hgy74 := up_n egy49 hgy73 (by omega)
        have hgy75 := up_n egy53 hgy74 (by omega)
        have hgy76 := (hfvy43 (4 + 6) (by omega) (by omega)).trans fry1.2.2.2.2.2.2
        have hgy77 := up_n egy49 hgy76 (by omega)
        have hgy78 := up_n egy53 hgy77 (by omega)
        refine z_cV (As := [.ref (ad 883)]) (rest := []) (ci := 7) C (c_X5_copyFrom l D A cs tt N ad _ 4 (by omega) _ _ _ _ _ _ _ _ _ ⟨hgy60, hgy63, hgy66, hgy69, hgy72, hgy75, hgy78⟩ 883 (by omega) _ _ _ _ _ _ _ _ _ hpy57 (by omega)) (lt_K hN (rfl : Nat.blt (4) 952 = true)) hay5 hgy60 rfl rfl mv_yX5_copyFrom q_862 hd_yX5_copyFrom (by decide) (Nat.le_of_ble_eq_true rfl) (by decide) dX9_snow_86 rfl (kV0 fun gvy56 hvy56 => ?_)
        obtain ⟨hpvy56, hfvy56⟩ := hvy56
        refine z_aload_n C 1 dX9_snow_89 rfl ?_
        have hgy79 := (hfvy56 (0) (by omega)).trans hgy54
        refine z_get (v := .ref (ad 11)) C (lt_K hN (rfl : Nat.blt (0) 952 = true)) hay2 hgy79 rfl inA_X9 5 (by decide) q_354 rfl rfl dX9_snow_90 ?_
        refine z_aload_n C 1 dX9_snow_93 rfl ?_
        refine z_get (v := .ref (ad 890)) C (lt_K hN (rfl : Nat.blt (0) 952 = true)) hay2 hgy79 rfl inA_X9 9 (by decide) q_358 rfl rfl dX9_snow_94 ?_
        have hoky81 : okWorld cs ad gvy56 (890) := okWorld.mv (fun j j1 j2 => by rw [hfvy56 _ (by omega)]; rw [egy53, va_up_ne _ _ (by omega)]; rw [egy49, va_up_ne _ _ (by omega)]) hw9
        have hSb : okState cs ad gvy56 11 (na : Int) nz := hS.mv (fun _ _ _ => rfl) (fun j j1 j2 => by rw [hfvy56 _ (by omega)]; rw [egy53, va_up_ne _ _ (by omega)]; rw [egy49, va_up_ne _ _ (by omega)]; rw [hfvy43 _ (by omega) (by omega)])
        have hXb := xKt.mv (g' := gvy56) (fun j j1 j2 => by rw [hfvy56 _ (by omega)]; rw [egy53, va_up_ne _ _ (by omega)]; rw [egy49, va_up_ne _ _ (by omega)]; rw [hfvy43 _ (by omega) (by omega)]) hna40 hXK
        have hTb : isWl cs ad gvy56 890 (tW9 nm9 mn9 L9) := hTw.mv (fun j j1 j2 => by rw [hfvy56 _ (by omega)]; rw [egy53, va_up_ne _ _ (by omega)]; rw [egy49, va_up_ne _ _ (by omega)])
        have hgy82 := (hfvy43 (11) (by decide) (by omega)).trans iry1.1
        have hgy83 := up_n egy49 hgy82 (by decide)
        have hgy84 := up_n egy53 hgy83 (by decide)
        have hgy85 := (hfvy56 (11) (by omega)).trans hgy84
        refine z_cV (As := [.ref (ad 890)]) (rest := []) (ci := 8) C (c_qBegin l D A cs tt N ad _ 11 (by omega) na _ H W P nu nv nw rf hSb hXb 890 (by omega) hoky81 (tW9 nm9 mn9 L9) hTb (by omega)) (lt_K hN (rfl : Nat.blt (11) 952 = true)) hay6 hgy85 rfl rfl mv_yX6_beginWith q_866 hd_yX6_beginWith (by decide) (Nat.le_of_ble_eq_true rfl) (by decide) dX9_snow_97 rfl (kV0 fun gvy80 hvy80 => ?_)
        obtain ⟨hkvy80, hxvy80, hfvy80⟩ := hvy80
        have hacqy86 := hkvy80.2.1
        obtain ⟨asy87, bsy87, csy87, dsy87, esy87, ⟨ptsy87, fsy87, gsy871⟩, hsy87, ⟨nusy87, nvsy87, nwsy87, isy87, jsy87, ksy87, lsy87, msy87, nsy87⟩, rfsy87, osy87⟩ := id hkvy80
        obtain ⟨uy88t, uy88z, uy88o, uy88r, uy88z4, uy88t5, uy881, ⟨uy88u, uy882, uy883⟩, uy884⟩ := id csy87
        have hay89 : zAt ad (11 + 1) (ad (11 + 1)) := rfl
        have hay90 : zAt ad (11 + 1 + 1) (ad (11 + 1 + 1)) := rfl
        refine z_aload_n C 1 dX9_snow_100 rfl ?_
        refine z_iconst (z := 0) C dX9_snow_101 rfl ?_
        have hgy91 := (hfvy80 (0) (by omega)).trans hgy79
        refine z_put (fs' := [.ref (ad 1), .int (zI (0)), .int (zI (pl9)), .ref (ad 2), .ref (ad 4), .ref (ad 11), .ref (ad 447), .int (zI (0)), .ref (ad 883), .ref (ad 890), .ref (ad 900), .ref (ad 910), .ref (ad 917), .ref (ad 919)]) C (lt_K hN (rfl : Nat.blt (0) 952 = true)) hay2 hgy91 tyX9 tyX9_ok nmX9 rfl inA_X9 7 (by decide) q_356 rfl rfl (by decide) rfl (Nat.le_of_ble_eq_true rfl) rfl dX9_snow_102 (fun gy92 egy93 => ?_)
        have hgy94 := up_s egy93
        refine z_iconst (z := 0) C dX9_snow_105 rfl ?_
        have hgy95 := up_n egy49 h19 (by decide)
        have hgy96 := up_n egy53 hgy95 (by decide)
        have hgy97 := (hfvy56 (1) (by omega)).trans hgy96
        have hgy98 := (hfvy80 (1) (by omega)).trans hgy97
        have hgy99 := up_n egy93 hgy98 (by decide)
        have hpy100 := okState.mv (ad' := ad) (g' := gy92) (fun j h1 h2 => by rfl) (fun j h1 h2 => by rw [egy93, va_up_ne _ _ (by omega)]) hkvy80
        have hpy101 := okRdr.mv (ad' := ad) (g' := gy92) (fun j h1 h2 => by rfl) (fun j h1 h2 => by rw [egy93, va_up_ne _ _ (by omega)]; rw [hfvy80 _ (by omega)]; rw [hfvy56 _ (by omega)]; rw [egy53, va_up_ne _ _ (by omega)]; rw [egy49, va_up_ne _ _ (by omega)]) hrd9
        have hpy102 := isPlan.mv (ad' := ad) (g' := gy92) (fun j h1 h2 => by rfl) (fun j h1 h2 => by rw [egy93, va_up_ne _ _ (by omega)]; rw [hfvy80 _ (by omega)]) hpvy56
        have hpy103 := okState.mv (ad' := ad) (g' := gy92) (fun j h1 h2 => by rfl) (fun j h1 h2 => by rw [egy93, va_up_ne _ _ (by omega)]; rw [hfvy80 _ (by omega)]; rw [hfvy56 _ (by omega)]; rw [egy53, va_up_ne _ _ (by omega)]; rw [egy49, va_up_ne _ _ (by omega)]; rw [hfvy43 _ (by omega) (by omega)]) jry1
        have hpy104 := okPlan.mv (ad' := ad) (g' := gy92) (fun j h1 h2 => by rfl) (fun j h1 h2 => by rw [egy93, va_up_ne _ _ (by omega)]; rw [hfvy80 _ (by omega)]; rw [hfvy56 _ (by omega)]; rw [egy53, va_up_ne _ _ (by omega)]; rw [egy49, va_up_ne _ _ (by omega)]) hop9
        have hpy105 := okGss.mv (ad' := ad) (g' := gy92) (fun j h1 h2 => by rfl) (fun j h1 h2 => by rw [egy93, va_up_ne _ _ (by omega)]; rw [hfvy80 _ (by omega)]; rw [hfvy56 _ (by omega)]; rw [egy53, va_up_ne _ _ (by omega)]; rw [egy49, va_up_ne _ _ (by omega)]; rw [hfvy43 _ (by omega) (by omega)]) nry1
        have hpy106 := okLike.mv (ad' := ad) (g' := gy92) (fun j h1 h2 => by rfl) (fun j h1 h2 => by rw [egy93, va_up_ne _ _ (by omega)]; rw [hfvy80 _ (by omega)]; rw [hfvy56 _ (by omega)]; rw [egy53, va_up_ne _ _ (by omega)]; rw [egy49, va_up_ne _ _ (by omega)]; rw [hfvy43 _ (by omega) (by omega)]) ory1
        have hpy107 := okBld.mv (ad' := ad) (g' := gy92) (fun j h1 h2 => by rfl) (fun j h1 h2 => by rw [egy93, va_up_ne _ _ (by omega)]; rw [hfvy80 _ (by omega)]; rw [hfvy56 _ (by omega)]; rw [egy53, va_up_ne _ _ (by omega)]; rw [egy49, va_up_ne _ _ (by omega)]; rw [hfvy43 _ (by omega) (by omega)]) pry1
        have hoky108 : okWorld cs ad gy92 (890) := okWorld.mv (fun j j1 j2 => by rw [egy93, va_up_ne _ _ (by omega)]; rw [hfvy80 _ (by omega)]) hoky81
        have hoky109 : okWorld cs ad gy92 (900) := okWorld.mv (fun j j1 j2 => by rw [egy93, va_up_ne _ _ (by omega)]; rw [hfvy80 _ (by omega)]; rw [hfvy56 _ (by omega)]; rw [egy53, va_up_ne _ _ (by omega)]; rw [egy49, va_up_ne _ _ (by omega)]; rw [hfvy43 _ (by omega) (by omega)]) mry1
        have hrecy110 : okRec cs ad gy92 N (0) (pl9) (0) (0) (kz) (sl9) (ho9) (0) (st9) (op9) (ai9) (fa9) (mu9) (tb9) (tp) := ⟨hgy94, by omega, by omega, hgy99, hpy101, hpy102, by omega, by omega, ⟨_, hpy100⟩, ⟨_, hpy103⟩, hpy104, hoky108, hoky109, hpy105, hpy106, hpy107⟩
        have hz9 : (z).toNat = n9 := by omega
        obtain rfl : co9 = 0 := by omega
        have hrun : ps_run (unS tp) (z).toNat k9 (0, 0, 0, (fun _ => 0), stoy45, opoy45, aioy45, faoy45, muoy45, tabZ, (fun _ => 0), L0) (tk_at (unS tp) (z).toNat 0) = some ((0, pl9), (sl9, ho9, nm9, mn9, st9, op9, ai9, fa9, mu9, tb9, B9, L9)) := by rw [hz9]; exact hrun9
        have hSz : okState cs ad gy92 11 0 0 := hkvy80.mv (fun _ _ _ => rfl) (fun j j1 j2 => by rw [egy93, va_up_ne _ _ (by omega)])
        have hXz := xKt.mv (g' := gy92) (fun j j1 j2 => by rw [egy93, va_up_ne _ _ (by omega)]) (Nat.zero_le _) hxvy80
        exact z_rX (z_iret C hr hlk dX9_snow_106 (by decide) (by decide) ⟨0, rfl, rfl, rfl, by omega, ⟨_, _, _, _, _, L0, k9, pl9, (sl9, ho9, nm9, mn9, st9, op9, ai9, fa9, mu9, tb9, B9, L9), hrun, Or.inl ⟨rfl, hrecy110, hSz, hXz⟩⟩, fun j j1 j2 => by rw [egy93, va_up_ne _ _ (by omega)]; rw [hfvy80 _ (by omega)]; rw [hfvy56 _ (by omega)]; rw [egy53, va_up_ne _ _ (by omega)]; rw [egy49, va_up_ne _ _ (by omega)]; rw [hfvy43 _ (by omega) (by omega)]⟩)
      · refine z_aload_n C 1 dX9_snow_63 rfl ?_
        refine z_get (v := .ref (ad 11)) C (lt_K hN (rfl : Nat.blt (0) 952 = true)) hay2 hgy54 rfl inA_X9 5 (by decide) q_354 rfl rfl dX9_snow_64 ?_
        have hgy111 := (hfvy43 (11) (by decide) (by omega)).trans iry1.1
        have hgy112 := up_n egy49 hgy111 (by decide)
        have hgy113 := up_n egy53 hgy112 (by decide)
        refine z_get (v := .ref (ad (11 + 17))) C (lt_K hN (rfl : Nat.blt (11) 952 = true)) hay6 hgy113 rfl inA_X6 5 (by decide) q_267 rfl rfl dX9_snow_67 ?_
        refine z_iconst (z := 0) C dX9_snow_70 rfl ?_
        refine z_dup2 C dX9_snow_71 rfl rfl ?_
        have hgy114 := (hfvy43 (11 + 17) (by omega) (by omega)).trans hXK.2.2.2.2.2
        have hgy115 := up_n egy49 hgy114 (by omega)
        have hgy116 := up_n egy53 hgy115 (by omega)
        refine z_iald C (lt_K hN (rfl : Nat.blt (11 + 17) 952 = true)) hay30 hgy116 (0) (by omega) (by omega) (by decide) dX9_snow_72 ?_
        refine z_iconst (z := 1) C dX9_snow_73 rfl ?_
        refine z_iadd C dX9_snow_74 ?_
        refine z_iast C (lt_K hN (rfl : Nat.blt (11 + 17) 952 = true)) hay30 hgy116 (0) (by omega) (by omega) (by decide) dX9_snow_75 (fun gy117 egy118 => ?_)
        have hgy119 := up_s egy118
        refine z_iload_n C 0 dX9_snow_76 rfl ?_
        have hsty120 := okState.refused2 (g' := gy117) iry1 (fun j a1 a2 j1 => by rw [egy118, va_up_ne _ _ (by omega)]; rw [egy53, va_up_ne _ _ (by omega)]; rw [egy49, va_up_ne _ _ (by omega)]; rw [hfvy43 _ (by omega) (by omega)]) hgy119
        have hgy121 := up_n egy118 hgy54 (by omega)
        have hgy122 := up_n egy49 h19 (by decide)
        have hgy123 := up_n egy53 hgy122 (by decide)
        have hgy124 := up_n egy118 hgy123 (by omega)
        have hpy125 := okRdr.mv (ad' := ad) (g' := gy117) (fun j h1 h2 => by rfl) (fun j h1 h2 => by rw [egy118, va_up_ne _ _ (by omega)]; rw [egy53, va_up_ne _ _ (by omega)]; rw [egy49, va_up_ne _ _ (by omega)]) hrd9
        have hpy126 := isPlan.mv (ad' := ad) (g' := gy117) (fun j h1 h2 => by rfl) (fun j h1 h2 => by rw [egy118, va_up_ne _ _ (by omega)]; rw [egy53, va_up_ne _ _ (by omega)]; rw [egy49, va_up_ne _ _ (by omega)]; rw [hfvy43 _ (by omega) (by omega)]) fry1
        have hpy127 := okState.mv (ad' := ad) (g' := gy117) (fun j h1 h2 => by rfl) (fun j h1 h2 => by rw [egy118, va_up_ne _ _ (by omega)]; rw [egy53, va_up_ne _ _ (by omega)]; rw [egy49, va_up_ne _ _ (by omega)]; rw [hfvy43 _ (by omega) (by omega)]) jry1
        have hpy128 := okPlan.mv (ad' := ad) (g' := gy117) (fun j h1 h2 => by rfl) (fun j h1 h2 => by rw [egy118, va_up_ne _ _ (by omega)]; rw [egy53, va_up_ne _ _ (by omega)]; rw [egy49, va_up_ne _ _ (by omega)]) hop9
        have hpy129 := okGss.mv (ad' := ad) (g' := gy117) (fun j h1 h2 => by rfl) (fun j h1 h2 => by rw [egy118, va_up_ne _ _ (by omega)]; rw [egy53, va_up_ne _ _ (by omega)]; rw [egy49, va_up_ne _ _ (by omega)]; rw [hfvy43 _ (by omega) (by omega)]) nry1
        have hpy130 := okLike.mv (ad' := ad) (g' := gy117) (fun j h1 h2 => by rfl) (fun j h1 h2 => by rw [egy118, va_up_ne _ _ (by omega)]; rw [egy53, va_up_ne _ _ (by omega)]; rw [egy49, va_up_ne _ _ (by omega)]; rw [hfvy43 _ (by omega) (by omega)]) ory1
        have hpy131 := okBld.mv (ad' := ad) (g' := gy117) (fun j h1 h2 => by rfl) (fun j h1 h2 => by rw [egy118, va_up_ne _ _ (by omega)]; rw [egy53, va_up_ne _ _ (by omega)]; rw [egy49, va_up_ne _ _ (by omega)]; rw [hfvy43 _ (by omega) (by omega)]) pry1
        have hoky132 : okWorld cs ad gy117 (890) := okWorld.mv (fun j j1 j2 => by rw [egy118, va_up_ne _ _ (by omega)]; rw [egy53, va_up_ne _ _ (by omega)]; rw [egy49, va_up_ne _ _ (by omega)]) hw9
        have hoky133 : okWorld cs ad gy117 (900) := okWorld.mv (fun j j1 j2 => by rw [egy118, va_up_ne _ _ (by omega)]; rw [egy53, va_up_ne _ _ (by omega)]; rw [egy49, va_up_ne _ _ (by omega)]; rw [hfvy43 _ (by omega) (by omega)]) mry1
        have hrecy134 : okRec cs ad gy117 N (0) (pl9) (im) (nz) (kz) (sl) (ho) (ua) (st) (op) (ai) (fa) (mu) (tb) (tp) := ⟨hgy121, by omega, cry1, hgy124, hpy125, hpy126, gry11, hry1, ⟨_, hsty120⟩, ⟨_, hpy127⟩, hpy128, hoky132, hoky133, hpy129, hpy130, hpy131⟩
        have hz9 : (z).toNat = n9 := by omega
        have hrun : ps_run (unS tp) (z).toNat k9 (0, 0, 0, (fun _ => 0), stoy45, opoy45, aioy45, faoy45, muoy45, tabZ, (fun _ => 0), L0) (tk_at (unS tp) (z).toNat 0) = some ((co9, pl9), (sl9, ho9, nm9, mn9, st9, op9, ai9, fa9, mu9, tb9, B9, L9)) := by rw [hz9]; exact hrun9
        have hSz : okState cs ad gy117 11 (na : Int) nz := okState.refused2 hS (fun j j1 j2 j3 => by rw [egy118, va_up_ne _ _ (by omega)]; rw [egy53, va_up_ne _ _ (by omega)]; rw [egy49, va_up_ne _ _ (by omega)]; rw [hfvy43 _ (by omega) (by omega)]) hgy119
        have hXz := xKt.refd2 (i := 11) hXK hna40 (fun j j1 j2 j3 => by rw [egy118, va_up_ne _ _ (by omega)]; rw [egy53, va_up_ne _ _ (by omega)]; rw [egy49, va_up_ne _ _ (by omega)]; rw [hfvy43 _ (by omega) (by omega)]) hgy119
        exact z_rX (z_iret C hr hlk dX9_snow_77 (by decide) (by decide) ⟨co9, rfl, rfl, rfl, by omega, ⟨_, _, _, _, _, L0, k9, pl9, (sl9, ho9, nm9, mn9, st9, op9, ai9, fa9, mu9, tb9, B9, L9), hrun, Or.inr ⟨by omega, hrecy134, hSz, hXz⟩⟩, fun j j1 j2 => by rw [egy118, va_up_ne _ _ (by omega)]; rw [egy53, va_up_ne _ _ (by omega)]; rw [egy49, va_up_ne _ _ (by omega)]; rw [hfvy43 _ (by omega) (by omega)]⟩)
    · exact z_thr (cls := eIA) (text := "the tape has not so many bytes") C hl0 (by decide +kernel) q_658 q_19 (by decide +kernel) at_IA gd_IA dX9_snow_12 dX9_snow_15 dX9_snow_16 dX9_snow_18 dX9_snow_21 hxt (by decide) (Nat.le_of_ble_eq_true rfl) (by decide) (by decide) hlk (by decide) (by decide) ⟨⟨rfl, by omega⟩, rfl, rfl, rfl⟩

set_option maxRecDepth 100000 in
set_option maxHeartbeats 4000000 in
theorem c_qAdd (l : Launch) (D : va_G) (A : Nat → Prop) (cs : Nat → ClassId) (tt : Nat) (N : Nat) (ad : Nat → Nat) (g : Nat → va_E) (a : Nat) (hN : a + 4 ≤ N) (nz : Int) (nu nv nw : Nat → Int) (ha : isNotes cs ad g a nz nu nv nw) (hz8 : 0 ≤ nz ∧ nz < 8) (z : Int) (hz : -2147483648 ≤ z ∧ z ≤ 2147483647) (z1 : Int) (hz1 : -2147483648 ≤ z1 ∧ z1 ≤ 2147483647) (z2 : Int) (hz2 : -2147483648 ≤ z2 ∧ z2 ≤ 2147483647) : zM l yX2_add cX2_add 4 none ({ frames := 1, cells := 0, slots := 0, locals := 60 } : Room) D A cs tt N ad g [.ref (ad a), .int (zI (z)), .int (zI (z1)), .int (zI (z2))] (rV0 N ad fun g' => isNotes cs ad g' a (nz + 1) (uZ nu (nz).toNat z) (uZ nv (nz).toNat z1) (uZ nw (nz).toNat z2) ∧ ∀ j, j < a ∨ a + 4 ≤ j → g' j = g j) := by
  have hay1 : zAt ad (a) (ad a) := rfl
  have hay2 : zAt ad (a + 1) (ad (a + 1)) := rfl
  have hay3 : zAt ad (a + 2) (ad (a + 2)) := rfl
  have hay4 : zAt ad (a + 3) (ad (a + 3)) := rfl
  refine z_of (by decide) (Nat.le_of_ble_eq_true rfl) ?_
  intro pY eY sY mY below meth cY C hr hlk hnm
  refine z_lv (lv' := [(0, .ref (ad a)), (1, .int (zI (z))), (2, .int (zI (z1))), (3, .int (zI (z2)))]) [0, 1, 2, 3] rfl ?_
  refine z_aload_n C 0 dX2_add_0 rfl ?_
  refine z_get (v := .int (zI (nz))) C (lt_A0 hN rfl) hay1 ha.1 rfl inA_X2 0 (by decide) q_216 rfl rfl dX2_add_1 ?_
  refine z_bipush (z := 8) C dX2_add_4 (by decide) ?_
  refine z_icmp_ge (tgt := 49) C dX2_add_6 (by decide) (by omega) (by omega) (fun hby5 => ?_) (fun hby5 => ?_)
  · exfalso; omega
  · refine z_aload_n C 0 dX2_add_9 rfl ?_
    refine z_get (v := .ref (ad (a + 1))) C (lt_A0 hN rfl) hay1 ha.1 rfl inA_X2 1 (by decide) q_219 rfl rfl dX2_add_10 ?_
    refine z_aload_n C 0 dX2_add_13 rfl ?_
    refine z_get (v := .int (zI (nz))) C (lt_A0 hN rfl) hay1 ha.1 rfl inA_X2 0 (by decide) q_216 rfl rfl dX2_add_14 ?_
    refine z_iload_n C 1 dX2_add_17 rfl ?_
    refine z_iast C (lt_A (c := 1) hN rfl) hay2 ha.2.1 ((nz).toNat) (by omega) (by omega) (by decide) dX2_add_18 (fun gy6 egy7 => ?_)
    have hgy8 := up_s egy7
    refine z_aload_n C 0 dX2_add_19 rfl ?_
    have hgy9 := up_n egy7 ha.1 (ne_o (i := a) (c := 0) (d := 1) rfl)
    refine z_get (v := .ref (ad (a + 2))) C (lt_A0 hN rfl) hay1 hgy9 rfl inA_X2 2 (by decide) q_221 rfl rfl dX2_add_20 ?_
    refine z_aload_n C 0 dX2_add_23 rfl ?_
    refine z_get (v := .int (zI (nz))) C (lt_A0 hN rfl) hay1 hgy9 rfl inA_X2 0 (by decide) q_216 rfl rfl dX2_add_24 ?_
    refine z_iload_n C 2 dX2_add_27 rfl ?_
    have hgy10 := up_n egy7 ha.2.2.1 (ne_o (i := a) (c := 2) (d := 1) rfl)
    refine z_iast C (lt_A (c := 2) hN rfl) hay3 hgy10 ((nz).toNat) (by omega) (by omega) (by decide) dX2_add_28 (fun gy11 egy12 => ?_)
    have hgy13 := up_s egy12
    refine z_aload_n C 0 dX2_add_29 rfl ?_
    have hgy14 := up_n egy12 hgy9 (ne_o (i := a) (c := 0) (d := 2) rfl)
    refine z_get (v := .ref (ad (a + 3))) C (lt_A0 hN rfl) hay1 hgy14 rfl inA_X2 3 (by decide) q_223 rfl rfl dX2_add_30 ?_
    refine z_aload_n C 0 dX2_add_33 rfl ?_
    refine z_get (v := .int (zI (nz))) C (lt_A0 hN rfl) hay1 hgy14 rfl inA_X2 0 (by decide) q_216 rfl rfl dX2_add_34 ?_
    refine z_iload_n C 3 dX2_add_37 rfl ?_
    have hgy15 := up_n egy7 ha.2.2.2 (ne_o (i := a) (c := 3) (d := 1) rfl)
    have hgy16 := up_n egy12 hgy15 (ne_o (i := a) (c := 3) (d := 2) rfl)
    refine z_iast C (lt_A (c := 3) hN rfl) hay4 hgy16 ((nz).toNat) (by omega) (by omega) (by decide) dX2_add_38 (fun gy17 egy18 => ?_)
    have hgy19 := up_s egy18
    refine z_aload_n C 0 dX2_add_39 rfl ?_
    refine z_dup C dX2_add_40 rfl ?_
    have hgy20 := up_n egy18 hgy14 (ne_o (i := a) (c := 0) (d := 3) rfl)
    refine z_get (v := .int (zI (nz))) C (lt_A0 hN rfl) hay1 hgy20 rfl inA_X2 0 (by decide) q_216 rfl rfl dX2_add_41 ?_
    refine z_iconst (z := 1) C dX2_add_44 rfl ?_
    refine z_iadd C dX2_add_45 ?_
    refine z_put (fs' := [.int (zI (nz + 1)), .ref (ad (a + 1)), .ref (ad (a + 2)), .ref (ad (a + 3))]) C (lt_A0 hN rfl) hay1 hgy20 tyX2 tyX2_ok nmX2 rfl inA_X2 0 (by decide) q_216 rfl rfl rfl rfl (Nat.le_of_ble_eq_true rfl) rfl dX2_add_46 (fun gy21 egy22 => ?_)
    have hgy23 := up_s egy22
    have hgy24 := up_n egy12 hgy8 (ne_o (i := a) (c := 1) (d := 2) rfl)
    have hgy25 := up_n egy18 hgy24 (ne_o (i := a) (c := 1) (d := 3) rfl)
    have hgy26 := up_n egy22 hgy25 (ne_o (i := a) (c := 1) (d := 0) rfl)
    have hgy27 := up_n egy18 hgy13 (ne_o (i := a) (c := 2) (d := 3) rfl)
    have hgy28 := up_n egy22 hgy27 (ne_o (i := a) (c := 2) (d := 0) rfl)
    have hgy29 := up_n egy22 hgy19 (ne_o (i := a) (c := 3) (d := 0) rfl)
    exact z_vret C hr hlk dX2_add_49 (by decide) (by decide) ⟨rfl, rfl, rfl, ⟨hgy23, hgy26, hgy28, hgy29⟩, fun j j1 => by rw [egy22, va_up_ne _ _ (by omega)]; rw [egy18, va_up_ne _ _ (by omega)]; rw [egy12, va_up_ne _ _ (by omega)]; rw [egy7, va_up_ne _ _ (by omega)]⟩

set_option maxRecDepth 100000 in
set_option maxHeartbeats 4000000 in
theorem c_qNote (l : Launch) (D : va_G) (A : Nat → Prop) (cs : Nat → ClassId) (tt : Nat) (N : Nat) (ad : Nat → Nat) (g : Nat → va_E) (hN : 952 ≤ N) (t fp im nz kz sl ho ua : Int) (st op ai fa mu tb tp : Nat → Int) (hR : okRec cs ad g N t fp im nz kz sl ho ua st op ai fa mu tb tp) (na : Nat) (H : Nat → WL9) (W : WL9) (P : Nat → PT9) (nu nv nw rf : Nat → Int) (hS : okState cs ad g 11 (na : Int) nz) (hXK : xKt cs ad g 11 na H W P nz nu nv nw rf) (hz8 : 0 ≤ nz ∧ nz ≤ 8) (hnt : ∀ k, k < 8 → (0 ≤ nu k ∧ nu k ≤ 3) ∧ 0 ≤ nv k ∧ nv k ≤ 48) (z : Int) (hz : -2147483648 ≤ z ∧ z ≤ 2147483647) (z1 : Int) (hz1 : -2147483648 ≤ z1 ∧ z1 ≤ 2147483647) (z2 : Int) (hz2 : -2147483648 ≤ z2 ∧ z2 ≤ 2147483647) : zM l yX9_note cX9_note 5 (some .int) ({ frames := 8, cells := 0, slots := 0, locals := 480 } : Room) D A cs tt N ad g [.ref (ad 0), .int (zI (z)), .int (zI (z1)), .int (zI (z2))] (rI0 N ad fun q g' => ((((0 ≤ z ∧ z < sl) ∧ (0 ≤ z1 ∧ z1 ≤ 48) ∧ (0 ≤ z2 ∧ z2 ≤ 9999) ∧ nz < 8) ∧ q = nz + 1 ∧ okRec cs ad g' N t fp im (nz + 1) kz sl ho ua st op ai fa mu tb tp ∧ okState cs ad g' 11 (na : Int) (nz + 1) ∧ xKt cs ad g' 11 na H W P (nz + 1) (uZ nu (nz).toNat z) (uZ nv (nz).toNat z1) (uZ nw (nz).toNat z2) rf) ∨ (¬ ((0 ≤ z ∧ z < sl) ∧ (0 ≤ z1 ∧ z1 ≤ 48) ∧ (0 ≤ z2 ∧ z2 ≤ 9999) ∧ nz < 8) ∧ q = -1 ∧ okRec cs ad g' N t fp im nz kz sl ho ua st op ai fa mu tb tp ∧ okState cs ad g' 11 (na : Int) nz ∧ xKt cs ad g' 11 na H W P nz nu nv nw (uZ rf 2 (rf 2 + 1)))) ∧ ∀ j, j < 11 ∨ 447 ≤ j → g' j = g j) := by
  obtain ⟨ra1, ra2, ra3, -, -, ra6, ra7, ra8, -⟩ := id hR
  have hna := hS.2.1
  have hay1 : zAt ad (0) (ad 0) := rfl
  have hay2 : zAt ad (1) (ad 1) := rfl
  have hay3 : zAt ad (2) (ad 2) := rfl
  have hay4 : zAt ad (4) (ad 4) := rfl
  have hay5 : zAt ad (11) (ad 11) := rfl
  have hay6 : zAt ad (447) (ad 447) := rfl
  have hay7 : zAt ad (883) (ad 883) := rfl
  have hay8 : zAt ad (890) (ad 890) := rfl
  have hay9 : zAt ad (900) (ad 900) := rfl
  have hay10 : zAt ad (910) (ad 910) := rfl
  have hay11 : zAt ad (917) (ad 917) := rfl
  have hay12 : zAt ad (919) (ad 919) := rfl
  have hay13 : zAt ad (4 + 1) (ad (4 + 1)) := rfl
  have hay14 : zAt ad (4 + 2) (ad (4 + 2)) := rfl
  have hay15 : zAt ad (4 + 3) (ad (4 + 3)) := rfl
  have hay16 : zAt ad (4 + 4) (ad (4 + 4)) := rfl
  have hay17 : zAt ad (4 + 5) (ad (4 + 5)) := rfl
  have hay18 : zAt ad (4 + 6) (ad (4 + 6)) := rfl
  have hay19 : zAt ad (11 + 1) (ad (11 + 1)) := rfl
  have hay20 : zAt ad (11 + 11) (ad (11 + 11)) := rfl
  have hay21 : zAt ad (11 + 12) (ad (11 + 12)) := rfl
  have hay22 : zAt ad (11 + 13) (ad (11 + 13)) := rfl
  have hay23 : zAt ad (11 + 17) (ad (11 + 17)) := rfl
  refine z_of (by decide) (Nat.le_of_ble_eq_true rfl) ?_
  intro pY eY sY mY below meth cY C hr hlk hnm
  refine z_lv (lv' := [(0, .ref (ad 0)), (1, .int (zI (z))), (2, .int (zI (z1))), (3, .int (zI (z2)))]) [0, 1, 2, 3] rfl ?_
  refine z_aload_n C 0 dX9_note_0 rfl ?_
  refine z_iload_n C 1 dX9_note_1 rfl ?_
  refine z_cV (As := [.int (zI (z))]) (rest := []) (ci := 11) C (c_X9_isSlope l D A cs tt N ad _ hN _ _ _ _ _ _ _ _ _ _ _ _ _ _ _ hR (z) (by omega)) (lt_K hN (rfl : Nat.blt (0) 952 = true)) hay1 ra1 rfl rfl mv_yX9_isSlope q_537 hd_yX9_isSlope (by decide) (Nat.le_of_ble_eq_true rfl) (by decide) dX9_note_2 rfl (kI0 fun vy24 gvy24 hvy24 => ?_)
  obtain ⟨hvy24, rfl⟩ := hvy24
  have hbvy24 : (vy24 = 1 ∧ 0 ≤ z ∧ z < sl) ∨ (vy24 = 0 ∧ ¬ (0 ≤ z ∧ z < sl)) := by rw [hvy24]; by_cases e9 : 0 ≤ z ∧ z < sl; (rw [if_pos e9]; exact Or.inl ⟨rfl, e9⟩); (rw [if_neg e9]; exact Or.inr ⟨rfl, e9⟩)
  refine z_if_eq (tgt := 33) C dX9_note_5 (by decide) (by omega) (fun hby25 => ?_) (fun hby25 => ?_)
  · refine z_iconst (z := 0) C dX9_note_33 rfl ?_
    refine z_istore (lv' := [(4, .int (zI (0))), (0, .ref (ad 0)), (1, .int (zI (z))), (2, .int (zI (z1))), (3, .int (zI (z2)))]) C dX9_note_34 (by decide) rfl ?_
    refine z_iload C 0 dX9_note_36 rfl ?_
    refine z_if_eq (tgt := 56) C dX9_note_38 (by decide) (by omega) (fun _ => ?_) (fun h => absurd h (by omega))
    refine z_aload_n C 1 dX9_note_56 rfl ?_
    refine z_iconst (z := 2) C dX9_note_57 rfl ?_
    refine z_cV (As := [.int (zI (2))]) (rest := []) (ci := 11) C (c_qRefuse l D A cs tt N ad _ hN _ _ _ _ _ _ _ _ _ _ _ _ _ _ _ hR na H W P nu nv nw rf hS hXK 2 (by omega)) (lt_K hN (rfl : Nat.blt (0) 952 = true)) hay1 ra1 rfl rfl mv_yX9_refuse q_408 hd_yX9_refuse (by decide) (Nat.le_of_ble_eq_true rfl) (by decide) dX9_note_58 rfl (kI0 fun vy26 gvy26 hvy26 => ?_)
    obtain ⟨rfl, ⟨hSvy26, hXvy26⟩, hfvy26⟩ := hvy26
    exact z_iret C hr hlk dX9_note_61 (by decide) (by decide) ⟨-1, rfl, rfl, rfl, Or.inr ⟨by omega, by omega, okRec.st hR (fun j j1 => by rw [hfvy26 _ (by omega)]) hSvy26, hSvy26, hXvy26⟩, fun j j1 => by rw [hfvy26 _ (by omega)]⟩
  · refine z_iload_n C 2 dX9_note_8 rfl ?_
    refine z_if_lt (tgt := 33) C dX9_note_9 (by decide) (by omega) (fun hby27 => ?_) (fun hby27 => ?_)
    · refine z_iconst (z := 0) C dX9_note_33 rfl ?_
      refine z_istore (lv' := [(4, .int (zI (0))), (0, .ref (ad 0)), (1, .int (zI (z))), (2, .int (zI (z1))), (3, .int (zI (z2)))]) C dX9_note_34 (by decide) rfl ?_
      refine z_iload C 0 dX9_note_36 rfl ?_
      refine z_if_eq (tgt := 56) C dX9_note_38 (by decide) (by omega) (fun _ => ?_) (fun h => absurd h (by omega))
      refine z_aload_n C 1 dX9_note_56 rfl ?_
      refine z_iconst (z := 2) C dX9_note_57 rfl ?_
      refine z_cV (As := [.int (zI (2))]) (rest := []) (ci := 11) C (c_qRefuse l D A cs tt N ad _ hN _ _ _ _ _ _ _ _ _ _ _ _ _ _ _ hR na H W P nu nv nw rf hS hXK 2 (by omega)) (lt_K hN (rfl : Nat.blt (0) 952 = true)) hay1 ra1 rfl rfl mv_yX9_refuse q_408 hd_yX9_refuse (by decide) (Nat.le_of_ble_eq_true rfl) (by decide) dX9_note_58 rfl (kI0 fun vy28 gvy28 hvy28 => ?_)
      obtain ⟨rfl, ⟨hSvy28, hXvy28⟩, hfvy28⟩ := hvy28
      exact z_iret C hr hlk dX9_note_61 (by decide) (by decide) ⟨-1, rfl, rfl, rfl, Or.inr ⟨by omega, by omega, okRec.st hR (fun j j1 => by rw [hfvy28 _ (by omega)]) hSvy28, hSvy28, hXvy28⟩, fun j j1 => by rw [hfvy28 _ (by omega)]⟩
    · refine z_iload_n C 2 dX9_note_12 rfl ?_
      refine z_bipush (z := 48) C dX9_note_13 (by decide) ?_
      refine z_icmp_gt (tgt := 33) C dX9_note_15 (by decide) (by omega) (by omega) (fun hby29 => ?_) (fun hby29 => ?_)
      · refine z_iconst (z := 0) C dX9_note_33 rfl ?_
        refine z_istore (lv' := [(4, .int (zI (0))), (0, .ref (ad 0)), (1, .int (zI (z))), (2, .int (zI (z1))), (3, .int (zI (z2)))]) C dX9_note_34 (by decide) rfl ?_
        refine z_iload C 0 dX9_note_36 rfl ?_
        refine z_if_eq (tgt := 56) C dX9_note_38 (by decide) (by omega) (fun _ => ?_) (fun h => absurd h (by omega))
        refine z_aload_n C 1 dX9_note_56 rfl ?_
        refine z_iconst (z := 2) C dX9_note_57 rfl ?_
        refine z_cV (As := [.int (zI (2))]) (rest := []) (ci := 11) C (c_qRefuse l D A cs tt N ad _ hN _ _ _ _ _ _ _ _ _ _ _ _ _ _ _ hR na H W P nu nv nw rf hS hXK 2 (by omega)) (lt_K hN (rfl : Nat.blt (0) 952 = true)) hay1 ra1 rfl rfl mv_yX9_refuse q_408 hd_yX9_refuse (by decide) (Nat.le_of_ble_eq_true rfl) (by decide) dX9_note_58 rfl (kI0 fun vy30 gvy30 hvy30 => ?_)
        obtain ⟨rfl, ⟨hSvy30, hXvy30⟩, hfvy30⟩ := hvy30
        exact z_iret C hr hlk dX9_note_61 (by decide) (by decide) ⟨-1, rfl, rfl, rfl, Or.inr ⟨by omega, by omega, okRec.st hR (fun j j1 => by rw [hfvy30 _ (by omega)]) hSvy30, hSvy30, hXvy30⟩, fun j j1 => by rw [hfvy30 _ (by omega)]⟩
      · refine z_iload_n C 3 dX9_note_18 rfl ?_
        refine z_if_lt (tgt := 33) C dX9_note_19 (by decide) (by omega) (fun hby31 => ?_) (fun hby31 => ?_)
        · refine z_iconst (z := 0) C dX9_note_33 rfl ?_
          refine z_istore (lv' := [(4, .int (zI (0))), (0, .ref (ad 0)), (1, .int (zI (z))), (2, .int (zI (z1))), (3, .int (zI (z2)))]) C dX9_note_34 (by decide) rfl ?_
          refine z_iload C 0 dX9_note_36 rfl ?_
          refine z_if_eq (tgt := 56) C dX9_note_38 (by decide) (by omega) (fun _ => ?_) (fun h => absurd h (by omega))
          refine z_aload_n C 1 dX9_note_56 rfl ?_
          refine z_iconst (z := 2) C dX9_note_57 rfl ?_
          refine z_cV (As := [.int (zI (2))]) (rest := []) (ci := 11) C (c_qRefuse l D A cs tt N ad _ hN _ _ _ _ _ _ _ _ _ _ _ _ _ _ _ hR na H W P nu nv nw rf hS hXK 2 (by omega)) (lt_K hN (rfl : Nat.blt (0) 952 = true)) hay1 ra1 rfl rfl mv_yX9_refuse q_408 hd_yX9_refuse (by decide) (Nat.le_of_ble_eq_true rfl) (by decide) dX9_note_58 rfl (kI0 fun vy32 gvy32 hvy32 => ?_)
          obtain ⟨rfl, ⟨hSvy32, hXvy32⟩, hfvy32⟩ := hvy32
          exact z_iret C hr hlk dX9_note_61 (by decide) (by decide) ⟨-1, rfl, rfl, rfl, Or.inr ⟨by omega, by omega, okRec.st hR (fun j j1 => by rw [hfvy32 _ (by omega)]) hSvy32, hSvy32, hXvy32⟩, fun j j1 => by rw [hfvy32 _ (by omega)]⟩
        · refine z_iload_n C 3 dX9_note_22 rfl ?_
          refine z_sipush (z := 9999) C dX9_note_23 (by decide) ?_
          refine z_icmp_gt (tgt := 33) C dX9_note_26 (by decide) (by omega) (by omega) (fun hby33 => ?_) (fun hby33 => ?_)
          · refine z_iconst (z := 0) C dX9_note_33 rfl ?_
            refine z_istore (lv' := [(4, .int (zI (0))), (0, .ref (ad 0)), (1, .int (zI (z))), (2, .int (zI (z1))), (3, .int (zI (z2)))]) C dX9_note_34 (by decide) rfl ?_
            refine z_iload C 0 dX9_note_36 rfl ?_
            refine z_if_eq (tgt := 56) C dX9_note_38 (by decide) (by omega) (fun _ => ?_) (fun h => absurd h (by omega))
            refine z_aload_n C 1 dX9_note_56 rfl ?_
            refine z_iconst (z := 2) C dX9_note_57 rfl ?_
            refine z_cV (As := [.int (zI (2))]) (rest := []) (ci := 11) C (c_qRefuse l D A cs tt N ad _ hN _ _ _ _ _ _ _ _ _ _ _ _ _ _ _ hR na H W P nu nv nw rf hS hXK 2 (by omega)) (lt_K hN (rfl : Nat.blt (0) 952 = true)) hay1 ra1 rfl rfl mv_yX9_refuse q_408 hd_yX9_refuse (by decide) (Nat.le_of_ble_eq_true rfl) (by decide) dX9_note_58 rfl (kI0 fun vy34 gvy34 hvy34 => ?_)
            obtain ⟨rfl, ⟨hSvy34, hXvy34⟩, hfvy34⟩ := hvy34
            exact z_iret C hr hlk dX9_note_61 (by decide) (by decide) ⟨-1, rfl, rfl, rfl, Or.inr ⟨by omega, by omega, okRec.st hR (fun j j1 => by rw [hfvy34 _ (by omega)]) hSvy34, hSvy34, hXvy34⟩, fun j j1 => by rw [hfvy34 _ (by omega)]⟩
          · refine z_iconst (z := 1) C dX9_note_29 rfl ?_
            refine z_goto (tgt := 34) C dX9_note_30 (by decide) ?_
            refine z_istore (lv' := [(4, .int (zI (1))), (0, .ref (ad 0)), (1, .int (zI (z))), (2, .int (zI (z1))), (3, .int (zI (z2)))]) C dX9_note_34 (by decide) rfl ?_
            refine z_iload C 0 dX9_note_36 rfl ?_
            refine z_if_eq (tgt := 56) C dX9_note_38 (by decide) (by omega) (fun h => absurd h (by omega)) (fun _ => ?_)
            refine z_aload_n C 1 dX9_note_41 rfl ?_
            refine z_get (v := .ref (ad 11)) C (lt_K hN (rfl : Nat.blt (0) 952 = true)) hay1 ra1 rfl inA_X9 5 (by decide) q_354 rfl rfl dX9_note_42 ?_
            refine z_get (v := .ref (ad (11 + 13))) C (lt_K hN (rfl : Nat.blt (11) 952 = true)) hay5 hXK.1 rfl inA_X6 4 (by decide) q_265 rfl rfl dX9_note_45 ?_
            refine z_get (v := .int (zI (nz))) C (lt_K hN (rfl : Nat.blt (11 + 13) 952 = true)) hay22 hXK.2.2.2.2.1.1 rfl inA_X2 0 (by decide) q_218 rfl rfl dX9_note_48 ?_
            refine z_bipush (z := 8) C dX9_note_51 (by decide) ?_
            refine z_icmp_lt (tgt := 62) C dX9_note_53 (by decide) (by omega) (by omega) (fun hby35 => ?_) (fun hby35 => ?_)
            · refine z_aload_n C 1 dX9_note_62 rfl ?_
              refine z_get (v := .ref (ad 11)) C (lt_K hN (rfl : Nat.blt (0) 952 = true)) hay1 ra1 rfl inA_X9 5 (by decide) q_354 rfl rfl dX9_note_63 ?_
              refine z_get (v := .ref (ad (11 + 13))) C (lt_K hN (rfl : Nat.blt (11) 952 = true)) hay5 hXK.1 rfl inA_X6 4 (by decide) q_265 rfl rfl dX9_note_66 ?_
              refine z_iload_n C 2 dX9_note_69 rfl ?_
              refine z_iload_n C 3 dX9_note_70 rfl ?_
              refine z_iload_n C 4 dX9_note_71 rfl ?_
              refine z_cV (As := [.int (zI (z)), .int (zI (z1)), .int (zI (z2))]) (rest := []) (ci := 4) C (c_qAdd l D A cs tt N ad _ (11 + 13) (by omega) nz nu nv nw hXK.2.2.2.2.1 (by omega) (z) (by omega) (z1) (by omega) (z2) (by omega)) (lt_K hN (rfl : Nat.blt (11 + 13) 952 = true)) hay22 hXK.2.2.2.2.1.1 rfl rfl mv_yX2_add q_619 hd_yX2_add (by decide) (Nat.le_of_ble_eq_true rfl) (by decide) dX9_note_72 rfl (kV0 fun gvy36 hvy36 => ?_)
              obtain ⟨hkvy36, hfvy36⟩ := hvy36
              refine z_aload_n C 1 dX9_note_75 rfl ?_
              have hgy37 := (hfvy36 (0) (by omega)).trans ra1
              refine z_get (v := .ref (ad 11)) C (lt_K hN (rfl : Nat.blt (0) 952 = true)) hay1 hgy37 rfl inA_X9 5 (by decide) q_354 rfl rfl dX9_note_76 ?_
              have hgy38 := (hfvy36 (11) (by omega)).trans hXK.1
              refine z_get (v := .ref (ad (11 + 13))) C (lt_K hN (rfl : Nat.blt (11) 952 = true)) hay5 hgy38 rfl inA_X6 4 (by decide) q_265 rfl rfl dX9_note_79 ?_
              refine z_get (v := .int (zI ((nz + 1)))) C (lt_K hN (rfl : Nat.blt (11 + 13) 952 = true)) hay22 hkvy36.1 rfl inA_X2 0 (by decide) q_218 rfl rfl dX9_note_82 ?_
              have hS9 : okState cs ad gvy36 11 (na : Int) (nz + 1) := okState.notes hS hfvy36 ⟨_, _, _, by omega, nt_put hnt (by omega) (by omega), hkvy36⟩
              have hX9 := xKt.notes (i := 11) hXK (by omega) hfvy36 hkvy36
              exact z_iret C hr hlk dX9_note_85 (by decide) (by decide) ⟨(nz + 1), rfl, rfl, rfl, Or.inl ⟨by omega, by omega, okRec.st hR (fun j j1 => by rw [hfvy36 _ (by omega)]) hS9, hS9, hX9⟩, fun j j1 => by rw [hfvy36 _ (by omega)]⟩
            · refine z_aload_n C 1 dX9_note_56 rfl ?_
              refine z_iconst (z := 2) C dX9_note_57 rfl ?_
              refine z_cV (As := [.int (zI (2))]) (rest := []) (ci := 11) C (c_qRefuse l D A cs tt N ad _ hN _ _ _ _ _ _ _ _ _ _ _ _ _ _ _ hR na H W P nu nv nw rf hS hXK 2 (by omega)) (lt_K hN (rfl : Nat.blt (0) 952 = true)) hay1 ra1 rfl rfl mv_yX9_refuse q_408 hd_yX9_refuse (by decide) (Nat.le_of_ble_eq_true rfl) (by decide) dX9_note_58 rfl (kI0 fun vy39 gvy39 hvy39 => ?_)
              obtain ⟨rfl, ⟨hSvy39, hXvy39⟩, hfvy39⟩ := hvy39
              exact z_iret C hr hlk dX9_note_61 (by decide) (by decide) ⟨-1, rfl, rfl, rfl, Or.inr ⟨by omega, by omega, okRec.st hR (fun j j1 => by rw [hfvy39 _ (by omega)]) hSvy39, hSvy39, hXvy39⟩, fun j j1 => by rw [hfvy39 _ (by omega)]⟩

set_option maxRecDepth 100000 in
set_option maxHeartbeats 4000000 in
theorem c_qForget0 (l : Launch) (D : va_G) (A : Nat → Prop) (cs : Nat → ClassId) (tt : Nat) (N : Nat) (ad : Nat → Nat) (g : Nat → va_E) (hN : 952 ≤ N) (t fp im nz kz sl ho ua : Int) (st op ai fa mu tb tp : Nat → Int) (hR : okRec cs ad g N t fp im nz kz sl ho ua st op ai fa mu tb tp) (na : Nat) (H : Nat → WL9) (W : WL9) (P : Nat → PT9) (nu nv nw rf : Nat → Int) (hS : okState cs ad g 11 (na : Int) nz) (hXK : xKt cs ad g 11 na H W P nz nu nv nw rf) (hz8 : 0 ≤ nz ∧ nz ≤ 8) (hnt : ∀ k, k < 8 → (0 ≤ nu k ∧ nu k ≤ 3) ∧ 0 ≤ nv k ∧ nv k ≤ 48) : zM l yX9_forget cX9_forget 1 none ({ frames := 8, cells := 0, slots := 0, locals := 480 } : Room) D A cs tt N ad g [.ref (ad 0)] (rV0 N ad fun g' => okRec cs ad g' N t fp im 0 kz sl ho ua st op ai fa mu tb tp ∧ (okState cs ad g' 11 (na : Int) 0 ∧ xKt cs ad g' 11 na H W P 0 nu nv nw rf) ∧ ∀ j, j < 11 ∨ 447 ≤ j → g' j = g j) := by
  obtain ⟨ra1, ra2, ra3, -, -, ra6, ra7, ra8, -⟩ := id hR
  have hna := hS.2.1
  have hay1 : zAt ad (0) (ad 0) := rfl
  have hay2 : zAt ad (1) (ad 1) := rfl
  have hay3 : zAt ad (2) (ad 2) := rfl
  have hay4 : zAt ad (4) (ad 4) := rfl
  have hay5 : zAt ad (11) (ad 11) := rfl
  have hay6 : zAt ad (447) (ad 447) := rfl
  have hay7 : zAt ad (883) (ad 883) := rfl
  have hay8 : zAt ad (890) (ad 890) := rfl
  have hay9 : zAt ad (900) (ad 900) := rfl
  have hay10 : zAt ad (910) (ad 910) := rfl
  have hay11 : zAt ad (917) (ad 917) := rfl
  have hay12 : zAt ad (919) (ad 919) := rfl
  have hay13 : zAt ad (4 + 1) (ad (4 + 1)) := rfl
  have hay14 : zAt ad (4 + 2) (ad (4 + 2)) := rfl
  have hay15 : zAt ad (4 + 3) (ad (4 + 3)) := rfl
  have hay16 : zAt ad (4 + 4) (ad (4 + 4)) := rfl
  have hay17 : zAt ad (4 + 5) (ad (4 + 5)) := rfl
  have hay18 : zAt ad (4 + 6) (ad (4 + 6)) := rfl
  have hay19 : zAt ad (11 + 1) (ad (11 + 1)) := rfl
  have hay20 : zAt ad (11 + 11) (ad (11 + 11)) := rfl
  have hay21 : zAt ad (11 + 12) (ad (11 + 12)) := rfl
  have hay22 : zAt ad (11 + 13) (ad (11 + 13)) := rfl
  have hay23 : zAt ad (11 + 17) (ad (11 + 17)) := rfl
  refine z_of (by decide) (Nat.le_of_ble_eq_true rfl) ?_
  intro pY eY sY mY below meth cY C hr hlk hnm
  refine z_lv (lv' := [(0, .ref (ad 0))]) [0] rfl ?_
  refine z_aload_n C 0 dX9_forget_0 rfl ?_
  refine z_get (v := .ref (ad 11)) C (lt_K hN (rfl : Nat.blt (0) 952 = true)) hay1 ra1 rfl inA_X9 5 (by decide) q_354 rfl rfl dX9_forget_1 ?_
  refine z_get (v := .ref (ad (11 + 13))) C (lt_K hN (rfl : Nat.blt (11) 952 = true)) hay5 hXK.1 rfl inA_X6 4 (by decide) q_265 rfl rfl dX9_forget_4 ?_
  refine z_iconst (z := 0) C dX9_forget_7 rfl ?_
  refine z_put (fs' := [.int (zI (0)), .ref (ad (11 + 13 + 1)), .ref (ad (11 + 13 + 2)), .ref (ad (11 + 13 + 3))]) C (lt_K hN (rfl : Nat.blt (11 + 13) 952 = true)) hay22 hXK.2.2.2.2.1.1 tyX2 tyX2_ok nmX2 rfl inA_X2 0 (by decide) q_218 rfl rfl rfl rfl (Nat.le_of_ble_eq_true rfl) rfl dX9_forget_8 (fun gy24 egy25 => ?_)
  have hgy26 := up_s egy25
  have hN9 : isNotes cs ad gy24 (11 + 13) 0 nu nv nw := ⟨hgy26, by rw [egy25, va_up_ne _ _ (by omega)]; exact hXK.2.2.2.2.1.2.1, by rw [egy25, va_up_ne _ _ (by omega)]; exact hXK.2.2.2.2.1.2.2.1, by rw [egy25, va_up_ne _ _ (by omega)]; exact hXK.2.2.2.2.1.2.2.2⟩
  have hF9 : ∀ j, j < 11 + 13 ∨ 11 + 17 ≤ j → gy24 j = g j := fun j j1 => by rw [egy25, va_up_ne _ _ (by omega)]
  have hS9 : okState cs ad gy24 11 (na : Int) 0 := okState.notes hS hF9 ⟨_, _, _, by decide, hnt, hN9⟩
  have hX9 := xKt.notes (i := 11) hXK (by omega) hF9 hN9
  exact z_vret C hr hlk dX9_forget_11 (by decide) (by decide) ⟨rfl, rfl, rfl, okRec.st hR (fun j j1 => by rw [egy25, va_up_ne _ _ (by omega)]) hS9, ⟨hS9, hX9⟩, fun j j1 => by rw [egy25, va_up_ne _ _ (by omega)]⟩
end
section
-- 9n8.dec.lean.txt
-- decode rows of unt
theorem dX10_note_0 : decode cX10_note 0 = .ok (.aload_n 0, 1) := by decide +kernel
theorem dX10_note_1 : decode cX10_note 1 = .ok (.iconst 0, 1) := by decide +kernel
theorem dX10_note_2 : decode cX10_note 2 = .ok (.putfield 110, 3) := by decide +kernel
theorem dX10_note_5 : decode cX10_note 5 = .ok (.aload_n 0, 1) := by decide +kernel
theorem dX10_note_6 : decode cX10_note 6 = .ok (.getfield 336, 3) := by decide +kernel
theorem dX10_note_9 : decode cX10_note 9 = .ok (.bipush 8, 2) := by decide +kernel
theorem dX10_note_11 : decode cX10_note 11 = .ok (.if_icmp .eq 38, 3) := by decide +kernel
theorem dX10_note_49 : decode cX10_note 49 = .ok (.aload_n 0, 1) := by decide +kernel
theorem dX10_note_50 : decode cX10_note 50 = .ok (.iconst 2, 1) := by decide +kernel
theorem dX10_note_51 : decode cX10_note 51 = .ok (.invokevirtual 394, 3) := by decide +kernel
theorem dX10_note_54 : decode cX10_note 54 = .ok (.ireturn, 1) := by decide +kernel
theorem dX10_note_14 : decode cX10_note 14 = .ok (.iload_n 1, 1) := by decide +kernel
theorem dX10_note_15 : decode cX10_note 15 = .ok (.iconst 0, 1) := by decide +kernel
theorem dX10_note_16 : decode cX10_note 16 = .ok (.aload_n 0, 1) := by decide +kernel
theorem dX10_note_17 : decode cX10_note 17 = .ok (.getfield 198, 3) := by decide +kernel
theorem dX10_note_20 : decode cX10_note 20 = .ok (.iconst 1, 1) := by decide +kernel
theorem dX10_note_21 : decode cX10_note 21 = .ok (.isub, 1) := by decide +kernel
theorem dX10_note_22 : decode cX10_note 22 = .ok (.invokestatic 281, 3) := by decide +kernel
theorem dX10_note_25 : decode cX10_note 25 = .ok (.ifCond .eq 24, 3) := by decide +kernel
theorem dX10_note_28 : decode cX10_note 28 = .ok (.iload_n 2, 1) := by decide +kernel
theorem dX10_note_29 : decode cX10_note 29 = .ok (.iconst 0, 1) := by decide +kernel
theorem dX10_note_30 : decode cX10_note 30 = .ok (.bipush 48, 2) := by decide +kernel
theorem dX10_note_32 : decode cX10_note 32 = .ok (.invokestatic 281, 3) := by decide +kernel
theorem dX10_note_35 : decode cX10_note 35 = .ok (.ifCond .eq 14, 3) := by decide +kernel
theorem dX10_note_38 : decode cX10_note 38 = .ok (.iload_n 3, 1) := by decide +kernel
theorem dX10_note_39 : decode cX10_note 39 = .ok (.iconst 0, 1) := by decide +kernel
theorem dX10_note_40 : decode cX10_note 40 = .ok (.sipush 9999, 3) := by decide +kernel
theorem dX10_note_43 : decode cX10_note 43 = .ok (.invokestatic 281, 3) := by decide +kernel
theorem dX10_note_46 : decode cX10_note 46 = .ok (.ifCond .ne 9, 3) := by decide +kernel
theorem dX10_note_55 : decode cX10_note 55 = .ok (.aload_n 0, 1) := by decide +kernel
theorem dX10_note_56 : decode cX10_note 56 = .ok (.getfield 31, 3) := by decide +kernel
theorem dX10_note_59 : decode cX10_note 59 = .ok (.aload_n 0, 1) := by decide +kernel
theorem dX10_note_60 : decode cX10_note 60 = .ok (.getfield 336, 3) := by decide +kernel
theorem dX10_note_63 : decode cX10_note 63 = .ok (.iload_n 1, 1) := by decide +kernel
theorem dX10_note_64 : decode cX10_note 64 = .ok (.iastore, 1) := by decide +kernel
theorem dX10_note_65 : decode cX10_note 65 = .ok (.aload_n 0, 1) := by decide +kernel
theorem dX10_note_66 : decode cX10_note 66 = .ok (.getfield 34, 3) := by decide +kernel
theorem dX10_note_69 : decode cX10_note 69 = .ok (.aload_n 0, 1) := by decide +kernel
theorem dX10_note_70 : decode cX10_note 70 = .ok (.getfield 336, 3) := by decide +kernel
theorem dX10_note_73 : decode cX10_note 73 = .ok (.iload_n 2, 1) := by decide +kernel
theorem dX10_note_74 : decode cX10_note 74 = .ok (.iastore, 1) := by decide +kernel
theorem dX10_note_75 : decode cX10_note 75 = .ok (.aload_n 0, 1) := by decide +kernel
theorem dX10_note_76 : decode cX10_note 76 = .ok (.getfield 37, 3) := by decide +kernel
theorem dX10_note_79 : decode cX10_note 79 = .ok (.aload_n 0, 1) := by decide +kernel
theorem dX10_note_80 : decode cX10_note 80 = .ok (.getfield 336, 3) := by decide +kernel
theorem dX10_note_83 : decode cX10_note 83 = .ok (.iload_n 3, 1) := by decide +kernel
theorem dX10_note_84 : decode cX10_note 84 = .ok (.iastore, 1) := by decide +kernel
theorem dX10_note_85 : decode cX10_note 85 = .ok (.aload_n 0, 1) := by decide +kernel
theorem dX10_note_86 : decode cX10_note 86 = .ok (.dup, 1) := by decide +kernel
theorem dX10_note_87 : decode cX10_note 87 = .ok (.getfield 336, 3) := by decide +kernel
theorem dX10_note_90 : decode cX10_note 90 = .ok (.iconst 1, 1) := by decide +kernel
theorem dX10_note_91 : decode cX10_note 91 = .ok (.iadd, 1) := by decide +kernel
theorem dX10_note_92 : decode cX10_note 92 = .ok (.putfield 336, 3) := by decide +kernel
theorem dX10_note_95 : decode cX10_note 95 = .ok (.aload_n 0, 1) := by decide +kernel
theorem dX10_note_96 : decode cX10_note 96 = .ok (.getfield 336, 3) := by decide +kernel
theorem dX10_note_99 : decode cX10_note 99 = .ok (.ireturn, 1) := by decide +kernel
end
section
-- 9n9.unt.lean.txt
set_option maxRecDepth 100000 in
set_option maxHeartbeats 4000000 in
theorem c_vNote (l : Launch) (D : va_G) (A : Nat → Prop) (cs : Nat → ClassId) (tt : Nat) (N : Nat) (ad : Nat → Nat) (g : Nat → va_E) (i : Nat) (hN : i + 30 ≤ N) (x : Int) (hx : 0 ≤ x ∧ x ≤ 512) (F r : Nat → Int) {st op ai fa mu tb tp : Nat → Int} (hM : okMr cs ad g i x F r st op ai fa mu tb tp) (hPl : F 25 = 0 ∧ F 26 = -1 ∧ F 27 = -1 ∧ F 29 = 0) (n8 n9a n10 rr : Nat → Int) (hc8 : g (i + 8) = iA cs 16 n8) (hc9 : g (i + 9) = iA cs 16 n9a) (hc10 : g (i + 10) = iA cs 16 n10) (hrr : g (i + 11) = iA cs 6 rr) (hP8 : ∀ k, k < 16 → 0 ≤ n8 k ∧ n8 k ≤ 3) (z : Int) (hz : -2147483648 ≤ z ∧ z ≤ 2147483647) (z1 : Int) (hz1 : -2147483648 ≤ z1 ∧ z1 ≤ 2147483647) (z2 : Int) (hz2 : -2147483648 ≤ z2 ∧ z2 ≤ 2147483647) : zM l yX10_note cX10_note 4 (some .int) ({ frames := 2, cells := 0, slots := 0, locals := 120 } : Room) D A cs tt N ad g [.ref (ad i), .int (zI (z)), .int (zI (z1)), .int (zI (z2))] (rI0 N ad fun q g' => (∃ F' r' : Nat → Int, okMr cs ad g' i (x + 1) F' r' st op ai fa mu tb tp ∧ (F' 13 = F 13 ∧ F' 14 = F 14 ∧ F' 15 = F 15 ∧ F' 16 = F 16 ∧ F' 17 = F' 17 ∧ F' 18 = F 18 ∧ F' 19 = F 19 ∧ F' 20 = F 20 ∧ F' 21 = F 21 ∧ F' 23 = F 23 ∧ F' 24 = F 24) ∧ (F' 25 = 0 ∧ F' 26 = -1 ∧ F' 27 = -1 ∧ F' 29 = 0) ∧ (∀ j, j < 350 ∨ 700 ≤ j → r' j = r j) ∧ (((F 17 ≠ 8 ∧ (0 ≤ z ∧ z < F 13) ∧ (0 ≤ z1 ∧ z1 ≤ 48) ∧ (0 ≤ z2 ∧ z2 ≤ 9999)) ∧ q = F 17 + 1 ∧ F' 17 = F 17 + 1) ∨ (¬ ((F 17 ≠ 8 ∧ (0 ≤ z ∧ z < F 13) ∧ (0 ≤ z1 ∧ z1 ≤ 48) ∧ (0 ≤ z2 ∧ z2 ≤ 9999))) ∧ q = -1 ∧ F' 17 = F 17))) ∧ (∃ a8 a9 a10 a11 : Nat → Int, (g' (i + 8) = iA cs 16 a8 ∧ g' (i + 9) = iA cs 16 a9 ∧ g' (i + 10) = iA cs 16 a10 ∧ g' (i + 11) = iA cs 6 a11) ∧ (((F 17 ≠ 8 ∧ (0 ≤ z ∧ z < F 13) ∧ (0 ≤ z1 ∧ z1 ≤ 48) ∧ (0 ≤ z2 ∧ z2 ≤ 9999)) ∧ a8 = uZ n8 (F 17).toNat z ∧ a9 = uZ n9a (F 17).toNat z1 ∧ a10 = uZ n10 (F 17).toNat z2 ∧ a11 = rr) ∨ (¬ ((F 17 ≠ 8 ∧ (0 ≤ z ∧ z < F 13) ∧ (0 ≤ z1 ∧ z1 ≤ 48) ∧ (0 ≤ z2 ∧ z2 ≤ 9999))) ∧ a8 = n8 ∧ a9 = n9a ∧ a10 = n10 ∧ a11 = uZ rr 2 (rr 2 + 1)))) ∧ (∀ j, j < i ∨ i + 30 ≤ j → g' j = g j) ∧ g' (i + 12) = g (i + 12)) := by
  obtain ⟨hg, ⟨⟨e13, e14, e25, e27, e29⟩, k15, k16, k17, k18, k19, k20, k23, k21⟩, hRD, hTx, hA, ns, nh, nd, rf, pi, te, ki, li, ok1, ok2, fo, dd, dps, ⟨ha1, ha2, ha3, ha4, ha5, ha6, ha7, ha8, ha9, ha10, ha11, ha12, ha13, ha14, ha15, ha24, ha25, ha26, ha27, ha28, ha29⟩, hEv, hPt, hns, htp⟩ := id hM
  obtain ⟨-, hop, hai, hfa, hT, hT1⟩ := id hEv
  have hay1 : zAt ad (i) (ad i) := rfl
  have hay2 : zAt ad (i + 1) (ad (i + 1)) := rfl
  have hay3 : zAt ad (i + 2) (ad (i + 2)) := rfl
  have hay4 : zAt ad (i + 3) (ad (i + 3)) := rfl
  have hay5 : zAt ad (i + 4) (ad (i + 4)) := rfl
  have hay6 : zAt ad (i + 5) (ad (i + 5)) := rfl
  have hay7 : zAt ad (i + 6) (ad (i + 6)) := rfl
  have hay8 : zAt ad (i + 7) (ad (i + 7)) := rfl
  have hay9 : zAt ad (i + 8) (ad (i + 8)) := rfl
  have hay10 : zAt ad (i + 9) (ad (i + 9)) := rfl
  have hay11 : zAt ad (i + 10) (ad (i + 10)) := rfl
  have hay12 : zAt ad (i + 11) (ad (i + 11)) := rfl
  have hay13 : zAt ad (i + 12) (ad (i + 12)) := rfl
  have hay14 : zAt ad (i + 13) (ad (i + 13)) := rfl
  have hay15 : zAt ad (i + 14) (ad (i + 14)) := rfl
  have hay16 : zAt ad (i + 15) (ad (i + 15)) := rfl
  have hay17 : zAt ad (i + 24) (ad (i + 24)) := rfl
  have hay18 : zAt ad (i + 25) (ad (i + 25)) := rfl
  have hay19 : zAt ad (i + 26) (ad (i + 26)) := rfl
  have hay20 : zAt ad (i + 27) (ad (i + 27)) := rfl
  have hay21 : zAt ad (i + 28) (ad (i + 28)) := rfl
  have hay22 : zAt ad (i + 29) (ad (i + 29)) := rfl
  obtain ⟨⟨hsyy23, htyy23, hnyy23, hpyy23⟩, hlyy23⟩ := okA.at0 hA
  simp only [Nat.zero_add] at hsyy23 hnyy23 hpyy23
  have hmn : ∀ s, s < 4 → 0 ≤ r (6 + 86 * s) ∧ r (6 + 86 * s) ≤ 12 := fun s hs => (hsyy23 s hs).1
  have h5 : 0 ≤ r 5 ∧ r 5 ≤ 6 := hpyy23
  obtain ⟨hp25, hp26, hp27, hp29⟩ := id hPl
  refine z_of (by decide) (Nat.le_of_ble_eq_true rfl) ?_
  intro pY eY sY mY below meth cY C hr hlk hnm
  refine z_lv (lv' := [(0, .ref (ad i)), (1, .int (zI (z))), (2, .int (zI (z1))), (3, .int (zI (z2)))]) [0, 1, 2, 3] rfl ?_
  refine z_aload_n C 0 dX10_note_0 rfl ?_
  refine z_iconst (z := 0) C dX10_note_1 rfl ?_
  refine z_put (fs' := mF ad (i) (uZ F 12 (0))) C (lt_A0 hN rfl) hay1 hg tyX10 tyX10_ok nmX10 rfl inA_X10 12 (by decide) q_1471 rfl rfl rfl rfl (Nat.le_of_ble_eq_true rfl) rfl dX10_note_2 (fun gy24 egy25 => ?_)
  have hgy26 := up_s egy25
  refine z_aload_n C 0 dX10_note_5 rfl ?_
  refine z_get (v := .int (zI (F 17))) C (lt_A0 hN rfl) hay1 hgy26 rfl inA_X10 17 (by decide) q_1476 rfl (fv (F := (uZ F 12 (0))) (f := 17) (fn rfl (by decide))) dX10_note_6 ?_
  refine z_bipush (z := 8) C dX10_note_9 (by decide) ?_
  refine z_icmp_eq (tgt := 49) C dX10_note_11 (by decide) (by omega) (by omega) (fun hby27 => ?_) (fun hby27 => ?_)
  · refine z_aload_n C 0 dX10_note_49 rfl ?_
    refine z_iconst (z := 2) C dX10_note_50 rfl ?_
    have hgy28 := up_n egy25 hrr (ne_o (i := i) (c := 11) (d := 0) rfl)
    refine z_cV (As := [.int (zI (2))]) (rest := []) (ci := 12) C (c_uRefuses l D A cs tt N ad _ i hN _ hgy26 _ hgy28 2 (by omega)) (lt_A0 hN rfl) hay1 hgy26 rfl rfl mv_yX10_refuses q_1866 hd_yX10_refuses (by decide) (Nat.le_of_ble_eq_true rfl) (by decide) dX10_note_51 rfl (kI0 fun vy29 gvy29 hvy29 => ?_)
    obtain ⟨rfl, hdvy29, hfvy29⟩ := hvy29
    have hgy30 := up_n egy25 hc8 (ne_o (i := i) (c := 8) (d := 0) rfl)
    have hgy31 := (hfvy29 (i + 8) (ne_o (i := i) (c := 8) (d := 11) rfl)).trans hgy30
    have hgy32 := up_n egy25 hc9 (ne_o (i := i) (c := 9) (d := 0) rfl)
    have hgy33 := (hfvy29 (i + 9) (ne_o (i := i) (c := 9) (d := 11) rfl)).trans hgy32
    have hgy34 := up_n egy25 hc10 (ne_o (i := i) (c := 10) (d := 0) rfl)
    have hgy35 := (hfvy29 (i + 10) (ne_o (i := i) (c := 10) (d := 11) rfl)).trans hgy34
    have hgy36 := (hfvy29 (i) (ne_o (i := i) (c := 0) (d := 11) rfl)).trans hgy26
    have hgy37 := up_n egy25 ha1 (ne_o (i := i) (c := 1) (d := 0) rfl)
    have hgy38 := (hfvy29 (i + 1) (ne_o (i := i) (c := 1) (d := 11) rfl)).trans hgy37
    have hFy39 : ∀ f, f ≠ 12 → (uZ F 12 (0)) f = F f := fun f n12 => ((uZ_n _ _ n12).trans rfl)
    have hey40 : (uZ F 12 (0)) 13 = F 13 := (fn rfl (by decide))
    have hey41 : (uZ F 12 (0)) 14 = F 14 := (fn rfl (by decide))
    have hey42 : (uZ F 12 (0)) 15 = F 15 := (fn rfl (by decide))
    have hey43 : (uZ F 12 (0)) 16 = F 16 := (fn rfl (by decide))
    have hey44 : (uZ F 12 (0)) 17 = F 17 := (fn rfl (by decide))
    have hey45 : (uZ F 12 (0)) 18 = F 18 := (fn rfl (by decide))
    have hey46 : (uZ F 12 (0)) 19 = F 19 := (fn rfl (by decide))
    have hey47 : (uZ F 12 (0)) 20 = F 20 := (fn rfl (by decide))
    have hey48 : (uZ F 12 (0)) 21 = F 21 := (fn rfl (by decide))
    have hey49 : (uZ F 12 (0)) 23 = F 23 := (fn rfl (by decide))
    have hey50 : (uZ F 12 (0)) 25 = F 25 := (fn rfl (by decide))
    have hey51 : (uZ F 12 (0)) 27 = F 27 := (fn rfl (by decide))
    have hey52 : (uZ F 12 (0)) 28 = F 28 := (fn rfl (by decide))
    have hey53 : (uZ F 12 (0)) 29 = F 29 := (fn rfl (by decide))
    have hKy54 : okF (uZ F 12 (0)) := okF.mv hM.2.1 hey40 hey41 hey42 hey43 hey44 hey45 hey46 hey47 hey48 hey49 hey50 hey51 hey52 hey53
    have hMy55 : okMr cs ad gvy29 i (x + 1) (uZ F 12 (0)) r st op ai fa mu tb tp := okMr.upd hM hgy36 hKy54 (fun f a => hFy39 f (by omega)) hgy38 (hA.mono (by omega)) (fun j a b => by
        by_cases e0 : j = i + 11
        · exact Or.inr ⟨11, _, e0, lsP.l (by decide), by rw [e0]; exact hdvy29⟩
        exact Or.inl (by rw [hfvy29 _ (by omega)]; rw [egy25, va_up_ne _ _ (by omega)]))
    have hkpy56 : (uZ F 12 (0)) 13 = F 13 := (fn rfl (by decide))
    have hkpy57 : (uZ F 12 (0)) 14 = F 14 := (fn rfl (by decide))
    have hkpy58 : (uZ F 12 (0)) 15 = F 15 := (fn rfl (by decide))
    have hkpy59 : (uZ F 12 (0)) 16 = F 16 := (fn rfl (by decide))
    have hkpy60 : (uZ F 12 (0)) 17 = F 17 := (fn rfl (by decide))
    have hkpy61 : (uZ F 12 (0)) 18 = F 18 := (fn rfl (by decide))
    have hkpy62 : (uZ F 12 (0)) 19 = F 19 := (fn rfl (by decide))
    have hkpy63 : (uZ F 12 (0)) 20 = F 20 := (fn rfl (by decide))
    have hkpy64 : (uZ F 12 (0)) 21 = F 21 := (fn rfl (by decide))
    have hkpy65 : (uZ F 12 (0)) 23 = F 23 := (fn rfl (by decide))
    have hkpy66 : (uZ F 12 (0)) 24 = F 24 := (fn rfl (by decide))
    have hkpy67 : (uZ F 12 (0)) 25 = F 25 := (fn rfl (by decide))
    have hkpy68 : (uZ F 12 (0)) 26 = F 26 := (fn rfl (by decide))
    have hkpy69 : (uZ F 12 (0)) 27 = F 27 := (fn rfl (by decide))
    have hkpy70 : (uZ F 12 (0)) 29 = F 29 := (fn rfl (by decide))
    exact z_iret C hr hlk dX10_note_54 (by decide) (by decide) ⟨-1, rfl, rfl, rfl, ⟨_, _, hMy55, ⟨hkpy56, hkpy57, hkpy58, hkpy59, rfl, hkpy61, hkpy62, hkpy63, hkpy64, hkpy65, hkpy66⟩, ⟨(hkpy67.trans hp25), (hkpy68.trans hp26), (hkpy69.trans hp27), (hkpy70.trans hp29)⟩, (fun j _ => rfl), Or.inr ⟨by omega, by omega, by omega⟩⟩, ⟨_, _, _, _, ⟨hgy31, hgy33, hgy35, hdvy29⟩, Or.inr ⟨by omega, rfl, rfl, rfl, rfl⟩⟩, fun j j1 => by rw [hfvy29 _ (by omega)]; rw [egy25, va_up_ne _ _ (by omega)], by rw [hfvy29 _ (by omega)]; rw [egy25, va_up_ne _ _ (by omega)]⟩
  · refine z_iload_n C 1 dX10_note_14 rfl ?_
    refine z_iconst (z := 0) C dX10_note_15 rfl ?_
    refine z_aload_n C 0 dX10_note_16 rfl ?_
    refine z_get (v := .int (zI (F 13))) C (lt_A0 hN rfl) hay1 hgy26 rfl inA_X10 13 (by decide) q_1472 rfl (fv (F := (uZ F 12 (0))) (f := 13) (fn rfl (by decide))) dX10_note_17 ?_
    refine z_iconst (z := 1) C dX10_note_20 rfl ?_
    refine z_isub C dX10_note_21 ?_
    refine z_cS (As := [.int (zI (z)), .int (zI (0)), .int (zI ((F 13) - 1))]) (rest := []) C (c_X10_within l D A cs tt N ad _ (z) (by omega) (0) (by omega) ((F 13) - 1) (by omega)) ms_yX10_within q_1686 hd_yX10_within (by decide) (Nat.le_of_ble_eq_true rfl) (by decide) dX10_note_22 rfl (kI0 fun vy71 gvy71 hvy71 => ?_)
    obtain ⟨hvy71, rfl⟩ := hvy71
    rcases hvy71 with ⟨rfl, hxvy71⟩ | ⟨rfl, hxvy71⟩
    · refine z_if_eq (tgt := 49) C dX10_note_25 (by decide) (by omega) (fun h => absurd h (by omega)) (fun _ => ?_)
      refine z_iload_n C 2 dX10_note_28 rfl ?_
      refine z_iconst (z := 0) C dX10_note_29 rfl ?_
      refine z_bipush (z := 48) C dX10_note_30 (by decide) ?_
      refine z_cS (As := [.int (zI (z1)), .int (zI (0)), .int (zI (48))]) (rest := []) C (c_X10_within l D A cs tt N ad _ (z1) (by omega) (0) (by omega) (48) (by omega)) ms_yX10_within q_1686 hd_yX10_within (by decide) (Nat.le_of_ble_eq_true rfl) (by decide) dX10_note_32 rfl (kI0 fun vy72 gvy72 hvy72 => ?_)
      obtain ⟨hvy72, rfl⟩ := hvy72
      rcases hvy72 with ⟨rfl, hxvy72⟩ | ⟨rfl, hxvy72⟩
      · refine z_if_eq (tgt := 49) C dX10_note_35 (by decide) (by omega) (fun h => absurd h (by omega)) (fun _ => ?_)
        refine z_iload_n C 3 dX10_note_38 rfl ?_
        refine z_iconst (z := 0) C dX10_note_39 rfl ?_
        refine z_sipush (z := 9999) C dX10_note_40 (by decide) ?_
        refine z_cS (As := [.int (zI (z2)), .int (zI (0)), .int (zI (9999))]) (rest := []) C (c_X10_within l D A cs tt N ad _ (z2) (by omega) (0) (by omega) (9999) (by omega)) ms_yX10_within q_1686 hd_yX10_within (by decide) (Nat.le_of_ble_eq_true rfl) (by decide) dX10_note_43 rfl (kI0 fun vy73 gvy73 hvy73 => ?_)
        obtain ⟨hvy73, rfl⟩ := hvy73
        rcases hvy73 with ⟨rfl, hxvy73⟩ | ⟨rfl, hxvy73⟩
        · refine z_if_ne (tgt := 55) C dX10_note_46 (by decide) (by omega) (fun _ => ?_) (fun h => absurd h (by omega))
          refine z_aload_n C 0 dX10_note_55 rfl ?_
          refine z_get (v := .ref (ad (i + 8))) C (lt_A0 hN rfl) hay1 hgy26 rfl inA_X10 7 (by decide) q_1466 rfl rfl dX10_note_56 ?_
          refine z_aload_n C 0 dX10_note_59 rfl ?_
          refine z_get (v := .int (zI (F 17))) C (lt_A0 hN rfl) hay1 hgy26 rfl inA_X10 17 (by decide) q_1476 rfl (fv (F := (uZ F 12 (0))) (f := 17) (fn rfl (by decide))) dX10_note_60 ?_
          refine z_iload_n C 1 dX10_note_63 rfl ?_
          have hgy74 := up_n egy25 hc8 (ne_o (i := i) (c := 8) (d := 0) rfl)
          refine z_iast C (lt_A (c := 8) hN rfl) hay9 hgy74 ((F 17).toNat) (by omega) (by omega) (by decide) dX10_note_64 (fun gy75 egy76 => ?_)
          have hgy77 := up_s egy76
          refine z_aload_n C 0 dX10_note_65 rfl ?_
          have hgy78 := up_n egy76 hgy26 (ne_o (i := i) (c := 0) (d := 8) rfl)
          refine z_get (v := .ref (ad (i + 9))) C (lt_A0 hN rfl) hay1 hgy78 rfl inA_X10 8 (by decide) q_1467 rfl rfl dX10_note_66 ?_
          refine z_aload_n C 0 dX10_note_69 rfl ?_
          refine z_get (v := .int (zI (F 17))) C (lt_A0 hN rfl) hay1 hgy78 rfl inA_X10 17 (by decide) q_1476 rfl (fv (F := (uZ F 12 (0))) (f := 17) (fn rfl (by decide))) dX10_note_70 ?_
          refine z_iload_n C 2 dX10_note_73 rfl ?_
          have hgy79 := up_n egy25 hc9 (ne_o (i := i) (c := 9) (d := 0) rfl)
          have hgy80 := up_n egy76 hgy79 (ne_o (i := i) (c := 9) (d := 8) rfl)
          refine z_iast C (lt_A (c := 9) hN rfl) hay10 hgy80 ((F 17).toNat) (by omega) (by omega) (by decide) dX10_note_74 (fun gy81 egy82 => ?_)
          have hgy83 := up_s egy82
          refine z_aload_n C 0 dX10_note_75 rfl ?_
          have hgy84 := up_n egy82 hgy78 (ne_o (i := i) (c := 0) (d := 9) rfl)
          refine z_get (v := .ref (ad (i + 10))) C (lt_A0 hN rfl) hay1 hgy84 rfl inA_X10 9 (by decide) q_1468 rfl rfl dX10_note_76 ?_
          refine z_aload_n C 0 dX10_note_79 rfl ?_
          refine z_get (v := .int (zI (F 17))) C (lt_A0 hN rfl) hay1 hgy84 rfl inA_X10 17 (by decide) q_1476 rfl (fv (F := (uZ F 12 (0))) (f := 17) (fn rfl (by decide))) dX10_note_80 ?_
          refine z_iload_n C 3 dX10_note_83 rfl ?_
          have hgy85 := up_n egy25 hc10 (ne_o (i := i) (c := 10) (d := 0) rfl)
          have hgy86 := up_n egy76 hgy85 (ne_o (i := i) (c := 10) (d := 8) rfl)
          have hgy87 := up_n egy82 hgy86 (ne_o (i := i) (c := 10) (d := 9) rfl)
          refine z_iast C (lt_A (c := 10) hN rfl) hay11 hgy87 ((F 17).toNat) (by omega) (by omega) (by decide) dX10_note_84 (fun gy88 egy89 => ?_)
          have hgy90 := up_s egy89
          refine z_aload_n C 0 dX10_note_85 rfl ?_
          refine z_dup C dX10_note_86 rfl ?_
          have hgy91 := up_n egy89 hgy84 (ne_o (i := i) (c := 0) (d := 10) rfl)
          refine z_get (v := .int (zI (F 17))) C (lt_A0 hN rfl) hay1 hgy91 rfl inA_X10 17 (by decide) q_1476 rfl (fv (F := (uZ F 12 (0))) (f := 17) (fn rfl (by decide))) dX10_note_87 ?_
          refine z_iconst (z := 1) C dX10_note_90 rfl ?_
          refine z_iadd C dX10_note_91 ?_
          refine z_put (fs' := mF ad (i) (uZ (uZ F 12 (0)) 17 ((F 17) + 1))) C (lt_A0 hN rfl) hay1 hgy91 tyX10 tyX10_ok nmX10 rfl inA_X10 17 (by decide) q_1476 rfl rfl rfl rfl (Nat.le_of_ble_eq_true rfl) rfl dX10_note_92 (fun gy92 egy93 => ?_)
          have hgy94 := up_s egy93
          refine z_aload_n C 0 dX10_note_95 rfl ?_
          refine z_get (v := .int (zI ((F 17) + 1))) C (lt_A0 hN rfl) hay1 hgy94 rfl inA_X10 17 (by decide) q_1476 rfl (fv (F := (uZ (uZ F 12 (0)) 17 ((F 17) + 1))) (f := 17) (uZ_s _ _ _)) dX10_note_96 ?_
          have hgy95 := up_n egy82 hgy77 (ne_o (i := i) (c := 8) (d := 9) rfl)
          have hgy96 := up_n egy89 hgy95 (ne_o (i := i) (c := 8) (d := 10) rfl)
          have hgy97 := up_n egy93 hgy96 (ne_o (i := i) (c := 8) (d := 0) rfl)
          have hgy98 := up_n egy89 hgy83 (ne_o (i := i) (c := 9) (d := 10) rfl)
          have hgy99 := up_n egy93 hgy98 (ne_o (i := i) (c := 9) (d := 0) rfl)
          have hgy100 := up_n egy93 hgy90 (ne_o (i := i) (c := 10) (d := 0) rfl)
          have hgy101 := up_n egy25 hrr (ne_o (i := i) (c := 11) (d := 0) rfl)
          have hgy102 := up_n egy76 hgy101 (ne_o (i := i) (c := 11) (d := 8) rfl)
          have hgy103 := up_n egy82 hgy102 (ne_o (i := i) (c := 11) (d := 9) rfl)
          have hgy104 := up_n egy89 hgy103 (ne_o (i := i) (c := 11) (d := 10) rfl)
          have hgy105 := up_n egy93 hgy104 (ne_o (i := i) (c := 11) (d := 0) rfl)
          have hgy106 := up_n egy25 ha1 (ne_o (i := i) (c := 1) (d := 0) rfl)
          have hgy107 := up_n egy76 hgy106 (ne_o (i := i) (c := 1) (d := 8) rfl)
          have hgy108 := up_n egy82 hgy107 (ne_o (i := i) (c := 1) (d := 9) rfl)
          have hgy109 := up_n egy89 hgy108 (ne_o (i := i) (c := 1) (d := 10) rfl)
          have hgy110 := up_n egy93 hgy109 (ne_o (i := i) (c := 1) (d := 0) rfl)
          have hFy111 : ∀ f, f ≠ 12 → f ≠ 17 → (uZ (uZ F 12 (0)) 17 ((F 17) + 1)) f = F f := fun f n12 n17 => ((uZ_n _ _ n17).trans ((uZ_n _ _ n12).trans rfl))
          have hey112 : (uZ (uZ F 12 (0)) 17 ((F 17) + 1)) 13 = F 13 := (fn (fn rfl (by decide)) (by decide))
          have hey113 : (uZ (uZ F 12 (0)) 17 ((F 17) + 1)) 14 = F 14 := (fn (fn rfl (by decide)) (by decide))
          have hey114 : (uZ (uZ F 12 (0)) 17 ((F 17) + 1)) 15 = F 15 := (fn (fn rfl (by decide)) (by decide))
          have hey115 : (uZ (uZ F 12 (0)) 17 ((F 17) + 1)) 16 = F 16 := (fn (fn rfl (by decide)) (by decide))
          have hey116 : (uZ (uZ F 12 (0)) 17 ((F 17) + 1)) 17 = (F 17) + 1 := (uZ_s _ _ _)
          have hey117 : (uZ (uZ F 12 (0)) 17 ((F 17) + 1)) 18 = F 18 := (fn (fn rfl (by decide)) (by decide))
          have hey118 : (uZ (uZ F 12 (0)) 17 ((F 17) + 1)) 19 = F 19 := (fn (fn rfl (by decide)) (by decide))
          have hey119 : (uZ (uZ F 12 (0)) 17 ((F 17) + 1)) 20 = F 20 := (fn (fn rfl (by decide)) (by decide))
          have hey120 : (uZ (uZ F 12 (0)) 17 ((F 17) + 1)) 21 = F 21 := (fn (fn rfl (by decide)) (by decide))
          have hey121 : (uZ (uZ F 12 (0)) 17 ((F 17) + 1)) 23 = F 23 := (fn (fn rfl (by decide)) (by decide))
          have hey122 : (uZ (uZ F 12 (0)) 17 ((F 17) + 1)) 25 = F 25 := (fn (fn rfl (by decide)) (by decide))
          have hey123 : (uZ (uZ F 12 (0)) 17 ((F 17) + 1)) 27 = F 27 := (fn (fn rfl (by decide)) (by decide))
          have hey124 : (uZ (uZ F 12 (0)) 17 ((F 17) + 1)) 28 = F 28 := (fn (fn rfl (by decide)) (by decide))
          have hey125 : (uZ (uZ F 12 (0)) 17 ((F 17) + 1)) 29 = F 29 := (fn (fn rfl (by decide)) (by decide))
          have hKy126 : okF (uZ (uZ F 12 (0)) 17 ((F 17) + 1)) := by unfold okF; omega
          have hMy127 : okMr cs ad gy92 i (x + 1) (uZ (uZ F 12 (0)) 17 ((F 17) + 1)) r st op ai fa mu tb tp := okMr.upd hM hgy94 hKy126 (fun f a => hFy111 f (by omega) (by omega)) hgy110 (hA.mono (by omega)) (fun j a b => by
              by_cases e0 : j = i + 8
              · exact Or.inr ⟨8, (uZ (n8) ((F 17).toNat) (z)), e0, (Or.inr (Or.inl ⟨rfl, uZ_any hP8 (by omega)⟩)), by rw [e0]; exact hgy97⟩
              by_cases e1 : j = i + 9
              · exact Or.inr ⟨9, _, e1, lsP.l (by decide), by rw [e1]; exact hgy99⟩
              by_cases e2 : j = i + 10
              · exact Or.inr ⟨10, _, e2, lsP.l (by decide), by rw [e2]; exact hgy100⟩
              exact Or.inl (by rw [egy93, va_up_ne _ _ (by omega)]; rw [egy89, va_up_ne _ _ (by omega)]; rw [egy82, va_up_ne _ _ (by omega)]; rw [egy76, va_up_ne _ _ (by omega)]; rw [egy25, va_up_ne _ _ (by omega)]))
          have hkpy128 : (uZ (uZ F 12 (0)) 17 ((F 17) + 1)) 13 = F 13 := (fn (fn rfl (by decide)) (by decide))
          have hkpy129 : (uZ (uZ F 12 (0)) 17 ((F 17) + 1)) 14 = F 14 := (fn (fn rfl (by decide)) (by decide))
          have hkpy130 : (uZ (uZ F 12 (0)) 17 ((F 17) + 1)) 15 = F 15 := (fn (fn rfl (by decide)) (by decide))
          have hkpy131 : (uZ (uZ F 12 (0)) 17 ((F 17) + 1)) 16 = F 16 := (fn (fn rfl (by decide)) (by decide))
          have hkpy132 : (uZ (uZ F 12 (0)) 17 ((F 17) + 1)) 17 = (F 17) + 1 := (uZ_s _ _ _)
          have hkpy133 : (uZ (uZ F 12 (0)) 17 ((F 17) + 1)) 18 = F 18 := (fn (fn rfl (by decide)) (by decide))
          have hkpy134 : (uZ (uZ F 12 (0)) 17 ((F 17) + 1)) 19 = F 19 := (fn (fn rfl (by decide)) (by decide))
          have hkpy135 : (uZ (uZ F 12 (0)) 17 ((F 17) + 1)) 20 = F 20 := (fn (fn rfl (by decide)) (by decide))
          have hkpy136 : (uZ (uZ F 12 (0)) 17 ((F 17) + 1)) 21 = F 21 := (fn (fn rfl (by decide)) (by decide))
          have hkpy137 : (uZ (uZ F 12 (0)) 17 ((F 17) + 1)) 23 = F 23 := (fn (fn rfl (by decide)) (by decide))
          have hkpy138 : (uZ (uZ F 12 (0)) 17 ((F 17) + 1)) 24 = F 24 := (fn (fn rfl (by decide)) (by decide))
          have hkpy139 : (uZ (uZ F 12 (0)) 17 ((F 17) + 1)) 25 = F 25 := (fn (fn rfl (by decide)) (by decide))
          have hkpy140 : (uZ (uZ F 12 (0)) 17 ((F 17) + 1)) 26 = F 26 := (fn (fn rfl (by decide)) (by decide))
          have hkpy141 : (uZ (uZ F 12 (0)) 17 ((F 17) + 1)) 27 = F 27 := (fn (fn rfl (by decide)) (by decide))
          have hkpy142 : (uZ (uZ F 12 (0)) 17 ((F 17) + 1)) 29 = F 29 := (fn (fn rfl (by decide)) (by decide))
          exact z_iret C hr hlk dX10_note_99 (by decide) (by decide) ⟨(F 17) + 1, rfl, rfl, rfl, ⟨_, _, hMy127, ⟨hkpy128, hkpy129, hkpy130, hkpy131, rfl, hkpy133, hkpy134, hkpy135, hkpy136, hkpy137, hkpy138⟩, ⟨(hkpy139.trans hp25), (hkpy140.trans hp26), (hkpy141.trans hp27), (hkpy142.trans hp29)⟩, (fun j _ => rfl), Or.inl ⟨by omega, by omega, by omega⟩⟩, ⟨_, _, _, _, ⟨hgy97, hgy99, hgy100, hgy105⟩, Or.inl ⟨by omega, rfl, rfl, rfl, rfl⟩⟩, fun j j1 => by rw [egy93, va_up_ne _ _ (by omega)]; rw [egy89, va_up_ne _ _ (by omega)]; rw [egy82, va_up_ne _ _ (by omega)]; rw [egy76, va_up_ne _ _ (by omega)]; rw [egy25, va_up_ne _ _ (by omega)], by rw [egy93, va_up_ne _ _ (by omega)]; rw [egy89, va_up_ne _ _ (by omega)]; rw [egy82, va_up_ne _ _ (by omega)]; rw [egy76, va_up_ne _ _ (by omega)]; rw [egy25, va_up_ne _ _ (by omega)]⟩
        · refine z_if_ne (tgt := 55) C dX10_note_46 (by decide) (by omega) (fun h => absurd h (by omega)) (fun _ => ?_)
          refine z_aload_n C 0 dX10_note_49 rfl ?_
          refine z_iconst (z := 2) C dX10_note_50 rfl ?_
          have hgy143 := up_n egy25 hrr (ne_o (i := i) (c := 11) (d := 0) rfl)
          refine z_cV (As := [.int (zI (2))]) (rest := []) (ci := 12) C (c_uRefuses l D A cs tt N ad _ i hN _ hgy26 _ hgy143 2 (by omega)) (lt_A0 hN rfl) hay1 hgy26 rfl rfl mv_yX10_refuses q_1866 hd_yX10_refuses (by decide) (Nat.le_of_ble_eq_true rfl) (by decide) dX10_note_51 rfl (kI0 fun vy144 gvy144 hvy144 => ?_)
          obtain ⟨rfl, hdvy144, hfvy144⟩ := hvy144
          have hgy145 := up_n egy25 hc8 (ne_o (i := i) (c := 8) (d := 0) rfl)
          have hgy146 := (hfvy144 (i + 8) (ne_o (i := i) (c := 8) (d := 11) rfl)).trans hgy145
          have hgy147 := up_n egy25 hc9 (ne_o (i := i) (c := 9) (d := 0) rfl)
          have hgy148 := (hfvy144 (i + 9) (ne_o (i := i) (c := 9) (d := 11) rfl)).trans hgy147
          have hgy149 := up_n egy25 hc10 (ne_o (i := i) (c := 10) (d := 0) rfl)
          have hgy150 := (hfvy144 (i + 10) (ne_o (i := i) (c := 10) (d := 11) rfl)).trans hgy149
          have hgy151 := (hfvy144 (i) (ne_o (i := i) (c := 0) (d := 11) rfl)).trans hgy26
          have hgy152 := up_n egy25 ha1 (ne_o (i := i) (c := 1) (d := 0) rfl)
          have hgy153 := (hfvy144 (i + 1) (ne_o (i := i) (c := 1) (d := 11) rfl)).trans hgy152
          have hFy154 : ∀ f, f ≠ 12 → (uZ F 12 (0)) f = F f := fun f n12 => ((uZ_n _ _ n12).trans rfl)
          have hey155 : (uZ F 12 (0)) 13 = F 13 := (fn rfl (by decide))
          have hey156 : (uZ F 12 (0)) 14 = F 14 := (fn rfl (by decide))
          have hey157 : (uZ F 12 (0)) 15 = F 15 := (fn rfl (by decide))
          have hey158 : (uZ F 12 (0)) 16 = F 16 := (fn rfl (by decide))
          have hey159 : (uZ F 12 (0)) 17 = F 17 := (fn rfl (by decide))
          have hey160 : (uZ F 12 (0)) 18 = F 18 := (fn rfl (by decide))
          have hey161 : (uZ F 12 (0)) 19 = F 19 := (fn rfl (by decide))
          have hey162 : (uZ F 12 (0)) 20 = F 20 := (fn rfl (by decide))
          have hey163 : (uZ F 12 (0)) 21 = F 21 := (fn rfl (by decide))
          have hey164 : (uZ F 12 (0)) 23 = F 23 := (fn rfl (by decide))
          have hey165 : (uZ F 12 (0)) 25 = F 25 := (fn rfl (by decide))
          have hey166 : (uZ F 12 (0)) 27 = F 27 := (fn rfl (by decide))
          have hey167 : (uZ F 12 (0)) 28 = F 28 := (fn rfl (by decide))
          have hey168 : (uZ F 12 (0)) 29 = F 29 := (fn rfl (by decide))
          have hKy169 : okF (uZ F 12 (0)) := okF.mv hM.2.1 hey155 hey156 hey157 hey158 hey159 hey160 hey161 hey162 hey163 hey164 hey165 hey166 hey167 hey168
          have hMy170 : okMr cs ad gvy144 i (x + 1) (uZ F 12 (0)) r st op ai fa mu tb tp := okMr.upd hM hgy151 hKy169 (fun f a => hFy154 f (by omega)) hgy153 (hA.mono (by omega)) (fun j a b => by
              by_cases e0 : j = i + 11
              · exact Or.inr ⟨11, _, e0, lsP.l (by decide), by rw [e0]; exact hdvy144⟩
              exact Or.inl (by rw [hfvy144 _ (by omega)]; rw [egy25, va_up_ne _ _ (by omega)]))
          have hkpy171 : (uZ F 12 (0)) 13 = F 13 := (fn rfl (by decide))
          have hkpy172 : (uZ F 12 (0)) 14 = F 14 := (fn rfl (by decide))
          have hkpy173 : (uZ F 12 (0)) 15 = F 15 := (fn rfl (by decide))
          have hkpy174 : (uZ F 12 (0)) 16 = F 16 := (fn rfl (by decide))
          have hkpy175 : (uZ F 12 (0)) 17 = F 17 := (fn rfl (by decide))
          have hkpy176 : (uZ F 12 (0)) 18 = F 18 := (fn rfl (by decide))
          have hkpy177 : (uZ F 12 (0)) 19 = F 19 := (fn rfl (by decide))
          have hkpy178 : (uZ F 12 (0)) 20 = F 20 := (fn rfl (by decide))
          have hkpy179 : (uZ F 12 (0)) 21 = F 21 := (fn rfl (by decide))
          have hkpy180 : (uZ F 12 (0)) 23 = F 23 := (fn rfl (by decide))
          have hkpy181 : (uZ F 12 (0)) 24 = F 24 := (fn rfl (by decide))
          have hkpy182 : (uZ F 12 (0)) 25 = F 25 := (fn rfl (by decide))
          have hkpy183 : (uZ F 12 (0)) 26 = F 26 := (fn rfl (by decide))
          have hkpy184 : (uZ F 12 (0)) 27 = F 27 := (fn rfl (by decide))
          have hkpy185 : (uZ F 12 (0)) 29 = F 29 := (fn rfl (by decide))
          exact z_iret C hr hlk dX10_note_54 (by decide) (by decide) ⟨-1, rfl, rfl, rfl, ⟨_, _, hMy170, ⟨hkpy171, hkpy172, hkpy173, hkpy174, rfl, hkpy176, hkpy177, hkpy178, hkpy179, hkpy180, hkpy181⟩, ⟨(hkpy182.trans hp25), (hkpy183.trans hp26), (hkpy184.trans hp27), (hkpy185.trans hp29)⟩, (fun j _ => rfl), Or.inr ⟨by omega, by omega, by omega⟩⟩, ⟨_, _, _, _, ⟨hgy146, hgy148, hgy150, hdvy144⟩, Or.inr ⟨by omega, rfl, rfl, rfl, rfl⟩⟩, fun j j1 => by rw [hfvy144 _ (by omega)]; rw [egy25, va_up_ne _ _ (by omega)], by rw [hfvy144 _ (by omega)]; rw [egy25, va_up_ne _ _ (by omega)]⟩
      · refine z_if_eq (tgt := 49) C dX10_note_35 (by decide) (by omega) (fun _ => ?_) (fun h => absurd h (by omega))
        refine z_aload_n C 0 dX10_note_49 rfl ?_
        refine z_iconst (z := 2) C dX10_note_50 rfl ?_
        have hgy186 := up_n egy25 hrr (ne_o (i := i) (c := 11) (d := 0) rfl)
        refine z_cV (As := [.int (zI (2))]) (rest := []) (ci := 12) C (c_uRefuses l D A cs tt N ad _ i hN _ hgy26 _ hgy186 2 (by omega)) (lt_A0 hN rfl) hay1 hgy26 rfl rfl mv_yX10_refuses q_1866 hd_yX10_refuses (by decide) (Nat.le_of_ble_eq_true rfl) (by decide) dX10_note_51 rfl (kI0 fun vy187 gvy187 hvy187 => ?_)
        obtain ⟨rfl, hdvy187, hfvy187⟩ := hvy187
        have hgy188 := up_n egy25 hc8 (ne_o (i := i) (c := 8) (d := 0) rfl)
        have hgy189 := (hfvy187 (i + 8) (ne_o (i := i) (c := 8) (d := 11) rfl)).trans hgy188
        have hgy190 := up_n egy25 hc9 (ne_o (i := i) (c := 9) (d := 0) rfl)
        have hgy191 := (hfvy187 (i + 9) (ne_o (i := i) (c := 9) (d := 11) rfl)).trans hgy190
        have hgy192 := up_n egy25 hc10 (ne_o (i := i) (c := 10) (d := 0) rfl)
        have hgy193 := (hfvy187 (i + 10) (ne_o (i := i) (c := 10) (d := 11) rfl)).trans hgy192
        have hgy194 := (hfvy187 (i) (ne_o (i := i) (c := 0) (d := 11) rfl)).trans hgy26
        have hgy195 := up_n egy25 ha1 (ne_o (i := i) (c := 1) (d := 0) rfl)
        have hgy196 := (hfvy187 (i + 1) (ne_o (i := i) (c := 1) (d := 11) rfl)).trans hgy195
        have hFy197 : ∀ f, f ≠ 12 → (uZ F 12 (0)) f = F f := fun f n12 => ((uZ_n _ _ n12).trans rfl)
        have hey198 : (uZ F 12 (0)) 13 = F 13 := (fn rfl (by decide))
        have hey199 : (uZ F 12 (0)) 14 = F 14 := (fn rfl (by decide))
        have hey200 : (uZ F 12 (0)) 15 = F 15 := (fn rfl (by decide))
        have hey201 : (uZ F 12 (0)) 16 = F 16 := (fn rfl (by decide))
        have hey202 : (uZ F 12 (0)) 17 = F 17 := (fn rfl (by decide))
        have hey203 : (uZ F 12 (0)) 18 = F 18 := (fn rfl (by decide))
        have hey204 : (uZ F 12 (0)) 19 = F 19 := (fn rfl (by decide))
        have hey205 : (uZ F 12 (0)) 20 = F 20 := (fn rfl (by decide))
        have hey206 : (uZ F 12 (0)) 21 = F 21 := (fn rfl (by decide))
        have hey207 : (uZ F 12 (0)) 23 = F 23 := (fn rfl (by decide))
        have hey208 : (uZ F 12 (0)) 25 = F 25 := (fn rfl (by decide))
        have hey209 : (uZ F 12 (0)) 27 = F 27 := (fn rfl (by decide))
        have hey210 : (uZ F 12 (0)) 28 = F 28 := (fn rfl (by decide))
        have hey211 : (uZ F 12 (0)) 29 = F 29 := (fn rfl (by decide))
        have hKy212 : okF (uZ F 12 (0)) := okF.mv hM.2.1 hey198 hey199 hey200 hey201 hey202 hey203 hey204 hey205 hey206 hey207 hey208 hey209 hey210 hey211
        have hMy213 : okMr cs ad gvy187 i (x + 1) (uZ F 12 (0)) r st op ai fa mu tb tp := okMr.upd hM hgy194 hKy212 (fun f a => hFy197 f (by omega)) hgy196 (hA.mono (by omega)) (fun j a b => by
            by_cases e0 : j = i + 11
            · exact Or.inr ⟨11, _, e0, lsP.l (by decide), by rw [e0]; exact hdvy187⟩
            exact Or.inl (by rw [hfvy187 _ (by omega)]; rw [egy25, va_up_ne _ _ (by omega)]))
        have hkpy214 : (uZ F 12 (0)) 13 = F 13 := (fn rfl (by decide))
        have hkpy215 : (uZ F 12 (0)) 14 = F 14 := (fn rfl (by decide))
        have hkpy216 : (uZ F 12 (0)) 15 = F 15 := (fn rfl (by decide))
        have hkpy217 : (uZ F 12 (0)) 16 = F 16 := (fn rfl (by decide))
        have hkpy218 : (uZ F 12 (0)) 17 = F 17 := (fn rfl (by decide))
        have hkpy219 : (uZ F 12 (0)) 18 = F 18 := (fn rfl (by decide))
        have hkpy220 : (uZ F 12 (0)) 19 = F 19 := (fn rfl (by decide))
        have hkpy221 : (uZ F 12 (0)) 20 = F 20 := (fn rfl (by decide))
        have hkpy222 : (uZ F 12 (0)) 21 = F 21 := (fn rfl (by decide))
        have hkpy223 : (uZ F 12 (0)) 23 = F 23 := (fn rfl (by decide))
        have hkpy224 : (uZ F 12 (0)) 24 = F 24 := (fn rfl (by decide))
        have hkpy225 : (uZ F 12 (0)) 25 = F 25 := (fn rfl (by decide))
        have hkpy226 : (uZ F 12 (0)) 26 = F 26 := (fn rfl (by decide))
        have hkpy227 : (uZ F 12 (0)) 27 = F 27 := (fn rfl (by decide))
        have hkpy228 : (uZ F 12 (0)) 29 = F 29 := (fn rfl (by decide))
        exact z_iret C hr hlk dX10_note_54 (by decide) (by decide) ⟨-1, rfl, rfl, rfl, ⟨_, _, hMy213, ⟨hkpy214, hkpy215, hkpy216, hkpy217, rfl, hkpy219, hkpy220, hkpy221, hkpy222, hkpy223, hkpy224⟩, ⟨(hkpy225.trans hp25), (hkpy226.trans hp26), (hkpy227.trans hp27), (hkpy228.trans hp29)⟩, (fun j _ => rfl), Or.inr ⟨by omega, by omega, by omega⟩⟩, ⟨_, _, _, _, ⟨hgy189, hgy191, hgy193, hdvy187⟩, Or.inr ⟨by omega, rfl, rfl, rfl, rfl⟩⟩, fun j j1 => by rw [hfvy187 _ (by omega)]; rw [egy25, va_up_ne _ _ (by omega)], by rw [hfvy187 _ (by omega)]; rw [egy25, va_up_ne _ _ (by omega)]⟩
    · refine z_if_eq (tgt := 49) C dX10_note_25 (by decide) (by omega) (fun _ => ?_) (fun h => absurd h (by omega))
      refine z_aload_n C 0 dX10_note_49 rfl ?_
      refine z_iconst (z := 2) C dX10_note_50 rfl ?_
      have hgy229 := up_n egy25 hrr (ne_o (i := i) (c := 11) (d := 0) rfl)
      refine z_cV (As := [.int (zI (2))]) (rest := []) (ci := 12) C (c_uRefuses l D A cs tt N ad _ i hN _ hgy26 _ hgy229 2 (by omega)) (lt_A0 hN rfl) hay1 hgy26 rfl rfl mv_yX10_refuses q_1866 hd_yX10_refuses (by decide) (Nat.le_of_ble_eq_true rfl) (by decide) dX10_note_51 rfl (kI0 fun vy230 gvy230 hvy230 => ?_)
      obtain ⟨rfl, hdvy230, hfvy230⟩ := hvy230
      have hgy231 := up_n egy25 hc8 (ne_o (i := i) (c := 8) (d := 0) rfl)
      have hgy232 := (hfvy230 (i + 8) (ne_o (i := i) (c := 8) (d := 11) rfl)).trans hgy231
      have hgy233 := up_n egy25 hc9 (ne_o (i := i) (c := 9) (d := 0) rfl)
      have hgy234 := (hfvy230 (i + 9) (ne_o (i := i) (c := 9) (d := 11) rfl)).trans hgy233
      have hgy235 := up_n egy25 hc10 (ne_o (i := i) (c := 10) (d := 0) rfl)
      have hgy236 := (hfvy230 (i + 10) (ne_o (i := i) (c := 10) (d := 11) rfl)).trans hgy235
      have hgy237 := (hfvy230 (i) (ne_o (i := i) (c := 0) (d := 11) rfl)).trans hgy26
      have hgy238 := up_n egy25 ha1 (ne_o (i := i) (c := 1) (d := 0) rfl)
      have hgy239 := (hfvy230 (i + 1) (ne_o (i := i) (c := 1) (d := 11) rfl)).trans hgy238
      have hFy240 : ∀ f, f ≠ 12 → (uZ F 12 (0)) f = F f := fun f n12 => ((uZ_n _ _ n12).trans rfl)
      have hey241 : (uZ F 12 (0)) 13 = F 13 := (fn rfl (by decide))
      have hey242 : (uZ F 12 (0)) 14 = F 14 := (fn rfl (by decide))
      have hey243 : (uZ F 12 (0)) 15 = F 15 := (fn rfl (by decide))
      have hey244 : (uZ F 12 (0)) 16 = F 16 := (fn rfl (by decide))
      have hey245 : (uZ F 12 (0)) 17 = F 17 := (fn rfl (by decide))
      have hey246 : (uZ F 12 (0)) 18 = F 18 := (fn rfl (by decide))
      have hey247 : (uZ F 12 (0)) 19 = F 19 := (fn rfl (by decide))
      have hey248 : (uZ F 12 (0)) 20 = F 20 := (fn rfl (by decide))
      have hey249 : (uZ F 12 (0)) 21 = F 21 := (fn rfl (by decide))
      have hey250 : (uZ F 12 (0)) 23 = F 23 := (fn rfl (by decide))
      have hey251 : (uZ F 12 (0)) 25 = F 25 := (fn rfl (by decide))
      have hey252 : (uZ F 12 (0)) 27 = F 27 := (fn rfl (by decide))
      have hey253 : (uZ F 12 (0)) 28 = F 28 := (fn rfl (by decide))
      have hey254 : (uZ F 12 (0)) 29 = F 29 := (fn rfl (by decide))
      have hKy255 : okF (uZ F 12 (0)) := okF.mv hM.2.1 hey241 hey242 hey243 hey244 hey245 hey246 hey247 hey248 hey249 hey250 hey251 hey252 hey253 hey254
      have hMy256 : okMr cs ad gvy230 i (x + 1) (uZ F 12 (0)) r st op ai fa mu tb tp := okMr.upd hM hgy237 hKy255 (fun f a => hFy240 f (by omega)) hgy239 (hA.mono (by omega)) (fun j a b => by
          by_cases e0 : j = i + 11
          · exact Or.inr ⟨11, _, e0, lsP.l (by decide), by rw [e0]; exact hdvy230⟩
          exact Or.inl (by rw [hfvy230 _ (by omega)]; rw [egy25, va_up_ne _ _ (by omega)]))
      have hkpy257 : (uZ F 12 (0)) 13 = F 13 := (fn rfl (by decide))
      have hkpy258 : (uZ F 12 (0)) 14 = F 14 := (fn rfl (by decide))
      have hkpy259 : (uZ F 12 (0)) 15 = F 15 := (fn rfl (by decide))
      have hkpy260 : (uZ F 12 (0)) 16 = F 16 := (fn rfl (by decide))
      have hkpy261 : (uZ F 12 (0)) 17 = F 17 := (fn rfl (by decide))
      have hkpy262 : (uZ F 12 (0)) 18 = F 18 := (fn rfl (by decide))
      have hkpy263 : (uZ F 12 (0)) 19 = F 19 := (fn rfl (by decide))
      have hkpy264 : (uZ F 12 (0)) 20 = F 20 := (fn rfl (by decide))
      have hkpy265 : (uZ F 12 (0)) 21 = F 21 := (fn rfl (by decide))
      have hkpy266 : (uZ F 12 (0)) 23 = F 23 := (fn rfl (by decide))
      have hkpy267 : (uZ F 12 (0)) 24 = F 24 := (fn rfl (by decide))
      have hkpy268 : (uZ F 12 (0)) 25 = F 25 := (fn rfl (by decide))
      have hkpy269 : (uZ F 12 (0)) 26 = F 26 := (fn rfl (by decide))
      have hkpy270 : (uZ F 12 (0)) 27 = F 27 := (fn rfl (by decide))
      have hkpy271 : (uZ F 12 (0)) 29 = F 29 := (fn rfl (by decide))
      exact z_iret C hr hlk dX10_note_54 (by decide) (by decide) ⟨-1, rfl, rfl, rfl, ⟨_, _, hMy256, ⟨hkpy257, hkpy258, hkpy259, hkpy260, rfl, hkpy262, hkpy263, hkpy264, hkpy265, hkpy266, hkpy267⟩, ⟨(hkpy268.trans hp25), (hkpy269.trans hp26), (hkpy270.trans hp27), (hkpy271.trans hp29)⟩, (fun j _ => rfl), Or.inr ⟨by omega, by omega, by omega⟩⟩, ⟨_, _, _, _, ⟨hgy232, hgy234, hgy236, hdvy230⟩, Or.inr ⟨by omega, rfl, rfl, rfl, rfl⟩⟩, fun j j1 => by rw [hfvy230 _ (by omega)]; rw [egy25, va_up_ne _ _ (by omega)], by rw [hfvy230 _ (by omega)]; rw [egy25, va_up_ne _ _ (by omega)]⟩
end
