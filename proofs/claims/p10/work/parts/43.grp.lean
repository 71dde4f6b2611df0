section
-- 43.ask.lean.txt
set_option maxRecDepth 100000 in
set_option maxHeartbeats 4000000 in
theorem c_X9_worst (l : Launch) (D : va_G) (A : Nat → Prop) (cs : Nat → ClassId) (tt : Nat) (N : Nat) (ad : Nat → Nat) (g : Nat → va_E) (hN : 952 ≤ N) (t fp im nz kz sl ho ua : Int) (st op ai fa mu tb tp : Nat → Int) (hR : okRec cs ad g N t fp im nz kz sl ho ua st op ai fa mu tb tp) : zM l yX9_worst cX9_worst 5 (some .int) ({ frames := 6, cells := 0, slots := 0, locals := 360 } : Room) D A cs tt N ad g [.ref (ad 0)] (rI0 N ad fun r g' => (-2147483648 ≤ r ∧ r ≤ 2147483647) ∧ g = g') := by
  obtain ⟨ary1, bry1, cry1, dry1, ery1, fry1, gry11, hry1, ⟨acry1, iry1⟩, ⟨kcry1, jry1⟩, kry1, lry1, mry1, nry1, ory1, pry1⟩ := id hR
  have hay2 : zAt ad (0) (ad 0) := rfl
  have hay3 : zAt ad (1) (ad 1) := rfl
  have hay4 : zAt ad (2) (ad 2) := rfl
  have hay5 : zAt ad (4) (ad 4) := rfl
  have hay6 : zAt ad (11) (ad 11) := rfl
  have hay7 : zAt ad (447) (ad 447) := rfl
  have hay8 : zAt ad (883) (ad 883) := rfl
  have hay9 : zAt ad (890) (ad 890) := rfl
  have hay10 : zAt ad (900) (ad 900) := rfl
  have hay11 : zAt ad (910) (ad 910) := rfl
  have hay12 : zAt ad (917) (ad 917) := rfl
  have hay13 : zAt ad (919) (ad 919) := rfl
  have hay14 : zAt ad (4 + 1) (ad (4 + 1)) := rfl
  have hay15 : zAt ad (4 + 2) (ad (4 + 2)) := rfl
  have hay16 : zAt ad (4 + 3) (ad (4 + 3)) := rfl
  have hay17 : zAt ad (4 + 4) (ad (4 + 4)) := rfl
  have hay18 : zAt ad (4 + 5) (ad (4 + 5)) := rfl
  have hay19 : zAt ad (4 + 6) (ad (4 + 6)) := rfl
  obtain ⟨thcy20, zhcy20, ohcy20, rhcy20, hzhcy20, hthcy20, hwhcy20⟩ := id lry1
  obtain ⟨thcy21, zhcy21, ohcy21, rhcy21, hzhcy21, hthcy21, hwhcy21⟩ := id mry1
  obtain ⟨asy22, bsy22, csy22, dsy22, esy22, ⟨ptsy22, fsy22, gsy221⟩, hsy22, ⟨nusy22, nvsy22, nwsy22, isy22, jsy22, ksy22, lsy22, msy22, nsy22⟩, rfsy22, osy22⟩ := id iry1
  have hay23 : zAt ad (11 + 1) (ad (11 + 1)) := rfl
  have hay24 : zAt ad (11 + 11) (ad (11 + 11)) := rfl
  have hay25 : zAt ad (11 + 12) (ad (11 + 12)) := rfl
  have hay26 : zAt ad (11 + 13) (ad (11 + 13)) := rfl
  have hay27 : zAt ad (11 + 13 + 1) (ad (11 + 13 + 1)) := rfl
  have hay28 : zAt ad (11 + 13 + 2) (ad (11 + 13 + 2)) := rfl
  have hay29 : zAt ad (11 + 13 + 3) (ad (11 + 13 + 3)) := rfl
  have hay30 : zAt ad (11 + 17) (ad (11 + 17)) := rfl
  obtain ⟨uy31t, uy31z, uy31o, uy31r, uy31z4, uy31t5, uy311, ⟨uy31u, uy312, uy313⟩, uy314⟩ := id csy22
  have hay32 : zAt ad (11 + 1) (ad (11 + 1)) := rfl
  have hay33 : zAt ad (11 + 1 + 1) (ad (11 + 1 + 1)) := rfl
  refine z_of (by decide) (Nat.le_of_ble_eq_true rfl) ?_
  intro p e s m below meth c C hr hlk hnm
  refine z_lv (lv' := [(0, .ref (ad 0))]) [0] rfl ?_
  refine z_iconst (z := -1) C dX9_worst_0 rfl ?_
  refine z_istore_n (lv' := [(1, .int (zI (-1))), (0, .ref (ad 0))]) C dX9_worst_1 rfl (by decide) rfl ?_
  refine z_iconst (z := 0) C dX9_worst_2 rfl ?_
  refine z_istore_n (lv' := [(2, .int (zI (0))), (1, .int (zI (-1))), (0, .ref (ad 0))]) C dX9_worst_3 rfl (by decide) rfl ?_
  refine z_iconst (z := 0) C dX9_worst_4 rfl ?_
  refine z_istore_n (lv' := [(3, .int (zI (0))), (2, .int (zI (0))), (1, .int (zI (-1))), (0, .ref (ad 0))]) C dX9_worst_5 rfl (by decide) rfl ?_
  have lp : ∀ (n9 : Nat) (wh : Int) (le : Int) (i : Int) (g1 : Nat → va_E), (4 - i).toNat = n9 → (g1 = g) → (-1 ≤ wh ∧ wh ≤ 4) → (-2147483648 ≤ le ∧ le ≤ 2147483647) → (0 ≤ i ∧ i ≤ 4) → zV p l e ({ frames := 6, cells := 0, slots := 0, locals := 360 } : Room) s m ([.ref (ad 0)] : List Value).toArray below meth c (MQ below (zPost D A (rI0 N ad fun r g' => (-2147483648 ≤ r ∧ r ≤ 2147483647) ∧ g = g')) ([.ref (ad 0)] : List Value).toArray s ({ frames := 6, cells := 0, slots := 0, locals := 360 } : Room).cells ({ frames := 6, cells := 0, slots := 0, locals := 360 } : Room).slots A) D A 5 (N) ad g1 (0) (0) 6 [(3, .int (zI (i))), (2, .int (zI (le))), (1, .int (zI (wh))), (0, .ref (ad 0))] [] := by
    intro n9
    induction n9 using Nat.strongRecOn with
    | ind n9 ih =>
      intro wh le i g1 hm9 hg1 hv0 hv1 hv2
      subst hg1
      obtain ⟨ary34, bry34, cry34, dry34, ery34, fry34, gry341, hry34, ⟨acry34, iry34⟩, ⟨kcry34, jry34⟩, kry34, lry34, mry34, nry34, ory34, pry34⟩ := id hR
      have hay35 : zAt ad (0) (ad 0) := rfl
      have hay36 : zAt ad (1) (ad 1) := rfl
      have hay37 : zAt ad (2) (ad 2) := rfl
      have hay38 : zAt ad (4) (ad 4) := rfl
      have hay39 : zAt ad (11) (ad 11) := rfl
      have hay40 : zAt ad (447) (ad 447) := rfl
      have hay41 : zAt ad (883) (ad 883) := rfl
      have hay42 : zAt ad (890) (ad 890) := rfl
      have hay43 : zAt ad (900) (ad 900) := rfl
      have hay44 : zAt ad (910) (ad 910) := rfl
      have hay45 : zAt ad (917) (ad 917) := rfl
      have hay46 : zAt ad (919) (ad 919) := rfl
      have hay47 : zAt ad (4 + 1) (ad (4 + 1)) := rfl
      have hay48 : zAt ad (4 + 2) (ad (4 + 2)) := rfl
      have hay49 : zAt ad (4 + 3) (ad (4 + 3)) := rfl
      have hay50 : zAt ad (4 + 4) (ad (4 + 4)) := rfl
      have hay51 : zAt ad (4 + 5) (ad (4 + 5)) := rfl
      have hay52 : zAt ad (4 + 6) (ad (4 + 6)) := rfl
      obtain ⟨thcy53, zhcy53, ohcy53, rhcy53, hzhcy53, hthcy53, hwhcy53⟩ := id lry34
      obtain ⟨thcy54, zhcy54, ohcy54, rhcy54, hzhcy54, hthcy54, hwhcy54⟩ := id mry34
      obtain ⟨asy55, bsy55, csy55, dsy55, esy55, ⟨ptsy55, fsy55, gsy551⟩, hsy55, ⟨nusy55, nvsy55, nwsy55, isy55, jsy55, ksy55, lsy55, msy55, nsy55⟩, rfsy55, osy55⟩ := id iry34
      have hay56 : zAt ad (11 + 1) (ad (11 + 1)) := rfl
      have hay57 : zAt ad (11 + 11) (ad (11 + 11)) := rfl
      have hay58 : zAt ad (11 + 12) (ad (11 + 12)) := rfl
      have hay59 : zAt ad (11 + 13) (ad (11 + 13)) := rfl
      have hay60 : zAt ad (11 + 13 + 1) (ad (11 + 13 + 1)) := rfl
      have hay61 : zAt ad (11 + 13 + 2) (ad (11 + 13 + 2)) := rfl
      have hay62 : zAt ad (11 + 13 + 3) (ad (11 + 13 + 3)) := rfl
      have hay63 : zAt ad (11 + 17) (ad (11 + 17)) := rfl
      obtain ⟨uy64t, uy64z, uy64o, uy64r, uy64z4, uy64t5, uy641, ⟨uy64u, uy642, uy643⟩, uy644⟩ := id csy55
      have hay65 : zAt ad (11 + 1) (ad (11 + 1)) := rfl
      have hay66 : zAt ad (11 + 1 + 1) (ad (11 + 1 + 1)) := rfl
      refine z_iload_n C 0 dX9_worst_6 rfl ?_
      refine z_aload_n C 3 dX9_worst_7 rfl ?_
      refine z_get (v := .ref (ad 4)) C (lt_K hN (rfl : Nat.blt (0) 952 = true)) hay35 ary34 rfl inA_X9 4 (by decide) q_353 rfl rfl dX9_worst_8 ?_
      refine z_get (v := .int (zI (sl))) C (lt_K hN (rfl : Nat.blt (4) 952 = true)) hay38 fry34.1 rfl inA_X5 0 (by decide) q_90 rfl rfl dX9_worst_11 ?_
      refine z_icmp_ge (tgt := 69) C dX9_worst_14 (by decide) (by omega) (by omega) (fun hby67 => ?_) (fun hby67 => ?_)
      · refine z_iload_n C 2 dX9_worst_69 rfl ?_
        exact z_iret C hr hlk dX9_worst_70 (by decide) (by decide) ⟨wh, rfl, rfl, rfl, by omega, rfl⟩
      · refine z_aload_n C 3 dX9_worst_17 rfl ?_
        refine z_get (v := .ref (ad 11)) C (lt_K hN (rfl : Nat.blt (0) 952 = true)) hay35 ary34 rfl inA_X9 5 (by decide) q_354 rfl rfl dX9_worst_18 ?_
        refine z_get (v := .ref (ad (11 + 1))) C (lt_K hN (rfl : Nat.blt (11) 952 = true)) hay39 iry34.1 rfl inA_X6 0 (by decide) q_258 rfl rfl dX9_worst_21 ?_
        refine z_get (v := .ref (ad (11 + 1 + 1))) C (lt_K hN (rfl : Nat.blt (11 + 1) 952 = true)) hay65 uy641 rfl inA_X8 6 (by decide) q_191 rfl rfl dX9_worst_24 ?_
        refine z_iload_n C 0 dX9_worst_27 rfl ?_
        refine z_aald C (lt_K hN (rfl : Nat.blt (11 + 1 + 1) 952 = true)) hay66 uy642 3 rfl ((i).toNat) (by omega) (by omega) (by decide) (uy643 (i).toNat (by omega)) dX9_worst_28 ?_
        have hay68 : zAt ad (11 + 1 + 2 + 2 * (i).toNat) (ad (11 + 1 + 2 + 2 * (i).toNat)) := rfl
        have hay69 : zAt ad (11 + 1 + 2 + 2 * (i).toNat + 1) (ad (11 + 1 + 2 + 2 * (i).toNat + 1)) := rfl
        have hpy70 := uy644 (i).toNat (by omega)
        have hqy71 := uy64z4 (i).toNat (by omega)
        refine z_aload_n C 3 dX9_worst_29 rfl ?_
        refine z_get (v := .ref (ad 4)) C (lt_K hN (rfl : Nat.blt (0) 952 = true)) hay35 ary34 rfl inA_X9 4 (by decide) q_353 rfl rfl dX9_worst_30 ?_
        refine z_get (v := .ref (ad (4 + 1))) C (lt_K hN (rfl : Nat.blt (4) 952 = true)) hay38 fry34.1 rfl inA_X5 3 (by decide) q_98 rfl rfl dX9_worst_33 ?_
        refine z_iload_n C 0 dX9_worst_36 rfl ?_
        refine z_iald C (lt_K hN (rfl : Nat.blt (4 + 1) 952 = true)) hay47 fry34.2.1 ((i).toNat) (by omega) (by omega) (by decide) dX9_worst_37 ?_
        refine z_aload_n C 3 dX9_worst_38 rfl ?_
        refine z_get (v := .ref (ad 4)) C (lt_K hN (rfl : Nat.blt (0) 952 = true)) hay35 ary34 rfl inA_X9 4 (by decide) q_353 rfl rfl dX9_worst_39 ?_
        obtain ⟨xy72, exy73, hxy74⟩ := zI_of (zI (st ((i).toNat)))
        rw [exy73]
        refine z_cV (As := [.int (zI (xy72)), .ref (ad 4)]) (rest := []) (ci := 5) C (c_X3_leastRatio l D A cs tt N ad _ (11 + 1 + 2 + 2 * (i).toNat) (by omega) _ _ _ (by omega) ⟨hpy70.1, hpy70.2⟩ (4) (by omega) _ _ _ _ _ _ _ _ _ ⟨fry34.1, fry34.2.1, fry34.2.2.1, fry34.2.2.2.1, fry34.2.2.2.2.1, fry34.2.2.2.2.2.1, fry34.2.2.2.2.2.2⟩ (xy72) (by omega)) (by omega) hay68 hpy70.1 rfl rfl mv_yX3_leastRatio q_898 hd_yX3_leastRatio (by decide) (Nat.le_of_ble_eq_true rfl) (by decide) dX9_worst_42 rfl (kI0 fun vy75 gvy75 hvy75 => ?_)
        obtain ⟨hvy75, rfl⟩ := hvy75
        refine z_istore (lv' := [(4, .int (zI (vy75))), (3, .int (zI (i))), (2, .int (zI (le))), (1, .int (zI (wh))), (0, .ref (ad 0))]) C dX9_worst_45 (by decide) rfl ?_
        refine z_iload_n C 3 dX9_worst_47 rfl ?_
        refine z_iconst (z := -1) C dX9_worst_48 rfl ?_
        refine z_icmp_eq (tgt := 58) C dX9_worst_49 (by decide) (by omega) (by omega) (fun hby76 => ?_) (fun hby76 => ?_)
        · refine z_iload_n C 1 dX9_worst_58 rfl ?_
          refine z_istore_n (lv' := [(1, .int (zI (i))), (4, .int (zI (vy75))), (3, .int (zI (i))), (2, .int (zI (le))), (0, .ref (ad 0))]) C dX9_worst_59 rfl (by decide) rfl ?_
          refine z_iload C 1 dX9_worst_60 rfl ?_
          refine z_istore_n (lv' := [(2, .int (zI (vy75))), (1, .int (zI (i))), (4, .int (zI (vy75))), (3, .int (zI (i))), (0, .ref (ad 0))]) C dX9_worst_62 rfl (by decide) rfl ?_
          refine z_iinc (z := i + 1) (lv' := [(3, .int (zI (i + 1))), (2, .int (zI (vy75))), (1, .int (zI (i))), (4, .int (zI (vy75))), (0, .ref (ad 0))]) (j := 3) C dX9_worst_63 rfl rfl (by decide) rfl ?_
          refine z_goto (tgt := 6) C dX9_worst_66 (by decide) ?_
          refine z_lv (lv' := [(3, .int (zI (i + 1))), (2, .int (zI (vy75))), (1, .int (zI (i))), (0, .ref (ad 0))]) [0, 1, 2, 4] rfl ?_
          exact ih _ (by omega) (i) (vy75) (i + 1) _ rfl rfl (by omega) (by omega) (by omega)
        · refine z_iload C 0 dX9_worst_52 rfl ?_
          refine z_iload_n C 2 dX9_worst_54 rfl ?_
          refine z_icmp_ge (tgt := 63) C dX9_worst_55 (by decide) (by omega) (by omega) (fun hby77 => ?_) (fun hby77 => ?_)
          · refine z_iinc (z := i + 1) (lv' := [(3, .int (zI (i + 1))), (4, .int (zI (vy75))), (2, .int (zI (le))), (1, .int (zI (wh))), (0, .ref (ad 0))]) (j := 1) C dX9_worst_63 rfl rfl (by decide) rfl ?_
            refine z_goto (tgt := 6) C dX9_worst_66 (by decide) ?_
            refine z_lv (lv' := [(3, .int (zI (i + 1))), (2, .int (zI (le))), (1, .int (zI (wh))), (0, .ref (ad 0))]) [0, 2, 3, 4] rfl ?_
            exact ih _ (by omega) (wh) (le) (i + 1) _ rfl rfl (by omega) (by omega) (by omega)
          · refine z_iload_n C 1 dX9_worst_58 rfl ?_
            refine z_istore_n (lv' := [(1, .int (zI (i))), (4, .int (zI (vy75))), (3, .int (zI (i))), (2, .int (zI (le))), (0, .ref (ad 0))]) C dX9_worst_59 rfl (by decide) rfl ?_
            refine z_iload C 1 dX9_worst_60 rfl ?_
            refine z_istore_n (lv' := [(2, .int (zI (vy75))), (1, .int (zI (i))), (4, .int (zI (vy75))), (3, .int (zI (i))), (0, .ref (ad 0))]) C dX9_worst_62 rfl (by decide) rfl ?_
            refine z_iinc (z := i + 1) (lv' := [(3, .int (zI (i + 1))), (2, .int (zI (vy75))), (1, .int (zI (i))), (4, .int (zI (vy75))), (0, .ref (ad 0))]) (j := 3) C dX9_worst_63 rfl rfl (by decide) rfl ?_
            refine z_goto (tgt := 6) C dX9_worst_66 (by decide) ?_
            refine z_lv (lv' := [(3, .int (zI (i + 1))), (2, .int (zI (vy75))), (1, .int (zI (i))), (0, .ref (ad 0))]) [0, 1, 2, 4] rfl ?_
            exact ih _ (by omega) (i) (vy75) (i + 1) _ rfl rfl (by omega) (by omega) (by omega)
  refine z_lv (lv' := [(3, .int (zI (0))), (2, .int (zI (0))), (1, .int (zI (-1))), (0, .ref (ad 0))]) [0, 1, 2, 3] rfl ?_
  exact lp _ (-1) (0) (0) _ rfl rfl (by omega) (by omega) (by omega)

set_option maxRecDepth 100000 in
set_option maxHeartbeats 4000000 in
theorem c_X9_isUnstable (l : Launch) (D : va_G) (A : Nat → Prop) (cs : Nat → ClassId) (tt : Nat) (N : Nat) (ad : Nat → Nat) (g : Nat → va_E) (hN : 952 ≤ N) (t fp im nz kz sl ho ua : Int) (st op ai fa mu tb tp : Nat → Int) (hR : okRec cs ad g N t fp im nz kz sl ho ua st op ai fa mu tb tp) (a : Nat) (hNa : a + 10 ≤ N) (hwa : okWorld cs ad g a) (z : Int) (hz : 0 ≤ z ∧ z ≤ 3) : zM l yX9_isUnstable cX9_isUnstable 3 (some .boolean) ({ frames := 5, cells := 0, slots := 0, locals := 300 } : Room) D A cs tt N ad g [.ref (ad 0), .ref (ad a), .int (zI (z))] (rI0 N ad fun r g' => (0 ≤ r ∧ r ≤ 1) ∧ g = g') := by
  obtain ⟨ary1, bry1, cry1, dry1, ery1, fry1, gry11, hry1, ⟨acry1, iry1⟩, ⟨kcry1, jry1⟩, kry1, lry1, mry1, nry1, ory1, pry1⟩ := id hR
  have hay2 : zAt ad (0) (ad 0) := rfl
  have hay3 : zAt ad (1) (ad 1) := rfl
  have hay4 : zAt ad (2) (ad 2) := rfl
  have hay5 : zAt ad (4) (ad 4) := rfl
  have hay6 : zAt ad (11) (ad 11) := rfl
  have hay7 : zAt ad (447) (ad 447) := rfl
  have hay8 : zAt ad (883) (ad 883) := rfl
  have hay9 : zAt ad (890) (ad 890) := rfl
  have hay10 : zAt ad (900) (ad 900) := rfl
  have hay11 : zAt ad (910) (ad 910) := rfl
  have hay12 : zAt ad (917) (ad 917) := rfl
  have hay13 : zAt ad (919) (ad 919) := rfl
  have hay14 : zAt ad (4 + 1) (ad (4 + 1)) := rfl
  have hay15 : zAt ad (4 + 2) (ad (4 + 2)) := rfl
  have hay16 : zAt ad (4 + 3) (ad (4 + 3)) := rfl
  have hay17 : zAt ad (4 + 4) (ad (4 + 4)) := rfl
  have hay18 : zAt ad (4 + 5) (ad (4 + 5)) := rfl
  have hay19 : zAt ad (4 + 6) (ad (4 + 6)) := rfl
  obtain ⟨thcy20, zhcy20, ohcy20, rhcy20, hzhcy20, hthcy20, hwhcy20⟩ := id lry1
  obtain ⟨thcy21, zhcy21, ohcy21, rhcy21, hzhcy21, hthcy21, hwhcy21⟩ := id mry1
  have hay22 : zAt ad (a) (ad a) := rfl
  obtain ⟨uy23t, uy23z, uy23o, uy23r, uy23z4, uy23t5, uy231, ⟨uy23u, uy232, uy233⟩, uy234⟩ := id hwa
  have hay24 : zAt ad (a) (ad a) := rfl
  have hay25 : zAt ad (a + 1) (ad (a + 1)) := rfl
  refine z_of (by decide) (Nat.le_of_ble_eq_true rfl) ?_
  intro p e s m below meth c C hr hlk hnm
  refine z_lv (lv' := [(0, .ref (ad 0)), (1, .ref (ad a)), (2, .int (zI (z)))]) [0, 1, 2] rfl ?_
  refine z_aload_n C 1 dX9_isUnstable_0 rfl ?_
  refine z_get (v := .ref (ad (a + 1))) C (by omega) hay24 uy231 rfl inA_X8 6 (by decide) q_191 rfl rfl dX9_isUnstable_1 ?_
  refine z_iload_n C 2 dX9_isUnstable_4 rfl ?_
  refine z_aald C (by omega) hay25 uy232 3 rfl ((z).toNat) (by omega) (by omega) (by decide) (uy233 (z).toNat (by omega)) dX9_isUnstable_5 ?_
  have hay26 : zAt ad (a + 2 + 2 * (z).toNat) (ad (a + 2 + 2 * (z).toNat)) := rfl
  have hay27 : zAt ad (a + 2 + 2 * (z).toNat + 1) (ad (a + 2 + 2 * (z).toNat + 1)) := rfl
  have hpy28 := uy234 (z).toNat (by omega)
  have hqy29 := uy23z4 (z).toNat (by omega)
  refine z_aload_n C 0 dX9_isUnstable_6 rfl ?_
  refine z_get (v := .ref (ad 4)) C (lt_K hN (rfl : Nat.blt (0) 952 = true)) hay2 ary1 rfl inA_X9 4 (by decide) q_353 rfl rfl dX9_isUnstable_7 ?_
  refine z_get (v := .ref (ad (4 + 1))) C (lt_K hN (rfl : Nat.blt (4) 952 = true)) hay5 fry1.1 rfl inA_X5 3 (by decide) q_98 rfl rfl dX9_isUnstable_10 ?_
  refine z_iload_n C 2 dX9_isUnstable_13 rfl ?_
  refine z_iald C (lt_K hN (rfl : Nat.blt (4 + 1) 952 = true)) hay14 fry1.2.1 ((z).toNat) (by omega) (by omega) (by decide) dX9_isUnstable_14 ?_
  refine z_iconst (z := 0) C dX9_isUnstable_15 rfl ?_
  refine z_aload_n C 0 dX9_isUnstable_16 rfl ?_
  refine z_get (v := .ref (ad 4)) C (lt_K hN (rfl : Nat.blt (0) 952 = true)) hay2 ary1 rfl inA_X9 4 (by decide) q_353 rfl rfl dX9_isUnstable_17 ?_
  obtain ⟨xy30, exy31, hxy32⟩ := zI_of (zI (st ((z).toNat)))
  rw [exy31]
  refine z_cV (As := [.int (zI (xy30)), .int (zI (0)), .ref (ad 4)]) (rest := []) (ci := 5) C (c_X3_lowestUnstable l D A cs tt N ad _ (a + 2 + 2 * (z).toNat) (by omega) _ _ _ (by omega) ⟨hpy28.1, hpy28.2⟩ (4) (by omega) _ _ _ _ _ _ _ _ _ ⟨fry1.1, fry1.2.1, fry1.2.2.1, fry1.2.2.2.1, fry1.2.2.2.2.1, fry1.2.2.2.2.2.1, fry1.2.2.2.2.2.2⟩ (xy30) (by omega) (0) (by omega)) (by omega) hay26 hpy28.1 rfl rfl mv_yX3_lowestUnstable q_564 hd_yX3_lowestUnstable (by decide) (Nat.le_of_ble_eq_true rfl) (by decide) dX9_isUnstable_20 rfl (kI0 fun vy33 gvy33 hvy33 => ?_)
  obtain ⟨hvy33, rfl⟩ := hvy33
  refine z_iconst (z := -1) C dX9_isUnstable_23 rfl ?_
  refine z_icmp_eq (tgt := 31) C dX9_isUnstable_24 (by decide) (by omega) (by omega) (fun hby34 => ?_) (fun hby34 => ?_)
  · refine z_iconst (z := 0) C dX9_isUnstable_31 rfl ?_
    exact z_zret C hr hlk dX9_isUnstable_32 (by decide) (by decide) (by decide) ⟨0, rfl, rfl, rfl, by omega, rfl⟩
  · refine z_iconst (z := 1) C dX9_isUnstable_27 rfl ?_
    refine z_goto (tgt := 32) C dX9_isUnstable_28 (by decide) ?_
    exact z_zret C hr hlk dX9_isUnstable_32 (by decide) (by decide) (by decide) ⟨1, rfl, rfl, rfl, by omega, rfl⟩

set_option maxRecDepth 100000 in
set_option maxHeartbeats 4000000 in
theorem c_X9_count (l : Launch) (D : va_G) (A : Nat → Prop) (cs : Nat → ClassId) (tt : Nat) (N : Nat) (ad : Nat → Nat) (g : Nat → va_E) (hN : 952 ≤ N) (t fp im nz kz sl ho ua : Int) (st op ai fa mu tb tp : Nat → Int) (hR : okRec cs ad g N t fp im nz kz sl ho ua st op ai fa mu tb tp) (hl0 : l.stackTraces = false) (z : Int) (hz : -2147483648 ≤ z ∧ z ≤ 2147483647) : zMX l yX9_count cX9_count 3 (some .int) ({ frames := 12, cells := 6, slots := 36, locals := 720 } : Room) D A cs tt N ad g [.ref (ad 0), .int (zI (z))] (rI0 N ad fun r g' => (-2147483648 ≤ r ∧ r ≤ 2147483647) ∧ g = g') (fun E N' ad' g' => E = eNS ∧ N' = N ∧ ad' = ad ∧ g' = g) := by
  obtain ⟨ary1, bry1, cry1, dry1, ery1, fry1, gry11, hry1, ⟨acry1, iry1⟩, ⟨kcry1, jry1⟩, kry1, lry1, mry1, nry1, ory1, pry1⟩ := id hR
  have hay2 : zAt ad (0) (ad 0) := rfl
  have hay3 : zAt ad (1) (ad 1) := rfl
  have hay4 : zAt ad (2) (ad 2) := rfl
  have hay5 : zAt ad (4) (ad 4) := rfl
  have hay6 : zAt ad (11) (ad 11) := rfl
  have hay7 : zAt ad (447) (ad 447) := rfl
  have hay8 : zAt ad (883) (ad 883) := rfl
  have hay9 : zAt ad (890) (ad 890) := rfl
  have hay10 : zAt ad (900) (ad 900) := rfl
  have hay11 : zAt ad (910) (ad 910) := rfl
  have hay12 : zAt ad (917) (ad 917) := rfl
  have hay13 : zAt ad (919) (ad 919) := rfl
  have hay14 : zAt ad (4 + 1) (ad (4 + 1)) := rfl
  have hay15 : zAt ad (4 + 2) (ad (4 + 2)) := rfl
  have hay16 : zAt ad (4 + 3) (ad (4 + 3)) := rfl
  have hay17 : zAt ad (4 + 4) (ad (4 + 4)) := rfl
  have hay18 : zAt ad (4 + 5) (ad (4 + 5)) := rfl
  have hay19 : zAt ad (4 + 6) (ad (4 + 6)) := rfl
  obtain ⟨thcy20, zhcy20, ohcy20, rhcy20, hzhcy20, hthcy20, hwhcy20⟩ := id lry1
  obtain ⟨thcy21, zhcy21, ohcy21, rhcy21, hzhcy21, hthcy21, hwhcy21⟩ := id mry1
  obtain ⟨asy22, bsy22, csy22, dsy22, esy22, ⟨ptsy22, fsy22, gsy221⟩, hsy22, ⟨nusy22, nvsy22, nwsy22, isy22, jsy22, ksy22, lsy22, msy22, nsy22⟩, rfsy22, osy22⟩ := id iry1
  have hay23 : zAt ad (11 + 1) (ad (11 + 1)) := rfl
  have hay24 : zAt ad (11 + 11) (ad (11 + 11)) := rfl
  have hay25 : zAt ad (11 + 12) (ad (11 + 12)) := rfl
  have hay26 : zAt ad (11 + 13) (ad (11 + 13)) := rfl
  have hay27 : zAt ad (11 + 13 + 1) (ad (11 + 13 + 1)) := rfl
  have hay28 : zAt ad (11 + 13 + 2) (ad (11 + 13 + 2)) := rfl
  have hay29 : zAt ad (11 + 13 + 3) (ad (11 + 13 + 3)) := rfl
  have hay30 : zAt ad (11 + 17) (ad (11 + 17)) := rfl
  obtain ⟨uy31t, uy31z, uy31o, uy31r, uy31z4, uy31t5, uy311, ⟨uy31u, uy312, uy313⟩, uy314⟩ := id csy22
  have hay32 : zAt ad (11 + 1) (ad (11 + 1)) := rfl
  have hay33 : zAt ad (11 + 1 + 1) (ad (11 + 1 + 1)) := rfl
  refine z_ofX (by decide) (Nat.le_of_ble_eq_true rfl) ?_
  intro p e s m below meth c C hr hlk hxt
  refine z_lv (lv' := [(0, .ref (ad 0)), (1, .int (zI (z)))]) [0, 1] rfl ?_
  refine z_aload_n C 0 dX9_count_0 rfl ?_
  refine z_get (v := .ref (ad 11)) C (lt_K hN (rfl : Nat.blt (0) 952 = true)) hay2 ary1 rfl inA_X9 5 (by decide) q_354 rfl rfl dX9_count_1 ?_
  refine z_get (v := .ref (ad (11 + 1))) C (lt_K hN (rfl : Nat.blt (11) 952 = true)) hay6 iry1.1 rfl inA_X6 0 (by decide) q_258 rfl rfl dX9_count_4 ?_
  refine z_astore_n (lv' := [(2, .ref (ad (11 + 1))), (0, .ref (ad 0)), (1, .int (zI (z)))]) C dX9_count_7 rfl (by decide) rfl ?_
  refine z_iload_n C 2 dX9_count_8 rfl ?_
  by_cases hsy34 : z ≠ 0 ∧ z ≠ 1 ∧ z ≠ 2 ∧ z ≠ 3 ∧ z ≠ 4 ∧ z ≠ 5 ∧ z ≠ 6 ∧ z ≠ 7 ∧ z ≠ 8 ∧ z ≠ 9 ∧ z ≠ 10 ∧ z ≠ 11 ∧ z ≠ 12 ∧ z ≠ 13 ∧ z ≠ 14 ∧ z ≠ 15 ∧ z ≠ 16 ∧ z ≠ 17
  · refine z_tout (tgt := 225) C dX9_count_9 (by omega) (by omega) (by decide) ?_
    exact z_thrN (cls := eNS) (text := "no such count") C hl0 (ix := 13) (rx := nsB) ns0 ns1 ns2 ns5 (by decide +kernel) q_904 q_24 (by decide +kernel) at_NS gd_NS dX9_count_225 dX9_count_228 dX9_count_229 dX9_count_231 dX9_count_234 hxt (by decide) (Nat.le_of_ble_eq_true rfl) (by decide) (by decide) hlk (by decide) (by decide) ⟨rfl, rfl, rfl, rfl⟩
  · rcases (show z = 0 ∨ z = 1 ∨ z = 2 ∨ z = 3 ∨ z = 4 ∨ z = 5 ∨ z = 6 ∨ z = 7 ∨ z = 8 ∨ z = 9 ∨ z = 10 ∨ z = 11 ∨ z = 12 ∨ z = 13 ∨ z = 14 ∨ z = 15 ∨ z = 16 ∨ z = 17 by omega) with rfl | rfl | rfl | rfl | rfl | rfl | rfl | rfl | rfl | rfl | rfl | rfl | rfl | rfl | rfl | rfl | rfl | rfl
    · refine z_tin (off := 87) (tgt := 96) C dX9_count_9 (by omega) (by omega) (by omega) rfl (by decide) ?_
      refine z_aload_n C 1 dX9_count_96 rfl ?_
      refine z_get (v := .ref (ad 4)) C (lt_K hN (rfl : Nat.blt (0) 952 = true)) hay2 ary1 rfl inA_X9 4 (by decide) q_353 rfl rfl dX9_count_97 ?_
      refine z_get (v := .int (zI (sl))) C (lt_K hN (rfl : Nat.blt (4) 952 = true)) hay5 fry1.1 rfl inA_X5 0 (by decide) q_90 rfl rfl dX9_count_100 ?_
      exact z_rX (z_iret C hr hlk dX9_count_103 (by decide) (by decide) ⟨sl, rfl, rfl, rfl, by omega, rfl⟩)
    · refine z_tin (off := 95) (tgt := 104) C dX9_count_9 (by omega) (by omega) (by omega) rfl (by decide) ?_
      refine z_aload_n C 1 dX9_count_104 rfl ?_
      refine z_get (v := .ref (ad 4)) C (lt_K hN (rfl : Nat.blt (0) 952 = true)) hay2 ary1 rfl inA_X9 4 (by decide) q_353 rfl rfl dX9_count_105 ?_
      refine z_get (v := .int (zI (ho))) C (lt_K hN (rfl : Nat.blt (4) 952 = true)) hay5 fry1.1 rfl inA_X5 1 (by decide) q_93 rfl rfl dX9_count_108 ?_
      exact z_rX (z_iret C hr hlk dX9_count_111 (by decide) (by decide) ⟨ho, rfl, rfl, rfl, by omega, rfl⟩)
    · refine z_tin (off := 103) (tgt := 112) C dX9_count_9 (by omega) (by omega) (by omega) rfl (by decide) ?_
      refine z_aload_n C 0 dX9_count_112 rfl ?_
      refine z_get (v := .int (zI (uy31t 0))) C (lt_K hN (rfl : Nat.blt (11 + 1) 952 = true)) hay32 uy311 rfl inA_X8 0 (by decide) q_174 rfl rfl dX9_count_113 ?_
      obtain ⟨xy35, exy36, hxy37⟩ := zI_of (zI (uy31t 0))
      rw [exy36]
      exact z_rX (z_iret C hr hlk dX9_count_116 (by decide) (by decide) ⟨xy35, rfl, rfl, rfl, by omega, rfl⟩)
    · refine z_tin (off := 108) (tgt := 117) C dX9_count_9 (by omega) (by omega) (by omega) rfl (by decide) ?_
      refine z_aload_n C 0 dX9_count_117 rfl ?_
      refine z_cV (As := []) (rest := []) (ci := 10) C (c_X8_layers l D A cs tt N ad _ (11 + 1) (by omega) csy22 ) (lt_K hN (rfl : Nat.blt (11 + 1) 952 = true)) hay32 uy311 rfl rfl mv_yX8_layers q_878 hd_yX8_layers (by decide) (Nat.le_of_ble_eq_true rfl) (by decide) dX9_count_118 rfl (kI0 fun vy38 gvy38 hvy38 => ?_)
      obtain ⟨hvy38, rfl⟩ := hvy38
      exact z_rX (z_iret C hr hlk dX9_count_121 (by decide) (by decide) ⟨vy38, rfl, rfl, rfl, by omega, rfl⟩)
    · refine z_tin (off := 113) (tgt := 122) C dX9_count_9 (by omega) (by omega) (by omega) rfl (by decide) ?_
      refine z_aload_n C 0 dX9_count_122 rfl ?_
      refine z_get (v := .int (zI (uy31t 1))) C (lt_K hN (rfl : Nat.blt (11 + 1) 952 = true)) hay32 uy311 rfl inA_X8 1 (by decide) q_177 rfl rfl dX9_count_123 ?_
      obtain ⟨xy39, exy40, hxy41⟩ := zI_of (zI (uy31t 1))
      rw [exy40]
      exact z_rX (z_iret C hr hlk dX9_count_126 (by decide) (by decide) ⟨xy39, rfl, rfl, rfl, by omega, rfl⟩)
    · refine z_tin (off := 118) (tgt := 127) C dX9_count_9 (by omega) (by omega) (by omega) rfl (by decide) ?_
      refine z_aload_n C 0 dX9_count_127 rfl ?_
      refine z_cV (As := []) (rest := []) (ci := 10) C (c_X8_runoff l D A cs tt N ad _ (11 + 1) (by omega) csy22 ) (lt_K hN (rfl : Nat.blt (11 + 1) 952 = true)) hay32 uy311 rfl rfl mv_yX8_runoff q_882 hd_yX8_runoff (by decide) (Nat.le_of_ble_eq_true rfl) (by decide) dX9_count_128 rfl (kI0 fun vy42 gvy42 hvy42 => ?_)
      obtain ⟨hvy42, rfl⟩ := hvy42
      exact z_rX (z_iret C hr hlk dX9_count_131 (by decide) (by decide) ⟨vy42, rfl, rfl, rfl, by omega, rfl⟩)
    · refine z_tin (off := 123) (tgt := 132) C dX9_count_9 (by omega) (by omega) (by omega) rfl (by decide) ?_
      refine z_aload_n C 0 dX9_count_132 rfl ?_
      refine z_get (v := .int (zI (uy31t 2))) C (lt_K hN (rfl : Nat.blt (11 + 1) 952 = true)) hay32 uy311 rfl inA_X8 2 (by decide) q_180 rfl rfl dX9_count_133 ?_
      obtain ⟨xy43, exy44, hxy45⟩ := zI_of (zI (uy31t 2))
      rw [exy44]
      exact z_rX (z_iret C hr hlk dX9_count_136 (by decide) (by decide) ⟨xy43, rfl, rfl, rfl, by omega, rfl⟩)
    · refine z_tin (off := 128) (tgt := 137) C dX9_count_9 (by omega) (by omega) (by omega) rfl (by decide) ?_
      refine z_aload_n C 0 dX9_count_137 rfl ?_
      refine z_get (v := .int (zI (uy31t 3))) C (lt_K hN (rfl : Nat.blt (11 + 1) 952 = true)) hay32 uy311 rfl inA_X8 3 (by decide) q_182 rfl rfl dX9_count_138 ?_
      obtain ⟨xy46, exy47, hxy48⟩ := zI_of (zI (uy31t 3))
      rw [exy47]
      exact z_rX (z_iret C hr hlk dX9_count_141 (by decide) (by decide) ⟨xy46, rfl, rfl, rfl, by omega, rfl⟩)
    · refine z_tin (off := 133) (tgt := 142) C dX9_count_9 (by omega) (by omega) (by omega) rfl (by decide) ?_
      refine z_aload_n C 0 dX9_count_142 rfl ?_
      refine z_get (v := .int (zI (uy31t 4))) C (lt_K hN (rfl : Nat.blt (11 + 1) 952 = true)) hay32 uy311 rfl inA_X8 4 (by decide) q_184 rfl rfl dX9_count_143 ?_
      obtain ⟨xy49, exy50, hxy51⟩ := zI_of (zI (uy31t 4))
      rw [exy50]
      exact z_rX (z_iret C hr hlk dX9_count_146 (by decide) (by decide) ⟨xy49, rfl, rfl, rfl, by omega, rfl⟩)
    · refine z_tin (off := 138) (tgt := 147) C dX9_count_9 (by omega) (by omega) (by omega) rfl (by decide) ?_
      refine z_aload_n C 0 dX9_count_147 rfl ?_
      refine z_bipush (z := 12) C dX9_count_148 (by decide) ?_
      refine z_cV (As := [.int (zI (12))]) (rest := []) (ci := 10) C (c_X8_sum l D A cs tt N ad _ (11 + 1) (by omega) csy22 (12) (by omega)) (lt_K hN (rfl : Nat.blt (11 + 1) 952 = true)) hay32 uy311 rfl rfl mv_yX8_sum q_886 hd_yX8_sum (by decide) (Nat.le_of_ble_eq_true rfl) (by decide) dX9_count_150 rfl (kI0 fun vy52 gvy52 hvy52 => ?_)
      obtain ⟨hvy52, rfl⟩ := hvy52
      refine z_aload_n C 0 dX9_count_153 rfl ?_
      refine z_bipush (z := 24) C dX9_count_154 (by decide) ?_
      refine z_cV (As := [.int (zI (24))]) (rest := [.int (zI (vy52))]) (ci := 10) C (c_X8_sum l D A cs tt N ad _ (11 + 1) (by omega) csy22 (24) (by omega)) (lt_K hN (rfl : Nat.blt (11 + 1) 952 = true)) hay32 uy311 rfl rfl mv_yX8_sum q_886 hd_yX8_sum (by decide) (Nat.le_of_ble_eq_true rfl) (by decide) dX9_count_156 rfl (kI0 fun vy53 gvy53 hvy53 => ?_)
      obtain ⟨hvy53, rfl⟩ := hvy53
      refine z_iadd C dX9_count_159 ?_
      obtain ⟨xy54, exy55, hxy56⟩ := zI_of (zI (vy52 + vy53))
      rw [exy55]
      exact z_rX (z_iret C hr hlk dX9_count_160 (by decide) (by decide) ⟨xy54, rfl, rfl, rfl, by omega, rfl⟩)
    · refine z_tin (off := 152) (tgt := 161) C dX9_count_9 (by omega) (by omega) (by omega) rfl (by decide) ?_
      refine z_aload_n C 1 dX9_count_161 rfl ?_
      have hrecy58 : okRec cs ad g N (t) (fp) (im) (nz) (kz) (sl) (ho) (ua) (st) (op) (ai) (fa) (mu) (tb) (tp) := ⟨ary1, bry1, cry1, dry1, ery1, fry1, gry11, hry1, ⟨_, iry1⟩, ⟨_, jry1⟩, kry1, lry1, mry1, nry1, ory1, pry1⟩
      refine z_cV (As := []) (rest := []) (ci := 11) C (c_X9_worst l D A cs tt N ad _ hN _ _ _ _ _ _ _ _ _ _ _ _ _ _ _ hrecy58 ) (lt_K hN (rfl : Nat.blt (0) 952 = true)) hay2 ary1 rfl rfl mv_yX9_worst q_894 hd_yX9_worst (by decide) (Nat.le_of_ble_eq_true rfl) (by decide) dX9_count_162 rfl (kI0 fun vy57 gvy57 hvy57 => ?_)
      obtain ⟨hvy57, rfl⟩ := hvy57
      exact z_rX (z_iret C hr hlk dX9_count_165 (by decide) (by decide) ⟨vy57, rfl, rfl, rfl, by omega, rfl⟩)
    · refine z_tin (off := 157) (tgt := 166) C dX9_count_9 (by omega) (by omega) (by omega) rfl (by decide) ?_
      refine z_aload_n C 0 dX9_count_166 rfl ?_
      refine z_get (v := .int (zI (uy31t 5))) C (lt_K hN (rfl : Nat.blt (11 + 1) 952 = true)) hay32 uy311 rfl inA_X8 5 (by decide) q_186 rfl rfl dX9_count_167 ?_
      exact z_rX (z_iret C hr hlk dX9_count_170 (by decide) (by decide) ⟨uy31t 5, rfl, rfl, rfl, by omega, rfl⟩)
    · refine z_tin (off := 162) (tgt := 171) C dX9_count_9 (by omega) (by omega) (by omega) rfl (by decide) ?_
      refine z_aload_n C 1 dX9_count_171 rfl ?_
      refine z_get (v := .ref (ad 11)) C (lt_K hN (rfl : Nat.blt (0) 952 = true)) hay2 ary1 rfl inA_X9 5 (by decide) q_354 rfl rfl dX9_count_172 ?_
      refine z_get (v := .int (zI (acry1))) C (lt_K hN (rfl : Nat.blt (11) 952 = true)) hay6 iry1.1 rfl inA_X6 2 (by decide) q_261 rfl rfl dX9_count_175 ?_
      exact z_rX (z_iret C hr hlk dX9_count_178 (by decide) (by decide) ⟨acry1, rfl, rfl, rfl, by omega, rfl⟩)
    · refine z_tin (off := 170) (tgt := 179) C dX9_count_9 (by omega) (by omega) (by omega) rfl (by decide) ?_
      refine z_aload_n C 1 dX9_count_179 rfl ?_
      refine z_get (v := .ref (ad 11)) C (lt_K hN (rfl : Nat.blt (0) 952 = true)) hay2 ary1 rfl inA_X9 5 (by decide) q_354 rfl rfl dX9_count_180 ?_
      refine z_get (v := .ref (ad (11 + 13))) C (lt_K hN (rfl : Nat.blt (11) 952 = true)) hay6 iry1.1 rfl inA_X6 4 (by decide) q_265 rfl rfl dX9_count_183 ?_
      refine z_get (v := .int (zI (nz))) C (lt_K hN (rfl : Nat.blt (11 + 13) 952 = true)) hay26 ksy22 rfl inA_X2 0 (by decide) q_218 rfl rfl dX9_count_186 ?_
      exact z_rX (z_iret C hr hlk dX9_count_189 (by decide) (by decide) ⟨nz, rfl, rfl, rfl, by omega, rfl⟩)
    · refine z_tin (off := 181) (tgt := 190) C dX9_count_9 (by omega) (by omega) (by omega) rfl (by decide) ?_
      refine z_aload_n C 1 dX9_count_190 rfl ?_
      refine z_get (v := .int (zI (t))) C (lt_K hN (rfl : Nat.blt (0) 952 = true)) hay2 ary1 rfl inA_X9 1 (by decide) q_350 rfl rfl dX9_count_191 ?_
      exact z_rX (z_iret C hr hlk dX9_count_194 (by decide) (by decide) ⟨t, rfl, rfl, rfl, by omega, rfl⟩)
    · refine z_tin (off := 186) (tgt := 195) C dX9_count_9 (by omega) (by omega) (by omega) rfl (by decide) ?_
      refine z_aload_n C 1 dX9_count_195 rfl ?_
      refine z_get (v := .ref (ad 11)) C (lt_K hN (rfl : Nat.blt (0) 952 = true)) hay2 ary1 rfl inA_X9 5 (by decide) q_354 rfl rfl dX9_count_196 ?_
      refine z_get (v := .ref (ad (11 + 17))) C (lt_K hN (rfl : Nat.blt (11) 952 = true)) hay6 iry1.1 rfl inA_X6 5 (by decide) q_267 rfl rfl dX9_count_199 ?_
      refine z_iconst (z := 0) C dX9_count_202 rfl ?_
      refine z_iald C (lt_K hN (rfl : Nat.blt (11 + 17) 952 = true)) hay30 osy22 (0) (by omega) (by omega) (by decide) dX9_count_203 ?_
      obtain ⟨xy59, exy60, hxy61⟩ := zI_of (zI (rfsy22 (0)))
      rw [exy60]
      exact z_rX (z_iret C hr hlk dX9_count_204 (by decide) (by decide) ⟨xy59, rfl, rfl, rfl, by omega, rfl⟩)
    · refine z_tin (off := 196) (tgt := 205) C dX9_count_9 (by omega) (by omega) (by omega) rfl (by decide) ?_
      refine z_aload_n C 1 dX9_count_205 rfl ?_
      refine z_get (v := .ref (ad 11)) C (lt_K hN (rfl : Nat.blt (0) 952 = true)) hay2 ary1 rfl inA_X9 5 (by decide) q_354 rfl rfl dX9_count_206 ?_
      refine z_get (v := .ref (ad (11 + 17))) C (lt_K hN (rfl : Nat.blt (11) 952 = true)) hay6 iry1.1 rfl inA_X6 5 (by decide) q_267 rfl rfl dX9_count_209 ?_
      refine z_iconst (z := 1) C dX9_count_212 rfl ?_
      refine z_iald C (lt_K hN (rfl : Nat.blt (11 + 17) 952 = true)) hay30 osy22 (1) (by omega) (by omega) (by decide) dX9_count_213 ?_
      obtain ⟨xy62, exy63, hxy64⟩ := zI_of (zI (rfsy22 (1)))
      rw [exy63]
      exact z_rX (z_iret C hr hlk dX9_count_214 (by decide) (by decide) ⟨xy62, rfl, rfl, rfl, by omega, rfl⟩)
    · refine z_tin (off := 206) (tgt := 215) C dX9_count_9 (by omega) (by omega) (by omega) rfl (by decide) ?_
      refine z_aload_n C 1 dX9_count_215 rfl ?_
      refine z_get (v := .ref (ad 11)) C (lt_K hN (rfl : Nat.blt (0) 952 = true)) hay2 ary1 rfl inA_X9 5 (by decide) q_354 rfl rfl dX9_count_216 ?_
      refine z_get (v := .ref (ad (11 + 17))) C (lt_K hN (rfl : Nat.blt (11) 952 = true)) hay6 iry1.1 rfl inA_X6 5 (by decide) q_267 rfl rfl dX9_count_219 ?_
      refine z_iconst (z := 2) C dX9_count_222 rfl ?_
      refine z_iald C (lt_K hN (rfl : Nat.blt (11 + 17) 952 = true)) hay30 osy22 (2) (by omega) (by omega) (by decide) dX9_count_223 ?_
      obtain ⟨xy65, exy66, hxy67⟩ := zI_of (zI (rfsy22 (2)))
      rw [exy66]
      exact z_rX (z_iret C hr hlk dX9_count_224 (by decide) (by decide) ⟨xy65, rfl, rfl, rfl, by omega, rfl⟩)

set_option maxRecDepth 100000 in
set_option maxHeartbeats 4000000 in
theorem c_X9_forecast (l : Launch) (D : va_G) (A : Nat → Prop) (cs : Nat → ClassId) (tt : Nat) (N : Nat) (ad : Nat → Nat) (g : Nat → va_E) (hN : 952 ≤ N) (t fp im nz kz sl ho ua : Int) (st op ai fa mu tb tp : Nat → Int) (hR : okRec cs ad g N t fp im nz kz sl ho ua st op ai fa mu tb tp) (hl0 : l.stackTraces = false) (z : Int) (hz : -2147483648 ≤ z ∧ z ≤ 2147483647) (z1 : Int) (hz1 : -2147483648 ≤ z1 ∧ z1 ≤ 2147483647) : zMX l yX9_forecast cX9_forecast 3 (some .int) ({ frames := 12, cells := 6, slots := 36, locals := 720 } : Room) D A cs tt N ad g [.ref (ad 0), .int (zI (z)), .int (zI (z1))] (rI0 N ad fun r g' => (-2147483648 ≤ r ∧ r ≤ 2147483647) ∧ ((0 ≤ z ∧ z < ho) ∧ ((z1 = 0 ∧ zI (ai (z).toNat) = zI r) ∨ (z1 = 1 ∧ zI (fa (z).toNat) = zI r) ∨ (z1 = 2 ∧ zI (mu (z).toNat) = zI r))) ∧ g = g') (fun E N' ad' g' => (E = eNS ∧ ¬ ((0 ≤ z ∧ z < ho) ∧ 0 ≤ z1 ∧ z1 ≤ 2)) ∧ N' = N ∧ ad' = ad ∧ g' = g) := by
  obtain ⟨ary1, bry1, cry1, dry1, ery1, fry1, gry11, hry1, ⟨acry1, iry1⟩, ⟨kcry1, jry1⟩, kry1, lry1, mry1, nry1, ory1, pry1⟩ := id hR
  have hay2 : zAt ad (0) (ad 0) := rfl
  have hay3 : zAt ad (1) (ad 1) := rfl
  have hay4 : zAt ad (2) (ad 2) := rfl
  have hay5 : zAt ad (4) (ad 4) := rfl
  have hay6 : zAt ad (11) (ad 11) := rfl
  have hay7 : zAt ad (447) (ad 447) := rfl
  have hay8 : zAt ad (883) (ad 883) := rfl
  have hay9 : zAt ad (890) (ad 890) := rfl
  have hay10 : zAt ad (900) (ad 900) := rfl
  have hay11 : zAt ad (910) (ad 910) := rfl
  have hay12 : zAt ad (917) (ad 917) := rfl
  have hay13 : zAt ad (919) (ad 919) := rfl
  have hay14 : zAt ad (4 + 1) (ad (4 + 1)) := rfl
  have hay15 : zAt ad (4 + 2) (ad (4 + 2)) := rfl
  have hay16 : zAt ad (4 + 3) (ad (4 + 3)) := rfl
  have hay17 : zAt ad (4 + 4) (ad (4 + 4)) := rfl
  have hay18 : zAt ad (4 + 5) (ad (4 + 5)) := rfl
  have hay19 : zAt ad (4 + 6) (ad (4 + 6)) := rfl
  obtain ⟨thcy20, zhcy20, ohcy20, rhcy20, hzhcy20, hthcy20, hwhcy20⟩ := id lry1
  obtain ⟨thcy21, zhcy21, ohcy21, rhcy21, hzhcy21, hthcy21, hwhcy21⟩ := id mry1
  obtain ⟨asy22, bsy22, csy22, dsy22, esy22, ⟨ptsy22, fsy22, gsy221⟩, hsy22, ⟨nusy22, nvsy22, nwsy22, isy22, jsy22, ksy22, lsy22, msy22, nsy22⟩, rfsy22, osy22⟩ := id iry1
  have hay23 : zAt ad (11 + 1) (ad (11 + 1)) := rfl
  have hay24 : zAt ad (11 + 11) (ad (11 + 11)) := rfl
  have hay25 : zAt ad (11 + 12) (ad (11 + 12)) := rfl
  have hay26 : zAt ad (11 + 13) (ad (11 + 13)) := rfl
  have hay27 : zAt ad (11 + 13 + 1) (ad (11 + 13 + 1)) := rfl
  have hay28 : zAt ad (11 + 13 + 2) (ad (11 + 13 + 2)) := rfl
  have hay29 : zAt ad (11 + 13 + 3) (ad (11 + 13 + 3)) := rfl
  have hay30 : zAt ad (11 + 17) (ad (11 + 17)) := rfl
  obtain ⟨uy31t, uy31z, uy31o, uy31r, uy31z4, uy31t5, uy311, ⟨uy31u, uy312, uy313⟩, uy314⟩ := id csy22
  have hay32 : zAt ad (11 + 1) (ad (11 + 1)) := rfl
  have hay33 : zAt ad (11 + 1 + 1) (ad (11 + 1 + 1)) := rfl
  refine z_ofX (by decide) (Nat.le_of_ble_eq_true rfl) ?_
  intro p e s m below meth c C hr hlk hxt
  refine z_lv (lv' := [(0, .ref (ad 0)), (1, .int (zI (z))), (2, .int (zI (z1)))]) [0, 1, 2] rfl ?_
  refine z_iload_n C 1 dX9_forecast_0 rfl ?_
  refine z_if_lt (tgt := 15) C dX9_forecast_1 (by decide) (by omega) (fun hby34 => ?_) (fun hby34 => ?_)
  · exact z_thrN (cls := eNS) (text := "no such hour") C hl0 (ix := 13) (rx := nsB) ns0 ns1 ns2 ns5 (by decide +kernel) q_904 q_24 (by decide +kernel) at_NS gd_NS dX9_forecast_15 dX9_forecast_18 dX9_forecast_19 dX9_forecast_21 dX9_forecast_24 hxt (by decide) (Nat.le_of_ble_eq_true rfl) (by decide) (by decide) hlk (by decide) (by decide) ⟨⟨rfl, by omega⟩, rfl, rfl, rfl⟩
  · refine z_iload_n C 1 dX9_forecast_4 rfl ?_
    refine z_aload_n C 0 dX9_forecast_5 rfl ?_
    refine z_get (v := .ref (ad 4)) C (lt_K hN (rfl : Nat.blt (0) 952 = true)) hay2 ary1 rfl inA_X9 4 (by decide) q_353 rfl rfl dX9_forecast_6 ?_
    refine z_get (v := .int (zI (ho))) C (lt_K hN (rfl : Nat.blt (4) 952 = true)) hay5 fry1.1 rfl inA_X5 1 (by decide) q_93 rfl rfl dX9_forecast_9 ?_
    refine z_icmp_lt (tgt := 25) C dX9_forecast_12 (by decide) (by omega) (by omega) (fun hby35 => ?_) (fun hby35 => ?_)
    · refine z_iload_n C 2 dX9_forecast_25 rfl ?_
      by_cases hsy36 : z1 ≠ 0 ∧ z1 ≠ 1 ∧ z1 ≠ 2
      · refine z_tout (tgt := 82) C dX9_forecast_26 (by omega) (by omega) (by decide) ?_
        exact z_thrN (cls := eNS) (text := "no such thing of an hour") C hl0 (ix := 13) (rx := nsB) ns0 ns1 ns2 ns5 (by decide +kernel) q_904 q_24 (by decide +kernel) at_NS gd_NS dX9_forecast_82 dX9_forecast_85 dX9_forecast_86 dX9_forecast_88 dX9_forecast_91 hxt (by decide) (Nat.le_of_ble_eq_true rfl) (by decide) (by decide) hlk (by decide) (by decide) ⟨⟨rfl, by omega⟩, rfl, rfl, rfl⟩
      · rcases (show z1 = 0 ∨ z1 = 1 ∨ z1 = 2 by omega) with rfl | rfl | rfl
        · refine z_tin (off := 26) (tgt := 52) C dX9_forecast_26 (by omega) (by omega) (by omega) rfl (by decide) ?_
          refine z_aload_n C 0 dX9_forecast_52 rfl ?_
          refine z_get (v := .ref (ad 4)) C (lt_K hN (rfl : Nat.blt (0) 952 = true)) hay2 ary1 rfl inA_X9 4 (by decide) q_353 rfl rfl dX9_forecast_53 ?_
          refine z_get (v := .ref (ad (4 + 3))) C (lt_K hN (rfl : Nat.blt (4) 952 = true)) hay5 fry1.1 rfl inA_X5 5 (by decide) q_105 rfl rfl dX9_forecast_56 ?_
          refine z_iload_n C 1 dX9_forecast_59 rfl ?_
          refine z_iald C (lt_K hN (rfl : Nat.blt (4 + 3) 952 = true)) hay16 fry1.2.2.2.1 ((z).toNat) (by omega) (by omega) (by decide) dX9_forecast_60 ?_
          obtain ⟨r9, e9, h9⟩ := zI_of (zI (ai ((z).toNat)))
          rw [e9]
          exact z_rX (z_iret C hr hlk dX9_forecast_61 (by decide) (by decide) ⟨r9, rfl, rfl, rfl, by omega, ⟨by omega, Or.inl ⟨rfl, (by first | rfl | exact e9)⟩⟩, rfl⟩)
        · refine z_tin (off := 36) (tgt := 62) C dX9_forecast_26 (by omega) (by omega) (by omega) rfl (by decide) ?_
          refine z_aload_n C 0 dX9_forecast_62 rfl ?_
          refine z_get (v := .ref (ad 4)) C (lt_K hN (rfl : Nat.blt (0) 952 = true)) hay2 ary1 rfl inA_X9 4 (by decide) q_353 rfl rfl dX9_forecast_63 ?_
          refine z_get (v := .ref (ad (4 + 4))) C (lt_K hN (rfl : Nat.blt (4) 952 = true)) hay5 fry1.1 rfl inA_X5 6 (by decide) q_108 rfl rfl dX9_forecast_66 ?_
          refine z_iload_n C 1 dX9_forecast_69 rfl ?_
          refine z_iald C (lt_K hN (rfl : Nat.blt (4 + 4) 952 = true)) hay17 fry1.2.2.2.2.1 ((z).toNat) (by omega) (by omega) (by decide) dX9_forecast_70 ?_
          obtain ⟨r9, e9, h9⟩ := zI_of (zI (fa ((z).toNat)))
          rw [e9]
          exact z_rX (z_iret C hr hlk dX9_forecast_71 (by decide) (by decide) ⟨r9, rfl, rfl, rfl, by omega, ⟨by omega, Or.inr (Or.inl ⟨rfl, (by first | rfl | exact e9)⟩)⟩, rfl⟩)
        · refine z_tin (off := 46) (tgt := 72) C dX9_forecast_26 (by omega) (by omega) (by omega) rfl (by decide) ?_
          refine z_aload_n C 0 dX9_forecast_72 rfl ?_
          refine z_get (v := .ref (ad 4)) C (lt_K hN (rfl : Nat.blt (0) 952 = true)) hay2 ary1 rfl inA_X9 4 (by decide) q_353 rfl rfl dX9_forecast_73 ?_
          refine z_get (v := .ref (ad (4 + 5))) C (lt_K hN (rfl : Nat.blt (4) 952 = true)) hay5 fry1.1 rfl inA_X5 7 (by decide) q_111 rfl rfl dX9_forecast_76 ?_
          refine z_iload_n C 1 dX9_forecast_79 rfl ?_
          refine z_iald C (lt_K hN (rfl : Nat.blt (4 + 5) 952 = true)) hay18 fry1.2.2.2.2.2.1 ((z).toNat) (by omega) (by omega) (by decide) dX9_forecast_80 ?_
          obtain ⟨r9, e9, h9⟩ := zI_of (zI (mu ((z).toNat)))
          rw [e9]
          exact z_rX (z_iret C hr hlk dX9_forecast_81 (by decide) (by decide) ⟨r9, rfl, rfl, rfl, by omega, ⟨by omega, Or.inr (Or.inr ⟨rfl, (by first | rfl | exact e9)⟩)⟩, rfl⟩)
    · exact z_thrN (cls := eNS) (text := "no such hour") C hl0 (ix := 13) (rx := nsB) ns0 ns1 ns2 ns5 (by decide +kernel) q_904 q_24 (by decide +kernel) at_NS gd_NS dX9_forecast_15 dX9_forecast_18 dX9_forecast_19 dX9_forecast_21 dX9_forecast_24 hxt (by decide) (Nat.le_of_ble_eq_true rfl) (by decide) (by decide) hlk (by decide) (by decide) ⟨⟨rfl, by omega⟩, rfl, rfl, rfl⟩

set_option maxRecDepth 100000 in
set_option maxHeartbeats 4000000 in
theorem c_X9_slope (l : Launch) (D : va_G) (A : Nat → Prop) (cs : Nat → ClassId) (tt : Nat) (N : Nat) (ad : Nat → Nat) (g : Nat → va_E) (hN : 952 ≤ N) (t fp im nz kz sl ho ua : Int) (st op ai fa mu tb tp : Nat → Int) (hR : okRec cs ad g N t fp im nz kz sl ho ua st op ai fa mu tb tp) (hl0 : l.stackTraces = false) (z : Int) (hz : -2147483648 ≤ z ∧ z ≤ 2147483647) (z1 : Int) (hz1 : -2147483648 ≤ z1 ∧ z1 ≤ 2147483647) : zMX l yX9_slope cX9_slope 5 (some .int) ({ frames := 12, cells := 6, slots := 36, locals := 720 } : Room) D A cs tt N ad g [.ref (ad 0), .int (zI (z)), .int (zI (z1))] (rI0 N ad fun r g' => (-2147483648 ≤ r ∧ r ≤ 2147483647) ∧ g = g') (fun E N' ad' g' => E = eNS ∧ N' = N ∧ ad' = ad ∧ g' = g) := by
  obtain ⟨ary1, bry1, cry1, dry1, ery1, fry1, gry11, hry1, ⟨acry1, iry1⟩, ⟨kcry1, jry1⟩, kry1, lry1, mry1, nry1, ory1, pry1⟩ := id hR
  have hay2 : zAt ad (0) (ad 0) := rfl
  have hay3 : zAt ad (1) (ad 1) := rfl
  have hay4 : zAt ad (2) (ad 2) := rfl
  have hay5 : zAt ad (4) (ad 4) := rfl
  have hay6 : zAt ad (11) (ad 11) := rfl
  have hay7 : zAt ad (447) (ad 447) := rfl
  have hay8 : zAt ad (883) (ad 883) := rfl
  have hay9 : zAt ad (890) (ad 890) := rfl
  have hay10 : zAt ad (900) (ad 900) := rfl
  have hay11 : zAt ad (910) (ad 910) := rfl
  have hay12 : zAt ad (917) (ad 917) := rfl
  have hay13 : zAt ad (919) (ad 919) := rfl
  have hay14 : zAt ad (4 + 1) (ad (4 + 1)) := rfl
  have hay15 : zAt ad (4 + 2) (ad (4 + 2)) := rfl
  have hay16 : zAt ad (4 + 3) (ad (4 + 3)) := rfl
  have hay17 : zAt ad (4 + 4) (ad (4 + 4)) := rfl
  have hay18 : zAt ad (4 + 5) (ad (4 + 5)) := rfl
  have hay19 : zAt ad (4 + 6) (ad (4 + 6)) := rfl
  obtain ⟨thcy20, zhcy20, ohcy20, rhcy20, hzhcy20, hthcy20, hwhcy20⟩ := id lry1
  obtain ⟨thcy21, zhcy21, ohcy21, rhcy21, hzhcy21, hthcy21, hwhcy21⟩ := id mry1
  obtain ⟨asy22, bsy22, csy22, dsy22, esy22, ⟨ptsy22, fsy22, gsy221⟩, hsy22, ⟨nusy22, nvsy22, nwsy22, isy22, jsy22, ksy22, lsy22, msy22, nsy22⟩, rfsy22, osy22⟩ := id iry1
  have hay23 : zAt ad (11 + 1) (ad (11 + 1)) := rfl
  have hay24 : zAt ad (11 + 11) (ad (11 + 11)) := rfl
  have hay25 : zAt ad (11 + 12) (ad (11 + 12)) := rfl
  have hay26 : zAt ad (11 + 13) (ad (11 + 13)) := rfl
  have hay27 : zAt ad (11 + 13 + 1) (ad (11 + 13 + 1)) := rfl
  have hay28 : zAt ad (11 + 13 + 2) (ad (11 + 13 + 2)) := rfl
  have hay29 : zAt ad (11 + 13 + 3) (ad (11 + 13 + 3)) := rfl
  have hay30 : zAt ad (11 + 17) (ad (11 + 17)) := rfl
  obtain ⟨uy31t, uy31z, uy31o, uy31r, uy31z4, uy31t5, uy311, ⟨uy31u, uy312, uy313⟩, uy314⟩ := id csy22
  have hay32 : zAt ad (11 + 1) (ad (11 + 1)) := rfl
  have hay33 : zAt ad (11 + 1 + 1) (ad (11 + 1 + 1)) := rfl
  refine z_ofX (by decide) (Nat.le_of_ble_eq_true rfl) ?_
  intro p e s m below meth c C hr hlk hxt
  refine z_lv (lv' := [(0, .ref (ad 0)), (1, .int (zI (z))), (2, .int (zI (z1)))]) [0, 1, 2] rfl ?_
  refine z_aload_n C 0 dX9_slope_0 rfl ?_
  refine z_iload_n C 1 dX9_slope_1 rfl ?_
  have hrecy35 : okRec cs ad g N (t) (fp) (im) (nz) (kz) (sl) (ho) (ua) (st) (op) (ai) (fa) (mu) (tb) (tp) := ⟨ary1, bry1, cry1, dry1, ery1, fry1, gry11, hry1, ⟨_, iry1⟩, ⟨_, jry1⟩, kry1, lry1, mry1, nry1, ory1, pry1⟩
  refine z_cVX (As := [.int (zI (z))]) (rest := []) (ci := 11) C (c_X9_packOf l D A cs tt N ad _ hN _ _ _ _ _ _ _ _ _ _ _ _ _ _ _ hrecy35 hl0 (z) (by omega)) (lt_K hN (rfl : Nat.blt (0) 952 = true)) hay2 ary1 rfl rfl mv_yX9_packOf q_936 hd_yX9_packOf (by decide) (Nat.le_of_ble_eq_true rfl) (by decide) dX9_slope_2 rfl (fun E N' ad' g' h => by obtain ⟨rfl, rfl, rfl, rfl⟩ := h; exact z_uout C hxt hlk (by decide) (by decide) ⟨rfl, rfl, rfl, rfl⟩) (kR0 fun avy34 gvy34 hvy34 => ?_)
  obtain ⟨hvy34, rfl, rfl⟩ := hvy34
  have hay36 : zAt ad (11 + 1 + 2 + 2 * (z).toNat) (ad (11 + 1 + 2 + 2 * (z).toNat)) := rfl
  have hay37 : zAt ad (11 + 1 + 2 + 2 * (z).toNat + 1) (ad (11 + 1 + 2 + 2 * (z).toNat + 1)) := rfl
  have hpy38 := uy314 (z).toNat (by omega)
  have hqy39 := uy31z4 (z).toNat (by omega)
  refine z_astore_n (lv' := [(3, .ref (ad (11 + 1 + 2 + 2 * (z).toNat))), (0, .ref (ad 0)), (1, .int (zI (z))), (2, .int (zI (z1)))]) C dX9_slope_5 rfl (by decide) rfl ?_
  refine z_aload_n C 1 dX9_slope_6 rfl ?_
  refine z_get (v := .ref (ad 4)) C (lt_K hN (rfl : Nat.blt (0) 952 = true)) hay2 ary1 rfl inA_X9 4 (by decide) q_353 rfl rfl dX9_slope_7 ?_
  refine z_get (v := .ref (ad (4 + 1))) C (lt_K hN (rfl : Nat.blt (4) 952 = true)) hay5 fry1.1 rfl inA_X5 3 (by decide) q_98 rfl rfl dX9_slope_10 ?_
  refine z_iload_n C 2 dX9_slope_13 rfl ?_
  refine z_iald C (lt_K hN (rfl : Nat.blt (4 + 1) 952 = true)) hay14 fry1.2.1 ((z).toNat) (by omega) (by omega) (by decide) dX9_slope_14 ?_
  refine z_istore (lv' := [(4, .int (zI (st ((z).toNat)))), (3, .ref (ad (11 + 1 + 2 + 2 * (z).toNat))), (0, .ref (ad 0)), (1, .int (zI (z))), (2, .int (zI (z1)))]) C dX9_slope_15 (by decide) rfl ?_
  refine z_iload_n C 4 dX9_slope_17 rfl ?_
  by_cases hsy40 : z1 ≠ 0 ∧ z1 ≠ 1 ∧ z1 ≠ 2 ∧ z1 ≠ 3 ∧ z1 ≠ 4 ∧ z1 ≠ 5 ∧ z1 ≠ 6 ∧ z1 ≠ 7 ∧ z1 ≠ 8 ∧ z1 ≠ 9
  · refine z_tout (tgt := 159) C dX9_slope_18 (by omega) (by omega) (by decide) ?_
    exact z_thrN (cls := eNS) (text := "no such thing of a slope") C hl0 (ix := 13) (rx := nsB) ns0 ns1 ns2 ns5 (by decide +kernel) q_904 q_24 (by decide +kernel) at_NS gd_NS dX9_slope_159 dX9_slope_162 dX9_slope_163 dX9_slope_165 dX9_slope_168 hxt (by decide) (Nat.le_of_ble_eq_true rfl) (by decide) (by decide) hlk (by decide) (by decide) ⟨rfl, rfl, rfl, rfl⟩
  · rcases (show z1 = 0 ∨ z1 = 1 ∨ z1 = 2 ∨ z1 = 3 ∨ z1 = 4 ∨ z1 = 5 ∨ z1 = 6 ∨ z1 = 7 ∨ z1 = 8 ∨ z1 = 9 by omega) with rfl | rfl | rfl | rfl | rfl | rfl | rfl | rfl | rfl | rfl
    · refine z_tin (off := 54) (tgt := 72) C dX9_slope_18 (by omega) (by omega) (by omega) rfl (by decide) ?_
      refine z_iload C 0 dX9_slope_72 rfl ?_
      obtain ⟨xy41, exy42, hxy43⟩ := zI_of (zI (st ((z).toNat)))
      rw [exy42]
      exact z_rX (z_iret C hr hlk dX9_slope_74 (by decide) (by decide) ⟨xy41, rfl, rfl, rfl, by omega, rfl⟩)
    · refine z_tin (off := 57) (tgt := 75) C dX9_slope_18 (by omega) (by omega) (by omega) rfl (by decide) ?_
      refine z_aload_n C 2 dX9_slope_75 rfl ?_
      refine z_get (v := .ref (ad 4)) C (lt_K hN (rfl : Nat.blt (0) 952 = true)) hay2 ary1 rfl inA_X9 4 (by decide) q_353 rfl rfl dX9_slope_76 ?_
      refine z_get (v := .ref (ad (4 + 2))) C (lt_K hN (rfl : Nat.blt (4) 952 = true)) hay5 fry1.1 rfl inA_X5 4 (by decide) q_102 rfl rfl dX9_slope_79 ?_
      refine z_iload_n C 3 dX9_slope_82 rfl ?_
      refine z_iald C (lt_K hN (rfl : Nat.blt (4 + 2) 952 = true)) hay15 fry1.2.2.1 ((z).toNat) (by omega) (by omega) (by decide) dX9_slope_83 ?_
      obtain ⟨xy44, exy45, hxy46⟩ := zI_of (zI (op ((z).toNat)))
      rw [exy45]
      exact z_rX (z_iret C hr hlk dX9_slope_84 (by decide) (by decide) ⟨xy44, rfl, rfl, rfl, by omega, rfl⟩)
    · refine z_tin (off := 67) (tgt := 85) C dX9_slope_18 (by omega) (by omega) (by omega) rfl (by decide) ?_
      refine z_aload_n C 1 dX9_slope_85 rfl ?_
      refine z_get (v := .int (zI (uy31z (z).toNat))) C (by omega) hay36 hpy38.1 rfl inA_X3 0 (by decide) q_158 rfl rfl dX9_slope_86 ?_
      exact z_rX (z_iret C hr hlk dX9_slope_89 (by decide) (by decide) ⟨uy31z (z).toNat, rfl, rfl, rfl, by omega, rfl⟩)
    · refine z_tin (off := 72) (tgt := 90) C dX9_slope_18 (by omega) (by omega) (by omega) rfl (by decide) ?_
      refine z_aload_n C 1 dX9_slope_90 rfl ?_
      refine z_bipush (z := 36) C dX9_slope_91 (by decide) ?_
      refine z_cV (As := [.int (zI (36))]) (rest := []) (ci := 5) C (c_X3_sum l D A cs tt N ad _ (11 + 1 + 2 + 2 * (z).toNat) (by omega) _ _ _ (by omega) ⟨hpy38.1, hpy38.2⟩  (36) (by omega)) (by omega) hay36 hpy38.1 rfl rfl mv_yX3_sum q_945 hd_yX3_sum (by decide) (Nat.le_of_ble_eq_true rfl) (by decide) dX9_slope_93 rfl (kI0 fun vy47 gvy47 hvy47 => ?_)
      obtain ⟨hvy47, rfl⟩ := hvy47
      exact z_rX (z_iret C hr hlk dX9_slope_96 (by decide) (by decide) ⟨vy47, rfl, rfl, rfl, by omega, rfl⟩)
    · refine z_tin (off := 79) (tgt := 97) C dX9_slope_18 (by omega) (by omega) (by omega) rfl (by decide) ?_
      refine z_aload_n C 1 dX9_slope_97 rfl ?_
      refine z_bipush (z := 12) C dX9_slope_98 (by decide) ?_
      refine z_cV (As := [.int (zI (12))]) (rest := []) (ci := 5) C (c_X3_sum l D A cs tt N ad _ (11 + 1 + 2 + 2 * (z).toNat) (by omega) _ _ _ (by omega) ⟨hpy38.1, hpy38.2⟩  (12) (by omega)) (by omega) hay36 hpy38.1 rfl rfl mv_yX3_sum q_945 hd_yX3_sum (by decide) (Nat.le_of_ble_eq_true rfl) (by decide) dX9_slope_100 rfl (kI0 fun vy48 gvy48 hvy48 => ?_)
      obtain ⟨hvy48, rfl⟩ := hvy48
      exact z_rX (z_iret C hr hlk dX9_slope_103 (by decide) (by decide) ⟨vy48, rfl, rfl, rfl, by omega, rfl⟩)
    · refine z_tin (off := 86) (tgt := 104) C dX9_slope_18 (by omega) (by omega) (by omega) rfl (by decide) ?_
      refine z_aload_n C 1 dX9_slope_104 rfl ?_
      refine z_bipush (z := 24) C dX9_slope_105 (by decide) ?_
      refine z_cV (As := [.int (zI (24))]) (rest := []) (ci := 5) C (c_X3_sum l D A cs tt N ad _ (11 + 1 + 2 + 2 * (z).toNat) (by omega) _ _ _ (by omega) ⟨hpy38.1, hpy38.2⟩  (24) (by omega)) (by omega) hay36 hpy38.1 rfl rfl mv_yX3_sum q_945 hd_yX3_sum (by decide) (Nat.le_of_ble_eq_true rfl) (by decide) dX9_slope_107 rfl (kI0 fun vy49 gvy49 hvy49 => ?_)
      obtain ⟨hvy49, rfl⟩ := hvy49
      exact z_rX (z_iret C hr hlk dX9_slope_110 (by decide) (by decide) ⟨vy49, rfl, rfl, rfl, by omega, rfl⟩)
    · refine z_tin (off := 93) (tgt := 111) C dX9_slope_18 (by omega) (by omega) (by omega) rfl (by decide) ?_
      refine z_aload_n C 1 dX9_slope_111 rfl ?_
      refine z_get (v := .int (zI (uy31o (z).toNat))) C (by omega) hay36 hpy38.1 rfl inA_X3 1 (by decide) q_161 rfl rfl dX9_slope_112 ?_
      obtain ⟨xy50, exy51, hxy52⟩ := zI_of (zI (uy31o (z).toNat))
      rw [exy51]
      exact z_rX (z_iret C hr hlk dX9_slope_115 (by decide) (by decide) ⟨xy50, rfl, rfl, rfl, by omega, rfl⟩)
    · refine z_tin (off := 98) (tgt := 116) C dX9_slope_18 (by omega) (by omega) (by omega) rfl (by decide) ?_
      refine z_aload_n C 1 dX9_slope_116 rfl ?_
      refine z_iload C 0 dX9_slope_117 rfl ?_
      refine z_aload_n C 2 dX9_slope_119 rfl ?_
      refine z_get (v := .ref (ad 4)) C (lt_K hN (rfl : Nat.blt (0) 952 = true)) hay2 ary1 rfl inA_X9 4 (by decide) q_353 rfl rfl dX9_slope_120 ?_
      obtain ⟨xy53, exy54, hxy55⟩ := zI_of (zI (st ((z).toNat)))
      rw [exy54]
      refine z_cV (As := [.int (zI (xy53)), .ref (ad 4)]) (rest := []) (ci := 5) C (c_X3_weakest l D A cs tt N ad _ (11 + 1 + 2 + 2 * (z).toNat) (by omega) _ _ _ (by omega) ⟨hpy38.1, hpy38.2⟩ (4) (by omega) _ _ _ _ _ _ _ _ _ ⟨fry1.1, fry1.2.1, fry1.2.2.1, fry1.2.2.2.1, fry1.2.2.2.2.1, fry1.2.2.2.2.2.1, fry1.2.2.2.2.2.2⟩ (xy53) (by omega)) (by omega) hay36 hpy38.1 rfl rfl mv_yX3_weakest q_946 hd_yX3_weakest (by decide) (Nat.le_of_ble_eq_true rfl) (by decide) dX9_slope_123 rfl (kI0 fun vy56 gvy56 hvy56 => ?_)
      obtain ⟨hvy56, rfl⟩ := hvy56
      exact z_rX (z_iret C hr hlk dX9_slope_126 (by decide) (by decide) ⟨vy56, rfl, rfl, rfl, by omega, rfl⟩)
    · refine z_tin (off := 109) (tgt := 127) C dX9_slope_18 (by omega) (by omega) (by omega) rfl (by decide) ?_
      refine z_aload_n C 1 dX9_slope_127 rfl ?_
      refine z_iload C 0 dX9_slope_128 rfl ?_
      refine z_aload_n C 2 dX9_slope_130 rfl ?_
      refine z_get (v := .ref (ad 4)) C (lt_K hN (rfl : Nat.blt (0) 952 = true)) hay2 ary1 rfl inA_X9 4 (by decide) q_353 rfl rfl dX9_slope_131 ?_
      obtain ⟨xy57, exy58, hxy59⟩ := zI_of (zI (st ((z).toNat)))
      rw [exy58]
      refine z_cV (As := [.int (zI (xy57)), .ref (ad 4)]) (rest := []) (ci := 5) C (c_X3_leastRatio l D A cs tt N ad _ (11 + 1 + 2 + 2 * (z).toNat) (by omega) _ _ _ (by omega) ⟨hpy38.1, hpy38.2⟩ (4) (by omega) _ _ _ _ _ _ _ _ _ ⟨fry1.1, fry1.2.1, fry1.2.2.1, fry1.2.2.2.1, fry1.2.2.2.2.1, fry1.2.2.2.2.2.1, fry1.2.2.2.2.2.2⟩ (xy57) (by omega)) (by omega) hay36 hpy38.1 rfl rfl mv_yX3_leastRatio q_898 hd_yX3_leastRatio (by decide) (Nat.le_of_ble_eq_true rfl) (by decide) dX9_slope_134 rfl (kI0 fun vy60 gvy60 hvy60 => ?_)
      obtain ⟨hvy60, rfl⟩ := hvy60
      exact z_rX (z_iret C hr hlk dX9_slope_137 (by decide) (by decide) ⟨vy60, rfl, rfl, rfl, by omega, rfl⟩)
    · refine z_tin (off := 120) (tgt := 138) C dX9_slope_18 (by omega) (by omega) (by omega) rfl (by decide) ?_
      refine z_aload_n C 1 dX9_slope_138 rfl ?_
      refine z_iload C 0 dX9_slope_139 rfl ?_
      refine z_iconst (z := 0) C dX9_slope_141 rfl ?_
      refine z_aload_n C 2 dX9_slope_142 rfl ?_
      refine z_get (v := .ref (ad 4)) C (lt_K hN (rfl : Nat.blt (0) 952 = true)) hay2 ary1 rfl inA_X9 4 (by decide) q_353 rfl rfl dX9_slope_143 ?_
      obtain ⟨xy61, exy62, hxy63⟩ := zI_of (zI (st ((z).toNat)))
      rw [exy62]
      refine z_cV (As := [.int (zI (xy61)), .int (zI (0)), .ref (ad 4)]) (rest := []) (ci := 5) C (c_X3_lowestUnstable l D A cs tt N ad _ (11 + 1 + 2 + 2 * (z).toNat) (by omega) _ _ _ (by omega) ⟨hpy38.1, hpy38.2⟩ (4) (by omega) _ _ _ _ _ _ _ _ _ ⟨fry1.1, fry1.2.1, fry1.2.2.1, fry1.2.2.2.1, fry1.2.2.2.2.1, fry1.2.2.2.2.2.1, fry1.2.2.2.2.2.2⟩ (xy61) (by omega) (0) (by omega)) (by omega) hay36 hpy38.1 rfl rfl mv_yX3_lowestUnstable q_564 hd_yX3_lowestUnstable (by decide) (Nat.le_of_ble_eq_true rfl) (by decide) dX9_slope_146 rfl (kI0 fun vy64 gvy64 hvy64 => ?_)
      obtain ⟨hvy64, rfl⟩ := hvy64
      refine z_iconst (z := -1) C dX9_slope_149 rfl ?_
      refine z_icmp_eq (tgt := 157) C dX9_slope_150 (by decide) (by omega) (by omega) (fun hby65 => ?_) (fun hby65 => ?_)
      · refine z_iconst (z := 0) C dX9_slope_157 rfl ?_
        exact z_rX (z_iret C hr hlk dX9_slope_158 (by decide) (by decide) ⟨0, rfl, rfl, rfl, by omega, rfl⟩)
      · refine z_iconst (z := 1) C dX9_slope_153 rfl ?_
        refine z_goto (tgt := 158) C dX9_slope_154 (by decide) ?_
        exact z_rX (z_iret C hr hlk dX9_slope_158 (by decide) (by decide) ⟨1, rfl, rfl, rfl, by omega, rfl⟩)

set_option maxRecDepth 100000 in
set_option maxHeartbeats 4000000 in
theorem c_X9_layer (l : Launch) (D : va_G) (A : Nat → Prop) (cs : Nat → ClassId) (tt : Nat) (N : Nat) (ad : Nat → Nat) (g : Nat → va_E) (hN : 952 ≤ N) (t fp im nz kz sl ho ua : Int) (st op ai fa mu tb tp : Nat → Int) (hR : okRec cs ad g N t fp im nz kz sl ho ua st op ai fa mu tb tp) (hl0 : l.stackTraces = false) (z : Int) (hz : -2147483648 ≤ z ∧ z ≤ 2147483647) (z1 : Int) (hz1 : -2147483648 ≤ z1 ∧ z1 ≤ 2147483647) (z2 : Int) (hz2 : -2147483648 ≤ z2 ∧ z2 ≤ 2147483647) : zMX l yX9_layer cX9_layer 6 (some .int) ({ frames := 12, cells := 6, slots := 36, locals := 720 } : Room) D A cs tt N ad g [.ref (ad 0), .int (zI (z)), .int (zI (z1)), .int (zI (z2))] (rI0 N ad fun r g' => (-2147483648 ≤ r ∧ r ≤ 2147483647) ∧ g = g') (fun E N' ad' g' => E = eNS ∧ N' = N ∧ ad' = ad ∧ g' = g) := by
  obtain ⟨ary1, bry1, cry1, dry1, ery1, fry1, gry11, hry1, ⟨acry1, iry1⟩, ⟨kcry1, jry1⟩, kry1, lry1, mry1, nry1, ory1, pry1⟩ := id hR
  have hay2 : zAt ad (0) (ad 0) := rfl
  have hay3 : zAt ad (1) (ad 1) := rfl
  have hay4 : zAt ad (2) (ad 2) := rfl
  have hay5 : zAt ad (4) (ad 4) := rfl
  have hay6 : zAt ad (11) (ad 11) := rfl
  have hay7 : zAt ad (447) (ad 447) := rfl
  have hay8 : zAt ad (883) (ad 883) := rfl
  have hay9 : zAt ad (890) (ad 890) := rfl
  have hay10 : zAt ad (900) (ad 900) := rfl
  have hay11 : zAt ad (910) (ad 910) := rfl
  have hay12 : zAt ad (917) (ad 917) := rfl
  have hay13 : zAt ad (919) (ad 919) := rfl
  have hay14 : zAt ad (4 + 1) (ad (4 + 1)) := rfl
  have hay15 : zAt ad (4 + 2) (ad (4 + 2)) := rfl
  have hay16 : zAt ad (4 + 3) (ad (4 + 3)) := rfl
  have hay17 : zAt ad (4 + 4) (ad (4 + 4)) := rfl
  have hay18 : zAt ad (4 + 5) (ad (4 + 5)) := rfl
  have hay19 : zAt ad (4 + 6) (ad (4 + 6)) := rfl
  obtain ⟨thcy20, zhcy20, ohcy20, rhcy20, hzhcy20, hthcy20, hwhcy20⟩ := id lry1
  obtain ⟨thcy21, zhcy21, ohcy21, rhcy21, hzhcy21, hthcy21, hwhcy21⟩ := id mry1
  obtain ⟨asy22, bsy22, csy22, dsy22, esy22, ⟨ptsy22, fsy22, gsy221⟩, hsy22, ⟨nusy22, nvsy22, nwsy22, isy22, jsy22, ksy22, lsy22, msy22, nsy22⟩, rfsy22, osy22⟩ := id iry1
  have hay23 : zAt ad (11 + 1) (ad (11 + 1)) := rfl
  have hay24 : zAt ad (11 + 11) (ad (11 + 11)) := rfl
  have hay25 : zAt ad (11 + 12) (ad (11 + 12)) := rfl
  have hay26 : zAt ad (11 + 13) (ad (11 + 13)) := rfl
  have hay27 : zAt ad (11 + 13 + 1) (ad (11 + 13 + 1)) := rfl
  have hay28 : zAt ad (11 + 13 + 2) (ad (11 + 13 + 2)) := rfl
  have hay29 : zAt ad (11 + 13 + 3) (ad (11 + 13 + 3)) := rfl
  have hay30 : zAt ad (11 + 17) (ad (11 + 17)) := rfl
  obtain ⟨uy31t, uy31z, uy31o, uy31r, uy31z4, uy31t5, uy311, ⟨uy31u, uy312, uy313⟩, uy314⟩ := id csy22
  have hay32 : zAt ad (11 + 1) (ad (11 + 1)) := rfl
  have hay33 : zAt ad (11 + 1 + 1) (ad (11 + 1 + 1)) := rfl
  refine z_ofX (by decide) (Nat.le_of_ble_eq_true rfl) ?_
  intro p e s m below meth c C hr hlk hxt
  refine z_lv (lv' := [(0, .ref (ad 0)), (1, .int (zI (z))), (2, .int (zI (z1))), (3, .int (zI (z2)))]) [0, 1, 2, 3] rfl ?_
  refine z_aload_n C 0 dX9_layer_0 rfl ?_
  refine z_iload_n C 1 dX9_layer_1 rfl ?_
  have hrecy35 : okRec cs ad g N (t) (fp) (im) (nz) (kz) (sl) (ho) (ua) (st) (op) (ai) (fa) (mu) (tb) (tp) := ⟨ary1, bry1, cry1, dry1, ery1, fry1, gry11, hry1, ⟨_, iry1⟩, ⟨_, jry1⟩, kry1, lry1, mry1, nry1, ory1, pry1⟩
  refine z_cVX (As := [.int (zI (z))]) (rest := []) (ci := 11) C (c_X9_packOf l D A cs tt N ad _ hN _ _ _ _ _ _ _ _ _ _ _ _ _ _ _ hrecy35 hl0 (z) (by omega)) (lt_K hN (rfl : Nat.blt (0) 952 = true)) hay2 ary1 rfl rfl mv_yX9_packOf q_936 hd_yX9_packOf (by decide) (Nat.le_of_ble_eq_true rfl) (by decide) dX9_layer_2 rfl (fun E N' ad' g' h => by obtain ⟨rfl, rfl, rfl, rfl⟩ := h; exact z_uout C hxt hlk (by decide) (by decide) ⟨rfl, rfl, rfl, rfl⟩) (kR0 fun avy34 gvy34 hvy34 => ?_)
  obtain ⟨hvy34, rfl, rfl⟩ := hvy34
  have hay36 : zAt ad (11 + 1 + 2 + 2 * (z).toNat) (ad (11 + 1 + 2 + 2 * (z).toNat)) := rfl
  have hay37 : zAt ad (11 + 1 + 2 + 2 * (z).toNat + 1) (ad (11 + 1 + 2 + 2 * (z).toNat + 1)) := rfl
  have hpy38 := uy314 (z).toNat (by omega)
  have hqy39 := uy31z4 (z).toNat (by omega)
  refine z_astore (lv' := [(4, .ref (ad (11 + 1 + 2 + 2 * (z).toNat))), (0, .ref (ad 0)), (1, .int (zI (z))), (2, .int (zI (z1))), (3, .int (zI (z2)))]) C dX9_layer_5 (by decide) rfl ?_
  refine z_aload_n C 1 dX9_layer_7 rfl ?_
  refine z_aload C 0 dX9_layer_8 rfl ?_
  refine z_iload_n C 3 dX9_layer_10 rfl ?_
  refine z_cVX (As := [.ref (ad (11 + 1 + 2 + 2 * (z).toNat)), .int (zI (z1))]) (rest := []) (ci := 11) C (c_X9_needLayer l D A cs tt N ad _ (11 + 1 + 2 + 2 * (z).toNat) (by omega) _ _ _ (by omega) ⟨hpy38.1, hpy38.2⟩ hl0 _ (z1) (by omega)) (lt_K hN (rfl : Nat.blt (0) 952 = true)) hay2 ary1 rfl rfl mv_yX9_needLayer q_955 hd_yX9_needLayer (by decide) (Nat.le_of_ble_eq_true rfl) (by decide) dX9_layer_11 rfl (fun E N' ad' g' h => by obtain ⟨rfl, rfl, rfl, rfl⟩ := h; exact z_uout C hxt hlk (by decide) (by decide) ⟨rfl, rfl, rfl, rfl⟩) (kV0 fun gvy40 hvy40 => ?_)
  obtain ⟨hvy40, rfl⟩ := hvy40
  refine z_aload_n C 1 dX9_layer_14 rfl ?_
  refine z_get (v := .ref (ad 4)) C (lt_K hN (rfl : Nat.blt (0) 952 = true)) hay2 ary1 rfl inA_X9 4 (by decide) q_353 rfl rfl dX9_layer_15 ?_
  refine z_get (v := .ref (ad (4 + 1))) C (lt_K hN (rfl : Nat.blt (4) 952 = true)) hay5 fry1.1 rfl inA_X5 3 (by decide) q_98 rfl rfl dX9_layer_18 ?_
  refine z_iload_n C 2 dX9_layer_21 rfl ?_
  refine z_iald C (lt_K hN (rfl : Nat.blt (4 + 1) 952 = true)) hay14 fry1.2.1 ((z).toNat) (by omega) (by omega) (by decide) dX9_layer_22 ?_
  refine z_istore (lv' := [(5, .int (zI (st ((z).toNat)))), (4, .ref (ad (11 + 1 + 2 + 2 * (z).toNat))), (0, .ref (ad 0)), (1, .int (zI (z))), (2, .int (zI (z1))), (3, .int (zI (z2)))]) C dX9_layer_23 (by decide) rfl ?_
  refine z_iload_n C 5 dX9_layer_25 rfl ?_
  by_cases hsy41 : z2 ≠ 0 ∧ z2 ≠ 1 ∧ z2 ≠ 2 ∧ z2 ≠ 3 ∧ z2 ≠ 4 ∧ z2 ≠ 5 ∧ z2 ≠ 6 ∧ z2 ≠ 7 ∧ z2 ≠ 8 ∧ z2 ≠ 9 ∧ z2 ≠ 10 ∧ z2 ≠ 11
  · refine z_tout (tgt := 249) C dX9_layer_26 (by omega) (by omega) (by decide) ?_
    exact z_thrN (cls := eNS) (text := "no such thing of a layer") C hl0 (ix := 13) (rx := nsB) ns0 ns1 ns2 ns5 (by decide +kernel) q_904 q_24 (by decide +kernel) at_NS gd_NS dX9_layer_249 dX9_layer_252 dX9_layer_253 dX9_layer_255 dX9_layer_258 hxt (by decide) (Nat.le_of_ble_eq_true rfl) (by decide) (by decide) hlk (by decide) (by decide) ⟨rfl, rfl, rfl, rfl⟩
  · rcases (show z2 = 0 ∨ z2 = 1 ∨ z2 = 2 ∨ z2 = 3 ∨ z2 = 4 ∨ z2 = 5 ∨ z2 = 6 ∨ z2 = 7 ∨ z2 = 8 ∨ z2 = 9 ∨ z2 = 10 ∨ z2 = 11 by omega) with rfl | rfl | rfl | rfl | rfl | rfl | rfl | rfl | rfl | rfl | rfl | rfl
    · refine z_tin (off := 62) (tgt := 88) C dX9_layer_26 (by omega) (by omega) (by omega) rfl (by decide) ?_
      refine z_aload C 1 dX9_layer_88 rfl ?_
      refine z_get (v := .ref (ad (11 + 1 + 2 + 2 * (z).toNat + 1))) C (by omega) hay36 hpy38.1 rfl inA_X3 2 (by decide) q_164 rfl rfl dX9_layer_90 ?_
      refine z_iconst (z := 0) C dX9_layer_93 rfl ?_
      refine z_iload_n C 4 dX9_layer_94 rfl ?_
      refine z_iadd C dX9_layer_95 ?_
      refine z_iald C (by omega) hay37 hpy38.2 ((0 + z1).toNat) (by omega) (by omega) (by decide) dX9_layer_96 ?_
      obtain ⟨xy42, exy43, hxy44⟩ := zI_of (zI ((uy31r (z).toNat) ((0 + z1).toNat)))
      rw [exy43]
      exact z_rX (z_iret C hr hlk dX9_layer_97 (by decide) (by decide) ⟨xy42, rfl, rfl, rfl, by omega, rfl⟩)
    · refine z_tin (off := 72) (tgt := 98) C dX9_layer_26 (by omega) (by omega) (by omega) rfl (by decide) ?_
      refine z_aload C 1 dX9_layer_98 rfl ?_
      refine z_get (v := .ref (ad (11 + 1 + 2 + 2 * (z).toNat + 1))) C (by omega) hay36 hpy38.1 rfl inA_X3 2 (by decide) q_164 rfl rfl dX9_layer_100 ?_
      refine z_bipush (z := 12) C dX9_layer_103 (by decide) ?_
      refine z_iload_n C 4 dX9_layer_105 rfl ?_
      refine z_iadd C dX9_layer_106 ?_
      refine z_iald C (by omega) hay37 hpy38.2 ((12 + z1).toNat) (by omega) (by omega) (by decide) dX9_layer_107 ?_
      obtain ⟨xy45, exy46, hxy47⟩ := zI_of (zI ((uy31r (z).toNat) ((12 + z1).toNat)))
      rw [exy46]
      exact z_rX (z_iret C hr hlk dX9_layer_108 (by decide) (by decide) ⟨xy45, rfl, rfl, rfl, by omega, rfl⟩)
    · refine z_tin (off := 83) (tgt := 109) C dX9_layer_26 (by omega) (by omega) (by omega) rfl (by decide) ?_
      refine z_aload C 1 dX9_layer_109 rfl ?_
      refine z_get (v := .ref (ad (11 + 1 + 2 + 2 * (z).toNat + 1))) C (by omega) hay36 hpy38.1 rfl inA_X3 2 (by decide) q_164 rfl rfl dX9_layer_111 ?_
      refine z_bipush (z := 24) C dX9_layer_114 (by decide) ?_
      refine z_iload_n C 4 dX9_layer_116 rfl ?_
      refine z_iadd C dX9_layer_117 ?_
      refine z_iald C (by omega) hay37 hpy38.2 ((24 + z1).toNat) (by omega) (by omega) (by decide) dX9_layer_118 ?_
      obtain ⟨xy48, exy49, hxy50⟩ := zI_of (zI ((uy31r (z).toNat) ((24 + z1).toNat)))
      rw [exy49]
      exact z_rX (z_iret C hr hlk dX9_layer_119 (by decide) (by decide) ⟨xy48, rfl, rfl, rfl, by omega, rfl⟩)
    · refine z_tin (off := 94) (tgt := 120) C dX9_layer_26 (by omega) (by omega) (by omega) rfl (by decide) ?_
      refine z_aload C 1 dX9_layer_120 rfl ?_
      refine z_get (v := .ref (ad (11 + 1 + 2 + 2 * (z).toNat + 1))) C (by omega) hay36 hpy38.1 rfl inA_X3 2 (by decide) q_164 rfl rfl dX9_layer_122 ?_
      refine z_bipush (z := 36) C dX9_layer_125 (by decide) ?_
      refine z_iload_n C 4 dX9_layer_127 rfl ?_
      refine z_iadd C dX9_layer_128 ?_
      refine z_iald C (by omega) hay37 hpy38.2 ((36 + z1).toNat) (by omega) (by omega) (by decide) dX9_layer_129 ?_
      obtain ⟨xy51, exy52, hxy53⟩ := zI_of (zI ((uy31r (z).toNat) ((36 + z1).toNat)))
      rw [exy52]
      exact z_rX (z_iret C hr hlk dX9_layer_130 (by decide) (by decide) ⟨xy51, rfl, rfl, rfl, by omega, rfl⟩)
    · refine z_tin (off := 105) (tgt := 131) C dX9_layer_26 (by omega) (by omega) (by omega) rfl (by decide) ?_
      refine z_aload C 1 dX9_layer_131 rfl ?_
      refine z_get (v := .ref (ad (11 + 1 + 2 + 2 * (z).toNat + 1))) C (by omega) hay36 hpy38.1 rfl inA_X3 2 (by decide) q_164 rfl rfl dX9_layer_133 ?_
      refine z_bipush (z := 48) C dX9_layer_136 (by decide) ?_
      refine z_iload_n C 4 dX9_layer_138 rfl ?_
      refine z_iadd C dX9_layer_139 ?_
      refine z_iald C (by omega) hay37 hpy38.2 ((48 + z1).toNat) (by omega) (by omega) (by decide) dX9_layer_140 ?_
      obtain ⟨xy54, exy55, hxy56⟩ := zI_of (zI ((uy31r (z).toNat) ((48 + z1).toNat)))
      rw [exy55]
      exact z_rX (z_iret C hr hlk dX9_layer_141 (by decide) (by decide) ⟨xy54, rfl, rfl, rfl, by omega, rfl⟩)
    · refine z_tin (off := 116) (tgt := 142) C dX9_layer_26 (by omega) (by omega) (by omega) rfl (by decide) ?_
      refine z_aload C 1 dX9_layer_142 rfl ?_
      refine z_get (v := .ref (ad (11 + 1 + 2 + 2 * (z).toNat + 1))) C (by omega) hay36 hpy38.1 rfl inA_X3 2 (by decide) q_164 rfl rfl dX9_layer_144 ?_
      refine z_bipush (z := 60) C dX9_layer_147 (by decide) ?_
      refine z_iload_n C 4 dX9_layer_149 rfl ?_
      refine z_iadd C dX9_layer_150 ?_
      refine z_iald C (by omega) hay37 hpy38.2 ((60 + z1).toNat) (by omega) (by omega) (by decide) dX9_layer_151 ?_
      obtain ⟨xy57, exy58, hxy59⟩ := zI_of (zI ((uy31r (z).toNat) ((60 + z1).toNat)))
      rw [exy58]
      exact z_rX (z_iret C hr hlk dX9_layer_152 (by decide) (by decide) ⟨xy57, rfl, rfl, rfl, by omega, rfl⟩)
    · refine z_tin (off := 127) (tgt := 153) C dX9_layer_26 (by omega) (by omega) (by omega) rfl (by decide) ?_
      refine z_aload C 1 dX9_layer_153 rfl ?_
      refine z_get (v := .ref (ad (11 + 1 + 2 + 2 * (z).toNat + 1))) C (by omega) hay36 hpy38.1 rfl inA_X3 2 (by decide) q_164 rfl rfl dX9_layer_155 ?_
      refine z_bipush (z := 72) C dX9_layer_158 (by decide) ?_
      refine z_iload_n C 4 dX9_layer_160 rfl ?_
      refine z_iadd C dX9_layer_161 ?_
      refine z_iald C (by omega) hay37 hpy38.2 ((72 + z1).toNat) (by omega) (by omega) (by decide) dX9_layer_162 ?_
      obtain ⟨xy60, exy61, hxy62⟩ := zI_of (zI ((uy31r (z).toNat) ((72 + z1).toNat)))
      rw [exy61]
      exact z_rX (z_iret C hr hlk dX9_layer_163 (by decide) (by decide) ⟨xy60, rfl, rfl, rfl, by omega, rfl⟩)
    · refine z_tin (off := 138) (tgt := 164) C dX9_layer_26 (by omega) (by omega) (by omega) rfl (by decide) ?_
      refine z_aload C 1 dX9_layer_164 rfl ?_
      refine z_iload_n C 4 dX9_layer_166 rfl ?_
      refine z_cV (As := [.int (zI (z1))]) (rest := []) (ci := 5) C (c_X3_massAbove l D A cs tt N ad _ (11 + 1 + 2 + 2 * (z).toNat) (by omega) _ _ _ (by omega) ⟨hpy38.1, hpy38.2⟩  (z1) (by omega)) (by omega) hay36 hpy38.1 rfl rfl mv_yX3_massAbove q_960 hd_yX3_massAbove (by decide) (Nat.le_of_ble_eq_true rfl) (by decide) dX9_layer_167 rfl (kI0 fun vy63 gvy63 hvy63 => ?_)
      obtain ⟨hvy63, rfl⟩ := hvy63
      refine z_aload C 1 dX9_layer_170 rfl ?_
      refine z_iload_n C 4 dX9_layer_172 rfl ?_
      refine z_cV (As := [.int (zI (z1))]) (rest := [.int (zI (vy63))]) (ci := 5) C (c_X3_mass l D A cs tt N ad _ (11 + 1 + 2 + 2 * (z).toNat) (by omega) _ _ _ (by omega) ⟨hpy38.1, hpy38.2⟩  (z1) (by omega)) (by omega) hay36 hpy38.1 rfl rfl mv_yX3_mass q_961 hd_yX3_mass (by decide) (Nat.le_of_ble_eq_true rfl) (by decide) dX9_layer_173 rfl (kI0 fun vy64 gvy64 hvy64 => ?_)
      obtain ⟨hvy64, rfl⟩ := hvy64
      refine z_iconst (z := 2) C dX9_layer_176 rfl ?_
      refine z_idiv C dX9_layer_177 (by omega) (by omega) (by omega) ?_
      refine z_iadd C dX9_layer_178 ?_
      obtain ⟨xy65, exy66, hxy67⟩ := zI_of (zI (vy63 + (vy64.tdiv 2)))
      rw [exy66]
      exact z_rX (z_iret C hr hlk dX9_layer_179 (by decide) (by decide) ⟨xy65, rfl, rfl, rfl, by omega, rfl⟩)
    · refine z_tin (off := 154) (tgt := 180) C dX9_layer_26 (by omega) (by omega) (by omega) rfl (by decide) ?_
      refine z_aload C 1 dX9_layer_180 rfl ?_
      refine z_iload_n C 4 dX9_layer_182 rfl ?_
      refine z_aload_n C 2 dX9_layer_183 rfl ?_
      refine z_get (v := .ref (ad 4)) C (lt_K hN (rfl : Nat.blt (0) 952 = true)) hay2 ary1 rfl inA_X9 4 (by decide) q_353 rfl rfl dX9_layer_184 ?_
      refine z_aload_n C 2 dX9_layer_187 rfl ?_
      refine z_get (v := .ref (ad 11)) C (lt_K hN (rfl : Nat.blt (0) 952 = true)) hay2 ary1 rfl inA_X9 5 (by decide) q_354 rfl rfl dX9_layer_188 ?_
      refine z_get (v := .ref (ad (11 + 1))) C (lt_K hN (rfl : Nat.blt (11) 952 = true)) hay6 iry1.1 rfl inA_X6 0 (by decide) q_258 rfl rfl dX9_layer_191 ?_
      refine z_get (v := .int (zI (uy31t 0))) C (lt_K hN (rfl : Nat.blt (11 + 1) 952 = true)) hay32 uy311 rfl inA_X8 0 (by decide) q_174 rfl rfl dX9_layer_194 ?_
      obtain ⟨xy68, exy69, hxy70⟩ := zI_of (zI (uy31t 0))
      rw [exy69]
      refine z_cV (As := [.int (zI (xy68))]) (rest := [.int (zI (z1)), .ref (ad (11 + 1 + 2 + 2 * (z).toNat))]) (ci := 7) C (c_X5_airAt l D A cs tt N ad _ (4) (by omega) _ _ _ _ _ _ _ _ _ ⟨fry1.1, fry1.2.1, fry1.2.2.1, fry1.2.2.2.1, fry1.2.2.2.2.1, fry1.2.2.2.2.2.1, fry1.2.2.2.2.2.2⟩ (by omega) (xy68) (by omega)) (lt_K hN (rfl : Nat.blt (4) 952 = true)) hay5 fry1.1 rfl rfl mv_yX5_airAt q_545 hd_yX5_airAt (by decide) (Nat.le_of_ble_eq_true rfl) (by decide) dX9_layer_197 rfl (kI0 fun vy71 gvy71 hvy71 => ?_)
      obtain ⟨hvy71, rfl⟩ := hvy71
      refine z_cV (As := [.int (zI (z1)), .int (zI (vy71))]) (rest := []) (ci := 5) C (c_X3_grade l D A cs tt N ad _ (11 + 1 + 2 + 2 * (z).toNat) (by omega) _ _ _ (by omega) ⟨hpy38.1, hpy38.2⟩  (z1) (by omega) (vy71) (by omega)) (by omega) hay36 hpy38.1 rfl rfl mv_yX3_grade q_962 hd_yX3_grade (by decide) (Nat.le_of_ble_eq_true rfl) (by decide) dX9_layer_200 rfl (kI0 fun vy72 gvy72 hvy72 => ?_)
      obtain ⟨hvy72, rfl⟩ := hvy72
      exact z_rX (z_iret C hr hlk dX9_layer_203 (by decide) (by decide) ⟨vy72, rfl, rfl, rfl, by omega, rfl⟩)
    · refine z_tin (off := 178) (tgt := 204) C dX9_layer_26 (by omega) (by omega) (by omega) rfl (by decide) ?_
      refine z_aload C 1 dX9_layer_204 rfl ?_
      refine z_iload_n C 4 dX9_layer_206 rfl ?_
      refine z_aload_n C 2 dX9_layer_207 rfl ?_
      refine z_get (v := .ref (ad 4)) C (lt_K hN (rfl : Nat.blt (0) 952 = true)) hay2 ary1 rfl inA_X9 4 (by decide) q_353 rfl rfl dX9_layer_208 ?_
      refine z_cV (As := [.int (zI (z1)), .ref (ad 4)]) (rest := []) (ci := 5) C (c_X3_strength l D A cs tt N ad _ (11 + 1 + 2 + 2 * (z).toNat) (by omega) _ _ _ (by omega) ⟨hpy38.1, hpy38.2⟩ (4) (by omega) _ _ _ _ _ _ _ _ _ ⟨fry1.1, fry1.2.1, fry1.2.2.1, fry1.2.2.2.1, fry1.2.2.2.2.1, fry1.2.2.2.2.2.1, fry1.2.2.2.2.2.2⟩ (z1) (by omega)) (by omega) hay36 hpy38.1 rfl rfl mv_yX3_strength q_963 hd_yX3_strength (by decide) (Nat.le_of_ble_eq_true rfl) (by decide) dX9_layer_211 rfl (kI0 fun vy73 gvy73 hvy73 => ?_)
      obtain ⟨hvy73, rfl⟩ := hvy73
      exact z_rX (z_iret C hr hlk dX9_layer_214 (by decide) (by decide) ⟨vy73, rfl, rfl, rfl, by omega, rfl⟩)
    · refine z_tin (off := 189) (tgt := 215) C dX9_layer_26 (by omega) (by omega) (by omega) rfl (by decide) ?_
      refine z_aload C 1 dX9_layer_215 rfl ?_
      refine z_iload_n C 4 dX9_layer_217 rfl ?_
      refine z_cV (As := [.int (zI (z1))]) (rest := []) (ci := 5) C (c_X3_massAbove l D A cs tt N ad _ (11 + 1 + 2 + 2 * (z).toNat) (by omega) _ _ _ (by omega) ⟨hpy38.1, hpy38.2⟩  (z1) (by omega)) (by omega) hay36 hpy38.1 rfl rfl mv_yX3_massAbove q_960 hd_yX3_massAbove (by decide) (Nat.le_of_ble_eq_true rfl) (by decide) dX9_layer_218 rfl (kI0 fun vy74 gvy74 hvy74 => ?_)
      obtain ⟨hvy74, rfl⟩ := hvy74
      refine z_iload C 0 dX9_layer_221 rfl ?_
      obtain ⟨xy75, exy76, hxy77⟩ := zI_of (zI (st ((z).toNat)))
      rw [exy76]
      refine z_cS (As := [.int (zI (vy74)), .int (zI (xy75))]) (rest := []) C (c_X9_burden l D A cs tt N ad _ (vy74) (xy75) (by omega) (by omega)) ms_yX9_burden q_964 hd_yX9_burden (by decide) (Nat.le_of_ble_eq_true rfl) (by decide) dX9_layer_223 rfl (kI0 fun vy78 gvy78 hvy78 => ?_)
      obtain ⟨hvy78, rfl⟩ := hvy78
      exact z_rX (z_iret C hr hlk dX9_layer_226 (by decide) (by decide) ⟨vy78, rfl, rfl, rfl, by omega, rfl⟩)
    · refine z_tin (off := 201) (tgt := 227) C dX9_layer_26 (by omega) (by omega) (by omega) rfl (by decide) ?_
      refine z_aload C 1 dX9_layer_227 rfl ?_
      refine z_iload_n C 4 dX9_layer_229 rfl ?_
      refine z_aload C 1 dX9_layer_230 rfl ?_
      refine z_iload_n C 4 dX9_layer_232 rfl ?_
      refine z_cV (As := [.int (zI (z1))]) (rest := [.int (zI (z1)), .ref (ad (11 + 1 + 2 + 2 * (z).toNat))]) (ci := 5) C (c_X3_massAbove l D A cs tt N ad _ (11 + 1 + 2 + 2 * (z).toNat) (by omega) _ _ _ (by omega) ⟨hpy38.1, hpy38.2⟩  (z1) (by omega)) (by omega) hay36 hpy38.1 rfl rfl mv_yX3_massAbove q_960 hd_yX3_massAbove (by decide) (Nat.le_of_ble_eq_true rfl) (by decide) dX9_layer_233 rfl (kI0 fun vy79 gvy79 hvy79 => ?_)
      obtain ⟨hvy79, rfl⟩ := hvy79
      refine z_iload C 0 dX9_layer_236 rfl ?_
      obtain ⟨xy80, exy81, hxy82⟩ := zI_of (zI (st ((z).toNat)))
      rw [exy81]
      refine z_cS (As := [.int (zI (vy79)), .int (zI (xy80))]) (rest := [.int (zI (z1)), .ref (ad (11 + 1 + 2 + 2 * (z).toNat))]) C (c_X9_burden l D A cs tt N ad _ (vy79) (xy80) (by omega) (by omega)) ms_yX9_burden q_964 hd_yX9_burden (by decide) (Nat.le_of_ble_eq_true rfl) (by decide) dX9_layer_238 rfl (kI0 fun vy83 gvy83 hvy83 => ?_)
      obtain ⟨hvy83, rfl⟩ := hvy83
      refine z_aload_n C 2 dX9_layer_241 rfl ?_
      refine z_get (v := .ref (ad 4)) C (lt_K hN (rfl : Nat.blt (0) 952 = true)) hay2 ary1 rfl inA_X9 4 (by decide) q_353 rfl rfl dX9_layer_242 ?_
      refine z_cV (As := [.int (zI (z1)), .int (zI (vy83)), .ref (ad 4)]) (rest := []) (ci := 5) C (c_X3_ratio l D A cs tt N ad _ (11 + 1 + 2 + 2 * (z).toNat) (by omega) _ _ _ (by omega) ⟨hpy38.1, hpy38.2⟩ (4) (by omega) _ _ _ _ _ _ _ _ _ ⟨fry1.1, fry1.2.1, fry1.2.2.1, fry1.2.2.2.1, fry1.2.2.2.2.1, fry1.2.2.2.2.2.1, fry1.2.2.2.2.2.2⟩ (z1) (by omega) (vy83) (by omega)) (by omega) hay36 hpy38.1 rfl rfl mv_yX3_ratio q_965 hd_yX3_ratio (by decide) (Nat.le_of_ble_eq_true rfl) (by decide) dX9_layer_245 rfl (kI0 fun vy84 gvy84 hvy84 => ?_)
      obtain ⟨hvy84, rfl⟩ := hvy84
      exact z_rX (z_iret C hr hlk dX9_layer_248 (by decide) (by decide) ⟨vy84, rfl, rfl, rfl, by omega, rfl⟩)

set_option maxRecDepth 100000 in
set_option maxHeartbeats 4000000 in
theorem c_X9_stands (l : Launch) (D : va_G) (A : Nat → Prop) (cs : Nat → ClassId) (tt : Nat) (N : Nat) (ad : Nat → Nat) (g : Nat → va_E) (hN : 952 ≤ N) (t fp im nz kz sl ho ua : Int) (st op ai fa mu tb tp : Nat → Int) (hR : okRec cs ad g N t fp im nz kz sl ho ua st op ai fa mu tb tp) (hl0 : l.stackTraces = false) (z : Int) (hz : -2147483648 ≤ z ∧ z ≤ 2147483647) (z1 : Int) (hz1 : -2147483648 ≤ z1 ∧ z1 ≤ 2147483647) : zMX l yX9_stands cX9_stands 6 (some .int) ({ frames := 12, cells := 6, slots := 36, locals := 720 } : Room) D A cs tt N ad g [.ref (ad 0), .int (zI (z)), .int (zI (z1))] (rI0 N ad fun r g' => (-2147483648 ≤ r ∧ r ≤ 2147483647) ∧ g = g') (fun E N' ad' g' => E = eNS ∧ N' = N ∧ ad' = ad ∧ g' = g) := by
  obtain ⟨ary1, bry1, cry1, dry1, ery1, fry1, gry11, hry1, ⟨acry1, iry1⟩, ⟨kcry1, jry1⟩, kry1, lry1, mry1, nry1, ory1, pry1⟩ := id hR
  have hay2 : zAt ad (0) (ad 0) := rfl
  have hay3 : zAt ad (1) (ad 1) := rfl
  have hay4 : zAt ad (2) (ad 2) := rfl
  have hay5 : zAt ad (4) (ad 4) := rfl
  have hay6 : zAt ad (11) (ad 11) := rfl
  have hay7 : zAt ad (447) (ad 447) := rfl
  have hay8 : zAt ad (883) (ad 883) := rfl
  have hay9 : zAt ad (890) (ad 890) := rfl
  have hay10 : zAt ad (900) (ad 900) := rfl
  have hay11 : zAt ad (910) (ad 910) := rfl
  have hay12 : zAt ad (917) (ad 917) := rfl
  have hay13 : zAt ad (919) (ad 919) := rfl
  have hay14 : zAt ad (4 + 1) (ad (4 + 1)) := rfl
  have hay15 : zAt ad (4 + 2) (ad (4 + 2)) := rfl
  have hay16 : zAt ad (4 + 3) (ad (4 + 3)) := rfl
  have hay17 : zAt ad (4 + 4) (ad (4 + 4)) := rfl
  have hay18 : zAt ad (4 + 5) (ad (4 + 5)) := rfl
  have hay19 : zAt ad (4 + 6) (ad (4 + 6)) := rfl
  obtain ⟨thcy20, zhcy20, ohcy20, rhcy20, hzhcy20, hthcy20, hwhcy20⟩ := id lry1
  obtain ⟨thcy21, zhcy21, ohcy21, rhcy21, hzhcy21, hthcy21, hwhcy21⟩ := id mry1
  obtain ⟨asy22, bsy22, csy22, dsy22, esy22, ⟨ptsy22, fsy22, gsy221⟩, hsy22, ⟨nusy22, nvsy22, nwsy22, isy22, jsy22, ksy22, lsy22, msy22, nsy22⟩, rfsy22, osy22⟩ := id iry1
  have hay23 : zAt ad (11 + 1) (ad (11 + 1)) := rfl
  have hay24 : zAt ad (11 + 11) (ad (11 + 11)) := rfl
  have hay25 : zAt ad (11 + 12) (ad (11 + 12)) := rfl
  have hay26 : zAt ad (11 + 13) (ad (11 + 13)) := rfl
  have hay27 : zAt ad (11 + 13 + 1) (ad (11 + 13 + 1)) := rfl
  have hay28 : zAt ad (11 + 13 + 2) (ad (11 + 13 + 2)) := rfl
  have hay29 : zAt ad (11 + 13 + 3) (ad (11 + 13 + 3)) := rfl
  have hay30 : zAt ad (11 + 17) (ad (11 + 17)) := rfl
  obtain ⟨uy31t, uy31z, uy31o, uy31r, uy31z4, uy31t5, uy311, ⟨uy31u, uy312, uy313⟩, uy314⟩ := id csy22
  have hay32 : zAt ad (11 + 1) (ad (11 + 1)) := rfl
  have hay33 : zAt ad (11 + 1 + 1) (ad (11 + 1 + 1)) := rfl
  refine z_ofX (by decide) (Nat.le_of_ble_eq_true rfl) ?_
  intro p e s m below meth c C hr hlk hxt
  refine z_lv (lv' := [(0, .ref (ad 0)), (1, .int (zI (z))), (2, .int (zI (z1)))]) [0, 1, 2] rfl ?_
  refine z_aload_n C 0 dX9_stands_0 rfl ?_
  refine z_iload_n C 1 dX9_stands_1 rfl ?_
  have hrecy35 : okRec cs ad g N (t) (fp) (im) (nz) (kz) (sl) (ho) (ua) (st) (op) (ai) (fa) (mu) (tb) (tp) := ⟨ary1, bry1, cry1, dry1, ery1, fry1, gry11, hry1, ⟨_, iry1⟩, ⟨_, jry1⟩, kry1, lry1, mry1, nry1, ory1, pry1⟩
  refine z_cVX (As := [.int (zI (z))]) (rest := []) (ci := 11) C (c_X9_packOf l D A cs tt N ad _ hN _ _ _ _ _ _ _ _ _ _ _ _ _ _ _ hrecy35 hl0 (z) (by omega)) (lt_K hN (rfl : Nat.blt (0) 952 = true)) hay2 ary1 rfl rfl mv_yX9_packOf q_936 hd_yX9_packOf (by decide) (Nat.le_of_ble_eq_true rfl) (by decide) dX9_stands_2 rfl (fun E N' ad' g' h => by obtain ⟨rfl, rfl, rfl, rfl⟩ := h; exact z_uout C hxt hlk (by decide) (by decide) ⟨rfl, rfl, rfl, rfl⟩) (kR0 fun avy34 gvy34 hvy34 => ?_)
  obtain ⟨hvy34, rfl, rfl⟩ := hvy34
  have hay36 : zAt ad (11 + 1 + 2 + 2 * (z).toNat) (ad (11 + 1 + 2 + 2 * (z).toNat)) := rfl
  have hay37 : zAt ad (11 + 1 + 2 + 2 * (z).toNat + 1) (ad (11 + 1 + 2 + 2 * (z).toNat + 1)) := rfl
  have hpy38 := uy314 (z).toNat (by omega)
  have hqy39 := uy31z4 (z).toNat (by omega)
  refine z_astore_n (lv' := [(3, .ref (ad (11 + 1 + 2 + 2 * (z).toNat))), (0, .ref (ad 0)), (1, .int (zI (z))), (2, .int (zI (z1)))]) C dX9_stands_5 rfl (by decide) rfl ?_
  refine z_iload_n C 3 dX9_stands_6 rfl ?_
  refine z_iconst (z := 1) C dX9_stands_7 rfl ?_
  refine z_cSX (As := [.int (zI (z1)), .int (zI (1))]) (rest := []) C (c_X9_needWhat l D A cs tt N ad _ hl0 (z1) (by omega) (1) (by omega)) ms_yX9_needWhat q_1220 hd_yX9_needWhat (by decide) (Nat.le_of_ble_eq_true rfl) (by decide) dX9_stands_8 rfl (fun E N' ad' g' h => by obtain ⟨⟨rfl, h9⟩, rfl, rfl, rfl⟩ := h; exact z_uout C hxt hlk (by decide) (by decide) ⟨rfl, rfl, rfl, rfl⟩) (kV0 fun gvy40 hvy40 => ?_)
  obtain ⟨hvy40, rfl⟩ := hvy40
  refine z_iconst (z := 0) C dX9_stands_11 rfl ?_
  refine z_istore (lv' := [(4, .int (zI (0))), (3, .ref (ad (11 + 1 + 2 + 2 * (z).toNat))), (0, .ref (ad 0)), (1, .int (zI (z))), (2, .int (zI (z1)))]) C dX9_stands_12 (by decide) rfl ?_
  have lp : ∀ (n9 : Nat) (i : Int) (g1 : Nat → va_E), (31 - i).toNat = n9 → (g1 = g) → (0 ≤ i ∧ i ≤ 31) → zV p l e ({ frames := 12, cells := 6, slots := 36, locals := 720 } : Room) s m ([.ref (ad 0), .int (zI (z)), .int (zI (z1))] : List Value).toArray below meth c (vx_MQ below (zPost D A (rI0 N ad fun r g' => (-2147483648 ≤ r ∧ r ≤ 2147483647) ∧ g = g')) (zX D A (fun E N' ad' g' => E = eNS ∧ N' = N ∧ ad' = ad ∧ g' = g)) ([.ref (ad 0), .int (zI (z)), .int (zI (z1))] : List Value).toArray s ({ frames := 12, cells := 6, slots := 36, locals := 720 } : Room).cells ({ frames := 12, cells := 6, slots := 36, locals := 720 } : Room).slots A) D A 6 (N) ad g1 (2) (12) 14 [(4, .int (zI (i))), (3, .ref (ad (11 + 1 + 2 + 2 * (z).toNat))), (0, .ref (ad 0)), (1, .int (zI (z))), (2, .int (zI (z1)))] [] := by
    intro n9
    induction n9 using Nat.strongRecOn with
    | ind n9 ih =>
      intro i g1 hm9 hg1 hv0
      subst hg1
      obtain ⟨ary41, bry41, cry41, dry41, ery41, fry41, gry411, hry41, ⟨acry41, iry41⟩, ⟨kcry41, jry41⟩, kry41, lry41, mry41, nry41, ory41, pry41⟩ := id hR
      have hay42 : zAt ad (0) (ad 0) := rfl
      have hay43 : zAt ad (1) (ad 1) := rfl
      have hay44 : zAt ad (2) (ad 2) := rfl
      have hay45 : zAt ad (4) (ad 4) := rfl
      have hay46 : zAt ad (11) (ad 11) := rfl
      have hay47 : zAt ad (447) (ad 447) := rfl
      have hay48 : zAt ad (883) (ad 883) := rfl
      have hay49 : zAt ad (890) (ad 890) := rfl
      have hay50 : zAt ad (900) (ad 900) := rfl
      have hay51 : zAt ad (910) (ad 910) := rfl
      have hay52 : zAt ad (917) (ad 917) := rfl
      have hay53 : zAt ad (919) (ad 919) := rfl
      have hay54 : zAt ad (4 + 1) (ad (4 + 1)) := rfl
      have hay55 : zAt ad (4 + 2) (ad (4 + 2)) := rfl
      have hay56 : zAt ad (4 + 3) (ad (4 + 3)) := rfl
      have hay57 : zAt ad (4 + 4) (ad (4 + 4)) := rfl
      have hay58 : zAt ad (4 + 5) (ad (4 + 5)) := rfl
      have hay59 : zAt ad (4 + 6) (ad (4 + 6)) := rfl
      obtain ⟨thcy60, zhcy60, ohcy60, rhcy60, hzhcy60, hthcy60, hwhcy60⟩ := id lry41
      obtain ⟨thcy61, zhcy61, ohcy61, rhcy61, hzhcy61, hthcy61, hwhcy61⟩ := id mry41
      obtain ⟨asy62, bsy62, csy62, dsy62, esy62, ⟨ptsy62, fsy62, gsy621⟩, hsy62, ⟨nusy62, nvsy62, nwsy62, isy62, jsy62, ksy62, lsy62, msy62, nsy62⟩, rfsy62, osy62⟩ := id iry41
      have hay63 : zAt ad (11 + 1) (ad (11 + 1)) := rfl
      have hay64 : zAt ad (11 + 11) (ad (11 + 11)) := rfl
      have hay65 : zAt ad (11 + 12) (ad (11 + 12)) := rfl
      have hay66 : zAt ad (11 + 13) (ad (11 + 13)) := rfl
      have hay67 : zAt ad (11 + 13 + 1) (ad (11 + 13 + 1)) := rfl
      have hay68 : zAt ad (11 + 13 + 2) (ad (11 + 13 + 2)) := rfl
      have hay69 : zAt ad (11 + 13 + 3) (ad (11 + 13 + 3)) := rfl
      have hay70 : zAt ad (11 + 17) (ad (11 + 17)) := rfl
      obtain ⟨uy71t, uy71z, uy71o, uy71r, uy71z4, uy71t5, uy711, ⟨uy71u, uy712, uy713⟩, uy714⟩ := id csy62
      have hay72 : zAt ad (11 + 1) (ad (11 + 1)) := rfl
      have hay73 : zAt ad (11 + 1 + 1) (ad (11 + 1 + 1)) := rfl
      have hay74 : zAt ad (11 + 1 + 2 + 2 * (z).toNat) (ad (11 + 1 + 2 + 2 * (z).toNat)) := rfl
      have hay75 : zAt ad (11 + 1 + 2 + 2 * (z).toNat + 1) (ad (11 + 1 + 2 + 2 * (z).toNat + 1)) := rfl
      have hpy76 := uy714 (z).toNat (by omega)
      have hqy77 := uy71z4 (z).toNat (by omega)
      refine z_iload C 0 dX9_stands_14 rfl ?_
      refine z_bipush (z := 30) C dX9_stands_16 (by decide) ?_
      refine z_icmp_gt (tgt := 69) C dX9_stands_18 (by decide) (by omega) (by omega) (fun hby78 => ?_) (fun hby78 => ?_)
      · refine z_iconst (z := -1) C dX9_stands_69 rfl ?_
        exact z_rX (z_iret C hr hlk dX9_stands_70 (by decide) (by decide) ⟨-1, rfl, rfl, rfl, by omega, rfl⟩)
      · refine z_aload_n C 1 dX9_stands_21 rfl ?_
        refine z_aload_n C 2 dX9_stands_22 rfl ?_
        refine z_get (v := .ref (ad 4)) C (lt_K hN (rfl : Nat.blt (0) 952 = true)) hay42 ary41 rfl inA_X9 4 (by decide) q_353 rfl rfl dX9_stands_23 ?_
        refine z_get (v := .ref (ad (4 + 1))) C (lt_K hN (rfl : Nat.blt (4) 952 = true)) hay45 fry41.1 rfl inA_X5 3 (by decide) q_98 rfl rfl dX9_stands_26 ?_
        refine z_iload_n C 3 dX9_stands_29 rfl ?_
        refine z_iald C (lt_K hN (rfl : Nat.blt (4 + 1) 952 = true)) hay54 fry41.2.1 ((z).toNat) (by omega) (by omega) (by decide) dX9_stands_30 ?_
        refine z_iload C 0 dX9_stands_31 rfl ?_
        refine z_cS (As := [.int (zI (i))]) (rest := [.int (zI (st ((z).toNat))), .ref (ad (11 + 1 + 2 + 2 * (z).toNat))]) C (c_X9_extraOf l D A cs tt N ad _ (i) (by omega)) ms_yX9_extraOf q_1263 hd_yX9_extraOf (by decide) (Nat.le_of_ble_eq_true rfl) (by decide) dX9_stands_33 rfl (kI0 fun vy79 gvy79 hvy79 => ?_)
        obtain ⟨hvy79, rfl⟩ := hvy79
        refine z_aload_n C 2 dX9_stands_36 rfl ?_
        refine z_get (v := .ref (ad 4)) C (lt_K hN (rfl : Nat.blt (0) 952 = true)) hay42 ary41 rfl inA_X9 4 (by decide) q_353 rfl rfl dX9_stands_37 ?_
        obtain ⟨xy80, exy81, hxy82⟩ := zI_of (zI (st ((z).toNat)))
        rw [exy81]
        refine z_cV (As := [.int (zI (xy80)), .int (zI (vy79)), .ref (ad 4)]) (rest := []) (ci := 5) C (c_X3_lowestUnstable l D A cs tt N ad _ (11 + 1 + 2 + 2 * (z).toNat) (by omega) _ _ _ (by omega) ⟨hpy76.1, hpy76.2⟩ (4) (by omega) _ _ _ _ _ _ _ _ _ ⟨fry41.1, fry41.2.1, fry41.2.2.1, fry41.2.2.2.1, fry41.2.2.2.2.1, fry41.2.2.2.2.2.1, fry41.2.2.2.2.2.2⟩ (xy80) (by omega) (vy79) (by omega)) (by omega) hay74 hpy76.1 rfl rfl mv_yX3_lowestUnstable q_564 hd_yX3_lowestUnstable (by decide) (Nat.le_of_ble_eq_true rfl) (by decide) dX9_stands_40 rfl (kI0 fun vy83 gvy83 hvy83 => ?_)
        obtain ⟨hvy83, rfl⟩ := hvy83
        refine z_istore (lv' := [(5, .int (zI (vy83))), (4, .int (zI (i))), (3, .ref (ad (11 + 1 + 2 + 2 * (z).toNat))), (0, .ref (ad 0)), (1, .int (zI (z))), (2, .int (zI (z1)))]) C dX9_stands_43 (by decide) rfl ?_
        refine z_iload C 0 dX9_stands_45 rfl ?_
        refine z_iconst (z := -1) C dX9_stands_47 rfl ?_
        refine z_icmp_eq (tgt := 63) C dX9_stands_48 (by decide) (by omega) (by omega) (fun hby84 => ?_) (fun hby84 => ?_)
        · refine z_iinc (z := i + 1) (lv' := [(4, .int (zI (i + 1))), (5, .int (zI (vy83))), (3, .ref (ad (11 + 1 + 2 + 2 * (z).toNat))), (0, .ref (ad 0)), (1, .int (zI (z))), (2, .int (zI (z1)))]) (j := 1) C dX9_stands_63 rfl rfl (by decide) rfl ?_
          refine z_goto (tgt := 14) C dX9_stands_66 (by decide) ?_
          refine z_lv (lv' := [(4, .int (zI (i + 1))), (3, .ref (ad (11 + 1 + 2 + 2 * (z).toNat))), (0, .ref (ad 0)), (1, .int (zI (z))), (2, .int (zI (z1)))]) [0, 2, 3, 4, 5] rfl ?_
          exact ih _ (by omega) (i + 1) _ rfl rfl (by omega)
        · refine z_iload_n C 5 dX9_stands_51 rfl ?_
          refine z_if_ne (tgt := 60) C dX9_stands_52 (by decide) (by omega) (fun hby85 => ?_) (fun hby85 => ?_)
          · refine z_iload C 0 dX9_stands_60 rfl ?_
            exact z_rX (z_iret C hr hlk dX9_stands_62 (by decide) (by decide) ⟨vy83, rfl, rfl, rfl, by omega, rfl⟩)
          · refine z_iload C 1 dX9_stands_55 rfl ?_
            refine z_goto (tgt := 62) C dX9_stands_57 (by decide) ?_
            exact z_rX (z_iret C hr hlk dX9_stands_62 (by decide) (by decide) ⟨i, rfl, rfl, rfl, by omega, rfl⟩)
  refine z_lv (lv' := [(4, .int (zI (0))), (3, .ref (ad (11 + 1 + 2 + 2 * (z).toNat))), (0, .ref (ad 0)), (1, .int (zI (z))), (2, .int (zI (z1)))]) [0, 1, 2, 3, 4] rfl ?_
  exact lp _ (0) _ rfl rfl (by omega)

set_option maxRecDepth 100000 in
set_option maxHeartbeats 4000000 in
theorem c_X9_toLoad (l : Launch) (D : va_G) (A : Nat → Prop) (cs : Nat → ClassId) (tt : Nat) (N : Nat) (ad : Nat → Nat) (g : Nat → va_E) (hN : 952 ≤ N) (t fp im nz kz sl ho ua : Int) (st op ai fa mu tb tp : Nat → Int) (hR : okRec cs ad g N t fp im nz kz sl ho ua st op ai fa mu tb tp) (hl0 : l.stackTraces = false) (z : Int) (hz : -2147483648 ≤ z ∧ z ≤ 2147483647) : zMX l yX9_toLoad cX9_toLoad 4 (some .int) ({ frames := 12, cells := 6, slots := 36, locals := 720 } : Room) D A cs tt N ad g [.ref (ad 0), .int (zI (z))] (rI0 N ad fun r g' => (-2147483648 ≤ r ∧ r ≤ 2147483647) ∧ g = g') (fun E N' ad' g' => E = eNS ∧ N' = N ∧ ad' = ad ∧ g' = g) := by
  obtain ⟨ary1, bry1, cry1, dry1, ery1, fry1, gry11, hry1, ⟨acry1, iry1⟩, ⟨kcry1, jry1⟩, kry1, lry1, mry1, nry1, ory1, pry1⟩ := id hR
  have hay2 : zAt ad (0) (ad 0) := rfl
  have hay3 : zAt ad (1) (ad 1) := rfl
  have hay4 : zAt ad (2) (ad 2) := rfl
  have hay5 : zAt ad (4) (ad 4) := rfl
  have hay6 : zAt ad (11) (ad 11) := rfl
  have hay7 : zAt ad (447) (ad 447) := rfl
  have hay8 : zAt ad (883) (ad 883) := rfl
  have hay9 : zAt ad (890) (ad 890) := rfl
  have hay10 : zAt ad (900) (ad 900) := rfl
  have hay11 : zAt ad (910) (ad 910) := rfl
  have hay12 : zAt ad (917) (ad 917) := rfl
  have hay13 : zAt ad (919) (ad 919) := rfl
  have hay14 : zAt ad (4 + 1) (ad (4 + 1)) := rfl
  have hay15 : zAt ad (4 + 2) (ad (4 + 2)) := rfl
  have hay16 : zAt ad (4 + 3) (ad (4 + 3)) := rfl
  have hay17 : zAt ad (4 + 4) (ad (4 + 4)) := rfl
  have hay18 : zAt ad (4 + 5) (ad (4 + 5)) := rfl
  have hay19 : zAt ad (4 + 6) (ad (4 + 6)) := rfl
  obtain ⟨thcy20, zhcy20, ohcy20, rhcy20, hzhcy20, hthcy20, hwhcy20⟩ := id lry1
  obtain ⟨thcy21, zhcy21, ohcy21, rhcy21, hzhcy21, hthcy21, hwhcy21⟩ := id mry1
  obtain ⟨asy22, bsy22, csy22, dsy22, esy22, ⟨ptsy22, fsy22, gsy221⟩, hsy22, ⟨nusy22, nvsy22, nwsy22, isy22, jsy22, ksy22, lsy22, msy22, nsy22⟩, rfsy22, osy22⟩ := id iry1
  have hay23 : zAt ad (11 + 1) (ad (11 + 1)) := rfl
  have hay24 : zAt ad (11 + 11) (ad (11 + 11)) := rfl
  have hay25 : zAt ad (11 + 12) (ad (11 + 12)) := rfl
  have hay26 : zAt ad (11 + 13) (ad (11 + 13)) := rfl
  have hay27 : zAt ad (11 + 13 + 1) (ad (11 + 13 + 1)) := rfl
  have hay28 : zAt ad (11 + 13 + 2) (ad (11 + 13 + 2)) := rfl
  have hay29 : zAt ad (11 + 13 + 3) (ad (11 + 13 + 3)) := rfl
  have hay30 : zAt ad (11 + 17) (ad (11 + 17)) := rfl
  obtain ⟨uy31t, uy31z, uy31o, uy31r, uy31z4, uy31t5, uy311, ⟨uy31u, uy312, uy313⟩, uy314⟩ := id csy22
  have hay32 : zAt ad (11 + 1) (ad (11 + 1)) := rfl
  have hay33 : zAt ad (11 + 1 + 1) (ad (11 + 1 + 1)) := rfl
  refine z_ofX (by decide) (Nat.le_of_ble_eq_true rfl) ?_
  intro p e s m below meth c C hr hlk hxt
  refine z_lv (lv' := [(0, .ref (ad 0)), (1, .int (zI (z)))]) [0, 1] rfl ?_
  refine z_aload_n C 0 dX9_toLoad_0 rfl ?_
  refine z_iload_n C 1 dX9_toLoad_1 rfl ?_
  have hrecy35 : okRec cs ad g N (t) (fp) (im) (nz) (kz) (sl) (ho) (ua) (st) (op) (ai) (fa) (mu) (tb) (tp) := ⟨ary1, bry1, cry1, dry1, ery1, fry1, gry11, hry1, ⟨_, iry1⟩, ⟨_, jry1⟩, kry1, lry1, mry1, nry1, ory1, pry1⟩
  refine z_cVX (As := [.int (zI (z))]) (rest := []) (ci := 11) C (c_X9_packOf l D A cs tt N ad _ hN _ _ _ _ _ _ _ _ _ _ _ _ _ _ _ hrecy35 hl0 (z) (by omega)) (lt_K hN (rfl : Nat.blt (0) 952 = true)) hay2 ary1 rfl rfl mv_yX9_packOf q_936 hd_yX9_packOf (by decide) (Nat.le_of_ble_eq_true rfl) (by decide) dX9_toLoad_2 rfl (fun E N' ad' g' h => by obtain ⟨rfl, rfl, rfl, rfl⟩ := h; exact z_uout C hxt hlk (by decide) (by decide) ⟨rfl, rfl, rfl, rfl⟩) (kR0 fun avy34 gvy34 hvy34 => ?_)
  obtain ⟨hvy34, rfl, rfl⟩ := hvy34
  have hay36 : zAt ad (11 + 1 + 2 + 2 * (z).toNat) (ad (11 + 1 + 2 + 2 * (z).toNat)) := rfl
  have hay37 : zAt ad (11 + 1 + 2 + 2 * (z).toNat + 1) (ad (11 + 1 + 2 + 2 * (z).toNat + 1)) := rfl
  have hpy38 := uy314 (z).toNat (by omega)
  have hqy39 := uy31z4 (z).toNat (by omega)
  refine z_astore_n (lv' := [(2, .ref (ad (11 + 1 + 2 + 2 * (z).toNat))), (0, .ref (ad 0)), (1, .int (zI (z)))]) C dX9_toLoad_5 rfl (by decide) rfl ?_
  refine z_iconst (z := 1) C dX9_toLoad_6 rfl ?_
  refine z_istore_n (lv' := [(3, .int (zI (1))), (2, .ref (ad (11 + 1 + 2 + 2 * (z).toNat))), (0, .ref (ad 0)), (1, .int (zI (z)))]) C dX9_toLoad_7 rfl (by decide) rfl ?_
  have lp : ∀ (n9 : Nat) (i : Int) (g1 : Nat → va_E), (100 - i).toNat = n9 → (g1 = g) → (1 ≤ i ∧ i ≤ 100) → zV p l e ({ frames := 12, cells := 6, slots := 36, locals := 720 } : Room) s m ([.ref (ad 0), .int (zI (z))] : List Value).toArray below meth c (vx_MQ below (zPost D A (rI0 N ad fun r g' => (-2147483648 ≤ r ∧ r ≤ 2147483647) ∧ g = g')) (zX D A (fun E N' ad' g' => E = eNS ∧ N' = N ∧ ad' = ad ∧ g' = g)) ([.ref (ad 0), .int (zI (z))] : List Value).toArray s ({ frames := 12, cells := 6, slots := 36, locals := 720 } : Room).cells ({ frames := 12, cells := 6, slots := 36, locals := 720 } : Room).slots A) D A 4 (N) ad g1 (1) (6) 8 [(3, .int (zI (i))), (2, .ref (ad (11 + 1 + 2 + 2 * (z).toNat))), (0, .ref (ad 0)), (1, .int (zI (z)))] [] := by
    intro n9
    induction n9 using Nat.strongRecOn with
    | ind n9 ih =>
      intro i g1 hm9 hg1 hv0
      subst hg1
      obtain ⟨ary40, bry40, cry40, dry40, ery40, fry40, gry401, hry40, ⟨acry40, iry40⟩, ⟨kcry40, jry40⟩, kry40, lry40, mry40, nry40, ory40, pry40⟩ := id hR
      have hay41 : zAt ad (0) (ad 0) := rfl
      have hay42 : zAt ad (1) (ad 1) := rfl
      have hay43 : zAt ad (2) (ad 2) := rfl
      have hay44 : zAt ad (4) (ad 4) := rfl
      have hay45 : zAt ad (11) (ad 11) := rfl
      have hay46 : zAt ad (447) (ad 447) := rfl
      have hay47 : zAt ad (883) (ad 883) := rfl
      have hay48 : zAt ad (890) (ad 890) := rfl
      have hay49 : zAt ad (900) (ad 900) := rfl
      have hay50 : zAt ad (910) (ad 910) := rfl
      have hay51 : zAt ad (917) (ad 917) := rfl
      have hay52 : zAt ad (919) (ad 919) := rfl
      have hay53 : zAt ad (4 + 1) (ad (4 + 1)) := rfl
      have hay54 : zAt ad (4 + 2) (ad (4 + 2)) := rfl
      have hay55 : zAt ad (4 + 3) (ad (4 + 3)) := rfl
      have hay56 : zAt ad (4 + 4) (ad (4 + 4)) := rfl
      have hay57 : zAt ad (4 + 5) (ad (4 + 5)) := rfl
      have hay58 : zAt ad (4 + 6) (ad (4 + 6)) := rfl
      obtain ⟨thcy59, zhcy59, ohcy59, rhcy59, hzhcy59, hthcy59, hwhcy59⟩ := id lry40
      obtain ⟨thcy60, zhcy60, ohcy60, rhcy60, hzhcy60, hthcy60, hwhcy60⟩ := id mry40
      obtain ⟨asy61, bsy61, csy61, dsy61, esy61, ⟨ptsy61, fsy61, gsy611⟩, hsy61, ⟨nusy61, nvsy61, nwsy61, isy61, jsy61, ksy61, lsy61, msy61, nsy61⟩, rfsy61, osy61⟩ := id iry40
      have hay62 : zAt ad (11 + 1) (ad (11 + 1)) := rfl
      have hay63 : zAt ad (11 + 11) (ad (11 + 11)) := rfl
      have hay64 : zAt ad (11 + 12) (ad (11 + 12)) := rfl
      have hay65 : zAt ad (11 + 13) (ad (11 + 13)) := rfl
      have hay66 : zAt ad (11 + 13 + 1) (ad (11 + 13 + 1)) := rfl
      have hay67 : zAt ad (11 + 13 + 2) (ad (11 + 13 + 2)) := rfl
      have hay68 : zAt ad (11 + 13 + 3) (ad (11 + 13 + 3)) := rfl
      have hay69 : zAt ad (11 + 17) (ad (11 + 17)) := rfl
      obtain ⟨uy70t, uy70z, uy70o, uy70r, uy70z4, uy70t5, uy701, ⟨uy70u, uy702, uy703⟩, uy704⟩ := id csy61
      have hay71 : zAt ad (11 + 1) (ad (11 + 1)) := rfl
      have hay72 : zAt ad (11 + 1 + 1) (ad (11 + 1 + 1)) := rfl
      have hay73 : zAt ad (11 + 1 + 2 + 2 * (z).toNat) (ad (11 + 1 + 2 + 2 * (z).toNat)) := rfl
      have hay74 : zAt ad (11 + 1 + 2 + 2 * (z).toNat + 1) (ad (11 + 1 + 2 + 2 * (z).toNat + 1)) := rfl
      have hpy75 := uy704 (z).toNat (by omega)
      have hqy76 := uy70z4 (z).toNat (by omega)
      refine z_iload_n C 0 dX9_toLoad_8 rfl ?_
      refine z_bipush (z := 99) C dX9_toLoad_9 (by decide) ?_
      refine z_icmp_gt (tgt := 44) C dX9_toLoad_11 (by decide) (by omega) (by omega) (fun hby77 => ?_) (fun hby77 => ?_)
      · refine z_iconst (z := -1) C dX9_toLoad_44 rfl ?_
        exact z_rX (z_iret C hr hlk dX9_toLoad_45 (by decide) (by decide) ⟨-1, rfl, rfl, rfl, by omega, rfl⟩)
      · refine z_aload_n C 1 dX9_toLoad_14 rfl ?_
        refine z_aload_n C 2 dX9_toLoad_15 rfl ?_
        refine z_get (v := .ref (ad 4)) C (lt_K hN (rfl : Nat.blt (0) 952 = true)) hay41 ary40 rfl inA_X9 4 (by decide) q_353 rfl rfl dX9_toLoad_16 ?_
        refine z_get (v := .ref (ad (4 + 1))) C (lt_K hN (rfl : Nat.blt (4) 952 = true)) hay44 fry40.1 rfl inA_X5 3 (by decide) q_98 rfl rfl dX9_toLoad_19 ?_
        refine z_iload_n C 3 dX9_toLoad_22 rfl ?_
        refine z_iald C (lt_K hN (rfl : Nat.blt (4 + 1) 952 = true)) hay53 fry40.2.1 ((z).toNat) (by omega) (by omega) (by decide) dX9_toLoad_23 ?_
        refine z_iload_n C 0 dX9_toLoad_24 rfl ?_
        refine z_aload_n C 2 dX9_toLoad_25 rfl ?_
        refine z_get (v := .ref (ad 4)) C (lt_K hN (rfl : Nat.blt (0) 952 = true)) hay41 ary40 rfl inA_X9 4 (by decide) q_353 rfl rfl dX9_toLoad_26 ?_
        obtain ⟨xy78, exy79, hxy80⟩ := zI_of (zI (st ((z).toNat)))
        rw [exy79]
        refine z_cV (As := [.int (zI (xy78)), .int (zI (i)), .ref (ad 4)]) (rest := []) (ci := 5) C (c_X3_lowestUnstable l D A cs tt N ad _ (11 + 1 + 2 + 2 * (z).toNat) (by omega) _ _ _ (by omega) ⟨hpy75.1, hpy75.2⟩ (4) (by omega) _ _ _ _ _ _ _ _ _ ⟨fry40.1, fry40.2.1, fry40.2.2.1, fry40.2.2.2.1, fry40.2.2.2.2.1, fry40.2.2.2.2.2.1, fry40.2.2.2.2.2.2⟩ (xy78) (by omega) (i) (by omega)) (by omega) hay73 hpy75.1 rfl rfl mv_yX3_lowestUnstable q_564 hd_yX3_lowestUnstable (by decide) (Nat.le_of_ble_eq_true rfl) (by decide) dX9_toLoad_29 rfl (kI0 fun vy81 gvy81 hvy81 => ?_)
        obtain ⟨hvy81, rfl⟩ := hvy81
        refine z_iconst (z := -1) C dX9_toLoad_32 rfl ?_
        refine z_icmp_eq (tgt := 38) C dX9_toLoad_33 (by decide) (by omega) (by omega) (fun hby82 => ?_) (fun hby82 => ?_)
        · refine z_iinc (z := i + 1) (lv' := [(3, .int (zI (i + 1))), (2, .ref (ad (11 + 1 + 2 + 2 * (z).toNat))), (0, .ref (ad 0)), (1, .int (zI (z)))]) (j := 0) C dX9_toLoad_38 rfl rfl (by decide) rfl ?_
          refine z_goto (tgt := 8) C dX9_toLoad_41 (by decide) ?_
          refine z_lv (lv' := [(3, .int (zI (i + 1))), (2, .ref (ad (11 + 1 + 2 + 2 * (z).toNat))), (0, .ref (ad 0)), (1, .int (zI (z)))]) [0, 1, 2, 3] rfl ?_
          exact ih _ (by omega) (i + 1) _ rfl rfl (by omega)
        · refine z_iload_n C 0 dX9_toLoad_36 rfl ?_
          exact z_rX (z_iret C hr hlk dX9_toLoad_37 (by decide) (by decide) ⟨i, rfl, rfl, rfl, by omega, rfl⟩)
  refine z_lv (lv' := [(3, .int (zI (1))), (2, .ref (ad (11 + 1 + 2 + 2 * (z).toNat))), (0, .ref (ad 0)), (1, .int (zI (z)))]) [0, 1, 2, 3] rfl ?_
  exact lp _ (1) _ rfl rfl (by omega)

set_option maxRecDepth 100000 in
set_option maxHeartbeats 4000000 in
theorem c_X9_steepest (l : Launch) (D : va_G) (A : Nat → Prop) (cs : Nat → ClassId) (tt : Nat) (N : Nat) (ad : Nat → Nat) (g : Nat → va_E) (hN : 952 ≤ N) (t fp im nz kz sl ho ua : Int) (st op ai fa mu tb tp : Nat → Int) (hR : okRec cs ad g N t fp im nz kz sl ho ua st op ai fa mu tb tp) (hl0 : l.stackTraces = false) (z : Int) (hz : -2147483648 ≤ z ∧ z ≤ 2147483647) : zMX l yX9_steepest cX9_steepest 4 (some .int) ({ frames := 12, cells := 6, slots := 36, locals := 720 } : Room) D A cs tt N ad g [.ref (ad 0), .int (zI (z))] (rI0 N ad fun r g' => (-2147483648 ≤ r ∧ r ≤ 2147483647) ∧ g = g') (fun E N' ad' g' => E = eNS ∧ N' = N ∧ ad' = ad ∧ g' = g) := by
  obtain ⟨ary1, bry1, cry1, dry1, ery1, fry1, gry11, hry1, ⟨acry1, iry1⟩, ⟨kcry1, jry1⟩, kry1, lry1, mry1, nry1, ory1, pry1⟩ := id hR
  have hay2 : zAt ad (0) (ad 0) := rfl
  have hay3 : zAt ad (1) (ad 1) := rfl
  have hay4 : zAt ad (2) (ad 2) := rfl
  have hay5 : zAt ad (4) (ad 4) := rfl
  have hay6 : zAt ad (11) (ad 11) := rfl
  have hay7 : zAt ad (447) (ad 447) := rfl
  have hay8 : zAt ad (883) (ad 883) := rfl
  have hay9 : zAt ad (890) (ad 890) := rfl
  have hay10 : zAt ad (900) (ad 900) := rfl
  have hay11 : zAt ad (910) (ad 910) := rfl
  have hay12 : zAt ad (917) (ad 917) := rfl
  have hay13 : zAt ad (919) (ad 919) := rfl
  have hay14 : zAt ad (4 + 1) (ad (4 + 1)) := rfl
  have hay15 : zAt ad (4 + 2) (ad (4 + 2)) := rfl
  have hay16 : zAt ad (4 + 3) (ad (4 + 3)) := rfl
  have hay17 : zAt ad (4 + 4) (ad (4 + 4)) := rfl
  have hay18 : zAt ad (4 + 5) (ad (4 + 5)) := rfl
  have hay19 : zAt ad (4 + 6) (ad (4 + 6)) := rfl
  obtain ⟨thcy20, zhcy20, ohcy20, rhcy20, hzhcy20, hthcy20, hwhcy20⟩ := id lry1
  obtain ⟨thcy21, zhcy21, ohcy21, rhcy21, hzhcy21, hthcy21, hwhcy21⟩ := id mry1
  obtain ⟨asy22, bsy22, csy22, dsy22, esy22, ⟨ptsy22, fsy22, gsy221⟩, hsy22, ⟨nusy22, nvsy22, nwsy22, isy22, jsy22, ksy22, lsy22, msy22, nsy22⟩, rfsy22, osy22⟩ := id iry1
  have hay23 : zAt ad (11 + 1) (ad (11 + 1)) := rfl
  have hay24 : zAt ad (11 + 11) (ad (11 + 11)) := rfl
  have hay25 : zAt ad (11 + 12) (ad (11 + 12)) := rfl
  have hay26 : zAt ad (11 + 13) (ad (11 + 13)) := rfl
  have hay27 : zAt ad (11 + 13 + 1) (ad (11 + 13 + 1)) := rfl
  have hay28 : zAt ad (11 + 13 + 2) (ad (11 + 13 + 2)) := rfl
  have hay29 : zAt ad (11 + 13 + 3) (ad (11 + 13 + 3)) := rfl
  have hay30 : zAt ad (11 + 17) (ad (11 + 17)) := rfl
  obtain ⟨uy31t, uy31z, uy31o, uy31r, uy31z4, uy31t5, uy311, ⟨uy31u, uy312, uy313⟩, uy314⟩ := id csy22
  have hay32 : zAt ad (11 + 1) (ad (11 + 1)) := rfl
  have hay33 : zAt ad (11 + 1 + 1) (ad (11 + 1 + 1)) := rfl
  refine z_ofX (by decide) (Nat.le_of_ble_eq_true rfl) ?_
  intro p e s m below meth c C hr hlk hxt
  refine z_lv (lv' := [(0, .ref (ad 0)), (1, .int (zI (z)))]) [0, 1] rfl ?_
  refine z_aload_n C 0 dX9_steepest_0 rfl ?_
  refine z_iload_n C 1 dX9_steepest_1 rfl ?_
  have hrecy35 : okRec cs ad g N (t) (fp) (im) (nz) (kz) (sl) (ho) (ua) (st) (op) (ai) (fa) (mu) (tb) (tp) := ⟨ary1, bry1, cry1, dry1, ery1, fry1, gry11, hry1, ⟨_, iry1⟩, ⟨_, jry1⟩, kry1, lry1, mry1, nry1, ory1, pry1⟩
  refine z_cVX (As := [.int (zI (z))]) (rest := []) (ci := 11) C (c_X9_packOf l D A cs tt N ad _ hN _ _ _ _ _ _ _ _ _ _ _ _ _ _ _ hrecy35 hl0 (z) (by omega)) (lt_K hN (rfl : Nat.blt (0) 952 = true)) hay2 ary1 rfl rfl mv_yX9_packOf q_936 hd_yX9_packOf (by decide) (Nat.le_of_ble_eq_true rfl) (by decide) dX9_steepest_2 rfl (fun E N' ad' g' h => by obtain ⟨rfl, rfl, rfl, rfl⟩ := h; exact z_uout C hxt hlk (by decide) (by decide) ⟨rfl, rfl, rfl, rfl⟩) (kR0 fun avy34 gvy34 hvy34 => ?_)
  obtain ⟨hvy34, rfl, rfl⟩ := hvy34
  have hay36 : zAt ad (11 + 1 + 2 + 2 * (z).toNat) (ad (11 + 1 + 2 + 2 * (z).toNat)) := rfl
  have hay37 : zAt ad (11 + 1 + 2 + 2 * (z).toNat + 1) (ad (11 + 1 + 2 + 2 * (z).toNat + 1)) := rfl
  have hpy38 := uy314 (z).toNat (by omega)
  have hqy39 := uy31z4 (z).toNat (by omega)
  refine z_astore_n (lv' := [(2, .ref (ad (11 + 1 + 2 + 2 * (z).toNat))), (0, .ref (ad 0)), (1, .int (zI (z)))]) C dX9_steepest_5 rfl (by decide) rfl ?_
  refine z_bipush (z := 90) C dX9_steepest_6 (by decide) ?_
  refine z_istore_n (lv' := [(3, .int (zI (90))), (2, .ref (ad (11 + 1 + 2 + 2 * (z).toNat))), (0, .ref (ad 0)), (1, .int (zI (z)))]) C dX9_steepest_8 rfl (by decide) rfl ?_
  have lp : ∀ (n9 : Nat) (i : Int) (g1 : Nat → va_E), (i).toNat = n9 → (g1 = g) → (0 ≤ i ∧ i ≤ 90) → zV p l e ({ frames := 12, cells := 6, slots := 36, locals := 720 } : Room) s m ([.ref (ad 0), .int (zI (z))] : List Value).toArray below meth c (vx_MQ below (zPost D A (rI0 N ad fun r g' => (-2147483648 ≤ r ∧ r ≤ 2147483647) ∧ g = g')) (zX D A (fun E N' ad' g' => E = eNS ∧ N' = N ∧ ad' = ad ∧ g' = g)) ([.ref (ad 0), .int (zI (z))] : List Value).toArray s ({ frames := 12, cells := 6, slots := 36, locals := 720 } : Room).cells ({ frames := 12, cells := 6, slots := 36, locals := 720 } : Room).slots A) D A 4 (N) ad g1 (1) (6) 9 [(3, .int (zI (i))), (2, .ref (ad (11 + 1 + 2 + 2 * (z).toNat))), (0, .ref (ad 0)), (1, .int (zI (z)))] [] := by
    intro n9
    induction n9 using Nat.strongRecOn with
    | ind n9 ih =>
      intro i g1 hm9 hg1 hv0
      subst hg1
      obtain ⟨ary40, bry40, cry40, dry40, ery40, fry40, gry401, hry40, ⟨acry40, iry40⟩, ⟨kcry40, jry40⟩, kry40, lry40, mry40, nry40, ory40, pry40⟩ := id hR
      have hay41 : zAt ad (0) (ad 0) := rfl
      have hay42 : zAt ad (1) (ad 1) := rfl
      have hay43 : zAt ad (2) (ad 2) := rfl
      have hay44 : zAt ad (4) (ad 4) := rfl
      have hay45 : zAt ad (11) (ad 11) := rfl
      have hay46 : zAt ad (447) (ad 447) := rfl
      have hay47 : zAt ad (883) (ad 883) := rfl
      have hay48 : zAt ad (890) (ad 890) := rfl
      have hay49 : zAt ad (900) (ad 900) := rfl
      have hay50 : zAt ad (910) (ad 910) := rfl
      have hay51 : zAt ad (917) (ad 917) := rfl
      have hay52 : zAt ad (919) (ad 919) := rfl
      have hay53 : zAt ad (4 + 1) (ad (4 + 1)) := rfl
      have hay54 : zAt ad (4 + 2) (ad (4 + 2)) := rfl
      have hay55 : zAt ad (4 + 3) (ad (4 + 3)) := rfl
      have hay56 : zAt ad (4 + 4) (ad (4 + 4)) := rfl
      have hay57 : zAt ad (4 + 5) (ad (4 + 5)) := rfl
      have hay58 : zAt ad (4 + 6) (ad (4 + 6)) := rfl
      obtain ⟨thcy59, zhcy59, ohcy59, rhcy59, hzhcy59, hthcy59, hwhcy59⟩ := id lry40
      obtain ⟨thcy60, zhcy60, ohcy60, rhcy60, hzhcy60, hthcy60, hwhcy60⟩ := id mry40
      obtain ⟨asy61, bsy61, csy61, dsy61, esy61, ⟨ptsy61, fsy61, gsy611⟩, hsy61, ⟨nusy61, nvsy61, nwsy61, isy61, jsy61, ksy61, lsy61, msy61, nsy61⟩, rfsy61, osy61⟩ := id iry40
      have hay62 : zAt ad (11 + 1) (ad (11 + 1)) := rfl
      have hay63 : zAt ad (11 + 11) (ad (11 + 11)) := rfl
      have hay64 : zAt ad (11 + 12) (ad (11 + 12)) := rfl
      have hay65 : zAt ad (11 + 13) (ad (11 + 13)) := rfl
      have hay66 : zAt ad (11 + 13 + 1) (ad (11 + 13 + 1)) := rfl
      have hay67 : zAt ad (11 + 13 + 2) (ad (11 + 13 + 2)) := rfl
      have hay68 : zAt ad (11 + 13 + 3) (ad (11 + 13 + 3)) := rfl
      have hay69 : zAt ad (11 + 17) (ad (11 + 17)) := rfl
      obtain ⟨uy70t, uy70z, uy70o, uy70r, uy70z4, uy70t5, uy701, ⟨uy70u, uy702, uy703⟩, uy704⟩ := id csy61
      have hay71 : zAt ad (11 + 1) (ad (11 + 1)) := rfl
      have hay72 : zAt ad (11 + 1 + 1) (ad (11 + 1 + 1)) := rfl
      have hay73 : zAt ad (11 + 1 + 2 + 2 * (z).toNat) (ad (11 + 1 + 2 + 2 * (z).toNat)) := rfl
      have hay74 : zAt ad (11 + 1 + 2 + 2 * (z).toNat + 1) (ad (11 + 1 + 2 + 2 * (z).toNat + 1)) := rfl
      have hpy75 := uy704 (z).toNat (by omega)
      have hqy76 := uy70z4 (z).toNat (by omega)
      refine z_iload_n C 0 dX9_steepest_9 rfl ?_
      refine z_if_le (tgt := 35) C dX9_steepest_10 (by decide) (by omega) (fun hby77 => ?_) (fun hby77 => ?_)
      · refine z_iconst (z := 0) C dX9_steepest_35 rfl ?_
        exact z_rX (z_iret C hr hlk dX9_steepest_36 (by decide) (by decide) ⟨0, rfl, rfl, rfl, by omega, rfl⟩)
      · refine z_aload_n C 1 dX9_steepest_13 rfl ?_
        refine z_iload_n C 0 dX9_steepest_14 rfl ?_
        refine z_iconst (z := 0) C dX9_steepest_15 rfl ?_
        refine z_aload_n C 2 dX9_steepest_16 rfl ?_
        refine z_get (v := .ref (ad 4)) C (lt_K hN (rfl : Nat.blt (0) 952 = true)) hay41 ary40 rfl inA_X9 4 (by decide) q_353 rfl rfl dX9_steepest_17 ?_
        refine z_cV (As := [.int (zI (i)), .int (zI (0)), .ref (ad 4)]) (rest := []) (ci := 5) C (c_X3_lowestUnstable l D A cs tt N ad _ (11 + 1 + 2 + 2 * (z).toNat) (by omega) _ _ _ (by omega) ⟨hpy75.1, hpy75.2⟩ (4) (by omega) _ _ _ _ _ _ _ _ _ ⟨fry40.1, fry40.2.1, fry40.2.2.1, fry40.2.2.2.1, fry40.2.2.2.2.1, fry40.2.2.2.2.2.1, fry40.2.2.2.2.2.2⟩ (i) (by omega) (0) (by omega)) (by omega) hay73 hpy75.1 rfl rfl mv_yX3_lowestUnstable q_564 hd_yX3_lowestUnstable (by decide) (Nat.le_of_ble_eq_true rfl) (by decide) dX9_steepest_20 rfl (kI0 fun vy78 gvy78 hvy78 => ?_)
        obtain ⟨hvy78, rfl⟩ := hvy78
        refine z_iconst (z := -1) C dX9_steepest_23 rfl ?_
        refine z_icmp_ne (tgt := 29) C dX9_steepest_24 (by decide) (by omega) (by omega) (fun hby79 => ?_) (fun hby79 => ?_)
        · refine z_iinc (z := i - 1) (lv' := [(3, .int (zI (i - 1))), (2, .ref (ad (11 + 1 + 2 + 2 * (z).toNat))), (0, .ref (ad 0)), (1, .int (zI (z)))]) (j := 0) C dX9_steepest_29 rfl (congrArg zI (by omega)) (by decide) rfl ?_
          refine z_goto (tgt := 9) C dX9_steepest_32 (by decide) ?_
          refine z_lv (lv' := [(3, .int (zI (i - 1))), (2, .ref (ad (11 + 1 + 2 + 2 * (z).toNat))), (0, .ref (ad 0)), (1, .int (zI (z)))]) [0, 1, 2, 3] rfl ?_
          exact ih _ (by omega) (i - 1) _ rfl rfl (by omega)
        · refine z_iload_n C 0 dX9_steepest_27 rfl ?_
          exact z_rX (z_iret C hr hlk dX9_steepest_28 (by decide) (by decide) ⟨i, rfl, rfl, rfl, by omega, rfl⟩)
  refine z_lv (lv' := [(3, .int (zI (90))), (2, .ref (ad (11 + 1 + 2 + 2 * (z).toNat))), (0, .ref (ad 0)), (1, .int (zI (z)))]) [0, 1, 2, 3] rfl ?_
  exact lp _ (90) _ rfl rfl (by omega)

set_option maxRecDepth 100000 in
set_option maxHeartbeats 4000000 in
theorem c_X9_pitOf (l : Launch) (D : va_G) (A : Nat → Prop) (cs : Nat → ClassId) (tt : Nat) (N : Nat) (ad : Nat → Nat) (g : Nat → va_E) (hN : 952 ≤ N) (t fp im nz kz sl ho ua : Int) (st op ai fa mu tb tp : Nat → Int) (hR : okRec cs ad g N t fp im nz kz sl ho ua st op ai fa mu tb tp) (hl0 : l.stackTraces = false) (z : Int) (hz : -2147483648 ≤ z ∧ z ≤ 2147483647) (z1 : Int) (hz1 : -2147483648 ≤ z1 ∧ z1 ≤ 2147483647) : zMX l yX9_pitOf cX9_pitOf 3 (some .int) ({ frames := 12, cells := 6, slots := 36, locals := 720 } : Room) D A cs tt N ad g [.ref (ad 0), .int (zI (z)), .int (zI (z1))] (rI0 N ad fun r g' => (-2147483648 ≤ r ∧ r ≤ 2147483647) ∧ g = g') (fun E N' ad' g' => E = eNS ∧ N' = N ∧ ad' = ad ∧ g' = g) := by
  obtain ⟨ary1, bry1, cry1, dry1, ery1, fry1, gry11, hry1, ⟨acry1, iry1⟩, ⟨kcry1, jry1⟩, kry1, lry1, mry1, nry1, ory1, pry1⟩ := id hR
  have hay2 : zAt ad (0) (ad 0) := rfl
  have hay3 : zAt ad (1) (ad 1) := rfl
  have hay4 : zAt ad (2) (ad 2) := rfl
  have hay5 : zAt ad (4) (ad 4) := rfl
  have hay6 : zAt ad (11) (ad 11) := rfl
  have hay7 : zAt ad (447) (ad 447) := rfl
  have hay8 : zAt ad (883) (ad 883) := rfl
  have hay9 : zAt ad (890) (ad 890) := rfl
  have hay10 : zAt ad (900) (ad 900) := rfl
  have hay11 : zAt ad (910) (ad 910) := rfl
  have hay12 : zAt ad (917) (ad 917) := rfl
  have hay13 : zAt ad (919) (ad 919) := rfl
  have hay14 : zAt ad (4 + 1) (ad (4 + 1)) := rfl
  have hay15 : zAt ad (4 + 2) (ad (4 + 2)) := rfl
  have hay16 : zAt ad (4 + 3) (ad (4 + 3)) := rfl
  have hay17 : zAt ad (4 + 4) (ad (4 + 4)) := rfl
  have hay18 : zAt ad (4 + 5) (ad (4 + 5)) := rfl
  have hay19 : zAt ad (4 + 6) (ad (4 + 6)) := rfl
  obtain ⟨thcy20, zhcy20, ohcy20, rhcy20, hzhcy20, hthcy20, hwhcy20⟩ := id lry1
  obtain ⟨thcy21, zhcy21, ohcy21, rhcy21, hzhcy21, hthcy21, hwhcy21⟩ := id mry1
  obtain ⟨asy22, bsy22, csy22, dsy22, esy22, ⟨ptsy22, fsy22, gsy221⟩, hsy22, ⟨nusy22, nvsy22, nwsy22, isy22, jsy22, ksy22, lsy22, msy22, nsy22⟩, rfsy22, osy22⟩ := id iry1
  have hay23 : zAt ad (11 + 1) (ad (11 + 1)) := rfl
  have hay24 : zAt ad (11 + 11) (ad (11 + 11)) := rfl
  have hay25 : zAt ad (11 + 12) (ad (11 + 12)) := rfl
  have hay26 : zAt ad (11 + 13) (ad (11 + 13)) := rfl
  have hay27 : zAt ad (11 + 13 + 1) (ad (11 + 13 + 1)) := rfl
  have hay28 : zAt ad (11 + 13 + 2) (ad (11 + 13 + 2)) := rfl
  have hay29 : zAt ad (11 + 13 + 3) (ad (11 + 13 + 3)) := rfl
  have hay30 : zAt ad (11 + 17) (ad (11 + 17)) := rfl
  obtain ⟨uy31t, uy31z, uy31o, uy31r, uy31z4, uy31t5, uy311, ⟨uy31u, uy312, uy313⟩, uy314⟩ := id csy22
  have hay32 : zAt ad (11 + 1) (ad (11 + 1)) := rfl
  have hay33 : zAt ad (11 + 1 + 1) (ad (11 + 1 + 1)) := rfl
  refine z_ofX (by decide) (Nat.le_of_ble_eq_true rfl) ?_
  intro p e s m below meth c C hr hlk hxt
  refine z_lv (lv' := [(0, .ref (ad 0)), (1, .int (zI (z))), (2, .int (zI (z1)))]) [0, 1, 2] rfl ?_
  refine z_aload_n C 0 dX9_pitOf_0 rfl ?_
  refine z_iload_n C 1 dX9_pitOf_1 rfl ?_
  have hrecy35 : okRec cs ad g N (t) (fp) (im) (nz) (kz) (sl) (ho) (ua) (st) (op) (ai) (fa) (mu) (tb) (tp) := ⟨ary1, bry1, cry1, dry1, ery1, fry1, gry11, hry1, ⟨_, iry1⟩, ⟨_, jry1⟩, kry1, lry1, mry1, nry1, ory1, pry1⟩
  refine z_cVX (As := [.int (zI (z))]) (rest := []) (ci := 11) C (c_X9_needPit l D A cs tt N ad _ hN _ _ _ _ _ _ _ _ _ _ _ _ _ _ _ hrecy35 hl0 (z) (by omega)) (lt_K hN (rfl : Nat.blt (0) 952 = true)) hay2 ary1 rfl rfl mv_yX9_needPit q_1316 hd_yX9_needPit (by decide) (Nat.le_of_ble_eq_true rfl) (by decide) dX9_pitOf_2 rfl (fun E N' ad' g' h => by obtain ⟨rfl, rfl, rfl, rfl⟩ := h; exact z_uout C hxt hlk (by decide) (by decide) ⟨rfl, rfl, rfl, rfl⟩) (kV0 fun gvy34 hvy34 => ?_)
  obtain ⟨hvy34, rfl⟩ := hvy34
  refine z_iload_n C 2 dX9_pitOf_5 rfl ?_
  by_cases hsy36 : z1 ≠ 0 ∧ z1 ≠ 1 ∧ z1 ≠ 2
  · refine z_tout (tgt := 74) C dX9_pitOf_6 (by omega) (by omega) (by decide) ?_
    exact z_thrNW (cls := eNS) (text := "no such thing of a pit") C hl0 (ix := 13) (rx := nsB) ns0 ns1 ns2 ns5 (by decide +kernel) q_904 q_24 (by decide +kernel) at_NS gd_NS dX9_pitOf_74 dX9_pitOf_77 dX9_pitOf_78 dX9_pitOf_81 dX9_pitOf_84 hxt (by decide) (Nat.le_of_ble_eq_true rfl) (by decide) (by decide) hlk (by decide) (by decide) ⟨rfl, rfl, rfl, rfl⟩
  · rcases (show z1 = 0 ∨ z1 = 1 ∨ z1 = 2 by omega) with rfl | rfl | rfl
    · refine z_tin (off := 26) (tgt := 32) C dX9_pitOf_6 (by omega) (by omega) (by omega) rfl (by decide) ?_
      refine z_aload_n C 0 dX9_pitOf_32 rfl ?_
      refine z_get (v := .ref (ad 11)) C (lt_K hN (rfl : Nat.blt (0) 952 = true)) hay2 ary1 rfl inA_X9 5 (by decide) q_354 rfl rfl dX9_pitOf_33 ?_
      refine z_get (v := .ref (ad (11 + 12))) C (lt_K hN (rfl : Nat.blt (11) 952 = true)) hay6 iry1.1 rfl inA_X6 3 (by decide) q_263 rfl rfl dX9_pitOf_36 ?_
      refine z_iload_n C 1 dX9_pitOf_39 rfl ?_
      refine z_aald C (lt_K hN (rfl : Nat.blt (11 + 12) 952 = true)) hay25 fsy22 5 rfl ((z).toNat) (by omega) (by omega) (by decide) (gsy221 (z).toNat (by omega)) dX9_pitOf_40 ?_
      have hay37 : zAt ad (11 + 418 + 3 * (z).toNat) (ad (11 + 418 + 3 * (z).toNat)) := rfl
      have hay38 : zAt ad (11 + 418 + 3 * (z).toNat + 1) (ad (11 + 418 + 3 * (z).toNat + 1)) := rfl
      have hay39 : zAt ad (11 + 418 + 3 * (z).toNat + 1 + 1) (ad (11 + 418 + 3 * (z).toNat + 1 + 1)) := rfl
      obtain ⟨lpy40, tpy40, zpy40, opy40, rpy40, h1py40, h2py40, h3py40, h4py40⟩ := hsy22 (z).toNat (by omega)
      refine z_get (v := .int (zI (lpy40))) C (by omega) hay37 h3py40 rfl inA_X4 0 (by decide) q_243 rfl rfl dX9_pitOf_41 ?_
      exact z_rX (z_iret C hr hlk dX9_pitOf_44 (by decide) (by decide) ⟨lpy40, rfl, rfl, rfl, by omega, rfl⟩)
    · refine z_tin (off := 39) (tgt := 45) C dX9_pitOf_6 (by omega) (by omega) (by omega) rfl (by decide) ?_
      refine z_aload_n C 0 dX9_pitOf_45 rfl ?_
      refine z_get (v := .ref (ad 11)) C (lt_K hN (rfl : Nat.blt (0) 952 = true)) hay2 ary1 rfl inA_X9 5 (by decide) q_354 rfl rfl dX9_pitOf_46 ?_
      refine z_get (v := .ref (ad (11 + 12))) C (lt_K hN (rfl : Nat.blt (11) 952 = true)) hay6 iry1.1 rfl inA_X6 3 (by decide) q_263 rfl rfl dX9_pitOf_49 ?_
      refine z_iload_n C 1 dX9_pitOf_52 rfl ?_
      refine z_aald C (lt_K hN (rfl : Nat.blt (11 + 12) 952 = true)) hay25 fsy22 5 rfl ((z).toNat) (by omega) (by omega) (by decide) (gsy221 (z).toNat (by omega)) dX9_pitOf_53 ?_
      have hay41 : zAt ad (11 + 418 + 3 * (z).toNat) (ad (11 + 418 + 3 * (z).toNat)) := rfl
      have hay42 : zAt ad (11 + 418 + 3 * (z).toNat + 1) (ad (11 + 418 + 3 * (z).toNat + 1)) := rfl
      have hay43 : zAt ad (11 + 418 + 3 * (z).toNat + 1 + 1) (ad (11 + 418 + 3 * (z).toNat + 1 + 1)) := rfl
      obtain ⟨lpy44, tpy44, zpy44, opy44, rpy44, h1py44, h2py44, h3py44, h4py44⟩ := hsy22 (z).toNat (by omega)
      refine z_get (v := .ref (ad (11 + 418 + 3 * (z).toNat + 1))) C (by omega) hay41 h3py44 rfl inA_X4 2 (by decide) q_249 rfl rfl dX9_pitOf_54 ?_
      refine z_get (v := .int (zI (zpy44))) C (by omega) hay42 h4py44.1 rfl inA_X3 0 (by decide) q_158 rfl rfl dX9_pitOf_57 ?_
      exact z_rX (z_iret C hr hlk dX9_pitOf_60 (by decide) (by decide) ⟨zpy44, rfl, rfl, rfl, by omega, rfl⟩)
    · refine z_tin (off := 55) (tgt := 61) C dX9_pitOf_6 (by omega) (by omega) (by omega) rfl (by decide) ?_
      refine z_aload_n C 0 dX9_pitOf_61 rfl ?_
      refine z_get (v := .ref (ad 11)) C (lt_K hN (rfl : Nat.blt (0) 952 = true)) hay2 ary1 rfl inA_X9 5 (by decide) q_354 rfl rfl dX9_pitOf_62 ?_
      refine z_get (v := .ref (ad (11 + 12))) C (lt_K hN (rfl : Nat.blt (11) 952 = true)) hay6 iry1.1 rfl inA_X6 3 (by decide) q_263 rfl rfl dX9_pitOf_65 ?_
      refine z_iload_n C 1 dX9_pitOf_68 rfl ?_
      refine z_aald C (lt_K hN (rfl : Nat.blt (11 + 12) 952 = true)) hay25 fsy22 5 rfl ((z).toNat) (by omega) (by omega) (by decide) (gsy221 (z).toNat (by omega)) dX9_pitOf_69 ?_
      have hay45 : zAt ad (11 + 418 + 3 * (z).toNat) (ad (11 + 418 + 3 * (z).toNat)) := rfl
      have hay46 : zAt ad (11 + 418 + 3 * (z).toNat + 1) (ad (11 + 418 + 3 * (z).toNat + 1)) := rfl
      have hay47 : zAt ad (11 + 418 + 3 * (z).toNat + 1 + 1) (ad (11 + 418 + 3 * (z).toNat + 1 + 1)) := rfl
      obtain ⟨lpy48, tpy48, zpy48, opy48, rpy48, h1py48, h2py48, h3py48, h4py48⟩ := hsy22 (z).toNat (by omega)
      refine z_get (v := .int (zI (tpy48))) C (by omega) hay45 h3py48 rfl inA_X4 1 (by decide) q_246 rfl rfl dX9_pitOf_70 ?_
      obtain ⟨xy49, exy50, hxy51⟩ := zI_of (zI (tpy48))
      rw [exy50]
      exact z_rX (z_iret C hr hlk dX9_pitOf_73 (by decide) (by decide) ⟨xy49, rfl, rfl, rfl, by omega, rfl⟩)
end
section
-- 44.words.lean.txt
-- words of run
theorem q_1224 : (Jvm.Cond.methodLink "SnowRecorder" (307 : Nat) ({ cls := "SnowRecorder", name := "needHours", desc := "(III)V" } : Jvm.MethodName)) ∈ AW := AW_m6 24 (by decide +kernel) (by decide +kernel)
theorem q_1225 : (Jvm.Cond.static ({ cls := "SnowRecorder", name := "needHours", desc := "(III)V" } : Jvm.MethodName)) ∈ AW := AW_m6 25 (by decide +kernel) (by decide +kernel)
theorem q_1226 : (Jvm.Cond.code ({ cls := "SnowRecorder", name := "needHours", desc := "(III)V" } : Jvm.MethodName) prog_1_method_43_code (3 : Nat) (Option.none : Option Jvm.ClassFile.FieldType)) ∈ AW := AW_m6 26 (by decide +kernel) (by decide +kernel)
theorem q_1228 : (Jvm.Cond.methodLink "SnowRecorder" (311 : Nat) ({ cls := "SnowRecorder$World", name := "copyFrom", desc := "(LSnowRecorder$World;)V" } : Jvm.MethodName)) ∈ AW := AW_m6 28 (by decide +kernel) (by decide +kernel)
theorem q_1229 : (Jvm.Cond.methodLink "SnowRecorder" (313 : Nat) ({ cls := "SnowRecorder$Pack", name := "nameOf", desc := "(I)I" } : Jvm.MethodName)) ∈ AW := AW_m6 29 (by decide +kernel) (by decide +kernel)
theorem q_1230 : (Jvm.Cond.instanceMethod ({ cls := "SnowRecorder$Pack", name := "nameOf", desc := "(I)I" } : Jvm.MethodName)) ∈ AW := AW_m6 30 (by decide +kernel) (by decide +kernel)
theorem q_1231 : (Jvm.Cond.selects "SnowRecorder$Pack" ({ cls := "SnowRecorder$Pack", name := "nameOf", desc := "(I)I" } : Jvm.MethodName) ({ cls := "SnowRecorder$Pack", name := "nameOf", desc := "(I)I" } : Jvm.MethodName)) ∈ AW := AW_m6 31 (by decide +kernel) (by decide +kernel)
theorem q_1232 : (Jvm.Cond.code ({ cls := "SnowRecorder$Pack", name := "nameOf", desc := "(I)I" } : Jvm.MethodName) prog_5_method_7_code (2 : Nat) (Option.some Jvm.ClassFile.FieldType.int)) ∈ AW := AW_m6 32 (by decide +kernel) (by decide +kernel)
theorem q_1248 : (Jvm.Cond.methodLink "SnowRecorder" (318 : Nat) ({ cls := "SnowRecorder$World", name := "has", desc := "(I)Z" } : Jvm.MethodName)) ∈ AW := AW_m6 48 (by decide +kernel) (by decide +kernel)
theorem q_1249 : (Jvm.Cond.instanceMethod ({ cls := "SnowRecorder$World", name := "has", desc := "(I)Z" } : Jvm.MethodName)) ∈ AW := AW_m6 49 (by decide +kernel) (by decide +kernel)
theorem q_1250 : (Jvm.Cond.selects "SnowRecorder$World" ({ cls := "SnowRecorder$World", name := "has", desc := "(I)Z" } : Jvm.MethodName) ({ cls := "SnowRecorder$World", name := "has", desc := "(I)Z" } : Jvm.MethodName)) ∈ AW := AW_m6 50 (by decide +kernel) (by decide +kernel)
theorem q_1251 : (Jvm.Cond.code ({ cls := "SnowRecorder$World", name := "has", desc := "(I)Z" } : Jvm.MethodName) prog_10_method_7_code (3 : Nat) (Option.some Jvm.ClassFile.FieldType.boolean)) ∈ AW := AW_m6 51 (by decide +kernel) (by decide +kernel)
theorem q_1288 : (Jvm.Cond.methodLink "SnowRecorder" (324 : Nat) ({ cls := "SnowRecorder$Plan", name := "warm", desc := "(I)V" } : Jvm.MethodName)) ∈ AW := AW_m6 88 (by decide +kernel) (by decide +kernel)
theorem q_1289 : (Jvm.Cond.instanceMethod ({ cls := "SnowRecorder$Plan", name := "warm", desc := "(I)V" } : Jvm.MethodName)) ∈ AW := AW_m6 89 (by decide +kernel) (by decide +kernel)
theorem q_1290 : (Jvm.Cond.selects "SnowRecorder$Plan" ({ cls := "SnowRecorder$Plan", name := "warm", desc := "(I)V" } : Jvm.MethodName) ({ cls := "SnowRecorder$Plan", name := "warm", desc := "(I)V" } : Jvm.MethodName)) ∈ AW := AW_m6 90 (by decide +kernel) (by decide +kernel)
theorem q_1291 : (Jvm.Cond.code ({ cls := "SnowRecorder$Plan", name := "warm", desc := "(I)V" } : Jvm.MethodName) prog_7_method_4_code (3 : Nat) (Option.none : Option Jvm.ClassFile.FieldType)) ∈ AW := AW_m6 91 (by decide +kernel) (by decide +kernel)
theorem q_1292 : (Jvm.Cond.methodLink "SnowRecorder$Plan" (54 : Nat) ({ cls := "java/lang/Math", name := "min", desc := "(II)I" } : Jvm.MethodName)) ∈ AW := AW_m6 92 (by decide +kernel) (by decide +kernel)
theorem q_1293 : (Jvm.Cond.methodLink "SnowRecorder" (327 : Nat) ({ cls := "SnowRecorder", name := "isOnceUnstable", desc := "(II)Z" } : Jvm.MethodName)) ∈ AW := AW_m6 93 (by decide +kernel) (by decide +kernel)
theorem q_1295 : (Jvm.Cond.instanceMethod ({ cls := "SnowRecorder", name := "isOnceUnstable", desc := "(II)Z" } : Jvm.MethodName)) ∈ AW := AW_m6 95 (by decide +kernel) (by decide +kernel)
theorem q_1296 : (Jvm.Cond.code ({ cls := "SnowRecorder", name := "isOnceUnstable", desc := "(II)Z" } : Jvm.MethodName) prog_1_method_48_code (4 : Nat) (Option.some Jvm.ClassFile.FieldType.boolean)) ∈ AW := AW_m6 96 (by decide +kernel) (by decide +kernel)
theorem q_431 : (Jvm.Cond.methodLink "SnowRecorder" (261 : Nat) ({ cls := "SnowRecorder$Plan", name := "allSlopes", desc := "()I" } : Jvm.MethodName)) ∈ AW := AW_m2 191 (by decide +kernel) (by decide +kernel)
theorem q_432 : (Jvm.Cond.instanceMethod ({ cls := "SnowRecorder$Plan", name := "allSlopes", desc := "()I" } : Jvm.MethodName)) ∈ AW := AW_m2 192 (by decide +kernel) (by decide +kernel)
theorem q_433 : (Jvm.Cond.selects "SnowRecorder$Plan" ({ cls := "SnowRecorder$Plan", name := "allSlopes", desc := "()I" } : Jvm.MethodName) ({ cls := "SnowRecorder$Plan", name := "allSlopes", desc := "()I" } : Jvm.MethodName)) ∈ AW := AW_m2 193 (by decide +kernel) (by decide +kernel)
theorem q_434 : (Jvm.Cond.code ({ cls := "SnowRecorder$Plan", name := "allSlopes", desc := "()I" } : Jvm.MethodName) prog_7_method_5_code (1 : Nat) (Option.some Jvm.ClassFile.FieldType.int)) ∈ AW := AW_m2 194 (by decide +kernel) (by decide +kernel)
theorem q_435 : (Jvm.Cond.methodLink "SnowRecorder" (264 : Nat) ({ cls := "SnowRecorder$World", name := "hour", desc := "(LSnowRecorder$Plan;IZ)V" } : Jvm.MethodName)) ∈ AW := AW_m2 195 (by decide +kernel) (by decide +kernel)
theorem q_436 : (Jvm.Cond.instanceMethod ({ cls := "SnowRecorder$World", name := "hour", desc := "(LSnowRecorder$Plan;IZ)V" } : Jvm.MethodName)) ∈ AW := AW_m2 196 (by decide +kernel) (by decide +kernel)
theorem q_437 : (Jvm.Cond.selects "SnowRecorder$World" ({ cls := "SnowRecorder$World", name := "hour", desc := "(LSnowRecorder$Plan;IZ)V" } : Jvm.MethodName) ({ cls := "SnowRecorder$World", name := "hour", desc := "(LSnowRecorder$Plan;IZ)V" } : Jvm.MethodName)) ∈ AW := AW_m2 197 (by decide +kernel) (by decide +kernel)
theorem q_438 : (Jvm.Cond.code ({ cls := "SnowRecorder$World", name := "hour", desc := "(LSnowRecorder$Plan;IZ)V" } : Jvm.MethodName) prog_10_method_8_code (9 : Nat) (Option.none : Option Jvm.ClassFile.FieldType)) ∈ AW := AW_m2 198 (by decide +kernel) (by decide +kernel)
theorem q_560 : (Jvm.Cond.methodLink "SnowRecorder" (287 : Nat) ({ cls := "SnowRecorder", name := "isUnstable", desc := "(LSnowRecorder$World;I)Z" } : Jvm.MethodName)) ∈ AW := AW_m3 80 (by decide +kernel) (by decide +kernel)
theorem q_562 : (Jvm.Cond.instanceMethod ({ cls := "SnowRecorder", name := "isUnstable", desc := "(LSnowRecorder$World;I)Z" } : Jvm.MethodName)) ∈ AW := AW_m3 82 (by decide +kernel) (by decide +kernel)
theorem q_563 : (Jvm.Cond.code ({ cls := "SnowRecorder", name := "isUnstable", desc := "(LSnowRecorder$World;I)Z" } : Jvm.MethodName) prog_1_method_46_code (3 : Nat) (Option.some Jvm.ClassFile.FieldType.boolean)) ∈ AW := AW_m3 83 (by decide +kernel) (by decide +kernel)
theorem q_733 : (Jvm.Cond.methodLink "SnowRecorder$Plan" (48 : Nat) ({ cls := "java/lang/System", name := "arraycopy", desc := "(Ljava/lang/Object;ILjava/lang/Object;II)V" } : Jvm.MethodName)) ∈ AW := AW_m4 13 (by decide +kernel) (by decide +kernel)
theorem q_862 : (Jvm.Cond.methodLink "SnowRecorder" (104 : Nat) ({ cls := "SnowRecorder$Plan", name := "copyFrom", desc := "(LSnowRecorder$Plan;)V" } : Jvm.MethodName)) ∈ AW := AW_m4 142 (by decide +kernel) (by decide +kernel)
theorem q_863 : (Jvm.Cond.instanceMethod ({ cls := "SnowRecorder$Plan", name := "copyFrom", desc := "(LSnowRecorder$Plan;)V" } : Jvm.MethodName)) ∈ AW := AW_m4 143 (by decide +kernel) (by decide +kernel)
theorem q_864 : (Jvm.Cond.selects "SnowRecorder$Plan" ({ cls := "SnowRecorder$Plan", name := "copyFrom", desc := "(LSnowRecorder$Plan;)V" } : Jvm.MethodName) ({ cls := "SnowRecorder$Plan", name := "copyFrom", desc := "(LSnowRecorder$Plan;)V" } : Jvm.MethodName)) ∈ AW := AW_m4 144 (by decide +kernel) (by decide +kernel)
theorem q_865 : (Jvm.Cond.code ({ cls := "SnowRecorder$Plan", name := "copyFrom", desc := "(LSnowRecorder$Plan;)V" } : Jvm.MethodName) prog_7_method_3_code (2 : Nat) (Option.none : Option Jvm.ClassFile.FieldType)) ∈ AW := AW_m4 145 (by decide +kernel) (by decide +kernel)
theorem s_27 : Cond.selects "SnowRecorder" ({ cls := "SnowRecorder", name := "isOnceUnstable", desc := "(II)Z" } : Jvm.MethodName) ({ cls := "SnowRecorder", name := "isOnceUnstable", desc := "(II)Z" } : Jvm.MethodName) ∈ AW := AW_m 27 (by decide +kernel) (by decide +kernel)
theorem s_7 : Cond.selects "SnowRecorder" ({ cls := "SnowRecorder", name := "isUnstable", desc := "(LSnowRecorder$World;I)Z" } : Jvm.MethodName) ({ cls := "SnowRecorder", name := "isUnstable", desc := "(LSnowRecorder$World;I)Z" } : Jvm.MethodName) ∈ AW := AW_m 7 (by decide +kernel) (by decide +kernel)
theorem hd_yX8_hour : yX8_hour.cls ≠ "java/lang/invoke/MethodHandle" ∧ yX8_hour.cls ≠ "java/lang/invoke/VarHandle" ∧ (parseMethodDescriptor yX8_hour.desc).map (fun d => d.parameters.length) = some 3 := by decide +kernel
theorem hd_yX9_isUnstable : yX9_isUnstable.cls ≠ "java/lang/invoke/MethodHandle" ∧ yX9_isUnstable.cls ≠ "java/lang/invoke/VarHandle" ∧ (parseMethodDescriptor yX9_isUnstable.desc).map (fun d => d.parameters.length) = some 2 := by decide +kernel
theorem hd_yX8_has : yX8_has.cls ≠ "java/lang/invoke/MethodHandle" ∧ yX8_has.cls ≠ "java/lang/invoke/VarHandle" ∧ (parseMethodDescriptor yX8_has.desc).map (fun d => d.parameters.length) = some 1 := by decide +kernel
theorem hd_yX5_allSlopes : yX5_allSlopes.cls ≠ "java/lang/invoke/MethodHandle" ∧ yX5_allSlopes.cls ≠ "java/lang/invoke/VarHandle" ∧ (parseMethodDescriptor yX5_allSlopes.desc).map (fun d => d.parameters.length) = some 0 := by decide +kernel
theorem hd_yX9_needHours : yX9_needHours.cls ≠ "java/lang/invoke/MethodHandle" ∧ yX9_needHours.cls ≠ "java/lang/invoke/VarHandle" ∧ (parseMethodDescriptor yX9_needHours.desc).map (fun d => d.parameters.length) = some 3 := by decide +kernel
theorem hd_yX3_nameOf : yX3_nameOf.cls ≠ "java/lang/invoke/MethodHandle" ∧ yX3_nameOf.cls ≠ "java/lang/invoke/VarHandle" ∧ (parseMethodDescriptor yX3_nameOf.desc).map (fun d => d.parameters.length) = some 1 := by decide +kernel
theorem hd_yX5_copyFrom : yX5_copyFrom.cls ≠ "java/lang/invoke/MethodHandle" ∧ yX5_copyFrom.cls ≠ "java/lang/invoke/VarHandle" ∧ (parseMethodDescriptor yX5_copyFrom.desc).map (fun d => d.parameters.length) = some 1 := by decide +kernel
theorem hd_yX5_warm : yX5_warm.cls ≠ "java/lang/invoke/MethodHandle" ∧ yX5_warm.cls ≠ "java/lang/invoke/VarHandle" ∧ (parseMethodDescriptor yX5_warm.desc).map (fun d => d.parameters.length) = some 1 := by decide +kernel
theorem hd_yX9_isOnceUnstable : yX9_isOnceUnstable.cls ≠ "java/lang/invoke/MethodHandle" ∧ yX9_isOnceUnstable.cls ≠ "java/lang/invoke/VarHandle" ∧ (parseMethodDescriptor yX9_isOnceUnstable.desc).map (fun d => d.parameters.length) = some 2 := by decide +kernel
theorem mv_yX8_hour : zWv yX8_hour cX8_hour 9 none := ⟨q_436, q_437, q_5, q_438⟩
theorem mv_yX9_isUnstable : zWv yX9_isUnstable cX9_isUnstable 3 (some .boolean) := ⟨q_562, s_7, q_1, q_563⟩
theorem mv_yX8_has : zWv yX8_has cX8_has 3 (some .boolean) := ⟨q_1249, q_1250, q_5, q_1251⟩
theorem mv_yX5_allSlopes : zWv yX5_allSlopes cX5_allSlopes 1 (some .int) := ⟨q_432, q_433, q_3, q_434⟩
theorem ms_yX9_needHours : zWs yX9_needHours cX9_needHours 3 none := ⟨q_1225, q_1, q_1226⟩
theorem mv_yX3_nameOf : zWv yX3_nameOf cX3_nameOf 2 (some .int) := ⟨q_1230, q_1231, q_6, q_1232⟩
theorem mv_yX5_copyFrom : zWv yX5_copyFrom cX5_copyFrom 2 none := ⟨q_863, q_864, q_3, q_865⟩
theorem mv_yX5_warm : zWv yX5_warm cX5_warm 3 none := ⟨q_1289, q_1290, q_3, q_1291⟩
theorem mv_yX9_isOnceUnstable : zWv yX9_isOnceUnstable cX9_isOnceUnstable 4 (some .boolean) := ⟨q_1295, s_27, q_1, q_1296⟩
end
section
-- 45.dec.lean.txt
-- decode rows of run
theorem dX5_copyFrom_0 : decode cX5_copyFrom 0 = .ok (.aload_n 0, 1) := by decide +kernel
theorem dX5_copyFrom_1 : decode cX5_copyFrom 1 = .ok (.aload_n 1, 1) := by decide +kernel
theorem dX5_copyFrom_2 : decode cX5_copyFrom 2 = .ok (.getfield 9, 3) := by decide +kernel
theorem dX5_copyFrom_5 : decode cX5_copyFrom 5 = .ok (.putfield 9, 3) := by decide +kernel
theorem dX5_copyFrom_8 : decode cX5_copyFrom 8 = .ok (.aload_n 0, 1) := by decide +kernel
theorem dX5_copyFrom_9 : decode cX5_copyFrom 9 = .ok (.aload_n 1, 1) := by decide +kernel
theorem dX5_copyFrom_10 : decode cX5_copyFrom 10 = .ok (.getfield 15, 3) := by decide +kernel
theorem dX5_copyFrom_13 : decode cX5_copyFrom 13 = .ok (.putfield 15, 3) := by decide +kernel
theorem dX5_copyFrom_16 : decode cX5_copyFrom 16 = .ok (.aload_n 0, 1) := by decide +kernel
theorem dX5_copyFrom_17 : decode cX5_copyFrom 17 = .ok (.aload_n 1, 1) := by decide +kernel
theorem dX5_copyFrom_18 : decode cX5_copyFrom 18 = .ok (.getfield 18, 3) := by decide +kernel
theorem dX5_copyFrom_21 : decode cX5_copyFrom 21 = .ok (.putfield 18, 3) := by decide +kernel
theorem dX5_copyFrom_24 : decode cX5_copyFrom 24 = .ok (.aload_n 1, 1) := by decide +kernel
theorem dX5_copyFrom_25 : decode cX5_copyFrom 25 = .ok (.getfield 21, 3) := by decide +kernel
theorem dX5_copyFrom_28 : decode cX5_copyFrom 28 = .ok (.iconst 0, 1) := by decide +kernel
theorem dX5_copyFrom_29 : decode cX5_copyFrom 29 = .ok (.aload_n 0, 1) := by decide +kernel
theorem dX5_copyFrom_30 : decode cX5_copyFrom 30 = .ok (.getfield 21, 3) := by decide +kernel
theorem dX5_copyFrom_33 : decode cX5_copyFrom 33 = .ok (.iconst 0, 1) := by decide +kernel
theorem dX5_copyFrom_34 : decode cX5_copyFrom 34 = .ok (.aload_n 0, 1) := by decide +kernel
theorem dX5_copyFrom_35 : decode cX5_copyFrom 35 = .ok (.getfield 21, 3) := by decide +kernel
theorem dX5_copyFrom_38 : decode cX5_copyFrom 38 = .ok (.arraylength, 1) := by decide +kernel
theorem dX5_copyFrom_39 : decode cX5_copyFrom 39 = .ok (.invokestatic 48, 3) := by decide +kernel
theorem dX5_copyFrom_42 : decode cX5_copyFrom 42 = .ok (.aload_n 1, 1) := by decide +kernel
theorem dX5_copyFrom_43 : decode cX5_copyFrom 43 = .ok (.getfield 25, 3) := by decide +kernel
theorem dX5_copyFrom_46 : decode cX5_copyFrom 46 = .ok (.iconst 0, 1) := by decide +kernel
theorem dX5_copyFrom_47 : decode cX5_copyFrom 47 = .ok (.aload_n 0, 1) := by decide +kernel
theorem dX5_copyFrom_48 : decode cX5_copyFrom 48 = .ok (.getfield 25, 3) := by decide +kernel
theorem dX5_copyFrom_51 : decode cX5_copyFrom 51 = .ok (.iconst 0, 1) := by decide +kernel
theorem dX5_copyFrom_52 : decode cX5_copyFrom 52 = .ok (.aload_n 0, 1) := by decide +kernel
theorem dX5_copyFrom_53 : decode cX5_copyFrom 53 = .ok (.getfield 25, 3) := by decide +kernel
theorem dX5_copyFrom_56 : decode cX5_copyFrom 56 = .ok (.arraylength, 1) := by decide +kernel
theorem dX5_copyFrom_57 : decode cX5_copyFrom 57 = .ok (.invokestatic 48, 3) := by decide +kernel
theorem dX5_copyFrom_60 : decode cX5_copyFrom 60 = .ok (.aload_n 1, 1) := by decide +kernel
theorem dX5_copyFrom_61 : decode cX5_copyFrom 61 = .ok (.getfield 28, 3) := by decide +kernel
theorem dX5_copyFrom_64 : decode cX5_copyFrom 64 = .ok (.iconst 0, 1) := by decide +kernel
theorem dX5_copyFrom_65 : decode cX5_copyFrom 65 = .ok (.aload_n 0, 1) := by decide +kernel
theorem dX5_copyFrom_66 : decode cX5_copyFrom 66 = .ok (.getfield 28, 3) := by decide +kernel
theorem dX5_copyFrom_69 : decode cX5_copyFrom 69 = .ok (.iconst 0, 1) := by decide +kernel
theorem dX5_copyFrom_70 : decode cX5_copyFrom 70 = .ok (.aload_n 0, 1) := by decide +kernel
theorem dX5_copyFrom_71 : decode cX5_copyFrom 71 = .ok (.getfield 28, 3) := by decide +kernel
theorem dX5_copyFrom_74 : decode cX5_copyFrom 74 = .ok (.arraylength, 1) := by decide +kernel
theorem dX5_copyFrom_75 : decode cX5_copyFrom 75 = .ok (.invokestatic 48, 3) := by decide +kernel
theorem dX5_copyFrom_78 : decode cX5_copyFrom 78 = .ok (.aload_n 1, 1) := by decide +kernel
theorem dX5_copyFrom_79 : decode cX5_copyFrom 79 = .ok (.getfield 31, 3) := by decide +kernel
theorem dX5_copyFrom_82 : decode cX5_copyFrom 82 = .ok (.iconst 0, 1) := by decide +kernel
theorem dX5_copyFrom_83 : decode cX5_copyFrom 83 = .ok (.aload_n 0, 1) := by decide +kernel
theorem dX5_copyFrom_84 : decode cX5_copyFrom 84 = .ok (.getfield 31, 3) := by decide +kernel
theorem dX5_copyFrom_87 : decode cX5_copyFrom 87 = .ok (.iconst 0, 1) := by decide +kernel
theorem dX5_copyFrom_88 : decode cX5_copyFrom 88 = .ok (.aload_n 0, 1) := by decide +kernel
theorem dX5_copyFrom_89 : decode cX5_copyFrom 89 = .ok (.getfield 31, 3) := by decide +kernel
theorem dX5_copyFrom_92 : decode cX5_copyFrom 92 = .ok (.arraylength, 1) := by decide +kernel
theorem dX5_copyFrom_93 : decode cX5_copyFrom 93 = .ok (.invokestatic 48, 3) := by decide +kernel
theorem dX5_copyFrom_96 : decode cX5_copyFrom 96 = .ok (.aload_n 1, 1) := by decide +kernel
theorem dX5_copyFrom_97 : decode cX5_copyFrom 97 = .ok (.getfield 34, 3) := by decide +kernel
theorem dX5_copyFrom_100 : decode cX5_copyFrom 100 = .ok (.iconst 0, 1) := by decide +kernel
theorem dX5_copyFrom_101 : decode cX5_copyFrom 101 = .ok (.aload_n 0, 1) := by decide +kernel
theorem dX5_copyFrom_102 : decode cX5_copyFrom 102 = .ok (.getfield 34, 3) := by decide +kernel
theorem dX5_copyFrom_105 : decode cX5_copyFrom 105 = .ok (.iconst 0, 1) := by decide +kernel
theorem dX5_copyFrom_106 : decode cX5_copyFrom 106 = .ok (.aload_n 0, 1) := by decide +kernel
theorem dX5_copyFrom_107 : decode cX5_copyFrom 107 = .ok (.getfield 34, 3) := by decide +kernel
theorem dX5_copyFrom_110 : decode cX5_copyFrom 110 = .ok (.arraylength, 1) := by decide +kernel
theorem dX5_copyFrom_111 : decode cX5_copyFrom 111 = .ok (.invokestatic 48, 3) := by decide +kernel
theorem dX5_copyFrom_114 : decode cX5_copyFrom 114 = .ok (.aload_n 1, 1) := by decide +kernel
theorem dX5_copyFrom_115 : decode cX5_copyFrom 115 = .ok (.getfield 45, 3) := by decide +kernel
theorem dX5_copyFrom_118 : decode cX5_copyFrom 118 = .ok (.iconst 0, 1) := by decide +kernel
theorem dX5_copyFrom_119 : decode cX5_copyFrom 119 = .ok (.aload_n 0, 1) := by decide +kernel
theorem dX5_copyFrom_120 : decode cX5_copyFrom 120 = .ok (.getfield 45, 3) := by decide +kernel
theorem dX5_copyFrom_123 : decode cX5_copyFrom 123 = .ok (.iconst 0, 1) := by decide +kernel
theorem dX5_copyFrom_124 : decode cX5_copyFrom 124 = .ok (.aload_n 0, 1) := by decide +kernel
theorem dX5_copyFrom_125 : decode cX5_copyFrom 125 = .ok (.getfield 45, 3) := by decide +kernel
theorem dX5_copyFrom_128 : decode cX5_copyFrom 128 = .ok (.arraylength, 1) := by decide +kernel
theorem dX5_copyFrom_129 : decode cX5_copyFrom 129 = .ok (.invokestatic 48, 3) := by decide +kernel
theorem dX5_copyFrom_132 : decode cX5_copyFrom 132 = .ok (.return_, 1) := by decide +kernel
theorem dX5_warm_17 : decode cX5_warm 17 = .ok (.iload_n 2, 1) := by decide +kernel
theorem dX5_warm_18 : decode cX5_warm 18 = .ok (.aload_n 0, 1) := by decide +kernel
theorem dX5_warm_19 : decode cX5_warm 19 = .ok (.getfield 15, 3) := by decide +kernel
theorem dX5_warm_22 : decode cX5_warm 22 = .ok (.if_icmp .ge 28, 3) := by decide +kernel
theorem dX5_warm_50 : decode cX5_warm 50 = .ok (.return_, 1) := by decide +kernel
theorem dX5_warm_25 : decode cX5_warm 25 = .ok (.aload_n 0, 1) := by decide +kernel
theorem dX5_warm_26 : decode cX5_warm 26 = .ok (.getfield 28, 3) := by decide +kernel
theorem dX5_warm_29 : decode cX5_warm 29 = .ok (.iload_n 2, 1) := by decide +kernel
theorem dX5_warm_30 : decode cX5_warm 30 = .ok (.aload_n 0, 1) := by decide +kernel
theorem dX5_warm_31 : decode cX5_warm 31 = .ok (.getfield 28, 3) := by decide +kernel
theorem dX5_warm_34 : decode cX5_warm 34 = .ok (.iload_n 2, 1) := by decide +kernel
theorem dX5_warm_35 : decode cX5_warm 35 = .ok (.iaload, 1) := by decide +kernel
theorem dX5_warm_36 : decode cX5_warm 36 = .ok (.iload_n 1, 1) := by decide +kernel
theorem dX5_warm_37 : decode cX5_warm 37 = .ok (.iadd, 1) := by decide +kernel
theorem dX5_warm_38 : decode cX5_warm 38 = .ok (.bipush 100, 2) := by decide +kernel
theorem dX5_warm_40 : decode cX5_warm 40 = .ok (.invokestatic 54, 3) := by decide +kernel
theorem dX5_warm_43 : decode cX5_warm 43 = .ok (.iastore, 1) := by decide +kernel
theorem dX5_warm_44 : decode cX5_warm 44 = .ok (.iinc 2 1, 3) := by decide +kernel
theorem dX5_warm_47 : decode cX5_warm 47 = .ok (.goto (-30), 3) := by decide +kernel
theorem dX5_warm_0 : decode cX5_warm 0 = .ok (.aload_n 0, 1) := by decide +kernel
theorem dX5_warm_1 : decode cX5_warm 1 = .ok (.aload_n 0, 1) := by decide +kernel
theorem dX5_warm_2 : decode cX5_warm 2 = .ok (.getfield 18, 3) := by decide +kernel
theorem dX5_warm_5 : decode cX5_warm 5 = .ok (.iload_n 1, 1) := by decide +kernel
theorem dX5_warm_6 : decode cX5_warm 6 = .ok (.iadd, 1) := by decide +kernel
theorem dX5_warm_7 : decode cX5_warm 7 = .ok (.bipush 100, 2) := by decide +kernel
theorem dX5_warm_9 : decode cX5_warm 9 = .ok (.invokestatic 54, 3) := by decide +kernel
theorem dX5_warm_12 : decode cX5_warm 12 = .ok (.putfield 18, 3) := by decide +kernel
theorem dX5_warm_15 : decode cX5_warm 15 = .ok (.iconst 0, 1) := by decide +kernel
theorem dX5_warm_16 : decode cX5_warm 16 = .ok (.istore_n 2, 1) := by decide +kernel
theorem dX9_isOnceUnstable_0 : decode cX9_isOnceUnstable 0 = .ok (.aload_n 0, 1) := by decide +kernel
theorem dX9_isOnceUnstable_1 : decode cX9_isOnceUnstable 1 = .ok (.getfield 54, 3) := by decide +kernel
theorem dX9_isOnceUnstable_4 : decode cX9_isOnceUnstable 4 = .ok (.aload_n 0, 1) := by decide +kernel
theorem dX9_isOnceUnstable_5 : decode cX9_isOnceUnstable 5 = .ok (.getfield 37, 3) := by decide +kernel
theorem dX9_isOnceUnstable_8 : decode cX9_isOnceUnstable 8 = .ok (.getfield 112, 3) := by decide +kernel
theorem dX9_isOnceUnstable_11 : decode cX9_isOnceUnstable 11 = .ok (.invokevirtual 311, 3) := by decide +kernel
theorem dX9_isOnceUnstable_14 : decode cX9_isOnceUnstable 14 = .ok (.iconst 0, 1) := by decide +kernel
theorem dX9_isOnceUnstable_15 : decode cX9_isOnceUnstable 15 = .ok (.istore_n 3, 1) := by decide +kernel
theorem dX9_isOnceUnstable_16 : decode cX9_isOnceUnstable 16 = .ok (.iload_n 3, 1) := by decide +kernel
theorem dX9_isOnceUnstable_17 : decode cX9_isOnceUnstable 17 = .ok (.iload_n 2, 1) := by decide +kernel
theorem dX9_isOnceUnstable_18 : decode cX9_isOnceUnstable 18 = .ok (.if_icmp .ge 38, 3) := by decide +kernel
theorem dX9_isOnceUnstable_56 : decode cX9_isOnceUnstable 56 = .ok (.iconst 0, 1) := by decide +kernel
theorem dX9_isOnceUnstable_57 : decode cX9_isOnceUnstable 57 = .ok (.ireturn, 1) := by decide +kernel
theorem dX9_isOnceUnstable_21 : decode cX9_isOnceUnstable 21 = .ok (.aload_n 0, 1) := by decide +kernel
theorem dX9_isOnceUnstable_22 : decode cX9_isOnceUnstable 22 = .ok (.getfield 54, 3) := by decide +kernel
theorem dX9_isOnceUnstable_25 : decode cX9_isOnceUnstable 25 = .ok (.aload_n 0, 1) := by decide +kernel
theorem dX9_isOnceUnstable_26 : decode cX9_isOnceUnstable 26 = .ok (.getfield 48, 3) := by decide +kernel
theorem dX9_isOnceUnstable_29 : decode cX9_isOnceUnstable 29 = .ok (.iconst 1, 1) := by decide +kernel
theorem dX9_isOnceUnstable_30 : decode cX9_isOnceUnstable 30 = .ok (.iload_n 1, 1) := by decide +kernel
theorem dX9_isOnceUnstable_31 : decode cX9_isOnceUnstable 31 = .ok (.ishl, 1) := by decide +kernel
theorem dX9_isOnceUnstable_32 : decode cX9_isOnceUnstable 32 = .ok (.iconst 1, 1) := by decide +kernel
theorem dX9_isOnceUnstable_33 : decode cX9_isOnceUnstable 33 = .ok (.invokevirtual 264, 3) := by decide +kernel
theorem dX9_isOnceUnstable_36 : decode cX9_isOnceUnstable 36 = .ok (.aload_n 0, 1) := by decide +kernel
theorem dX9_isOnceUnstable_37 : decode cX9_isOnceUnstable 37 = .ok (.aload_n 0, 1) := by decide +kernel
theorem dX9_isOnceUnstable_38 : decode cX9_isOnceUnstable 38 = .ok (.getfield 54, 3) := by decide +kernel
theorem dX9_isOnceUnstable_41 : decode cX9_isOnceUnstable 41 = .ok (.iload_n 1, 1) := by decide +kernel
theorem dX9_isOnceUnstable_42 : decode cX9_isOnceUnstable 42 = .ok (.invokevirtual 287, 3) := by decide +kernel
theorem dX9_isOnceUnstable_45 : decode cX9_isOnceUnstable 45 = .ok (.ifCond .eq 5, 3) := by decide +kernel
theorem dX9_isOnceUnstable_50 : decode cX9_isOnceUnstable 50 = .ok (.iinc 3 1, 3) := by decide +kernel
theorem dX9_isOnceUnstable_53 : decode cX9_isOnceUnstable 53 = .ok (.goto (-37), 3) := by decide +kernel
theorem dX9_isOnceUnstable_48 : decode cX9_isOnceUnstable 48 = .ok (.iconst 1, 1) := by decide +kernel
theorem dX9_isOnceUnstable_49 : decode cX9_isOnceUnstable 49 = .ok (.ireturn, 1) := by decide +kernel
theorem dX9_otherRatio_0 : decode cX9_otherRatio 0 = .ok (.aload_n 0, 1) := by decide +kernel
theorem dX9_otherRatio_1 : decode cX9_otherRatio 1 = .ok (.getfield 54, 3) := by decide +kernel
theorem dX9_otherRatio_4 : decode cX9_otherRatio 4 = .ok (.aload_n 0, 1) := by decide +kernel
theorem dX9_otherRatio_5 : decode cX9_otherRatio 5 = .ok (.getfield 37, 3) := by decide +kernel
theorem dX9_otherRatio_8 : decode cX9_otherRatio 8 = .ok (.getfield 112, 3) := by decide +kernel
theorem dX9_otherRatio_11 : decode cX9_otherRatio 11 = .ok (.invokevirtual 311, 3) := by decide +kernel
theorem dX9_otherRatio_14 : decode cX9_otherRatio 14 = .ok (.iconst 0, 1) := by decide +kernel
theorem dX9_otherRatio_15 : decode cX9_otherRatio 15 = .ok (.istore_n 3, 1) := by decide +kernel
theorem dX9_otherRatio_16 : decode cX9_otherRatio 16 = .ok (.iload_n 3, 1) := by decide +kernel
theorem dX9_otherRatio_17 : decode cX9_otherRatio 17 = .ok (.iload_n 2, 1) := by decide +kernel
theorem dX9_otherRatio_18 : decode cX9_otherRatio 18 = .ok (.if_icmp .ge 24, 3) := by decide +kernel
theorem dX9_otherRatio_42 : decode cX9_otherRatio 42 = .ok (.aload_n 0, 1) := by decide +kernel
theorem dX9_otherRatio_43 : decode cX9_otherRatio 43 = .ok (.getfield 54, 3) := by decide +kernel
theorem dX9_otherRatio_46 : decode cX9_otherRatio 46 = .ok (.getfield 280, 3) := by decide +kernel
theorem dX9_otherRatio_49 : decode cX9_otherRatio 49 = .ok (.iload_n 1, 1) := by decide +kernel
theorem dX9_otherRatio_50 : decode cX9_otherRatio 50 = .ok (.aaload, 1) := by decide +kernel
theorem dX9_otherRatio_51 : decode cX9_otherRatio 51 = .ok (.aload_n 0, 1) := by decide +kernel
theorem dX9_otherRatio_52 : decode cX9_otherRatio 52 = .ok (.getfield 30, 3) := by decide +kernel
theorem dX9_otherRatio_55 : decode cX9_otherRatio 55 = .ok (.getfield 187, 3) := by decide +kernel
theorem dX9_otherRatio_58 : decode cX9_otherRatio 58 = .ok (.iload_n 1, 1) := by decide +kernel
theorem dX9_otherRatio_59 : decode cX9_otherRatio 59 = .ok (.iaload, 1) := by decide +kernel
theorem dX9_otherRatio_60 : decode cX9_otherRatio 60 = .ok (.aload_n 0, 1) := by decide +kernel
theorem dX9_otherRatio_61 : decode cX9_otherRatio 61 = .ok (.getfield 30, 3) := by decide +kernel
theorem dX9_otherRatio_64 : decode cX9_otherRatio 64 = .ok (.invokevirtual 203, 3) := by decide +kernel
theorem dX9_otherRatio_67 : decode cX9_otherRatio 67 = .ok (.ireturn, 1) := by decide +kernel
theorem dX9_otherRatio_21 : decode cX9_otherRatio 21 = .ok (.aload_n 0, 1) := by decide +kernel
theorem dX9_otherRatio_22 : decode cX9_otherRatio 22 = .ok (.getfield 54, 3) := by decide +kernel
theorem dX9_otherRatio_25 : decode cX9_otherRatio 25 = .ok (.aload_n 0, 1) := by decide +kernel
theorem dX9_otherRatio_26 : decode cX9_otherRatio 26 = .ok (.getfield 48, 3) := by decide +kernel
theorem dX9_otherRatio_29 : decode cX9_otherRatio 29 = .ok (.iconst 1, 1) := by decide +kernel
theorem dX9_otherRatio_30 : decode cX9_otherRatio 30 = .ok (.iload_n 1, 1) := by decide +kernel
theorem dX9_otherRatio_31 : decode cX9_otherRatio 31 = .ok (.ishl, 1) := by decide +kernel
theorem dX9_otherRatio_32 : decode cX9_otherRatio 32 = .ok (.iconst 1, 1) := by decide +kernel
theorem dX9_otherRatio_33 : decode cX9_otherRatio 33 = .ok (.invokevirtual 264, 3) := by decide +kernel
theorem dX9_otherRatio_36 : decode cX9_otherRatio 36 = .ok (.iinc 3 1, 3) := by decide +kernel
theorem dX9_otherRatio_39 : decode cX9_otherRatio 39 = .ok (.goto (-23), 3) := by decide +kernel
theorem dX9_once_0 : decode cX9_once 0 = .ok (.aload_n 0, 1) := by decide +kernel
theorem dX9_once_1 : decode cX9_once 1 = .ok (.iload_n 1, 1) := by decide +kernel
theorem dX9_once_2 : decode cX9_once 2 = .ok (.invokevirtual 300, 3) := by decide +kernel
theorem dX9_once_5 : decode cX9_once 5 = .ok (.iload_n 2, 1) := by decide +kernel
theorem dX9_once_6 : decode cX9_once 6 = .ok (.iconst 1, 1) := by decide +kernel
theorem dX9_once_7 : decode cX9_once 7 = .ok (.invokestatic 303, 3) := by decide +kernel
theorem dX9_once_10 : decode cX9_once 10 = .ok (.aload_n 0, 1) := by decide +kernel
theorem dX9_once_11 : decode cX9_once 11 = .ok (.getfield 54, 3) := by decide +kernel
theorem dX9_once_14 : decode cX9_once 14 = .ok (.aload_n 0, 1) := by decide +kernel
theorem dX9_once_15 : decode cX9_once 15 = .ok (.getfield 37, 3) := by decide +kernel
theorem dX9_once_18 : decode cX9_once 18 = .ok (.getfield 112, 3) := by decide +kernel
theorem dX9_once_21 : decode cX9_once 21 = .ok (.invokevirtual 311, 3) := by decide +kernel
theorem dX9_once_24 : decode cX9_once 24 = .ok (.iconst 0, 1) := by decide +kernel
theorem dX9_once_25 : decode cX9_once 25 = .ok (.istore_n 3, 1) := by decide +kernel
theorem dX9_once_26 : decode cX9_once 26 = .ok (.iload_n 3, 1) := by decide +kernel
theorem dX9_once_27 : decode cX9_once 27 = .ok (.bipush 72, 2) := by decide +kernel
theorem dX9_once_29 : decode cX9_once 29 = .ok (.if_icmp .gt 69, 3) := by decide +kernel
theorem dX9_once_98 : decode cX9_once 98 = .ok (.iconst (-1), 1) := by decide +kernel
theorem dX9_once_99 : decode cX9_once 99 = .ok (.ireturn, 1) := by decide +kernel
theorem dX9_once_32 : decode cX9_once 32 = .ok (.iload_n 2, 1) := by decide +kernel
theorem dX9_once_33 : decode cX9_once 33 = .ok (.ifCond .ne 15, 3) := by decide +kernel
theorem dX9_once_48 : decode cX9_once 48 = .ok (.aload_n 0, 1) := by decide +kernel
theorem dX9_once_49 : decode cX9_once 49 = .ok (.getfield 54, 3) := by decide +kernel
theorem dX9_once_52 : decode cX9_once 52 = .ok (.getfield 280, 3) := by decide +kernel
theorem dX9_once_55 : decode cX9_once 55 = .ok (.iload_n 1, 1) := by decide +kernel
theorem dX9_once_56 : decode cX9_once 56 = .ok (.aaload, 1) := by decide +kernel
theorem dX9_once_57 : decode cX9_once 57 = .ok (.getfield 193, 3) := by decide +kernel
theorem dX9_once_60 : decode cX9_once 60 = .ok (.ifCond .ne 7, 3) := by decide +kernel
theorem dX9_once_67 : decode cX9_once 67 = .ok (.iconst 0, 1) := by decide +kernel
theorem dX9_once_68 : decode cX9_once 68 = .ok (.istore 4, 2) := by decide +kernel
theorem dX9_once_70 : decode cX9_once 70 = .ok (.iload 4, 2) := by decide +kernel
theorem dX9_once_72 : decode cX9_once 72 = .ok (.ifCond .eq 5, 3) := by decide +kernel
theorem dX9_once_77 : decode cX9_once 77 = .ok (.aload_n 0, 1) := by decide +kernel
theorem dX9_once_78 : decode cX9_once 78 = .ok (.getfield 54, 3) := by decide +kernel
theorem dX9_once_81 : decode cX9_once 81 = .ok (.aload_n 0, 1) := by decide +kernel
theorem dX9_once_82 : decode cX9_once 82 = .ok (.getfield 30, 3) := by decide +kernel
theorem dX9_once_85 : decode cX9_once 85 = .ok (.iconst 1, 1) := by decide +kernel
theorem dX9_once_86 : decode cX9_once 86 = .ok (.iload_n 1, 1) := by decide +kernel
theorem dX9_once_87 : decode cX9_once 87 = .ok (.ishl, 1) := by decide +kernel
theorem dX9_once_88 : decode cX9_once 88 = .ok (.iconst 1, 1) := by decide +kernel
theorem dX9_once_89 : decode cX9_once 89 = .ok (.invokevirtual 264, 3) := by decide +kernel
theorem dX9_once_92 : decode cX9_once 92 = .ok (.iinc 3 1, 3) := by decide +kernel
theorem dX9_once_95 : decode cX9_once 95 = .ok (.goto (-69), 3) := by decide +kernel
theorem dX9_once_63 : decode cX9_once 63 = .ok (.iconst 1, 1) := by decide +kernel
theorem dX9_once_64 : decode cX9_once 64 = .ok (.goto 4, 3) := by decide +kernel
theorem dX9_once_75 : decode cX9_once 75 = .ok (.iload_n 3, 1) := by decide +kernel
theorem dX9_once_76 : decode cX9_once 76 = .ok (.ireturn, 1) := by decide +kernel
theorem dX9_once_36 : decode cX9_once 36 = .ok (.aload_n 0, 1) := by decide +kernel
theorem dX9_once_37 : decode cX9_once 37 = .ok (.aload_n 0, 1) := by decide +kernel
theorem dX9_once_38 : decode cX9_once 38 = .ok (.getfield 54, 3) := by decide +kernel
theorem dX9_once_41 : decode cX9_once 41 = .ok (.iload_n 1, 1) := by decide +kernel
theorem dX9_once_42 : decode cX9_once 42 = .ok (.invokevirtual 287, 3) := by decide +kernel
theorem dX9_once_45 : decode cX9_once 45 = .ok (.goto 23, 3) := by decide +kernel
theorem dX9_gone_0 : decode cX9_gone 0 = .ok (.iload_n 1, 1) := by decide +kernel
theorem dX9_gone_1 : decode cX9_gone 1 = .ok (.ifCond .lt 17, 3) := by decide +kernel
theorem dX9_gone_18 : decode cX9_gone 18 = .ok (.new 165, 3) := by decide +kernel
theorem dX9_gone_21 : decode cX9_gone 21 = .ok (.dup, 1) := by decide +kernel
theorem dX9_gone_22 : decode cX9_gone 22 = .ok (.ldc_w 316, 3) := by decide +kernel
theorem dX9_gone_25 : decode cX9_gone 25 = .ok (.invokespecial 169, 3) := by decide +kernel
theorem dX9_gone_28 : decode cX9_gone 28 = .ok (.athrow, 1) := by decide +kernel
theorem dX9_gone_4 : decode cX9_gone 4 = .ok (.iload_n 1, 1) := by decide +kernel
theorem dX9_gone_5 : decode cX9_gone 5 = .ok (.aload_n 0, 1) := by decide +kernel
theorem dX9_gone_6 : decode cX9_gone 6 = .ok (.getfield 37, 3) := by decide +kernel
theorem dX9_gone_9 : decode cX9_gone 9 = .ok (.getfield 112, 3) := by decide +kernel
theorem dX9_gone_12 : decode cX9_gone 12 = .ok (.getfield 128, 3) := by decide +kernel
theorem dX9_gone_15 : decode cX9_gone 15 = .ok (.if_icmp .lt 14, 3) := by decide +kernel
theorem dX9_gone_29 : decode cX9_gone 29 = .ok (.aload_n 0, 1) := by decide +kernel
theorem dX9_gone_30 : decode cX9_gone 30 = .ok (.getfield 54, 3) := by decide +kernel
theorem dX9_gone_33 : decode cX9_gone 33 = .ok (.aload_n 0, 1) := by decide +kernel
theorem dX9_gone_34 : decode cX9_gone 34 = .ok (.getfield 37, 3) := by decide +kernel
theorem dX9_gone_37 : decode cX9_gone 37 = .ok (.getfield 112, 3) := by decide +kernel
theorem dX9_gone_40 : decode cX9_gone 40 = .ok (.invokevirtual 311, 3) := by decide +kernel
theorem dX9_gone_43 : decode cX9_gone 43 = .ok (.iconst 0, 1) := by decide +kernel
theorem dX9_gone_44 : decode cX9_gone 44 = .ok (.istore_n 2, 1) := by decide +kernel
theorem dX9_gone_45 : decode cX9_gone 45 = .ok (.iload_n 2, 1) := by decide +kernel
theorem dX9_gone_46 : decode cX9_gone 46 = .ok (.bipush 72, 2) := by decide +kernel
theorem dX9_gone_48 : decode cX9_gone 48 = .ok (.if_icmp .gt 41, 3) := by decide +kernel
theorem dX9_gone_89 : decode cX9_gone 89 = .ok (.iconst (-1), 1) := by decide +kernel
theorem dX9_gone_90 : decode cX9_gone 90 = .ok (.ireturn, 1) := by decide +kernel
theorem dX9_gone_51 : decode cX9_gone 51 = .ok (.aload_n 0, 1) := by decide +kernel
theorem dX9_gone_52 : decode cX9_gone 52 = .ok (.getfield 54, 3) := by decide +kernel
theorem dX9_gone_55 : decode cX9_gone 55 = .ok (.iload_n 1, 1) := by decide +kernel
theorem dX9_gone_56 : decode cX9_gone 56 = .ok (.invokevirtual 318, 3) := by decide +kernel
theorem dX9_gone_59 : decode cX9_gone 59 = .ok (.ifCond .ne 5, 3) := by decide +kernel
theorem dX9_gone_64 : decode cX9_gone 64 = .ok (.aload_n 0, 1) := by decide +kernel
theorem dX9_gone_65 : decode cX9_gone 65 = .ok (.getfield 54, 3) := by decide +kernel
theorem dX9_gone_68 : decode cX9_gone 68 = .ok (.aload_n 0, 1) := by decide +kernel
theorem dX9_gone_69 : decode cX9_gone 69 = .ok (.getfield 30, 3) := by decide +kernel
theorem dX9_gone_72 : decode cX9_gone 72 = .ok (.aload_n 0, 1) := by decide +kernel
theorem dX9_gone_73 : decode cX9_gone 73 = .ok (.getfield 30, 3) := by decide +kernel
theorem dX9_gone_76 : decode cX9_gone 76 = .ok (.invokevirtual 261, 3) := by decide +kernel
theorem dX9_gone_79 : decode cX9_gone 79 = .ok (.iconst 1, 1) := by decide +kernel
theorem dX9_gone_80 : decode cX9_gone 80 = .ok (.invokevirtual 264, 3) := by decide +kernel
theorem dX9_gone_83 : decode cX9_gone 83 = .ok (.iinc 2 1, 3) := by decide +kernel
theorem dX9_gone_86 : decode cX9_gone 86 = .ok (.goto (-41), 3) := by decide +kernel
theorem dX9_gone_62 : decode cX9_gone 62 = .ok (.iload_n 2, 1) := by decide +kernel
theorem dX9_gone_63 : decode cX9_gone 63 = .ok (.ireturn, 1) := by decide +kernel
theorem dX9_then_0 : decode cX9_then 0 = .ok (.aload_n 0, 1) := by decide +kernel
theorem dX9_then_1 : decode cX9_then 1 = .ok (.iload_n 1, 1) := by decide +kernel
theorem dX9_then_2 : decode cX9_then 2 = .ok (.invokevirtual 300, 3) := by decide +kernel
theorem dX9_then_5 : decode cX9_then 5 = .ok (.iload_n 3, 1) := by decide +kernel
theorem dX9_then_6 : decode cX9_then 6 = .ok (.bipush 6, 2) := by decide +kernel
theorem dX9_then_8 : decode cX9_then 8 = .ok (.invokestatic 303, 3) := by decide +kernel
theorem dX9_then_11 : decode cX9_then 11 = .ok (.iload_n 2, 1) := by decide +kernel
theorem dX9_then_12 : decode cX9_then 12 = .ok (.iconst 0, 1) := by decide +kernel
theorem dX9_then_13 : decode cX9_then 13 = .ok (.bipush 72, 2) := by decide +kernel
theorem dX9_then_15 : decode cX9_then 15 = .ok (.invokestatic 307, 3) := by decide +kernel
theorem dX9_then_18 : decode cX9_then 18 = .ok (.aload_n 0, 1) := by decide +kernel
theorem dX9_then_19 : decode cX9_then 19 = .ok (.getfield 54, 3) := by decide +kernel
theorem dX9_then_22 : decode cX9_then 22 = .ok (.aload_n 0, 1) := by decide +kernel
theorem dX9_then_23 : decode cX9_then 23 = .ok (.getfield 37, 3) := by decide +kernel
theorem dX9_then_26 : decode cX9_then 26 = .ok (.getfield 112, 3) := by decide +kernel
theorem dX9_then_29 : decode cX9_then 29 = .ok (.invokevirtual 311, 3) := by decide +kernel
theorem dX9_then_32 : decode cX9_then 32 = .ok (.iconst 0, 1) := by decide +kernel
theorem dX9_then_33 : decode cX9_then 33 = .ok (.istore 4, 2) := by decide +kernel
theorem dX9_then_35 : decode cX9_then 35 = .ok (.iload 4, 2) := by decide +kernel
theorem dX9_then_37 : decode cX9_then 37 = .ok (.iload_n 2, 1) := by decide +kernel
theorem dX9_then_38 : decode cX9_then 38 = .ok (.if_icmp .ge 28, 3) := by decide +kernel
theorem dX9_then_66 : decode cX9_then 66 = .ok (.aload_n 0, 1) := by decide +kernel
theorem dX9_then_67 : decode cX9_then 67 = .ok (.getfield 54, 3) := by decide +kernel
theorem dX9_then_70 : decode cX9_then 70 = .ok (.getfield 280, 3) := by decide +kernel
theorem dX9_then_73 : decode cX9_then 73 = .ok (.iload_n 1, 1) := by decide +kernel
theorem dX9_then_74 : decode cX9_then 74 = .ok (.aaload, 1) := by decide +kernel
theorem dX9_then_75 : decode cX9_then 75 = .ok (.astore 4, 2) := by decide +kernel
theorem dX9_then_77 : decode cX9_then 77 = .ok (.aload_n 0, 1) := by decide +kernel
theorem dX9_then_78 : decode cX9_then 78 = .ok (.getfield 30, 3) := by decide +kernel
theorem dX9_then_81 : decode cX9_then 81 = .ok (.getfield 187, 3) := by decide +kernel
theorem dX9_then_84 : decode cX9_then 84 = .ok (.iload_n 1, 1) := by decide +kernel
theorem dX9_then_85 : decode cX9_then 85 = .ok (.iaload, 1) := by decide +kernel
theorem dX9_then_86 : decode cX9_then 86 = .ok (.istore 5, 2) := by decide +kernel
theorem dX9_then_88 : decode cX9_then 88 = .ok (.iload_n 3, 1) := by decide +kernel
theorem dX9_then_89 : decode cX9_then 89 = .ok (.tableswitch 98 0 5 #[39, 47, 55, 63, 69, 81], 39) := by decide +kernel
theorem dX9_then_187 : decode cX9_then 187 = .ok (.aload 4, 2) := by decide +kernel
theorem dX9_then_189 : decode cX9_then 189 = .ok (.getfield 197, 3) := by decide +kernel
theorem dX9_then_192 : decode cX9_then 192 = .ok (.ireturn, 1) := by decide +kernel
theorem dX9_then_128 : decode cX9_then 128 = .ok (.aload 4, 2) := by decide +kernel
theorem dX9_then_130 : decode cX9_then 130 = .ok (.bipush 36, 2) := by decide +kernel
theorem dX9_then_132 : decode cX9_then 132 = .ok (.invokevirtual 196, 3) := by decide +kernel
theorem dX9_then_135 : decode cX9_then 135 = .ok (.ireturn, 1) := by decide +kernel
theorem dX9_then_136 : decode cX9_then 136 = .ok (.aload 4, 2) := by decide +kernel
theorem dX9_then_138 : decode cX9_then 138 = .ok (.bipush 12, 2) := by decide +kernel
theorem dX9_then_140 : decode cX9_then 140 = .ok (.invokevirtual 196, 3) := by decide +kernel
theorem dX9_then_143 : decode cX9_then 143 = .ok (.ireturn, 1) := by decide +kernel
theorem dX9_then_144 : decode cX9_then 144 = .ok (.aload 4, 2) := by decide +kernel
theorem dX9_then_146 : decode cX9_then 146 = .ok (.bipush 24, 2) := by decide +kernel
theorem dX9_then_148 : decode cX9_then 148 = .ok (.invokevirtual 196, 3) := by decide +kernel
theorem dX9_then_151 : decode cX9_then 151 = .ok (.ireturn, 1) := by decide +kernel
theorem dX9_then_152 : decode cX9_then 152 = .ok (.aload 4, 2) := by decide +kernel
theorem dX9_then_154 : decode cX9_then 154 = .ok (.getfield 193, 3) := by decide +kernel
theorem dX9_then_157 : decode cX9_then 157 = .ok (.ireturn, 1) := by decide +kernel
theorem dX9_then_158 : decode cX9_then 158 = .ok (.aload 4, 2) := by decide +kernel
theorem dX9_then_160 : decode cX9_then 160 = .ok (.iload 5, 2) := by decide +kernel
theorem dX9_then_162 : decode cX9_then 162 = .ok (.aload_n 0, 1) := by decide +kernel
theorem dX9_then_163 : decode cX9_then 163 = .ok (.getfield 30, 3) := by decide +kernel
theorem dX9_then_166 : decode cX9_then 166 = .ok (.invokevirtual 203, 3) := by decide +kernel
theorem dX9_then_169 : decode cX9_then 169 = .ok (.ireturn, 1) := by decide +kernel
theorem dX9_then_170 : decode cX9_then 170 = .ok (.aload 4, 2) := by decide +kernel
theorem dX9_then_172 : decode cX9_then 172 = .ok (.aload 4, 2) := by decide +kernel
theorem dX9_then_174 : decode cX9_then 174 = .ok (.iload 5, 2) := by decide +kernel
theorem dX9_then_176 : decode cX9_then 176 = .ok (.aload_n 0, 1) := by decide +kernel
theorem dX9_then_177 : decode cX9_then 177 = .ok (.getfield 30, 3) := by decide +kernel
theorem dX9_then_180 : decode cX9_then 180 = .ok (.invokevirtual 199, 3) := by decide +kernel
theorem dX9_then_183 : decode cX9_then 183 = .ok (.invokevirtual 313, 3) := by decide +kernel
theorem dX9_then_186 : decode cX9_then 186 = .ok (.ireturn, 1) := by decide +kernel
theorem dX9_then_41 : decode cX9_then 41 = .ok (.aload_n 0, 1) := by decide +kernel
theorem dX9_then_42 : decode cX9_then 42 = .ok (.getfield 54, 3) := by decide +kernel
theorem dX9_then_45 : decode cX9_then 45 = .ok (.aload_n 0, 1) := by decide +kernel
theorem dX9_then_46 : decode cX9_then 46 = .ok (.getfield 30, 3) := by decide +kernel
theorem dX9_then_49 : decode cX9_then 49 = .ok (.aload_n 0, 1) := by decide +kernel
theorem dX9_then_50 : decode cX9_then 50 = .ok (.getfield 30, 3) := by decide +kernel
theorem dX9_then_53 : decode cX9_then 53 = .ok (.invokevirtual 261, 3) := by decide +kernel
theorem dX9_then_56 : decode cX9_then 56 = .ok (.iconst 1, 1) := by decide +kernel
theorem dX9_then_57 : decode cX9_then 57 = .ok (.invokevirtual 264, 3) := by decide +kernel
theorem dX9_then_60 : decode cX9_then 60 = .ok (.iinc 4 1, 3) := by decide +kernel
theorem dX9_then_63 : decode cX9_then 63 = .ok (.goto (-28), 3) := by decide +kernel
theorem dX9_toWarm_0 : decode cX9_toWarm 0 = .ok (.aload_n 0, 1) := by decide +kernel
theorem dX9_toWarm_1 : decode cX9_toWarm 1 = .ok (.iload_n 1, 1) := by decide +kernel
theorem dX9_toWarm_2 : decode cX9_toWarm 2 = .ok (.invokevirtual 300, 3) := by decide +kernel
theorem dX9_toWarm_5 : decode cX9_toWarm 5 = .ok (.iload_n 2, 1) := by decide +kernel
theorem dX9_toWarm_6 : decode cX9_toWarm 6 = .ok (.iconst 1, 1) := by decide +kernel
theorem dX9_toWarm_7 : decode cX9_toWarm 7 = .ok (.bipush 24, 2) := by decide +kernel
theorem dX9_toWarm_9 : decode cX9_toWarm 9 = .ok (.invokestatic 307, 3) := by decide +kernel
theorem dX9_toWarm_12 : decode cX9_toWarm 12 = .ok (.iconst 1, 1) := by decide +kernel
theorem dX9_toWarm_13 : decode cX9_toWarm 13 = .ok (.istore_n 3, 1) := by decide +kernel
theorem dX9_toWarm_14 : decode cX9_toWarm 14 = .ok (.iload_n 3, 1) := by decide +kernel
theorem dX9_toWarm_15 : decode cX9_toWarm 15 = .ok (.bipush 50, 2) := by decide +kernel
theorem dX9_toWarm_17 : decode cX9_toWarm 17 = .ok (.if_icmp .gt 39, 3) := by decide +kernel
theorem dX9_toWarm_56 : decode cX9_toWarm 56 = .ok (.iconst (-1), 1) := by decide +kernel
theorem dX9_toWarm_57 : decode cX9_toWarm 57 = .ok (.ireturn, 1) := by decide +kernel
theorem dX9_toWarm_20 : decode cX9_toWarm 20 = .ok (.aload_n 0, 1) := by decide +kernel
theorem dX9_toWarm_21 : decode cX9_toWarm 21 = .ok (.getfield 48, 3) := by decide +kernel
theorem dX9_toWarm_24 : decode cX9_toWarm 24 = .ok (.aload_n 0, 1) := by decide +kernel
theorem dX9_toWarm_25 : decode cX9_toWarm 25 = .ok (.getfield 30, 3) := by decide +kernel
theorem dX9_toWarm_28 : decode cX9_toWarm 28 = .ok (.invokevirtual 104, 3) := by decide +kernel
theorem dX9_toWarm_31 : decode cX9_toWarm 31 = .ok (.aload_n 0, 1) := by decide +kernel
theorem dX9_toWarm_32 : decode cX9_toWarm 32 = .ok (.getfield 48, 3) := by decide +kernel
theorem dX9_toWarm_35 : decode cX9_toWarm 35 = .ok (.iload_n 3, 1) := by decide +kernel
theorem dX9_toWarm_36 : decode cX9_toWarm 36 = .ok (.invokevirtual 324, 3) := by decide +kernel
theorem dX9_toWarm_39 : decode cX9_toWarm 39 = .ok (.aload_n 0, 1) := by decide +kernel
theorem dX9_toWarm_40 : decode cX9_toWarm 40 = .ok (.iload_n 1, 1) := by decide +kernel
theorem dX9_toWarm_41 : decode cX9_toWarm 41 = .ok (.iload_n 2, 1) := by decide +kernel
theorem dX9_toWarm_42 : decode cX9_toWarm 42 = .ok (.invokevirtual 327, 3) := by decide +kernel
theorem dX9_toWarm_45 : decode cX9_toWarm 45 = .ok (.ifCond .eq 5, 3) := by decide +kernel
theorem dX9_toWarm_50 : decode cX9_toWarm 50 = .ok (.iinc 3 1, 3) := by decide +kernel
theorem dX9_toWarm_53 : decode cX9_toWarm 53 = .ok (.goto (-39), 3) := by decide +kernel
theorem dX9_toWarm_48 : decode cX9_toWarm 48 = .ok (.iload_n 3, 1) := by decide +kernel
theorem dX9_toWarm_49 : decode cX9_toWarm 49 = .ok (.ireturn, 1) := by decide +kernel
end
