section
-- 52.acts.lean.txt
theorem b8_of (x : Int32) : ∃ z : Int, x.toInt8.toInt32 = zI z ∧ -128 ≤ z ∧ z ≤ 127 := ⟨x.toInt8.toInt, (Int32.ofInt_int8ToInt x.toInt8).symm, by have := x.toInt8.le_toInt; omega, by have := x.toInt8.toInt_lt; omega⟩

set_option maxRecDepth 100000 in
set_option maxHeartbeats 4000000 in
theorem c_X9_isSameWeakest (l : Launch) (D : va_G) (A : Nat → Prop) (cs : Nat → ClassId) (tt : Nat) (N : Nat) (ad : Nat → Nat) (g : Nat → va_E) (hN : 952 ≤ N) (t fp im nz kz sl ho ua : Int) (st op ai fa mu tb tp : Nat → Int) (hR : okRec cs ad g N t fp im nz kz sl ho ua st op ai fa mu tb tp) (k1 k2 : Nat) (hk1 : k1 < 6) (hk2 : k2 < 6) : zM l yX9_isSameWeakest cX9_isSameWeakest 5 (some .boolean) ({ frames := 6, cells := 0, slots := 0, locals := 360 } : Room) D A cs tt N ad g [.ref (ad 0), .ref (ad (11 + 418 + 3 * k1)), .ref (ad (11 + 418 + 3 * k2))] (rI0 N ad fun r g' => (0 ≤ r ∧ r ≤ 1) ∧ g = g') := by
  obtain ⟨ary1, bry1, cry1, dry1, ery1, fry1, gry11, hry1, ⟨acry1, iry1⟩, ⟨kcry1, jry1⟩, kry1, lry1, mry1, nry1, ory1, pry1⟩ := id hR
  have hay2 : zAt ad (0) (ad 0) := rfl
  have hay3 : zAt ad (1) (ad 1) := rfl
  have hay4 : zAt ad (2) (ad 2) := rfl
  have hay5 : zAt ad (4) (ad 4) := rfl
  have hay6 : zAt ad (11) (ad 11) := rfl
  have hay7 : zAt ad (447) (ad 447) := rfl
  have hay8 : zAt ad (883) (ad 883) := rfl
  have hay9 : zAt ad (890) (ad 890) := rfl
  have hay10 : zAt ad (900) (ad 900) := rfl
  have hay11 : zAt ad (910) (ad 910) := rfl
  have hay12 : zAt ad (917) (ad 917) := rfl
  have hay13 : zAt ad (919) (ad 919) := rfl
  have hay14 : zAt ad (4 + 1) (ad (4 + 1)) := rfl
  have hay15 : zAt ad (4 + 2) (ad (4 + 2)) := rfl
  have hay16 : zAt ad (4 + 3) (ad (4 + 3)) := rfl
  have hay17 : zAt ad (4 + 4) (ad (4 + 4)) := rfl
  have hay18 : zAt ad (4 + 5) (ad (4 + 5)) := rfl
  have hay19 : zAt ad (4 + 6) (ad (4 + 6)) := rfl
  obtain ⟨thcy20, zhcy20, ohcy20, rhcy20, hzhcy20, hthcy20, hwhcy20⟩ := id lry1
  obtain ⟨thcy21, zhcy21, ohcy21, rhcy21, hzhcy21, hthcy21, hwhcy21⟩ := id mry1
  obtain ⟨asy22, bsy22, csy22, dsy22, esy22, ⟨ptsy22, fsy22, gsy221⟩, hsy22, ⟨nusy22, nvsy22, nwsy22, isy22, jsy22, ksy22, lsy22, msy22, nsy22⟩, rfsy22, osy22⟩ := id iry1
  have hay23 : zAt ad (11 + 1) (ad (11 + 1)) := rfl
  have hay24 : zAt ad (11 + 11) (ad (11 + 11)) := rfl
  have hay25 : zAt ad (11 + 12) (ad (11 + 12)) := rfl
  have hay26 : zAt ad (11 + 13) (ad (11 + 13)) := rfl
  have hay27 : zAt ad (11 + 13 + 1) (ad (11 + 13 + 1)) := rfl
  have hay28 : zAt ad (11 + 13 + 2) (ad (11 + 13 + 2)) := rfl
  have hay29 : zAt ad (11 + 13 + 3) (ad (11 + 13 + 3)) := rfl
  have hay30 : zAt ad (11 + 17) (ad (11 + 17)) := rfl
  obtain ⟨uy31t, uy31z, uy31o, uy31r, uy31z4, uy31t5, uy311, ⟨uy31u, uy312, uy313⟩, uy314⟩ := id csy22
  have hay32 : zAt ad (11 + 1) (ad (11 + 1)) := rfl
  have hay33 : zAt ad (11 + 1 + 1) (ad (11 + 1 + 1)) := rfl
  have hay34 : zAt ad (11 + 418 + 3 * k1) (ad (11 + 418 + 3 * k1)) := rfl
  have hay35 : zAt ad (11 + 418 + 3 * k1 + 1) (ad (11 + 418 + 3 * k1 + 1)) := rfl
  have hay36 : zAt ad (11 + 418 + 3 * k1 + 1 + 1) (ad (11 + 418 + 3 * k1 + 1 + 1)) := rfl
  obtain ⟨lpy37, tpy37, zpy37, opy37, rpy37, h1py37, h2py37, h3py37, h4py37⟩ := hsy22 k1 (by omega)
  have hay38 : zAt ad (11 + 418 + 3 * k2) (ad (11 + 418 + 3 * k2)) := rfl
  have hay39 : zAt ad (11 + 418 + 3 * k2 + 1) (ad (11 + 418 + 3 * k2 + 1)) := rfl
  have hay40 : zAt ad (11 + 418 + 3 * k2 + 1 + 1) (ad (11 + 418 + 3 * k2 + 1 + 1)) := rfl
  obtain ⟨lpy41, tpy41, zpy41, opy41, rpy41, h1py41, h2py41, h3py41, h4py41⟩ := hsy22 k2 (by omega)
  refine z_of (by decide) (Nat.le_of_ble_eq_true rfl) ?_
  intro p e s m below meth c C hr hlk hnm
  refine z_lv (lv' := [(0, .ref (ad 0)), (1, .ref (ad (11 + 418 + 3 * k1))), (2, .ref (ad (11 + 418 + 3 * k2)))]) [0, 1, 2] rfl ?_
  refine z_aload_n C 1 dX9_isSameWeakest_0 rfl ?_
  refine z_get (v := .ref (ad (11 + 418 + 3 * k1 + 1))) C (by omega) hay34 h3py37 rfl inA_X4 2 (by decide) q_249 rfl rfl dX9_isSameWeakest_1 ?_
  refine z_aload_n C 1 dX9_isSameWeakest_4 rfl ?_
  refine z_get (v := .ref (ad (11 + 418 + 3 * k1 + 1))) C (by omega) hay34 h3py37 rfl inA_X4 2 (by decide) q_249 rfl rfl dX9_isSameWeakest_5 ?_
  refine z_aload_n C 0 dX9_isSameWeakest_8 rfl ?_
  refine z_get (v := .ref (ad 4)) C (lt_K hN (rfl : Nat.blt (0) 952 = true)) hay2 ary1 rfl inA_X9 4 (by decide) q_353 rfl rfl dX9_isSameWeakest_9 ?_
  refine z_get (v := .ref (ad (4 + 1))) C (lt_K hN (rfl : Nat.blt (4) 952 = true)) hay5 fry1.1 rfl inA_X5 3 (by decide) q_98 rfl rfl dX9_isSameWeakest_12 ?_
  refine z_aload_n C 1 dX9_isSameWeakest_15 rfl ?_
  refine z_get (v := .int (zI (lpy37))) C (by omega) hay34 h3py37 rfl inA_X4 0 (by decide) q_243 rfl rfl dX9_isSameWeakest_16 ?_
  refine z_iald C (lt_K hN (rfl : Nat.blt (4 + 1) 952 = true)) hay14 fry1.2.1 ((lpy37).toNat) (by omega) (by omega) (by decide) dX9_isSameWeakest_19 ?_
  refine z_aload_n C 0 dX9_isSameWeakest_20 rfl ?_
  refine z_get (v := .ref (ad 4)) C (lt_K hN (rfl : Nat.blt (0) 952 = true)) hay2 ary1 rfl inA_X9 4 (by decide) q_353 rfl rfl dX9_isSameWeakest_21 ?_
  obtain ⟨xy42, exy43, hxy44⟩ := zI_of (zI (st ((lpy37).toNat)))
  rw [exy43]
  refine z_cV (As := [.int (zI (xy42)), .ref (ad 4)]) (rest := [.ref (ad (11 + 418 + 3 * k1 + 1))]) (ci := 5) C (c_X3_weakest l D A cs tt N ad _ (11 + 418 + 3 * k1 + 1) (by omega) _ _ _ (by omega) ⟨h4py37.1, h4py37.2⟩ (4) (by omega) _ _ _ _ _ _ _ _ _ ⟨fry1.1, fry1.2.1, fry1.2.2.1, fry1.2.2.2.1, fry1.2.2.2.2.1, fry1.2.2.2.2.2.1, fry1.2.2.2.2.2.2⟩ (xy42) (by omega)) (by omega) hay35 h4py37.1 rfl rfl mv_yX3_weakest q_946 hd_yX3_weakest (by decide) (Nat.le_of_ble_eq_true rfl) (by decide) dX9_isSameWeakest_24 rfl (kI0 fun vy45 gvy45 hvy45 => ?_)
  obtain ⟨hvy45, rfl⟩ := hvy45
  refine z_cV (As := [.int (zI (vy45))]) (rest := []) (ci := 5) C (c_X3_nameOf l D A cs tt N ad _ (11 + 418 + 3 * k1 + 1) (by omega) _ _ _ (by omega) ⟨h4py37.1, h4py37.2⟩  (vy45) (by omega)) (by omega) hay35 h4py37.1 rfl rfl mv_yX3_nameOf q_1229 hd_yX3_nameOf (by decide) (Nat.le_of_ble_eq_true rfl) (by decide) dX9_isSameWeakest_27 rfl (kI0 fun vy46 gvy46 hvy46 => ?_)
  obtain ⟨hvy46, rfl⟩ := hvy46
  refine z_istore_n (lv' := [(3, .int (zI (vy46))), (0, .ref (ad 0)), (1, .ref (ad (11 + 418 + 3 * k1))), (2, .ref (ad (11 + 418 + 3 * k2)))]) C dX9_isSameWeakest_30 rfl (by decide) rfl ?_
  refine z_aload_n C 3 dX9_isSameWeakest_31 rfl ?_
  refine z_get (v := .ref (ad (11 + 418 + 3 * k2 + 1))) C (by omega) hay38 h3py41 rfl inA_X4 2 (by decide) q_249 rfl rfl dX9_isSameWeakest_32 ?_
  refine z_aload_n C 3 dX9_isSameWeakest_35 rfl ?_
  refine z_get (v := .ref (ad (11 + 418 + 3 * k2 + 1))) C (by omega) hay38 h3py41 rfl inA_X4 2 (by decide) q_249 rfl rfl dX9_isSameWeakest_36 ?_
  refine z_aload_n C 1 dX9_isSameWeakest_39 rfl ?_
  refine z_get (v := .ref (ad 4)) C (lt_K hN (rfl : Nat.blt (0) 952 = true)) hay2 ary1 rfl inA_X9 4 (by decide) q_353 rfl rfl dX9_isSameWeakest_40 ?_
  refine z_get (v := .ref (ad (4 + 1))) C (lt_K hN (rfl : Nat.blt (4) 952 = true)) hay5 fry1.1 rfl inA_X5 3 (by decide) q_98 rfl rfl dX9_isSameWeakest_43 ?_
  refine z_aload_n C 3 dX9_isSameWeakest_46 rfl ?_
  refine z_get (v := .int (zI (lpy41))) C (by omega) hay38 h3py41 rfl inA_X4 0 (by decide) q_243 rfl rfl dX9_isSameWeakest_47 ?_
  refine z_iald C (lt_K hN (rfl : Nat.blt (4 + 1) 952 = true)) hay14 fry1.2.1 ((lpy41).toNat) (by omega) (by omega) (by decide) dX9_isSameWeakest_50 ?_
  refine z_aload_n C 1 dX9_isSameWeakest_51 rfl ?_
  refine z_get (v := .ref (ad 4)) C (lt_K hN (rfl : Nat.blt (0) 952 = true)) hay2 ary1 rfl inA_X9 4 (by decide) q_353 rfl rfl dX9_isSameWeakest_52 ?_
  obtain ⟨xy47, exy48, hxy49⟩ := zI_of (zI (st ((lpy41).toNat)))
  rw [exy48]
  refine z_cV (As := [.int (zI (xy47)), .ref (ad 4)]) (rest := [.ref (ad (11 + 418 + 3 * k2 + 1))]) (ci := 5) C (c_X3_weakest l D A cs tt N ad _ (11 + 418 + 3 * k2 + 1) (by omega) _ _ _ (by omega) ⟨h4py41.1, h4py41.2⟩ (4) (by omega) _ _ _ _ _ _ _ _ _ ⟨fry1.1, fry1.2.1, fry1.2.2.1, fry1.2.2.2.1, fry1.2.2.2.2.1, fry1.2.2.2.2.2.1, fry1.2.2.2.2.2.2⟩ (xy47) (by omega)) (by omega) hay39 h4py41.1 rfl rfl mv_yX3_weakest q_946 hd_yX3_weakest (by decide) (Nat.le_of_ble_eq_true rfl) (by decide) dX9_isSameWeakest_55 rfl (kI0 fun vy50 gvy50 hvy50 => ?_)
  obtain ⟨hvy50, rfl⟩ := hvy50
  refine z_cV (As := [.int (zI (vy50))]) (rest := []) (ci := 5) C (c_X3_nameOf l D A cs tt N ad _ (11 + 418 + 3 * k2 + 1) (by omega) _ _ _ (by omega) ⟨h4py41.1, h4py41.2⟩  (vy50) (by omega)) (by omega) hay39 h4py41.1 rfl rfl mv_yX3_nameOf q_1229 hd_yX3_nameOf (by decide) (Nat.le_of_ble_eq_true rfl) (by decide) dX9_isSameWeakest_58 rfl (kI0 fun vy51 gvy51 hvy51 => ?_)
  obtain ⟨hvy51, rfl⟩ := hvy51
  refine z_istore (lv' := [(4, .int (zI (vy51))), (3, .int (zI (vy46))), (0, .ref (ad 0)), (1, .ref (ad (11 + 418 + 3 * k1))), (2, .ref (ad (11 + 418 + 3 * k2)))]) C dX9_isSameWeakest_61 (by decide) rfl ?_
  refine z_iload_n C 1 dX9_isSameWeakest_63 rfl ?_
  refine z_iconst (z := -1) C dX9_isSameWeakest_64 rfl ?_
  refine z_icmp_eq (tgt := 78) C dX9_isSameWeakest_65 (by decide) (by omega) (by omega) (fun hby52 => ?_) (fun hby52 => ?_)
  · refine z_iconst (z := 0) C dX9_isSameWeakest_78 rfl ?_
    exact z_zret C hr hlk dX9_isSameWeakest_79 (by decide) (by decide) (by decide) ⟨0, rfl, rfl, rfl, by omega, rfl⟩
  · refine z_iload_n C 1 dX9_isSameWeakest_68 rfl ?_
    refine z_iload C 0 dX9_isSameWeakest_69 rfl ?_
    refine z_icmp_ne (tgt := 78) C dX9_isSameWeakest_71 (by decide) (by omega) (by omega) (fun hby53 => ?_) (fun hby53 => ?_)
    · refine z_iconst (z := 0) C dX9_isSameWeakest_78 rfl ?_
      exact z_zret C hr hlk dX9_isSameWeakest_79 (by decide) (by decide) (by decide) ⟨0, rfl, rfl, rfl, by omega, rfl⟩
    · refine z_iconst (z := 1) C dX9_isSameWeakest_74 rfl ?_
      refine z_goto (tgt := 79) C dX9_isSameWeakest_75 (by decide) ?_
      exact z_zret C hr hlk dX9_isSameWeakest_79 (by decide) (by decide) (by decide) ⟨1, rfl, rfl, rfl, by omega, rfl⟩

set_option maxRecDepth 100000 in
set_option maxHeartbeats 4000000 in
theorem c_X9_compare (l : Launch) (D : va_G) (A : Nat → Prop) (cs : Nat → ClassId) (tt : Nat) (N : Nat) (ad : Nat → Nat) (g : Nat → va_E) (hN : 952 ≤ N) (t fp im nz kz sl ho ua : Int) (st op ai fa mu tb tp : Nat → Int) (hR : okRec cs ad g N t fp im nz kz sl ho ua st op ai fa mu tb tp) (hl0 : l.stackTraces = false) (z : Int) (hz : -2147483648 ≤ z ∧ z ≤ 2147483647) (z1 : Int) (hz1 : -2147483648 ≤ z1 ∧ z1 ≤ 2147483647) (z2 : Int) (hz2 : -2147483648 ≤ z2 ∧ z2 ≤ 2147483647) : zMX l yX9_compare cX9_compare 6 (some .int) ({ frames := 12, cells := 6, slots := 60, locals := 720 } : Room) D A cs tt N ad g [.ref (ad 0), .int (zI (z)), .int (zI (z1)), .int (zI (z2))] (rI0 N ad fun r g' => (-2147483648 ≤ r ∧ r ≤ 2147483647) ∧ okRec cs ad g' N t fp im nz kz sl ho ua st op ai fa mu tb tp ∧ oX g g') (fun E N' ad' g' => E = eNS ∧ N' = N ∧ ad' = ad ∧ g' = g) := by
  obtain ⟨ary1, bry1, cry1, dry1, ery1, fry1, gry11, hry1, ⟨acry1, iry1⟩, ⟨kcry1, jry1⟩, kry1, lry1, mry1, nry1, ory1, pry1⟩ := id hR
  have hay2 : zAt ad (0) (ad 0) := rfl
  have hay3 : zAt ad (1) (ad 1) := rfl
  have hay4 : zAt ad (2) (ad 2) := rfl
  have hay5 : zAt ad (4) (ad 4) := rfl
  have hay6 : zAt ad (11) (ad 11) := rfl
  have hay7 : zAt ad (447) (ad 447) := rfl
  have hay8 : zAt ad (883) (ad 883) := rfl
  have hay9 : zAt ad (890) (ad 890) := rfl
  have hay10 : zAt ad (900) (ad 900) := rfl
  have hay11 : zAt ad (910) (ad 910) := rfl
  have hay12 : zAt ad (917) (ad 917) := rfl
  have hay13 : zAt ad (919) (ad 919) := rfl
  have hay14 : zAt ad (4 + 1) (ad (4 + 1)) := rfl
  have hay15 : zAt ad (4 + 2) (ad (4 + 2)) := rfl
  have hay16 : zAt ad (4 + 3) (ad (4 + 3)) := rfl
  have hay17 : zAt ad (4 + 4) (ad (4 + 4)) := rfl
  have hay18 : zAt ad (4 + 5) (ad (4 + 5)) := rfl
  have hay19 : zAt ad (4 + 6) (ad (4 + 6)) := rfl
  obtain ⟨thcy20, zhcy20, ohcy20, rhcy20, hzhcy20, hthcy20, hwhcy20⟩ := id lry1
  obtain ⟨thcy21, zhcy21, ohcy21, rhcy21, hzhcy21, hthcy21, hwhcy21⟩ := id mry1
  obtain ⟨asy22, bsy22, csy22, dsy22, esy22, ⟨ptsy22, fsy22, gsy221⟩, hsy22, ⟨nusy22, nvsy22, nwsy22, isy22, jsy22, ksy22, lsy22, msy22, nsy22⟩, rfsy22, osy22⟩ := id iry1
  have hay23 : zAt ad (11 + 1) (ad (11 + 1)) := rfl
  have hay24 : zAt ad (11 + 11) (ad (11 + 11)) := rfl
  have hay25 : zAt ad (11 + 12) (ad (11 + 12)) := rfl
  have hay26 : zAt ad (11 + 13) (ad (11 + 13)) := rfl
  have hay27 : zAt ad (11 + 13 + 1) (ad (11 + 13 + 1)) := rfl
  have hay28 : zAt ad (11 + 13 + 2) (ad (11 + 13 + 2)) := rfl
  have hay29 : zAt ad (11 + 13 + 3) (ad (11 + 13 + 3)) := rfl
  have hay30 : zAt ad (11 + 17) (ad (11 + 17)) := rfl
  obtain ⟨uy31t, uy31z, uy31o, uy31r, uy31z4, uy31t5, uy311, ⟨uy31u, uy312, uy313⟩, uy314⟩ := id csy22
  have hay32 : zAt ad (11 + 1) (ad (11 + 1)) := rfl
  have hay33 : zAt ad (11 + 1 + 1) (ad (11 + 1 + 1)) := rfl
  obtain ⟨sloy34, hooy34, uaoy34, stoy34, opoy34, aioy34, faoy34, muoy34, tboy34, hsloy34, hhooy34, hpoy34⟩ := id kry1
  have hay35 : zAt ad (883 + 1) (ad (883 + 1)) := rfl
  have hay36 : zAt ad (883 + 2) (ad (883 + 2)) := rfl
  have hay37 : zAt ad (883 + 3) (ad (883 + 3)) := rfl
  have hay38 : zAt ad (883 + 4) (ad (883 + 4)) := rfl
  have hay39 : zAt ad (883 + 5) (ad (883 + 5)) := rfl
  have hay40 : zAt ad (883 + 6) (ad (883 + 6)) := rfl
  obtain ⟨rky41, hky41⟩ := id ory1
  refine z_ofX (by decide) (Nat.le_of_ble_eq_true rfl) ?_
  intro p e s m below meth c C hr hlk hxt
  refine z_lv (lv' := [(0, .ref (ad 0)), (1, .int (zI (z))), (2, .int (zI (z1))), (3, .int (zI (z2)))]) [0, 1, 2, 3] rfl ?_
  refine z_aload_n C 0 dX9_compare_0 rfl ?_
  refine z_iload_n C 1 dX9_compare_1 rfl ?_
  have hrecy43 : okRec cs ad g N (t) (fp) (im) (nz) (kz) (sl) (ho) (ua) (st) (op) (ai) (fa) (mu) (tb) (tp) := ⟨ary1, bry1, cry1, dry1, ery1, fry1, gry11, hry1, ⟨_, iry1⟩, ⟨_, jry1⟩, kry1, lry1, mry1, nry1, ory1, pry1⟩
  refine z_cVX (As := [.int (zI (z))]) (rest := []) (ci := 11) C (c_X9_needPit l D A cs tt N ad _ hN _ _ _ _ _ _ _ _ _ _ _ _ _ _ _ hrecy43 hl0 (z) (by omega)) (lt_K hN (rfl : Nat.blt (0) 952 = true)) hay2 ary1 rfl rfl mv_yX9_needPit q_1316 hd_yX9_needPit (by decide) (Nat.le_of_ble_eq_true rfl) (by decide) dX9_compare_2 rfl (fun E N' ad' g' h => by obtain ⟨rfl, rfl, rfl, rfl⟩ := h; exact z_uout C hxt hlk (by decide) (by decide) ⟨rfl, rfl, rfl, rfl⟩) (kV0 fun gvy42 hvy42 => ?_)
  obtain ⟨hvy42, rfl⟩ := hvy42
  refine z_aload_n C 0 dX9_compare_5 rfl ?_
  refine z_iload_n C 2 dX9_compare_6 rfl ?_
  have hrecy45 : okRec cs ad g N (t) (fp) (im) (nz) (kz) (sl) (ho) (ua) (st) (op) (ai) (fa) (mu) (tb) (tp) := ⟨ary1, bry1, cry1, dry1, ery1, fry1, gry11, hry1, ⟨_, iry1⟩, ⟨_, jry1⟩, kry1, lry1, mry1, nry1, ory1, pry1⟩
  refine z_cVX (As := [.int (zI (z1))]) (rest := []) (ci := 11) C (c_X9_needPit l D A cs tt N ad _ hN _ _ _ _ _ _ _ _ _ _ _ _ _ _ _ hrecy45 hl0 (z1) (by omega)) (lt_K hN (rfl : Nat.blt (0) 952 = true)) hay2 ary1 rfl rfl mv_yX9_needPit q_1316 hd_yX9_needPit (by decide) (Nat.le_of_ble_eq_true rfl) (by decide) dX9_compare_7 rfl (fun E N' ad' g' h => by obtain ⟨rfl, rfl, rfl, rfl⟩ := h; exact z_uout C hxt hlk (by decide) (by decide) ⟨rfl, rfl, rfl, rfl⟩) (kV0 fun gvy44 hvy44 => ?_)
  obtain ⟨hvy44, rfl⟩ := hvy44
  refine z_aload_n C 0 dX9_compare_10 rfl ?_
  refine z_get (v := .ref (ad 11)) C (lt_K hN (rfl : Nat.blt (0) 952 = true)) hay2 ary1 rfl inA_X9 5 (by decide) q_354 rfl rfl dX9_compare_11 ?_
  refine z_get (v := .ref (ad (11 + 12))) C (lt_K hN (rfl : Nat.blt (11) 952 = true)) hay6 iry1.1 rfl inA_X6 3 (by decide) q_263 rfl rfl dX9_compare_14 ?_
  refine z_iload_n C 1 dX9_compare_17 rfl ?_
  refine z_aald C (lt_K hN (rfl : Nat.blt (11 + 12) 952 = true)) hay25 fsy22 5 rfl ((z).toNat) (by omega) (by omega) (by decide) (gsy221 (z).toNat (by omega)) dX9_compare_18 ?_
  have hay46 : zAt ad (11 + 418 + 3 * (z).toNat) (ad (11 + 418 + 3 * (z).toNat)) := rfl
  have hay47 : zAt ad (11 + 418 + 3 * (z).toNat + 1) (ad (11 + 418 + 3 * (z).toNat + 1)) := rfl
  have hay48 : zAt ad (11 + 418 + 3 * (z).toNat + 1 + 1) (ad (11 + 418 + 3 * (z).toNat + 1 + 1)) := rfl
  obtain ⟨lpy49, tpy49, zpy49, opy49, rpy49, h1py49, h2py49, h3py49, h4py49⟩ := hsy22 (z).toNat (by omega)
  refine z_get (v := .ref (ad (11 + 418 + 3 * (z).toNat + 1))) C (by omega) hay46 h3py49 rfl inA_X4 2 (by decide) q_249 rfl rfl dX9_compare_19 ?_
  refine z_astore (lv' := [(4, .ref (ad (11 + 418 + 3 * (z).toNat + 1))), (0, .ref (ad 0)), (1, .int (zI (z))), (2, .int (zI (z1))), (3, .int (zI (z2)))]) C dX9_compare_22 (by decide) rfl ?_
  refine z_aload_n C 1 dX9_compare_24 rfl ?_
  refine z_get (v := .ref (ad 11)) C (lt_K hN (rfl : Nat.blt (0) 952 = true)) hay2 ary1 rfl inA_X9 5 (by decide) q_354 rfl rfl dX9_compare_25 ?_
  refine z_get (v := .ref (ad (11 + 12))) C (lt_K hN (rfl : Nat.blt (11) 952 = true)) hay6 iry1.1 rfl inA_X6 3 (by decide) q_263 rfl rfl dX9_compare_28 ?_
  refine z_iload_n C 3 dX9_compare_31 rfl ?_
  refine z_aald C (lt_K hN (rfl : Nat.blt (11 + 12) 952 = true)) hay25 fsy22 5 rfl ((z1).toNat) (by omega) (by omega) (by decide) (gsy221 (z1).toNat (by omega)) dX9_compare_32 ?_
  have hay50 : zAt ad (11 + 418 + 3 * (z1).toNat) (ad (11 + 418 + 3 * (z1).toNat)) := rfl
  have hay51 : zAt ad (11 + 418 + 3 * (z1).toNat + 1) (ad (11 + 418 + 3 * (z1).toNat + 1)) := rfl
  have hay52 : zAt ad (11 + 418 + 3 * (z1).toNat + 1 + 1) (ad (11 + 418 + 3 * (z1).toNat + 1 + 1)) := rfl
  obtain ⟨lpy53, tpy53, zpy53, opy53, rpy53, h1py53, h2py53, h3py53, h4py53⟩ := hsy22 (z1).toNat (by omega)
  refine z_get (v := .ref (ad (11 + 418 + 3 * (z1).toNat + 1))) C (by omega) hay50 h3py53 rfl inA_X4 2 (by decide) q_249 rfl rfl dX9_compare_33 ?_
  refine z_astore (lv' := [(5, .ref (ad (11 + 418 + 3 * (z1).toNat + 1))), (4, .ref (ad (11 + 418 + 3 * (z).toNat + 1))), (0, .ref (ad 0)), (1, .int (zI (z))), (2, .int (zI (z1))), (3, .int (zI (z2)))]) C dX9_compare_36 (by decide) rfl ?_
  refine z_iload_n C 5 dX9_compare_38 rfl ?_
  by_cases hsy54 : z2 ≠ 0 ∧ z2 ≠ 1 ∧ z2 ≠ 2 ∧ z2 ≠ 3
  · refine z_tout (tgt := 131) C dX9_compare_39 (by omega) (by omega) (by decide) ?_
    exact z_thrNW (cls := eNS) (text := "no such comparison") C hl0 (ix := 13) (rx := nsB) ns0 ns1 ns2 ns5 (by decide +kernel) q_904 q_24 (by decide +kernel) at_NS gd_NS dX9_compare_131 dX9_compare_134 dX9_compare_135 dX9_compare_138 dX9_compare_141 hxt (by decide) (Nat.le_of_ble_eq_true rfl) (by decide) (by decide) hlk (by decide) (by decide) ⟨rfl, rfl, rfl, rfl⟩
  · rcases (show z2 = 0 ∨ z2 = 1 ∨ z2 = 2 ∨ z2 = 3 by omega) with rfl | rfl | rfl | rfl
    · refine z_tin (off := 29) (tgt := 68) C dX9_compare_39 (by omega) (by omega) (by omega) rfl (by decide) ?_
      refine z_aload C 1 dX9_compare_68 rfl ?_
      refine z_aload C 0 dX9_compare_70 rfl ?_
      refine z_cV (As := [.ref (ad (11 + 418 + 3 * (z1).toNat + 1))]) (rest := []) (ci := 5) C (c_X3_namesIn l D A cs tt N ad _ (11 + 418 + 3 * (z).toNat + 1) (by omega) _ _ _ (by omega) ⟨h4py49.1, h4py49.2⟩ (11 + 418 + 3 * (z1).toNat + 1) (by omega) _ _ _ (by omega) ⟨h4py53.1, h4py53.2⟩) (by omega) hay47 h4py49.1 rfl rfl mv_yX3_namesIn q_1329 hd_yX3_namesIn (by decide) (Nat.le_of_ble_eq_true rfl) (by decide) dX9_compare_72 rfl (kI0 fun vy55 gvy55 hvy55 => ?_)
      obtain ⟨hvy55, rfl⟩ := hvy55
      have hrecy56 : okRec cs ad g N (t) (fp) (im) (nz) (kz) (sl) (ho) (ua) (st) (op) (ai) (fa) (mu) (tb) (tp) := ⟨ary1, bry1, cry1, dry1, ery1, fry1, gry11, hry1, ⟨_, iry1⟩, ⟨_, jry1⟩, kry1, lry1, mry1, nry1, ory1, pry1⟩
      exact z_rX (z_iret C hr hlk dX9_compare_75 (by decide) (by decide) ⟨vy55, rfl, rfl, rfl, by omega, hrecy56, fun j j1 j2 => by rfl⟩)
    · refine z_tin (off := 37) (tgt := 76) C dX9_compare_39 (by omega) (by omega) (by omega) rfl (by decide) ?_
      refine z_aload_n C 2 dX9_compare_76 rfl ?_
      refine z_get (v := .ref (ad 917)) C (lt_K hN (rfl : Nat.blt (0) 952 = true)) hay2 ary1 rfl inA_X9 12 (by decide) q_361 rfl rfl dX9_compare_77 ?_
      refine z_aload C 1 dX9_compare_80 rfl ?_
      refine z_aload C 0 dX9_compare_82 rfl ?_
      obtain ⟨rky57, hky57⟩ := id ory1
      refine z_cV (As := [.ref (ad (11 + 418 + 3 * (z).toNat + 1)), .ref (ad (11 + 418 + 3 * (z1).toNat + 1))]) (rest := []) (ci := 3) C (c_X1_longestRow l D A cs tt N ad _ 917 (by omega) _ hky57 (11 + 418 + 3 * (z).toNat + 1) (by omega) _ _ _ (by omega) ⟨h4py49.1, h4py49.2⟩ (11 + 418 + 3 * (z1).toNat + 1) (by omega) _ _ _ (by omega) ⟨h4py53.1, h4py53.2⟩ (by omega) (by omega)) (lt_K hN (rfl : Nat.blt (917) 952 = true)) hay12 hky57.1 rfl rfl mv_yX1_longestRow q_1334 hd_yX1_longestRow (by decide) (Nat.le_of_ble_eq_true rfl) (by decide) dX9_compare_84 rfl (kI0 fun vy58 gvy58 hvy58 => ?_)
      obtain ⟨hrvy58, hkvy58, hfvy58⟩ := hvy58
      have hgy59 := (hfvy58 (0) (by omega)).trans ary1
      have hgy60 := (hfvy58 (1) (by omega)).trans dry1
      have hpy61 := okState.mv (ad' := ad) (g' := gvy58) (fun j h1 h2 => by rfl) (fun j h1 h2 => by rw [hfvy58 _ (by omega)]) iry1
      have hpy62 := okRdr.mv (ad' := ad) (g' := gvy58) (fun j h1 h2 => by rfl) (fun j h1 h2 => by rw [hfvy58 _ (by omega)]) ery1
      have hpy63 := isPlan.mv (ad' := ad) (g' := gvy58) (fun j h1 h2 => by rfl) (fun j h1 h2 => by rw [hfvy58 _ (by omega)]) fry1
      have hpy64 := okState.mv (ad' := ad) (g' := gvy58) (fun j h1 h2 => by rfl) (fun j h1 h2 => by rw [hfvy58 _ (by omega)]) jry1
      have hpy65 := okPlan.mv (ad' := ad) (g' := gvy58) (fun j h1 h2 => by rfl) (fun j h1 h2 => by rw [hfvy58 _ (by omega)]) kry1
      have hpy66 := okGss.mv (ad' := ad) (g' := gvy58) (fun j h1 h2 => by rfl) (fun j h1 h2 => by rw [hfvy58 _ (by omega)]) nry1
      have hpy67 := okBld.mv (ad' := ad) (g' := gvy58) (fun j h1 h2 => by rfl) (fun j h1 h2 => by rw [hfvy58 _ (by omega)]) pry1
      have hoky68 : okWorld cs ad gvy58 (890) := okWorld.mv (fun j j1 j2 => by rw [hfvy58 _ (by omega)]) lry1
      have hoky69 : okWorld cs ad gvy58 (900) := okWorld.mv (fun j j1 j2 => by rw [hfvy58 _ (by omega)]) mry1
      have hrecy70 : okRec cs ad gvy58 N (t) (fp) (im) (nz) (kz) (sl) (ho) (ua) (st) (op) (ai) (fa) (mu) (tb) (tp) := ⟨hgy59, bry1, cry1, hgy60, hpy62, hpy63, gry11, hry1, ⟨_, hpy61⟩, ⟨_, hpy64⟩, hpy65, hoky68, hoky69, hpy66, hkvy58, hpy67⟩
      exact z_rX (z_iret C hr hlk dX9_compare_87 (by decide) (by decide) ⟨vy58, rfl, rfl, rfl, by omega, hrecy70, fun j j1 j2 => by rw [hfvy58 _ (by omega)]⟩)
    · refine z_tin (off := 49) (tgt := 88) C dX9_compare_39 (by omega) (by omega) (by omega) rfl (by decide) ?_
      refine z_aload_n C 2 dX9_compare_88 rfl ?_
      refine z_get (v := .ref (ad 917)) C (lt_K hN (rfl : Nat.blt (0) 952 = true)) hay2 ary1 rfl inA_X9 12 (by decide) q_361 rfl rfl dX9_compare_89 ?_
      refine z_aload C 1 dX9_compare_92 rfl ?_
      refine z_aload C 0 dX9_compare_94 rfl ?_
      obtain ⟨rky71, hky71⟩ := id ory1
      refine z_cV (As := [.ref (ad (11 + 418 + 3 * (z).toNat + 1)), .ref (ad (11 + 418 + 3 * (z1).toNat + 1))]) (rest := []) (ci := 3) C (c_X1_fewestSteps l D A cs tt N ad _ 917 (by omega) _ hky71 (11 + 418 + 3 * (z).toNat + 1) (by omega) _ _ _ (by omega) ⟨h4py49.1, h4py49.2⟩ (11 + 418 + 3 * (z1).toNat + 1) (by omega) _ _ _ (by omega) ⟨h4py53.1, h4py53.2⟩ (by omega) (by omega)) (lt_K hN (rfl : Nat.blt (917) 952 = true)) hay12 hky71.1 rfl rfl mv_yX1_fewestSteps q_1339 hd_yX1_fewestSteps (by decide) (Nat.le_of_ble_eq_true rfl) (by decide) dX9_compare_96 rfl (kI0 fun vy72 gvy72 hvy72 => ?_)
      obtain ⟨hrvy72, hkvy72, hfvy72⟩ := hvy72
      have hgy73 := (hfvy72 (0) (by omega)).trans ary1
      have hgy74 := (hfvy72 (1) (by omega)).trans dry1
      have hpy75 := okState.mv (ad' := ad) (g' := gvy72) (fun j h1 h2 => by rfl) (fun j h1 h2 => by rw [hfvy72 _ (by omega)]) iry1
      have hpy76 := okRdr.mv (ad' := ad) (g' := gvy72) (fun j h1 h2 => by rfl) (fun j h1 h2 => by rw [hfvy72 _ (by omega)]) ery1
      have hpy77 := isPlan.mv (ad' := ad) (g' := gvy72) (fun j h1 h2 => by rfl) (fun j h1 h2 => by rw [hfvy72 _ (by omega)]) fry1
      have hpy78 := okState.mv (ad' := ad) (g' := gvy72) (fun j h1 h2 => by rfl) (fun j h1 h2 => by rw [hfvy72 _ (by omega)]) jry1
      have hpy79 := okPlan.mv (ad' := ad) (g' := gvy72) (fun j h1 h2 => by rfl) (fun j h1 h2 => by rw [hfvy72 _ (by omega)]) kry1
      have hpy80 := okGss.mv (ad' := ad) (g' := gvy72) (fun j h1 h2 => by rfl) (fun j h1 h2 => by rw [hfvy72 _ (by omega)]) nry1
      have hpy81 := okBld.mv (ad' := ad) (g' := gvy72) (fun j h1 h2 => by rfl) (fun j h1 h2 => by rw [hfvy72 _ (by omega)]) pry1
      have hoky82 : okWorld cs ad gvy72 (890) := okWorld.mv (fun j j1 j2 => by rw [hfvy72 _ (by omega)]) lry1
      have hoky83 : okWorld cs ad gvy72 (900) := okWorld.mv (fun j j1 j2 => by rw [hfvy72 _ (by omega)]) mry1
      have hrecy84 : okRec cs ad gvy72 N (t) (fp) (im) (nz) (kz) (sl) (ho) (ua) (st) (op) (ai) (fa) (mu) (tb) (tp) := ⟨hgy73, bry1, cry1, hgy74, hpy76, hpy77, gry11, hry1, ⟨_, hpy75⟩, ⟨_, hpy78⟩, hpy79, hoky82, hoky83, hpy80, hkvy72, hpy81⟩
      exact z_rX (z_iret C hr hlk dX9_compare_99 (by decide) (by decide) ⟨vy72, rfl, rfl, rfl, by omega, hrecy84, fun j j1 j2 => by rw [hfvy72 _ (by omega)]⟩)
    · refine z_tin (off := 61) (tgt := 100) C dX9_compare_39 (by omega) (by omega) (by omega) rfl (by decide) ?_
      refine z_aload_n C 2 dX9_compare_100 rfl ?_
      refine z_aload_n C 2 dX9_compare_101 rfl ?_
      refine z_get (v := .ref (ad 11)) C (lt_K hN (rfl : Nat.blt (0) 952 = true)) hay2 ary1 rfl inA_X9 5 (by decide) q_354 rfl rfl dX9_compare_102 ?_
      refine z_get (v := .ref (ad (11 + 12))) C (lt_K hN (rfl : Nat.blt (11) 952 = true)) hay6 iry1.1 rfl inA_X6 3 (by decide) q_263 rfl rfl dX9_compare_105 ?_
      refine z_iload_n C 3 dX9_compare_108 rfl ?_
      refine z_aald C (lt_K hN (rfl : Nat.blt (11 + 12) 952 = true)) hay25 fsy22 5 rfl ((z).toNat) (by omega) (by omega) (by decide) (gsy221 (z).toNat (by omega)) dX9_compare_109 ?_
      refine z_aload_n C 2 dX9_compare_110 rfl ?_
      refine z_get (v := .ref (ad 11)) C (lt_K hN (rfl : Nat.blt (0) 952 = true)) hay2 ary1 rfl inA_X9 5 (by decide) q_354 rfl rfl dX9_compare_111 ?_
      refine z_get (v := .ref (ad (11 + 12))) C (lt_K hN (rfl : Nat.blt (11) 952 = true)) hay6 iry1.1 rfl inA_X6 3 (by decide) q_263 rfl rfl dX9_compare_114 ?_
      refine z_iload_n C 4 dX9_compare_117 rfl ?_
      refine z_aald C (lt_K hN (rfl : Nat.blt (11 + 12) 952 = true)) hay25 fsy22 5 rfl ((z1).toNat) (by omega) (by omega) (by decide) (gsy221 (z1).toNat (by omega)) dX9_compare_118 ?_
      have hrecy86 : okRec cs ad g N (t) (fp) (im) (nz) (kz) (sl) (ho) (ua) (st) (op) (ai) (fa) (mu) (tb) (tp) := ⟨ary1, bry1, cry1, dry1, ery1, fry1, gry11, hry1, ⟨_, iry1⟩, ⟨_, jry1⟩, kry1, lry1, mry1, nry1, ory1, pry1⟩
      refine z_cV (As := [.ref (ad (11 + 418 + 3 * (z).toNat)), .ref (ad (11 + 418 + 3 * (z1).toNat))]) (rest := []) (ci := 11) C (c_X9_isSameWeakest l D A cs tt N ad _ hN _ _ _ _ _ _ _ _ _ _ _ _ _ _ _ hrecy86 ((z).toNat) ((z1).toNat) (by omega) (by omega)) (lt_K hN (rfl : Nat.blt (0) 952 = true)) hay2 ary1 rfl rfl mv_yX9_isSameWeakest q_1344 hd_yX9_isSameWeakest (by decide) (Nat.le_of_ble_eq_true rfl) (by decide) dX9_compare_119 rfl (kI0 fun vy85 gvy85 hvy85 => ?_)
      obtain ⟨hvy85, rfl⟩ := hvy85
      refine z_if_eq (tgt := 129) C dX9_compare_122 (by decide) (by omega) (fun hby87 => ?_) (fun hby87 => ?_)
      · refine z_iconst (z := 0) C dX9_compare_129 rfl ?_
        have hrecy88 : okRec cs ad g N (t) (fp) (im) (nz) (kz) (sl) (ho) (ua) (st) (op) (ai) (fa) (mu) (tb) (tp) := ⟨ary1, bry1, cry1, dry1, ery1, fry1, gry11, hry1, ⟨_, iry1⟩, ⟨_, jry1⟩, kry1, lry1, mry1, nry1, ory1, pry1⟩
        exact z_rX (z_iret C hr hlk dX9_compare_130 (by decide) (by decide) ⟨0, rfl, rfl, rfl, by omega, hrecy88, fun j j1 j2 => by rfl⟩)
      · refine z_iconst (z := 1) C dX9_compare_125 rfl ?_
        refine z_goto (tgt := 130) C dX9_compare_126 (by decide) ?_
        have hrecy89 : okRec cs ad g N (t) (fp) (im) (nz) (kz) (sl) (ho) (ua) (st) (op) (ai) (fa) (mu) (tb) (tp) := ⟨ary1, bry1, cry1, dry1, ery1, fry1, gry11, hry1, ⟨_, iry1⟩, ⟨_, jry1⟩, kry1, lry1, mry1, nry1, ory1, pry1⟩
        exact z_rX (z_iret C hr hlk dX9_compare_130 (by decide) (by decide) ⟨1, rfl, rfl, rfl, by omega, hrecy89, fun j j1 j2 => by rfl⟩)

set_option maxRecDepth 100000 in
set_option maxHeartbeats 4000000 in
theorem c_X9_nearest (l : Launch) (D : va_G) (A : Nat → Prop) (cs : Nat → ClassId) (tt : Nat) (N : Nat) (ad : Nat → Nat) (g : Nat → va_E) (hN : 952 ≤ N) (t fp im nz kz sl ho ua : Int) (st op ai fa mu tb tp : Nat → Int) (hR : okRec cs ad g N t fp im nz kz sl ho ua st op ai fa mu tb tp) (hl0 : l.stackTraces = false) (z : Int) (hz : -2147483648 ≤ z ∧ z ≤ 2147483647) : zMX l yX9_nearest cX9_nearest 6 (some .int) ({ frames := 12, cells := 6, slots := 60, locals := 720 } : Room) D A cs tt N ad g [.ref (ad 0), .int (zI (z))] (rI0 N ad fun r g' => (-2147483648 ≤ r ∧ r ≤ 2147483647) ∧ okRec cs ad g' N t fp im nz kz sl ho ua st op ai fa mu tb tp ∧ oX g g') (fun E N' ad' g' => E = eNS ∧ N' = N ∧ ad' = ad ∧ g' = g) := by
  obtain ⟨ary1, bry1, cry1, dry1, ery1, fry1, gry11, hry1, ⟨acry1, iry1⟩, ⟨kcry1, jry1⟩, kry1, lry1, mry1, nry1, ory1, pry1⟩ := id hR
  have hay2 : zAt ad (0) (ad 0) := rfl
  have hay3 : zAt ad (1) (ad 1) := rfl
  have hay4 : zAt ad (2) (ad 2) := rfl
  have hay5 : zAt ad (4) (ad 4) := rfl
  have hay6 : zAt ad (11) (ad 11) := rfl
  have hay7 : zAt ad (447) (ad 447) := rfl
  have hay8 : zAt ad (883) (ad 883) := rfl
  have hay9 : zAt ad (890) (ad 890) := rfl
  have hay10 : zAt ad (900) (ad 900) := rfl
  have hay11 : zAt ad (910) (ad 910) := rfl
  have hay12 : zAt ad (917) (ad 917) := rfl
  have hay13 : zAt ad (919) (ad 919) := rfl
  have hay14 : zAt ad (4 + 1) (ad (4 + 1)) := rfl
  have hay15 : zAt ad (4 + 2) (ad (4 + 2)) := rfl
  have hay16 : zAt ad (4 + 3) (ad (4 + 3)) := rfl
  have hay17 : zAt ad (4 + 4) (ad (4 + 4)) := rfl
  have hay18 : zAt ad (4 + 5) (ad (4 + 5)) := rfl
  have hay19 : zAt ad (4 + 6) (ad (4 + 6)) := rfl
  obtain ⟨thcy20, zhcy20, ohcy20, rhcy20, hzhcy20, hthcy20, hwhcy20⟩ := id lry1
  obtain ⟨thcy21, zhcy21, ohcy21, rhcy21, hzhcy21, hthcy21, hwhcy21⟩ := id mry1
  obtain ⟨asy22, bsy22, csy22, dsy22, esy22, ⟨ptsy22, fsy22, gsy221⟩, hsy22, ⟨nusy22, nvsy22, nwsy22, isy22, jsy22, ksy22, lsy22, msy22, nsy22⟩, rfsy22, osy22⟩ := id iry1
  have hay23 : zAt ad (11 + 1) (ad (11 + 1)) := rfl
  have hay24 : zAt ad (11 + 11) (ad (11 + 11)) := rfl
  have hay25 : zAt ad (11 + 12) (ad (11 + 12)) := rfl
  have hay26 : zAt ad (11 + 13) (ad (11 + 13)) := rfl
  have hay27 : zAt ad (11 + 13 + 1) (ad (11 + 13 + 1)) := rfl
  have hay28 : zAt ad (11 + 13 + 2) (ad (11 + 13 + 2)) := rfl
  have hay29 : zAt ad (11 + 13 + 3) (ad (11 + 13 + 3)) := rfl
  have hay30 : zAt ad (11 + 17) (ad (11 + 17)) := rfl
  obtain ⟨uy31t, uy31z, uy31o, uy31r, uy31z4, uy31t5, uy311, ⟨uy31u, uy312, uy313⟩, uy314⟩ := id csy22
  have hay32 : zAt ad (11 + 1) (ad (11 + 1)) := rfl
  have hay33 : zAt ad (11 + 1 + 1) (ad (11 + 1 + 1)) := rfl
  obtain ⟨sloy34, hooy34, uaoy34, stoy34, opoy34, aioy34, faoy34, muoy34, tboy34, hsloy34, hhooy34, hpoy34⟩ := id kry1
  have hay35 : zAt ad (883 + 1) (ad (883 + 1)) := rfl
  have hay36 : zAt ad (883 + 2) (ad (883 + 2)) := rfl
  have hay37 : zAt ad (883 + 3) (ad (883 + 3)) := rfl
  have hay38 : zAt ad (883 + 4) (ad (883 + 4)) := rfl
  have hay39 : zAt ad (883 + 5) (ad (883 + 5)) := rfl
  have hay40 : zAt ad (883 + 6) (ad (883 + 6)) := rfl
  obtain ⟨rky41, hky41⟩ := id ory1
  refine z_ofX (by decide) (Nat.le_of_ble_eq_true rfl) ?_
  intro p e s m below meth c C hr hlk hxt
  refine z_lv (lv' := [(0, .ref (ad 0)), (1, .int (zI (z)))]) [0, 1] rfl ?_
  refine z_aload_n C 0 dX9_nearest_0 rfl ?_
  refine z_iload_n C 1 dX9_nearest_1 rfl ?_
  have hrecy43 : okRec cs ad g N (t) (fp) (im) (nz) (kz) (sl) (ho) (ua) (st) (op) (ai) (fa) (mu) (tb) (tp) := ⟨ary1, bry1, cry1, dry1, ery1, fry1, gry11, hry1, ⟨_, iry1⟩, ⟨_, jry1⟩, kry1, lry1, mry1, nry1, ory1, pry1⟩
  refine z_cVX (As := [.int (zI (z))]) (rest := []) (ci := 11) C (c_X9_needPit l D A cs tt N ad _ hN _ _ _ _ _ _ _ _ _ _ _ _ _ _ _ hrecy43 hl0 (z) (by omega)) (lt_K hN (rfl : Nat.blt (0) 952 = true)) hay2 ary1 rfl rfl mv_yX9_needPit q_1316 hd_yX9_needPit (by decide) (Nat.le_of_ble_eq_true rfl) (by decide) dX9_nearest_2 rfl (fun E N' ad' g' h => by obtain ⟨rfl, rfl, rfl, rfl⟩ := h; exact z_uout C hxt hlk (by decide) (by decide) ⟨rfl, rfl, rfl, rfl⟩) (kV0 fun gvy42 hvy42 => ?_)
  obtain ⟨hvy42, rfl⟩ := hvy42
  refine z_iconst (z := -1) C dX9_nearest_5 rfl ?_
  refine z_istore_n (lv' := [(2, .int (zI (-1))), (0, .ref (ad 0)), (1, .int (zI (z)))]) C dX9_nearest_6 rfl (by decide) rfl ?_
  refine z_iconst (z := 0) C dX9_nearest_7 rfl ?_
  refine z_istore_n (lv' := [(3, .int (zI (0))), (2, .int (zI (-1))), (0, .ref (ad 0)), (1, .int (zI (z)))]) C dX9_nearest_8 rfl (by decide) rfl ?_
  refine z_iconst (z := 0) C dX9_nearest_9 rfl ?_
  refine z_istore (lv' := [(4, .int (zI (0))), (3, .int (zI (0))), (2, .int (zI (-1))), (0, .ref (ad 0)), (1, .int (zI (z)))]) C dX9_nearest_10 (by decide) rfl ?_
  have lp12 : ∀ (n9 : Nat) (i : Int) (fe : Int) (wh : Int) (g1 : Nat → va_E), (4 - i).toNat = n9 → (okRec cs ad g1 N t fp im nz kz sl ho ua st op ai fa mu tb tp) → (oX g g1) → (0 ≤ i ∧ i ≤ 4) → (-2147483648 ≤ fe ∧ fe ≤ 2147483647) → (-1 ≤ wh ∧ wh ≤ 4) → (0 ≤ z ∧ z ≤ 5) → zV p l e ({ frames := 12, cells := 6, slots := 60, locals := 720 } : Room) s m ([.ref (ad 0), .int (zI (z))] : List Value).toArray below meth c (vx_MQ below (zPost D A (rI0 N ad fun r g' => (-2147483648 ≤ r ∧ r ≤ 2147483647) ∧ okRec cs ad g' N t fp im nz kz sl ho ua st op ai fa mu tb tp ∧ oX g g')) (zX D A (fun E N' ad' g' => E = eNS ∧ N' = N ∧ ad' = ad ∧ g' = g)) ([.ref (ad 0), .int (zI (z))] : List Value).toArray s ({ frames := 12, cells := 6, slots := 60, locals := 720 } : Room).cells ({ frames := 12, cells := 6, slots := 60, locals := 720 } : Room).slots A) D A 6 (N) ad g1 (1) (6) 12 [(4, .int (zI (i))), (3, .int (zI (fe))), (2, .int (zI (wh))), (0, .ref (ad 0)), (1, .int (zI (z)))] [] := by
    intro n9
    induction n9 using Nat.strongRecOn with
    | ind n9 ih_lp12 =>
      intro i fe wh g1 hm9 f1 f2 hv12_0 hv12_1 hv12_2 hv12_3
      obtain ⟨ary44, bry44, cry44, dry44, ery44, fry44, gry441, hry44, ⟨acry44, iry44⟩, ⟨kcry44, jry44⟩, kry44, lry44, mry44, nry44, ory44, pry44⟩ := id f1
      have hay45 : zAt ad (0) (ad 0) := rfl
      have hay46 : zAt ad (1) (ad 1) := rfl
      have hay47 : zAt ad (2) (ad 2) := rfl
      have hay48 : zAt ad (4) (ad 4) := rfl
      have hay49 : zAt ad (11) (ad 11) := rfl
      have hay50 : zAt ad (447) (ad 447) := rfl
      have hay51 : zAt ad (883) (ad 883) := rfl
      have hay52 : zAt ad (890) (ad 890) := rfl
      have hay53 : zAt ad (900) (ad 900) := rfl
      have hay54 : zAt ad (910) (ad 910) := rfl
      have hay55 : zAt ad (917) (ad 917) := rfl
      have hay56 : zAt ad (919) (ad 919) := rfl
      have hay57 : zAt ad (4 + 1) (ad (4 + 1)) := rfl
      have hay58 : zAt ad (4 + 2) (ad (4 + 2)) := rfl
      have hay59 : zAt ad (4 + 3) (ad (4 + 3)) := rfl
      have hay60 : zAt ad (4 + 4) (ad (4 + 4)) := rfl
      have hay61 : zAt ad (4 + 5) (ad (4 + 5)) := rfl
      have hay62 : zAt ad (4 + 6) (ad (4 + 6)) := rfl
      obtain ⟨thcy63, zhcy63, ohcy63, rhcy63, hzhcy63, hthcy63, hwhcy63⟩ := id lry44
      obtain ⟨thcy64, zhcy64, ohcy64, rhcy64, hzhcy64, hthcy64, hwhcy64⟩ := id mry44
      obtain ⟨asy65, bsy65, csy65, dsy65, esy65, ⟨ptsy65, fsy65, gsy651⟩, hsy65, ⟨nusy65, nvsy65, nwsy65, isy65, jsy65, ksy65, lsy65, msy65, nsy65⟩, rfsy65, osy65⟩ := id iry44
      have hay66 : zAt ad (11 + 1) (ad (11 + 1)) := rfl
      have hay67 : zAt ad (11 + 11) (ad (11 + 11)) := rfl
      have hay68 : zAt ad (11 + 12) (ad (11 + 12)) := rfl
      have hay69 : zAt ad (11 + 13) (ad (11 + 13)) := rfl
      have hay70 : zAt ad (11 + 13 + 1) (ad (11 + 13 + 1)) := rfl
      have hay71 : zAt ad (11 + 13 + 2) (ad (11 + 13 + 2)) := rfl
      have hay72 : zAt ad (11 + 13 + 3) (ad (11 + 13 + 3)) := rfl
      have hay73 : zAt ad (11 + 17) (ad (11 + 17)) := rfl
      obtain ⟨uy74t, uy74z, uy74o, uy74r, uy74z4, uy74t5, uy741, ⟨uy74u, uy742, uy743⟩, uy744⟩ := id csy65
      have hay75 : zAt ad (11 + 1) (ad (11 + 1)) := rfl
      have hay76 : zAt ad (11 + 1 + 1) (ad (11 + 1 + 1)) := rfl
      obtain ⟨sloy77, hooy77, uaoy77, stoy77, opoy77, aioy77, faoy77, muoy77, tboy77, hsloy77, hhooy77, hpoy77⟩ := id kry44
      have hay78 : zAt ad (883 + 1) (ad (883 + 1)) := rfl
      have hay79 : zAt ad (883 + 2) (ad (883 + 2)) := rfl
      have hay80 : zAt ad (883 + 3) (ad (883 + 3)) := rfl
      have hay81 : zAt ad (883 + 4) (ad (883 + 4)) := rfl
      have hay82 : zAt ad (883 + 5) (ad (883 + 5)) := rfl
      have hay83 : zAt ad (883 + 6) (ad (883 + 6)) := rfl
      obtain ⟨rky84, hky84⟩ := id ory44
      refine z_iload C 0 dX9_nearest_12 rfl ?_
      refine z_aload_n C 3 dX9_nearest_14 rfl ?_
      refine z_get (v := .ref (ad 4)) C (lt_K hN (rfl : Nat.blt (0) 952 = true)) hay45 ary44 rfl inA_X9 4 (by decide) q_353 rfl rfl dX9_nearest_15 ?_
      refine z_get (v := .int (zI (sl))) C (lt_K hN (rfl : Nat.blt (4) 952 = true)) hay48 fry44.1 rfl inA_X5 0 (by decide) q_90 rfl rfl dX9_nearest_18 ?_
      refine z_icmp_ge (tgt := 81) C dX9_nearest_21 (by decide) (by omega) (by omega) (fun hby85 => ?_) (fun hby85 => ?_)
      · refine z_iload_n C 2 dX9_nearest_81 rfl ?_
        have hrecy86 : okRec cs ad g1 N (t) (fp) (im) (nz) (kz) (sl) (ho) (ua) (st) (op) (ai) (fa) (mu) (tb) (tp) := ⟨ary44, bry44, cry44, dry44, ery44, fry44, gry441, hry44, ⟨_, iry44⟩, ⟨_, jry44⟩, kry44, lry44, mry44, nry44, ory44, pry44⟩
        exact z_rX (z_iret C hr hlk dX9_nearest_82 (by decide) (by decide) ⟨wh, rfl, rfl, rfl, by omega, hrecy86, fun j j1 j2 => by exact f2 j j1 j2⟩)
      · refine z_aload_n C 3 dX9_nearest_24 rfl ?_
        refine z_get (v := .ref (ad 917)) C (lt_K hN (rfl : Nat.blt (0) 952 = true)) hay45 ary44 rfl inA_X9 12 (by decide) q_361 rfl rfl dX9_nearest_25 ?_
        refine z_aload_n C 3 dX9_nearest_28 rfl ?_
        refine z_get (v := .ref (ad 11)) C (lt_K hN (rfl : Nat.blt (0) 952 = true)) hay45 ary44 rfl inA_X9 5 (by decide) q_354 rfl rfl dX9_nearest_29 ?_
        refine z_get (v := .ref (ad (11 + 1))) C (lt_K hN (rfl : Nat.blt (11) 952 = true)) hay49 iry44.1 rfl inA_X6 0 (by decide) q_258 rfl rfl dX9_nearest_32 ?_
        refine z_get (v := .ref (ad (11 + 1 + 1))) C (lt_K hN (rfl : Nat.blt (11 + 1) 952 = true)) hay75 uy741 rfl inA_X8 6 (by decide) q_191 rfl rfl dX9_nearest_35 ?_
        refine z_iload C 0 dX9_nearest_38 rfl ?_
        refine z_aald C (lt_K hN (rfl : Nat.blt (11 + 1 + 1) 952 = true)) hay76 uy742 3 rfl ((i).toNat) (by omega) (by omega) (by decide) (uy743 (i).toNat (by omega)) dX9_nearest_40 ?_
        have hay87 : zAt ad (11 + 1 + 2 + 2 * (i).toNat) (ad (11 + 1 + 2 + 2 * (i).toNat)) := rfl
        have hay88 : zAt ad (11 + 1 + 2 + 2 * (i).toNat + 1) (ad (11 + 1 + 2 + 2 * (i).toNat + 1)) := rfl
        have hpy89 := uy744 (i).toNat (by omega)
        have hqy90 := uy74z4 (i).toNat (by omega)
        refine z_aload_n C 3 dX9_nearest_41 rfl ?_
        refine z_get (v := .ref (ad 11)) C (lt_K hN (rfl : Nat.blt (0) 952 = true)) hay45 ary44 rfl inA_X9 5 (by decide) q_354 rfl rfl dX9_nearest_42 ?_
        refine z_get (v := .ref (ad (11 + 12))) C (lt_K hN (rfl : Nat.blt (11) 952 = true)) hay49 iry44.1 rfl inA_X6 3 (by decide) q_263 rfl rfl dX9_nearest_45 ?_
        refine z_iload_n C 4 dX9_nearest_48 rfl ?_
        refine z_aald C (lt_K hN (rfl : Nat.blt (11 + 12) 952 = true)) hay68 fsy65 5 rfl ((z).toNat) (by omega) (by omega) (by decide) (gsy651 (z).toNat (by omega)) dX9_nearest_49 ?_
        have hay91 : zAt ad (11 + 418 + 3 * (z).toNat) (ad (11 + 418 + 3 * (z).toNat)) := rfl
        have hay92 : zAt ad (11 + 418 + 3 * (z).toNat + 1) (ad (11 + 418 + 3 * (z).toNat + 1)) := rfl
        have hay93 : zAt ad (11 + 418 + 3 * (z).toNat + 1 + 1) (ad (11 + 418 + 3 * (z).toNat + 1 + 1)) := rfl
        obtain ⟨lpy94, tpy94, zpy94, opy94, rpy94, h1py94, h2py94, h3py94, h4py94⟩ := hsy65 (z).toNat (by omega)
        refine z_get (v := .ref (ad (11 + 418 + 3 * (z).toNat + 1))) C (by omega) hay91 h3py94 rfl inA_X4 2 (by decide) q_249 rfl rfl dX9_nearest_50 ?_
        obtain ⟨rky95, hky95⟩ := id ory44
        refine z_cV (As := [.ref (ad (11 + 1 + 2 + 2 * (i).toNat)), .ref (ad (11 + 418 + 3 * (z).toNat + 1))]) (rest := []) (ci := 3) C (c_X1_fewestSteps l D A cs tt N ad _ 917 (by omega) _ hky95 (11 + 1 + 2 + 2 * (i).toNat) (by omega) _ _ _ (by omega) ⟨hpy89.1, hpy89.2⟩ (11 + 418 + 3 * (z).toNat + 1) (by omega) _ _ _ (by omega) ⟨h4py94.1, h4py94.2⟩ (by omega) (by omega)) (lt_K hN (rfl : Nat.blt (917) 952 = true)) hay55 hky95.1 rfl rfl mv_yX1_fewestSteps q_1339 hd_yX1_fewestSteps (by decide) (Nat.le_of_ble_eq_true rfl) (by decide) dX9_nearest_53 rfl (kI0 fun vy96 gvy96 hvy96 => ?_)
        obtain ⟨hrvy96, hkvy96, hfvy96⟩ := hvy96
        refine z_istore (lv' := [(5, .int (zI (vy96))), (4, .int (zI (i))), (3, .int (zI (fe))), (2, .int (zI (wh))), (0, .ref (ad 0)), (1, .int (zI (z)))]) C dX9_nearest_56 (by decide) rfl ?_
        refine z_iload_n C 3 dX9_nearest_58 rfl ?_
        refine z_iconst (z := -1) C dX9_nearest_59 rfl ?_
        refine z_icmp_eq (tgt := 69) C dX9_nearest_60 (by decide) (by omega) (by omega) (fun hby97 => ?_) (fun hby97 => ?_)
        · refine z_iload C 1 dX9_nearest_69 rfl ?_
          refine z_istore_n (lv' := [(2, .int (zI (i))), (5, .int (zI (vy96))), (4, .int (zI (i))), (3, .int (zI (fe))), (0, .ref (ad 0)), (1, .int (zI (z)))]) C dX9_nearest_71 rfl (by decide) rfl ?_
          refine z_iload C 1 dX9_nearest_72 rfl ?_
          refine z_istore_n (lv' := [(3, .int (zI (vy96))), (2, .int (zI (i))), (5, .int (zI (vy96))), (4, .int (zI (i))), (0, .ref (ad 0)), (1, .int (zI (z)))]) C dX9_nearest_74 rfl (by decide) rfl ?_
          refine z_iinc (z := i + 1) (lv' := [(4, .int (zI (i + 1))), (3, .int (zI (vy96))), (2, .int (zI (i))), (5, .int (zI (vy96))), (0, .ref (ad 0)), (1, .int (zI (z)))]) (j := 3) C dX9_nearest_75 rfl rfl (by decide) rfl ?_
          refine z_goto (tgt := 12) C dX9_nearest_78 (by decide) ?_
          have hgy98 := (hfvy96 (0) (by omega)).trans ary44
          have hgy99 := (hfvy96 (1) (by omega)).trans dry44
          have hpy100 := okState.mv (ad' := ad) (g' := gvy96) (fun j h1 h2 => by rfl) (fun j h1 h2 => by rw [hfvy96 _ (by omega)]) iry44
          have hpy101 := okRdr.mv (ad' := ad) (g' := gvy96) (fun j h1 h2 => by rfl) (fun j h1 h2 => by rw [hfvy96 _ (by omega)]) ery44
          have hpy102 := isPlan.mv (ad' := ad) (g' := gvy96) (fun j h1 h2 => by rfl) (fun j h1 h2 => by rw [hfvy96 _ (by omega)]) fry44
          have hpy103 := okState.mv (ad' := ad) (g' := gvy96) (fun j h1 h2 => by rfl) (fun j h1 h2 => by rw [hfvy96 _ (by omega)]) jry44
          have hpy104 := okPlan.mv (ad' := ad) (g' := gvy96) (fun j h1 h2 => by rfl) (fun j h1 h2 => by rw [hfvy96 _ (by omega)]) kry44
          have hpy105 := okGss.mv (ad' := ad) (g' := gvy96) (fun j h1 h2 => by rfl) (fun j h1 h2 => by rw [hfvy96 _ (by omega)]) nry44
          have hpy106 := okBld.mv (ad' := ad) (g' := gvy96) (fun j h1 h2 => by rfl) (fun j h1 h2 => by rw [hfvy96 _ (by omega)]) pry44
          have hoky107 : okWorld cs ad gvy96 (890) := okWorld.mv (fun j j1 j2 => by rw [hfvy96 _ (by omega)]) lry44
          have hoky108 : okWorld cs ad gvy96 (900) := okWorld.mv (fun j j1 j2 => by rw [hfvy96 _ (by omega)]) mry44
          have hrecy109 : okRec cs ad gvy96 N (t) (fp) (im) (nz) (kz) (sl) (ho) (ua) (st) (op) (ai) (fa) (mu) (tb) (tp) := ⟨hgy98, bry44, cry44, hgy99, hpy101, hpy102, gry441, hry44, ⟨_, hpy100⟩, ⟨_, hpy103⟩, hpy104, hoky107, hoky108, hpy105, hkvy96, hpy106⟩
          refine z_lv (lv' := [(4, .int (zI (i + 1))), (3, .int (zI (vy96))), (2, .int (zI (i))), (0, .ref (ad 0)), (1, .int (zI (z)))]) [0, 1, 2, 4, 5] rfl ?_
          exact ih_lp12 _ (by omega) (i + 1) (vy96) (i) gvy96 rfl hrecy109 (fun j j1 j2 => by rw [hfvy96 _ (by omega)]; exact f2 j j1 j2) (by omega) (by omega) (by omega) (by omega)
        · refine z_iload C 0 dX9_nearest_63 rfl ?_
          refine z_iload_n C 2 dX9_nearest_65 rfl ?_
          refine z_icmp_ge (tgt := 75) C dX9_nearest_66 (by decide) (by omega) (by omega) (fun hby110 => ?_) (fun hby110 => ?_)
          · refine z_iinc (z := i + 1) (lv' := [(4, .int (zI (i + 1))), (5, .int (zI (vy96))), (3, .int (zI (fe))), (2, .int (zI (wh))), (0, .ref (ad 0)), (1, .int (zI (z)))]) (j := 1) C dX9_nearest_75 rfl rfl (by decide) rfl ?_
            refine z_goto (tgt := 12) C dX9_nearest_78 (by decide) ?_
            have hgy111 := (hfvy96 (0) (by omega)).trans ary44
            have hgy112 := (hfvy96 (1) (by omega)).trans dry44
            have hpy113 := okState.mv (ad' := ad) (g' := gvy96) (fun j h1 h2 => by rfl) (fun j h1 h2 => by rw [hfvy96 _ (by omega)]) iry44
            have hpy114 := okRdr.mv (ad' := ad) (g' := gvy96) (fun j h1 h2 => by rfl) (fun j h1 h2 => by rw [hfvy96 _ (by omega)]) ery44
            have hpy115 := isPlan.mv (ad' := ad) (g' := gvy96) (fun j h1 h2 => by rfl) (fun j h1 h2 => by rw [hfvy96 _ (by omega)]) fry44
            have hpy116 := okState.mv (ad' := ad) (g' := gvy96) (fun j h1 h2 => by rfl) (fun j h1 h2 => by rw [hfvy96 _ (by omega)]) jry44
            have hpy117 := okPlan.mv (ad' := ad) (g' := gvy96) (fun j h1 h2 => by rfl) (fun j h1 h2 => by rw [hfvy96 _ (by omega)]) kry44
            have hpy118 := okGss.mv (ad' := ad) (g' := gvy96) (fun j h1 h2 => by rfl) (fun j h1 h2 => by rw [hfvy96 _ (by omega)]) nry44
            have hpy119 := okBld.mv (ad' := ad) (g' := gvy96) (fun j h1 h2 => by rfl) (fun j h1 h2 => by rw [hfvy96 _ (by omega)]) pry44
            have hoky120 : okWorld cs ad gvy96 (890) := okWorld.mv (fun j j1 j2 => by rw [hfvy96 _ (by omega)]) lry44
            have hoky121 : okWorld cs ad gvy96 (900) := okWorld.mv (fun j j1 j2 => by rw [hfvy96 _ (by omega)]) mry44
            have hrecy122 : okRec cs ad gvy96 N (t) (fp) (im) (nz) (kz) (sl) (ho) (ua) (st) (op) (ai) (fa) (mu) (tb) (tp) := ⟨hgy111, bry44, cry44, hgy112, hpy114, hpy115, gry441, hry44, ⟨_, hpy113⟩, ⟨_, hpy116⟩, hpy117, hoky120, hoky121, hpy118, hkvy96, hpy119⟩
            refine z_lv (lv' := [(4, .int (zI (i + 1))), (3, .int (zI (fe))), (2, .int (zI (wh))), (0, .ref (ad 0)), (1, .int (zI (z)))]) [0, 2, 3, 4, 5] rfl ?_
            exact ih_lp12 _ (by omega) (i + 1) (fe) (wh) gvy96 rfl hrecy122 (fun j j1 j2 => by rw [hfvy96 _ (by omega)]; exact f2 j j1 j2) (by omega) (by omega) (by omega) (by omega)
          · refine z_iload C 1 dX9_nearest_69 rfl ?_
            refine z_istore_n (lv' := [(2, .int (zI (i))), (5, .int (zI (vy96))), (4, .int (zI (i))), (3, .int (zI (fe))), (0, .ref (ad 0)), (1, .int (zI (z)))]) C dX9_nearest_71 rfl (by decide) rfl ?_
            refine z_iload C 1 dX9_nearest_72 rfl ?_
            refine z_istore_n (lv' := [(3, .int (zI (vy96))), (2, .int (zI (i))), (5, .int (zI (vy96))), (4, .int (zI (i))), (0, .ref (ad 0)), (1, .int (zI (z)))]) C dX9_nearest_74 rfl (by decide) rfl ?_
            refine z_iinc (z := i + 1) (lv' := [(4, .int (zI (i + 1))), (3, .int (zI (vy96))), (2, .int (zI (i))), (5, .int (zI (vy96))), (0, .ref (ad 0)), (1, .int (zI (z)))]) (j := 3) C dX9_nearest_75 rfl rfl (by decide) rfl ?_
            refine z_goto (tgt := 12) C dX9_nearest_78 (by decide) ?_
            have hgy123 := (hfvy96 (0) (by omega)).trans ary44
            have hgy124 := (hfvy96 (1) (by omega)).trans dry44
            have hpy125 := okState.mv (ad' := ad) (g' := gvy96) (fun j h1 h2 => by rfl) (fun j h1 h2 => by rw [hfvy96 _ (by omega)]) iry44
            have hpy126 := okRdr.mv (ad' := ad) (g' := gvy96) (fun j h1 h2 => by rfl) (fun j h1 h2 => by rw [hfvy96 _ (by omega)]) ery44
            have hpy127 := isPlan.mv (ad' := ad) (g' := gvy96) (fun j h1 h2 => by rfl) (fun j h1 h2 => by rw [hfvy96 _ (by omega)]) fry44
            have hpy128 := okState.mv (ad' := ad) (g' := gvy96) (fun j h1 h2 => by rfl) (fun j h1 h2 => by rw [hfvy96 _ (by omega)]) jry44
            have hpy129 := okPlan.mv (ad' := ad) (g' := gvy96) (fun j h1 h2 => by rfl) (fun j h1 h2 => by rw [hfvy96 _ (by omega)]) kry44
            have hpy130 := okGss.mv (ad' := ad) (g' := gvy96) (fun j h1 h2 => by rfl) (fun j h1 h2 => by rw [hfvy96 _ (by omega)]) nry44
            have hpy131 := okBld.mv (ad' := ad) (g' := gvy96) (fun j h1 h2 => by rfl) (fun j h1 h2 => by rw [hfvy96 _ (by omega)]) pry44
            have hoky132 : okWorld cs ad gvy96 (890) := okWorld.mv (fun j j1 j2 => by rw [hfvy96 _ (by omega)]) lry44
            have hoky133 : okWorld cs ad gvy96 (900) := okWorld.mv (fun j j1 j2 => by rw [hfvy96 _ (by omega)]) mry44
            have hrecy134 : okRec cs ad gvy96 N (t) (fp) (im) (nz) (kz) (sl) (ho) (ua) (st) (op) (ai) (fa) (mu) (tb) (tp) := ⟨hgy123, bry44, cry44, hgy124, hpy126, hpy127, gry441, hry44, ⟨_, hpy125⟩, ⟨_, hpy128⟩, hpy129, hoky132, hoky133, hpy130, hkvy96, hpy131⟩
            refine z_lv (lv' := [(4, .int (zI (i + 1))), (3, .int (zI (vy96))), (2, .int (zI (i))), (0, .ref (ad 0)), (1, .int (zI (z)))]) [0, 1, 2, 4, 5] rfl ?_
            exact ih_lp12 _ (by omega) (i + 1) (vy96) (i) gvy96 rfl hrecy134 (fun j j1 j2 => by rw [hfvy96 _ (by omega)]; exact f2 j j1 j2) (by omega) (by omega) (by omega) (by omega)
  have hrecy135 : okRec cs ad g N (t) (fp) (im) (nz) (kz) (sl) (ho) (ua) (st) (op) (ai) (fa) (mu) (tb) (tp) := ⟨ary1, bry1, cry1, dry1, ery1, fry1, gry11, hry1, ⟨_, iry1⟩, ⟨_, jry1⟩, kry1, lry1, mry1, nry1, ory1, pry1⟩
  refine z_lv (lv' := [(4, .int (zI (0))), (3, .int (zI (0))), (2, .int (zI (-1))), (0, .ref (ad 0)), (1, .int (zI (z)))]) [0, 1, 2, 3, 4] rfl ?_
  exact lp12 _ (0) (0) (-1) g rfl hrecy135 (fun j j1 j2 => by rfl) (by omega) (by omega) (by omega) (by omega)

set_option maxRecDepth 100000 in
set_option maxHeartbeats 4000000 in
theorem c_X9_refuse (l : Launch) (D : va_G) (A : Nat → Prop) (cs : Nat → ClassId) (tt : Nat) (N : Nat) (ad : Nat → Nat) (g : Nat → va_E) (hN : 952 ≤ N) (t fp im nz kz sl ho ua : Int) (st op ai fa mu tb tp : Nat → Int) (hR : okRec cs ad g N t fp im nz kz sl ho ua st op ai fa mu tb tp) (z : Int) (hz : 0 ≤ z ∧ z ≤ 2) : zM l yX9_refuse cX9_refuse 2 (some .int) ({ frames := 1, cells := 0, slots := 0, locals := 60 } : Room) D A cs tt N ad g [.ref (ad 0), .int (zI (z))] (rI0 N ad fun r g' => (r = -1) ∧ okRec cs ad g' N t fp im nz kz sl ho ua st op ai fa mu tb tp ∧ oX g g') := by
  obtain ⟨ary1, bry1, cry1, dry1, ery1, fry1, gry11, hry1, ⟨acry1, iry1⟩, ⟨kcry1, jry1⟩, kry1, lry1, mry1, nry1, ory1, pry1⟩ := id hR
  have hay2 : zAt ad (0) (ad 0) := rfl
  have hay3 : zAt ad (1) (ad 1) := rfl
  have hay4 : zAt ad (2) (ad 2) := rfl
  have hay5 : zAt ad (4) (ad 4) := rfl
  have hay6 : zAt ad (11) (ad 11) := rfl
  have hay7 : zAt ad (447) (ad 447) := rfl
  have hay8 : zAt ad (883) (ad 883) := rfl
  have hay9 : zAt ad (890) (ad 890) := rfl
  have hay10 : zAt ad (900) (ad 900) := rfl
  have hay11 : zAt ad (910) (ad 910) := rfl
  have hay12 : zAt ad (917) (ad 917) := rfl
  have hay13 : zAt ad (919) (ad 919) := rfl
  have hay14 : zAt ad (4 + 1) (ad (4 + 1)) := rfl
  have hay15 : zAt ad (4 + 2) (ad (4 + 2)) := rfl
  have hay16 : zAt ad (4 + 3) (ad (4 + 3)) := rfl
  have hay17 : zAt ad (4 + 4) (ad (4 + 4)) := rfl
  have hay18 : zAt ad (4 + 5) (ad (4 + 5)) := rfl
  have hay19 : zAt ad (4 + 6) (ad (4 + 6)) := rfl
  obtain ⟨thcy20, zhcy20, ohcy20, rhcy20, hzhcy20, hthcy20, hwhcy20⟩ := id lry1
  obtain ⟨thcy21, zhcy21, ohcy21, rhcy21, hzhcy21, hthcy21, hwhcy21⟩ := id mry1
  obtain ⟨asy22, bsy22, csy22, dsy22, esy22, ⟨ptsy22, fsy22, gsy221⟩, hsy22, ⟨nusy22, nvsy22, nwsy22, isy22, jsy22, ksy22, lsy22, msy22, nsy22⟩, rfsy22, osy22⟩ := id iry1
  have hay23 : zAt ad (11 + 1) (ad (11 + 1)) := rfl
  have hay24 : zAt ad (11 + 11) (ad (11 + 11)) := rfl
  have hay25 : zAt ad (11 + 12) (ad (11 + 12)) := rfl
  have hay26 : zAt ad (11 + 13) (ad (11 + 13)) := rfl
  have hay27 : zAt ad (11 + 13 + 1) (ad (11 + 13 + 1)) := rfl
  have hay28 : zAt ad (11 + 13 + 2) (ad (11 + 13 + 2)) := rfl
  have hay29 : zAt ad (11 + 13 + 3) (ad (11 + 13 + 3)) := rfl
  have hay30 : zAt ad (11 + 17) (ad (11 + 17)) := rfl
  obtain ⟨uy31t, uy31z, uy31o, uy31r, uy31z4, uy31t5, uy311, ⟨uy31u, uy312, uy313⟩, uy314⟩ := id csy22
  have hay32 : zAt ad (11 + 1) (ad (11 + 1)) := rfl
  have hay33 : zAt ad (11 + 1 + 1) (ad (11 + 1 + 1)) := rfl
  obtain ⟨sloy34, hooy34, uaoy34, stoy34, opoy34, aioy34, faoy34, muoy34, tboy34, hsloy34, hhooy34, hpoy34⟩ := id kry1
  have hay35 : zAt ad (883 + 1) (ad (883 + 1)) := rfl
  have hay36 : zAt ad (883 + 2) (ad (883 + 2)) := rfl
  have hay37 : zAt ad (883 + 3) (ad (883 + 3)) := rfl
  have hay38 : zAt ad (883 + 4) (ad (883 + 4)) := rfl
  have hay39 : zAt ad (883 + 5) (ad (883 + 5)) := rfl
  have hay40 : zAt ad (883 + 6) (ad (883 + 6)) := rfl
  refine z_of (by decide) (Nat.le_of_ble_eq_true rfl) ?_
  intro p e s m below meth c C hr hlk hnm
  refine z_lv (lv' := [(0, .ref (ad 0)), (1, .int (zI (z)))]) [0, 1] rfl ?_
  refine z_aload_n C 0 dX9_refuse_0 rfl ?_
  refine z_get (v := .ref (ad 11)) C (lt_K hN (rfl : Nat.blt (0) 952 = true)) hay2 ary1 rfl inA_X9 5 (by decide) q_354 rfl rfl dX9_refuse_1 ?_
  refine z_get (v := .ref (ad (11 + 17))) C (lt_K hN (rfl : Nat.blt (11) 952 = true)) hay6 iry1.1 rfl inA_X6 5 (by decide) q_267 rfl rfl dX9_refuse_4 ?_
  refine z_iload_n C 1 dX9_refuse_7 rfl ?_
  refine z_dup2 C dX9_refuse_8 rfl rfl ?_
  refine z_iald C (lt_K hN (rfl : Nat.blt (11 + 17) 952 = true)) hay30 osy22 ((z).toNat) (by omega) (by omega) (by decide) dX9_refuse_9 ?_
  refine z_iconst (z := 1) C dX9_refuse_10 rfl ?_
  refine z_iadd C dX9_refuse_11 ?_
  refine z_iast C (lt_K hN (rfl : Nat.blt (11 + 17) 952 = true)) hay30 osy22 ((z).toNat) (by omega) (by omega) (by decide) dX9_refuse_12 (fun gy41 egy42 => ?_)
  have hgy43 := up_s egy42
  refine z_iconst (z := -1) C dX9_refuse_13 rfl ?_
  have hsty44 := okState.refused (g' := gy41) iry1 (fun j j1 => by rw [egy42, va_up_ne _ _ (by omega)]) hgy43
  have hgy45 := up_n egy42 ary1 (by omega)
  have hgy46 := up_n egy42 dry1 (by omega)
  have hpy47 := okRdr.mv (ad' := ad) (g' := gy41) (fun j h1 h2 => by rfl) (fun j h1 h2 => by rw [egy42, va_up_ne _ _ (by omega)]) ery1
  have hpy48 := isPlan.mv (ad' := ad) (g' := gy41) (fun j h1 h2 => by rfl) (fun j h1 h2 => by rw [egy42, va_up_ne _ _ (by omega)]) fry1
  have hpy49 := okState.mv (ad' := ad) (g' := gy41) (fun j h1 h2 => by rfl) (fun j h1 h2 => by rw [egy42, va_up_ne _ _ (by omega)]) jry1
  have hpy50 := okPlan.mv (ad' := ad) (g' := gy41) (fun j h1 h2 => by rfl) (fun j h1 h2 => by rw [egy42, va_up_ne _ _ (by omega)]) kry1
  have hpy51 := okGss.mv (ad' := ad) (g' := gy41) (fun j h1 h2 => by rfl) (fun j h1 h2 => by rw [egy42, va_up_ne _ _ (by omega)]) nry1
  have hpy52 := okLike.mv (ad' := ad) (g' := gy41) (fun j h1 h2 => by rfl) (fun j h1 h2 => by rw [egy42, va_up_ne _ _ (by omega)]) ory1
  have hpy53 := okBld.mv (ad' := ad) (g' := gy41) (fun j h1 h2 => by rfl) (fun j h1 h2 => by rw [egy42, va_up_ne _ _ (by omega)]) pry1
  have hoky54 : okWorld cs ad gy41 (890) := okWorld.mv (fun j j1 j2 => by rw [egy42, va_up_ne _ _ (by omega)]) lry1
  have hoky55 : okWorld cs ad gy41 (900) := okWorld.mv (fun j j1 j2 => by rw [egy42, va_up_ne _ _ (by omega)]) mry1
  have hrecy56 : okRec cs ad gy41 N (t) (fp) (im) (nz) (kz) (sl) (ho) (ua) (st) (op) (ai) (fa) (mu) (tb) (tp) := ⟨hgy45, bry1, cry1, hgy46, hpy47, hpy48, gry11, hry1, ⟨_, hsty44⟩, ⟨_, hpy49⟩, hpy50, hoky54, hoky55, hpy51, hpy52, hpy53⟩
  exact z_iret C hr hlk dX9_refuse_14 (by decide) (by decide) ⟨-1, rfl, rfl, rfl, by omega, hrecy56, fun j j1 j2 => by rw [egy42, va_up_ne _ _ (by omega)]⟩

set_option maxRecDepth 100000 in
set_option maxHeartbeats 4000000 in
theorem c_X9_hours (l : Launch) (D : va_G) (A : Nat → Prop) (cs : Nat → ClassId) (tt : Nat) (N : Nat) (ad : Nat → Nat) (g : Nat → va_E) (hN : 952 ≤ N) (t fp im nz kz sl ho ua : Int) (st op ai fa mu tb tp : Nat → Int) (hR : okRec cs ad g N t fp im nz kz sl ho ua st op ai fa mu tb tp) (z : Int) (hz : -2147483648 ≤ z ∧ z ≤ 2147483647) : zM l yX9_hours cX9_hours 3 (some .int) ({ frames := 8, cells := 0, slots := 0, locals := 480 } : Room) D A cs tt N ad g [.ref (ad 0), .int (zI (z))] (rI0 N ad fun r g' => (-2147483648 ≤ r ∧ r ≤ 2147483647) ∧ okRec cs ad g' N t fp im nz kz sl ho ua st op ai fa mu tb tp ∧ oX g g') := by
  obtain ⟨ary1, bry1, cry1, dry1, ery1, fry1, gry11, hry1, ⟨acry1, iry1⟩, ⟨kcry1, jry1⟩, kry1, lry1, mry1, nry1, ory1, pry1⟩ := id hR
  have hay2 : zAt ad (0) (ad 0) := rfl
  have hay3 : zAt ad (1) (ad 1) := rfl
  have hay4 : zAt ad (2) (ad 2) := rfl
  have hay5 : zAt ad (4) (ad 4) := rfl
  have hay6 : zAt ad (11) (ad 11) := rfl
  have hay7 : zAt ad (447) (ad 447) := rfl
  have hay8 : zAt ad (883) (ad 883) := rfl
  have hay9 : zAt ad (890) (ad 890) := rfl
  have hay10 : zAt ad (900) (ad 900) := rfl
  have hay11 : zAt ad (910) (ad 910) := rfl
  have hay12 : zAt ad (917) (ad 917) := rfl
  have hay13 : zAt ad (919) (ad 919) := rfl
  have hay14 : zAt ad (4 + 1) (ad (4 + 1)) := rfl
  have hay15 : zAt ad (4 + 2) (ad (4 + 2)) := rfl
  have hay16 : zAt ad (4 + 3) (ad (4 + 3)) := rfl
  have hay17 : zAt ad (4 + 4) (ad (4 + 4)) := rfl
  have hay18 : zAt ad (4 + 5) (ad (4 + 5)) := rfl
  have hay19 : zAt ad (4 + 6) (ad (4 + 6)) := rfl
  obtain ⟨thcy20, zhcy20, ohcy20, rhcy20, hzhcy20, hthcy20, hwhcy20⟩ := id lry1
  obtain ⟨thcy21, zhcy21, ohcy21, rhcy21, hzhcy21, hthcy21, hwhcy21⟩ := id mry1
  obtain ⟨asy22, bsy22, csy22, dsy22, esy22, ⟨ptsy22, fsy22, gsy221⟩, hsy22, ⟨nusy22, nvsy22, nwsy22, isy22, jsy22, ksy22, lsy22, msy22, nsy22⟩, rfsy22, osy22⟩ := id iry1
  have hay23 : zAt ad (11 + 1) (ad (11 + 1)) := rfl
  have hay24 : zAt ad (11 + 11) (ad (11 + 11)) := rfl
  have hay25 : zAt ad (11 + 12) (ad (11 + 12)) := rfl
  have hay26 : zAt ad (11 + 13) (ad (11 + 13)) := rfl
  have hay27 : zAt ad (11 + 13 + 1) (ad (11 + 13 + 1)) := rfl
  have hay28 : zAt ad (11 + 13 + 2) (ad (11 + 13 + 2)) := rfl
  have hay29 : zAt ad (11 + 13 + 3) (ad (11 + 13 + 3)) := rfl
  have hay30 : zAt ad (11 + 17) (ad (11 + 17)) := rfl
  obtain ⟨uy31t, uy31z, uy31o, uy31r, uy31z4, uy31t5, uy311, ⟨uy31u, uy312, uy313⟩, uy314⟩ := id csy22
  have hay32 : zAt ad (11 + 1) (ad (11 + 1)) := rfl
  have hay33 : zAt ad (11 + 1 + 1) (ad (11 + 1 + 1)) := rfl
  obtain ⟨sloy34, hooy34, uaoy34, stoy34, opoy34, aioy34, faoy34, muoy34, tboy34, hsloy34, hhooy34, hpoy34⟩ := id kry1
  have hay35 : zAt ad (883 + 1) (ad (883 + 1)) := rfl
  have hay36 : zAt ad (883 + 2) (ad (883 + 2)) := rfl
  have hay37 : zAt ad (883 + 3) (ad (883 + 3)) := rfl
  have hay38 : zAt ad (883 + 4) (ad (883 + 4)) := rfl
  have hay39 : zAt ad (883 + 5) (ad (883 + 5)) := rfl
  have hay40 : zAt ad (883 + 6) (ad (883 + 6)) := rfl
  refine z_of (by decide) (Nat.le_of_ble_eq_true rfl) ?_
  intro p e s m below meth c C hr hlk hnm
  refine z_lv (lv' := [(0, .ref (ad 0)), (1, .int (zI (z)))]) [0, 1] rfl ?_
  refine z_iload_n C 1 dX9_hours_0 rfl ?_
  refine z_iconst (z := 1) C dX9_hours_1 rfl ?_
  refine z_icmp_lt (tgt := 29) C dX9_hours_2 (by decide) (by omega) (by omega) (fun hby41 => ?_) (fun hby41 => ?_)
  · refine z_aload_n C 0 dX9_hours_29 rfl ?_
    refine z_iconst (z := 1) C dX9_hours_30 rfl ?_
    have hrecy43 : okRec cs ad g N (t) (fp) (im) (nz) (kz) (sl) (ho) (ua) (st) (op) (ai) (fa) (mu) (tb) (tp) := ⟨ary1, bry1, cry1, dry1, ery1, fry1, gry11, hry1, ⟨_, iry1⟩, ⟨_, jry1⟩, kry1, lry1, mry1, nry1, ory1, pry1⟩
    refine z_cV (As := [.int (zI (1))]) (rest := []) (ci := 11) C (c_X9_refuse l D A cs tt N ad _ hN _ _ _ _ _ _ _ _ _ _ _ _ _ _ _ hrecy43 (1) (by omega)) (lt_K hN (rfl : Nat.blt (0) 952 = true)) hay2 ary1 rfl rfl mv_yX9_refuse q_408 hd_yX9_refuse (by decide) (Nat.le_of_ble_eq_true rfl) (by decide) dX9_hours_31 rfl (kI0 fun vy42 gvy42 hvy42 => ?_)
    obtain ⟨hrvy42, hkvy42, hfvy42⟩ := hvy42
    obtain ⟨ary44, bry44, cry44, dry44, ery44, fry44, gry441, hry44, ⟨acry44, iry44⟩, ⟨kcry44, jry44⟩, kry44, lry44, mry44, nry44, ory44, pry44⟩ := id hkvy42
    obtain ⟨thcy45, zhcy45, ohcy45, rhcy45, hzhcy45, hthcy45, hwhcy45⟩ := id lry44
    obtain ⟨thcy46, zhcy46, ohcy46, rhcy46, hzhcy46, hthcy46, hwhcy46⟩ := id mry44
    obtain ⟨asy47, bsy47, csy47, dsy47, esy47, ⟨ptsy47, fsy47, gsy471⟩, hsy47, ⟨nusy47, nvsy47, nwsy47, isy47, jsy47, ksy47, lsy47, msy47, nsy47⟩, rfsy47, osy47⟩ := id iry44
    obtain ⟨uy48t, uy48z, uy48o, uy48r, uy48z4, uy48t5, uy481, ⟨uy48u, uy482, uy483⟩, uy484⟩ := id csy47
    have hay49 : zAt ad (11 + 1) (ad (11 + 1)) := rfl
    have hay50 : zAt ad (11 + 1 + 1) (ad (11 + 1 + 1)) := rfl
    obtain ⟨sloy51, hooy51, uaoy51, stoy51, opoy51, aioy51, faoy51, muoy51, tboy51, hsloy51, hhooy51, hpoy51⟩ := id kry44
    have hrecy52 : okRec cs ad gvy42 N (t) (fp) (im) (nz) (kz) (sl) (ho) (ua) (st) (op) (ai) (fa) (mu) (tb) (tp) := ⟨ary44, bry44, cry44, dry44, ery44, fry44, gry441, hry44, ⟨_, iry44⟩, ⟨_, jry44⟩, kry44, lry44, mry44, nry44, ory44, pry44⟩
    exact z_iret C hr hlk dX9_hours_34 (by decide) (by decide) ⟨vy42, rfl, rfl, rfl, by omega, hrecy52, fun j j1 j2 => by rw [hfvy42 _ (by omega) (by omega)]⟩
  · refine z_iload_n C 1 dX9_hours_5 rfl ?_
    refine z_bipush (z := 24) C dX9_hours_6 (by decide) ?_
    refine z_icmp_gt (tgt := 29) C dX9_hours_8 (by decide) (by omega) (by omega) (fun hby53 => ?_) (fun hby53 => ?_)
    · refine z_aload_n C 0 dX9_hours_29 rfl ?_
      refine z_iconst (z := 1) C dX9_hours_30 rfl ?_
      have hrecy55 : okRec cs ad g N (t) (fp) (im) (nz) (kz) (sl) (ho) (ua) (st) (op) (ai) (fa) (mu) (tb) (tp) := ⟨ary1, bry1, cry1, dry1, ery1, fry1, gry11, hry1, ⟨_, iry1⟩, ⟨_, jry1⟩, kry1, lry1, mry1, nry1, ory1, pry1⟩
      refine z_cV (As := [.int (zI (1))]) (rest := []) (ci := 11) C (c_X9_refuse l D A cs tt N ad _ hN _ _ _ _ _ _ _ _ _ _ _ _ _ _ _ hrecy55 (1) (by omega)) (lt_K hN (rfl : Nat.blt (0) 952 = true)) hay2 ary1 rfl rfl mv_yX9_refuse q_408 hd_yX9_refuse (by decide) (Nat.le_of_ble_eq_true rfl) (by decide) dX9_hours_31 rfl (kI0 fun vy54 gvy54 hvy54 => ?_)
      obtain ⟨hrvy54, hkvy54, hfvy54⟩ := hvy54
      obtain ⟨ary56, bry56, cry56, dry56, ery56, fry56, gry561, hry56, ⟨acry56, iry56⟩, ⟨kcry56, jry56⟩, kry56, lry56, mry56, nry56, ory56, pry56⟩ := id hkvy54
      obtain ⟨thcy57, zhcy57, ohcy57, rhcy57, hzhcy57, hthcy57, hwhcy57⟩ := id lry56
      obtain ⟨thcy58, zhcy58, ohcy58, rhcy58, hzhcy58, hthcy58, hwhcy58⟩ := id mry56
      obtain ⟨asy59, bsy59, csy59, dsy59, esy59, ⟨ptsy59, fsy59, gsy591⟩, hsy59, ⟨nusy59, nvsy59, nwsy59, isy59, jsy59, ksy59, lsy59, msy59, nsy59⟩, rfsy59, osy59⟩ := id iry56
      obtain ⟨uy60t, uy60z, uy60o, uy60r, uy60z4, uy60t5, uy601, ⟨uy60u, uy602, uy603⟩, uy604⟩ := id csy59
      have hay61 : zAt ad (11 + 1) (ad (11 + 1)) := rfl
      have hay62 : zAt ad (11 + 1 + 1) (ad (11 + 1 + 1)) := rfl
      obtain ⟨sloy63, hooy63, uaoy63, stoy63, opoy63, aioy63, faoy63, muoy63, tboy63, hsloy63, hhooy63, hpoy63⟩ := id kry56
      have hrecy64 : okRec cs ad gvy54 N (t) (fp) (im) (nz) (kz) (sl) (ho) (ua) (st) (op) (ai) (fa) (mu) (tb) (tp) := ⟨ary56, bry56, cry56, dry56, ery56, fry56, gry561, hry56, ⟨_, iry56⟩, ⟨_, jry56⟩, kry56, lry56, mry56, nry56, ory56, pry56⟩
      exact z_iret C hr hlk dX9_hours_34 (by decide) (by decide) ⟨vy54, rfl, rfl, rfl, by omega, hrecy64, fun j j1 j2 => by rw [hfvy54 _ (by omega) (by omega)]⟩
    · refine z_aload_n C 0 dX9_hours_11 rfl ?_
      refine z_get (v := .ref (ad 11)) C (lt_K hN (rfl : Nat.blt (0) 952 = true)) hay2 ary1 rfl inA_X9 5 (by decide) q_354 rfl rfl dX9_hours_12 ?_
      refine z_get (v := .ref (ad (11 + 1))) C (lt_K hN (rfl : Nat.blt (11) 952 = true)) hay6 iry1.1 rfl inA_X6 0 (by decide) q_258 rfl rfl dX9_hours_15 ?_
      refine z_get (v := .int (zI (uy31t 0))) C (lt_K hN (rfl : Nat.blt (11 + 1) 952 = true)) hay32 uy311 rfl inA_X8 0 (by decide) q_174 rfl rfl dX9_hours_18 ?_
      refine z_iload_n C 1 dX9_hours_21 rfl ?_
      refine z_iadd C dX9_hours_22 ?_
      refine z_sipush (z := 2000) C dX9_hours_23 (by decide) ?_
      obtain ⟨xy65, exy66, hxy67⟩ := zI_of (zI ((uy31t 0) + z))
      rw [exy66]
      refine z_icmp_le (tgt := 35) C dX9_hours_26 (by decide) (by omega) (by omega) (fun hby68 => ?_) (fun hby68 => ?_)
      · refine z_aload_n C 0 dX9_hours_35 rfl ?_
        refine z_get (v := .ref (ad 11)) C (lt_K hN (rfl : Nat.blt (0) 952 = true)) hay2 ary1 rfl inA_X9 5 (by decide) q_354 rfl rfl dX9_hours_36 ?_
        refine z_cV (As := []) (rest := []) (ci := 8) C (c_X6_keepAct l D A cs tt N ad _ 11 (by omega) _ _ iry1) (lt_K hN (rfl : Nat.blt (11) 952 = true)) hay6 iry1.1 rfl rfl mv_yX6_keepAct q_412 hd_yX6_keepAct (by decide) (Nat.le_of_ble_eq_true rfl) (by decide) dX9_hours_39 rfl (kV0 fun gvy69 hvy69 => ?_)
        obtain ⟨⟨acvy69, hkvy69⟩, -, hfvy69⟩ := hvy69
        have hacqy70 := hkvy69.2.1
        obtain ⟨asy71, bsy71, csy71, dsy71, esy71, ⟨ptsy71, fsy71, gsy711⟩, hsy71, ⟨nusy71, nvsy71, nwsy71, isy71, jsy71, ksy71, lsy71, msy71, nsy71⟩, rfsy71, osy71⟩ := id hkvy69
        obtain ⟨uy72t, uy72z, uy72o, uy72r, uy72z4, uy72t5, uy721, ⟨uy72u, uy722, uy723⟩, uy724⟩ := id csy71
        have hay73 : zAt ad (11 + 1) (ad (11 + 1)) := rfl
        have hay74 : zAt ad (11 + 1 + 1) (ad (11 + 1 + 1)) := rfl
        refine z_iconst (z := 0) C dX9_hours_42 rfl ?_
        refine z_istore_n (lv' := [(2, .int (zI (0))), (0, .ref (ad 0)), (1, .int (zI (z)))]) C dX9_hours_43 rfl (by decide) rfl ?_
        have lp44 : ∀ (n9 : Nat) (i : Int) (g1 : Nat → va_E), (24 - i).toNat = n9 → (okRec cs ad g1 N t fp im nz kz sl ho ua st op ai fa mu tb tp) → (oX g g1) → (0 ≤ i ∧ i ≤ 24) → (1 ≤ z ∧ z ≤ 24) → zV p l e ({ frames := 8, cells := 0, slots := 0, locals := 480 } : Room) s m ([.ref (ad 0), .int (zI (z))] : List Value).toArray below meth c (MQ below (zPost D A (rI0 N ad fun r g' => (-2147483648 ≤ r ∧ r ≤ 2147483647) ∧ okRec cs ad g' N t fp im nz kz sl ho ua st op ai fa mu tb tp ∧ oX g g')) ([.ref (ad 0), .int (zI (z))] : List Value).toArray s ({ frames := 8, cells := 0, slots := 0, locals := 480 } : Room).cells ({ frames := 8, cells := 0, slots := 0, locals := 480 } : Room).slots A) D A 3 (N) ad g1 (0) (0) 44 [(2, .int (zI (i))), (0, .ref (ad 0)), (1, .int (zI (z)))] [] := by
          intro n9
          induction n9 using Nat.strongRecOn with
          | ind n9 ih_lp44 =>
            intro i g1 hm9 f1 f2 hv44_0 hv44_1
            obtain ⟨ary75, bry75, cry75, dry75, ery75, fry75, gry751, hry75, ⟨acry75, iry75⟩, ⟨kcry75, jry75⟩, kry75, lry75, mry75, nry75, ory75, pry75⟩ := id f1
            have hay76 : zAt ad (0) (ad 0) := rfl
            have hay77 : zAt ad (1) (ad 1) := rfl
            have hay78 : zAt ad (2) (ad 2) := rfl
            have hay79 : zAt ad (4) (ad 4) := rfl
            have hay80 : zAt ad (11) (ad 11) := rfl
            have hay81 : zAt ad (447) (ad 447) := rfl
            have hay82 : zAt ad (883) (ad 883) := rfl
            have hay83 : zAt ad (890) (ad 890) := rfl
            have hay84 : zAt ad (900) (ad 900) := rfl
            have hay85 : zAt ad (910) (ad 910) := rfl
            have hay86 : zAt ad (917) (ad 917) := rfl
            have hay87 : zAt ad (919) (ad 919) := rfl
            have hay88 : zAt ad (4 + 1) (ad (4 + 1)) := rfl
            have hay89 : zAt ad (4 + 2) (ad (4 + 2)) := rfl
            have hay90 : zAt ad (4 + 3) (ad (4 + 3)) := rfl
            have hay91 : zAt ad (4 + 4) (ad (4 + 4)) := rfl
            have hay92 : zAt ad (4 + 5) (ad (4 + 5)) := rfl
            have hay93 : zAt ad (4 + 6) (ad (4 + 6)) := rfl
            obtain ⟨thcy94, zhcy94, ohcy94, rhcy94, hzhcy94, hthcy94, hwhcy94⟩ := id lry75
            obtain ⟨thcy95, zhcy95, ohcy95, rhcy95, hzhcy95, hthcy95, hwhcy95⟩ := id mry75
            obtain ⟨asy96, bsy96, csy96, dsy96, esy96, ⟨ptsy96, fsy96, gsy961⟩, hsy96, ⟨nusy96, nvsy96, nwsy96, isy96, jsy96, ksy96, lsy96, msy96, nsy96⟩, rfsy96, osy96⟩ := id iry75
            have hay97 : zAt ad (11 + 1) (ad (11 + 1)) := rfl
            have hay98 : zAt ad (11 + 11) (ad (11 + 11)) := rfl
            have hay99 : zAt ad (11 + 12) (ad (11 + 12)) := rfl
            have hay100 : zAt ad (11 + 13) (ad (11 + 13)) := rfl
            have hay101 : zAt ad (11 + 13 + 1) (ad (11 + 13 + 1)) := rfl
            have hay102 : zAt ad (11 + 13 + 2) (ad (11 + 13 + 2)) := rfl
            have hay103 : zAt ad (11 + 13 + 3) (ad (11 + 13 + 3)) := rfl
            have hay104 : zAt ad (11 + 17) (ad (11 + 17)) := rfl
            obtain ⟨uy105t, uy105z, uy105o, uy105r, uy105z4, uy105t5, uy1051, ⟨uy105u, uy1052, uy1053⟩, uy1054⟩ := id csy96
            have hay106 : zAt ad (11 + 1) (ad (11 + 1)) := rfl
            have hay107 : zAt ad (11 + 1 + 1) (ad (11 + 1 + 1)) := rfl
            obtain ⟨sloy108, hooy108, uaoy108, stoy108, opoy108, aioy108, faoy108, muoy108, tboy108, hsloy108, hhooy108, hpoy108⟩ := id kry75
            have hay109 : zAt ad (883 + 1) (ad (883 + 1)) := rfl
            have hay110 : zAt ad (883 + 2) (ad (883 + 2)) := rfl
            have hay111 : zAt ad (883 + 3) (ad (883 + 3)) := rfl
            have hay112 : zAt ad (883 + 4) (ad (883 + 4)) := rfl
            have hay113 : zAt ad (883 + 5) (ad (883 + 5)) := rfl
            have hay114 : zAt ad (883 + 6) (ad (883 + 6)) := rfl
            refine z_iload_n C 0 dX9_hours_44 rfl ?_
            refine z_iload_n C 2 dX9_hours_45 rfl ?_
            refine z_icmp_ge (tgt := 77) C dX9_hours_46 (by decide) (by omega) (by omega) (fun hby115 => ?_) (fun hby115 => ?_)
            · refine z_aload_n C 1 dX9_hours_77 rfl ?_
              refine z_get (v := .ref (ad 11)) C (lt_K hN (rfl : Nat.blt (0) 952 = true)) hay76 ary75 rfl inA_X9 5 (by decide) q_354 rfl rfl dX9_hours_78 ?_
              refine z_get (v := .ref (ad (11 + 1))) C (lt_K hN (rfl : Nat.blt (11) 952 = true)) hay80 iry75.1 rfl inA_X6 0 (by decide) q_258 rfl rfl dX9_hours_81 ?_
              refine z_get (v := .int (zI (uy105t 0))) C (lt_K hN (rfl : Nat.blt (11 + 1) 952 = true)) hay106 uy1051 rfl inA_X8 0 (by decide) q_174 rfl rfl dX9_hours_84 ?_
              obtain ⟨xy116, exy117, hxy118⟩ := zI_of (zI (uy105t 0))
              rw [exy117]
              have hrecy119 : okRec cs ad g1 N (t) (fp) (im) (nz) (kz) (sl) (ho) (ua) (st) (op) (ai) (fa) (mu) (tb) (tp) := ⟨ary75, bry75, cry75, dry75, ery75, fry75, gry751, hry75, ⟨_, iry75⟩, ⟨_, jry75⟩, kry75, lry75, mry75, nry75, ory75, pry75⟩
              exact z_iret C hr hlk dX9_hours_87 (by decide) (by decide) ⟨xy116, rfl, rfl, rfl, by omega, hrecy119, fun j j1 j2 => by exact f2 j j1 j2⟩
            · refine z_aload_n C 1 dX9_hours_49 rfl ?_
              refine z_get (v := .ref (ad 11)) C (lt_K hN (rfl : Nat.blt (0) 952 = true)) hay76 ary75 rfl inA_X9 5 (by decide) q_354 rfl rfl dX9_hours_50 ?_
              refine z_get (v := .ref (ad (11 + 1))) C (lt_K hN (rfl : Nat.blt (11) 952 = true)) hay80 iry75.1 rfl inA_X6 0 (by decide) q_258 rfl rfl dX9_hours_53 ?_
              refine z_aload_n C 1 dX9_hours_56 rfl ?_
              refine z_get (v := .ref (ad 4)) C (lt_K hN (rfl : Nat.blt (0) 952 = true)) hay76 ary75 rfl inA_X9 4 (by decide) q_353 rfl rfl dX9_hours_57 ?_
              refine z_aload_n C 1 dX9_hours_60 rfl ?_
              refine z_get (v := .ref (ad 4)) C (lt_K hN (rfl : Nat.blt (0) 952 = true)) hay76 ary75 rfl inA_X9 4 (by decide) q_353 rfl rfl dX9_hours_61 ?_
              refine z_cV (As := []) (rest := [.ref (ad 4), .ref (ad (11 + 1))]) (ci := 7) C (c_X5_allSlopes l D A cs tt N ad _ (4) (by omega) _ _ _ _ _ _ _ _ _ ⟨fry75.1, fry75.2.1, fry75.2.2.1, fry75.2.2.2.1, fry75.2.2.2.2.1, fry75.2.2.2.2.2.1, fry75.2.2.2.2.2.2⟩) (lt_K hN (rfl : Nat.blt (4) 952 = true)) hay79 fry75.1 rfl rfl mv_yX5_allSlopes q_431 hd_yX5_allSlopes (by decide) (Nat.le_of_ble_eq_true rfl) (by decide) dX9_hours_64 rfl (kI0 fun vy120 gvy120 hvy120 => ?_)
              obtain ⟨hvy120, rfl⟩ := hvy120
              refine z_iconst (z := 1) C dX9_hours_67 rfl ?_
              refine z_cV (As := [.ref (ad 4), .int (zI (vy120)), .int (zI (1))]) (rest := []) (ci := 10) C (c_X8_hour l D A cs tt N ad _ (11 + 1) (by omega) csy96 (4) (by omega) _ _ _ _ _ _ _ _ _ ⟨fry75.1, fry75.2.1, fry75.2.2.1, fry75.2.2.2.1, fry75.2.2.2.2.1, fry75.2.2.2.2.2.1, fry75.2.2.2.2.2.2⟩ (by omega) (by omega) (by omega) (vy120) (by omega) (1) (by omega)) (lt_K hN (rfl : Nat.blt (11 + 1) 952 = true)) hay106 uy1051 rfl rfl mv_yX8_hour q_435 hd_yX8_hour (by decide) (Nat.le_of_ble_eq_true rfl) (by decide) dX9_hours_68 rfl (kV0 fun gvy121 hvy121 => ?_)
              obtain ⟨hkvy121, hfvy121⟩ := hvy121
              have hoky122 : okWorld cs ad gvy121 (11 + 1) := hkvy121
              obtain ⟨thcy123, zhcy123, ohcy123, rhcy123, hzhcy123, hthcy123, hwhcy123⟩ := id hoky122
              refine z_iinc (z := i + 1) (lv' := [(2, .int (zI (i + 1))), (0, .ref (ad 0)), (1, .int (zI (z)))]) (j := 0) C dX9_hours_71 rfl rfl (by decide) rfl ?_
              refine z_goto (tgt := 44) C dX9_hours_74 (by decide) ?_
              have hgy124 := (hfvy121 (0) (by omega)).trans ary75
              have hgy125 := (hfvy121 (1) (by omega)).trans dry75
              have hsty126 := okState.now2 (g' := gvy121) iry75 (fun j j1 j2 j3 => by rw [hfvy121 _ (by omega)]) hoky122
              have hpy127 := okRdr.mv (ad' := ad) (g' := gvy121) (fun j h1 h2 => by rfl) (fun j h1 h2 => by rw [hfvy121 _ (by omega)]) ery75
              have hpy128 := isPlan.mv (ad' := ad) (g' := gvy121) (fun j h1 h2 => by rfl) (fun j h1 h2 => by rw [hfvy121 _ (by omega)]) fry75
              have hpy129 := okState.mv (ad' := ad) (g' := gvy121) (fun j h1 h2 => by rfl) (fun j h1 h2 => by rw [hfvy121 _ (by omega)]) jry75
              have hpy130 := okPlan.mv (ad' := ad) (g' := gvy121) (fun j h1 h2 => by rfl) (fun j h1 h2 => by rw [hfvy121 _ (by omega)]) kry75
              have hpy131 := okGss.mv (ad' := ad) (g' := gvy121) (fun j h1 h2 => by rfl) (fun j h1 h2 => by rw [hfvy121 _ (by omega)]) nry75
              have hpy132 := okLike.mv (ad' := ad) (g' := gvy121) (fun j h1 h2 => by rfl) (fun j h1 h2 => by rw [hfvy121 _ (by omega)]) ory75
              have hpy133 := okBld.mv (ad' := ad) (g' := gvy121) (fun j h1 h2 => by rfl) (fun j h1 h2 => by rw [hfvy121 _ (by omega)]) pry75
              have hoky134 : okWorld cs ad gvy121 (890) := okWorld.mv (fun j j1 j2 => by rw [hfvy121 _ (by omega)]) lry75
              have hoky135 : okWorld cs ad gvy121 (900) := okWorld.mv (fun j j1 j2 => by rw [hfvy121 _ (by omega)]) mry75
              have hrecy136 : okRec cs ad gvy121 N (t) (fp) (im) (nz) (kz) (sl) (ho) (ua) (st) (op) (ai) (fa) (mu) (tb) (tp) := ⟨hgy124, bry75, cry75, hgy125, hpy127, hpy128, gry751, hry75, ⟨_, hsty126⟩, ⟨_, hpy129⟩, hpy130, hoky134, hoky135, hpy131, hpy132, hpy133⟩
              refine z_lv (lv' := [(2, .int (zI (i + 1))), (0, .ref (ad 0)), (1, .int (zI (z)))]) [0, 1, 2] rfl ?_
              exact ih_lp44 _ (by omega) (i + 1) gvy121 rfl hrecy136 (fun j j1 j2 => by rw [hfvy121 _ (by omega)]; exact f2 j j1 j2) (by omega) (by omega)
        have hgy137 := (hfvy69 (0) (by omega)).trans ary1
        have hgy138 := (hfvy69 (1) (by omega)).trans dry1
        have hpy139 := okRdr.mv (ad' := ad) (g' := gvy69) (fun j h1 h2 => by rfl) (fun j h1 h2 => by rw [hfvy69 _ (by omega)]) ery1
        have hpy140 := isPlan.mv (ad' := ad) (g' := gvy69) (fun j h1 h2 => by rfl) (fun j h1 h2 => by rw [hfvy69 _ (by omega)]) fry1
        have hpy141 := okState.mv (ad' := ad) (g' := gvy69) (fun j h1 h2 => by rfl) (fun j h1 h2 => by rw [hfvy69 _ (by omega)]) jry1
        have hpy142 := okPlan.mv (ad' := ad) (g' := gvy69) (fun j h1 h2 => by rfl) (fun j h1 h2 => by rw [hfvy69 _ (by omega)]) kry1
        have hpy143 := okGss.mv (ad' := ad) (g' := gvy69) (fun j h1 h2 => by rfl) (fun j h1 h2 => by rw [hfvy69 _ (by omega)]) nry1
        have hpy144 := okLike.mv (ad' := ad) (g' := gvy69) (fun j h1 h2 => by rfl) (fun j h1 h2 => by rw [hfvy69 _ (by omega)]) ory1
        have hpy145 := okBld.mv (ad' := ad) (g' := gvy69) (fun j h1 h2 => by rfl) (fun j h1 h2 => by rw [hfvy69 _ (by omega)]) pry1
        have hoky146 : okWorld cs ad gvy69 (890) := okWorld.mv (fun j j1 j2 => by rw [hfvy69 _ (by omega)]) lry1
        have hoky147 : okWorld cs ad gvy69 (900) := okWorld.mv (fun j j1 j2 => by rw [hfvy69 _ (by omega)]) mry1
        have hrecy148 : okRec cs ad gvy69 N (t) (fp) (im) (nz) (kz) (sl) (ho) (ua) (st) (op) (ai) (fa) (mu) (tb) (tp) := ⟨hgy137, bry1, cry1, hgy138, hpy139, hpy140, gry11, hry1, ⟨_, hkvy69⟩, ⟨_, hpy141⟩, hpy142, hoky146, hoky147, hpy143, hpy144, hpy145⟩
        refine z_lv (lv' := [(2, .int (zI (0))), (0, .ref (ad 0)), (1, .int (zI (z)))]) [0, 1, 2] rfl ?_
        exact lp44 _ (0) gvy69 rfl hrecy148 (fun j j1 j2 => by rw [hfvy69 _ (by omega)]) (by omega) (by omega)
      · refine z_aload_n C 0 dX9_hours_29 rfl ?_
        refine z_iconst (z := 1) C dX9_hours_30 rfl ?_
        have hrecy150 : okRec cs ad g N (t) (fp) (im) (nz) (kz) (sl) (ho) (ua) (st) (op) (ai) (fa) (mu) (tb) (tp) := ⟨ary1, bry1, cry1, dry1, ery1, fry1, gry11, hry1, ⟨_, iry1⟩, ⟨_, jry1⟩, kry1, lry1, mry1, nry1, ory1, pry1⟩
        refine z_cV (As := [.int (zI (1))]) (rest := []) (ci := 11) C (c_X9_refuse l D A cs tt N ad _ hN _ _ _ _ _ _ _ _ _ _ _ _ _ _ _ hrecy150 (1) (by omega)) (lt_K hN (rfl : Nat.blt (0) 952 = true)) hay2 ary1 rfl rfl mv_yX9_refuse q_408 hd_yX9_refuse (by decide) (Nat.le_of_ble_eq_true rfl) (by decide) dX9_hours_31 rfl (kI0 fun vy149 gvy149 hvy149 => ?_)
        obtain ⟨hrvy149, hkvy149, hfvy149⟩ := hvy149
        obtain ⟨ary151, bry151, cry151, dry151, ery151, fry151, gry1511, hry151, ⟨acry151, iry151⟩, ⟨kcry151, jry151⟩, kry151, lry151, mry151, nry151, ory151, pry151⟩ := id hkvy149
        obtain ⟨thcy152, zhcy152, ohcy152, rhcy152, hzhcy152, hthcy152, hwhcy152⟩ := id lry151
        obtain ⟨thcy153, zhcy153, ohcy153, rhcy153, hzhcy153, hthcy153, hwhcy153⟩ := id mry151
        obtain ⟨asy154, bsy154, csy154, dsy154, esy154, ⟨ptsy154, fsy154, gsy1541⟩, hsy154, ⟨nusy154, nvsy154, nwsy154, isy154, jsy154, ksy154, lsy154, msy154, nsy154⟩, rfsy154, osy154⟩ := id iry151
        obtain ⟨uy155t, uy155z, uy155o, uy155r, uy155z4, uy155t5, uy1551, ⟨uy155u, uy1552, uy1553⟩, uy1554⟩ := id csy154
        have hay156 : zAt ad (11 + 1) (ad (11 + 1)) := rfl
        have hay157 : zAt ad (11 + 1 + 1) (ad (11 + 1 + 1)) := rfl
        obtain ⟨sloy158, hooy158, uaoy158, stoy158, opoy158, aioy158, faoy158, muoy158, tboy158, hsloy158, hhooy158, hpoy158⟩ := id kry151
        have hrecy159 : okRec cs ad gvy149 N (t) (fp) (im) (nz) (kz) (sl) (ho) (ua) (st) (op) (ai) (fa) (mu) (tb) (tp) := ⟨ary151, bry151, cry151, dry151, ery151, fry151, gry1511, hry151, ⟨_, iry151⟩, ⟨_, jry151⟩, kry151, lry151, mry151, nry151, ory151, pry151⟩
        exact z_iret C hr hlk dX9_hours_34 (by decide) (by decide) ⟨vy149, rfl, rfl, rfl, by omega, hrecy159, fun j j1 j2 => by rw [hfvy149 _ (by omega) (by omega)]⟩

set_option maxRecDepth 100000 in
set_option maxHeartbeats 4000000 in
theorem c_X9_fall (l : Launch) (D : va_G) (A : Nat → Prop) (cs : Nat → ClassId) (tt : Nat) (N : Nat) (ad : Nat → Nat) (g : Nat → va_E) (hN : 952 ≤ N) (t fp im nz kz sl ho ua : Int) (st op ai fa mu tb tp : Nat → Int) (hR : okRec cs ad g N t fp im nz kz sl ho ua st op ai fa mu tb tp) (z : Int) (hz : -2147483648 ≤ z ∧ z ≤ 2147483647) (z1 : Int) (hz1 : -2147483648 ≤ z1 ∧ z1 ≤ 2147483647) (z2 : Int) (hz2 : -2147483648 ≤ z2 ∧ z2 ≤ 2147483647) : zM l yX9_fall cX9_fall 4 (some .int) ({ frames := 8, cells := 0, slots := 0, locals := 480 } : Room) D A cs tt N ad g [.ref (ad 0), .int (zI (z)), .int (zI (z1)), .int (zI (z2))] (rI0 N ad fun r g' => (-2147483648 ≤ r ∧ r ≤ 2147483647) ∧ okRec cs ad g' N t fp im nz kz sl ho ua st op ai fa mu tb tp ∧ oX g g') := by
  obtain ⟨ary1, bry1, cry1, dry1, ery1, fry1, gry11, hry1, ⟨acry1, iry1⟩, ⟨kcry1, jry1⟩, kry1, lry1, mry1, nry1, ory1, pry1⟩ := id hR
  have hay2 : zAt ad (0) (ad 0) := rfl
  have hay3 : zAt ad (1) (ad 1) := rfl
  have hay4 : zAt ad (2) (ad 2) := rfl
  have hay5 : zAt ad (4) (ad 4) := rfl
  have hay6 : zAt ad (11) (ad 11) := rfl
  have hay7 : zAt ad (447) (ad 447) := rfl
  have hay8 : zAt ad (883) (ad 883) := rfl
  have hay9 : zAt ad (890) (ad 890) := rfl
  have hay10 : zAt ad (900) (ad 900) := rfl
  have hay11 : zAt ad (910) (ad 910) := rfl
  have hay12 : zAt ad (917) (ad 917) := rfl
  have hay13 : zAt ad (919) (ad 919) := rfl
  have hay14 : zAt ad (4 + 1) (ad (4 + 1)) := rfl
  have hay15 : zAt ad (4 + 2) (ad (4 + 2)) := rfl
  have hay16 : zAt ad (4 + 3) (ad (4 + 3)) := rfl
  have hay17 : zAt ad (4 + 4) (ad (4 + 4)) := rfl
  have hay18 : zAt ad (4 + 5) (ad (4 + 5)) := rfl
  have hay19 : zAt ad (4 + 6) (ad (4 + 6)) := rfl
  obtain ⟨thcy20, zhcy20, ohcy20, rhcy20, hzhcy20, hthcy20, hwhcy20⟩ := id lry1
  obtain ⟨thcy21, zhcy21, ohcy21, rhcy21, hzhcy21, hthcy21, hwhcy21⟩ := id mry1
  obtain ⟨asy22, bsy22, csy22, dsy22, esy22, ⟨ptsy22, fsy22, gsy221⟩, hsy22, ⟨nusy22, nvsy22, nwsy22, isy22, jsy22, ksy22, lsy22, msy22, nsy22⟩, rfsy22, osy22⟩ := id iry1
  have hay23 : zAt ad (11 + 1) (ad (11 + 1)) := rfl
  have hay24 : zAt ad (11 + 11) (ad (11 + 11)) := rfl
  have hay25 : zAt ad (11 + 12) (ad (11 + 12)) := rfl
  have hay26 : zAt ad (11 + 13) (ad (11 + 13)) := rfl
  have hay27 : zAt ad (11 + 13 + 1) (ad (11 + 13 + 1)) := rfl
  have hay28 : zAt ad (11 + 13 + 2) (ad (11 + 13 + 2)) := rfl
  have hay29 : zAt ad (11 + 13 + 3) (ad (11 + 13 + 3)) := rfl
  have hay30 : zAt ad (11 + 17) (ad (11 + 17)) := rfl
  obtain ⟨uy31t, uy31z, uy31o, uy31r, uy31z4, uy31t5, uy311, ⟨uy31u, uy312, uy313⟩, uy314⟩ := id csy22
  have hay32 : zAt ad (11 + 1) (ad (11 + 1)) := rfl
  have hay33 : zAt ad (11 + 1 + 1) (ad (11 + 1 + 1)) := rfl
  obtain ⟨sloy34, hooy34, uaoy34, stoy34, opoy34, aioy34, faoy34, muoy34, tboy34, hsloy34, hhooy34, hpoy34⟩ := id kry1
  have hay35 : zAt ad (883 + 1) (ad (883 + 1)) := rfl
  have hay36 : zAt ad (883 + 2) (ad (883 + 2)) := rfl
  have hay37 : zAt ad (883 + 3) (ad (883 + 3)) := rfl
  have hay38 : zAt ad (883 + 4) (ad (883 + 4)) := rfl
  have hay39 : zAt ad (883 + 5) (ad (883 + 5)) := rfl
  have hay40 : zAt ad (883 + 6) (ad (883 + 6)) := rfl
  refine z_of (by decide) (Nat.le_of_ble_eq_true rfl) ?_
  intro p e s m below meth c C hr hlk hnm
  refine z_lv (lv' := [(0, .ref (ad 0)), (1, .int (zI (z))), (2, .int (zI (z1))), (3, .int (zI (z2)))]) [0, 1, 2, 3] rfl ?_
  refine z_aload_n C 0 dX9_fall_0 rfl ?_
  refine z_iload_n C 1 dX9_fall_1 rfl ?_
  have hrecy42 : okRec cs ad g N (t) (fp) (im) (nz) (kz) (sl) (ho) (ua) (st) (op) (ai) (fa) (mu) (tb) (tp) := ⟨ary1, bry1, cry1, dry1, ery1, fry1, gry11, hry1, ⟨_, iry1⟩, ⟨_, jry1⟩, kry1, lry1, mry1, nry1, ory1, pry1⟩
  refine z_cV (As := [.int (zI (z))]) (rest := []) (ci := 11) C (c_X9_isSlope l D A cs tt N ad _ hN _ _ _ _ _ _ _ _ _ _ _ _ _ _ _ hrecy42 (z) (by omega)) (lt_K hN (rfl : Nat.blt (0) 952 = true)) hay2 ary1 rfl rfl mv_yX9_isSlope q_537 hd_yX9_isSlope (by decide) (Nat.le_of_ble_eq_true rfl) (by decide) dX9_fall_2 rfl (kI0 fun vy41 gvy41 hvy41 => ?_)
  obtain ⟨hvy41, rfl⟩ := hvy41
  have hbvy41 : (vy41 = 1 ∧ 0 ≤ z ∧ z < sl) ∨ (vy41 = 0 ∧ ¬ (0 ≤ z ∧ z < sl)) := by rw [hvy41]; by_cases e9 : 0 ≤ z ∧ z < sl; (rw [if_pos e9]; exact Or.inl ⟨rfl, e9⟩); (rw [if_neg e9]; exact Or.inr ⟨rfl, e9⟩)
  refine z_if_eq (tgt := 17) C dX9_fall_5 (by decide) (by omega) (fun hby43 => ?_) (fun hby43 => ?_)
  · refine z_aload_n C 0 dX9_fall_17 rfl ?_
    refine z_iconst (z := 1) C dX9_fall_18 rfl ?_
    have hrecy45 : okRec cs ad g N (t) (fp) (im) (nz) (kz) (sl) (ho) (ua) (st) (op) (ai) (fa) (mu) (tb) (tp) := ⟨ary1, bry1, cry1, dry1, ery1, fry1, gry11, hry1, ⟨_, iry1⟩, ⟨_, jry1⟩, kry1, lry1, mry1, nry1, ory1, pry1⟩
    refine z_cV (As := [.int (zI (1))]) (rest := []) (ci := 11) C (c_X9_refuse l D A cs tt N ad _ hN _ _ _ _ _ _ _ _ _ _ _ _ _ _ _ hrecy45 (1) (by omega)) (lt_K hN (rfl : Nat.blt (0) 952 = true)) hay2 ary1 rfl rfl mv_yX9_refuse q_408 hd_yX9_refuse (by decide) (Nat.le_of_ble_eq_true rfl) (by decide) dX9_fall_19 rfl (kI0 fun vy44 gvy44 hvy44 => ?_)
    obtain ⟨hrvy44, hkvy44, hfvy44⟩ := hvy44
    obtain ⟨ary46, bry46, cry46, dry46, ery46, fry46, gry461, hry46, ⟨acry46, iry46⟩, ⟨kcry46, jry46⟩, kry46, lry46, mry46, nry46, ory46, pry46⟩ := id hkvy44
    obtain ⟨thcy47, zhcy47, ohcy47, rhcy47, hzhcy47, hthcy47, hwhcy47⟩ := id lry46
    obtain ⟨thcy48, zhcy48, ohcy48, rhcy48, hzhcy48, hthcy48, hwhcy48⟩ := id mry46
    obtain ⟨asy49, bsy49, csy49, dsy49, esy49, ⟨ptsy49, fsy49, gsy491⟩, hsy49, ⟨nusy49, nvsy49, nwsy49, isy49, jsy49, ksy49, lsy49, msy49, nsy49⟩, rfsy49, osy49⟩ := id iry46
    obtain ⟨uy50t, uy50z, uy50o, uy50r, uy50z4, uy50t5, uy501, ⟨uy50u, uy502, uy503⟩, uy504⟩ := id csy49
    have hay51 : zAt ad (11 + 1) (ad (11 + 1)) := rfl
    have hay52 : zAt ad (11 + 1 + 1) (ad (11 + 1 + 1)) := rfl
    obtain ⟨sloy53, hooy53, uaoy53, stoy53, opoy53, aioy53, faoy53, muoy53, tboy53, hsloy53, hhooy53, hpoy53⟩ := id kry46
    have hrecy54 : okRec cs ad gvy44 N (t) (fp) (im) (nz) (kz) (sl) (ho) (ua) (st) (op) (ai) (fa) (mu) (tb) (tp) := ⟨ary46, bry46, cry46, dry46, ery46, fry46, gry461, hry46, ⟨_, iry46⟩, ⟨_, jry46⟩, kry46, lry46, mry46, nry46, ory46, pry46⟩
    exact z_iret C hr hlk dX9_fall_22 (by decide) (by decide) ⟨vy44, rfl, rfl, rfl, by omega, hrecy54, fun j j1 j2 => by rw [hfvy44 _ (by omega) (by omega)]⟩
  · refine z_aload_n C 0 dX9_fall_8 rfl ?_
    refine z_iload_n C 2 dX9_fall_9 rfl ?_
    refine z_iload_n C 3 dX9_fall_10 rfl ?_
    have hrecy56 : okRec cs ad g N (t) (fp) (im) (nz) (kz) (sl) (ho) (ua) (st) (op) (ai) (fa) (mu) (tb) (tp) := ⟨ary1, bry1, cry1, dry1, ery1, fry1, gry11, hry1, ⟨_, iry1⟩, ⟨_, jry1⟩, kry1, lry1, mry1, nry1, ory1, pry1⟩
    refine z_cV (As := [.int (zI (z1)), .int (zI (z2))]) (rest := []) (ci := 11) C (c_X9_comesByHand l D A cs tt N ad _ hN _ _ _ _ _ _ _ _ _ _ _ _ _ _ _ hrecy56 (z1) (by omega) (z2) (by omega)) (lt_K hN (rfl : Nat.blt (0) 952 = true)) hay2 ary1 rfl rfl mv_yX9_comesByHand q_541 hd_yX9_comesByHand (by decide) (Nat.le_of_ble_eq_true rfl) (by decide) dX9_fall_11 rfl (kI0 fun vy55 gvy55 hvy55 => ?_)
    obtain ⟨hvy55, rfl⟩ := hvy55
    refine z_if_ne (tgt := 23) C dX9_fall_14 (by decide) (by omega) (fun hby57 => ?_) (fun hby57 => ?_)
    · refine z_aload_n C 0 dX9_fall_23 rfl ?_
      refine z_get (v := .ref (ad 11)) C (lt_K hN (rfl : Nat.blt (0) 952 = true)) hay2 ary1 rfl inA_X9 5 (by decide) q_354 rfl rfl dX9_fall_24 ?_
      refine z_cV (As := []) (rest := []) (ci := 8) C (c_X6_keepAct l D A cs tt N ad _ 11 (by omega) _ _ iry1) (lt_K hN (rfl : Nat.blt (11) 952 = true)) hay6 iry1.1 rfl rfl mv_yX6_keepAct q_412 hd_yX6_keepAct (by decide) (Nat.le_of_ble_eq_true rfl) (by decide) dX9_fall_27 rfl (kV0 fun gvy58 hvy58 => ?_)
      obtain ⟨⟨acvy58, hkvy58⟩, -, hfvy58⟩ := hvy58
      have hacqy59 := hkvy58.2.1
      obtain ⟨asy60, bsy60, csy60, dsy60, esy60, ⟨ptsy60, fsy60, gsy601⟩, hsy60, ⟨nusy60, nvsy60, nwsy60, isy60, jsy60, ksy60, lsy60, msy60, nsy60⟩, rfsy60, osy60⟩ := id hkvy58
      obtain ⟨uy61t, uy61z, uy61o, uy61r, uy61z4, uy61t5, uy611, ⟨uy61u, uy612, uy613⟩, uy614⟩ := id csy60
      have hay62 : zAt ad (11 + 1) (ad (11 + 1)) := rfl
      have hay63 : zAt ad (11 + 1 + 1) (ad (11 + 1 + 1)) := rfl
      refine z_aload_n C 0 dX9_fall_30 rfl ?_
      have hgy64 := (hfvy58 (0) (by omega)).trans ary1
      refine z_get (v := .ref (ad 11)) C (lt_K hN (rfl : Nat.blt (0) 952 = true)) hay2 hgy64 rfl inA_X9 5 (by decide) q_354 rfl rfl dX9_fall_31 ?_
      refine z_get (v := .ref (ad (11 + 1))) C (lt_K hN (rfl : Nat.blt (11) 952 = true)) hay6 hkvy58.1 rfl inA_X6 0 (by decide) q_258 rfl rfl dX9_fall_34 ?_
      refine z_iload_n C 1 dX9_fall_37 rfl ?_
      refine z_iload_n C 2 dX9_fall_38 rfl ?_
      refine z_iload_n C 3 dX9_fall_39 rfl ?_
      refine z_aload_n C 0 dX9_fall_40 rfl ?_
      refine z_get (v := .ref (ad 4)) C (lt_K hN (rfl : Nat.blt (0) 952 = true)) hay2 hgy64 rfl inA_X9 4 (by decide) q_353 rfl rfl dX9_fall_41 ?_
      refine z_aload_n C 0 dX9_fall_44 rfl ?_
      refine z_get (v := .ref (ad 11)) C (lt_K hN (rfl : Nat.blt (0) 952 = true)) hay2 hgy64 rfl inA_X9 5 (by decide) q_354 rfl rfl dX9_fall_45 ?_
      refine z_get (v := .ref (ad (11 + 1))) C (lt_K hN (rfl : Nat.blt (11) 952 = true)) hay6 hkvy58.1 rfl inA_X6 0 (by decide) q_258 rfl rfl dX9_fall_48 ?_
      refine z_get (v := .int (zI (uy61t 0))) C (lt_K hN (rfl : Nat.blt (11 + 1) 952 = true)) hay62 uy611 rfl inA_X8 0 (by decide) q_174 rfl rfl dX9_fall_51 ?_
      obtain ⟨xy65, exy66, hxy67⟩ := zI_of (zI (uy61t 0))
      rw [exy66]
      have hgy69 := (hfvy58 (4) (by omega)).trans fry1.1
      have hgy70 := (hfvy58 (4 + 1) (by omega)).trans fry1.2.1
      have hgy71 := (hfvy58 (4 + 2) (by omega)).trans fry1.2.2.1
      have hgy72 := (hfvy58 (4 + 3) (by omega)).trans fry1.2.2.2.1
      have hgy73 := (hfvy58 (4 + 4) (by omega)).trans fry1.2.2.2.2.1
      have hgy74 := (hfvy58 (4 + 5) (by omega)).trans fry1.2.2.2.2.2.1
      have hgy75 := (hfvy58 (4 + 6) (by omega)).trans fry1.2.2.2.2.2.2
      refine z_cV (As := [.int (zI (xy65))]) (rest := [.int (zI (z2)), .int (zI (z1)), .int (zI (z)), .ref (ad (11 + 1))]) (ci := 7) C (c_X5_airAt l D A cs tt N ad _ (4) (by omega) _ _ _ _ _ _ _ _ _ ⟨hgy69, hgy70, hgy71, hgy72, hgy73, hgy74, hgy75⟩ (by omega) (xy65) (by omega)) (lt_K hN (rfl : Nat.blt (4) 952 = true)) hay5 hgy69 rfl rfl mv_yX5_airAt q_545 hd_yX5_airAt (by decide) (Nat.le_of_ble_eq_true rfl) (by decide) dX9_fall_54 rfl (kI0 fun vy68 gvy68 hvy68 => ?_)
      obtain ⟨hvy68, rfl⟩ := hvy68
      refine z_cV (As := [.int (zI (z)), .int (zI (z1)), .int (zI (z2)), .int (zI (vy68))]) (rest := []) (ci := 10) C (c_X8_fallOn l D A cs tt N ad _ (11 + 1) (by omega) csy60 (z) (by omega) (z1) (by omega) (z2) (by omega) (vy68) (by omega)) (lt_K hN (rfl : Nat.blt (11 + 1) 952 = true)) hay62 uy611 rfl rfl mv_yX8_fallOn q_546 hd_yX8_fallOn (by decide) (Nat.le_of_ble_eq_true rfl) (by decide) dX9_fall_57 rfl (kV0 fun gvy76 hvy76 => ?_)
      obtain ⟨hkvy76, hfvy76⟩ := hvy76
      have hoky77 : okWorld cs ad gvy76 (11 + 1) := hkvy76
      obtain ⟨thcy78, zhcy78, ohcy78, rhcy78, hzhcy78, hthcy78, hwhcy78⟩ := id hoky77
      refine z_aload_n C 0 dX9_fall_60 rfl ?_
      have hgy79 := (hfvy76 (0) (by omega)).trans hgy64
      refine z_get (v := .ref (ad 11)) C (lt_K hN (rfl : Nat.blt (0) 952 = true)) hay2 hgy79 rfl inA_X9 5 (by decide) q_354 rfl rfl dX9_fall_61 ?_
      have hgy80 := (hfvy76 (11) (by omega)).trans hkvy58.1
      refine z_get (v := .ref (ad (11 + 1))) C (lt_K hN (rfl : Nat.blt (11) 952 = true)) hay6 hgy80 rfl inA_X6 0 (by decide) q_258 rfl rfl dX9_fall_64 ?_
      refine z_get (v := .ref (ad (11 + 1 + 1))) C (lt_K hN (rfl : Nat.blt (11 + 1) 952 = true)) hay62 hwhcy78.1 rfl inA_X8 6 (by decide) q_191 rfl rfl dX9_fall_67 ?_
      refine z_iload_n C 1 dX9_fall_70 rfl ?_
      obtain ⟨uy81t, uy81z, uy81o, uy81r, uy81z4, uy81t5, uy811, ⟨uy81u, uy812, uy813⟩, uy814⟩ := id hoky77
      have hay82 : zAt ad (11 + 1) (ad (11 + 1)) := rfl
      have hay83 : zAt ad (11 + 1 + 1) (ad (11 + 1 + 1)) := rfl
      refine z_aald C (lt_K hN (rfl : Nat.blt (11 + 1 + 1) 952 = true)) hay83 uy812 3 rfl ((z).toNat) (by omega) (by omega) (by decide) (uy813 (z).toNat (by omega)) dX9_fall_71 ?_
      have hay84 : zAt ad (11 + 1 + 2 + 2 * (z).toNat) (ad (11 + 1 + 2 + 2 * (z).toNat)) := rfl
      have hay85 : zAt ad (11 + 1 + 2 + 2 * (z).toNat + 1) (ad (11 + 1 + 2 + 2 * (z).toNat + 1)) := rfl
      have hpy86 := uy814 (z).toNat (by omega)
      have hqy87 := uy81z4 (z).toNat (by omega)
      refine z_get (v := .int (zI (uy81z (z).toNat))) C (by omega) hay84 hpy86.1 rfl inA_X3 0 (by decide) q_158 rfl rfl dX9_fall_72 ?_
      have hgy88 := (hfvy58 (1) (by omega)).trans dry1
      have hgy89 := (hfvy76 (1) (by omega)).trans hgy88
      have hsty90 := okState.now2 (g' := gvy76) hkvy58 (fun j j1 j2 j3 => by rw [hfvy76 _ (by omega)]) hoky77
      have hpy91 := okRdr.mv (ad' := ad) (g' := gvy76) (fun j h1 h2 => by rfl) (fun j h1 h2 => by rw [hfvy76 _ (by omega)]; rw [hfvy58 _ (by omega)]) ery1
      have hpy92 := isPlan.mv (ad' := ad) (g' := gvy76) (fun j h1 h2 => by rfl) (fun j h1 h2 => by rw [hfvy76 _ (by omega)]; rw [hfvy58 _ (by omega)]) fry1
      have hpy93 := okState.mv (ad' := ad) (g' := gvy76) (fun j h1 h2 => by rfl) (fun j h1 h2 => by rw [hfvy76 _ (by omega)]; rw [hfvy58 _ (by omega)]) jry1
      have hpy94 := okPlan.mv (ad' := ad) (g' := gvy76) (fun j h1 h2 => by rfl) (fun j h1 h2 => by rw [hfvy76 _ (by omega)]; rw [hfvy58 _ (by omega)]) kry1
      have hpy95 := okGss.mv (ad' := ad) (g' := gvy76) (fun j h1 h2 => by rfl) (fun j h1 h2 => by rw [hfvy76 _ (by omega)]; rw [hfvy58 _ (by omega)]) nry1
      have hpy96 := okLike.mv (ad' := ad) (g' := gvy76) (fun j h1 h2 => by rfl) (fun j h1 h2 => by rw [hfvy76 _ (by omega)]; rw [hfvy58 _ (by omega)]) ory1
      have hpy97 := okBld.mv (ad' := ad) (g' := gvy76) (fun j h1 h2 => by rfl) (fun j h1 h2 => by rw [hfvy76 _ (by omega)]; rw [hfvy58 _ (by omega)]) pry1
      have hoky98 : okWorld cs ad gvy76 (890) := okWorld.mv (fun j j1 j2 => by rw [hfvy76 _ (by omega)]; rw [hfvy58 _ (by omega)]) lry1
      have hoky99 : okWorld cs ad gvy76 (900) := okWorld.mv (fun j j1 j2 => by rw [hfvy76 _ (by omega)]; rw [hfvy58 _ (by omega)]) mry1
      have hrecy100 : okRec cs ad gvy76 N (t) (fp) (im) (nz) (kz) (sl) (ho) (ua) (st) (op) (ai) (fa) (mu) (tb) (tp) := ⟨hgy79, bry1, cry1, hgy89, hpy91, hpy92, gry11, hry1, ⟨_, hsty90⟩, ⟨_, hpy93⟩, hpy94, hoky98, hoky99, hpy95, hpy96, hpy97⟩
      exact z_iret C hr hlk dX9_fall_75 (by decide) (by decide) ⟨uy81z (z).toNat, rfl, rfl, rfl, by omega, hrecy100, fun j j1 j2 => by rw [hfvy76 _ (by omega)]; rw [hfvy58 _ (by omega)]⟩
    · refine z_aload_n C 0 dX9_fall_17 rfl ?_
      refine z_iconst (z := 1) C dX9_fall_18 rfl ?_
      have hrecy102 : okRec cs ad g N (t) (fp) (im) (nz) (kz) (sl) (ho) (ua) (st) (op) (ai) (fa) (mu) (tb) (tp) := ⟨ary1, bry1, cry1, dry1, ery1, fry1, gry11, hry1, ⟨_, iry1⟩, ⟨_, jry1⟩, kry1, lry1, mry1, nry1, ory1, pry1⟩
      refine z_cV (As := [.int (zI (1))]) (rest := []) (ci := 11) C (c_X9_refuse l D A cs tt N ad _ hN _ _ _ _ _ _ _ _ _ _ _ _ _ _ _ hrecy102 (1) (by omega)) (lt_K hN (rfl : Nat.blt (0) 952 = true)) hay2 ary1 rfl rfl mv_yX9_refuse q_408 hd_yX9_refuse (by decide) (Nat.le_of_ble_eq_true rfl) (by decide) dX9_fall_19 rfl (kI0 fun vy101 gvy101 hvy101 => ?_)
      obtain ⟨hrvy101, hkvy101, hfvy101⟩ := hvy101
      obtain ⟨ary103, bry103, cry103, dry103, ery103, fry103, gry1031, hry103, ⟨acry103, iry103⟩, ⟨kcry103, jry103⟩, kry103, lry103, mry103, nry103, ory103, pry103⟩ := id hkvy101
      obtain ⟨thcy104, zhcy104, ohcy104, rhcy104, hzhcy104, hthcy104, hwhcy104⟩ := id lry103
      obtain ⟨thcy105, zhcy105, ohcy105, rhcy105, hzhcy105, hthcy105, hwhcy105⟩ := id mry103
      obtain ⟨asy106, bsy106, csy106, dsy106, esy106, ⟨ptsy106, fsy106, gsy1061⟩, hsy106, ⟨nusy106, nvsy106, nwsy106, isy106, jsy106, ksy106, lsy106, msy106, nsy106⟩, rfsy106, osy106⟩ := id iry103
      obtain ⟨uy107t, uy107z, uy107o, uy107r, uy107z4, uy107t5, uy1071, ⟨uy107u, uy1072, uy1073⟩, uy1074⟩ := id csy106
      have hay108 : zAt ad (11 + 1) (ad (11 + 1)) := rfl
      have hay109 : zAt ad (11 + 1 + 1) (ad (11 + 1 + 1)) := rfl
      obtain ⟨sloy110, hooy110, uaoy110, stoy110, opoy110, aioy110, faoy110, muoy110, tboy110, hsloy110, hhooy110, hpoy110⟩ := id kry103
      have hrecy111 : okRec cs ad gvy101 N (t) (fp) (im) (nz) (kz) (sl) (ho) (ua) (st) (op) (ai) (fa) (mu) (tb) (tp) := ⟨ary103, bry103, cry103, dry103, ery103, fry103, gry1031, hry103, ⟨_, iry103⟩, ⟨_, jry103⟩, kry103, lry103, mry103, nry103, ory103, pry103⟩
      exact z_iret C hr hlk dX9_fall_22 (by decide) (by decide) ⟨vy101, rfl, rfl, rfl, by omega, hrecy111, fun j j1 j2 => by rw [hfvy101 _ (by omega) (by omega)]⟩

set_option maxRecDepth 100000 in
set_option maxHeartbeats 4000000 in
theorem c_X9_dig (l : Launch) (D : va_G) (A : Nat → Prop) (cs : Nat → ClassId) (tt : Nat) (N : Nat) (ad : Nat → Nat) (g : Nat → va_E) (hN : 952 ≤ N) (t fp im nz kz sl ho ua : Int) (st op ai fa mu tb tp : Nat → Int) (hR : okRec cs ad g N t fp im nz kz sl ho ua st op ai fa mu tb tp) (z : Int) (hz : -2147483648 ≤ z ∧ z ≤ 2147483647) : zM l yX9_dig cX9_dig 2 (some .int) ({ frames := 8, cells := 0, slots := 0, locals := 480 } : Room) D A cs tt N ad g [.ref (ad 0), .int (zI (z))] (rI0 N ad fun r g' => (-2147483648 ≤ r ∧ r ≤ 2147483647) ∧ okRec cs ad g' N t fp im nz kz sl ho ua st op ai fa mu tb tp ∧ oX g g') := by
  obtain ⟨ary1, bry1, cry1, dry1, ery1, fry1, gry11, hry1, ⟨acry1, iry1⟩, ⟨kcry1, jry1⟩, kry1, lry1, mry1, nry1, ory1, pry1⟩ := id hR
  have hay2 : zAt ad (0) (ad 0) := rfl
  have hay3 : zAt ad (1) (ad 1) := rfl
  have hay4 : zAt ad (2) (ad 2) := rfl
  have hay5 : zAt ad (4) (ad 4) := rfl
  have hay6 : zAt ad (11) (ad 11) := rfl
  have hay7 : zAt ad (447) (ad 447) := rfl
  have hay8 : zAt ad (883) (ad 883) := rfl
  have hay9 : zAt ad (890) (ad 890) := rfl
  have hay10 : zAt ad (900) (ad 900) := rfl
  have hay11 : zAt ad (910) (ad 910) := rfl
  have hay12 : zAt ad (917) (ad 917) := rfl
  have hay13 : zAt ad (919) (ad 919) := rfl
  have hay14 : zAt ad (4 + 1) (ad (4 + 1)) := rfl
  have hay15 : zAt ad (4 + 2) (ad (4 + 2)) := rfl
  have hay16 : zAt ad (4 + 3) (ad (4 + 3)) := rfl
  have hay17 : zAt ad (4 + 4) (ad (4 + 4)) := rfl
  have hay18 : zAt ad (4 + 5) (ad (4 + 5)) := rfl
  have hay19 : zAt ad (4 + 6) (ad (4 + 6)) := rfl
  obtain ⟨thcy20, zhcy20, ohcy20, rhcy20, hzhcy20, hthcy20, hwhcy20⟩ := id lry1
  obtain ⟨thcy21, zhcy21, ohcy21, rhcy21, hzhcy21, hthcy21, hwhcy21⟩ := id mry1
  obtain ⟨asy22, bsy22, csy22, dsy22, esy22, ⟨ptsy22, fsy22, gsy221⟩, hsy22, ⟨nusy22, nvsy22, nwsy22, isy22, jsy22, ksy22, lsy22, msy22, nsy22⟩, rfsy22, osy22⟩ := id iry1
  have hay23 : zAt ad (11 + 1) (ad (11 + 1)) := rfl
  have hay24 : zAt ad (11 + 11) (ad (11 + 11)) := rfl
  have hay25 : zAt ad (11 + 12) (ad (11 + 12)) := rfl
  have hay26 : zAt ad (11 + 13) (ad (11 + 13)) := rfl
  have hay27 : zAt ad (11 + 13 + 1) (ad (11 + 13 + 1)) := rfl
  have hay28 : zAt ad (11 + 13 + 2) (ad (11 + 13 + 2)) := rfl
  have hay29 : zAt ad (11 + 13 + 3) (ad (11 + 13 + 3)) := rfl
  have hay30 : zAt ad (11 + 17) (ad (11 + 17)) := rfl
  obtain ⟨uy31t, uy31z, uy31o, uy31r, uy31z4, uy31t5, uy311, ⟨uy31u, uy312, uy313⟩, uy314⟩ := id csy22
  have hay32 : zAt ad (11 + 1) (ad (11 + 1)) := rfl
  have hay33 : zAt ad (11 + 1 + 1) (ad (11 + 1 + 1)) := rfl
  obtain ⟨sloy34, hooy34, uaoy34, stoy34, opoy34, aioy34, faoy34, muoy34, tboy34, hsloy34, hhooy34, hpoy34⟩ := id kry1
  have hay35 : zAt ad (883 + 1) (ad (883 + 1)) := rfl
  have hay36 : zAt ad (883 + 2) (ad (883 + 2)) := rfl
  have hay37 : zAt ad (883 + 3) (ad (883 + 3)) := rfl
  have hay38 : zAt ad (883 + 4) (ad (883 + 4)) := rfl
  have hay39 : zAt ad (883 + 5) (ad (883 + 5)) := rfl
  have hay40 : zAt ad (883 + 6) (ad (883 + 6)) := rfl
  refine z_of (by decide) (Nat.le_of_ble_eq_true rfl) ?_
  intro p e s m below meth c C hr hlk hnm
  refine z_lv (lv' := [(0, .ref (ad 0)), (1, .int (zI (z)))]) [0, 1] rfl ?_
  refine z_aload_n C 0 dX9_dig_0 rfl ?_
  refine z_iload_n C 1 dX9_dig_1 rfl ?_
  have hrecy42 : okRec cs ad g N (t) (fp) (im) (nz) (kz) (sl) (ho) (ua) (st) (op) (ai) (fa) (mu) (tb) (tp) := ⟨ary1, bry1, cry1, dry1, ery1, fry1, gry11, hry1, ⟨_, iry1⟩, ⟨_, jry1⟩, kry1, lry1, mry1, nry1, ory1, pry1⟩
  refine z_cV (As := [.int (zI (z))]) (rest := []) (ci := 11) C (c_X9_isSlope l D A cs tt N ad _ hN _ _ _ _ _ _ _ _ _ _ _ _ _ _ _ hrecy42 (z) (by omega)) (lt_K hN (rfl : Nat.blt (0) 952 = true)) hay2 ary1 rfl rfl mv_yX9_isSlope q_537 hd_yX9_isSlope (by decide) (Nat.le_of_ble_eq_true rfl) (by decide) dX9_dig_2 rfl (kI0 fun vy41 gvy41 hvy41 => ?_)
  obtain ⟨hvy41, rfl⟩ := hvy41
  have hbvy41 : (vy41 = 1 ∧ 0 ≤ z ∧ z < sl) ∨ (vy41 = 0 ∧ ¬ (0 ≤ z ∧ z < sl)) := by rw [hvy41]; by_cases e9 : 0 ≤ z ∧ z < sl; (rw [if_pos e9]; exact Or.inl ⟨rfl, e9⟩); (rw [if_neg e9]; exact Or.inr ⟨rfl, e9⟩)
  refine z_if_eq (tgt := 26) C dX9_dig_5 (by decide) (by omega) (fun hby43 => ?_) (fun hby43 => ?_)
  · refine z_aload_n C 0 dX9_dig_26 rfl ?_
    refine z_iconst (z := 1) C dX9_dig_27 rfl ?_
    have hrecy45 : okRec cs ad g N (t) (fp) (im) (nz) (kz) (sl) (ho) (ua) (st) (op) (ai) (fa) (mu) (tb) (tp) := ⟨ary1, bry1, cry1, dry1, ery1, fry1, gry11, hry1, ⟨_, iry1⟩, ⟨_, jry1⟩, kry1, lry1, mry1, nry1, ory1, pry1⟩
    refine z_cV (As := [.int (zI (1))]) (rest := []) (ci := 11) C (c_X9_refuse l D A cs tt N ad _ hN _ _ _ _ _ _ _ _ _ _ _ _ _ _ _ hrecy45 (1) (by omega)) (lt_K hN (rfl : Nat.blt (0) 952 = true)) hay2 ary1 rfl rfl mv_yX9_refuse q_408 hd_yX9_refuse (by decide) (Nat.le_of_ble_eq_true rfl) (by decide) dX9_dig_28 rfl (kI0 fun vy44 gvy44 hvy44 => ?_)
    obtain ⟨hrvy44, hkvy44, hfvy44⟩ := hvy44
    obtain ⟨ary46, bry46, cry46, dry46, ery46, fry46, gry461, hry46, ⟨acry46, iry46⟩, ⟨kcry46, jry46⟩, kry46, lry46, mry46, nry46, ory46, pry46⟩ := id hkvy44
    obtain ⟨thcy47, zhcy47, ohcy47, rhcy47, hzhcy47, hthcy47, hwhcy47⟩ := id lry46
    obtain ⟨thcy48, zhcy48, ohcy48, rhcy48, hzhcy48, hthcy48, hwhcy48⟩ := id mry46
    obtain ⟨asy49, bsy49, csy49, dsy49, esy49, ⟨ptsy49, fsy49, gsy491⟩, hsy49, ⟨nusy49, nvsy49, nwsy49, isy49, jsy49, ksy49, lsy49, msy49, nsy49⟩, rfsy49, osy49⟩ := id iry46
    obtain ⟨uy50t, uy50z, uy50o, uy50r, uy50z4, uy50t5, uy501, ⟨uy50u, uy502, uy503⟩, uy504⟩ := id csy49
    have hay51 : zAt ad (11 + 1) (ad (11 + 1)) := rfl
    have hay52 : zAt ad (11 + 1 + 1) (ad (11 + 1 + 1)) := rfl
    obtain ⟨sloy53, hooy53, uaoy53, stoy53, opoy53, aioy53, faoy53, muoy53, tboy53, hsloy53, hhooy53, hpoy53⟩ := id kry46
    have hrecy54 : okRec cs ad gvy44 N (t) (fp) (im) (nz) (kz) (sl) (ho) (ua) (st) (op) (ai) (fa) (mu) (tb) (tp) := ⟨ary46, bry46, cry46, dry46, ery46, fry46, gry461, hry46, ⟨_, iry46⟩, ⟨_, jry46⟩, kry46, lry46, mry46, nry46, ory46, pry46⟩
    exact z_iret C hr hlk dX9_dig_31 (by decide) (by decide) ⟨vy44, rfl, rfl, rfl, by omega, hrecy54, fun j j1 j2 => by rw [hfvy44 _ (by omega) (by omega)]⟩
  · refine z_aload_n C 0 dX9_dig_8 rfl ?_
    refine z_get (v := .ref (ad 11)) C (lt_K hN (rfl : Nat.blt (0) 952 = true)) hay2 ary1 rfl inA_X9 5 (by decide) q_354 rfl rfl dX9_dig_9 ?_
    refine z_get (v := .ref (ad (11 + 1))) C (lt_K hN (rfl : Nat.blt (11) 952 = true)) hay6 iry1.1 rfl inA_X6 0 (by decide) q_258 rfl rfl dX9_dig_12 ?_
    refine z_get (v := .ref (ad (11 + 1 + 1))) C (lt_K hN (rfl : Nat.blt (11 + 1) 952 = true)) hay32 uy311 rfl inA_X8 6 (by decide) q_191 rfl rfl dX9_dig_15 ?_
    refine z_iload_n C 1 dX9_dig_18 rfl ?_
    refine z_aald C (lt_K hN (rfl : Nat.blt (11 + 1 + 1) 952 = true)) hay33 uy312 3 rfl ((z).toNat) (by omega) (by omega) (by decide) (uy313 (z).toNat (by omega)) dX9_dig_19 ?_
    have hay55 : zAt ad (11 + 1 + 2 + 2 * (z).toNat) (ad (11 + 1 + 2 + 2 * (z).toNat)) := rfl
    have hay56 : zAt ad (11 + 1 + 2 + 2 * (z).toNat + 1) (ad (11 + 1 + 2 + 2 * (z).toNat + 1)) := rfl
    have hpy57 := uy314 (z).toNat (by omega)
    have hqy58 := uy31z4 (z).toNat (by omega)
    refine z_get (v := .int (zI (uy31z (z).toNat))) C (by omega) hay55 hpy57.1 rfl inA_X3 0 (by decide) q_158 rfl rfl dX9_dig_20 ?_
    refine z_if_ne (tgt := 32) C dX9_dig_23 (by decide) (by omega) (fun hby59 => ?_) (fun hby59 => ?_)
    · refine z_aload_n C 0 dX9_dig_32 rfl ?_
      refine z_get (v := .ref (ad 11)) C (lt_K hN (rfl : Nat.blt (0) 952 = true)) hay2 ary1 rfl inA_X9 5 (by decide) q_354 rfl rfl dX9_dig_33 ?_
      refine z_cV (As := []) (rest := []) (ci := 8) C (c_X6_keepAct l D A cs tt N ad _ 11 (by omega) _ _ iry1) (lt_K hN (rfl : Nat.blt (11) 952 = true)) hay6 iry1.1 rfl rfl mv_yX6_keepAct q_412 hd_yX6_keepAct (by decide) (Nat.le_of_ble_eq_true rfl) (by decide) dX9_dig_36 rfl (kV0 fun gvy60 hvy60 => ?_)
      obtain ⟨⟨acvy60, hkvy60⟩, -, hfvy60⟩ := hvy60
      have hacqy61 := hkvy60.2.1
      obtain ⟨asy62, bsy62, csy62, dsy62, esy62, ⟨ptsy62, fsy62, gsy621⟩, hsy62, ⟨nusy62, nvsy62, nwsy62, isy62, jsy62, ksy62, lsy62, msy62, nsy62⟩, rfsy62, osy62⟩ := id hkvy60
      obtain ⟨uy63t, uy63z, uy63o, uy63r, uy63z4, uy63t5, uy631, ⟨uy63u, uy632, uy633⟩, uy634⟩ := id csy62
      have hay64 : zAt ad (11 + 1) (ad (11 + 1)) := rfl
      have hay65 : zAt ad (11 + 1 + 1) (ad (11 + 1 + 1)) := rfl
      refine z_aload_n C 0 dX9_dig_39 rfl ?_
      have hgy66 := (hfvy60 (0) (by omega)).trans ary1
      refine z_get (v := .ref (ad 11)) C (lt_K hN (rfl : Nat.blt (0) 952 = true)) hay2 hgy66 rfl inA_X9 5 (by decide) q_354 rfl rfl dX9_dig_40 ?_
      refine z_get (v := .ref (ad (11 + 1))) C (lt_K hN (rfl : Nat.blt (11) 952 = true)) hay6 hkvy60.1 rfl inA_X6 0 (by decide) q_258 rfl rfl dX9_dig_43 ?_
      refine z_iload_n C 1 dX9_dig_46 rfl ?_
      refine z_cV (As := [.int (zI (z))]) (rest := []) (ci := 10) C (c_X8_digOn l D A cs tt N ad _ (11 + 1) (by omega) csy62 (z) (by omega) ) (lt_K hN (rfl : Nat.blt (11 + 1) 952 = true)) hay64 uy631 rfl rfl mv_yX8_digOn q_551 hd_yX8_digOn (by decide) (Nat.le_of_ble_eq_true rfl) (by decide) dX9_dig_47 rfl (kI0 fun vy67 gvy67 hvy67 => ?_)
      obtain ⟨hrvy67, hkvy67, hfvy67⟩ := hvy67
      have hoky68 : okWorld cs ad gvy67 (11 + 1) := hkvy67
      obtain ⟨thcy69, zhcy69, ohcy69, rhcy69, hzhcy69, hthcy69, hwhcy69⟩ := id hoky68
      have hgy70 := (hfvy67 (0) (by omega)).trans hgy66
      have hgy71 := (hfvy60 (1) (by omega)).trans dry1
      have hgy72 := (hfvy67 (1) (by omega)).trans hgy71
      have hsty73 := okState.now2 (g' := gvy67) hkvy60 (fun j j1 j2 j3 => by rw [hfvy67 _ (by omega)]) hoky68
      have hpy74 := okRdr.mv (ad' := ad) (g' := gvy67) (fun j h1 h2 => by rfl) (fun j h1 h2 => by rw [hfvy67 _ (by omega)]; rw [hfvy60 _ (by omega)]) ery1
      have hpy75 := isPlan.mv (ad' := ad) (g' := gvy67) (fun j h1 h2 => by rfl) (fun j h1 h2 => by rw [hfvy67 _ (by omega)]; rw [hfvy60 _ (by omega)]) fry1
      have hpy76 := okState.mv (ad' := ad) (g' := gvy67) (fun j h1 h2 => by rfl) (fun j h1 h2 => by rw [hfvy67 _ (by omega)]; rw [hfvy60 _ (by omega)]) jry1
      have hpy77 := okPlan.mv (ad' := ad) (g' := gvy67) (fun j h1 h2 => by rfl) (fun j h1 h2 => by rw [hfvy67 _ (by omega)]; rw [hfvy60 _ (by omega)]) kry1
      have hpy78 := okGss.mv (ad' := ad) (g' := gvy67) (fun j h1 h2 => by rfl) (fun j h1 h2 => by rw [hfvy67 _ (by omega)]; rw [hfvy60 _ (by omega)]) nry1
      have hpy79 := okLike.mv (ad' := ad) (g' := gvy67) (fun j h1 h2 => by rfl) (fun j h1 h2 => by rw [hfvy67 _ (by omega)]; rw [hfvy60 _ (by omega)]) ory1
      have hpy80 := okBld.mv (ad' := ad) (g' := gvy67) (fun j h1 h2 => by rfl) (fun j h1 h2 => by rw [hfvy67 _ (by omega)]; rw [hfvy60 _ (by omega)]) pry1
      have hoky81 : okWorld cs ad gvy67 (890) := okWorld.mv (fun j j1 j2 => by rw [hfvy67 _ (by omega)]; rw [hfvy60 _ (by omega)]) lry1
      have hoky82 : okWorld cs ad gvy67 (900) := okWorld.mv (fun j j1 j2 => by rw [hfvy67 _ (by omega)]; rw [hfvy60 _ (by omega)]) mry1
      have hrecy83 : okRec cs ad gvy67 N (t) (fp) (im) (nz) (kz) (sl) (ho) (ua) (st) (op) (ai) (fa) (mu) (tb) (tp) := ⟨hgy70, bry1, cry1, hgy72, hpy74, hpy75, gry11, hry1, ⟨_, hsty73⟩, ⟨_, hpy76⟩, hpy77, hoky81, hoky82, hpy78, hpy79, hpy80⟩
      exact z_iret C hr hlk dX9_dig_50 (by decide) (by decide) ⟨vy67, rfl, rfl, rfl, by omega, hrecy83, fun j j1 j2 => by rw [hfvy67 _ (by omega)]; rw [hfvy60 _ (by omega)]⟩
    · refine z_aload_n C 0 dX9_dig_26 rfl ?_
      refine z_iconst (z := 1) C dX9_dig_27 rfl ?_
      have hrecy85 : okRec cs ad g N (t) (fp) (im) (nz) (kz) (sl) (ho) (ua) (st) (op) (ai) (fa) (mu) (tb) (tp) := ⟨ary1, bry1, cry1, dry1, ery1, fry1, gry11, hry1, ⟨_, iry1⟩, ⟨_, jry1⟩, kry1, lry1, mry1, nry1, ory1, pry1⟩
      refine z_cV (As := [.int (zI (1))]) (rest := []) (ci := 11) C (c_X9_refuse l D A cs tt N ad _ hN _ _ _ _ _ _ _ _ _ _ _ _ _ _ _ hrecy85 (1) (by omega)) (lt_K hN (rfl : Nat.blt (0) 952 = true)) hay2 ary1 rfl rfl mv_yX9_refuse q_408 hd_yX9_refuse (by decide) (Nat.le_of_ble_eq_true rfl) (by decide) dX9_dig_28 rfl (kI0 fun vy84 gvy84 hvy84 => ?_)
      obtain ⟨hrvy84, hkvy84, hfvy84⟩ := hvy84
      obtain ⟨ary86, bry86, cry86, dry86, ery86, fry86, gry861, hry86, ⟨acry86, iry86⟩, ⟨kcry86, jry86⟩, kry86, lry86, mry86, nry86, ory86, pry86⟩ := id hkvy84
      obtain ⟨thcy87, zhcy87, ohcy87, rhcy87, hzhcy87, hthcy87, hwhcy87⟩ := id lry86
      obtain ⟨thcy88, zhcy88, ohcy88, rhcy88, hzhcy88, hthcy88, hwhcy88⟩ := id mry86
      obtain ⟨asy89, bsy89, csy89, dsy89, esy89, ⟨ptsy89, fsy89, gsy891⟩, hsy89, ⟨nusy89, nvsy89, nwsy89, isy89, jsy89, ksy89, lsy89, msy89, nsy89⟩, rfsy89, osy89⟩ := id iry86
      obtain ⟨uy90t, uy90z, uy90o, uy90r, uy90z4, uy90t5, uy901, ⟨uy90u, uy902, uy903⟩, uy904⟩ := id csy89
      have hay91 : zAt ad (11 + 1) (ad (11 + 1)) := rfl
      have hay92 : zAt ad (11 + 1 + 1) (ad (11 + 1 + 1)) := rfl
      obtain ⟨sloy93, hooy93, uaoy93, stoy93, opoy93, aioy93, faoy93, muoy93, tboy93, hsloy93, hhooy93, hpoy93⟩ := id kry86
      have hrecy94 : okRec cs ad gvy84 N (t) (fp) (im) (nz) (kz) (sl) (ho) (ua) (st) (op) (ai) (fa) (mu) (tb) (tp) := ⟨ary86, bry86, cry86, dry86, ery86, fry86, gry861, hry86, ⟨_, iry86⟩, ⟨_, jry86⟩, kry86, lry86, mry86, nry86, ory86, pry86⟩
      exact z_iret C hr hlk dX9_dig_31 (by decide) (by decide) ⟨vy84, rfl, rfl, rfl, by omega, hrecy94, fun j j1 j2 => by rw [hfvy84 _ (by omega) (by omega)]⟩

set_option maxRecDepth 100000 in
set_option maxHeartbeats 4000000 in
theorem c_X9_slide (l : Launch) (D : va_G) (A : Nat → Prop) (cs : Nat → ClassId) (tt : Nat) (N : Nat) (ad : Nat → Nat) (g : Nat → va_E) (hN : 952 ≤ N) (t fp im nz kz sl ho ua : Int) (st op ai fa mu tb tp : Nat → Int) (hR : okRec cs ad g N t fp im nz kz sl ho ua st op ai fa mu tb tp) (z : Int) (hz : -2147483648 ≤ z ∧ z ≤ 2147483647) : zM l yX9_slide cX9_slide 2 (some .int) ({ frames := 8, cells := 0, slots := 0, locals := 480 } : Room) D A cs tt N ad g [.ref (ad 0), .int (zI (z))] (rI0 N ad fun r g' => (-2147483648 ≤ r ∧ r ≤ 2147483647) ∧ okRec cs ad g' N t fp im nz kz sl ho ua st op ai fa mu tb tp ∧ oX g g') := by
  obtain ⟨ary1, bry1, cry1, dry1, ery1, fry1, gry11, hry1, ⟨acry1, iry1⟩, ⟨kcry1, jry1⟩, kry1, lry1, mry1, nry1, ory1, pry1⟩ := id hR
  have hay2 : zAt ad (0) (ad 0) := rfl
  have hay3 : zAt ad (1) (ad 1) := rfl
  have hay4 : zAt ad (2) (ad 2) := rfl
  have hay5 : zAt ad (4) (ad 4) := rfl
  have hay6 : zAt ad (11) (ad 11) := rfl
  have hay7 : zAt ad (447) (ad 447) := rfl
  have hay8 : zAt ad (883) (ad 883) := rfl
  have hay9 : zAt ad (890) (ad 890) := rfl
  have hay10 : zAt ad (900) (ad 900) := rfl
  have hay11 : zAt ad (910) (ad 910) := rfl
  have hay12 : zAt ad (917) (ad 917) := rfl
  have hay13 : zAt ad (919) (ad 919) := rfl
  have hay14 : zAt ad (4 + 1) (ad (4 + 1)) := rfl
  have hay15 : zAt ad (4 + 2) (ad (4 + 2)) := rfl
  have hay16 : zAt ad (4 + 3) (ad (4 + 3)) := rfl
  have hay17 : zAt ad (4 + 4) (ad (4 + 4)) := rfl
  have hay18 : zAt ad (4 + 5) (ad (4 + 5)) := rfl
  have hay19 : zAt ad (4 + 6) (ad (4 + 6)) := rfl
  obtain ⟨thcy20, zhcy20, ohcy20, rhcy20, hzhcy20, hthcy20, hwhcy20⟩ := id lry1
  obtain ⟨thcy21, zhcy21, ohcy21, rhcy21, hzhcy21, hthcy21, hwhcy21⟩ := id mry1
  obtain ⟨asy22, bsy22, csy22, dsy22, esy22, ⟨ptsy22, fsy22, gsy221⟩, hsy22, ⟨nusy22, nvsy22, nwsy22, isy22, jsy22, ksy22, lsy22, msy22, nsy22⟩, rfsy22, osy22⟩ := id iry1
  have hay23 : zAt ad (11 + 1) (ad (11 + 1)) := rfl
  have hay24 : zAt ad (11 + 11) (ad (11 + 11)) := rfl
  have hay25 : zAt ad (11 + 12) (ad (11 + 12)) := rfl
  have hay26 : zAt ad (11 + 13) (ad (11 + 13)) := rfl
  have hay27 : zAt ad (11 + 13 + 1) (ad (11 + 13 + 1)) := rfl
  have hay28 : zAt ad (11 + 13 + 2) (ad (11 + 13 + 2)) := rfl
  have hay29 : zAt ad (11 + 13 + 3) (ad (11 + 13 + 3)) := rfl
  have hay30 : zAt ad (11 + 17) (ad (11 + 17)) := rfl
  obtain ⟨uy31t, uy31z, uy31o, uy31r, uy31z4, uy31t5, uy311, ⟨uy31u, uy312, uy313⟩, uy314⟩ := id csy22
  have hay32 : zAt ad (11 + 1) (ad (11 + 1)) := rfl
  have hay33 : zAt ad (11 + 1 + 1) (ad (11 + 1 + 1)) := rfl
  obtain ⟨sloy34, hooy34, uaoy34, stoy34, opoy34, aioy34, faoy34, muoy34, tboy34, hsloy34, hhooy34, hpoy34⟩ := id kry1
  have hay35 : zAt ad (883 + 1) (ad (883 + 1)) := rfl
  have hay36 : zAt ad (883 + 2) (ad (883 + 2)) := rfl
  have hay37 : zAt ad (883 + 3) (ad (883 + 3)) := rfl
  have hay38 : zAt ad (883 + 4) (ad (883 + 4)) := rfl
  have hay39 : zAt ad (883 + 5) (ad (883 + 5)) := rfl
  have hay40 : zAt ad (883 + 6) (ad (883 + 6)) := rfl
  refine z_of (by decide) (Nat.le_of_ble_eq_true rfl) ?_
  intro p e s m below meth c C hr hlk hnm
  refine z_lv (lv' := [(0, .ref (ad 0)), (1, .int (zI (z)))]) [0, 1] rfl ?_
  refine z_aload_n C 0 dX9_slide_0 rfl ?_
  refine z_iload_n C 1 dX9_slide_1 rfl ?_
  have hrecy42 : okRec cs ad g N (t) (fp) (im) (nz) (kz) (sl) (ho) (ua) (st) (op) (ai) (fa) (mu) (tb) (tp) := ⟨ary1, bry1, cry1, dry1, ery1, fry1, gry11, hry1, ⟨_, iry1⟩, ⟨_, jry1⟩, kry1, lry1, mry1, nry1, ory1, pry1⟩
  refine z_cV (As := [.int (zI (z))]) (rest := []) (ci := 11) C (c_X9_isSlope l D A cs tt N ad _ hN _ _ _ _ _ _ _ _ _ _ _ _ _ _ _ hrecy42 (z) (by omega)) (lt_K hN (rfl : Nat.blt (0) 952 = true)) hay2 ary1 rfl rfl mv_yX9_isSlope q_537 hd_yX9_isSlope (by decide) (Nat.le_of_ble_eq_true rfl) (by decide) dX9_slide_2 rfl (kI0 fun vy41 gvy41 hvy41 => ?_)
  obtain ⟨hvy41, rfl⟩ := hvy41
  have hbvy41 : (vy41 = 1 ∧ 0 ≤ z ∧ z < sl) ∨ (vy41 = 0 ∧ ¬ (0 ≤ z ∧ z < sl)) := by rw [hvy41]; by_cases e9 : 0 ≤ z ∧ z < sl; (rw [if_pos e9]; exact Or.inl ⟨rfl, e9⟩); (rw [if_neg e9]; exact Or.inr ⟨rfl, e9⟩)
  refine z_if_eq (tgt := 23) C dX9_slide_5 (by decide) (by omega) (fun hby43 => ?_) (fun hby43 => ?_)
  · refine z_aload_n C 0 dX9_slide_23 rfl ?_
    refine z_iconst (z := 1) C dX9_slide_24 rfl ?_
    have hrecy45 : okRec cs ad g N (t) (fp) (im) (nz) (kz) (sl) (ho) (ua) (st) (op) (ai) (fa) (mu) (tb) (tp) := ⟨ary1, bry1, cry1, dry1, ery1, fry1, gry11, hry1, ⟨_, iry1⟩, ⟨_, jry1⟩, kry1, lry1, mry1, nry1, ory1, pry1⟩
    refine z_cV (As := [.int (zI (1))]) (rest := []) (ci := 11) C (c_X9_refuse l D A cs tt N ad _ hN _ _ _ _ _ _ _ _ _ _ _ _ _ _ _ hrecy45 (1) (by omega)) (lt_K hN (rfl : Nat.blt (0) 952 = true)) hay2 ary1 rfl rfl mv_yX9_refuse q_408 hd_yX9_refuse (by decide) (Nat.le_of_ble_eq_true rfl) (by decide) dX9_slide_25 rfl (kI0 fun vy44 gvy44 hvy44 => ?_)
    obtain ⟨hrvy44, hkvy44, hfvy44⟩ := hvy44
    obtain ⟨ary46, bry46, cry46, dry46, ery46, fry46, gry461, hry46, ⟨acry46, iry46⟩, ⟨kcry46, jry46⟩, kry46, lry46, mry46, nry46, ory46, pry46⟩ := id hkvy44
    obtain ⟨thcy47, zhcy47, ohcy47, rhcy47, hzhcy47, hthcy47, hwhcy47⟩ := id lry46
    obtain ⟨thcy48, zhcy48, ohcy48, rhcy48, hzhcy48, hthcy48, hwhcy48⟩ := id mry46
    obtain ⟨asy49, bsy49, csy49, dsy49, esy49, ⟨ptsy49, fsy49, gsy491⟩, hsy49, ⟨nusy49, nvsy49, nwsy49, isy49, jsy49, ksy49, lsy49, msy49, nsy49⟩, rfsy49, osy49⟩ := id iry46
    obtain ⟨uy50t, uy50z, uy50o, uy50r, uy50z4, uy50t5, uy501, ⟨uy50u, uy502, uy503⟩, uy504⟩ := id csy49
    have hay51 : zAt ad (11 + 1) (ad (11 + 1)) := rfl
    have hay52 : zAt ad (11 + 1 + 1) (ad (11 + 1 + 1)) := rfl
    obtain ⟨sloy53, hooy53, uaoy53, stoy53, opoy53, aioy53, faoy53, muoy53, tboy53, hsloy53, hhooy53, hpoy53⟩ := id kry46
    have hrecy54 : okRec cs ad gvy44 N (t) (fp) (im) (nz) (kz) (sl) (ho) (ua) (st) (op) (ai) (fa) (mu) (tb) (tp) := ⟨ary46, bry46, cry46, dry46, ery46, fry46, gry461, hry46, ⟨_, iry46⟩, ⟨_, jry46⟩, kry46, lry46, mry46, nry46, ory46, pry46⟩
    exact z_iret C hr hlk dX9_slide_28 (by decide) (by decide) ⟨vy44, rfl, rfl, rfl, by omega, hrecy54, fun j j1 j2 => by rw [hfvy44 _ (by omega) (by omega)]⟩
  · refine z_aload_n C 0 dX9_slide_8 rfl ?_
    refine z_aload_n C 0 dX9_slide_9 rfl ?_
    refine z_get (v := .ref (ad 11)) C (lt_K hN (rfl : Nat.blt (0) 952 = true)) hay2 ary1 rfl inA_X9 5 (by decide) q_354 rfl rfl dX9_slide_10 ?_
    refine z_get (v := .ref (ad (11 + 1))) C (lt_K hN (rfl : Nat.blt (11) 952 = true)) hay6 iry1.1 rfl inA_X6 0 (by decide) q_258 rfl rfl dX9_slide_13 ?_
    refine z_iload_n C 1 dX9_slide_16 rfl ?_
    have hrecy56 : okRec cs ad g N (t) (fp) (im) (nz) (kz) (sl) (ho) (ua) (st) (op) (ai) (fa) (mu) (tb) (tp) := ⟨ary1, bry1, cry1, dry1, ery1, fry1, gry11, hry1, ⟨_, iry1⟩, ⟨_, jry1⟩, kry1, lry1, mry1, nry1, ory1, pry1⟩
    refine z_cV (As := [.ref (ad (11 + 1)), .int (zI (z))]) (rest := []) (ci := 11) C (c_X9_isUnstable l D A cs tt N ad _ hN _ _ _ _ _ _ _ _ _ _ _ _ _ _ _ hrecy56 (11 + 1) (by omega) csy22 (z) (by omega)) (lt_K hN (rfl : Nat.blt (0) 952 = true)) hay2 ary1 rfl rfl mv_yX9_isUnstable q_560 hd_yX9_isUnstable (by decide) (Nat.le_of_ble_eq_true rfl) (by decide) dX9_slide_17 rfl (kI0 fun vy55 gvy55 hvy55 => ?_)
    obtain ⟨hvy55, rfl⟩ := hvy55
    refine z_if_ne (tgt := 29) C dX9_slide_20 (by decide) (by omega) (fun hby57 => ?_) (fun hby57 => ?_)
    · refine z_aload_n C 0 dX9_slide_29 rfl ?_
      refine z_get (v := .ref (ad 11)) C (lt_K hN (rfl : Nat.blt (0) 952 = true)) hay2 ary1 rfl inA_X9 5 (by decide) q_354 rfl rfl dX9_slide_30 ?_
      refine z_cV (As := []) (rest := []) (ci := 8) C (c_X6_keepAct l D A cs tt N ad _ 11 (by omega) _ _ iry1) (lt_K hN (rfl : Nat.blt (11) 952 = true)) hay6 iry1.1 rfl rfl mv_yX6_keepAct q_412 hd_yX6_keepAct (by decide) (Nat.le_of_ble_eq_true rfl) (by decide) dX9_slide_33 rfl (kV0 fun gvy58 hvy58 => ?_)
      obtain ⟨⟨acvy58, hkvy58⟩, -, hfvy58⟩ := hvy58
      have hacqy59 := hkvy58.2.1
      obtain ⟨asy60, bsy60, csy60, dsy60, esy60, ⟨ptsy60, fsy60, gsy601⟩, hsy60, ⟨nusy60, nvsy60, nwsy60, isy60, jsy60, ksy60, lsy60, msy60, nsy60⟩, rfsy60, osy60⟩ := id hkvy58
      obtain ⟨uy61t, uy61z, uy61o, uy61r, uy61z4, uy61t5, uy611, ⟨uy61u, uy612, uy613⟩, uy614⟩ := id csy60
      have hay62 : zAt ad (11 + 1) (ad (11 + 1)) := rfl
      have hay63 : zAt ad (11 + 1 + 1) (ad (11 + 1 + 1)) := rfl
      refine z_aload_n C 0 dX9_slide_36 rfl ?_
      have hgy64 := (hfvy58 (0) (by omega)).trans ary1
      refine z_get (v := .ref (ad 11)) C (lt_K hN (rfl : Nat.blt (0) 952 = true)) hay2 hgy64 rfl inA_X9 5 (by decide) q_354 rfl rfl dX9_slide_37 ?_
      refine z_get (v := .ref (ad (11 + 1))) C (lt_K hN (rfl : Nat.blt (11) 952 = true)) hay6 hkvy58.1 rfl inA_X6 0 (by decide) q_258 rfl rfl dX9_slide_40 ?_
      refine z_iload_n C 1 dX9_slide_43 rfl ?_
      refine z_aload_n C 0 dX9_slide_44 rfl ?_
      refine z_get (v := .ref (ad 4)) C (lt_K hN (rfl : Nat.blt (0) 952 = true)) hay2 hgy64 rfl inA_X9 4 (by decide) q_353 rfl rfl dX9_slide_45 ?_
      have hgy66 := (hfvy58 (4) (by omega)).trans fry1.1
      have hgy67 := (hfvy58 (4 + 1) (by omega)).trans fry1.2.1
      have hgy68 := (hfvy58 (4 + 2) (by omega)).trans fry1.2.2.1
      have hgy69 := (hfvy58 (4 + 3) (by omega)).trans fry1.2.2.2.1
      have hgy70 := (hfvy58 (4 + 4) (by omega)).trans fry1.2.2.2.2.1
      have hgy71 := (hfvy58 (4 + 5) (by omega)).trans fry1.2.2.2.2.2.1
      have hgy72 := (hfvy58 (4 + 6) (by omega)).trans fry1.2.2.2.2.2.2
      refine z_cV (As := [.int (zI (z)), .ref (ad 4)]) (rest := []) (ci := 10) C (c_X8_slideOn l D A cs tt N ad _ (11 + 1) (by omega) csy60 (z) (by omega) (4) (by omega) _ _ _ _ _ _ _ _ _ ⟨hgy66, hgy67, hgy68, hgy69, hgy70, hgy71, hgy72⟩ (by omega)) (lt_K hN (rfl : Nat.blt (11 + 1) 952 = true)) hay62 uy611 rfl rfl mv_yX8_slideOn q_586 hd_yX8_slideOn (by decide) (Nat.le_of_ble_eq_true rfl) (by decide) dX9_slide_48 rfl (kI0 fun vy65 gvy65 hvy65 => ?_)
      obtain ⟨hrvy65, hkvy65, hfvy65⟩ := hvy65
      have hoky73 : okWorld cs ad gvy65 (11 + 1) := hkvy65
      obtain ⟨thcy74, zhcy74, ohcy74, rhcy74, hzhcy74, hthcy74, hwhcy74⟩ := id hoky73
      have hgy75 := (hfvy65 (0) (by omega)).trans hgy64
      have hgy76 := (hfvy58 (1) (by omega)).trans dry1
      have hgy77 := (hfvy65 (1) (by omega)).trans hgy76
      have hsty78 := okState.now2 (g' := gvy65) hkvy58 (fun j j1 j2 j3 => by rw [hfvy65 _ (by omega)]) hoky73
      have hpy79 := okRdr.mv (ad' := ad) (g' := gvy65) (fun j h1 h2 => by rfl) (fun j h1 h2 => by rw [hfvy65 _ (by omega)]; rw [hfvy58 _ (by omega)]) ery1
      have hpy80 := isPlan.mv (ad' := ad) (g' := gvy65) (fun j h1 h2 => by rfl) (fun j h1 h2 => by rw [hfvy65 _ (by omega)]; rw [hfvy58 _ (by omega)]) fry1
      have hpy81 := okState.mv (ad' := ad) (g' := gvy65) (fun j h1 h2 => by rfl) (fun j h1 h2 => by rw [hfvy65 _ (by omega)]; rw [hfvy58 _ (by omega)]) jry1
      have hpy82 := okPlan.mv (ad' := ad) (g' := gvy65) (fun j h1 h2 => by rfl) (fun j h1 h2 => by rw [hfvy65 _ (by omega)]; rw [hfvy58 _ (by omega)]) kry1
      have hpy83 := okGss.mv (ad' := ad) (g' := gvy65) (fun j h1 h2 => by rfl) (fun j h1 h2 => by rw [hfvy65 _ (by omega)]; rw [hfvy58 _ (by omega)]) nry1
      have hpy84 := okLike.mv (ad' := ad) (g' := gvy65) (fun j h1 h2 => by rfl) (fun j h1 h2 => by rw [hfvy65 _ (by omega)]; rw [hfvy58 _ (by omega)]) ory1
      have hpy85 := okBld.mv (ad' := ad) (g' := gvy65) (fun j h1 h2 => by rfl) (fun j h1 h2 => by rw [hfvy65 _ (by omega)]; rw [hfvy58 _ (by omega)]) pry1
      have hoky86 : okWorld cs ad gvy65 (890) := okWorld.mv (fun j j1 j2 => by rw [hfvy65 _ (by omega)]; rw [hfvy58 _ (by omega)]) lry1
      have hoky87 : okWorld cs ad gvy65 (900) := okWorld.mv (fun j j1 j2 => by rw [hfvy65 _ (by omega)]; rw [hfvy58 _ (by omega)]) mry1
      have hrecy88 : okRec cs ad gvy65 N (t) (fp) (im) (nz) (kz) (sl) (ho) (ua) (st) (op) (ai) (fa) (mu) (tb) (tp) := ⟨hgy75, bry1, cry1, hgy77, hpy79, hpy80, gry11, hry1, ⟨_, hsty78⟩, ⟨_, hpy81⟩, hpy82, hoky86, hoky87, hpy83, hpy84, hpy85⟩
      exact z_iret C hr hlk dX9_slide_51 (by decide) (by decide) ⟨vy65, rfl, rfl, rfl, by omega, hrecy88, fun j j1 j2 => by rw [hfvy65 _ (by omega)]; rw [hfvy58 _ (by omega)]⟩
    · refine z_aload_n C 0 dX9_slide_23 rfl ?_
      refine z_iconst (z := 1) C dX9_slide_24 rfl ?_
      have hrecy90 : okRec cs ad g N (t) (fp) (im) (nz) (kz) (sl) (ho) (ua) (st) (op) (ai) (fa) (mu) (tb) (tp) := ⟨ary1, bry1, cry1, dry1, ery1, fry1, gry11, hry1, ⟨_, iry1⟩, ⟨_, jry1⟩, kry1, lry1, mry1, nry1, ory1, pry1⟩
      refine z_cV (As := [.int (zI (1))]) (rest := []) (ci := 11) C (c_X9_refuse l D A cs tt N ad _ hN _ _ _ _ _ _ _ _ _ _ _ _ _ _ _ hrecy90 (1) (by omega)) (lt_K hN (rfl : Nat.blt (0) 952 = true)) hay2 ary1 rfl rfl mv_yX9_refuse q_408 hd_yX9_refuse (by decide) (Nat.le_of_ble_eq_true rfl) (by decide) dX9_slide_25 rfl (kI0 fun vy89 gvy89 hvy89 => ?_)
      obtain ⟨hrvy89, hkvy89, hfvy89⟩ := hvy89
      obtain ⟨ary91, bry91, cry91, dry91, ery91, fry91, gry911, hry91, ⟨acry91, iry91⟩, ⟨kcry91, jry91⟩, kry91, lry91, mry91, nry91, ory91, pry91⟩ := id hkvy89
      obtain ⟨thcy92, zhcy92, ohcy92, rhcy92, hzhcy92, hthcy92, hwhcy92⟩ := id lry91
      obtain ⟨thcy93, zhcy93, ohcy93, rhcy93, hzhcy93, hthcy93, hwhcy93⟩ := id mry91
      obtain ⟨asy94, bsy94, csy94, dsy94, esy94, ⟨ptsy94, fsy94, gsy941⟩, hsy94, ⟨nusy94, nvsy94, nwsy94, isy94, jsy94, ksy94, lsy94, msy94, nsy94⟩, rfsy94, osy94⟩ := id iry91
      obtain ⟨uy95t, uy95z, uy95o, uy95r, uy95z4, uy95t5, uy951, ⟨uy95u, uy952, uy953⟩, uy954⟩ := id csy94
      have hay96 : zAt ad (11 + 1) (ad (11 + 1)) := rfl
      have hay97 : zAt ad (11 + 1 + 1) (ad (11 + 1 + 1)) := rfl
      obtain ⟨sloy98, hooy98, uaoy98, stoy98, opoy98, aioy98, faoy98, muoy98, tboy98, hsloy98, hhooy98, hpoy98⟩ := id kry91
      have hrecy99 : okRec cs ad gvy89 N (t) (fp) (im) (nz) (kz) (sl) (ho) (ua) (st) (op) (ai) (fa) (mu) (tb) (tp) := ⟨ary91, bry91, cry91, dry91, ery91, fry91, gry911, hry91, ⟨_, iry91⟩, ⟨_, jry91⟩, kry91, lry91, mry91, nry91, ory91, pry91⟩
      exact z_iret C hr hlk dX9_slide_28 (by decide) (by decide) ⟨vy89, rfl, rfl, rfl, by omega, hrecy99, fun j j1 j2 => by rw [hfvy89 _ (by omega) (by omega)]⟩

set_option maxRecDepth 100000 in
set_option maxHeartbeats 4000000 in
theorem c_X9_pit (l : Launch) (D : va_G) (A : Nat → Prop) (cs : Nat → ClassId) (tt : Nat) (N : Nat) (ad : Nat → Nat) (g : Nat → va_E) (hN : 952 ≤ N) (t fp im nz kz sl ho ua : Int) (st op ai fa mu tb tp : Nat → Int) (hR : okRec cs ad g N t fp im nz kz sl ho ua st op ai fa mu tb tp) (z : Int) (hz : -2147483648 ≤ z ∧ z ≤ 2147483647) : zM l yX9_pit cX9_pit 2 (some .int) ({ frames := 8, cells := 0, slots := 0, locals := 480 } : Room) D A cs tt N ad g [.ref (ad 0), .int (zI (z))] (rI0 N ad fun r g' => (-2147483648 ≤ r ∧ r ≤ 2147483647) ∧ okRec cs ad g' N t fp im nz kz sl ho ua st op ai fa mu tb tp ∧ oX g g') := by
  obtain ⟨ary1, bry1, cry1, dry1, ery1, fry1, gry11, hry1, ⟨acry1, iry1⟩, ⟨kcry1, jry1⟩, kry1, lry1, mry1, nry1, ory1, pry1⟩ := id hR
  have hay2 : zAt ad (0) (ad 0) := rfl
  have hay3 : zAt ad (1) (ad 1) := rfl
  have hay4 : zAt ad (2) (ad 2) := rfl
  have hay5 : zAt ad (4) (ad 4) := rfl
  have hay6 : zAt ad (11) (ad 11) := rfl
  have hay7 : zAt ad (447) (ad 447) := rfl
  have hay8 : zAt ad (883) (ad 883) := rfl
  have hay9 : zAt ad (890) (ad 890) := rfl
  have hay10 : zAt ad (900) (ad 900) := rfl
  have hay11 : zAt ad (910) (ad 910) := rfl
  have hay12 : zAt ad (917) (ad 917) := rfl
  have hay13 : zAt ad (919) (ad 919) := rfl
  have hay14 : zAt ad (4 + 1) (ad (4 + 1)) := rfl
  have hay15 : zAt ad (4 + 2) (ad (4 + 2)) := rfl
  have hay16 : zAt ad (4 + 3) (ad (4 + 3)) := rfl
  have hay17 : zAt ad (4 + 4) (ad (4 + 4)) := rfl
  have hay18 : zAt ad (4 + 5) (ad (4 + 5)) := rfl
  have hay19 : zAt ad (4 + 6) (ad (4 + 6)) := rfl
  obtain ⟨thcy20, zhcy20, ohcy20, rhcy20, hzhcy20, hthcy20, hwhcy20⟩ := id lry1
  obtain ⟨thcy21, zhcy21, ohcy21, rhcy21, hzhcy21, hthcy21, hwhcy21⟩ := id mry1
  obtain ⟨asy22, bsy22, csy22, dsy22, esy22, ⟨ptsy22, fsy22, gsy221⟩, hsy22, ⟨nusy22, nvsy22, nwsy22, isy22, jsy22, ksy22, lsy22, msy22, nsy22⟩, rfsy22, osy22⟩ := id iry1
  have hay23 : zAt ad (11 + 1) (ad (11 + 1)) := rfl
  have hay24 : zAt ad (11 + 11) (ad (11 + 11)) := rfl
  have hay25 : zAt ad (11 + 12) (ad (11 + 12)) := rfl
  have hay26 : zAt ad (11 + 13) (ad (11 + 13)) := rfl
  have hay27 : zAt ad (11 + 13 + 1) (ad (11 + 13 + 1)) := rfl
  have hay28 : zAt ad (11 + 13 + 2) (ad (11 + 13 + 2)) := rfl
  have hay29 : zAt ad (11 + 13 + 3) (ad (11 + 13 + 3)) := rfl
  have hay30 : zAt ad (11 + 17) (ad (11 + 17)) := rfl
  obtain ⟨uy31t, uy31z, uy31o, uy31r, uy31z4, uy31t5, uy311, ⟨uy31u, uy312, uy313⟩, uy314⟩ := id csy22
  have hay32 : zAt ad (11 + 1) (ad (11 + 1)) := rfl
  have hay33 : zAt ad (11 + 1 + 1) (ad (11 + 1 + 1)) := rfl
  obtain ⟨sloy34, hooy34, uaoy34, stoy34, opoy34, aioy34, faoy34, muoy34, tboy34, hsloy34, hhooy34, hpoy34⟩ := id kry1
  have hay35 : zAt ad (883 + 1) (ad (883 + 1)) := rfl
  have hay36 : zAt ad (883 + 2) (ad (883 + 2)) := rfl
  have hay37 : zAt ad (883 + 3) (ad (883 + 3)) := rfl
  have hay38 : zAt ad (883 + 4) (ad (883 + 4)) := rfl
  have hay39 : zAt ad (883 + 5) (ad (883 + 5)) := rfl
  have hay40 : zAt ad (883 + 6) (ad (883 + 6)) := rfl
  refine z_of (by decide) (Nat.le_of_ble_eq_true rfl) ?_
  intro p e s m below meth c C hr hlk hnm
  refine z_lv (lv' := [(0, .ref (ad 0)), (1, .int (zI (z)))]) [0, 1] rfl ?_
  refine z_aload_n C 0 dX9_pit_0 rfl ?_
  refine z_iload_n C 1 dX9_pit_1 rfl ?_
  have hrecy42 : okRec cs ad g N (t) (fp) (im) (nz) (kz) (sl) (ho) (ua) (st) (op) (ai) (fa) (mu) (tb) (tp) := ⟨ary1, bry1, cry1, dry1, ery1, fry1, gry11, hry1, ⟨_, iry1⟩, ⟨_, jry1⟩, kry1, lry1, mry1, nry1, ory1, pry1⟩
  refine z_cV (As := [.int (zI (z))]) (rest := []) (ci := 11) C (c_X9_isSlope l D A cs tt N ad _ hN _ _ _ _ _ _ _ _ _ _ _ _ _ _ _ hrecy42 (z) (by omega)) (lt_K hN (rfl : Nat.blt (0) 952 = true)) hay2 ary1 rfl rfl mv_yX9_isSlope q_537 hd_yX9_isSlope (by decide) (Nat.le_of_ble_eq_true rfl) (by decide) dX9_pit_2 rfl (kI0 fun vy41 gvy41 hvy41 => ?_)
  obtain ⟨hvy41, rfl⟩ := hvy41
  have hbvy41 : (vy41 = 1 ∧ 0 ≤ z ∧ z < sl) ∨ (vy41 = 0 ∧ ¬ (0 ≤ z ∧ z < sl)) := by rw [hvy41]; by_cases e9 : 0 ≤ z ∧ z < sl; (rw [if_pos e9]; exact Or.inl ⟨rfl, e9⟩); (rw [if_neg e9]; exact Or.inr ⟨rfl, e9⟩)
  refine z_if_eq (tgt := 23) C dX9_pit_5 (by decide) (by omega) (fun hby43 => ?_) (fun hby43 => ?_)
  · refine z_aload_n C 0 dX9_pit_23 rfl ?_
    refine z_iconst (z := 1) C dX9_pit_24 rfl ?_
    have hrecy45 : okRec cs ad g N (t) (fp) (im) (nz) (kz) (sl) (ho) (ua) (st) (op) (ai) (fa) (mu) (tb) (tp) := ⟨ary1, bry1, cry1, dry1, ery1, fry1, gry11, hry1, ⟨_, iry1⟩, ⟨_, jry1⟩, kry1, lry1, mry1, nry1, ory1, pry1⟩
    refine z_cV (As := [.int (zI (1))]) (rest := []) (ci := 11) C (c_X9_refuse l D A cs tt N ad _ hN _ _ _ _ _ _ _ _ _ _ _ _ _ _ _ hrecy45 (1) (by omega)) (lt_K hN (rfl : Nat.blt (0) 952 = true)) hay2 ary1 rfl rfl mv_yX9_refuse q_408 hd_yX9_refuse (by decide) (Nat.le_of_ble_eq_true rfl) (by decide) dX9_pit_25 rfl (kI0 fun vy44 gvy44 hvy44 => ?_)
    obtain ⟨hrvy44, hkvy44, hfvy44⟩ := hvy44
    obtain ⟨ary46, bry46, cry46, dry46, ery46, fry46, gry461, hry46, ⟨acry46, iry46⟩, ⟨kcry46, jry46⟩, kry46, lry46, mry46, nry46, ory46, pry46⟩ := id hkvy44
    obtain ⟨thcy47, zhcy47, ohcy47, rhcy47, hzhcy47, hthcy47, hwhcy47⟩ := id lry46
    obtain ⟨thcy48, zhcy48, ohcy48, rhcy48, hzhcy48, hthcy48, hwhcy48⟩ := id mry46
    obtain ⟨asy49, bsy49, csy49, dsy49, esy49, ⟨ptsy49, fsy49, gsy491⟩, hsy49, ⟨nusy49, nvsy49, nwsy49, isy49, jsy49, ksy49, lsy49, msy49, nsy49⟩, rfsy49, osy49⟩ := id iry46
    obtain ⟨uy50t, uy50z, uy50o, uy50r, uy50z4, uy50t5, uy501, ⟨uy50u, uy502, uy503⟩, uy504⟩ := id csy49
    have hay51 : zAt ad (11 + 1) (ad (11 + 1)) := rfl
    have hay52 : zAt ad (11 + 1 + 1) (ad (11 + 1 + 1)) := rfl
    obtain ⟨sloy53, hooy53, uaoy53, stoy53, opoy53, aioy53, faoy53, muoy53, tboy53, hsloy53, hhooy53, hpoy53⟩ := id kry46
    have hrecy54 : okRec cs ad gvy44 N (t) (fp) (im) (nz) (kz) (sl) (ho) (ua) (st) (op) (ai) (fa) (mu) (tb) (tp) := ⟨ary46, bry46, cry46, dry46, ery46, fry46, gry461, hry46, ⟨_, iry46⟩, ⟨_, jry46⟩, kry46, lry46, mry46, nry46, ory46, pry46⟩
    exact z_iret C hr hlk dX9_pit_28 (by decide) (by decide) ⟨vy44, rfl, rfl, rfl, by omega, hrecy54, fun j j1 j2 => by rw [hfvy44 _ (by omega) (by omega)]⟩
  · refine z_aload_n C 0 dX9_pit_8 rfl ?_
    refine z_get (v := .ref (ad 11)) C (lt_K hN (rfl : Nat.blt (0) 952 = true)) hay2 ary1 rfl inA_X9 5 (by decide) q_354 rfl rfl dX9_pit_9 ?_
    refine z_get (v := .ref (ad (11 + 1))) C (lt_K hN (rfl : Nat.blt (11) 952 = true)) hay6 iry1.1 rfl inA_X6 0 (by decide) q_258 rfl rfl dX9_pit_12 ?_
    refine z_get (v := .int (zI (uy31t 5))) C (lt_K hN (rfl : Nat.blt (11 + 1) 952 = true)) hay32 uy311 rfl inA_X8 5 (by decide) q_186 rfl rfl dX9_pit_15 ?_
    refine z_bipush (z := 6) C dX9_pit_18 (by decide) ?_
    refine z_icmp_lt (tgt := 29) C dX9_pit_20 (by decide) (by omega) (by omega) (fun hby55 => ?_) (fun hby55 => ?_)
    · refine z_aload_n C 0 dX9_pit_29 rfl ?_
      refine z_get (v := .ref (ad 11)) C (lt_K hN (rfl : Nat.blt (0) 952 = true)) hay2 ary1 rfl inA_X9 5 (by decide) q_354 rfl rfl dX9_pit_30 ?_
      refine z_cV (As := []) (rest := []) (ci := 8) C (c_X6_keepAct l D A cs tt N ad _ 11 (by omega) _ _ iry1) (lt_K hN (rfl : Nat.blt (11) 952 = true)) hay6 iry1.1 rfl rfl mv_yX6_keepAct q_412 hd_yX6_keepAct (by decide) (Nat.le_of_ble_eq_true rfl) (by decide) dX9_pit_33 rfl (kV0 fun gvy56 hvy56 => ?_)
      obtain ⟨⟨acvy56, hkvy56⟩, -, hfvy56⟩ := hvy56
      have hacqy57 := hkvy56.2.1
      obtain ⟨asy58, bsy58, csy58, dsy58, esy58, ⟨ptsy58, fsy58, gsy581⟩, hsy58, ⟨nusy58, nvsy58, nwsy58, isy58, jsy58, ksy58, lsy58, msy58, nsy58⟩, rfsy58, osy58⟩ := id hkvy56
      obtain ⟨uy59t, uy59z, uy59o, uy59r, uy59z4, uy59t5, uy591, ⟨uy59u, uy592, uy593⟩, uy594⟩ := id csy58
      have hay60 : zAt ad (11 + 1) (ad (11 + 1)) := rfl
      have hay61 : zAt ad (11 + 1 + 1) (ad (11 + 1 + 1)) := rfl
      refine z_aload_n C 0 dX9_pit_36 rfl ?_
      have hgy62 := (hfvy56 (0) (by omega)).trans ary1
      refine z_get (v := .ref (ad 11)) C (lt_K hN (rfl : Nat.blt (0) 952 = true)) hay2 hgy62 rfl inA_X9 5 (by decide) q_354 rfl rfl dX9_pit_37 ?_
      refine z_iload_n C 1 dX9_pit_40 rfl ?_
      refine z_cV (As := [.int (zI (z))]) (rest := []) (ci := 8) C (c_X6_keepPit l D A cs tt N ad _ 11 (by omega) _ _ hkvy56 (z) (by omega)) (lt_K hN (rfl : Nat.blt (11) 952 = true)) hay6 hkvy56.1 rfl rfl mv_yX6_keepPit q_602 hd_yX6_keepPit (by decide) (Nat.le_of_ble_eq_true rfl) (by decide) dX9_pit_41 rfl (kV0 fun gvy63 hvy63 => ?_)
      obtain ⟨hkvy63, hfvy63⟩ := hvy63
      have hacqy64 := hkvy63.2.1
      obtain ⟨asy65, bsy65, csy65, dsy65, esy65, ⟨ptsy65, fsy65, gsy651⟩, hsy65, ⟨nusy65, nvsy65, nwsy65, isy65, jsy65, ksy65, lsy65, msy65, nsy65⟩, rfsy65, osy65⟩ := id hkvy63
      obtain ⟨uy66t, uy66z, uy66o, uy66r, uy66z4, uy66t5, uy661, ⟨uy66u, uy662, uy663⟩, uy664⟩ := id csy65
      have hay67 : zAt ad (11 + 1) (ad (11 + 1)) := rfl
      have hay68 : zAt ad (11 + 1 + 1) (ad (11 + 1 + 1)) := rfl
      refine z_aload_n C 0 dX9_pit_44 rfl ?_
      have hgy69 := (hfvy63 (0) (by omega)).trans hgy62
      refine z_get (v := .ref (ad 11)) C (lt_K hN (rfl : Nat.blt (0) 952 = true)) hay2 hgy69 rfl inA_X9 5 (by decide) q_354 rfl rfl dX9_pit_45 ?_
      refine z_get (v := .ref (ad (11 + 1))) C (lt_K hN (rfl : Nat.blt (11) 952 = true)) hay6 hkvy63.1 rfl inA_X6 0 (by decide) q_258 rfl rfl dX9_pit_48 ?_
      refine z_get (v := .int (zI (uy66t 5))) C (lt_K hN (rfl : Nat.blt (11 + 1) 952 = true)) hay67 uy661 rfl inA_X8 5 (by decide) q_186 rfl rfl dX9_pit_51 ?_
      have hgy70 := (hfvy56 (1) (by omega)).trans dry1
      have hgy71 := (hfvy63 (1) (by omega)).trans hgy70
      have hpy72 := okRdr.mv (ad' := ad) (g' := gvy63) (fun j h1 h2 => by rfl) (fun j h1 h2 => by rw [hfvy63 _ (by omega)]; rw [hfvy56 _ (by omega)]) ery1
      have hpy73 := isPlan.mv (ad' := ad) (g' := gvy63) (fun j h1 h2 => by rfl) (fun j h1 h2 => by rw [hfvy63 _ (by omega)]; rw [hfvy56 _ (by omega)]) fry1
      have hpy74 := okState.mv (ad' := ad) (g' := gvy63) (fun j h1 h2 => by rfl) (fun j h1 h2 => by rw [hfvy63 _ (by omega)]; rw [hfvy56 _ (by omega)]) jry1
      have hpy75 := okPlan.mv (ad' := ad) (g' := gvy63) (fun j h1 h2 => by rfl) (fun j h1 h2 => by rw [hfvy63 _ (by omega)]; rw [hfvy56 _ (by omega)]) kry1
      have hpy76 := okGss.mv (ad' := ad) (g' := gvy63) (fun j h1 h2 => by rfl) (fun j h1 h2 => by rw [hfvy63 _ (by omega)]; rw [hfvy56 _ (by omega)]) nry1
      have hpy77 := okLike.mv (ad' := ad) (g' := gvy63) (fun j h1 h2 => by rfl) (fun j h1 h2 => by rw [hfvy63 _ (by omega)]; rw [hfvy56 _ (by omega)]) ory1
      have hpy78 := okBld.mv (ad' := ad) (g' := gvy63) (fun j h1 h2 => by rfl) (fun j h1 h2 => by rw [hfvy63 _ (by omega)]; rw [hfvy56 _ (by omega)]) pry1
      have hoky79 : okWorld cs ad gvy63 (890) := okWorld.mv (fun j j1 j2 => by rw [hfvy63 _ (by omega)]; rw [hfvy56 _ (by omega)]) lry1
      have hoky80 : okWorld cs ad gvy63 (900) := okWorld.mv (fun j j1 j2 => by rw [hfvy63 _ (by omega)]; rw [hfvy56 _ (by omega)]) mry1
      have hrecy81 : okRec cs ad gvy63 N (t) (fp) (im) (nz) (kz) (sl) (ho) (ua) (st) (op) (ai) (fa) (mu) (tb) (tp) := ⟨hgy69, bry1, cry1, hgy71, hpy72, hpy73, gry11, hry1, ⟨_, hkvy63⟩, ⟨_, hpy74⟩, hpy75, hoky79, hoky80, hpy76, hpy77, hpy78⟩
      exact z_iret C hr hlk dX9_pit_54 (by decide) (by decide) ⟨uy66t 5, rfl, rfl, rfl, by omega, hrecy81, fun j j1 j2 => by rw [hfvy63 _ (by omega)]; rw [hfvy56 _ (by omega)]⟩
    · refine z_aload_n C 0 dX9_pit_23 rfl ?_
      refine z_iconst (z := 1) C dX9_pit_24 rfl ?_
      have hrecy83 : okRec cs ad g N (t) (fp) (im) (nz) (kz) (sl) (ho) (ua) (st) (op) (ai) (fa) (mu) (tb) (tp) := ⟨ary1, bry1, cry1, dry1, ery1, fry1, gry11, hry1, ⟨_, iry1⟩, ⟨_, jry1⟩, kry1, lry1, mry1, nry1, ory1, pry1⟩
      refine z_cV (As := [.int (zI (1))]) (rest := []) (ci := 11) C (c_X9_refuse l D A cs tt N ad _ hN _ _ _ _ _ _ _ _ _ _ _ _ _ _ _ hrecy83 (1) (by omega)) (lt_K hN (rfl : Nat.blt (0) 952 = true)) hay2 ary1 rfl rfl mv_yX9_refuse q_408 hd_yX9_refuse (by decide) (Nat.le_of_ble_eq_true rfl) (by decide) dX9_pit_25 rfl (kI0 fun vy82 gvy82 hvy82 => ?_)
      obtain ⟨hrvy82, hkvy82, hfvy82⟩ := hvy82
      obtain ⟨ary84, bry84, cry84, dry84, ery84, fry84, gry841, hry84, ⟨acry84, iry84⟩, ⟨kcry84, jry84⟩, kry84, lry84, mry84, nry84, ory84, pry84⟩ := id hkvy82
      obtain ⟨thcy85, zhcy85, ohcy85, rhcy85, hzhcy85, hthcy85, hwhcy85⟩ := id lry84
      obtain ⟨thcy86, zhcy86, ohcy86, rhcy86, hzhcy86, hthcy86, hwhcy86⟩ := id mry84
      obtain ⟨asy87, bsy87, csy87, dsy87, esy87, ⟨ptsy87, fsy87, gsy871⟩, hsy87, ⟨nusy87, nvsy87, nwsy87, isy87, jsy87, ksy87, lsy87, msy87, nsy87⟩, rfsy87, osy87⟩ := id iry84
      obtain ⟨uy88t, uy88z, uy88o, uy88r, uy88z4, uy88t5, uy881, ⟨uy88u, uy882, uy883⟩, uy884⟩ := id csy87
      have hay89 : zAt ad (11 + 1) (ad (11 + 1)) := rfl
      have hay90 : zAt ad (11 + 1 + 1) (ad (11 + 1 + 1)) := rfl
      obtain ⟨sloy91, hooy91, uaoy91, stoy91, opoy91, aioy91, faoy91, muoy91, tboy91, hsloy91, hhooy91, hpoy91⟩ := id kry84
      have hrecy92 : okRec cs ad gvy82 N (t) (fp) (im) (nz) (kz) (sl) (ho) (ua) (st) (op) (ai) (fa) (mu) (tb) (tp) := ⟨ary84, bry84, cry84, dry84, ery84, fry84, gry841, hry84, ⟨_, iry84⟩, ⟨_, jry84⟩, kry84, lry84, mry84, nry84, ory84, pry84⟩
      exact z_iret C hr hlk dX9_pit_28 (by decide) (by decide) ⟨vy82, rfl, rfl, rfl, by omega, hrecy92, fun j j1 j2 => by rw [hfvy82 _ (by omega) (by omega)]⟩

set_option maxRecDepth 100000 in
set_option maxHeartbeats 4000000 in
theorem c_X9_undo (l : Launch) (D : va_G) (A : Nat → Prop) (cs : Nat → ClassId) (tt : Nat) (N : Nat) (ad : Nat → Nat) (g : Nat → va_E) (hN : 952 ≤ N) (t fp im nz kz sl ho ua : Int) (st op ai fa mu tb tp : Nat → Int) (hR : okRec cs ad g N t fp im nz kz sl ho ua st op ai fa mu tb tp)  : zM l yX9_undo cX9_undo 1 (some .int) ({ frames := 8, cells := 0, slots := 0, locals := 480 } : Room) D A cs tt N ad g [.ref (ad 0)] (rI0 N ad fun r g' => (-2147483648 ≤ r ∧ r ≤ 2147483647) ∧ okRec cs ad g' N t fp im nz kz sl ho ua st op ai fa mu tb tp ∧ oX g g') := by
  obtain ⟨ary1, bry1, cry1, dry1, ery1, fry1, gry11, hry1, ⟨acry1, iry1⟩, ⟨kcry1, jry1⟩, kry1, lry1, mry1, nry1, ory1, pry1⟩ := id hR
  have hay2 : zAt ad (0) (ad 0) := rfl
  have hay3 : zAt ad (1) (ad 1) := rfl
  have hay4 : zAt ad (2) (ad 2) := rfl
  have hay5 : zAt ad (4) (ad 4) := rfl
  have hay6 : zAt ad (11) (ad 11) := rfl
  have hay7 : zAt ad (447) (ad 447) := rfl
  have hay8 : zAt ad (883) (ad 883) := rfl
  have hay9 : zAt ad (890) (ad 890) := rfl
  have hay10 : zAt ad (900) (ad 900) := rfl
  have hay11 : zAt ad (910) (ad 910) := rfl
  have hay12 : zAt ad (917) (ad 917) := rfl
  have hay13 : zAt ad (919) (ad 919) := rfl
  have hay14 : zAt ad (4 + 1) (ad (4 + 1)) := rfl
  have hay15 : zAt ad (4 + 2) (ad (4 + 2)) := rfl
  have hay16 : zAt ad (4 + 3) (ad (4 + 3)) := rfl
  have hay17 : zAt ad (4 + 4) (ad (4 + 4)) := rfl
  have hay18 : zAt ad (4 + 5) (ad (4 + 5)) := rfl
  have hay19 : zAt ad (4 + 6) (ad (4 + 6)) := rfl
  obtain ⟨thcy20, zhcy20, ohcy20, rhcy20, hzhcy20, hthcy20, hwhcy20⟩ := id lry1
  obtain ⟨thcy21, zhcy21, ohcy21, rhcy21, hzhcy21, hthcy21, hwhcy21⟩ := id mry1
  obtain ⟨asy22, bsy22, csy22, dsy22, esy22, ⟨ptsy22, fsy22, gsy221⟩, hsy22, ⟨nusy22, nvsy22, nwsy22, isy22, jsy22, ksy22, lsy22, msy22, nsy22⟩, rfsy22, osy22⟩ := id iry1
  have hay23 : zAt ad (11 + 1) (ad (11 + 1)) := rfl
  have hay24 : zAt ad (11 + 11) (ad (11 + 11)) := rfl
  have hay25 : zAt ad (11 + 12) (ad (11 + 12)) := rfl
  have hay26 : zAt ad (11 + 13) (ad (11 + 13)) := rfl
  have hay27 : zAt ad (11 + 13 + 1) (ad (11 + 13 + 1)) := rfl
  have hay28 : zAt ad (11 + 13 + 2) (ad (11 + 13 + 2)) := rfl
  have hay29 : zAt ad (11 + 13 + 3) (ad (11 + 13 + 3)) := rfl
  have hay30 : zAt ad (11 + 17) (ad (11 + 17)) := rfl
  obtain ⟨uy31t, uy31z, uy31o, uy31r, uy31z4, uy31t5, uy311, ⟨uy31u, uy312, uy313⟩, uy314⟩ := id csy22
  have hay32 : zAt ad (11 + 1) (ad (11 + 1)) := rfl
  have hay33 : zAt ad (11 + 1 + 1) (ad (11 + 1 + 1)) := rfl
  obtain ⟨sloy34, hooy34, uaoy34, stoy34, opoy34, aioy34, faoy34, muoy34, tboy34, hsloy34, hhooy34, hpoy34⟩ := id kry1
  have hay35 : zAt ad (883 + 1) (ad (883 + 1)) := rfl
  have hay36 : zAt ad (883 + 2) (ad (883 + 2)) := rfl
  have hay37 : zAt ad (883 + 3) (ad (883 + 3)) := rfl
  have hay38 : zAt ad (883 + 4) (ad (883 + 4)) := rfl
  have hay39 : zAt ad (883 + 5) (ad (883 + 5)) := rfl
  have hay40 : zAt ad (883 + 6) (ad (883 + 6)) := rfl
  refine z_of (by decide) (Nat.le_of_ble_eq_true rfl) ?_
  intro p e s m below meth c C hr hlk hnm
  refine z_lv (lv' := [(0, .ref (ad 0))]) [0] rfl ?_
  refine z_aload_n C 0 dX9_undo_0 rfl ?_
  refine z_get (v := .ref (ad 11)) C (lt_K hN (rfl : Nat.blt (0) 952 = true)) hay2 ary1 rfl inA_X9 5 (by decide) q_354 rfl rfl dX9_undo_1 ?_
  refine z_get (v := .int (zI (acry1))) C (lt_K hN (rfl : Nat.blt (11) 952 = true)) hay6 iry1.1 rfl inA_X6 2 (by decide) q_261 rfl rfl dX9_undo_4 ?_
  refine z_if_ne (tgt := 12) C dX9_undo_7 (by decide) (by omega) (fun hby41 => ?_) (fun hby41 => ?_)
  · refine z_aload_n C 0 dX9_undo_12 rfl ?_
    refine z_get (v := .ref (ad 11)) C (lt_K hN (rfl : Nat.blt (0) 952 = true)) hay2 ary1 rfl inA_X9 5 (by decide) q_354 rfl rfl dX9_undo_13 ?_
    refine z_cV (As := []) (rest := []) (ci := 8) C (c_X6_takeBack l D A cs tt N ad _ 11 (by omega) _ _ iry1 (by omega)) (lt_K hN (rfl : Nat.blt (11) 952 = true)) hay6 iry1.1 rfl rfl mv_yX6_takeBack q_611 hd_yX6_takeBack (by decide) (Nat.le_of_ble_eq_true rfl) (by decide) dX9_undo_16 rfl (kV0 fun gvy42 hvy42 => ?_)
    obtain ⟨⟨acvy42, hkvy42, hevy42⟩, hfvy42⟩ := hvy42
    have hacqy43 := hkvy42.2.1
    obtain ⟨asy44, bsy44, csy44, dsy44, esy44, ⟨ptsy44, fsy44, gsy441⟩, hsy44, ⟨nusy44, nvsy44, nwsy44, isy44, jsy44, ksy44, lsy44, msy44, nsy44⟩, rfsy44, osy44⟩ := id hkvy42
    obtain ⟨uy45t, uy45z, uy45o, uy45r, uy45z4, uy45t5, uy451, ⟨uy45u, uy452, uy453⟩, uy454⟩ := id csy44
    have hay46 : zAt ad (11 + 1) (ad (11 + 1)) := rfl
    have hay47 : zAt ad (11 + 1 + 1) (ad (11 + 1 + 1)) := rfl
    refine z_aload_n C 0 dX9_undo_19 rfl ?_
    have hgy48 := (hfvy42 (0) (by omega)).trans ary1
    refine z_get (v := .ref (ad 11)) C (lt_K hN (rfl : Nat.blt (0) 952 = true)) hay2 hgy48 rfl inA_X9 5 (by decide) q_354 rfl rfl dX9_undo_20 ?_
    refine z_get (v := .int (zI (acvy42))) C (lt_K hN (rfl : Nat.blt (11) 952 = true)) hay6 hkvy42.1 rfl inA_X6 2 (by decide) q_261 rfl rfl dX9_undo_23 ?_
    have hgy49 := (hfvy42 (1) (by omega)).trans dry1
    have hpy50 := okRdr.mv (ad' := ad) (g' := gvy42) (fun j h1 h2 => by rfl) (fun j h1 h2 => by rw [hfvy42 _ (by omega)]) ery1
    have hpy51 := isPlan.mv (ad' := ad) (g' := gvy42) (fun j h1 h2 => by rfl) (fun j h1 h2 => by rw [hfvy42 _ (by omega)]) fry1
    have hpy52 := okState.mv (ad' := ad) (g' := gvy42) (fun j h1 h2 => by rfl) (fun j h1 h2 => by rw [hfvy42 _ (by omega)]) jry1
    have hpy53 := okPlan.mv (ad' := ad) (g' := gvy42) (fun j h1 h2 => by rfl) (fun j h1 h2 => by rw [hfvy42 _ (by omega)]) kry1
    have hpy54 := okGss.mv (ad' := ad) (g' := gvy42) (fun j h1 h2 => by rfl) (fun j h1 h2 => by rw [hfvy42 _ (by omega)]) nry1
    have hpy55 := okLike.mv (ad' := ad) (g' := gvy42) (fun j h1 h2 => by rfl) (fun j h1 h2 => by rw [hfvy42 _ (by omega)]) ory1
    have hpy56 := okBld.mv (ad' := ad) (g' := gvy42) (fun j h1 h2 => by rfl) (fun j h1 h2 => by rw [hfvy42 _ (by omega)]) pry1
    have hoky57 : okWorld cs ad gvy42 (890) := okWorld.mv (fun j j1 j2 => by rw [hfvy42 _ (by omega)]) lry1
    have hoky58 : okWorld cs ad gvy42 (900) := okWorld.mv (fun j j1 j2 => by rw [hfvy42 _ (by omega)]) mry1
    have hrecy59 : okRec cs ad gvy42 N (t) (fp) (im) (nz) (kz) (sl) (ho) (ua) (st) (op) (ai) (fa) (mu) (tb) (tp) := ⟨hgy48, bry1, cry1, hgy49, hpy50, hpy51, gry11, hry1, ⟨_, hkvy42⟩, ⟨_, hpy52⟩, hpy53, hoky57, hoky58, hpy54, hpy55, hpy56⟩
    exact z_iret C hr hlk dX9_undo_26 (by decide) (by decide) ⟨acvy42, rfl, rfl, rfl, by omega, hrecy59, fun j j1 j2 => by rw [hfvy42 _ (by omega)]⟩
  · refine z_iconst (z := -1) C dX9_undo_10 rfl ?_
    have hrecy60 : okRec cs ad g N (t) (fp) (im) (nz) (kz) (sl) (ho) (ua) (st) (op) (ai) (fa) (mu) (tb) (tp) := ⟨ary1, bry1, cry1, dry1, ery1, fry1, gry11, hry1, ⟨_, iry1⟩, ⟨_, jry1⟩, kry1, lry1, mry1, nry1, ory1, pry1⟩
    exact z_iret C hr hlk dX9_undo_11 (by decide) (by decide) ⟨-1, rfl, rfl, rfl, by omega, hrecy60, fun j j1 j2 => by rfl⟩

set_option maxRecDepth 100000 in
set_option maxHeartbeats 4000000 in
theorem c_X9_note (l : Launch) (D : va_G) (A : Nat → Prop) (cs : Nat → ClassId) (tt : Nat) (N : Nat) (ad : Nat → Nat) (g : Nat → va_E) (hN : 952 ≤ N) (t fp im nz kz sl ho ua : Int) (st op ai fa mu tb tp : Nat → Int) (hR : okRec cs ad g N t fp im nz kz sl ho ua st op ai fa mu tb tp) (z : Int) (hz : -2147483648 ≤ z ∧ z ≤ 2147483647) (z1 : Int) (hz1 : -2147483648 ≤ z1 ∧ z1 ≤ 2147483647) (z2 : Int) (hz2 : -2147483648 ≤ z2 ∧ z2 ≤ 2147483647) : zM l yX9_note cX9_note 5 (some .int) ({ frames := 8, cells := 0, slots := 0, locals := 480 } : Room) D A cs tt N ad g [.ref (ad 0), .int (zI (z)), .int (zI (z1)), .int (zI (z2))] (rI0 N ad fun r g' => (-2147483648 ≤ r ∧ r ≤ 2147483647) ∧ (∃ nz' : Int, (((0 ≤ z ∧ z < sl) ∧ (0 ≤ z1 ∧ z1 ≤ 48) ∧ (0 ≤ z2 ∧ z2 ≤ 9999) ∧ nz < 8 ∧ r = nz + 1 ∧ nz' = nz + 1) ∨ (¬ ((0 ≤ z ∧ z < sl) ∧ (0 ≤ z1 ∧ z1 ≤ 48) ∧ (0 ≤ z2 ∧ z2 ≤ 9999) ∧ nz < 8) ∧ r = -1 ∧ nz' = nz)) ∧ okRec cs ad g' N t fp im nz' kz sl ho ua st op ai fa mu tb tp) ∧ oX g g') := by
  obtain ⟨ary1, bry1, cry1, dry1, ery1, fry1, gry11, hry1, ⟨acry1, iry1⟩, ⟨kcry1, jry1⟩, kry1, lry1, mry1, nry1, ory1, pry1⟩ := id hR
  have hay2 : zAt ad (0) (ad 0) := rfl
  have hay3 : zAt ad (1) (ad 1) := rfl
  have hay4 : zAt ad (2) (ad 2) := rfl
  have hay5 : zAt ad (4) (ad 4) := rfl
  have hay6 : zAt ad (11) (ad 11) := rfl
  have hay7 : zAt ad (447) (ad 447) := rfl
  have hay8 : zAt ad (883) (ad 883) := rfl
  have hay9 : zAt ad (890) (ad 890) := rfl
  have hay10 : zAt ad (900) (ad 900) := rfl
  have hay11 : zAt ad (910) (ad 910) := rfl
  have hay12 : zAt ad (917) (ad 917) := rfl
  have hay13 : zAt ad (919) (ad 919) := rfl
  have hay14 : zAt ad (4 + 1) (ad (4 + 1)) := rfl
  have hay15 : zAt ad (4 + 2) (ad (4 + 2)) := rfl
  have hay16 : zAt ad (4 + 3) (ad (4 + 3)) := rfl
  have hay17 : zAt ad (4 + 4) (ad (4 + 4)) := rfl
  have hay18 : zAt ad (4 + 5) (ad (4 + 5)) := rfl
  have hay19 : zAt ad (4 + 6) (ad (4 + 6)) := rfl
  obtain ⟨thcy20, zhcy20, ohcy20, rhcy20, hzhcy20, hthcy20, hwhcy20⟩ := id lry1
  obtain ⟨thcy21, zhcy21, ohcy21, rhcy21, hzhcy21, hthcy21, hwhcy21⟩ := id mry1
  obtain ⟨asy22, bsy22, csy22, dsy22, esy22, ⟨ptsy22, fsy22, gsy221⟩, hsy22, ⟨nusy22, nvsy22, nwsy22, isy22, jsy22, ksy22, lsy22, msy22, nsy22⟩, rfsy22, osy22⟩ := id iry1
  have hay23 : zAt ad (11 + 1) (ad (11 + 1)) := rfl
  have hay24 : zAt ad (11 + 11) (ad (11 + 11)) := rfl
  have hay25 : zAt ad (11 + 12) (ad (11 + 12)) := rfl
  have hay26 : zAt ad (11 + 13) (ad (11 + 13)) := rfl
  have hay27 : zAt ad (11 + 13 + 1) (ad (11 + 13 + 1)) := rfl
  have hay28 : zAt ad (11 + 13 + 2) (ad (11 + 13 + 2)) := rfl
  have hay29 : zAt ad (11 + 13 + 3) (ad (11 + 13 + 3)) := rfl
  have hay30 : zAt ad (11 + 17) (ad (11 + 17)) := rfl
  obtain ⟨uy31t, uy31z, uy31o, uy31r, uy31z4, uy31t5, uy311, ⟨uy31u, uy312, uy313⟩, uy314⟩ := id csy22
  have hay32 : zAt ad (11 + 1) (ad (11 + 1)) := rfl
  have hay33 : zAt ad (11 + 1 + 1) (ad (11 + 1 + 1)) := rfl
  obtain ⟨sloy34, hooy34, uaoy34, stoy34, opoy34, aioy34, faoy34, muoy34, tboy34, hsloy34, hhooy34, hpoy34⟩ := id kry1
  have hay35 : zAt ad (883 + 1) (ad (883 + 1)) := rfl
  have hay36 : zAt ad (883 + 2) (ad (883 + 2)) := rfl
  have hay37 : zAt ad (883 + 3) (ad (883 + 3)) := rfl
  have hay38 : zAt ad (883 + 4) (ad (883 + 4)) := rfl
  have hay39 : zAt ad (883 + 5) (ad (883 + 5)) := rfl
  have hay40 : zAt ad (883 + 6) (ad (883 + 6)) := rfl
  refine z_of (by decide) (Nat.le_of_ble_eq_true rfl) ?_
  intro p e s m below meth c C hr hlk hnm
  refine z_lv (lv' := [(0, .ref (ad 0)), (1, .int (zI (z))), (2, .int (zI (z1))), (3, .int (zI (z2)))]) [0, 1, 2, 3] rfl ?_
  refine z_aload_n C 0 dX9_note_0 rfl ?_
  refine z_iload_n C 1 dX9_note_1 rfl ?_
  have hrecy42 : okRec cs ad g N (t) (fp) (im) (nz) (kz) (sl) (ho) (ua) (st) (op) (ai) (fa) (mu) (tb) (tp) := ⟨ary1, bry1, cry1, dry1, ery1, fry1, gry11, hry1, ⟨_, iry1⟩, ⟨_, jry1⟩, kry1, lry1, mry1, nry1, ory1, pry1⟩
  refine z_cV (As := [.int (zI (z))]) (rest := []) (ci := 11) C (c_X9_isSlope l D A cs tt N ad _ hN _ _ _ _ _ _ _ _ _ _ _ _ _ _ _ hrecy42 (z) (by omega)) (lt_K hN (rfl : Nat.blt (0) 952 = true)) hay2 ary1 rfl rfl mv_yX9_isSlope q_537 hd_yX9_isSlope (by decide) (Nat.le_of_ble_eq_true rfl) (by decide) dX9_note_2 rfl (kI0 fun vy41 gvy41 hvy41 => ?_)
  obtain ⟨hvy41, rfl⟩ := hvy41
  have hbvy41 : (vy41 = 1 ∧ 0 ≤ z ∧ z < sl) ∨ (vy41 = 0 ∧ ¬ (0 ≤ z ∧ z < sl)) := by rw [hvy41]; by_cases e9 : 0 ≤ z ∧ z < sl; (rw [if_pos e9]; exact Or.inl ⟨rfl, e9⟩); (rw [if_neg e9]; exact Or.inr ⟨rfl, e9⟩)
  refine z_if_eq (tgt := 33) C dX9_note_5 (by decide) (by omega) (fun hby43 => ?_) (fun hby43 => ?_)
  · refine z_iconst (z := 0) C dX9_note_33 rfl ?_
    refine z_istore (lv' := [(4, .int (zI (0))), (0, .ref (ad 0)), (1, .int (zI (z))), (2, .int (zI (z1))), (3, .int (zI (z2)))]) C dX9_note_34 (by decide) rfl ?_
    refine z_iload C 0 dX9_note_36 rfl ?_
    refine z_if_eq (tgt := 56) C dX9_note_38 (by decide) (by omega) (fun _ => ?_) (fun h => absurd h (by omega))
    refine z_aload_n C 1 dX9_note_56 rfl ?_
    refine z_iconst (z := 2) C dX9_note_57 rfl ?_
    have hrecy45 : okRec cs ad g N (t) (fp) (im) (nz) (kz) (sl) (ho) (ua) (st) (op) (ai) (fa) (mu) (tb) (tp) := ⟨ary1, bry1, cry1, dry1, ery1, fry1, gry11, hry1, ⟨_, iry1⟩, ⟨_, jry1⟩, kry1, lry1, mry1, nry1, ory1, pry1⟩
    refine z_cV (As := [.int (zI (2))]) (rest := []) (ci := 11) C (c_X9_refuse l D A cs tt N ad _ hN _ _ _ _ _ _ _ _ _ _ _ _ _ _ _ hrecy45 (2) (by omega)) (lt_K hN (rfl : Nat.blt (0) 952 = true)) hay2 ary1 rfl rfl mv_yX9_refuse q_408 hd_yX9_refuse (by decide) (Nat.le_of_ble_eq_true rfl) (by decide) dX9_note_58 rfl (kI0 fun vy44 gvy44 hvy44 => ?_)
    obtain ⟨hrvy44, hkvy44, hfvy44⟩ := hvy44
    obtain ⟨ary46, bry46, cry46, dry46, ery46, fry46, gry461, hry46, ⟨acry46, iry46⟩, ⟨kcry46, jry46⟩, kry46, lry46, mry46, nry46, ory46, pry46⟩ := id hkvy44
    obtain ⟨thcy47, zhcy47, ohcy47, rhcy47, hzhcy47, hthcy47, hwhcy47⟩ := id lry46
    obtain ⟨thcy48, zhcy48, ohcy48, rhcy48, hzhcy48, hthcy48, hwhcy48⟩ := id mry46
    obtain ⟨asy49, bsy49, csy49, dsy49, esy49, ⟨ptsy49, fsy49, gsy491⟩, hsy49, ⟨nusy49, nvsy49, nwsy49, isy49, jsy49, ksy49, lsy49, msy49, nsy49⟩, rfsy49, osy49⟩ := id iry46
    obtain ⟨uy50t, uy50z, uy50o, uy50r, uy50z4, uy50t5, uy501, ⟨uy50u, uy502, uy503⟩, uy504⟩ := id csy49
    have hay51 : zAt ad (11 + 1) (ad (11 + 1)) := rfl
    have hay52 : zAt ad (11 + 1 + 1) (ad (11 + 1 + 1)) := rfl
    obtain ⟨sloy53, hooy53, uaoy53, stoy53, opoy53, aioy53, faoy53, muoy53, tboy53, hsloy53, hhooy53, hpoy53⟩ := id kry46
    have hrecy54 : okRec cs ad gvy44 N (t) (fp) (im) (nz) (kz) (sl) (ho) (ua) (st) (op) (ai) (fa) (mu) (tb) (tp) := ⟨ary46, bry46, cry46, dry46, ery46, fry46, gry461, hry46, ⟨_, iry46⟩, ⟨_, jry46⟩, kry46, lry46, mry46, nry46, ory46, pry46⟩
    exact z_iret C hr hlk dX9_note_61 (by decide) (by decide) ⟨vy44, rfl, rfl, rfl, by omega, ⟨_, by omega, hrecy54⟩, fun j j1 j2 => by rw [hfvy44 _ (by omega) (by omega)]⟩
  · refine z_iload_n C 2 dX9_note_8 rfl ?_
    refine z_if_lt (tgt := 33) C dX9_note_9 (by decide) (by omega) (fun hby55 => ?_) (fun hby55 => ?_)
    · refine z_iconst (z := 0) C dX9_note_33 rfl ?_
      refine z_istore (lv' := [(4, .int (zI (0))), (0, .ref (ad 0)), (1, .int (zI (z))), (2, .int (zI (z1))), (3, .int (zI (z2)))]) C dX9_note_34 (by decide) rfl ?_
      refine z_iload C 0 dX9_note_36 rfl ?_
      refine z_if_eq (tgt := 56) C dX9_note_38 (by decide) (by omega) (fun _ => ?_) (fun h => absurd h (by omega))
      refine z_aload_n C 1 dX9_note_56 rfl ?_
      refine z_iconst (z := 2) C dX9_note_57 rfl ?_
      have hrecy57 : okRec cs ad g N (t) (fp) (im) (nz) (kz) (sl) (ho) (ua) (st) (op) (ai) (fa) (mu) (tb) (tp) := ⟨ary1, bry1, cry1, dry1, ery1, fry1, gry11, hry1, ⟨_, iry1⟩, ⟨_, jry1⟩, kry1, lry1, mry1, nry1, ory1, pry1⟩
      refine z_cV (As := [.int (zI (2))]) (rest := []) (ci := 11) C (c_X9_refuse l D A cs tt N ad _ hN _ _ _ _ _ _ _ _ _ _ _ _ _ _ _ hrecy57 (2) (by omega)) (lt_K hN (rfl : Nat.blt (0) 952 = true)) hay2 ary1 rfl rfl mv_yX9_refuse q_408 hd_yX9_refuse (by decide) (Nat.le_of_ble_eq_true rfl) (by decide) dX9_note_58 rfl (kI0 fun vy56 gvy56 hvy56 => ?_)
      obtain ⟨hrvy56, hkvy56, hfvy56⟩ := hvy56
      obtain ⟨ary58, bry58, cry58, dry58, ery58, fry58, gry581, hry58, ⟨acry58, iry58⟩, ⟨kcry58, jry58⟩, kry58, lry58, mry58, nry58, ory58, pry58⟩ := id hkvy56
      obtain ⟨thcy59, zhcy59, ohcy59, rhcy59, hzhcy59, hthcy59, hwhcy59⟩ := id lry58
      obtain ⟨thcy60, zhcy60, ohcy60, rhcy60, hzhcy60, hthcy60, hwhcy60⟩ := id mry58
      obtain ⟨asy61, bsy61, csy61, dsy61, esy61, ⟨ptsy61, fsy61, gsy611⟩, hsy61, ⟨nusy61, nvsy61, nwsy61, isy61, jsy61, ksy61, lsy61, msy61, nsy61⟩, rfsy61, osy61⟩ := id iry58
      obtain ⟨uy62t, uy62z, uy62o, uy62r, uy62z4, uy62t5, uy621, ⟨uy62u, uy622, uy623⟩, uy624⟩ := id csy61
      have hay63 : zAt ad (11 + 1) (ad (11 + 1)) := rfl
      have hay64 : zAt ad (11 + 1 + 1) (ad (11 + 1 + 1)) := rfl
      obtain ⟨sloy65, hooy65, uaoy65, stoy65, opoy65, aioy65, faoy65, muoy65, tboy65, hsloy65, hhooy65, hpoy65⟩ := id kry58
      have hrecy66 : okRec cs ad gvy56 N (t) (fp) (im) (nz) (kz) (sl) (ho) (ua) (st) (op) (ai) (fa) (mu) (tb) (tp) := ⟨ary58, bry58, cry58, dry58, ery58, fry58, gry581, hry58, ⟨_, iry58⟩, ⟨_, jry58⟩, kry58, lry58, mry58, nry58, ory58, pry58⟩
      exact z_iret C hr hlk dX9_note_61 (by decide) (by decide) ⟨vy56, rfl, rfl, rfl, by omega, ⟨_, by omega, hrecy66⟩, fun j j1 j2 => by rw [hfvy56 _ (by omega) (by omega)]⟩
    · refine z_iload_n C 2 dX9_note_12 rfl ?_
      refine z_bipush (z := 48) C dX9_note_13 (by decide) ?_
      refine z_icmp_gt (tgt := 33) C dX9_note_15 (by decide) (by omega) (by omega) (fun hby67 => ?_) (fun hby67 => ?_)
      · refine z_iconst (z := 0) C dX9_note_33 rfl ?_
        refine z_istore (lv' := [(4, .int (zI (0))), (0, .ref (ad 0)), (1, .int (zI (z))), (2, .int (zI (z1))), (3, .int (zI (z2)))]) C dX9_note_34 (by decide) rfl ?_
        refine z_iload C 0 dX9_note_36 rfl ?_
        refine z_if_eq (tgt := 56) C dX9_note_38 (by decide) (by omega) (fun _ => ?_) (fun h => absurd h (by omega))
        refine z_aload_n C 1 dX9_note_56 rfl ?_
        refine z_iconst (z := 2) C dX9_note_57 rfl ?_
        have hrecy69 : okRec cs ad g N (t) (fp) (im) (nz) (kz) (sl) (ho) (ua) (st) (op) (ai) (fa) (mu) (tb) (tp) := ⟨ary1, bry1, cry1, dry1, ery1, fry1, gry11, hry1, ⟨_, iry1⟩, ⟨_, jry1⟩, kry1, lry1, mry1, nry1, ory1, pry1⟩
        refine z_cV (As := [.int (zI (2))]) (rest := []) (ci := 11) C (c_X9_refuse l D A cs tt N ad _ hN _ _ _ _ _ _ _ _ _ _ _ _ _ _ _ hrecy69 (2) (by omega)) (lt_K hN (rfl : Nat.blt (0) 952 = true)) hay2 ary1 rfl rfl mv_yX9_refuse q_408 hd_yX9_refuse (by decide) (Nat.le_of_ble_eq_true rfl) (by decide) dX9_note_58 rfl (kI0 fun vy68 gvy68 hvy68 => ?_)
        obtain ⟨hrvy68, hkvy68, hfvy68⟩ := hvy68
        obtain ⟨ary70, bry70, cry70, dry70, ery70, fry70, gry701, hry70, ⟨acry70, iry70⟩, ⟨kcry70, jry70⟩, kry70, lry70, mry70, nry70, ory70, pry70⟩ := id hkvy68
        obtain ⟨thcy71, zhcy71, ohcy71, rhcy71, hzhcy71, hthcy71, hwhcy71⟩ := id lry70
        obtain ⟨thcy72, zhcy72, ohcy72, rhcy72, hzhcy72, hthcy72, hwhcy72⟩ := id mry70
        obtain ⟨asy73, bsy73, csy73, dsy73, esy73, ⟨ptsy73, fsy73, gsy731⟩, hsy73, ⟨nusy73, nvsy73, nwsy73, isy73, jsy73, ksy73, lsy73, msy73, nsy73⟩, rfsy73, osy73⟩ := id iry70
        obtain ⟨uy74t, uy74z, uy74o, uy74r, uy74z4, uy74t5, uy741, ⟨uy74u, uy742, uy743⟩, uy744⟩ := id csy73
        have hay75 : zAt ad (11 + 1) (ad (11 + 1)) := rfl
        have hay76 : zAt ad (11 + 1 + 1) (ad (11 + 1 + 1)) := rfl
        obtain ⟨sloy77, hooy77, uaoy77, stoy77, opoy77, aioy77, faoy77, muoy77, tboy77, hsloy77, hhooy77, hpoy77⟩ := id kry70
        have hrecy78 : okRec cs ad gvy68 N (t) (fp) (im) (nz) (kz) (sl) (ho) (ua) (st) (op) (ai) (fa) (mu) (tb) (tp) := ⟨ary70, bry70, cry70, dry70, ery70, fry70, gry701, hry70, ⟨_, iry70⟩, ⟨_, jry70⟩, kry70, lry70, mry70, nry70, ory70, pry70⟩
        exact z_iret C hr hlk dX9_note_61 (by decide) (by decide) ⟨vy68, rfl, rfl, rfl, by omega, ⟨_, by omega, hrecy78⟩, fun j j1 j2 => by rw [hfvy68 _ (by omega) (by omega)]⟩
      · refine z_iload_n C 3 dX9_note_18 rfl ?_
        refine z_if_lt (tgt := 33) C dX9_note_19 (by decide) (by omega) (fun hby79 => ?_) (fun hby79 => ?_)
        · refine z_iconst (z := 0) C dX9_note_33 rfl ?_
          refine z_istore (lv' := [(4, .int (zI (0))), (0, .ref (ad 0)), (1, .int (zI (z))), (2, .int (zI (z1))), (3, .int (zI (z2)))]) C dX9_note_34 (by decide) rfl ?_
          refine z_iload C 0 dX9_note_36 rfl ?_
          refine z_if_eq (tgt := 56) C dX9_note_38 (by decide) (by omega) (fun _ => ?_) (fun h => absurd h (by omega))
          refine z_aload_n C 1 dX9_note_56 rfl ?_
          refine z_iconst (z := 2) C dX9_note_57 rfl ?_
          have hrecy81 : okRec cs ad g N (t) (fp) (im) (nz) (kz) (sl) (ho) (ua) (st) (op) (ai) (fa) (mu) (tb) (tp) := ⟨ary1, bry1, cry1, dry1, ery1, fry1, gry11, hry1, ⟨_, iry1⟩, ⟨_, jry1⟩, kry1, lry1, mry1, nry1, ory1, pry1⟩
          refine z_cV (As := [.int (zI (2))]) (rest := []) (ci := 11) C (c_X9_refuse l D A cs tt N ad _ hN _ _ _ _ _ _ _ _ _ _ _ _ _ _ _ hrecy81 (2) (by omega)) (lt_K hN (rfl : Nat.blt (0) 952 = true)) hay2 ary1 rfl rfl mv_yX9_refuse q_408 hd_yX9_refuse (by decide) (Nat.le_of_ble_eq_true rfl) (by decide) dX9_note_58 rfl (kI0 fun vy80 gvy80 hvy80 => ?_)
          obtain ⟨hrvy80, hkvy80, hfvy80⟩ := hvy80
          obtain ⟨ary82, bry82, cry82, dry82, ery82, fry82, gry821, hry82, ⟨acry82, iry82⟩, ⟨kcry82, jry82⟩, kry82, lry82, mry82, nry82, ory82, pry82⟩ := id hkvy80
          obtain ⟨thcy83, zhcy83, ohcy83, rhcy83, hzhcy83, hthcy83, hwhcy83⟩ := id lry82
          obtain ⟨thcy84, zhcy84, ohcy84, rhcy84, hzhcy84, hthcy84, hwhcy84⟩ := id mry82
          obtain ⟨asy85, bsy85, csy85, dsy85, esy85, ⟨ptsy85, fsy85, gsy851⟩, hsy85, ⟨nusy85, nvsy85, nwsy85, isy85, jsy85, ksy85, lsy85, msy85, nsy85⟩, rfsy85, osy85⟩ := id iry82
          obtain ⟨uy86t, uy86z, uy86o, uy86r, uy86z4, uy86t5, uy861, ⟨uy86u, uy862, uy863⟩, uy864⟩ := id csy85
          have hay87 : zAt ad (11 + 1) (ad (11 + 1)) := rfl
          have hay88 : zAt ad (11 + 1 + 1) (ad (11 + 1 + 1)) := rfl
          obtain ⟨sloy89, hooy89, uaoy89, stoy89, opoy89, aioy89, faoy89, muoy89, tboy89, hsloy89, hhooy89, hpoy89⟩ := id kry82
          have hrecy90 : okRec cs ad gvy80 N (t) (fp) (im) (nz) (kz) (sl) (ho) (ua) (st) (op) (ai) (fa) (mu) (tb) (tp) := ⟨ary82, bry82, cry82, dry82, ery82, fry82, gry821, hry82, ⟨_, iry82⟩, ⟨_, jry82⟩, kry82, lry82, mry82, nry82, ory82, pry82⟩
          exact z_iret C hr hlk dX9_note_61 (by decide) (by decide) ⟨vy80, rfl, rfl, rfl, by omega, ⟨_, by omega, hrecy90⟩, fun j j1 j2 => by rw [hfvy80 _ (by omega) (by omega)]⟩
        · refine z_iload_n C 3 dX9_note_22 rfl ?_
          refine z_sipush (z := 9999) C dX9_note_23 (by decide) ?_
          refine z_icmp_gt (tgt := 33) C dX9_note_26 (by decide) (by omega) (by omega) (fun hby91 => ?_) (fun hby91 => ?_)
          · refine z_iconst (z := 0) C dX9_note_33 rfl ?_
            refine z_istore (lv' := [(4, .int (zI (0))), (0, .ref (ad 0)), (1, .int (zI (z))), (2, .int (zI (z1))), (3, .int (zI (z2)))]) C dX9_note_34 (by decide) rfl ?_
            refine z_iload C 0 dX9_note_36 rfl ?_
            refine z_if_eq (tgt := 56) C dX9_note_38 (by decide) (by omega) (fun _ => ?_) (fun h => absurd h (by omega))
            refine z_aload_n C 1 dX9_note_56 rfl ?_
            refine z_iconst (z := 2) C dX9_note_57 rfl ?_
            have hrecy93 : okRec cs ad g N (t) (fp) (im) (nz) (kz) (sl) (ho) (ua) (st) (op) (ai) (fa) (mu) (tb) (tp) := ⟨ary1, bry1, cry1, dry1, ery1, fry1, gry11, hry1, ⟨_, iry1⟩, ⟨_, jry1⟩, kry1, lry1, mry1, nry1, ory1, pry1⟩
            refine z_cV (As := [.int (zI (2))]) (rest := []) (ci := 11) C (c_X9_refuse l D A cs tt N ad _ hN _ _ _ _ _ _ _ _ _ _ _ _ _ _ _ hrecy93 (2) (by omega)) (lt_K hN (rfl : Nat.blt (0) 952 = true)) hay2 ary1 rfl rfl mv_yX9_refuse q_408 hd_yX9_refuse (by decide) (Nat.le_of_ble_eq_true rfl) (by decide) dX9_note_58 rfl (kI0 fun vy92 gvy92 hvy92 => ?_)
            obtain ⟨hrvy92, hkvy92, hfvy92⟩ := hvy92
            obtain ⟨ary94, bry94, cry94, dry94, ery94, fry94, gry941, hry94, ⟨acry94, iry94⟩, ⟨kcry94, jry94⟩, kry94, lry94, mry94, nry94, ory94, pry94⟩ := id hkvy92
            obtain ⟨thcy95, zhcy95, ohcy95, rhcy95, hzhcy95, hthcy95, hwhcy95⟩ := id lry94
            obtain ⟨thcy96, zhcy96, ohcy96, rhcy96, hzhcy96, hthcy96, hwhcy96⟩ := id mry94
            obtain ⟨asy97, bsy97, csy97, dsy97, esy97, ⟨ptsy97, fsy97, gsy971⟩, hsy97, ⟨nusy97, nvsy97, nwsy97, isy97, jsy97, ksy97, lsy97, msy97, nsy97⟩, rfsy97, osy97⟩ := id iry94
            obtain ⟨uy98t, uy98z, uy98o, uy98r, uy98z4, uy98t5, uy981, ⟨uy98u, uy982, uy983⟩, uy984⟩ := id csy97
            have hay99 : zAt ad (11 + 1) (ad (11 + 1)) := rfl
            have hay100 : zAt ad (11 + 1 + 1) (ad (11 + 1 + 1)) := rfl
            obtain ⟨sloy101, hooy101, uaoy101, stoy101, opoy101, aioy101, faoy101, muoy101, tboy101, hsloy101, hhooy101, hpoy101⟩ := id kry94
            have hrecy102 : okRec cs ad gvy92 N (t) (fp) (im) (nz) (kz) (sl) (ho) (ua) (st) (op) (ai) (fa) (mu) (tb) (tp) := ⟨ary94, bry94, cry94, dry94, ery94, fry94, gry941, hry94, ⟨_, iry94⟩, ⟨_, jry94⟩, kry94, lry94, mry94, nry94, ory94, pry94⟩
            exact z_iret C hr hlk dX9_note_61 (by decide) (by decide) ⟨vy92, rfl, rfl, rfl, by omega, ⟨_, by omega, hrecy102⟩, fun j j1 j2 => by rw [hfvy92 _ (by omega) (by omega)]⟩
          · refine z_iconst (z := 1) C dX9_note_29 rfl ?_
            refine z_goto (tgt := 34) C dX9_note_30 (by decide) ?_
            refine z_istore (lv' := [(4, .int (zI (1))), (0, .ref (ad 0)), (1, .int (zI (z))), (2, .int (zI (z1))), (3, .int (zI (z2)))]) C dX9_note_34 (by decide) rfl ?_
            refine z_iload C 0 dX9_note_36 rfl ?_
            refine z_if_eq (tgt := 56) C dX9_note_38 (by decide) (by omega) (fun h => absurd h (by omega)) (fun _ => ?_)
            refine z_aload_n C 1 dX9_note_41 rfl ?_
            refine z_get (v := .ref (ad 11)) C (lt_K hN (rfl : Nat.blt (0) 952 = true)) hay2 ary1 rfl inA_X9 5 (by decide) q_354 rfl rfl dX9_note_42 ?_
            refine z_get (v := .ref (ad (11 + 13))) C (lt_K hN (rfl : Nat.blt (11) 952 = true)) hay6 iry1.1 rfl inA_X6 4 (by decide) q_265 rfl rfl dX9_note_45 ?_
            refine z_get (v := .int (zI (nz))) C (lt_K hN (rfl : Nat.blt (11 + 13) 952 = true)) hay26 ksy22 rfl inA_X2 0 (by decide) q_218 rfl rfl dX9_note_48 ?_
            refine z_bipush (z := 8) C dX9_note_51 (by decide) ?_
            refine z_icmp_lt (tgt := 62) C dX9_note_53 (by decide) (by omega) (by omega) (fun hby103 => ?_) (fun hby103 => ?_)
            · refine z_aload_n C 1 dX9_note_62 rfl ?_
              refine z_get (v := .ref (ad 11)) C (lt_K hN (rfl : Nat.blt (0) 952 = true)) hay2 ary1 rfl inA_X9 5 (by decide) q_354 rfl rfl dX9_note_63 ?_
              refine z_get (v := .ref (ad (11 + 13))) C (lt_K hN (rfl : Nat.blt (11) 952 = true)) hay6 iry1.1 rfl inA_X6 4 (by decide) q_265 rfl rfl dX9_note_66 ?_
              refine z_iload_n C 2 dX9_note_69 rfl ?_
              refine z_iload_n C 3 dX9_note_70 rfl ?_
              refine z_iload_n C 4 dX9_note_71 rfl ?_
              refine z_cV (As := [.int (zI (z)), .int (zI (z1)), .int (zI (z2))]) (rest := []) (ci := 4) C (c_X2_add l D A cs tt N ad _ (11 + 13) (by omega) _ ⟨nusy22, nvsy22, nwsy22, isy22, jsy22, ksy22, lsy22, msy22, nsy22⟩ (z) (by omega) (z1) (by omega) (z2) (by omega)) (lt_K hN (rfl : Nat.blt (11 + 13) 952 = true)) hay26 ksy22 rfl rfl mv_yX2_add q_619 hd_yX2_add (by decide) (Nat.le_of_ble_eq_true rfl) (by decide) dX9_note_72 rfl (kV0 fun gvy104 hvy104 => ?_)
              obtain ⟨hkvy104, hfvy104⟩ := hvy104
              rw [if_pos (show nz < 8 by omega)] at hkvy104
              have hsvy104 : okState cs ad gvy104 11 acry1 (nz + 1) := okState.notes iry1 hfvy104 hkvy104
              have hacqy105 := hsvy104.2.1
              obtain ⟨asy106, bsy106, csy106, dsy106, esy106, ⟨ptsy106, fsy106, gsy1061⟩, hsy106, ⟨nusy106, nvsy106, nwsy106, isy106, jsy106, ksy106, lsy106, msy106, nsy106⟩, rfsy106, osy106⟩ := id hsvy104
              obtain ⟨uy107t, uy107z, uy107o, uy107r, uy107z4, uy107t5, uy1071, ⟨uy107u, uy1072, uy1073⟩, uy1074⟩ := id csy106
              have hay108 : zAt ad (11 + 1) (ad (11 + 1)) := rfl
              have hay109 : zAt ad (11 + 1 + 1) (ad (11 + 1 + 1)) := rfl
              refine z_aload_n C 1 dX9_note_75 rfl ?_
              have hgy110 := (hfvy104 (0) (by omega)).trans ary1
              refine z_get (v := .ref (ad 11)) C (lt_K hN (rfl : Nat.blt (0) 952 = true)) hay2 hgy110 rfl inA_X9 5 (by decide) q_354 rfl rfl dX9_note_76 ?_
              refine z_get (v := .ref (ad (11 + 13))) C (lt_K hN (rfl : Nat.blt (11) 952 = true)) hay6 hsvy104.1 rfl inA_X6 4 (by decide) q_265 rfl rfl dX9_note_79 ?_
              refine z_get (v := .int (zI (nz + 1))) C (lt_K hN (rfl : Nat.blt (11 + 13) 952 = true)) hay26 ksy106 rfl inA_X2 0 (by decide) q_218 rfl rfl dX9_note_82 ?_
              have hgy111 := (hfvy104 (1) (by omega)).trans dry1
              have hpy112 := okRdr.mv (ad' := ad) (g' := gvy104) (fun j h1 h2 => by rfl) (fun j h1 h2 => by rw [hfvy104 _ (by omega)]) ery1
              have hpy113 := isPlan.mv (ad' := ad) (g' := gvy104) (fun j h1 h2 => by rfl) (fun j h1 h2 => by rw [hfvy104 _ (by omega)]) fry1
              have hpy114 := okState.mv (ad' := ad) (g' := gvy104) (fun j h1 h2 => by rfl) (fun j h1 h2 => by rw [hfvy104 _ (by omega)]) jry1
              have hpy115 := okPlan.mv (ad' := ad) (g' := gvy104) (fun j h1 h2 => by rfl) (fun j h1 h2 => by rw [hfvy104 _ (by omega)]) kry1
              have hpy116 := okGss.mv (ad' := ad) (g' := gvy104) (fun j h1 h2 => by rfl) (fun j h1 h2 => by rw [hfvy104 _ (by omega)]) nry1
              have hpy117 := okLike.mv (ad' := ad) (g' := gvy104) (fun j h1 h2 => by rfl) (fun j h1 h2 => by rw [hfvy104 _ (by omega)]) ory1
              have hpy118 := okBld.mv (ad' := ad) (g' := gvy104) (fun j h1 h2 => by rfl) (fun j h1 h2 => by rw [hfvy104 _ (by omega)]) pry1
              have hoky119 : okWorld cs ad gvy104 (890) := okWorld.mv (fun j j1 j2 => by rw [hfvy104 _ (by omega)]) lry1
              have hoky120 : okWorld cs ad gvy104 (900) := okWorld.mv (fun j j1 j2 => by rw [hfvy104 _ (by omega)]) mry1
              have hrecy121 : okRec cs ad gvy104 N (t) (fp) (im) (nz + 1) (kz) (sl) (ho) (ua) (st) (op) (ai) (fa) (mu) (tb) (tp) := ⟨hgy110, bry1, cry1, hgy111, hpy112, hpy113, gry11, hry1, ⟨_, hsvy104⟩, ⟨_, hpy114⟩, hpy115, hoky119, hoky120, hpy116, hpy117, hpy118⟩
              exact z_iret C hr hlk dX9_note_85 (by decide) (by decide) ⟨nz + 1, rfl, rfl, rfl, by omega, ⟨_, by omega, hrecy121⟩, fun j j1 j2 => by rw [hfvy104 _ (by omega)]⟩
            · refine z_aload_n C 1 dX9_note_56 rfl ?_
              refine z_iconst (z := 2) C dX9_note_57 rfl ?_
              have hrecy123 : okRec cs ad g N (t) (fp) (im) (nz) (kz) (sl) (ho) (ua) (st) (op) (ai) (fa) (mu) (tb) (tp) := ⟨ary1, bry1, cry1, dry1, ery1, fry1, gry11, hry1, ⟨_, iry1⟩, ⟨_, jry1⟩, kry1, lry1, mry1, nry1, ory1, pry1⟩
              refine z_cV (As := [.int (zI (2))]) (rest := []) (ci := 11) C (c_X9_refuse l D A cs tt N ad _ hN _ _ _ _ _ _ _ _ _ _ _ _ _ _ _ hrecy123 (2) (by omega)) (lt_K hN (rfl : Nat.blt (0) 952 = true)) hay2 ary1 rfl rfl mv_yX9_refuse q_408 hd_yX9_refuse (by decide) (Nat.le_of_ble_eq_true rfl) (by decide) dX9_note_58 rfl (kI0 fun vy122 gvy122 hvy122 => ?_)
              obtain ⟨hrvy122, hkvy122, hfvy122⟩ := hvy122
              obtain ⟨ary124, bry124, cry124, dry124, ery124, fry124, gry1241, hry124, ⟨acry124, iry124⟩, ⟨kcry124, jry124⟩, kry124, lry124, mry124, nry124, ory124, pry124⟩ := id hkvy122
              obtain ⟨thcy125, zhcy125, ohcy125, rhcy125, hzhcy125, hthcy125, hwhcy125⟩ := id lry124
              obtain ⟨thcy126, zhcy126, ohcy126, rhcy126, hzhcy126, hthcy126, hwhcy126⟩ := id mry124
              obtain ⟨asy127, bsy127, csy127, dsy127, esy127, ⟨ptsy127, fsy127, gsy1271⟩, hsy127, ⟨nusy127, nvsy127, nwsy127, isy127, jsy127, ksy127, lsy127, msy127, nsy127⟩, rfsy127, osy127⟩ := id iry124
              obtain ⟨uy128t, uy128z, uy128o, uy128r, uy128z4, uy128t5, uy1281, ⟨uy128u, uy1282, uy1283⟩, uy1284⟩ := id csy127
              have hay129 : zAt ad (11 + 1) (ad (11 + 1)) := rfl
              have hay130 : zAt ad (11 + 1 + 1) (ad (11 + 1 + 1)) := rfl
              obtain ⟨sloy131, hooy131, uaoy131, stoy131, opoy131, aioy131, faoy131, muoy131, tboy131, hsloy131, hhooy131, hpoy131⟩ := id kry124
              have hrecy132 : okRec cs ad gvy122 N (t) (fp) (im) (nz) (kz) (sl) (ho) (ua) (st) (op) (ai) (fa) (mu) (tb) (tp) := ⟨ary124, bry124, cry124, dry124, ery124, fry124, gry1241, hry124, ⟨_, iry124⟩, ⟨_, jry124⟩, kry124, lry124, mry124, nry124, ory124, pry124⟩
              exact z_iret C hr hlk dX9_note_61 (by decide) (by decide) ⟨vy122, rfl, rfl, rfl, by omega, ⟨_, by omega, hrecy132⟩, fun j j1 j2 => by rw [hfvy122 _ (by omega) (by omega)]⟩

set_option maxRecDepth 100000 in
set_option maxHeartbeats 4000000 in
theorem c_X9_forget (l : Launch) (D : va_G) (A : Nat → Prop) (cs : Nat → ClassId) (tt : Nat) (N : Nat) (ad : Nat → Nat) (g : Nat → va_E) (hN : 952 ≤ N) (t fp im nz kz sl ho ua : Int) (st op ai fa mu tb tp : Nat → Int) (hR : okRec cs ad g N t fp im nz kz sl ho ua st op ai fa mu tb tp) : zM l yX9_forget cX9_forget 1 none ({ frames := 8, cells := 0, slots := 0, locals := 480 } : Room) D A cs tt N ad g [.ref (ad 0)] (rV0 N ad fun g' => (∃ nz' : Int, (nz' = 0) ∧ okRec cs ad g' N t fp im nz' kz sl ho ua st op ai fa mu tb tp) ∧ oX g g') := by
  obtain ⟨ary1, bry1, cry1, dry1, ery1, fry1, gry11, hry1, ⟨acry1, iry1⟩, ⟨kcry1, jry1⟩, kry1, lry1, mry1, nry1, ory1, pry1⟩ := id hR
  have hay2 : zAt ad (0) (ad 0) := rfl
  have hay3 : zAt ad (1) (ad 1) := rfl
  have hay4 : zAt ad (2) (ad 2) := rfl
  have hay5 : zAt ad (4) (ad 4) := rfl
  have hay6 : zAt ad (11) (ad 11) := rfl
  have hay7 : zAt ad (447) (ad 447) := rfl
  have hay8 : zAt ad (883) (ad 883) := rfl
  have hay9 : zAt ad (890) (ad 890) := rfl
  have hay10 : zAt ad (900) (ad 900) := rfl
  have hay11 : zAt ad (910) (ad 910) := rfl
  have hay12 : zAt ad (917) (ad 917) := rfl
  have hay13 : zAt ad (919) (ad 919) := rfl
  have hay14 : zAt ad (4 + 1) (ad (4 + 1)) := rfl
  have hay15 : zAt ad (4 + 2) (ad (4 + 2)) := rfl
  have hay16 : zAt ad (4 + 3) (ad (4 + 3)) := rfl
  have hay17 : zAt ad (4 + 4) (ad (4 + 4)) := rfl
  have hay18 : zAt ad (4 + 5) (ad (4 + 5)) := rfl
  have hay19 : zAt ad (4 + 6) (ad (4 + 6)) := rfl
  obtain ⟨thcy20, zhcy20, ohcy20, rhcy20, hzhcy20, hthcy20, hwhcy20⟩ := id lry1
  obtain ⟨thcy21, zhcy21, ohcy21, rhcy21, hzhcy21, hthcy21, hwhcy21⟩ := id mry1
  obtain ⟨asy22, bsy22, csy22, dsy22, esy22, ⟨ptsy22, fsy22, gsy221⟩, hsy22, ⟨nusy22, nvsy22, nwsy22, isy22, jsy22, ksy22, lsy22, msy22, nsy22⟩, rfsy22, osy22⟩ := id iry1
  have hay23 : zAt ad (11 + 1) (ad (11 + 1)) := rfl
  have hay24 : zAt ad (11 + 11) (ad (11 + 11)) := rfl
  have hay25 : zAt ad (11 + 12) (ad (11 + 12)) := rfl
  have hay26 : zAt ad (11 + 13) (ad (11 + 13)) := rfl
  have hay27 : zAt ad (11 + 13 + 1) (ad (11 + 13 + 1)) := rfl
  have hay28 : zAt ad (11 + 13 + 2) (ad (11 + 13 + 2)) := rfl
  have hay29 : zAt ad (11 + 13 + 3) (ad (11 + 13 + 3)) := rfl
  have hay30 : zAt ad (11 + 17) (ad (11 + 17)) := rfl
  obtain ⟨uy31t, uy31z, uy31o, uy31r, uy31z4, uy31t5, uy311, ⟨uy31u, uy312, uy313⟩, uy314⟩ := id csy22
  have hay32 : zAt ad (11 + 1) (ad (11 + 1)) := rfl
  have hay33 : zAt ad (11 + 1 + 1) (ad (11 + 1 + 1)) := rfl
  obtain ⟨sloy34, hooy34, uaoy34, stoy34, opoy34, aioy34, faoy34, muoy34, tboy34, hsloy34, hhooy34, hpoy34⟩ := id kry1
  have hay35 : zAt ad (883 + 1) (ad (883 + 1)) := rfl
  have hay36 : zAt ad (883 + 2) (ad (883 + 2)) := rfl
  have hay37 : zAt ad (883 + 3) (ad (883 + 3)) := rfl
  have hay38 : zAt ad (883 + 4) (ad (883 + 4)) := rfl
  have hay39 : zAt ad (883 + 5) (ad (883 + 5)) := rfl
  have hay40 : zAt ad (883 + 6) (ad (883 + 6)) := rfl
  refine z_of (by decide) (Nat.le_of_ble_eq_true rfl) ?_
  intro p e s m below meth c C hr hlk hnm
  refine z_lv (lv' := [(0, .ref (ad 0))]) [0] rfl ?_
  refine z_aload_n C 0 dX9_forget_0 rfl ?_
  refine z_get (v := .ref (ad 11)) C (lt_K hN (rfl : Nat.blt (0) 952 = true)) hay2 ary1 rfl inA_X9 5 (by decide) q_354 rfl rfl dX9_forget_1 ?_
  refine z_get (v := .ref (ad (11 + 13))) C (lt_K hN (rfl : Nat.blt (11) 952 = true)) hay6 iry1.1 rfl inA_X6 4 (by decide) q_265 rfl rfl dX9_forget_4 ?_
  refine z_iconst (z := 0) C dX9_forget_7 rfl ?_
  refine z_put (fs' := [.int (zI (0)), .ref (ad (11 + 13 + 1)), .ref (ad (11 + 13 + 2)), .ref (ad (11 + 13 + 3))]) C (lt_K hN (rfl : Nat.blt (11 + 13) 952 = true)) hay26 ksy22 tyX2 tyX2_ok nmX2 rfl inA_X2 0 (by decide) q_218 rfl rfl rfl rfl (Nat.le_of_ble_eq_true rfl) rfl dX9_forget_8 (fun gy41 egy42 => ?_)
  have hgy43 := up_s egy42
  have hgy45 := up_n egy42 lsy22 (ne_o (i := 11) (c := 14) (d := 13) rfl)
  have hgy46 := up_n egy42 msy22 (ne_o (i := 11) (c := 15) (d := 13) rfl)
  have hgy47 := up_n egy42 nsy22 (ne_o (i := 11) (c := 16) (d := 13) rfl)
  have hsty44 : okState cs ad gy41 11 _ (0) := okState.notes iry1 (fun j j1 => by rw [egy42, va_up_ne _ _ (by omega)]) ⟨nusy22, nvsy22, nwsy22, by omega, jsy22, hgy43, hgy45, hgy46, hgy47⟩
  have hgy48 := up_n egy42 ary1 (by omega)
  have hgy49 := up_n egy42 dry1 (by omega)
  have hpy50 := okRdr.mv (ad' := ad) (g' := gy41) (fun j h1 h2 => by rfl) (fun j h1 h2 => by rw [egy42, va_up_ne _ _ (by omega)]) ery1
  have hpy51 := isPlan.mv (ad' := ad) (g' := gy41) (fun j h1 h2 => by rfl) (fun j h1 h2 => by rw [egy42, va_up_ne _ _ (by omega)]) fry1
  have hpy52 := okState.mv (ad' := ad) (g' := gy41) (fun j h1 h2 => by rfl) (fun j h1 h2 => by rw [egy42, va_up_ne _ _ (by omega)]) jry1
  have hpy53 := okPlan.mv (ad' := ad) (g' := gy41) (fun j h1 h2 => by rfl) (fun j h1 h2 => by rw [egy42, va_up_ne _ _ (by omega)]) kry1
  have hpy54 := okGss.mv (ad' := ad) (g' := gy41) (fun j h1 h2 => by rfl) (fun j h1 h2 => by rw [egy42, va_up_ne _ _ (by omega)]) nry1
  have hpy55 := okLike.mv (ad' := ad) (g' := gy41) (fun j h1 h2 => by rfl) (fun j h1 h2 => by rw [egy42, va_up_ne _ _ (by omega)]) ory1
  have hpy56 := okBld.mv (ad' := ad) (g' := gy41) (fun j h1 h2 => by rfl) (fun j h1 h2 => by rw [egy42, va_up_ne _ _ (by omega)]) pry1
  have hoky57 : okWorld cs ad gy41 (890) := okWorld.mv (fun j j1 j2 => by rw [egy42, va_up_ne _ _ (by omega)]) lry1
  have hoky58 : okWorld cs ad gy41 (900) := okWorld.mv (fun j j1 j2 => by rw [egy42, va_up_ne _ _ (by omega)]) mry1
  have hrecy59 : okRec cs ad gy41 N (t) (fp) (im) (0) (kz) (sl) (ho) (ua) (st) (op) (ai) (fa) (mu) (tb) (tp) := ⟨hgy48, bry1, cry1, hgy49, hpy50, hpy51, gry11, hry1, ⟨_, hsty44⟩, ⟨_, hpy52⟩, hpy53, hoky57, hoky58, hpy54, hpy55, hpy56⟩
  exact z_vret C hr hlk dX9_forget_11 (by decide) (by decide) ⟨rfl, rfl, rfl, ⟨_, by omega, hrecy59⟩, fun j j1 j2 => by rw [egy42, va_up_ne _ _ (by omega)]⟩

set_option maxRecDepth 100000 in
set_option maxHeartbeats 4000000 in
theorem c_X9_image (l : Launch) (D : va_G) (A : Nat → Prop) (cs : Nat → ClassId) (tt : Nat) (N : Nat) (ad : Nat → Nat) (g : Nat → va_E) (hN : 952 ≤ N) (t fp im nz kz sl ho ua : Int) (st op ai fa mu tb tp : Nat → Int) (hR : okRec cs ad g N t fp im nz kz sl ho ua st op ai fa mu tb tp) : zM l yX9_image cX9_image 1 none ({ frames := 8, cells := 0, slots := 0, locals := 480 } : Room) D A cs tt N ad g [.ref (ad 0)] (rV0 N ad fun g' => (∃ im' kz' : Int, (im' = 1 ∧ kz' = nz) ∧ okRec cs ad g' N t fp im' nz kz' sl ho ua st op ai fa mu tb tp) ∧ oX g g') := by
  obtain ⟨ary1, bry1, cry1, dry1, ery1, fry1, gry11, hry1, ⟨acry1, iry1⟩, ⟨kcry1, jry1⟩, kry1, lry1, mry1, nry1, ory1, pry1⟩ := id hR
  have hay2 : zAt ad (0) (ad 0) := rfl
  have hay3 : zAt ad (1) (ad 1) := rfl
  have hay4 : zAt ad (2) (ad 2) := rfl
  have hay5 : zAt ad (4) (ad 4) := rfl
  have hay6 : zAt ad (11) (ad 11) := rfl
  have hay7 : zAt ad (447) (ad 447) := rfl
  have hay8 : zAt ad (883) (ad 883) := rfl
  have hay9 : zAt ad (890) (ad 890) := rfl
  have hay10 : zAt ad (900) (ad 900) := rfl
  have hay11 : zAt ad (910) (ad 910) := rfl
  have hay12 : zAt ad (917) (ad 917) := rfl
  have hay13 : zAt ad (919) (ad 919) := rfl
  have hay14 : zAt ad (4 + 1) (ad (4 + 1)) := rfl
  have hay15 : zAt ad (4 + 2) (ad (4 + 2)) := rfl
  have hay16 : zAt ad (4 + 3) (ad (4 + 3)) := rfl
  have hay17 : zAt ad (4 + 4) (ad (4 + 4)) := rfl
  have hay18 : zAt ad (4 + 5) (ad (4 + 5)) := rfl
  have hay19 : zAt ad (4 + 6) (ad (4 + 6)) := rfl
  obtain ⟨thcy20, zhcy20, ohcy20, rhcy20, hzhcy20, hthcy20, hwhcy20⟩ := id lry1
  obtain ⟨thcy21, zhcy21, ohcy21, rhcy21, hzhcy21, hthcy21, hwhcy21⟩ := id mry1
  obtain ⟨asy22, bsy22, csy22, dsy22, esy22, ⟨ptsy22, fsy22, gsy221⟩, hsy22, ⟨nusy22, nvsy22, nwsy22, isy22, jsy22, ksy22, lsy22, msy22, nsy22⟩, rfsy22, osy22⟩ := id iry1
  have hay23 : zAt ad (11 + 1) (ad (11 + 1)) := rfl
  have hay24 : zAt ad (11 + 11) (ad (11 + 11)) := rfl
  have hay25 : zAt ad (11 + 12) (ad (11 + 12)) := rfl
  have hay26 : zAt ad (11 + 13) (ad (11 + 13)) := rfl
  have hay27 : zAt ad (11 + 13 + 1) (ad (11 + 13 + 1)) := rfl
  have hay28 : zAt ad (11 + 13 + 2) (ad (11 + 13 + 2)) := rfl
  have hay29 : zAt ad (11 + 13 + 3) (ad (11 + 13 + 3)) := rfl
  have hay30 : zAt ad (11 + 17) (ad (11 + 17)) := rfl
  obtain ⟨uy31t, uy31z, uy31o, uy31r, uy31z4, uy31t5, uy311, ⟨uy31u, uy312, uy313⟩, uy314⟩ := id csy22
  have hay32 : zAt ad (11 + 1) (ad (11 + 1)) := rfl
  have hay33 : zAt ad (11 + 1 + 1) (ad (11 + 1 + 1)) := rfl
  obtain ⟨sloy34, hooy34, uaoy34, stoy34, opoy34, aioy34, faoy34, muoy34, tboy34, hsloy34, hhooy34, hpoy34⟩ := id kry1
  have hay35 : zAt ad (883 + 1) (ad (883 + 1)) := rfl
  have hay36 : zAt ad (883 + 2) (ad (883 + 2)) := rfl
  have hay37 : zAt ad (883 + 3) (ad (883 + 3)) := rfl
  have hay38 : zAt ad (883 + 4) (ad (883 + 4)) := rfl
  have hay39 : zAt ad (883 + 5) (ad (883 + 5)) := rfl
  have hay40 : zAt ad (883 + 6) (ad (883 + 6)) := rfl
  refine z_of (by decide) (Nat.le_of_ble_eq_true rfl) ?_
  intro p e s m below meth c C hr hlk hnm
  refine z_lv (lv' := [(0, .ref (ad 0))]) [0] rfl ?_
  refine z_aload_n C 0 dX9_image_0 rfl ?_
  refine z_get (v := .ref (ad 447)) C (lt_K hN (rfl : Nat.blt (0) 952 = true)) hay2 ary1 rfl inA_X9 6 (by decide) q_355 rfl rfl dX9_image_1 ?_
  refine z_aload_n C 0 dX9_image_4 rfl ?_
  refine z_get (v := .ref (ad 11)) C (lt_K hN (rfl : Nat.blt (0) 952 = true)) hay2 ary1 rfl inA_X9 5 (by decide) q_354 rfl rfl dX9_image_5 ?_
  refine z_cV (As := [.ref (ad 11)]) (rest := []) (ci := 8) C (c_X6_copyFrom l D A cs tt N ad _ 447 (by omega) _ _ jry1 11 (by omega) _ _ iry1 (by omega)) (lt_K hN (rfl : Nat.blt (447) 952 = true)) hay7 jry1.1 rfl rfl mv_yX6_copyFrom q_631 hd_yX6_copyFrom (by decide) (Nat.le_of_ble_eq_true rfl) (by decide) dX9_image_8 rfl (kV0 fun gvy41 hvy41 => ?_)
  obtain ⟨hkvy41, hfvy41⟩ := hvy41
  refine z_aload_n C 0 dX9_image_11 rfl ?_
  refine z_iconst (z := 1) C dX9_image_12 rfl ?_
  have hgy42 := (hfvy41 (0) (by omega)).trans ary1
  refine z_put (fs' := [.ref (ad 1), .int (zI (t)), .int (zI (fp)), .ref (ad 2), .ref (ad 4), .ref (ad 11), .ref (ad 447), .int (zI (1)), .ref (ad 883), .ref (ad 890), .ref (ad 900), .ref (ad 910), .ref (ad 917), .ref (ad 919)]) C (lt_K hN (rfl : Nat.blt (0) 952 = true)) hay2 hgy42 tyX9 tyX9_ok nmX9 rfl inA_X9 7 (by decide) q_356 rfl rfl (by decide) rfl (Nat.le_of_ble_eq_true rfl) rfl dX9_image_13 (fun gy43 egy44 => ?_)
  have hgy45 := up_s egy44
  have hgy46 := (hfvy41 (1) (by omega)).trans dry1
  have hgy47 := up_n egy44 hgy46 (by decide)
  have hpy48 := okState.mv (ad' := ad) (g' := gy43) (fun j h1 h2 => by rfl) (fun j h1 h2 => by rw [egy44, va_up_ne _ _ (by omega)]; rw [hfvy41 _ (by omega)]) iry1
  have hpy49 := okRdr.mv (ad' := ad) (g' := gy43) (fun j h1 h2 => by rfl) (fun j h1 h2 => by rw [egy44, va_up_ne _ _ (by omega)]; rw [hfvy41 _ (by omega)]) ery1
  have hpy50 := isPlan.mv (ad' := ad) (g' := gy43) (fun j h1 h2 => by rfl) (fun j h1 h2 => by rw [egy44, va_up_ne _ _ (by omega)]; rw [hfvy41 _ (by omega)]) fry1
  have hpy51 := okState.mv (ad' := ad) (g' := gy43) (fun j h1 h2 => by rfl) (fun j h1 h2 => by rw [egy44, va_up_ne _ _ (by omega)]) hkvy41
  have hpy52 := okPlan.mv (ad' := ad) (g' := gy43) (fun j h1 h2 => by rfl) (fun j h1 h2 => by rw [egy44, va_up_ne _ _ (by omega)]; rw [hfvy41 _ (by omega)]) kry1
  have hpy53 := okGss.mv (ad' := ad) (g' := gy43) (fun j h1 h2 => by rfl) (fun j h1 h2 => by rw [egy44, va_up_ne _ _ (by omega)]; rw [hfvy41 _ (by omega)]) nry1
  have hpy54 := okLike.mv (ad' := ad) (g' := gy43) (fun j h1 h2 => by rfl) (fun j h1 h2 => by rw [egy44, va_up_ne _ _ (by omega)]; rw [hfvy41 _ (by omega)]) ory1
  have hpy55 := okBld.mv (ad' := ad) (g' := gy43) (fun j h1 h2 => by rfl) (fun j h1 h2 => by rw [egy44, va_up_ne _ _ (by omega)]; rw [hfvy41 _ (by omega)]) pry1
  have hoky56 : okWorld cs ad gy43 (890) := okWorld.mv (fun j j1 j2 => by rw [egy44, va_up_ne _ _ (by omega)]; rw [hfvy41 _ (by omega)]) lry1
  have hoky57 : okWorld cs ad gy43 (900) := okWorld.mv (fun j j1 j2 => by rw [egy44, va_up_ne _ _ (by omega)]; rw [hfvy41 _ (by omega)]) mry1
  have hrecy58 : okRec cs ad gy43 N (t) (fp) (1) (nz) (nz) (sl) (ho) (ua) (st) (op) (ai) (fa) (mu) (tb) (tp) := ⟨hgy45, bry1, by omega, hgy47, hpy49, hpy50, gry11, hry1, ⟨_, hpy48⟩, ⟨_, hpy51⟩, hpy52, hoky56, hoky57, hpy53, hpy54, hpy55⟩
  exact z_vret C hr hlk dX9_image_16 (by decide) (by decide) ⟨rfl, rfl, rfl, ⟨_, _, by omega, hrecy58⟩, fun j j1 j2 => by rw [egy44, va_up_ne _ _ (by omega)]; rw [hfvy41 _ (by omega)]⟩

set_option maxRecDepth 100000 in
set_option maxHeartbeats 4000000 in
theorem c_X9_restore (l : Launch) (D : va_G) (A : Nat → Prop) (cs : Nat → ClassId) (tt : Nat) (N : Nat) (ad : Nat → Nat) (g : Nat → va_E) (hN : 952 ≤ N) (t fp im nz kz sl ho ua : Int) (st op ai fa mu tb tp : Nat → Int) (hR : okRec cs ad g N t fp im nz kz sl ho ua st op ai fa mu tb tp) : zM l yX9_restore cX9_restore 1 (some .boolean) ({ frames := 8, cells := 0, slots := 0, locals := 480 } : Room) D A cs tt N ad g [.ref (ad 0)] (rI0 N ad fun r g' => (0 ≤ r ∧ r ≤ 1) ∧ (∃ nz' : Int, ((im = 0 ∧ r = 0 ∧ nz' = nz) ∨ (im = 1 ∧ r = 1 ∧ nz' = kz)) ∧ okRec cs ad g' N t fp im nz' kz sl ho ua st op ai fa mu tb tp) ∧ oX g g') := by
  obtain ⟨ary1, bry1, cry1, dry1, ery1, fry1, gry11, hry1, ⟨acry1, iry1⟩, ⟨kcry1, jry1⟩, kry1, lry1, mry1, nry1, ory1, pry1⟩ := id hR
  have hay2 : zAt ad (0) (ad 0) := rfl
  have hay3 : zAt ad (1) (ad 1) := rfl
  have hay4 : zAt ad (2) (ad 2) := rfl
  have hay5 : zAt ad (4) (ad 4) := rfl
  have hay6 : zAt ad (11) (ad 11) := rfl
  have hay7 : zAt ad (447) (ad 447) := rfl
  have hay8 : zAt ad (883) (ad 883) := rfl
  have hay9 : zAt ad (890) (ad 890) := rfl
  have hay10 : zAt ad (900) (ad 900) := rfl
  have hay11 : zAt ad (910) (ad 910) := rfl
  have hay12 : zAt ad (917) (ad 917) := rfl
  have hay13 : zAt ad (919) (ad 919) := rfl
  have hay14 : zAt ad (4 + 1) (ad (4 + 1)) := rfl
  have hay15 : zAt ad (4 + 2) (ad (4 + 2)) := rfl
  have hay16 : zAt ad (4 + 3) (ad (4 + 3)) := rfl
  have hay17 : zAt ad (4 + 4) (ad (4 + 4)) := rfl
  have hay18 : zAt ad (4 + 5) (ad (4 + 5)) := rfl
  have hay19 : zAt ad (4 + 6) (ad (4 + 6)) := rfl
  obtain ⟨thcy20, zhcy20, ohcy20, rhcy20, hzhcy20, hthcy20, hwhcy20⟩ := id lry1
  obtain ⟨thcy21, zhcy21, ohcy21, rhcy21, hzhcy21, hthcy21, hwhcy21⟩ := id mry1
  obtain ⟨asy22, bsy22, csy22, dsy22, esy22, ⟨ptsy22, fsy22, gsy221⟩, hsy22, ⟨nusy22, nvsy22, nwsy22, isy22, jsy22, ksy22, lsy22, msy22, nsy22⟩, rfsy22, osy22⟩ := id iry1
  have hay23 : zAt ad (11 + 1) (ad (11 + 1)) := rfl
  have hay24 : zAt ad (11 + 11) (ad (11 + 11)) := rfl
  have hay25 : zAt ad (11 + 12) (ad (11 + 12)) := rfl
  have hay26 : zAt ad (11 + 13) (ad (11 + 13)) := rfl
  have hay27 : zAt ad (11 + 13 + 1) (ad (11 + 13 + 1)) := rfl
  have hay28 : zAt ad (11 + 13 + 2) (ad (11 + 13 + 2)) := rfl
  have hay29 : zAt ad (11 + 13 + 3) (ad (11 + 13 + 3)) := rfl
  have hay30 : zAt ad (11 + 17) (ad (11 + 17)) := rfl
  obtain ⟨uy31t, uy31z, uy31o, uy31r, uy31z4, uy31t5, uy311, ⟨uy31u, uy312, uy313⟩, uy314⟩ := id csy22
  have hay32 : zAt ad (11 + 1) (ad (11 + 1)) := rfl
  have hay33 : zAt ad (11 + 1 + 1) (ad (11 + 1 + 1)) := rfl
  obtain ⟨sloy34, hooy34, uaoy34, stoy34, opoy34, aioy34, faoy34, muoy34, tboy34, hsloy34, hhooy34, hpoy34⟩ := id kry1
  have hay35 : zAt ad (883 + 1) (ad (883 + 1)) := rfl
  have hay36 : zAt ad (883 + 2) (ad (883 + 2)) := rfl
  have hay37 : zAt ad (883 + 3) (ad (883 + 3)) := rfl
  have hay38 : zAt ad (883 + 4) (ad (883 + 4)) := rfl
  have hay39 : zAt ad (883 + 5) (ad (883 + 5)) := rfl
  have hay40 : zAt ad (883 + 6) (ad (883 + 6)) := rfl
  refine z_of (by decide) (Nat.le_of_ble_eq_true rfl) ?_
  intro p e s m below meth c C hr hlk hnm
  refine z_lv (lv' := [(0, .ref (ad 0))]) [0] rfl ?_
  refine z_aload_n C 0 dX9_restore_0 rfl ?_
  refine z_get (v := .int (zI (im))) C (lt_K hN (rfl : Nat.blt (0) 952 = true)) hay2 ary1 rfl inA_X9 7 (by decide) q_356 rfl rfl dX9_restore_1 ?_
  refine z_if_ne (tgt := 9) C dX9_restore_4 (by decide) (by omega) (fun hby41 => ?_) (fun hby41 => ?_)
  · refine z_aload_n C 0 dX9_restore_9 rfl ?_
    refine z_get (v := .ref (ad 11)) C (lt_K hN (rfl : Nat.blt (0) 952 = true)) hay2 ary1 rfl inA_X9 5 (by decide) q_354 rfl rfl dX9_restore_10 ?_
    refine z_aload_n C 0 dX9_restore_13 rfl ?_
    refine z_get (v := .ref (ad 447)) C (lt_K hN (rfl : Nat.blt (0) 952 = true)) hay2 ary1 rfl inA_X9 6 (by decide) q_355 rfl rfl dX9_restore_14 ?_
    refine z_cV (As := [.ref (ad 447)]) (rest := []) (ci := 8) C (c_X6_copyFrom l D A cs tt N ad _ 11 (by omega) _ _ iry1 447 (by omega) _ _ jry1 (by omega)) (lt_K hN (rfl : Nat.blt (11) 952 = true)) hay6 iry1.1 rfl rfl mv_yX6_copyFrom q_631 hd_yX6_copyFrom (by decide) (Nat.le_of_ble_eq_true rfl) (by decide) dX9_restore_17 rfl (kV0 fun gvy42 hvy42 => ?_)
    obtain ⟨hkvy42, hfvy42⟩ := hvy42
    have hacqy43 := hkvy42.2.1
    obtain ⟨asy44, bsy44, csy44, dsy44, esy44, ⟨ptsy44, fsy44, gsy441⟩, hsy44, ⟨nusy44, nvsy44, nwsy44, isy44, jsy44, ksy44, lsy44, msy44, nsy44⟩, rfsy44, osy44⟩ := id hkvy42
    obtain ⟨uy45t, uy45z, uy45o, uy45r, uy45z4, uy45t5, uy451, ⟨uy45u, uy452, uy453⟩, uy454⟩ := id csy44
    have hay46 : zAt ad (11 + 1) (ad (11 + 1)) := rfl
    have hay47 : zAt ad (11 + 1 + 1) (ad (11 + 1 + 1)) := rfl
    refine z_iconst (z := 1) C dX9_restore_20 rfl ?_
    have hgy48 := (hfvy42 (0) (by omega)).trans ary1
    have hgy49 := (hfvy42 (1) (by omega)).trans dry1
    have hpy50 := okRdr.mv (ad' := ad) (g' := gvy42) (fun j h1 h2 => by rfl) (fun j h1 h2 => by rw [hfvy42 _ (by omega)]) ery1
    have hpy51 := isPlan.mv (ad' := ad) (g' := gvy42) (fun j h1 h2 => by rfl) (fun j h1 h2 => by rw [hfvy42 _ (by omega)]) fry1
    have hpy52 := okState.mv (ad' := ad) (g' := gvy42) (fun j h1 h2 => by rfl) (fun j h1 h2 => by rw [hfvy42 _ (by omega)]) jry1
    have hpy53 := okPlan.mv (ad' := ad) (g' := gvy42) (fun j h1 h2 => by rfl) (fun j h1 h2 => by rw [hfvy42 _ (by omega)]) kry1
    have hpy54 := okGss.mv (ad' := ad) (g' := gvy42) (fun j h1 h2 => by rfl) (fun j h1 h2 => by rw [hfvy42 _ (by omega)]) nry1
    have hpy55 := okLike.mv (ad' := ad) (g' := gvy42) (fun j h1 h2 => by rfl) (fun j h1 h2 => by rw [hfvy42 _ (by omega)]) ory1
    have hpy56 := okBld.mv (ad' := ad) (g' := gvy42) (fun j h1 h2 => by rfl) (fun j h1 h2 => by rw [hfvy42 _ (by omega)]) pry1
    have hoky57 : okWorld cs ad gvy42 (890) := okWorld.mv (fun j j1 j2 => by rw [hfvy42 _ (by omega)]) lry1
    have hoky58 : okWorld cs ad gvy42 (900) := okWorld.mv (fun j j1 j2 => by rw [hfvy42 _ (by omega)]) mry1
    have hrecy59 : okRec cs ad gvy42 N (t) (fp) (im) (kz) (kz) (sl) (ho) (ua) (st) (op) (ai) (fa) (mu) (tb) (tp) := ⟨hgy48, bry1, cry1, hgy49, hpy50, hpy51, gry11, hry1, ⟨_, hkvy42⟩, ⟨_, hpy52⟩, hpy53, hoky57, hoky58, hpy54, hpy55, hpy56⟩
    exact z_zret C hr hlk dX9_restore_21 (by decide) (by decide) (by decide) ⟨1, rfl, rfl, rfl, by omega, ⟨_, by omega, hrecy59⟩, fun j j1 j2 => by rw [hfvy42 _ (by omega)]⟩
  · refine z_iconst (z := 0) C dX9_restore_7 rfl ?_
    have hrecy60 : okRec cs ad g N (t) (fp) (im) (nz) (kz) (sl) (ho) (ua) (st) (op) (ai) (fa) (mu) (tb) (tp) := ⟨ary1, bry1, cry1, dry1, ery1, fry1, gry11, hry1, ⟨_, iry1⟩, ⟨_, jry1⟩, kry1, lry1, mry1, nry1, ory1, pry1⟩
    exact z_zret C hr hlk dX9_restore_8 (by decide) (by decide) (by decide) ⟨0, rfl, rfl, rfl, by omega, ⟨_, by omega, hrecy60⟩, fun j j1 j2 => by rfl⟩

set_option maxRecDepth 100000 in
set_option maxHeartbeats 4000000 in
theorem c_X9_fault (l : Launch) (D : va_G) (A : Nat → Prop) (cs : Nat → ClassId) (tt : Nat) (N : Nat) (ad : Nat → Nat) (g : Nat → va_E) (hN : 952 ≤ N) (t fp im nz kz sl ho ua : Int) (st op ai fa mu tb tp : Nat → Int) (hR : okRec cs ad g N t fp im nz kz sl ho ua st op ai fa mu tb tp) : zM l yX9_fault cX9_fault 1 (some .int) ({ frames := 1, cells := 0, slots := 0, locals := 60 } : Room) D A cs tt N ad g [.ref (ad 0)] (rI0 N ad fun r g' => (-2147483648 ≤ r ∧ r ≤ 2147483647) ∧ zI fp = zI r ∧ g = g') := by
  obtain ⟨ary1, bry1, cry1, dry1, ery1, fry1, gry11, hry1, ⟨acry1, iry1⟩, ⟨kcry1, jry1⟩, kry1, lry1, mry1, nry1, ory1, pry1⟩ := id hR
  have hay2 : zAt ad (0) (ad 0) := rfl
  have hay3 : zAt ad (1) (ad 1) := rfl
  have hay4 : zAt ad (2) (ad 2) := rfl
  have hay5 : zAt ad (4) (ad 4) := rfl
  have hay6 : zAt ad (11) (ad 11) := rfl
  have hay7 : zAt ad (447) (ad 447) := rfl
  have hay8 : zAt ad (883) (ad 883) := rfl
  have hay9 : zAt ad (890) (ad 890) := rfl
  have hay10 : zAt ad (900) (ad 900) := rfl
  have hay11 : zAt ad (910) (ad 910) := rfl
  have hay12 : zAt ad (917) (ad 917) := rfl
  have hay13 : zAt ad (919) (ad 919) := rfl
  have hay14 : zAt ad (4 + 1) (ad (4 + 1)) := rfl
  have hay15 : zAt ad (4 + 2) (ad (4 + 2)) := rfl
  have hay16 : zAt ad (4 + 3) (ad (4 + 3)) := rfl
  have hay17 : zAt ad (4 + 4) (ad (4 + 4)) := rfl
  have hay18 : zAt ad (4 + 5) (ad (4 + 5)) := rfl
  have hay19 : zAt ad (4 + 6) (ad (4 + 6)) := rfl
  obtain ⟨thcy20, zhcy20, ohcy20, rhcy20, hzhcy20, hthcy20, hwhcy20⟩ := id lry1
  obtain ⟨thcy21, zhcy21, ohcy21, rhcy21, hzhcy21, hthcy21, hwhcy21⟩ := id mry1
  refine z_of (by decide) (Nat.le_of_ble_eq_true rfl) ?_
  intro p e s m below meth c C hr hlk hnm
  refine z_lv (lv' := [(0, .ref (ad 0))]) [0] rfl ?_
  refine z_aload_n C 0 dX9_fault_0 rfl ?_
  refine z_get (v := .int (zI (fp))) C (lt_K hN (rfl : Nat.blt (0) 952 = true)) hay2 ary1 rfl inA_X9 2 (by decide) q_351 rfl rfl dX9_fault_1 ?_
  obtain ⟨r9, e9, h9⟩ := zI_of (zI (fp))
  rw [e9]
  exact z_iret C hr hlk dX9_fault_4 (by decide) (by decide) ⟨r9, rfl, rfl, rfl, by omega, (by first | rfl | exact e9), rfl⟩

set_option maxRecDepth 100000 in
set_option maxHeartbeats 4000000 in
theorem c_X9_putBytes (l : Launch) (D : va_G) (A : Nat → Prop) (cs : Nat → ClassId) (tt : Nat) (N : Nat) (ad : Nat → Nat) (g : Nat → va_E) (hN : 952 ≤ N) (t fp im nz kz sl ho ua : Int) (st op ai fa mu tb tp : Nat → Int) (hR : okRec cs ad g N t fp im nz kz sl ho ua st op ai fa mu tb tp) (ht4 : t + 4 ≤ 900) (z : Int) (hz : -2147483648 ≤ z ∧ z ≤ 2147483647) : zM l yX9_putBytes cX9_putBytes 3 none ({ frames := 1, cells := 0, slots := 0, locals := 60 } : Room) D A cs tt N ad g [.ref (ad 0), .int (zI (z))] (rV0 N ad fun g' => (∃ tp' : Nat → Int, okRec cs ad g' N (t + 4) fp im nz kz sl ho ua st op ai fa mu tb tp' ∧ (∀ j : Nat, (j : Int) < t ∨ t + 4 ≤ (j : Int) → tp' j = tp j) ∧ ∀ s : Nat, s < 4 → sB z s (tp' ((t).toNat + s))) ∧ oX g g') := by
  obtain ⟨ary1, bry1, cry1, dry1, ery1, fry1, gry11, hry1, ⟨acry1, iry1⟩, ⟨kcry1, jry1⟩, kry1, lry1, mry1, nry1, ory1, pry1⟩ := id hR
  have hay2 : zAt ad (0) (ad 0) := rfl
  have hay3 : zAt ad (1) (ad 1) := rfl
  have hay4 : zAt ad (2) (ad 2) := rfl
  have hay5 : zAt ad (4) (ad 4) := rfl
  have hay6 : zAt ad (11) (ad 11) := rfl
  have hay7 : zAt ad (447) (ad 447) := rfl
  have hay8 : zAt ad (883) (ad 883) := rfl
  have hay9 : zAt ad (890) (ad 890) := rfl
  have hay10 : zAt ad (900) (ad 900) := rfl
  have hay11 : zAt ad (910) (ad 910) := rfl
  have hay12 : zAt ad (917) (ad 917) := rfl
  have hay13 : zAt ad (919) (ad 919) := rfl
  have hay14 : zAt ad (4 + 1) (ad (4 + 1)) := rfl
  have hay15 : zAt ad (4 + 2) (ad (4 + 2)) := rfl
  have hay16 : zAt ad (4 + 3) (ad (4 + 3)) := rfl
  have hay17 : zAt ad (4 + 4) (ad (4 + 4)) := rfl
  have hay18 : zAt ad (4 + 5) (ad (4 + 5)) := rfl
  have hay19 : zAt ad (4 + 6) (ad (4 + 6)) := rfl
  obtain ⟨thcy20, zhcy20, ohcy20, rhcy20, hzhcy20, hthcy20, hwhcy20⟩ := id lry1
  obtain ⟨thcy21, zhcy21, ohcy21, rhcy21, hzhcy21, hthcy21, hwhcy21⟩ := id mry1
  refine z_of (by decide) (Nat.le_of_ble_eq_true rfl) ?_
  intro p e s m below meth c C hr hlk hnm
  refine z_lv (lv' := [(0, .ref (ad 0)), (1, .int (zI (z)))]) [0, 1] rfl ?_
  refine z_bipush (z := 24) C dX9_putBytes_0 (by decide) ?_
  refine z_istore_n (lv' := [(2, .int (zI (24))), (0, .ref (ad 0)), (1, .int (zI (z)))]) C dX9_putBytes_2 rfl (by decide) rfl ?_
  refine z_iload_n C 0 dX9_putBytes_3 rfl ?_
  refine z_if_lt (tgt := 48) C dX9_putBytes_4 (by decide) (by omega) (fun h => absurd h (by omega)) (fun _ => ?_)
  refine z_aload_n C 1 dX9_putBytes_7 rfl ?_
  refine z_get (v := .int (zI (t))) C (lt_K hN (rfl : Nat.blt (0) 952 = true)) hay2 ary1 rfl inA_X9 1 (by decide) q_350 rfl rfl dX9_putBytes_8 ?_
  refine z_aload_n C 1 dX9_putBytes_11 rfl ?_
  refine z_get (v := .ref (ad 1)) C (lt_K hN (rfl : Nat.blt (0) 952 = true)) hay2 ary1 rfl inA_X9 0 (by decide) q_349 rfl rfl dX9_putBytes_12 ?_
  refine z_alen (z := 900) C (lt_K hN (rfl : Nat.blt (1) 952 = true)) hay3 dry1 0 rfl rfl dX9_putBytes_15 ?_
  refine z_icmp_ge (tgt := 48) C dX9_putBytes_16 (by decide) (by omega) (by omega) (fun h => absurd h (by omega)) (fun _ => ?_)
  refine z_aload_n C 1 dX9_putBytes_19 rfl ?_
  refine z_get (v := .ref (ad 1)) C (lt_K hN (rfl : Nat.blt (0) 952 = true)) hay2 ary1 rfl inA_X9 0 (by decide) q_349 rfl rfl dX9_putBytes_20 ?_
  refine z_aload_n C 1 dX9_putBytes_23 rfl ?_
  refine z_get (v := .int (zI (t))) C (lt_K hN (rfl : Nat.blt (0) 952 = true)) hay2 ary1 rfl inA_X9 1 (by decide) q_350 rfl rfl dX9_putBytes_24 ?_
  refine z_iload_n C 2 dX9_putBytes_27 rfl ?_
  refine z_iload_n C 0 dX9_putBytes_28 rfl ?_
  obtain ⟨xy22, exy22, hxy22⟩ := zI_of (((zI (z)).toUInt32 >>> ((zI (24)).toUInt32 &&& Int32.toUInt32 31)).toInt32)
  refine z_iushr (z := xy22) C dX9_putBytes_29 exy22 ?_
  obtain ⟨xy23, exy23, hxy23⟩ := b8_of (zI (xy22))
  refine z_i2b (z := xy23) C dX9_putBytes_30 exy23 ?_
  have hsxy23 : sB z 0 xy23 := sB_c (by decide) exy22 hxy22 exy23 hxy23
  refine z_bast C (lt_K hN (rfl : Nat.blt (1) 952 = true)) hay3 dry1 ((t).toNat) (by omega) (by omega) (by decide) (by omega) dX9_putBytes_31 (fun gy24 egy25 => ?_)
  have hgy26 := up_s egy25
  refine z_aload_n C 1 dX9_putBytes_32 rfl ?_
  refine z_dup C dX9_putBytes_33 rfl ?_
  have hgy27 := up_n egy25 ary1 (by decide)
  refine z_get (v := .int (zI (t))) C (lt_K hN (rfl : Nat.blt (0) 952 = true)) hay2 hgy27 rfl inA_X9 1 (by decide) q_350 rfl rfl dX9_putBytes_34 ?_
  refine z_iconst (z := 1) C dX9_putBytes_37 rfl ?_
  refine z_iadd C dX9_putBytes_38 ?_
  refine z_put (fs' := [.ref (ad 1), .int (zI (t + 1)), .int (zI (fp)), .ref (ad 2), .ref (ad 4), .ref (ad 11), .ref (ad 447), .int (zI (im)), .ref (ad 883), .ref (ad 890), .ref (ad 900), .ref (ad 910), .ref (ad 917), .ref (ad 919)]) C (lt_K hN (rfl : Nat.blt (0) 952 = true)) hay2 hgy27 tyX9 tyX9_ok nmX9 rfl inA_X9 1 (by decide) q_350 rfl rfl rfl rfl (Nat.le_of_ble_eq_true rfl) rfl dX9_putBytes_39 (fun gy28 egy29 => ?_)
  have hgy30 := up_s egy29
  refine z_iinc (z := 16) (lv' := [(2, .int (zI (16))), (0, .ref (ad 0)), (1, .int (zI (z)))]) (j := 0) C dX9_putBytes_42 rfl (congrArg zI (by omega)) (by decide) rfl ?_
  refine z_goto (tgt := 3) C dX9_putBytes_45 (by decide) ?_
  refine z_iload_n C 0 dX9_putBytes_3 rfl ?_
  refine z_if_lt (tgt := 48) C dX9_putBytes_4 (by decide) (by omega) (fun h => absurd h (by omega)) (fun _ => ?_)
  refine z_aload_n C 1 dX9_putBytes_7 rfl ?_
  refine z_get (v := .int (zI (t + 1))) C (lt_K hN (rfl : Nat.blt (0) 952 = true)) hay2 hgy30 rfl inA_X9 1 (by decide) q_350 rfl rfl dX9_putBytes_8 ?_
  refine z_aload_n C 1 dX9_putBytes_11 rfl ?_
  refine z_get (v := .ref (ad 1)) C (lt_K hN (rfl : Nat.blt (0) 952 = true)) hay2 hgy30 rfl inA_X9 0 (by decide) q_349 rfl rfl dX9_putBytes_12 ?_
  have hgy31 := up_n egy29 hgy26 (by decide)
  refine z_alen (z := 900) C (lt_K hN (rfl : Nat.blt (1) 952 = true)) hay3 hgy31 0 rfl rfl dX9_putBytes_15 ?_
  refine z_icmp_ge (tgt := 48) C dX9_putBytes_16 (by decide) (by omega) (by omega) (fun h => absurd h (by omega)) (fun _ => ?_)
  refine z_aload_n C 1 dX9_putBytes_19 rfl ?_
  refine z_get (v := .ref (ad 1)) C (lt_K hN (rfl : Nat.blt (0) 952 = true)) hay2 hgy30 rfl inA_X9 0 (by decide) q_349 rfl rfl dX9_putBytes_20 ?_
  refine z_aload_n C 1 dX9_putBytes_23 rfl ?_
  refine z_get (v := .int (zI (t + 1))) C (lt_K hN (rfl : Nat.blt (0) 952 = true)) hay2 hgy30 rfl inA_X9 1 (by decide) q_350 rfl rfl dX9_putBytes_24 ?_
  refine z_iload_n C 2 dX9_putBytes_27 rfl ?_
  refine z_iload_n C 0 dX9_putBytes_28 rfl ?_
  obtain ⟨xy32, exy32, hxy32⟩ := zI_of (((zI (z)).toUInt32 >>> ((zI (16)).toUInt32 &&& Int32.toUInt32 31)).toInt32)
  refine z_iushr (z := xy32) C dX9_putBytes_29 exy32 ?_
  obtain ⟨xy33, exy33, hxy33⟩ := b8_of (zI (xy32))
  refine z_i2b (z := xy33) C dX9_putBytes_30 exy33 ?_
  have hsxy33 : sB z 1 xy33 := sB_c (by decide) exy32 hxy32 exy33 hxy33
  refine z_bast C (lt_K hN (rfl : Nat.blt (1) 952 = true)) hay3 hgy31 ((t + 1).toNat) (by omega) (by omega) (by decide) (by omega) dX9_putBytes_31 (fun gy34 egy35 => ?_)
  have hgy36 := up_s egy35
  refine z_aload_n C 1 dX9_putBytes_32 rfl ?_
  refine z_dup C dX9_putBytes_33 rfl ?_
  have hgy37 := up_n egy35 hgy30 (by decide)
  refine z_get (v := .int (zI (t + 1))) C (lt_K hN (rfl : Nat.blt (0) 952 = true)) hay2 hgy37 rfl inA_X9 1 (by decide) q_350 rfl rfl dX9_putBytes_34 ?_
  refine z_iconst (z := 1) C dX9_putBytes_37 rfl ?_
  refine z_iadd C dX9_putBytes_38 ?_
  refine z_put (fs' := [.ref (ad 1), .int (zI ((t + 1) + 1)), .int (zI (fp)), .ref (ad 2), .ref (ad 4), .ref (ad 11), .ref (ad 447), .int (zI (im)), .ref (ad 883), .ref (ad 890), .ref (ad 900), .ref (ad 910), .ref (ad 917), .ref (ad 919)]) C (lt_K hN (rfl : Nat.blt (0) 952 = true)) hay2 hgy37 tyX9 tyX9_ok nmX9 rfl inA_X9 1 (by decide) q_350 rfl rfl rfl rfl (Nat.le_of_ble_eq_true rfl) rfl dX9_putBytes_39 (fun gy38 egy39 => ?_)
  have hgy40 := up_s egy39
  refine z_iinc (z := 8) (lv' := [(2, .int (zI (8))), (0, .ref (ad 0)), (1, .int (zI (z)))]) (j := 0) C dX9_putBytes_42 rfl (congrArg zI (by omega)) (by decide) rfl ?_
  refine z_goto (tgt := 3) C dX9_putBytes_45 (by decide) ?_
  refine z_iload_n C 0 dX9_putBytes_3 rfl ?_
  refine z_if_lt (tgt := 48) C dX9_putBytes_4 (by decide) (by omega) (fun h => absurd h (by omega)) (fun _ => ?_)
  refine z_aload_n C 1 dX9_putBytes_7 rfl ?_
  refine z_get (v := .int (zI ((t + 1) + 1))) C (lt_K hN (rfl : Nat.blt (0) 952 = true)) hay2 hgy40 rfl inA_X9 1 (by decide) q_350 rfl rfl dX9_putBytes_8 ?_
  refine z_aload_n C 1 dX9_putBytes_11 rfl ?_
  refine z_get (v := .ref (ad 1)) C (lt_K hN (rfl : Nat.blt (0) 952 = true)) hay2 hgy40 rfl inA_X9 0 (by decide) q_349 rfl rfl dX9_putBytes_12 ?_
  have hgy41 := up_n egy39 hgy36 (by decide)
  refine z_alen (z := 900) C (lt_K hN (rfl : Nat.blt (1) 952 = true)) hay3 hgy41 0 rfl rfl dX9_putBytes_15 ?_
  refine z_icmp_ge (tgt := 48) C dX9_putBytes_16 (by decide) (by omega) (by omega) (fun h => absurd h (by omega)) (fun _ => ?_)
  refine z_aload_n C 1 dX9_putBytes_19 rfl ?_
  refine z_get (v := .ref (ad 1)) C (lt_K hN (rfl : Nat.blt (0) 952 = true)) hay2 hgy40 rfl inA_X9 0 (by decide) q_349 rfl rfl dX9_putBytes_20 ?_
  refine z_aload_n C 1 dX9_putBytes_23 rfl ?_
  refine z_get (v := .int (zI ((t + 1) + 1))) C (lt_K hN (rfl : Nat.blt (0) 952 = true)) hay2 hgy40 rfl inA_X9 1 (by decide) q_350 rfl rfl dX9_putBytes_24 ?_
  refine z_iload_n C 2 dX9_putBytes_27 rfl ?_
  refine z_iload_n C 0 dX9_putBytes_28 rfl ?_
  obtain ⟨xy42, exy42, hxy42⟩ := zI_of (((zI (z)).toUInt32 >>> ((zI (8)).toUInt32 &&& Int32.toUInt32 31)).toInt32)
  refine z_iushr (z := xy42) C dX9_putBytes_29 exy42 ?_
  obtain ⟨xy43, exy43, hxy43⟩ := b8_of (zI (xy42))
  refine z_i2b (z := xy43) C dX9_putBytes_30 exy43 ?_
  have hsxy43 : sB z 2 xy43 := sB_c (by decide) exy42 hxy42 exy43 hxy43
  refine z_bast C (lt_K hN (rfl : Nat.blt (1) 952 = true)) hay3 hgy41 (((t + 1) + 1).toNat) (by omega) (by omega) (by decide) (by omega) dX9_putBytes_31 (fun gy44 egy45 => ?_)
  have hgy46 := up_s egy45
  refine z_aload_n C 1 dX9_putBytes_32 rfl ?_
  refine z_dup C dX9_putBytes_33 rfl ?_
  have hgy47 := up_n egy45 hgy40 (by decide)
  refine z_get (v := .int (zI ((t + 1) + 1))) C (lt_K hN (rfl : Nat.blt (0) 952 = true)) hay2 hgy47 rfl inA_X9 1 (by decide) q_350 rfl rfl dX9_putBytes_34 ?_
  refine z_iconst (z := 1) C dX9_putBytes_37 rfl ?_
  refine z_iadd C dX9_putBytes_38 ?_
  refine z_put (fs' := [.ref (ad 1), .int (zI (((t + 1) + 1) + 1)), .int (zI (fp)), .ref (ad 2), .ref (ad 4), .ref (ad 11), .ref (ad 447), .int (zI (im)), .ref (ad 883), .ref (ad 890), .ref (ad 900), .ref (ad 910), .ref (ad 917), .ref (ad 919)]) C (lt_K hN (rfl : Nat.blt (0) 952 = true)) hay2 hgy47 tyX9 tyX9_ok nmX9 rfl inA_X9 1 (by decide) q_350 rfl rfl rfl rfl (Nat.le_of_ble_eq_true rfl) rfl dX9_putBytes_39 (fun gy48 egy49 => ?_)
  have hgy50 := up_s egy49
  refine z_iinc (z := 0) (lv' := [(2, .int (zI (0))), (0, .ref (ad 0)), (1, .int (zI (z)))]) (j := 0) C dX9_putBytes_42 rfl (congrArg zI (by omega)) (by decide) rfl ?_
  refine z_goto (tgt := 3) C dX9_putBytes_45 (by decide) ?_
  refine z_iload_n C 0 dX9_putBytes_3 rfl ?_
  refine z_if_lt (tgt := 48) C dX9_putBytes_4 (by decide) (by omega) (fun h => absurd h (by omega)) (fun _ => ?_)
  refine z_aload_n C 1 dX9_putBytes_7 rfl ?_
  refine z_get (v := .int (zI (((t + 1) + 1) + 1))) C (lt_K hN (rfl : Nat.blt (0) 952 = true)) hay2 hgy50 rfl inA_X9 1 (by decide) q_350 rfl rfl dX9_putBytes_8 ?_
  refine z_aload_n C 1 dX9_putBytes_11 rfl ?_
  refine z_get (v := .ref (ad 1)) C (lt_K hN (rfl : Nat.blt (0) 952 = true)) hay2 hgy50 rfl inA_X9 0 (by decide) q_349 rfl rfl dX9_putBytes_12 ?_
  have hgy51 := up_n egy49 hgy46 (by decide)
  refine z_alen (z := 900) C (lt_K hN (rfl : Nat.blt (1) 952 = true)) hay3 hgy51 0 rfl rfl dX9_putBytes_15 ?_
  refine z_icmp_ge (tgt := 48) C dX9_putBytes_16 (by decide) (by omega) (by omega) (fun h => absurd h (by omega)) (fun _ => ?_)
  refine z_aload_n C 1 dX9_putBytes_19 rfl ?_
  refine z_get (v := .ref (ad 1)) C (lt_K hN (rfl : Nat.blt (0) 952 = true)) hay2 hgy50 rfl inA_X9 0 (by decide) q_349 rfl rfl dX9_putBytes_20 ?_
  refine z_aload_n C 1 dX9_putBytes_23 rfl ?_
  refine z_get (v := .int (zI (((t + 1) + 1) + 1))) C (lt_K hN (rfl : Nat.blt (0) 952 = true)) hay2 hgy50 rfl inA_X9 1 (by decide) q_350 rfl rfl dX9_putBytes_24 ?_
  refine z_iload_n C 2 dX9_putBytes_27 rfl ?_
  refine z_iload_n C 0 dX9_putBytes_28 rfl ?_
  obtain ⟨xy52, exy52, hxy52⟩ := zI_of (((zI (z)).toUInt32 >>> ((zI (0)).toUInt32 &&& Int32.toUInt32 31)).toInt32)
  refine z_iushr (z := xy52) C dX9_putBytes_29 exy52 ?_
  obtain ⟨xy53, exy53, hxy53⟩ := b8_of (zI (xy52))
  refine z_i2b (z := xy53) C dX9_putBytes_30 exy53 ?_
  have hsxy53 : sB z 3 xy53 := sB_c (by decide) exy52 hxy52 exy53 hxy53
  refine z_bast C (lt_K hN (rfl : Nat.blt (1) 952 = true)) hay3 hgy51 ((((t + 1) + 1) + 1).toNat) (by omega) (by omega) (by decide) (by omega) dX9_putBytes_31 (fun gy54 egy55 => ?_)
  have hgy56 := up_s egy55
  refine z_aload_n C 1 dX9_putBytes_32 rfl ?_
  refine z_dup C dX9_putBytes_33 rfl ?_
  have hgy57 := up_n egy55 hgy50 (by decide)
  refine z_get (v := .int (zI (((t + 1) + 1) + 1))) C (lt_K hN (rfl : Nat.blt (0) 952 = true)) hay2 hgy57 rfl inA_X9 1 (by decide) q_350 rfl rfl dX9_putBytes_34 ?_
  refine z_iconst (z := 1) C dX9_putBytes_37 rfl ?_
  refine z_iadd C dX9_putBytes_38 ?_
  refine z_put (fs' := [.ref (ad 1), .int (zI ((((t + 1) + 1) + 1) + 1)), .int (zI (fp)), .ref (ad 2), .ref (ad 4), .ref (ad 11), .ref (ad 447), .int (zI (im)), .ref (ad 883), .ref (ad 890), .ref (ad 900), .ref (ad 910), .ref (ad 917), .ref (ad 919)]) C (lt_K hN (rfl : Nat.blt (0) 952 = true)) hay2 hgy57 tyX9 tyX9_ok nmX9 rfl inA_X9 1 (by decide) q_350 rfl rfl rfl rfl (Nat.le_of_ble_eq_true rfl) rfl dX9_putBytes_39 (fun gy58 egy59 => ?_)
  have hgy60 := up_s egy59
  refine z_iinc (z := -8) (lv' := [(2, .int (zI (-8))), (0, .ref (ad 0)), (1, .int (zI (z)))]) (j := 0) C dX9_putBytes_42 rfl (congrArg zI (by omega)) (by decide) rfl ?_
  refine z_goto (tgt := 3) C dX9_putBytes_45 (by decide) ?_
  refine z_iload_n C 0 dX9_putBytes_3 rfl ?_
  refine z_if_lt (tgt := 48) C dX9_putBytes_4 (by decide) (by omega) (fun _ => ?_) (fun h => absurd h (by omega))
  have hc0 : gy58 0 = rcC ad (t + 4) fp im := by rw [show t + 4 = (((t + 1) + 1) + 1) + 1 by omega]; exact hgy60
  have hgy61 := up_n egy59 hgy56 (by decide)
  have hpy62 := okState.mv (ad' := ad) (g' := gy58) (fun j h1 h2 => by rfl) (fun j h1 h2 => by rw [egy59, va_up_ne _ _ (by omega)]; rw [egy55, va_up_ne _ _ (by omega)]; rw [egy49, va_up_ne _ _ (by omega)]; rw [egy45, va_up_ne _ _ (by omega)]; rw [egy39, va_up_ne _ _ (by omega)]; rw [egy35, va_up_ne _ _ (by omega)]; rw [egy29, va_up_ne _ _ (by omega)]; rw [egy25, va_up_ne _ _ (by omega)]) iry1
  have hpy63 := okRdr.mv (ad' := ad) (g' := gy58) (fun j h1 h2 => by rfl) (fun j h1 h2 => by rw [egy59, va_up_ne _ _ (by omega)]; rw [egy55, va_up_ne _ _ (by omega)]; rw [egy49, va_up_ne _ _ (by omega)]; rw [egy45, va_up_ne _ _ (by omega)]; rw [egy39, va_up_ne _ _ (by omega)]; rw [egy35, va_up_ne _ _ (by omega)]; rw [egy29, va_up_ne _ _ (by omega)]; rw [egy25, va_up_ne _ _ (by omega)]) ery1
  have hpy64 := isPlan.mv (ad' := ad) (g' := gy58) (fun j h1 h2 => by rfl) (fun j h1 h2 => by rw [egy59, va_up_ne _ _ (by omega)]; rw [egy55, va_up_ne _ _ (by omega)]; rw [egy49, va_up_ne _ _ (by omega)]; rw [egy45, va_up_ne _ _ (by omega)]; rw [egy39, va_up_ne _ _ (by omega)]; rw [egy35, va_up_ne _ _ (by omega)]; rw [egy29, va_up_ne _ _ (by omega)]; rw [egy25, va_up_ne _ _ (by omega)]) fry1
  have hpy65 := okState.mv (ad' := ad) (g' := gy58) (fun j h1 h2 => by rfl) (fun j h1 h2 => by rw [egy59, va_up_ne _ _ (by omega)]; rw [egy55, va_up_ne _ _ (by omega)]; rw [egy49, va_up_ne _ _ (by omega)]; rw [egy45, va_up_ne _ _ (by omega)]; rw [egy39, va_up_ne _ _ (by omega)]; rw [egy35, va_up_ne _ _ (by omega)]; rw [egy29, va_up_ne _ _ (by omega)]; rw [egy25, va_up_ne _ _ (by omega)]) jry1
  have hpy66 := okPlan.mv (ad' := ad) (g' := gy58) (fun j h1 h2 => by rfl) (fun j h1 h2 => by rw [egy59, va_up_ne _ _ (by omega)]; rw [egy55, va_up_ne _ _ (by omega)]; rw [egy49, va_up_ne _ _ (by omega)]; rw [egy45, va_up_ne _ _ (by omega)]; rw [egy39, va_up_ne _ _ (by omega)]; rw [egy35, va_up_ne _ _ (by omega)]; rw [egy29, va_up_ne _ _ (by omega)]; rw [egy25, va_up_ne _ _ (by omega)]) kry1
  have hpy67 := okGss.mv (ad' := ad) (g' := gy58) (fun j h1 h2 => by rfl) (fun j h1 h2 => by rw [egy59, va_up_ne _ _ (by omega)]; rw [egy55, va_up_ne _ _ (by omega)]; rw [egy49, va_up_ne _ _ (by omega)]; rw [egy45, va_up_ne _ _ (by omega)]; rw [egy39, va_up_ne _ _ (by omega)]; rw [egy35, va_up_ne _ _ (by omega)]; rw [egy29, va_up_ne _ _ (by omega)]; rw [egy25, va_up_ne _ _ (by omega)]) nry1
  have hpy68 := okLike.mv (ad' := ad) (g' := gy58) (fun j h1 h2 => by rfl) (fun j h1 h2 => by rw [egy59, va_up_ne _ _ (by omega)]; rw [egy55, va_up_ne _ _ (by omega)]; rw [egy49, va_up_ne _ _ (by omega)]; rw [egy45, va_up_ne _ _ (by omega)]; rw [egy39, va_up_ne _ _ (by omega)]; rw [egy35, va_up_ne _ _ (by omega)]; rw [egy29, va_up_ne _ _ (by omega)]; rw [egy25, va_up_ne _ _ (by omega)]) ory1
  have hpy69 := okBld.mv (ad' := ad) (g' := gy58) (fun j h1 h2 => by rfl) (fun j h1 h2 => by rw [egy59, va_up_ne _ _ (by omega)]; rw [egy55, va_up_ne _ _ (by omega)]; rw [egy49, va_up_ne _ _ (by omega)]; rw [egy45, va_up_ne _ _ (by omega)]; rw [egy39, va_up_ne _ _ (by omega)]; rw [egy35, va_up_ne _ _ (by omega)]; rw [egy29, va_up_ne _ _ (by omega)]; rw [egy25, va_up_ne _ _ (by omega)]) pry1
  have hoky70 : okWorld cs ad gy58 (890) := okWorld.mv (fun j j1 j2 => by rw [egy59, va_up_ne _ _ (by omega)]; rw [egy55, va_up_ne _ _ (by omega)]; rw [egy49, va_up_ne _ _ (by omega)]; rw [egy45, va_up_ne _ _ (by omega)]; rw [egy39, va_up_ne _ _ (by omega)]; rw [egy35, va_up_ne _ _ (by omega)]; rw [egy29, va_up_ne _ _ (by omega)]; rw [egy25, va_up_ne _ _ (by omega)]) lry1
  have hoky71 : okWorld cs ad gy58 (900) := okWorld.mv (fun j j1 j2 => by rw [egy59, va_up_ne _ _ (by omega)]; rw [egy55, va_up_ne _ _ (by omega)]; rw [egy49, va_up_ne _ _ (by omega)]; rw [egy45, va_up_ne _ _ (by omega)]; rw [egy39, va_up_ne _ _ (by omega)]; rw [egy35, va_up_ne _ _ (by omega)]; rw [egy29, va_up_ne _ _ (by omega)]; rw [egy25, va_up_ne _ _ (by omega)]) mry1
  have hrecy72 : okRec cs ad gy58 N (t + 4) (fp) (im) (nz) (kz) (sl) (ho) (ua) (st) (op) (ai) (fa) (mu) (tb) (uZ (uZ (uZ (uZ (tp) ((t).toNat) (xy23)) ((t + 1).toNat) (xy33)) (((t + 1) + 1).toNat) (xy43)) ((((t + 1) + 1) + 1).toNat) (xy53)) := ⟨hc0, by omega, cry1, hgy61, hpy63, hpy64, gry11, hry1, ⟨_, hpy62⟩, ⟨_, hpy65⟩, hpy66, hoky70, hoky71, hpy67, hpy68, hpy69⟩
  have hps : (0 ≤ t ∧ t + 4 ≤ 900) := by omega
  have hfr : ∀ j : Nat, (j : Int) < t ∨ t + 4 ≤ (j : Int) → (uZ (uZ (uZ (uZ (tp) ((t).toNat) (xy23)) ((t + 1).toNat) (xy33)) (((t + 1) + 1).toNat) (xy43)) ((((t + 1) + 1) + 1).toNat) (xy53)) j = tp j := fun j hj => (uZ_n _ _ (by omega)).trans ((uZ_n _ _ (by omega)).trans ((uZ_n _ _ (by omega)).trans (uZ_n _ _ (by omega))))
  have hsb : ∀ s : Nat, s < 4 → sB z s ((uZ (uZ (uZ (uZ (tp) ((t).toNat) (xy23)) ((t + 1).toNat) (xy33)) (((t + 1) + 1).toNat) (xy43)) ((((t + 1) + 1) + 1).toNat) (xy53)) ((t).toNat + s)) := by
    intro s hs
    rcases (show s = 0 ∨ s = 1 ∨ s = 2 ∨ s = 3 by omega) with rfl | rfl | rfl | rfl
    · rw [show (t).toNat + 0 = ((t).toNat) by omega, show (uZ (uZ (uZ (uZ (tp) ((t).toNat) (xy23)) ((t + 1).toNat) (xy33)) (((t + 1) + 1).toNat) (xy43)) ((((t + 1) + 1) + 1).toNat) (xy53)) ((t).toNat) = xy23 from ((uZ_n _ _ (by omega)).trans ((uZ_n _ _ (by omega)).trans ((uZ_n _ _ (by omega)).trans (uZ_s _ _ _))))]; exact hsxy23
    · rw [show (t).toNat + 1 = ((t + 1).toNat) by omega, show (uZ (uZ (uZ (uZ (tp) ((t).toNat) (xy23)) ((t + 1).toNat) (xy33)) (((t + 1) + 1).toNat) (xy43)) ((((t + 1) + 1) + 1).toNat) (xy53)) ((t + 1).toNat) = xy33 from ((uZ_n _ _ (by omega)).trans ((uZ_n _ _ (by omega)).trans (uZ_s _ _ _)))]; exact hsxy33
    · rw [show (t).toNat + 2 = (((t + 1) + 1).toNat) by omega, show (uZ (uZ (uZ (uZ (tp) ((t).toNat) (xy23)) ((t + 1).toNat) (xy33)) (((t + 1) + 1).toNat) (xy43)) ((((t + 1) + 1) + 1).toNat) (xy53)) (((t + 1) + 1).toNat) = xy43 from ((uZ_n _ _ (by omega)).trans (uZ_s _ _ _))]; exact hsxy43
    · rw [show (t).toNat + 3 = ((((t + 1) + 1) + 1).toNat) by omega, show (uZ (uZ (uZ (uZ (tp) ((t).toNat) (xy23)) ((t + 1).toNat) (xy33)) (((t + 1) + 1).toNat) (xy43)) ((((t + 1) + 1) + 1).toNat) (xy53)) ((((t + 1) + 1) + 1).toNat) = xy53 from (uZ_s _ _ _)]; exact hsxy53
  exact z_vret C hr hlk dX9_putBytes_48 (by decide) (by decide) ⟨rfl, rfl, rfl, ⟨_, hrecy72, hfr, hsb⟩, fun j j1 j2 => by rw [egy59, va_up_ne _ _ (by omega)]; rw [egy55, va_up_ne _ _ (by omega)]; rw [egy49, va_up_ne _ _ (by omega)]; rw [egy45, va_up_ne _ _ (by omega)]; rw [egy39, va_up_ne _ _ (by omega)]; rw [egy35, va_up_ne _ _ (by omega)]; rw [egy29, va_up_ne _ _ (by omega)]; rw [egy25, va_up_ne _ _ (by omega)]⟩

set_option maxRecDepth 100000 in
set_option maxHeartbeats 4000000 in
theorem c_X9_feed (l : Launch) (D : va_G) (A : Nat → Prop) (cs : Nat → ClassId) (tt : Nat) (N : Nat) (ad : Nat → Nat) (g : Nat → va_E) (hN : 952 ≤ N) (t fp im nz kz sl ho ua : Int) (st op ai fa mu tb tp : Nat → Int) (hR : okRec cs ad g N t fp im nz kz sl ho ua st op ai fa mu tb tp) (z : Int) (hz : -2147483648 ≤ z ∧ z ≤ 2147483647) (z1 : Int) (hz1 : -2147483648 ≤ z1 ∧ z1 ≤ 2147483647) (z2 : Int) (hz2 : -2147483648 ≤ z2 ∧ z2 ≤ 2147483647) (z3 : Int) (hz3 : -2147483648 ≤ z3 ∧ z3 ≤ 2147483647) (z4 : Int) (hz4 : -2147483648 ≤ z4 ∧ z4 ≤ 2147483647) : zM l yX9_feed cX9_feed 6 (some .int) ({ frames := 2, cells := 0, slots := 0, locals := 120 } : Room) D A cs tt N ad g [.ref (ad 0), .int (zI (z)), .int (zI (z1)), .int (zI (z2)), .int (zI (z3)), .int (zI (z4))] (rI0 N ad fun r g' => (r = (if t ≤ 880 then t + 20 else -1)) ∧ (∃ tp' : Nat → Int, okRec cs ad g' N (if t ≤ 880 then t + 20 else t) fp im nz kz sl ho ua st op ai fa mu tb tp' ∧ (t ≤ 880 → (∀ j : Nat, (j : Int) < t ∨ t + 20 ≤ (j : Int) → tp' j = tp j) ∧ ∀ s : Nat, s < 4 → sB z s (tp' ((t).toNat + s)) ∧ sB z1 s (tp' ((t).toNat + 4 + s)) ∧ sB z2 s (tp' ((t).toNat + 8 + s)) ∧ sB z3 s (tp' ((t).toNat + 12 + s)) ∧ sB z4 s (tp' ((t).toNat + 16 + s))) ∧ (880 < t → tp' = tp)) ∧ oX g g') := by
  obtain ⟨ary1, bry1, cry1, dry1, ery1, fry1, gry11, hry1, ⟨acry1, iry1⟩, ⟨kcry1, jry1⟩, kry1, lry1, mry1, nry1, ory1, pry1⟩ := id hR
  have hay2 : zAt ad (0) (ad 0) := rfl
  have hay3 : zAt ad (1) (ad 1) := rfl
  have hay4 : zAt ad (2) (ad 2) := rfl
  have hay5 : zAt ad (4) (ad 4) := rfl
  have hay6 : zAt ad (11) (ad 11) := rfl
  have hay7 : zAt ad (447) (ad 447) := rfl
  have hay8 : zAt ad (883) (ad 883) := rfl
  have hay9 : zAt ad (890) (ad 890) := rfl
  have hay10 : zAt ad (900) (ad 900) := rfl
  have hay11 : zAt ad (910) (ad 910) := rfl
  have hay12 : zAt ad (917) (ad 917) := rfl
  have hay13 : zAt ad (919) (ad 919) := rfl
  have hay14 : zAt ad (4 + 1) (ad (4 + 1)) := rfl
  have hay15 : zAt ad (4 + 2) (ad (4 + 2)) := rfl
  have hay16 : zAt ad (4 + 3) (ad (4 + 3)) := rfl
  have hay17 : zAt ad (4 + 4) (ad (4 + 4)) := rfl
  have hay18 : zAt ad (4 + 5) (ad (4 + 5)) := rfl
  have hay19 : zAt ad (4 + 6) (ad (4 + 6)) := rfl
  obtain ⟨thcy20, zhcy20, ohcy20, rhcy20, hzhcy20, hthcy20, hwhcy20⟩ := id lry1
  obtain ⟨thcy21, zhcy21, ohcy21, rhcy21, hzhcy21, hthcy21, hwhcy21⟩ := id mry1
  refine z_of (by decide) (Nat.le_of_ble_eq_true rfl) ?_
  intro p e s m below meth c C hr hlk hnm
  refine z_lv (lv' := [(0, .ref (ad 0)), (1, .int (zI (z))), (2, .int (zI (z1))), (3, .int (zI (z2))), (4, .int (zI (z3))), (5, .int (zI (z4)))]) [0, 1, 2, 3, 4, 5] rfl ?_
  refine z_aload_n C 0 dX9_feed_0 rfl ?_
  refine z_get (v := .int (zI (t))) C (lt_K hN (rfl : Nat.blt (0) 952 = true)) hay2 ary1 rfl inA_X9 1 (by decide) q_350 rfl rfl dX9_feed_1 ?_
  refine z_bipush (z := 20) C dX9_feed_4 (by decide) ?_
  refine z_iadd C dX9_feed_6 ?_
  refine z_sipush (z := 900) C dX9_feed_7 (by decide) ?_
  refine z_icmp_le (tgt := 15) C dX9_feed_10 (by decide) (by omega) (by omega) (fun hby22 => ?_) (fun hby22 => ?_)
  · refine z_aload_n C 0 dX9_feed_15 rfl ?_
    refine z_iload_n C 1 dX9_feed_16 rfl ?_
    have hrecy24 : okRec cs ad g N (t) (fp) (im) (nz) (kz) (sl) (ho) (ua) (st) (op) (ai) (fa) (mu) (tb) (tp) := ⟨ary1, bry1, cry1, dry1, ery1, fry1, gry11, hry1, ⟨_, iry1⟩, ⟨_, jry1⟩, kry1, lry1, mry1, nry1, ory1, pry1⟩
    refine z_cV (As := [.int (zI (z))]) (rest := []) (ci := 11) C (c_X9_putBytes l D A cs tt N ad _ hN _ _ _ _ _ _ _ _ _ _ _ _ _ _ _ hrecy24 (by omega) (z) (by omega)) (lt_K hN (rfl : Nat.blt (0) 952 = true)) hay2 ary1 rfl rfl mv_yX9_putBytes q_396 hd_yX9_putBytes (by decide) (Nat.le_of_ble_eq_true rfl) (by decide) dX9_feed_17 rfl (kV0 fun gvy23 hvy23 => ?_)
    obtain ⟨⟨tpvy23, hkvy23, hqvy23, hbvy23⟩, hfvy23⟩ := hvy23
    obtain ⟨ary25, bry25, cry25, dry25, ery25, fry25, gry251, hry25, ⟨acry25, iry25⟩, ⟨kcry25, jry25⟩, kry25, lry25, mry25, nry25, ory25, pry25⟩ := id hkvy23
    obtain ⟨thcy26, zhcy26, ohcy26, rhcy26, hzhcy26, hthcy26, hwhcy26⟩ := id lry25
    obtain ⟨thcy27, zhcy27, ohcy27, rhcy27, hzhcy27, hthcy27, hwhcy27⟩ := id mry25
    refine z_aload_n C 0 dX9_feed_20 rfl ?_
    refine z_iload_n C 2 dX9_feed_21 rfl ?_
    have hrecy29 : okRec cs ad gvy23 N (t + 4) (fp) (im) (nz) (kz) (sl) (ho) (ua) (st) (op) (ai) (fa) (mu) (tb) (tpvy23) := ⟨ary25, bry25, cry25, dry25, ery25, fry25, gry251, hry25, ⟨_, iry25⟩, ⟨_, jry25⟩, kry25, lry25, mry25, nry25, ory25, pry25⟩
    refine z_cV (As := [.int (zI (z1))]) (rest := []) (ci := 11) C (c_X9_putBytes l D A cs tt N ad _ hN _ _ _ _ _ _ _ _ _ _ _ _ _ _ _ hrecy29 (by omega) (z1) (by omega)) (lt_K hN (rfl : Nat.blt (0) 952 = true)) hay2 ary25 rfl rfl mv_yX9_putBytes q_396 hd_yX9_putBytes (by decide) (Nat.le_of_ble_eq_true rfl) (by decide) dX9_feed_22 rfl (kV0 fun gvy28 hvy28 => ?_)
    obtain ⟨⟨tpvy28, hkvy28, hqvy28, hbvy28⟩, hfvy28⟩ := hvy28
    obtain ⟨ary30, bry30, cry30, dry30, ery30, fry30, gry301, hry30, ⟨acry30, iry30⟩, ⟨kcry30, jry30⟩, kry30, lry30, mry30, nry30, ory30, pry30⟩ := id hkvy28
    obtain ⟨thcy31, zhcy31, ohcy31, rhcy31, hzhcy31, hthcy31, hwhcy31⟩ := id lry30
    obtain ⟨thcy32, zhcy32, ohcy32, rhcy32, hzhcy32, hthcy32, hwhcy32⟩ := id mry30
    refine z_aload_n C 0 dX9_feed_25 rfl ?_
    refine z_iload_n C 3 dX9_feed_26 rfl ?_
    have hrecy34 : okRec cs ad gvy28 N (t + 4 + 4) (fp) (im) (nz) (kz) (sl) (ho) (ua) (st) (op) (ai) (fa) (mu) (tb) (tpvy28) := ⟨ary30, bry30, cry30, dry30, ery30, fry30, gry301, hry30, ⟨_, iry30⟩, ⟨_, jry30⟩, kry30, lry30, mry30, nry30, ory30, pry30⟩
    refine z_cV (As := [.int (zI (z2))]) (rest := []) (ci := 11) C (c_X9_putBytes l D A cs tt N ad _ hN _ _ _ _ _ _ _ _ _ _ _ _ _ _ _ hrecy34 (by omega) (z2) (by omega)) (lt_K hN (rfl : Nat.blt (0) 952 = true)) hay2 ary30 rfl rfl mv_yX9_putBytes q_396 hd_yX9_putBytes (by decide) (Nat.le_of_ble_eq_true rfl) (by decide) dX9_feed_27 rfl (kV0 fun gvy33 hvy33 => ?_)
    obtain ⟨⟨tpvy33, hkvy33, hqvy33, hbvy33⟩, hfvy33⟩ := hvy33
    obtain ⟨ary35, bry35, cry35, dry35, ery35, fry35, gry351, hry35, ⟨acry35, iry35⟩, ⟨kcry35, jry35⟩, kry35, lry35, mry35, nry35, ory35, pry35⟩ := id hkvy33
    obtain ⟨thcy36, zhcy36, ohcy36, rhcy36, hzhcy36, hthcy36, hwhcy36⟩ := id lry35
    obtain ⟨thcy37, zhcy37, ohcy37, rhcy37, hzhcy37, hthcy37, hwhcy37⟩ := id mry35
    refine z_aload_n C 0 dX9_feed_30 rfl ?_
    refine z_iload C 4 dX9_feed_31 rfl ?_
    have hrecy39 : okRec cs ad gvy33 N (t + 4 + 4 + 4) (fp) (im) (nz) (kz) (sl) (ho) (ua) (st) (op) (ai) (fa) (mu) (tb) (tpvy33) := ⟨ary35, bry35, cry35, dry35, ery35, fry35, gry351, hry35, ⟨_, iry35⟩, ⟨_, jry35⟩, kry35, lry35, mry35, nry35, ory35, pry35⟩
    refine z_cV (As := [.int (zI (z3))]) (rest := []) (ci := 11) C (c_X9_putBytes l D A cs tt N ad _ hN _ _ _ _ _ _ _ _ _ _ _ _ _ _ _ hrecy39 (by omega) (z3) (by omega)) (lt_K hN (rfl : Nat.blt (0) 952 = true)) hay2 ary35 rfl rfl mv_yX9_putBytes q_396 hd_yX9_putBytes (by decide) (Nat.le_of_ble_eq_true rfl) (by decide) dX9_feed_33 rfl (kV0 fun gvy38 hvy38 => ?_)
    obtain ⟨⟨tpvy38, hkvy38, hqvy38, hbvy38⟩, hfvy38⟩ := hvy38
    obtain ⟨ary40, bry40, cry40, dry40, ery40, fry40, gry401, hry40, ⟨acry40, iry40⟩, ⟨kcry40, jry40⟩, kry40, lry40, mry40, nry40, ory40, pry40⟩ := id hkvy38
    obtain ⟨thcy41, zhcy41, ohcy41, rhcy41, hzhcy41, hthcy41, hwhcy41⟩ := id lry40
    obtain ⟨thcy42, zhcy42, ohcy42, rhcy42, hzhcy42, hthcy42, hwhcy42⟩ := id mry40
    refine z_aload_n C 0 dX9_feed_36 rfl ?_
    refine z_iload C 5 dX9_feed_37 rfl ?_
    have hrecy44 : okRec cs ad gvy38 N (t + 4 + 4 + 4 + 4) (fp) (im) (nz) (kz) (sl) (ho) (ua) (st) (op) (ai) (fa) (mu) (tb) (tpvy38) := ⟨ary40, bry40, cry40, dry40, ery40, fry40, gry401, hry40, ⟨_, iry40⟩, ⟨_, jry40⟩, kry40, lry40, mry40, nry40, ory40, pry40⟩
    refine z_cV (As := [.int (zI (z4))]) (rest := []) (ci := 11) C (c_X9_putBytes l D A cs tt N ad _ hN _ _ _ _ _ _ _ _ _ _ _ _ _ _ _ hrecy44 (by omega) (z4) (by omega)) (lt_K hN (rfl : Nat.blt (0) 952 = true)) hay2 ary40 rfl rfl mv_yX9_putBytes q_396 hd_yX9_putBytes (by decide) (Nat.le_of_ble_eq_true rfl) (by decide) dX9_feed_39 rfl (kV0 fun gvy43 hvy43 => ?_)
    obtain ⟨⟨tpvy43, hkvy43, hqvy43, hbvy43⟩, hfvy43⟩ := hvy43
    obtain ⟨ary45, bry45, cry45, dry45, ery45, fry45, gry451, hry45, ⟨acry45, iry45⟩, ⟨kcry45, jry45⟩, kry45, lry45, mry45, nry45, ory45, pry45⟩ := id hkvy43
    obtain ⟨thcy46, zhcy46, ohcy46, rhcy46, hzhcy46, hthcy46, hwhcy46⟩ := id lry45
    obtain ⟨thcy47, zhcy47, ohcy47, rhcy47, hzhcy47, hthcy47, hwhcy47⟩ := id mry45
    refine z_aload_n C 0 dX9_feed_42 rfl ?_
    refine z_get (v := .int (zI (t + 4 + 4 + 4 + 4 + 4))) C (lt_K hN (rfl : Nat.blt (0) 952 = true)) hay2 ary45 rfl inA_X9 1 (by decide) q_350 rfl rfl dX9_feed_43 ?_
    have hrecy48 : okRec cs ad gvy43 N (t + 4 + 4 + 4 + 4 + 4) (fp) (im) (nz) (kz) (sl) (ho) (ua) (st) (op) (ai) (fa) (mu) (tb) (tpvy43) := ⟨ary45, bry45, cry45, dry45, ery45, fry45, gry451, hry45, ⟨_, iry45⟩, ⟨_, jry45⟩, kry45, lry45, mry45, nry45, ory45, pry45⟩
    have htt : 0 ≤ t ∧ t ≤ 880 := by omega
    have hfr : ∀ j : Nat, (j : Int) < t ∨ t + 20 ≤ (j : Int) → tpvy43 j = tp j := fun j hj => (hqvy43 j (by omega)).trans ((hqvy38 j (by omega)).trans ((hqvy33 j (by omega)).trans ((hqvy28 j (by omega)).trans (hqvy23 j (by omega)))))
    have hb09 : ∀ s : Nat, s < 4 → sB z s (tpvy43 ((t).toNat + s)) := by
      intro s hs
      have e9 : (t).toNat + s = (t).toNat + s := by omega
      rw [e9]
      rw [hqvy43 ((t).toNat + s) (by omega)]
      rw [hqvy38 ((t).toNat + s) (by omega)]
      rw [hqvy33 ((t).toNat + s) (by omega)]
      rw [hqvy28 ((t).toNat + s) (by omega)]
      exact hbvy23 s hs
    have hb19 : ∀ s : Nat, s < 4 → sB z1 s (tpvy43 ((t).toNat + 4 + s)) := by
      intro s hs
      have e9 : (t).toNat + 4 + s = (t + 4).toNat + s := by omega
      rw [e9]
      rw [hqvy43 ((t + 4).toNat + s) (by omega)]
      rw [hqvy38 ((t + 4).toNat + s) (by omega)]
      rw [hqvy33 ((t + 4).toNat + s) (by omega)]
      exact hbvy28 s hs
    have hb29 : ∀ s : Nat, s < 4 → sB z2 s (tpvy43 ((t).toNat + 8 + s)) := by
      intro s hs
      have e9 : (t).toNat + 8 + s = (t + 4 + 4).toNat + s := by omega
      rw [e9]
      rw [hqvy43 ((t + 4 + 4).toNat + s) (by omega)]
      rw [hqvy38 ((t + 4 + 4).toNat + s) (by omega)]
      exact hbvy33 s hs
    have hb39 : ∀ s : Nat, s < 4 → sB z3 s (tpvy43 ((t).toNat + 12 + s)) := by
      intro s hs
      have e9 : (t).toNat + 12 + s = (t + 4 + 4 + 4).toNat + s := by omega
      rw [e9]
      rw [hqvy43 ((t + 4 + 4 + 4).toNat + s) (by omega)]
      exact hbvy38 s hs
    have hb49 : ∀ s : Nat, s < 4 → sB z4 s (tpvy43 ((t).toNat + 16 + s)) := by
      intro s hs
      have e9 : (t).toNat + 16 + s = (t + 4 + 4 + 4 + 4).toNat + s := by omega
      rw [e9]
      exact hbvy43 s hs
    exact z_iret C hr hlk dX9_feed_46 (by decide) (by decide) ⟨t + 4 + 4 + 4 + 4 + 4, rfl, rfl, rfl, by rw [if_pos (by omega)]; omega, ⟨_, by rw [if_pos (by omega), show t + 20 = t + 4 + 4 + 4 + 4 + 4 by omega]; exact hrecy48, fun _ => ⟨hfr, fun s hs => ⟨hb09 s hs, hb19 s hs, hb29 s hs, hb39 s hs, hb49 s hs⟩⟩, fun h9 => absurd h9 (by omega)⟩, fun j j1 j2 => by rw [hfvy43 _ (by omega) (by omega)]; rw [hfvy38 _ (by omega) (by omega)]; rw [hfvy33 _ (by omega) (by omega)]; rw [hfvy28 _ (by omega) (by omega)]; rw [hfvy23 _ (by omega) (by omega)]⟩
  · refine z_iconst (z := -1) C dX9_feed_13 rfl ?_
    have hrecy49 : okRec cs ad g N (t) (fp) (im) (nz) (kz) (sl) (ho) (ua) (st) (op) (ai) (fa) (mu) (tb) (tp) := ⟨ary1, bry1, cry1, dry1, ery1, fry1, gry11, hry1, ⟨_, iry1⟩, ⟨_, jry1⟩, kry1, lry1, mry1, nry1, ory1, pry1⟩
    exact z_iret C hr hlk dX9_feed_14 (by decide) (by decide) ⟨-1, rfl, rfl, rfl, by rw [if_neg (by omega)], ⟨tp, by rw [if_neg (by omega)]; exact hrecy49, fun h9 => absurd h9 (by omega), fun _ => rfl⟩, fun j j1 j2 => by rfl⟩
end
section
-- 53.words.lean.txt
-- words of str
theorem q_1166 : (Jvm.Cond.fieldLink "java/lang/String" (9 : Nat) "java/lang/String" "value" "[B") ∈ AW := AW_m5 206 (by decide +kernel) (by decide +kernel)
theorem q_1167 : (Jvm.Cond.fieldLink "java/lang/String" (15 : Nat) "java/lang/String" "coder" "B") ∈ AW := AW_m5 207 (by decide +kernel) (by decide +kernel)
theorem q_13 : (Jvm.Cond.initialized "java/lang/String") ∈ AW := AW_m1 13 (by decide +kernel) (by decide +kernel)
theorem q_22 : (Jvm.Cond.initialized "java/lang/StringLatin1") ∈ AW := AW_m1 22 (by decide +kernel) (by decide +kernel)
theorem q_23 : (Jvm.Cond.initialized "jdk/internal/util/Preconditions") ∈ AW := AW_m1 23 (by decide +kernel) (by decide +kernel)
theorem q_762 : (Jvm.Cond.methodLink "java/lang/String" (335 : Nat) ({ cls := "java/lang/String", name := "coder", desc := "()B" } : Jvm.MethodName)) ∈ AW := AW_m4 42 (by decide +kernel) (by decide +kernel)
theorem q_763 : (Jvm.Cond.instanceMethod ({ cls := "java/lang/String", name := "coder", desc := "()B" } : Jvm.MethodName)) ∈ AW := AW_m4 43 (by decide +kernel) (by decide +kernel)
theorem q_764 : (Jvm.Cond.selects "java/lang/String" ({ cls := "java/lang/String", name := "coder", desc := "()B" } : Jvm.MethodName) ({ cls := "java/lang/String", name := "coder", desc := "()B" } : Jvm.MethodName)) ∈ AW := AW_m4 44 (by decide +kernel) (by decide +kernel)
theorem q_765 : (Jvm.Cond.code ({ cls := "java/lang/String", name := "coder", desc := "()B" } : Jvm.MethodName) prog_25_method_152_code (1 : Nat) (Option.some Jvm.ClassFile.FieldType.byte)) ∈ AW := AW_m4 45 (by decide +kernel) (by decide +kernel)
theorem q_766 : (Jvm.Cond.fieldLink "java/lang/String" (38 : Nat) "java/lang/String" "COMPACT_STRINGS" "Z") ∈ AW := AW_m4 46 (by decide +kernel) (by decide +kernel)
theorem q_771 : (Jvm.Cond.methodLink "java/lang/String" (492 : Nat) ({ cls := "java/lang/String", name := "isLatin1", desc := "()Z" } : Jvm.MethodName)) ∈ AW := AW_m4 51 (by decide +kernel) (by decide +kernel)
theorem q_772 : (Jvm.Cond.instanceMethod ({ cls := "java/lang/String", name := "isLatin1", desc := "()Z" } : Jvm.MethodName)) ∈ AW := AW_m4 52 (by decide +kernel) (by decide +kernel)
theorem q_773 : (Jvm.Cond.selects "java/lang/String" ({ cls := "java/lang/String", name := "isLatin1", desc := "()Z" } : Jvm.MethodName) ({ cls := "java/lang/String", name := "isLatin1", desc := "()Z" } : Jvm.MethodName)) ∈ AW := AW_m4 53 (by decide +kernel) (by decide +kernel)
theorem q_774 : (Jvm.Cond.code ({ cls := "java/lang/String", name := "isLatin1", desc := "()Z" } : Jvm.MethodName) prog_25_method_154_code (1 : Nat) (Option.some Jvm.ClassFile.FieldType.boolean)) ∈ AW := AW_m4 54 (by decide +kernel) (by decide +kernel)
theorem q_775 : (Jvm.Cond.methodLink "java/lang/String" (495 : Nat) ({ cls := "java/lang/StringLatin1", name := "charAt", desc := "([BI)C" } : Jvm.MethodName)) ∈ AW := AW_m4 55 (by decide +kernel) (by decide +kernel)
theorem q_776 : (Jvm.Cond.static ({ cls := "java/lang/StringLatin1", name := "charAt", desc := "([BI)C" } : Jvm.MethodName)) ∈ AW := AW_m4 56 (by decide +kernel) (by decide +kernel)
theorem q_777 : (Jvm.Cond.code ({ cls := "java/lang/StringLatin1", name := "charAt", desc := "([BI)C" } : Jvm.MethodName) prog_27_method_2_code (2 : Nat) (Option.some Jvm.ClassFile.FieldType.char)) ∈ AW := AW_m4 57 (by decide +kernel) (by decide +kernel)
theorem q_778 : (Jvm.Cond.methodLink "java/lang/StringLatin1" (9 : Nat) ({ cls := "java/lang/String", name := "checkIndex", desc := "(II)V" } : Jvm.MethodName)) ∈ AW := AW_m4 58 (by decide +kernel) (by decide +kernel)
theorem q_779 : (Jvm.Cond.static ({ cls := "java/lang/String", name := "checkIndex", desc := "(II)V" } : Jvm.MethodName)) ∈ AW := AW_m4 59 (by decide +kernel) (by decide +kernel)
theorem q_780 : (Jvm.Cond.code ({ cls := "java/lang/String", name := "checkIndex", desc := "(II)V" } : Jvm.MethodName) prog_25_method_155_code (2 : Nat) (Option.none : Option Jvm.ClassFile.FieldType)) ∈ AW := AW_m4 60 (by decide +kernel) (by decide +kernel)
theorem q_781 : (Jvm.Cond.fieldLink "java/lang/String" (1053 : Nat) "jdk/internal/util/Preconditions" "SIOOBE_FORMATTER" "Ljava/util/function/BiFunction;") ∈ AW := AW_m4 61 (by decide +kernel) (by decide +kernel)
theorem q_783 : (Jvm.Cond.methodLink "java/lang/String" (1059 : Nat) ({ cls := "jdk/internal/util/Preconditions", name := "checkIndex", desc := "(IILjava/util/function/BiFunction;)I" } : Jvm.MethodName)) ∈ AW := AW_m4 63 (by decide +kernel) (by decide +kernel)
theorem q_784 : (Jvm.Cond.static ({ cls := "jdk/internal/util/Preconditions", name := "checkIndex", desc := "(IILjava/util/function/BiFunction;)I" } : Jvm.MethodName)) ∈ AW := AW_m4 64 (by decide +kernel) (by decide +kernel)
theorem q_785 : (Jvm.Cond.code ({ cls := "jdk/internal/util/Preconditions", name := "checkIndex", desc := "(IILjava/util/function/BiFunction;)I" } : Jvm.MethodName) prog_36_method_11_code (3 : Nat) (Option.some Jvm.ClassFile.FieldType.int)) ∈ AW := AW_m4 65 (by decide +kernel) (by decide +kernel)
theorem hd_yJ0_coder_7d493 : yJ0_coder_7d493.cls ≠ "java/lang/invoke/MethodHandle" ∧ yJ0_coder_7d493.cls ≠ "java/lang/invoke/VarHandle" ∧ (parseMethodDescriptor yJ0_coder_7d493.desc).map (fun d => d.parameters.length) = some 0 := by decide +kernel
theorem hd_yJ3_checkIndex_8e157 : yJ3_checkIndex_8e157.cls ≠ "java/lang/invoke/MethodHandle" ∧ yJ3_checkIndex_8e157.cls ≠ "java/lang/invoke/VarHandle" ∧ (parseMethodDescriptor yJ3_checkIndex_8e157.desc).map (fun d => d.parameters.length) = some 3 := by decide +kernel
theorem hd_yJ0_checkIndex_df160 : yJ0_checkIndex_df160.cls ≠ "java/lang/invoke/MethodHandle" ∧ yJ0_checkIndex_df160.cls ≠ "java/lang/invoke/VarHandle" ∧ (parseMethodDescriptor yJ0_checkIndex_df160.desc).map (fun d => d.parameters.length) = some 2 := by decide +kernel
theorem hd_yJ0_isLatin1_aae02 : yJ0_isLatin1_aae02.cls ≠ "java/lang/invoke/MethodHandle" ∧ yJ0_isLatin1_aae02.cls ≠ "java/lang/invoke/VarHandle" ∧ (parseMethodDescriptor yJ0_isLatin1_aae02.desc).map (fun d => d.parameters.length) = some 0 := by decide +kernel
theorem hd_yJ1_charAt_3b067 : yJ1_charAt_3b067.cls ≠ "java/lang/invoke/MethodHandle" ∧ yJ1_charAt_3b067.cls ≠ "java/lang/invoke/VarHandle" ∧ (parseMethodDescriptor yJ1_charAt_3b067.desc).map (fun d => d.parameters.length) = some 2 := by decide +kernel
theorem mv_yJ0_coder_7d493 : zWv yJ0_coder_7d493 cJ0_coder_7d493 1 (some .byte) := ⟨q_763, q_764, q_13, q_765⟩
theorem ms_yJ3_checkIndex_8e157 : zWs yJ3_checkIndex_8e157 cJ3_checkIndex_8e157 3 (some .int) := ⟨q_784, q_23, q_785⟩
theorem ms_yJ0_checkIndex_df160 : zWs yJ0_checkIndex_df160 cJ0_checkIndex_df160 2 none := ⟨q_779, q_13, q_780⟩
theorem mv_yJ0_isLatin1_aae02 : zWv yJ0_isLatin1_aae02 cJ0_isLatin1_aae02 1 (some .boolean) := ⟨q_772, q_773, q_13, q_774⟩
theorem ms_yJ1_charAt_3b067 : zWs yJ1_charAt_3b067 cJ1_charAt_3b067 2 (some .char) := ⟨q_776, q_22, q_777⟩
end
section
-- 54.dec.lean.txt
-- decode rows of str
theorem dJ0_coder_7d493_0 : decode cJ0_coder_7d493 0 = .ok (.getstatic 38, 3) := by decide +kernel
theorem dJ0_coder_7d493_3 : decode cJ0_coder_7d493 3 = .ok (.ifCond .eq 10, 3) := by decide +kernel
theorem dJ0_coder_7d493_6 : decode cJ0_coder_7d493 6 = .ok (.aload_n 0, 1) := by decide +kernel
theorem dJ0_coder_7d493_7 : decode cJ0_coder_7d493 7 = .ok (.getfield 15, 3) := by decide +kernel
theorem dJ0_coder_7d493_10 : decode cJ0_coder_7d493 10 = .ok (.goto 4, 3) := by decide +kernel
theorem dJ0_coder_7d493_14 : decode cJ0_coder_7d493 14 = .ok (.ireturn, 1) := by decide +kernel
theorem dJ0_isLatin1_aae02_0 : decode cJ0_isLatin1_aae02 0 = .ok (.getstatic 38, 3) := by decide +kernel
theorem dJ0_isLatin1_aae02_3 : decode cJ0_isLatin1_aae02 3 = .ok (.ifCond .eq 14, 3) := by decide +kernel
theorem dJ0_isLatin1_aae02_6 : decode cJ0_isLatin1_aae02 6 = .ok (.aload_n 0, 1) := by decide +kernel
theorem dJ0_isLatin1_aae02_7 : decode cJ0_isLatin1_aae02 7 = .ok (.getfield 15, 3) := by decide +kernel
theorem dJ0_isLatin1_aae02_10 : decode cJ0_isLatin1_aae02 10 = .ok (.ifCond .ne 7, 3) := by decide +kernel
theorem dJ0_isLatin1_aae02_13 : decode cJ0_isLatin1_aae02 13 = .ok (.iconst 1, 1) := by decide +kernel
theorem dJ0_isLatin1_aae02_14 : decode cJ0_isLatin1_aae02 14 = .ok (.goto 4, 3) := by decide +kernel
theorem dJ0_isLatin1_aae02_18 : decode cJ0_isLatin1_aae02 18 = .ok (.ireturn, 1) := by decide +kernel
theorem dJ0_length_8abf5_0 : decode cJ0_length_8abf5 0 = .ok (.aload_n 0, 1) := by decide +kernel
theorem dJ0_length_8abf5_1 : decode cJ0_length_8abf5 1 = .ok (.getfield 9, 3) := by decide +kernel
theorem dJ0_length_8abf5_4 : decode cJ0_length_8abf5 4 = .ok (.arraylength, 1) := by decide +kernel
theorem dJ0_length_8abf5_5 : decode cJ0_length_8abf5 5 = .ok (.aload_n 0, 1) := by decide +kernel
theorem dJ0_length_8abf5_6 : decode cJ0_length_8abf5 6 = .ok (.invokevirtual 335, 3) := by decide +kernel
theorem dJ0_length_8abf5_9 : decode cJ0_length_8abf5 9 = .ok (.ishr, 1) := by decide +kernel
theorem dJ0_length_8abf5_10 : decode cJ0_length_8abf5 10 = .ok (.ireturn, 1) := by decide +kernel
theorem dJ3_checkIndex_8e157_0 : decode cJ3_checkIndex_8e157 0 = .ok (.iload_n 0, 1) := by decide +kernel
theorem dJ3_checkIndex_8e157_1 : decode cJ3_checkIndex_8e157 1 = .ok (.ifCond .lt 8, 3) := by decide +kernel
theorem dJ3_checkIndex_8e157_4 : decode cJ3_checkIndex_8e157 4 = .ok (.iload_n 0, 1) := by decide +kernel
theorem dJ3_checkIndex_8e157_5 : decode cJ3_checkIndex_8e157 5 = .ok (.iload_n 1, 1) := by decide +kernel
theorem dJ3_checkIndex_8e157_6 : decode cJ3_checkIndex_8e157 6 = .ok (.if_icmp .lt 10, 3) := by decide +kernel
theorem dJ3_checkIndex_8e157_16 : decode cJ3_checkIndex_8e157 16 = .ok (.iload_n 0, 1) := by decide +kernel
theorem dJ3_checkIndex_8e157_17 : decode cJ3_checkIndex_8e157 17 = .ok (.ireturn, 1) := by decide +kernel
theorem dJ0_checkIndex_df160_0 : decode cJ0_checkIndex_df160 0 = .ok (.iload_n 0, 1) := by decide +kernel
theorem dJ0_checkIndex_df160_1 : decode cJ0_checkIndex_df160 1 = .ok (.iload_n 1, 1) := by decide +kernel
theorem dJ0_checkIndex_df160_2 : decode cJ0_checkIndex_df160 2 = .ok (.getstatic 1053, 3) := by decide +kernel
theorem dJ0_checkIndex_df160_5 : decode cJ0_checkIndex_df160 5 = .ok (.invokestatic 1059, 3) := by decide +kernel
theorem dJ0_checkIndex_df160_8 : decode cJ0_checkIndex_df160 8 = .ok (.pop, 1) := by decide +kernel
theorem dJ0_checkIndex_df160_9 : decode cJ0_checkIndex_df160 9 = .ok (.return_, 1) := by decide +kernel
theorem dJ1_charAt_3b067_0 : decode cJ1_charAt_3b067 0 = .ok (.iload_n 1, 1) := by decide +kernel
theorem dJ1_charAt_3b067_1 : decode cJ1_charAt_3b067 1 = .ok (.aload_n 0, 1) := by decide +kernel
theorem dJ1_charAt_3b067_2 : decode cJ1_charAt_3b067 2 = .ok (.arraylength, 1) := by decide +kernel
theorem dJ1_charAt_3b067_3 : decode cJ1_charAt_3b067 3 = .ok (.invokestatic 9, 3) := by decide +kernel
theorem dJ1_charAt_3b067_6 : decode cJ1_charAt_3b067 6 = .ok (.aload_n 0, 1) := by decide +kernel
theorem dJ1_charAt_3b067_7 : decode cJ1_charAt_3b067 7 = .ok (.iload_n 1, 1) := by decide +kernel
theorem dJ1_charAt_3b067_8 : decode cJ1_charAt_3b067 8 = .ok (.baload, 1) := by decide +kernel
theorem dJ1_charAt_3b067_9 : decode cJ1_charAt_3b067 9 = .ok (.sipush 255, 3) := by decide +kernel
theorem dJ1_charAt_3b067_12 : decode cJ1_charAt_3b067 12 = .ok (.iand, 1) := by decide +kernel
theorem dJ1_charAt_3b067_13 : decode cJ1_charAt_3b067 13 = .ok (.i2c, 1) := by decide +kernel
theorem dJ1_charAt_3b067_14 : decode cJ1_charAt_3b067 14 = .ok (.ireturn, 1) := by decide +kernel
theorem dJ0_charAt_5068e_0 : decode cJ0_charAt_5068e 0 = .ok (.aload_n 0, 1) := by decide +kernel
theorem dJ0_charAt_5068e_1 : decode cJ0_charAt_5068e 1 = .ok (.invokevirtual 492, 3) := by decide +kernel
theorem dJ0_charAt_5068e_4 : decode cJ0_charAt_5068e 4 = .ok (.ifCond .eq 12, 3) := by decide +kernel
theorem dJ0_charAt_5068e_7 : decode cJ0_charAt_5068e 7 = .ok (.aload_n 0, 1) := by decide +kernel
theorem dJ0_charAt_5068e_8 : decode cJ0_charAt_5068e 8 = .ok (.getfield 9, 3) := by decide +kernel
theorem dJ0_charAt_5068e_11 : decode cJ0_charAt_5068e 11 = .ok (.iload_n 1, 1) := by decide +kernel
theorem dJ0_charAt_5068e_12 : decode cJ0_charAt_5068e 12 = .ok (.invokestatic 495, 3) := by decide +kernel
theorem dJ0_charAt_5068e_15 : decode cJ0_charAt_5068e 15 = .ok (.ireturn, 1) := by decide +kernel
end
section
-- 55.str.lean.txt
theorem zC.S {p : Program} {s : State} {m : MethodId} {args : Array Value} {c : Code} {cc : ByteArray} {nL : Nat} {own : String} {D : va_G} {A : Nat → Prop} {cs : Nat → ClassId} {tt : Nat} (C : zC p s m args c cc nL own D A cs tt) : zS A cs s := C.2.2.2.2.2.2.2.2.2.2.2.2.2
theorem SKL_len : ∀ q ∈ SKL, 1 ≤ q.2.2.2.2.length ∧ q.2.2.2.2.length ≤ 6 := by decide
theorem ldcw_str {p : Program} {l : Launch} {e : Env} {R : Room} {s : State} {m : MethodId} {args : Array Value} {below : List Frame} {meth : Method} {c : Code} {T : State} {locs : List Loc} {cells slots : Nat} (X : Stand p l e R s m args below meth c T locs cells slots) (hexec : p.tables.exec = Jvm.exec) {own text : String} {index a : Nat} (hown : s.vm.findClass own = some m.cls) (hconst : (Cond.stringRef own index text).before args s = true) (hev : (Term.string own index).eval args s none [] s = some (.ref a)) {g : JFrame} (hg : g.method = m) (hdg : decode c.code g.pc = .ok (.ldc_w index, 3)) : ∀ target, Steps p.tables e below (T.setTop { g with pc := g.pc + 3, stack := .ref a :: g.stack }) target → Steps p.tables e below (T.setTop g) target := by
  obtain ⟨k, cf, i, a', hk, hcf, hcp, -, hr, hev'⟩ := Cond.stringRef_spec hown hconst
  cases hev.symm.trans hev'
  obtain ⟨k', hk', he⟩ := X.warmed.alike.2.2 _ _ hk
  have hr' : k'.resolved[index]? = some (some (.string a)) := by
    rcases X.warmed.entry hk hk' index with h | ⟨h, -⟩
    · rw [h]; exact hr
    · rw [hr] at h; cases h
  intro target hrest
  subst hg
  jvm_step X.here [hexec, hdg, ldc_w.wp_string (e := e) (s := T) (f := g) X.here.top hk' (by rw [he]; exact hcf) hcp hr']
  exact hrest
section ZSTR
variable {p : Program} {l : Launch} {e : Env} {R : Room} {s : State} {m : MethodId} {args : Array Value} {below : List Frame} {meth : Method} {c : Code} {Q : State → Prop} {D : va_G} {A : Nat → Prop} {cs : Nat → ClassId} {tt : Nat} {cc : ByteArray} {nL : Nat} {own : String} {N : Nat} {ad : Nat → Nat} {g : Nat → va_E} {k n pc : Nat} {lv lv' : List (Nat × Value)} {rest : List Value} {Qr : zR} {st : List Value} {q : String × Nat × String × Nat × List Int32}
theorem z_ldcS (C : zC p s m args c cc nL own D A cs tt) (hq : q ∈ SKL) {idx : Nat} (ho : q.1 = own) (hi : q.2.1 = idx) (hdg : decode cc pc = .ok (.ldc idx, 2)) (kk : zV p l e R s m args below meth c Q D A nL N ad g k n (pc + 2) (lv) (.ref (cs (100 + q.2.2.2.1)) :: rest)) : zV p l e R s m args below meth c Q D A nL N ad g k n (pc) (lv) (rest) := fun H locs ls hP hD hS hl => by
  subst ho; subst hi
  exact va_ldcS C.1 C.2.1 C.2.2.2.1 (C.S.1 q hq).1 hdg (kk H locs ls hP hD hS hl)
theorem z_ldcwS (C : zC p s m args c cc nL own D A cs tt) (hq : q ∈ SKL) {idx : Nat} (ho : q.1 = own) (hi : q.2.1 = idx) (hdg : decode cc pc = .ok (.ldc_w idx, 3)) (kk : zV p l e R s m args below meth c Q D A nL N ad g k n (pc + 3) (lv) (.ref (cs (100 + q.2.2.2.1)) :: rest)) : zV p l e R s m args below meth c Q D A nL N ad g k n (pc) (lv) (rest) := fun H locs ls hP hD hS hl => by
  subst ho; subst hi
  intro T hT X
  obtain ⟨t, a1, b1⟩ := kk H locs ls hP hD hS hl T hT X
  have hz := (C.S.1 q hq).1
  exact ⟨t, ldcw_str X C.1 C.2.2.2.1 (text := q.2.2.1) hz.1 hz.2 (g := F0 m pc ls rest) rfl (by rw [C.2.1]; exact hdg) t a1, b1⟩
theorem z_sval (C : zC p s m args c cc nL own D A cs tt) (hq : q ∈ SKL) {idx : Nat} (hlk : Cond.fieldLink own idx "java/lang/String" "value" "[B" ∈ AW) (hdg : decode cc pc = .ok (.getfield idx, 3)) (kk : zV p l e R s m args below meth c Q D A nL N ad g k n (pc + 3) (lv) (.ref (cs (200 + q.2.2.2.1)) :: rest)) : zV p l e R s m args below meth c Q D A nL N ad g k n (pc) (lv) (.ref (cs (100 + q.2.2.2.1)) :: rest) := fun H locs ls hP hD hS hl => vk_getf C.1 C.2.1 (C.S.1 q hq).2.2.2.1 hS C.2.2.2.1 (C.2.2.2.2.1 _ hlk) (fun _ h => h) hdg (kk H locs ls hP hD hS hl)
theorem z_scod (C : zC p s m args c cc nL own D A cs tt) (hq : q ∈ SKL) {idx : Nat} (hlk : Cond.fieldLink own idx "java/lang/String" "coder" "B" ∈ AW) (hdg : decode cc pc = .ok (.getfield idx, 3)) (kk : zV p l e R s m args below meth c Q D A nL N ad g k n (pc + 3) (lv) (.int (zI 0) :: rest)) : zV p l e R s m args below meth c Q D A nL N ad g k n (pc) (lv) (.ref (cs (100 + q.2.2.2.1)) :: rest) := fun H locs ls hP hD hS hl => vk_getf C.1 C.2.1 (C.S.1 q hq).2.2.1 hS C.2.2.2.1 (C.2.2.2.2.1 _ hlk) (fun _ h => h) hdg (kk H locs ls hP hD hS hl)
theorem z_salen (C : zC p s m args c cc nL own D A cs tt) (hq : q ∈ SKL) (hdg : decode cc pc = .ok (.arraylength, 1)) (kk : zV p l e R s m args below meth c Q D A nL N ad g k n (pc + 1) (lv) (.int (zI (q.2.2.2.2.length : Int)) :: rest)) : zV p l e R s m args below meth c Q D A nL N ad g k n (pc) (lv) (.ref (cs (200 + q.2.2.2.1)) :: rest) := fun H locs ls hP hD hS hl => va_tlen C.1 C.2.1 (C.S.1 q hq).2.2.2.2 hS (zI_nat _) hdg (kk H locs ls hP hD hS hl)
theorem z_sbald (C : zC p s m args c cc nL own D A cs tt) (hq : q ∈ SKL) (j : Nat) {z y : Int} (hz : z = (j : Int)) (hj : j < q.2.2.2.2.length) (hv : q.2.2.2.2.getD j 0 = zI y) (hdg : decode cc pc = .ok (.baload, 1)) (kk : zV p l e R s m args below meth c Q D A nL N ad g k n (pc + 1) (lv) (.int (zI y) :: rest)) : zV p l e R s m args below meth c Q D A nL N ad g k n (pc) (lv) (.int (zI z) :: .ref (cs (200 + q.2.2.2.1)) :: rest) := fun H locs ls hP hD hS hl => by
  subst hz
  have hL := SKL_len q hq
  exact va_tb C.1 C.2.1 (C.S.1 q hq).2.2.2.2 hS (zI_in hj (by omega)) (show Value.int (q.2.2.2.2.getD (zI (j : Int)).toNatClampNeg 0) = .int (zI y) by rw [zI_clN (by omega), hv]) hdg (kk H locs ls hP hD hS hl)
theorem z_gsQ (C : zC p s m args c cc nL own D A cs tt) {idx : Nat} (hlk : Cond.fieldLink own idx "jdk/internal/util/Preconditions" "SIOOBE_FORMATTER" "Ljava/util/function/BiFunction;" ∈ AW) (hdg : decode cc pc = .ok (.getstatic idx, 3)) (kn : zV p l e R s m args below meth c Q D A nL N ad g k n (pc + 3) (lv) (.null :: rest)) (kr : ∀ t : Nat, zV p l e R s m args below meth c Q D A nL N ad g k n (pc + 3) (lv) (.ref t :: rest)) : zV p l e R s m args below meth c Q D A nL N ad g k n (pc) (lv) (rest) := fun H locs ls hP hD hS hl => by
  rcases C.S.2.2 with h | ⟨t, h⟩
  · exact va_gets C.1 C.2.1 h hS C.2.2.2.1 (C.2.2.2.2.1 _ hlk) (fun _ h => h) hdg (kn H locs ls hP hD hS hl)
  · exact va_gets C.1 C.2.1 h hS C.2.2.2.1 (C.2.2.2.2.1 _ hlk) (fun _ h => h) hdg (kr t H locs ls hP hD hS hl)
theorem z_cVs (C : zC p s m args c cc nL own D A cs tt) {y : MethodName} {cb : ByteArray} {mL index : Nat} {ret : Option FieldType} {rm : Room} {As : List Value} (hq : q ∈ SKL) (hM : zM l y cb mL ret rm D A cs tt N ad g (.ref (cs (100 + q.2.2.2.1)) :: As) Qr) (hyc : y.cls = "java/lang/String") (hw : zWv y cb mL ret) (hlk : Cond.methodLink own index y ∈ AW) (hd : y.cls ≠ "java/lang/invoke/MethodHandle" ∧ y.cls ≠ "java/lang/invoke/VarHandle" ∧ (parseMethodDescriptor y.desc).map (fun d => d.parameters.length) = some As.length) (hR : rm.frames + 1 ≤ R.frames ∧ 8 + (mL + 11) + rm.locals ≤ R.locals) (hrest : (rest.map fun v => v.category).sum ≤ 8) (hf : k + rm.cells ≤ R.cells ∧ n + rm.slots ≤ R.slots) (hdg : decode cc pc = .ok (.invokevirtual index, 3)) (hst : st = As.reverse ++ .ref (cs (100 + q.2.2.2.1)) :: rest)
    (kk : ∀ (r : Option Value) (N' : Nat) (ad' : Nat → Nat) (g' : Nat → va_E), Qr r N' ad' g' → zV p l e R s m args below meth c Q D A nL N' ad' g' (k + rm.cells) (n + rm.slots) (pc + 3) (lv) (r.toList ++ rest)) : zV p l e R s m args below meth c Q D A nL N ad g k n (pc) (lv) (st) := fun H locs ls hP hD hS hl => by
  have hG : GoodIn AW (wsV own index y.cls y (Cond.code y cb mL ret :: AW)) := AW_in (fun w h => by
    rcases List.mem_append.mp h with h | h
    · rcases List.mem_cons.mp h with rfl | h
      · exact hlk
      · rcases List.mem_cons.mp h with rfl | h
        · exact hw.1
        · rcases List.mem_cons.mp h with rfl | h
          · exact hw.2.1
          · rcases List.mem_cons.mp h with rfl | h
            · exact hw.2.2.1
            · exact absurd h List.not_mem_nil
    · rcases List.mem_cons.mp h with rfl | h
      · exact hw.2.2.2
      · exact h)
  have hrc : ∃ cell : Cell, H[cs (100 + q.2.2.2.1)]? = some cell ∧ cell.vm.isStatics = false ∧ s.vm.findClass y.cls = some cell.cls := by
    obtain ⟨cell, h1, h2, h3, h4⟩ := (C.S.1 q hq).2.1.kept hS.2.1
    exact ⟨cell, h1, h2, by rw [hyc]; exact h3⟩
  exact z_run (va_runV (As := As) (rest := rest) ⟨C.1, C.2.1, C.2.2.1, C.2.2.2.1, C.2.2.2.2.1⟩ hM (cwV As.length C.2.2.2.2.1 hG rfl rfl rfl ⟨rfl, hd⟩ hR) ⟨zPre.blind, hrc, (z_preS C hP hD hS).2⟩ rfl rfl hl.1 hst (lv_room hrest) hdg hf) hS hl kk
end ZSTR

theorem skm0 : (("SnowRecorder$TextReader", 61, "slope", 0, [115, 108, 111, 112, 101]) : String × Nat × String × Nat × List Int32) ∈ SKL := List.mem_of_getElem? (i := 0) rfl
theorem skm1 : (("SnowRecorder$TextReader", 71, "layer", 1, [108, 97, 121, 101, 114]) : String × Nat × String × Nat × List Int32) ∈ SKL := List.mem_of_getElem? (i := 1) rfl
theorem skm2 : (("SnowRecorder", 495, "powder", 2, [112, 111, 119, 100, 101, 114]) : String × Nat × String × Nat × List Int32) ∈ SKL := List.mem_of_getElem? (i := 2) rfl
theorem skm3 : (("SnowRecorder", 497, "grains", 3, [103, 114, 97, 105, 110, 115]) : String × Nat × String × Nat × List Int32) ∈ SKL := List.mem_of_getElem? (i := 3) rfl
theorem skm4 : (("SnowRecorder", 499, "facets", 4, [102, 97, 99, 101, 116, 115]) : String × Nat × String × Nat × List Int32) ∈ SKL := List.mem_of_getElem? (i := 4) rfl
theorem skm5 : (("SnowRecorder", 501, "crust", 5, [99, 114, 117, 115, 116]) : String × Nat × String × Nat × List Int32) ∈ SKL := List.mem_of_getElem? (i := 5) rfl
theorem skm6 : (("SnowRecorder", 503, "hoar", 6, [104, 111, 97, 114]) : String × Nat × String × Nat × List Int32) ∈ SKL := List.mem_of_getElem? (i := 6) rfl
theorem skm7 : (("SnowRecorder$TextReader", 76, "hour", 7, [104, 111, 117, 114]) : String × Nat × String × Nat × List Int32) ∈ SKL := List.mem_of_getElem? (i := 7) rfl
theorem skm8 : (("SnowRecorder$TextReader", 149, "snow", 8, [115, 110, 111, 119]) : String × Nat × String × Nat × List Int32) ∈ SKL := List.mem_of_getElem? (i := 8) rfl
theorem skm9 : (("SnowRecorder$TextReader", 151, "rain", 9, [114, 97, 105, 110]) : String × Nat × String × Nat × List Int32) ∈ SKL := List.mem_of_getElem? (i := 9) rfl
theorem skm10 : (("SnowRecorder$TextReader", 153, "hoar", 10, [104, 111, 97, 114]) : String × Nat × String × Nat × List Int32) ∈ SKL := List.mem_of_getElem? (i := 10) rfl
theorem skm11 : (("SnowRecorder$TextReader", 81, "strong", 11, [115, 116, 114, 111, 110, 103]) : String × Nat × String × Nat × List Int32) ∈ SKL := List.mem_of_getElem? (i := 11) rfl
theorem skm12 : (("SnowRecorder$TextReader", 87, "holds", 12, [104, 111, 108, 100, 115]) : String × Nat × String × Nat × List Int32) ∈ SKL := List.mem_of_getElem? (i := 12) rfl
theorem skm13 : (("SnowRecorder$TextReader", 89, "stiff", 13, [115, 116, 105, 102, 102]) : String × Nat × String × Nat × List Int32) ∈ SKL := List.mem_of_getElem? (i := 13) rfl
theorem skm14 : (("SnowRecorder", 487, " of ", 14, [32, 111, 102, 32]) : String × Nat × String × Nat × List Int32) ∈ SKL := List.mem_of_getElem? (i := 14) rfl
theorem skm15 : (("SnowRecorder", 489, " wet ", 15, [32, 119, 101, 116, 32]) : String × Nat × String × Nat × List Int32) ∈ SKL := List.mem_of_getElem? (i := 15) rfl
theorem skm16 : (("SnowRecorder", 491, " in ", 16, [32, 105, 110, 32]) : String × Nat × String × Nat × List Int32) ∈ SKL := List.mem_of_getElem? (i := 16) rfl
theorem skm17 : (("SnowRecorder", 493, " at ", 17, [32, 97, 116, 32]) : String × Nat × String × Nat × List Int32) ∈ SKL := List.mem_of_getElem? (i := 17) rfl
set_option maxRecDepth 100000 in
set_option maxHeartbeats 4000000 in
theorem c_coder (l : Launch) (D : va_G) (A : Nat → Prop) (cs : Nat → ClassId) (tt : Nat) (N : Nat) (ad : Nat → Nat) (g : Nat → va_E) (q : String × Nat × String × Nat × List Int32) (hq : q ∈ SKL) : zM l yJ0_coder_7d493 cJ0_coder_7d493 1 (some .byte) ({ frames := 1, cells := 0, slots := 0, locals := 60 } : Room) D A cs tt N ad g [.ref (cs (100 + q.2.2.2.1))] (rI0 N ad fun r g' => r = 0 ∧ g = g') := by
  have hqL := SKL_len q hq
  refine z_of (by decide) (Nat.le_of_ble_eq_true rfl) ?_
  intro p e s m below meth c C hr hlk hnm
  refine z_lv (lv' := [(0, .ref (cs (100 + q.2.2.2.1)))]) [0] rfl ?_
  refine z_getZ C q_766 dJ0_coder_7d493_0 ?_
  refine z_if_eq (tgt := 13) C dJ0_coder_7d493_3 (by decide) (by omega) (fun h => absurd h (by omega)) (fun _ => ?_)
  refine z_aload_n C 0 dJ0_coder_7d493_6 rfl ?_
  refine z_scod C hq q_1167 dJ0_coder_7d493_7 ?_
  refine z_goto (tgt := 14) C dJ0_coder_7d493_10 (by decide) ?_
  exact z_zret C hr hlk dJ0_coder_7d493_14 (by decide) (by decide) (by decide) ⟨0, rfl, rfl, rfl, rfl, rfl⟩

set_option maxRecDepth 100000 in
set_option maxHeartbeats 4000000 in
theorem c_isLatin1 (l : Launch) (D : va_G) (A : Nat → Prop) (cs : Nat → ClassId) (tt : Nat) (N : Nat) (ad : Nat → Nat) (g : Nat → va_E) (q : String × Nat × String × Nat × List Int32) (hq : q ∈ SKL) : zM l yJ0_isLatin1_aae02 cJ0_isLatin1_aae02 1 (some .boolean) ({ frames := 1, cells := 0, slots := 0, locals := 60 } : Room) D A cs tt N ad g [.ref (cs (100 + q.2.2.2.1))] (rI0 N ad fun r g' => r = 1 ∧ g = g') := by
  have hqL := SKL_len q hq
  refine z_of (by decide) (Nat.le_of_ble_eq_true rfl) ?_
  intro p e s m below meth c C hr hlk hnm
  refine z_lv (lv' := [(0, .ref (cs (100 + q.2.2.2.1)))]) [0] rfl ?_
  refine z_getZ C q_766 dJ0_isLatin1_aae02_0 ?_
  refine z_if_eq (tgt := 17) C dJ0_isLatin1_aae02_3 (by decide) (by omega) (fun h => absurd h (by omega)) (fun _ => ?_)
  refine z_aload_n C 0 dJ0_isLatin1_aae02_6 rfl ?_
  refine z_scod C hq q_1167 dJ0_isLatin1_aae02_7 ?_
  refine z_if_ne (tgt := 17) C dJ0_isLatin1_aae02_10 (by decide) (by omega) (fun h => absurd h (by omega)) (fun _ => ?_)
  refine z_iconst (z := 1) C dJ0_isLatin1_aae02_13 rfl ?_
  refine z_goto (tgt := 18) C dJ0_isLatin1_aae02_14 (by decide) ?_
  exact z_zret C hr hlk dJ0_isLatin1_aae02_18 (by decide) (by decide) (by decide) ⟨1, rfl, rfl, rfl, rfl, rfl⟩

theorem c16 {x : Int} (h : 0 ≤ x ∧ x ≤ 65535) : (zI x).toUInt32.toUInt16.toUInt32.toInt32 = zI x := by
  obtain ⟨n, rfl⟩ := Int.eq_ofNat_of_zero_le h.1
  rw [← zI_nat, ← Int32.toBitVec_inj]
  apply BitVec.eq_of_toNat_eq
  simp
  omega
theorem m16 {x : Int} (h : 0 ≤ x ∧ x ≤ 65535) : ((zI x).toUInt32 % 65536).toInt32 = zI x := by
  obtain ⟨n, rfl⟩ := Int.eq_ofNat_of_zero_le h.1
  rw [← zI_nat, ← Int32.toBitVec_inj]
  apply BitVec.eq_of_toNat_eq
  simp
  omega
theorem nc16 {x : Int} (h : 0 ≤ x ∧ x ≤ 65535) : narrow .char (.int (zI x)) = .int (zI x) := congrArg Value.int (c16 h)
theorem shr0 (x : Int) : zI x >>> (zI 0 &&& 31) = zI x := by simp [show zI 0 = (0 : Int32) from rfl]
set_option maxRecDepth 100000 in
set_option maxHeartbeats 4000000 in
theorem c_slen (l : Launch) (D : va_G) (A : Nat → Prop) (cs : Nat → ClassId) (tt : Nat) (N : Nat) (ad : Nat → Nat) (g : Nat → va_E) (q : String × Nat × String × Nat × List Int32) (hq : q ∈ SKL) : zM l yJ0_length_8abf5 cJ0_length_8abf5 1 (some .int) ({ frames := 2, cells := 0, slots := 0, locals := 120 } : Room) D A cs tt N ad g [.ref (cs (100 + q.2.2.2.1))] (rI0 N ad fun r g' => r = (q.2.2.2.2.length : Int) ∧ g = g') := by
  have hqL := SKL_len q hq
  refine z_of (by decide) (Nat.le_of_ble_eq_true rfl) ?_
  intro p e s m below meth c C hr hlk hnm
  refine z_lv (lv' := [(0, .ref (cs (100 + q.2.2.2.1)))]) [0] rfl ?_
  refine z_aload_n C 0 dJ0_length_8abf5_0 rfl ?_
  refine z_sval C hq q_1166 dJ0_length_8abf5_1 ?_
  refine z_salen C hq dJ0_length_8abf5_4 ?_
  refine z_aload_n C 0 dJ0_length_8abf5_5 rfl ?_
  refine z_cVs (As := []) (rest := [.int (zI ((q.2.2.2.2.length : Int)))]) C hq (c_coder l D A cs tt N ad _ q hq) rfl mv_yJ0_coder_7d493 q_762 hd_yJ0_coder_7d493 (by decide) (Nat.le_of_ble_eq_true rfl) (by decide) dJ0_length_8abf5_6 rfl (kI0 fun vy1 gvy1 hvy1 => ?_)
  obtain ⟨rfl, rfl⟩ := hvy1
  refine z_ishr (z := (q.2.2.2.2.length : Int)) C dJ0_length_8abf5_9 (shr0 _) ?_
  exact z_iret C hr hlk dJ0_length_8abf5_10 (by decide) (by decide) ⟨(q.2.2.2.2.length : Int), rfl, rfl, rfl, rfl, rfl⟩

set_option maxRecDepth 100000 in
set_option maxHeartbeats 4000000 in
theorem c_ckI_n (l : Launch) (D : va_G) (A : Nat → Prop) (cs : Nat → ClassId) (tt : Nat) (N : Nat) (ad : Nat → Nat) (g : Nat → va_E) (z n9 : Int) (hz : 0 ≤ z ∧ z < n9 ∧ n9 ≤ 2147483647) : zM l yJ3_checkIndex_8e157 cJ3_checkIndex_8e157 3 (some .int) ({ frames := 1, cells := 0, slots := 0, locals := 60 } : Room) D A cs tt N ad g [.int (zI (z)), .int (zI (n9)), .null] (rI0 N ad fun r g' => r = z ∧ g = g') := by
  refine z_of (by decide) (Nat.le_of_ble_eq_true rfl) ?_
  intro p e s m below meth c C hr hlk hnm
  refine z_lv (lv' := [(0, .int (zI (z))), (1, .int (zI (n9))), (2, .null)]) [0, 1, 2] rfl ?_
  refine z_iload_n C 0 dJ3_checkIndex_8e157_0 rfl ?_
  refine z_if_lt (tgt := 9) C dJ3_checkIndex_8e157_1 (by decide) (by omega) (fun h => absurd h (by omega)) (fun _ => ?_)
  refine z_iload_n C 0 dJ3_checkIndex_8e157_4 rfl ?_
  refine z_iload_n C 1 dJ3_checkIndex_8e157_5 rfl ?_
  refine z_icmp_lt (tgt := 16) C dJ3_checkIndex_8e157_6 (by decide) (by omega) (by omega) (fun _ => ?_) (fun h => absurd h (by omega))
  refine z_iload_n C 0 dJ3_checkIndex_8e157_16 rfl ?_
  exact z_iret C hr hlk dJ3_checkIndex_8e157_17 (by decide) (by decide) ⟨z, rfl, rfl, rfl, rfl, rfl⟩

set_option maxRecDepth 100000 in
set_option maxHeartbeats 4000000 in
theorem c_ckI_r (l : Launch) (D : va_G) (A : Nat → Prop) (cs : Nat → ClassId) (tt : Nat) (N : Nat) (ad : Nat → Nat) (g : Nat → va_E) (z n9 : Int) (hz : 0 ≤ z ∧ z < n9 ∧ n9 ≤ 2147483647) (t9 : Nat) : zM l yJ3_checkIndex_8e157 cJ3_checkIndex_8e157 3 (some .int) ({ frames := 1, cells := 0, slots := 0, locals := 60 } : Room) D A cs tt N ad g [.int (zI (z)), .int (zI (n9)), .ref t9] (rI0 N ad fun r g' => r = z ∧ g = g') := by
  refine z_of (by decide) (Nat.le_of_ble_eq_true rfl) ?_
  intro p e s m below meth c C hr hlk hnm
  refine z_lv (lv' := [(0, .int (zI (z))), (1, .int (zI (n9))), (2, .ref t9)]) [0, 1, 2] rfl ?_
  refine z_iload_n C 0 dJ3_checkIndex_8e157_0 rfl ?_
  refine z_if_lt (tgt := 9) C dJ3_checkIndex_8e157_1 (by decide) (by omega) (fun h => absurd h (by omega)) (fun _ => ?_)
  refine z_iload_n C 0 dJ3_checkIndex_8e157_4 rfl ?_
  refine z_iload_n C 1 dJ3_checkIndex_8e157_5 rfl ?_
  refine z_icmp_lt (tgt := 16) C dJ3_checkIndex_8e157_6 (by decide) (by omega) (by omega) (fun _ => ?_) (fun h => absurd h (by omega))
  refine z_iload_n C 0 dJ3_checkIndex_8e157_16 rfl ?_
  exact z_iret C hr hlk dJ3_checkIndex_8e157_17 (by decide) (by decide) ⟨z, rfl, rfl, rfl, rfl, rfl⟩

set_option maxRecDepth 100000 in
set_option maxHeartbeats 4000000 in
theorem c_ckS (l : Launch) (D : va_G) (A : Nat → Prop) (cs : Nat → ClassId) (tt : Nat) (N : Nat) (ad : Nat → Nat) (g : Nat → va_E) (z n9 : Int) (hz : 0 ≤ z ∧ z < n9 ∧ n9 ≤ 2147483647) : zM l yJ0_checkIndex_df160 cJ0_checkIndex_df160 2 none ({ frames := 2, cells := 0, slots := 0, locals := 120 } : Room) D A cs tt N ad g [.int (zI (z)), .int (zI (n9))] (rV0 N ad fun g' => g = g') := by
  refine z_of (by decide) (Nat.le_of_ble_eq_true rfl) ?_
  intro p e s m below meth c C hr hlk hnm
  refine z_lv (lv' := [(0, .int (zI (z))), (1, .int (zI (n9)))]) [0, 1] rfl ?_
  refine z_iload_n C 0 dJ0_checkIndex_df160_0 rfl ?_
  refine z_iload_n C 1 dJ0_checkIndex_df160_1 rfl ?_
  refine z_gsQ C q_781 dJ0_checkIndex_df160_2 ?_ (fun t9 => ?_)
  · refine z_cS (As := [.int (zI (z)), .int (zI (n9)), .null]) (rest := []) C (c_ckI_n l D A cs tt N ad _ (z) (n9) (by omega)) ms_yJ3_checkIndex_8e157 q_783 hd_yJ3_checkIndex_8e157 (by decide) (Nat.le_of_ble_eq_true rfl) (by decide) dJ0_checkIndex_df160_5 rfl (kI0 fun vy1 gvy1 hvy1 => ?_)
    obtain ⟨rfl, rfl⟩ := hvy1
    refine z_pop C dJ0_checkIndex_df160_8 rfl ?_
    exact z_vret C hr hlk dJ0_checkIndex_df160_9 (by decide) (by decide) ⟨rfl, rfl, rfl, rfl⟩
  · refine z_cS (As := [.int (zI (z)), .int (zI (n9)), .ref t9]) (rest := []) C (c_ckI_r l D A cs tt N ad _ (z) (n9) (by omega) _) ms_yJ3_checkIndex_8e157 q_783 hd_yJ3_checkIndex_8e157 (by decide) (Nat.le_of_ble_eq_true rfl) (by decide) dJ0_checkIndex_df160_5 rfl (kI0 fun vy2 gvy2 hvy2 => ?_)
    obtain ⟨rfl, rfl⟩ := hvy2
    refine z_pop C dJ0_checkIndex_df160_8 rfl ?_
    exact z_vret C hr hlk dJ0_checkIndex_df160_9 (by decide) (by decide) ⟨rfl, rfl, rfl, rfl⟩

set_option maxRecDepth 100000 in
set_option maxHeartbeats 4000000 in
theorem c_L1charAt (l : Launch) (D : va_G) (A : Nat → Prop) (cs : Nat → ClassId) (tt : Nat) (N : Nat) (ad : Nat → Nat) (g : Nat → va_E) (q : String × Nat × String × Nat × List Int32) (hq : q ∈ SKL) (z : Int) (hz : 0 ≤ z ∧ z < (q.2.2.2.2.length : Int)) : zM l yJ1_charAt_3b067 cJ1_charAt_3b067 2 (some .char) ({ frames := 3, cells := 0, slots := 0, locals := 180 } : Room) D A cs tt N ad g [.ref (cs (200 + q.2.2.2.1)), .int (zI (z))] (rI0 N ad fun r g' => (0 ≤ r ∧ r ≤ 255) ∧ g = g') := by
  have hqL := SKL_len q hq
  refine z_of (by decide) (Nat.le_of_ble_eq_true rfl) ?_
  intro p e s m below meth c C hr hlk hnm
  refine z_lv (lv' := [(0, .ref (cs (200 + q.2.2.2.1))), (1, .int (zI (z)))]) [0, 1] rfl ?_
  refine z_iload_n C 1 dJ1_charAt_3b067_0 rfl ?_
  refine z_aload_n C 0 dJ1_charAt_3b067_1 rfl ?_
  refine z_salen C hq dJ1_charAt_3b067_2 ?_
  refine z_cS (As := [.int (zI (z)), .int (zI ((q.2.2.2.2.length : Int)))]) (rest := []) C (c_ckS l D A cs tt N ad _ (z) ((q.2.2.2.2.length : Int)) (by omega)) ms_yJ0_checkIndex_df160 q_778 hd_yJ0_checkIndex_df160 (by decide) (Nat.le_of_ble_eq_true rfl) (by decide) dJ1_charAt_3b067_3 rfl (kV0 fun gvy1 hvy1 => ?_)
  obtain rfl := hvy1
  refine z_aload_n C 0 dJ1_charAt_3b067_6 rfl ?_
  refine z_iload_n C 1 dJ1_charAt_3b067_7 rfl ?_
  obtain ⟨yy2, eyy2, hyy2⟩ := zI_of (q.2.2.2.2.getD ((z).toNat) 0)
  refine z_sbald (y := yy2) C hq ((z).toNat) (by omega) (by omega) eyy2 dJ1_charAt_3b067_8 ?_
  refine z_sipush (z := 255) C dJ1_charAt_3b067_9 (by decide) ?_
  obtain ⟨xy3, exy4, hxy5⟩ := zI_and (zI (yy2)) (m := zI 255) 8 (by decide)
  refine z_iand (z := xy3) C dJ1_charAt_3b067_12 exy4 ?_
  refine z_i2c (z := xy3) C dJ1_charAt_3b067_13 (m16 (by omega)) ?_
  exact z_zret C hr hlk dJ1_charAt_3b067_14 (nc16 (by omega)) (by decide) (by decide) ⟨xy3, rfl, rfl, rfl, by omega, rfl⟩

set_option maxRecDepth 100000 in
set_option maxHeartbeats 4000000 in
theorem c_scharAt (l : Launch) (D : va_G) (A : Nat → Prop) (cs : Nat → ClassId) (tt : Nat) (N : Nat) (ad : Nat → Nat) (g : Nat → va_E) (q : String × Nat × String × Nat × List Int32) (hq : q ∈ SKL) (z : Int) (hz : 0 ≤ z ∧ z < (q.2.2.2.2.length : Int)) : zM l yJ0_charAt_5068e cJ0_charAt_5068e 2 (some .char) ({ frames := 4, cells := 0, slots := 0, locals := 240 } : Room) D A cs tt N ad g [.ref (cs (100 + q.2.2.2.1)), .int (zI (z))] (rI0 N ad fun r g' => (0 ≤ r ∧ r ≤ 255) ∧ g = g') := by
  have hqL := SKL_len q hq
  refine z_of (by decide) (Nat.le_of_ble_eq_true rfl) ?_
  intro p e s m below meth c C hr hlk hnm
  refine z_lv (lv' := [(0, .ref (cs (100 + q.2.2.2.1))), (1, .int (zI (z)))]) [0, 1] rfl ?_
  refine z_aload_n C 0 dJ0_charAt_5068e_0 rfl ?_
  refine z_cVs (As := []) (rest := []) C hq (c_isLatin1 l D A cs tt N ad _ q hq) rfl mv_yJ0_isLatin1_aae02 q_771 hd_yJ0_isLatin1_aae02 (by decide) (Nat.le_of_ble_eq_true rfl) (by decide) dJ0_charAt_5068e_1 rfl (kI0 fun vy1 gvy1 hvy1 => ?_)
  obtain ⟨rfl, rfl⟩ := hvy1
  refine z_if_eq (tgt := 16) C dJ0_charAt_5068e_4 (by decide) (by omega) (fun h => absurd h (by omega)) (fun _ => ?_)
  refine z_aload_n C 0 dJ0_charAt_5068e_7 rfl ?_
  refine z_sval C hq q_1166 dJ0_charAt_5068e_8 ?_
  refine z_iload_n C 1 dJ0_charAt_5068e_11 rfl ?_
  refine z_cS (As := [.ref (cs (200 + q.2.2.2.1)), .int (zI (z))]) (rest := []) C (c_L1charAt l D A cs tt N ad _ q hq (z) (by omega)) ms_yJ1_charAt_3b067 q_775 hd_yJ1_charAt_3b067 (by decide) (Nat.le_of_ble_eq_true rfl) (by decide) dJ0_charAt_5068e_12 rfl (kI0 fun vy2 gvy2 hvy2 => ?_)
  obtain ⟨hvy2, rfl⟩ := hvy2
  exact z_zret C hr hlk dJ0_charAt_5068e_15 (nc16 (by omega)) (by decide) (by decide) ⟨vy2, rfl, rfl, rfl, by omega, rfl⟩
end
