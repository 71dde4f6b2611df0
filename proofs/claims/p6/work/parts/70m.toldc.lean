set_option maxRecDepth 100000 in
set_option maxHeartbeats 4000000 in
theorem c_X9_told (l : Launch) (D : va_G) (A : Nat → Prop) (cs : Nat → ClassId) (tt : Nat) (N : Nat) (ad : Nat → Nat) (g : Nat → va_E) (hN : 952 ≤ N) (t fp im nz kz sl ho ua : Int) (st op ai fa mu tb tp : Nat → Int) (hR : okRec cs ad g N t fp im nz kz sl ho ua st op ai fa mu tb tp) (hl0 : l.stackTraces = false) (z : Int) (hz : -2147483648 ≤ z ∧ z ≤ 2147483647) (z1 : Int) (hz1 : -2147483648 ≤ z1 ∧ z1 ≤ 2147483647) (z2 : Int) (hz2 : -2147483648 ≤ z2 ∧ z2 ≤ 2147483647) : zMX l yX9_told cX9_told 5 (some .int) ({ frames := 9, cells := 16, slots := 2150, locals := 540 } : Room) D A cs tt N ad g [.ref (ad 0), .int (zI (z)), .int (zI (z1)), .int (zI (z2))] (rI fun r N' ad' g' => okRec cs ad' g' N' t fp im nz kz sl ho ua st op ai fa mu tb tp ∧ GR N ad g N' ad' g') (fun E N' ad' g' => E = eNS ∧ okRec cs ad' g' N' t fp im nz kz sl ho ua st op ai fa mu tb tp ∧ GR N ad g N' ad' g') := by
  obtain ⟨ary1, bry1, cry1, dry1, ery1, fry1, gry11, hry1, ⟨acry1, iry1⟩, ⟨kcry1, jry1⟩, kry1, lry1, mry1, nry1, ory1, pry1⟩ := id hR
  have hay2 : zAt ad (0) (ad 0) := rfl
  have hay3 : zAt ad (1) (ad 1) := rfl
  have hay4 : zAt ad (2) (ad 2) := rfl
  have hay5 : zAt ad (4) (ad 4) := rfl
  have hay6 : zAt ad (11) (ad 11) := rfl
  have hay7 : zAt ad (447) (ad 447) := rfl
  have hay8 : zAt ad (883) (ad 883) := rfl
  have hay9 : zAt ad (890) (ad 890) := rfl
  have hay10 : zAt ad (900) (ad 900) := rfl
  have hay11 : zAt ad (910) (ad 910) := rfl
  have hay12 : zAt ad (917) (ad 917) := rfl
  have hay13 : zAt ad (919) (ad 919) := rfl
  have hay14 : zAt ad (4 + 1) (ad (4 + 1)) := rfl
  have hay15 : zAt ad (4 + 2) (ad (4 + 2)) := rfl
  have hay16 : zAt ad (4 + 3) (ad (4 + 3)) := rfl
  have hay17 : zAt ad (4 + 4) (ad (4 + 4)) := rfl
  have hay18 : zAt ad (4 + 5) (ad (4 + 5)) := rfl
  have hay19 : zAt ad (4 + 6) (ad (4 + 6)) := rfl
  obtain ⟨thcy20, zhcy20, ohcy20, rhcy20, hzhcy20, hthcy20, hwhcy20⟩ := id lry1
  obtain ⟨thcy21, zhcy21, ohcy21, rhcy21, hzhcy21, hthcy21, hwhcy21⟩ := id mry1
  obtain ⟨asy22, bsy22, csy22, dsy22, esy22, ⟨ptsy22, fsy22, gsy221⟩, hsy22, ⟨nusy22, nvsy22, nwsy22, isy22, jsy22, ksy22, lsy22, msy22, nsy22⟩, rfsy22, osy22⟩ := id iry1
  have hay23 : zAt ad (11 + 1) (ad (11 + 1)) := rfl
  have hay24 : zAt ad (11 + 11) (ad (11 + 11)) := rfl
  have hay25 : zAt ad (11 + 12) (ad (11 + 12)) := rfl
  have hay26 : zAt ad (11 + 13) (ad (11 + 13)) := rfl
  have hay27 : zAt ad (11 + 13 + 1) (ad (11 + 13 + 1)) := rfl
  have hay28 : zAt ad (11 + 13 + 2) (ad (11 + 13 + 2)) := rfl
  have hay29 : zAt ad (11 + 13 + 3) (ad (11 + 13 + 3)) := rfl
  have hay30 : zAt ad (11 + 17) (ad (11 + 17)) := rfl
  obtain ⟨uy31t, uy31z, uy31o, uy31r, uy31z4, uy31t5, uy311, ⟨uy31u, uy312, uy313⟩, uy314⟩ := id csy22
  have hay32 : zAt ad (11 + 1) (ad (11 + 1)) := rfl
  have hay33 : zAt ad (11 + 1 + 1) (ad (11 + 1 + 1)) := rfl
  refine z_ofX (by decide) (Nat.le_of_ble_eq_true rfl) ?_
  intro p e s m below meth c C hr hlk hxt
  refine z_lv (lv' := [(0, .ref (ad 0)), (1, .int (zI (z))), (2, .int (zI (z1))), (3, .int (zI (z2)))]) [0, 1, 2, 3] rfl ?_
  refine z_aload_n C 0 dX9_told_0 rfl ?_
  refine z_iload_n C 1 dX9_told_1 rfl ?_
  have hrecy35 : okRec cs ad g N (t) (fp) (im) (nz) (kz) (sl) (ho) (ua) (st) (op) (ai) (fa) (mu) (tb) (tp) := ⟨ary1, bry1, cry1, dry1, ery1, fry1, gry11, hry1, ⟨_, iry1⟩, ⟨_, jry1⟩, kry1, lry1, mry1, nry1, ory1, pry1⟩
  refine z_cVX (As := [.int (zI (z))]) (rest := []) (ci := 11) C (c_X9_packOf l D A cs tt N ad _ hN _ _ _ _ _ _ _ _ _ _ _ _ _ _ _ hrecy35 hl0 (z) (by omega)) (lt_K hN (rfl : Nat.blt (0) 952 = true)) hay2 ary1 rfl rfl mv_yX9_packOf q_936 hd_yX9_packOf (by decide) (Nat.le_of_ble_eq_true rfl) (by decide) dX9_told_2 rfl (fun E N' ad' g' h => by obtain ⟨rfl, rfl, rfl, rfl⟩ := h; exact z_uout C hxt hlk (by decide) (by decide) ⟨rfl, hR, GR.refl⟩) (kR0 fun avy34 gvy34 hvy34 => ?_)
  obtain ⟨hvy34, rfl, rfl⟩ := hvy34
  have hay36 : zAt ad (11 + 1 + 2 + 2 * (z).toNat) (ad (11 + 1 + 2 + 2 * (z).toNat)) := rfl
  have hay37 : zAt ad (11 + 1 + 2 + 2 * (z).toNat + 1) (ad (11 + 1 + 2 + 2 * (z).toNat + 1)) := rfl
  have hpy38 := uy314 (z).toNat (by omega)
  have hqy39 := uy31z4 (z).toNat (by omega)
  refine z_astore (lv' := [(4, .ref (ad (11 + 1 + 2 + 2 * (z).toNat))), (0, .ref (ad 0)), (1, .int (zI (z))), (2, .int (zI (z1))), (3, .int (zI (z2)))]) C dX9_told_5 (by decide) rfl ?_
  refine z_aload_n C 1 dX9_told_7 rfl ?_
  refine z_aload C 0 dX9_told_8 rfl ?_
  refine z_iload_n C 3 dX9_told_10 rfl ?_
  refine z_cVX (As := [.ref (ad (11 + 1 + 2 + 2 * (z).toNat)), .int (zI (z1))]) (rest := []) (ci := 11) C (c_X9_needLayer l D A cs tt N ad _ (11 + 1 + 2 + 2 * (z).toNat) (by omega) _ _ _ (by omega) ⟨hpy38.1, hpy38.2⟩ hl0 _ (z1) (by omega)) (lt_K hN (rfl : Nat.blt (0) 952 = true)) hay2 ary1 rfl rfl mv_yX9_needLayer q_955 hd_yX9_needLayer (by decide) (Nat.le_of_ble_eq_true rfl) (by decide) dX9_told_11 rfl (fun E N' ad' g' h => by obtain ⟨rfl, rfl, rfl, rfl⟩ := h; exact z_uout C hxt hlk (by decide) (by decide) ⟨rfl, hR, GR.refl⟩) (kV0 fun gvy40 hvy40 => ?_)
  obtain ⟨hvy40, rfl⟩ := hvy40
  refine z_aload_n C 1 dX9_told_14 rfl ?_
  refine z_aload C 0 dX9_told_15 rfl ?_
  refine z_iload_n C 3 dX9_told_17 rfl ?_
  obtain ⟨cn0, hB0⟩ := okRec.bld hR
  refine z_cV (As := [.ref (ad (11 + 1 + 2 + 2 * (z).toNat)), .int (zI (z1))]) (rest := []) (ci := 11) C (c_writeLine l D A cs tt N ad _ (by omega) _ _ hB0 (11 + 1 + 2 + 2 * (z).toNat) (by omega) (by omega) _ _ _ (by omega) ⟨hpy38.1, hpy38.2⟩ _ _ _ ary1 (z1) (by omega)) (lt_K hN (rfl : Nat.blt (0) 952 = true)) hay2 ary1 rfl rfl mv_yX9_writeLine q_974 hd_yX9_writeLine (by decide) (Nat.le_of_ble_eq_true rfl) (by decide) dX9_told_18 rfl (kV fun Nvy41 advy41 gvy41 hvy41 => ?_)
  obtain ⟨hG0vy41, cnvy41, hBvy41⟩ := hvy41
  have hRvy41 := okRec.grow hN hR hG0vy41 hBvy41
  obtain ⟨hNvy41, hAvy41, hGvy41⟩ := id hG0vy41
  obtain ⟨v_y42, cap_y42, ml_y42, b_y42, hv_y42, hvN_y42, hcap_y42, hcp_y42, hcn_y42, hml_y42, hby_y42, h9_y42, hgv_y42⟩ := id hBvy41
  have hay43 : zAt advy41 (v_y42) (advy41 v_y42) := rfl
  refine z_iload_n C 4 dX9_told_21 rfl ?_
  refine z_iconst (z := -1) C dX9_told_22 rfl ?_
  refine z_icmp_ne (tgt := 34) C dX9_told_23 (by decide) (by omega) (by omega) (fun hby44 => ?_) (fun hby44 => ?_)
  · refine z_iload_n C 4 dX9_told_34 rfl ?_
    refine z_if_lt (tgt := 49) C dX9_told_35 (by decide) (by omega) (fun hby45 => ?_) (fun hby45 => ?_)
    · exact z_thrN (cls := eNS) (text := "no such sign") C hl0 (ix := 13) (rx := nsB) ns0 ns1 ns2 ns5 (by decide +kernel) q_904 q_24 (by decide +kernel) at_NS gd_NS dX9_told_49 dX9_told_52 dX9_told_53 dX9_told_55 dX9_told_58 hxt (by decide) (Nat.le_of_ble_eq_true rfl) (by decide) (by decide) hlk (by decide) (by decide) ⟨rfl, hRvy41, hG0vy41⟩
    · refine z_iload_n C 4 dX9_told_38 rfl ?_
      refine z_aload_n C 1 dX9_told_39 rfl ?_
      have hay46 : zAt advy41 (0) (ad 0) := (hAvy41 (0) (lt_K hN (rfl : Nat.blt (0) 952 = true))).trans hay2
      have hgy47 := (hGvy41 (0) (by omega) (by decide) (by decide)).trans ary1
      refine z_get (v := .ref (ad 919)) C (by omega) hay46 hgy47 rfl inA_X9 13 (by decide) q_362 rfl rfl dX9_told_40 ?_
      have hBy48 : bldC cs advy41 gvy41 (Nvy41) (cnvy41) ((cap_y42 : Int)) := ⟨v_y42, cap_y42, ml_y42, b_y42, by omega, by omega, by omega, by omega, by omega, by omega, hby_y42, h9_y42, hgv_y42⟩
      have hay49 : zAt advy41 (919) (ad 919) := (hAvy41 (919) (lt_K hN (rfl : Nat.blt (919) 952 = true))).trans hay13
      refine z_cV (As := []) (rest := [.int (zI (z2))]) (ci := 1) C (c_sbLen l D A cs tt Nvy41 advy41 _ (by omega) _ _ hBy48 _ hay49) (by omega) hay49 h9_y42 rfl rfl mv_yJ4_length_8abf5 q_1201 hd_yJ4_length_8abf5 (by decide) (Nat.le_of_ble_eq_true rfl) (by decide) dX9_told_43 rfl (kI0 fun vy50 gvy50 hvy50 => ?_)
      obtain ⟨evy50, rfl⟩ := hvy50
      obtain rfl := evy50.symm
      refine z_icmp_lt (tgt := 59) C dX9_told_46 (by decide) (by omega) (by omega) (fun hby51 => ?_) (fun hby51 => ?_)
      · refine z_aload_n C 1 dX9_told_59 rfl ?_
        refine z_get (v := .ref (ad 919)) C (by omega) hay46 hgy47 rfl inA_X9 13 (by decide) q_362 rfl rfl dX9_told_60 ?_
        refine z_iload_n C 4 dX9_told_63 rfl ?_
        have hBy52 : bldC cs advy41 gvy41 (Nvy41) (cnvy41) ((cap_y42 : Int)) := ⟨v_y42, cap_y42, ml_y42, b_y42, by omega, by omega, by omega, by omega, by omega, by omega, hby_y42, h9_y42, hgv_y42⟩
        refine z_cV (As := [.int (zI (z2))]) (rest := []) (ci := 1) C (c_sbChar l D A cs tt Nvy41 advy41 _ (by omega) _ _ hBy52 _ hay49 (z2) (by omega)) (by omega) hay49 h9_y42 rfl rfl mv_yJ4_charAt_5068e q_1203 hd_yJ4_charAt_5068e (by decide) (Nat.le_of_ble_eq_true rfl) (by decide) dX9_told_64 rfl (kI0 fun vy53 gvy53 hvy53 => ?_)
        obtain ⟨hvy53, rfl⟩ := hvy53
        refine z_widen (k2 := 16) (n2 := 2150) (by decide) (by decide) ?_
        exact z_rX (z_iret C hr hlk dX9_told_67 (by decide) (by decide) ⟨_, rfl, hRvy41, hG0vy41⟩)
      · exact z_thrN (cls := eNS) (text := "no such sign") C hl0 (ix := 13) (rx := nsB) ns0 ns1 ns2 ns5 (by decide +kernel) q_904 q_24 (by decide +kernel) at_NS gd_NS dX9_told_49 dX9_told_52 dX9_told_53 dX9_told_55 dX9_told_58 hxt (by decide) (Nat.le_of_ble_eq_true rfl) (by decide) (by decide) hlk (by decide) (by decide) ⟨rfl, hRvy41, hG0vy41⟩
  · refine z_aload_n C 1 dX9_told_26 rfl ?_
    have hay54 : zAt advy41 (0) (ad 0) := (hAvy41 (0) (lt_K hN (rfl : Nat.blt (0) 952 = true))).trans hay2
    have hgy55 := (hGvy41 (0) (by omega) (by decide) (by decide)).trans ary1
    refine z_get (v := .ref (ad 919)) C (by omega) hay54 hgy55 rfl inA_X9 13 (by decide) q_362 rfl rfl dX9_told_27 ?_
    have hBy56 : bldC cs advy41 gvy41 (Nvy41) (cnvy41) ((cap_y42 : Int)) := ⟨v_y42, cap_y42, ml_y42, b_y42, by omega, by omega, by omega, by omega, by omega, by omega, hby_y42, h9_y42, hgv_y42⟩
    have hay57 : zAt advy41 (919) (ad 919) := (hAvy41 (919) (lt_K hN (rfl : Nat.blt (919) 952 = true))).trans hay13
    refine z_cV (As := []) (rest := []) (ci := 1) C (c_sbLen l D A cs tt Nvy41 advy41 _ (by omega) _ _ hBy56 _ hay57) (by omega) hay57 h9_y42 rfl rfl mv_yJ4_length_8abf5 q_1201 hd_yJ4_length_8abf5 (by decide) (Nat.le_of_ble_eq_true rfl) (by decide) dX9_told_30 rfl (kI0 fun vy58 gvy58 hvy58 => ?_)
    obtain ⟨evy58, rfl⟩ := hvy58
    obtain rfl := evy58.symm
    refine z_widen (k2 := 16) (n2 := 2150) (by decide) (by decide) ?_
    exact z_rX (z_iret C hr hlk dX9_told_33 (by decide) (by decide) ⟨_, rfl, hRvy41, hG0vy41⟩)

