theorem shl1_le {z x : Int} (hz : 0 ≤ z ∧ z ≤ 6) (he : zI 1 <<< (zI z &&& 31) = zI x) (hx : -2147483648 ≤ x ∧ x ≤ 2147483647) : 1 ≤ x ∧ x ≤ 64 := by
  have h : (zI 1 <<< (zI z &&& 31)).toInt = x := by rw [he, zI_to hx]
  rcases (show z = 0 ∨ z = 1 ∨ z = 2 ∨ z = 3 ∨ z = 4 ∨ z = 5 ∨ z = 6 by omega) with rfl | rfl | rfl | rfl | rfl | rfl | rfl <;> (rw [← h]; decide)
theorem nb01 {v : Int} (h : v = 0 ∨ v = 1) : narrow .boolean (.int (zI v)) = .int (zI v) := by rcases h with rfl | rfl <;> decide
theorem lk_out {ps : List (Int × Int)} {dflt a : Int} (h : ∀ q ∈ ps, q.1 ≠ a) : Op.lookupswitch.offset ps dflt a = dflt := by
  induction ps with
  | nil => rfl
  | cons q r ih =>
    show (if q.1 = a then q.2 else Op.lookupswitch.offset r dflt a) = dflt
    rw [if_neg (h q (List.mem_cons_self ..))]
    exact ih (fun q hq => h q (List.mem_cons_of_mem _ hq))

set_option maxRecDepth 100000 in
set_option maxHeartbeats 4000000 in
theorem c_X9_matters (l : Launch) (D : va_G) (A : Nat → Prop) (cs : Nat → ClassId) (tt : Nat) (N : Nat) (ad : Nat → Nat) (g : Nat → va_E) (hN : 952 ≤ N) (t fp im nz kz sl ho ua : Int) (st op ai fa mu tb tp : Nat → Int) (hR : okRec cs ad g N t fp im nz kz sl ho ua st op ai fa mu tb tp) (hl0 : l.stackTraces = false) (z : Int) (hz : -2147483648 ≤ z ∧ z ≤ 2147483647) (z1 : Int) (hz1 : -2147483648 ≤ z1 ∧ z1 ≤ 2147483647) (z2 : Int) (hz2 : -2147483648 ≤ z2 ∧ z2 ≤ 2147483647) : zMX l yX9_matters cX9_matters 9 (some .int) ({ frames := 12, cells := 6, slots := 60, locals := 720 } : Room) D A cs tt N ad g [.ref (ad 0), .int (zI (z)), .int (zI (z1)), .int (zI (z2))] (rI0 N ad fun r g' => (-2147483648 ≤ r ∧ r ≤ 2147483647) ∧ okRec cs ad g' N t fp im nz kz sl ho ua st op ai fa mu tb tp ∧ oX g g') (fun E N' ad' g' => (E = eNS ∨ E = eIA) ∧ N' = N ∧ ad' = ad ∧ g' = g) := by
  obtain ⟨ary1, bry1, cry1, dry1, ery1, fry1, gry11, hry1, ⟨acry1, iry1⟩, ⟨kcry1, jry1⟩, kry1, lry1, mry1, nry1, ory1, pry1⟩ := id hR
  have hay2 : zAt ad (0) (ad 0) := rfl
  have hay3 : zAt ad (1) (ad 1) := rfl
  have hay4 : zAt ad (2) (ad 2) := rfl
  have hay5 : zAt ad (4) (ad 4) := rfl
  have hay6 : zAt ad (11) (ad 11) := rfl
  have hay7 : zAt ad (447) (ad 447) := rfl
  have hay8 : zAt ad (883) (ad 883) := rfl
  have hay9 : zAt ad (890) (ad 890) := rfl
  have hay10 : zAt ad (900) (ad 900) := rfl
  have hay11 : zAt ad (910) (ad 910) := rfl
  have hay12 : zAt ad (917) (ad 917) := rfl
  have hay13 : zAt ad (919) (ad 919) := rfl
  have hay14 : zAt ad (4 + 1) (ad (4 + 1)) := rfl
  have hay15 : zAt ad (4 + 2) (ad (4 + 2)) := rfl
  have hay16 : zAt ad (4 + 3) (ad (4 + 3)) := rfl
  have hay17 : zAt ad (4 + 4) (ad (4 + 4)) := rfl
  have hay18 : zAt ad (4 + 5) (ad (4 + 5)) := rfl
  have hay19 : zAt ad (4 + 6) (ad (4 + 6)) := rfl
  obtain ⟨thcy20, zhcy20, ohcy20, rhcy20, hzhcy20, hthcy20, hwhcy20⟩ := id lry1
  obtain ⟨thcy21, zhcy21, ohcy21, rhcy21, hzhcy21, hthcy21, hwhcy21⟩ := id mry1
  obtain ⟨asy22, bsy22, csy22, dsy22, esy22, ⟨ptsy22, fsy22, gsy221⟩, hsy22, ⟨nusy22, nvsy22, nwsy22, isy22, jsy22, ksy22, lsy22, msy22, nsy22⟩, rfsy22, osy22⟩ := id iry1
  have hay23 : zAt ad (11 + 1) (ad (11 + 1)) := rfl
  have hay24 : zAt ad (11 + 11) (ad (11 + 11)) := rfl
  have hay25 : zAt ad (11 + 12) (ad (11 + 12)) := rfl
  have hay26 : zAt ad (11 + 13) (ad (11 + 13)) := rfl
  have hay27 : zAt ad (11 + 13 + 1) (ad (11 + 13 + 1)) := rfl
  have hay28 : zAt ad (11 + 13 + 2) (ad (11 + 13 + 2)) := rfl
  have hay29 : zAt ad (11 + 13 + 3) (ad (11 + 13 + 3)) := rfl
  have hay30 : zAt ad (11 + 17) (ad (11 + 17)) := rfl
  obtain ⟨uy31t, uy31z, uy31o, uy31r, uy31z4, uy31t5, uy311, ⟨uy31u, uy312, uy313⟩, uy314⟩ := id csy22
  have hay32 : zAt ad (11 + 1) (ad (11 + 1)) := rfl
  have hay33 : zAt ad (11 + 1 + 1) (ad (11 + 1 + 1)) := rfl
  obtain ⟨sloy34, hooy34, uaoy34, stoy34, opoy34, aioy34, faoy34, muoy34, tboy34, hsloy34, hhooy34, hpoy34⟩ := id kry1
  have hay35 : zAt ad (883 + 1) (ad (883 + 1)) := rfl
  have hay36 : zAt ad (883 + 2) (ad (883 + 2)) := rfl
  have hay37 : zAt ad (883 + 3) (ad (883 + 3)) := rfl
  have hay38 : zAt ad (883 + 4) (ad (883 + 4)) := rfl
  have hay39 : zAt ad (883 + 5) (ad (883 + 5)) := rfl
  have hay40 : zAt ad (883 + 6) (ad (883 + 6)) := rfl
  refine z_ofX (by decide) (Nat.le_of_ble_eq_true rfl) ?_
  intro p e s m below meth c C hr hlk hxt
  refine z_lv (lv' := [(0, .ref (ad 0)), (1, .int (zI (z))), (2, .int (zI (z1))), (3, .int (zI (z2)))]) [0, 1, 2, 3] rfl ?_
  refine z_aload_n C 0 dX9_matters_0 rfl ?_
  refine z_iload_n C 1 dX9_matters_1 rfl ?_
  have hrecy42 : okRec cs ad g N (t) (fp) (im) (nz) (kz) (sl) (ho) (ua) (st) (op) (ai) (fa) (mu) (tb) (tp) := ⟨ary1, bry1, cry1, dry1, ery1, fry1, gry11, hry1, ⟨_, iry1⟩, ⟨_, jry1⟩, kry1, lry1, mry1, nry1, ory1, pry1⟩
  refine z_cVX (As := [.int (zI (z))]) (rest := []) (ci := 11) C (c_X9_needSlope l D A cs tt N ad _ hN _ _ _ _ _ _ _ _ _ _ _ _ _ _ _ hrecy42 hl0 (z) (by omega)) (lt_K hN (rfl : Nat.blt (0) 952 = true)) hay2 ary1 rfl rfl mv_yX9_needSlope q_940 hd_yX9_needSlope (by decide) (Nat.le_of_ble_eq_true rfl) (by decide) dX9_matters_2 rfl (fun E N' ad' g' h => by obtain ⟨rfl, rfl, rfl, rfl⟩ := h; exact z_uout C hxt hlk (by decide) (by decide) ⟨Or.inl rfl, rfl, rfl, rfl⟩) (kV0 fun gvy41 hvy41 => ?_)
  obtain ⟨hvy41, rfl⟩ := hvy41
  refine z_iload_n C 3 dX9_matters_5 rfl ?_
  refine z_iconst (z := 1) C dX9_matters_6 rfl ?_
  refine z_cSX (As := [.int (zI (z2)), .int (zI (1))]) (rest := []) C (c_X9_needWhat l D A cs tt N ad _ hl0 (z2) (by omega) (1) (by omega)) ms_yX9_needWhat q_1220 hd_yX9_needWhat (by decide) (Nat.le_of_ble_eq_true rfl) (by decide) dX9_matters_7 rfl (fun E N' ad' g' h => by obtain ⟨⟨rfl, h9⟩, rfl, rfl, rfl⟩ := h; exact z_uout C hxt hlk (by decide) (by decide) ⟨Or.inl rfl, rfl, rfl, rfl⟩) (kV0 fun gvy43 hvy43 => ?_)
  obtain ⟨hvy43, rfl⟩ := hvy43
  refine z_iload_n C 2 dX9_matters_10 rfl ?_
  refine z_iconst (z := 1) C dX9_matters_11 rfl ?_
  refine z_bipush (z := 48) C dX9_matters_12 (by decide) ?_
  refine z_cSX (As := [.int (zI (z1)), .int (zI (1)), .int (zI (48))]) (rest := []) C (c_X9_needHours l D A cs tt N ad _ hl0 (z1) (by omega) (1) (by omega) (48) (by omega)) ms_yX9_needHours q_1224 hd_yX9_needHours (by decide) (Nat.le_of_ble_eq_true rfl) (by decide) dX9_matters_14 rfl (fun E N' ad' g' h => by obtain ⟨⟨rfl, h9⟩, rfl, rfl, rfl⟩ := h; exact z_uout C hxt hlk (by decide) (by decide) ⟨Or.inr rfl, rfl, rfl, rfl⟩) (kV0 fun gvy44 hvy44 => ?_)
  obtain ⟨hvy44, rfl⟩ := hvy44
  refine z_aload_n C 0 dX9_matters_17 rfl ?_
  refine z_get (v := .ref (ad 883)) C (lt_K hN (rfl : Nat.blt (0) 952 = true)) hay2 ary1 rfl inA_X9 8 (by decide) q_357 rfl rfl dX9_matters_18 ?_
  refine z_aload_n C 0 dX9_matters_21 rfl ?_
  refine z_get (v := .ref (ad 4)) C (lt_K hN (rfl : Nat.blt (0) 952 = true)) hay2 ary1 rfl inA_X9 4 (by decide) q_353 rfl rfl dX9_matters_22 ?_
  refine z_cV (As := [.ref (ad 4)]) (rest := []) (ci := 7) C (c_X5_copyFrom l D A cs tt N ad _ 883 (by omega) _ _ _ _ _ _ _ _ _ ⟨hpoy34.1, hpoy34.2.1, hpoy34.2.2.1, hpoy34.2.2.2.1, hpoy34.2.2.2.2.1, hpoy34.2.2.2.2.2.1, hpoy34.2.2.2.2.2.2⟩ (4) (by omega) _ _ _ _ _ _ _ _ _ ⟨fry1.1, fry1.2.1, fry1.2.2.1, fry1.2.2.2.1, fry1.2.2.2.2.1, fry1.2.2.2.2.2.1, fry1.2.2.2.2.2.2⟩ (by omega)) (lt_K hN (rfl : Nat.blt (883) 952 = true)) hay8 hpoy34.1 rfl rfl mv_yX5_copyFrom q_862 hd_yX5_copyFrom (by decide) (Nat.le_of_ble_eq_true rfl) (by decide) dX9_matters_25 rfl (kV0 fun gvy45 hvy45 => ?_)
  obtain ⟨hpvy45, hfvy45⟩ := hvy45
  have hopy46 : okPlan cs ad gvy45 883 := ⟨_, _, _, _, _, _, _, _, _, by omega, by omega, hpvy45⟩
  obtain ⟨sloy47, hooy47, uaoy47, stoy47, opoy47, aioy47, faoy47, muoy47, tboy47, hsloy47, hhooy47, hpoy47⟩ := id hopy46
  refine z_aload_n C 0 dX9_matters_28 rfl ?_
  refine z_iload_n C 1 dX9_matters_29 rfl ?_
  refine z_iload_n C 2 dX9_matters_30 rfl ?_
  have hgy49 := (hfvy45 (0) (by omega)).trans ary1
  have hgy50 := (hfvy45 (1) (by omega)).trans dry1
  have hpy51 := okState.mv (ad' := ad) (g' := gvy45) (fun j h1 h2 => by rfl) (fun j h1 h2 => by rw [hfvy45 _ (by omega)]) iry1
  have hpy52 := okRdr.mv (ad' := ad) (g' := gvy45) (fun j h1 h2 => by rfl) (fun j h1 h2 => by rw [hfvy45 _ (by omega)]) ery1
  have hpy53 := isPlan.mv (ad' := ad) (g' := gvy45) (fun j h1 h2 => by rfl) (fun j h1 h2 => by rw [hfvy45 _ (by omega)]) fry1
  have hpy54 := okState.mv (ad' := ad) (g' := gvy45) (fun j h1 h2 => by rfl) (fun j h1 h2 => by rw [hfvy45 _ (by omega)]) jry1
  have hpy55 := okGss.mv (ad' := ad) (g' := gvy45) (fun j h1 h2 => by rfl) (fun j h1 h2 => by rw [hfvy45 _ (by omega)]) nry1
  have hpy56 := okLike.mv (ad' := ad) (g' := gvy45) (fun j h1 h2 => by rfl) (fun j h1 h2 => by rw [hfvy45 _ (by omega)]) ory1
  have hpy57 := okBld.mv (ad' := ad) (g' := gvy45) (fun j h1 h2 => by rfl) (fun j h1 h2 => by rw [hfvy45 _ (by omega)]) pry1
  have hoky58 : okWorld cs ad gvy45 (890) := okWorld.mv (fun j j1 j2 => by rw [hfvy45 _ (by omega)]) lry1
  have hoky59 : okWorld cs ad gvy45 (900) := okWorld.mv (fun j j1 j2 => by rw [hfvy45 _ (by omega)]) mry1
  have hrecy60 : okRec cs ad gvy45 N (t) (fp) (im) (nz) (kz) (sl) (ho) (ua) (st) (op) (ai) (fa) (mu) (tb) (tp) := ⟨hgy49, bry1, cry1, hgy50, hpy52, hpy53, gry11, hry1, ⟨_, hpy51⟩, ⟨_, hpy54⟩, hopy46, hoky58, hoky59, hpy55, hpy56, hpy57⟩
  refine z_cV (As := [.int (zI (z)), .int (zI (z1))]) (rest := []) (ci := 11) C (c_X9_otherRatio l D A cs tt N ad _ hN _ _ _ _ _ _ _ _ _ _ _ _ _ _ _ hrecy60 (z) (by omega) (z1) (by omega)) (lt_K hN (rfl : Nat.blt (0) 952 = true)) hay2 hgy49 rfl rfl mv_yX9_otherRatio q_1304 hd_yX9_otherRatio (by decide) (Nat.le_of_ble_eq_true rfl) (by decide) dX9_matters_31 rfl (kI0 fun vy48 gvy48 hvy48 => ?_)
  obtain ⟨hrvy48, hkvy48, hfvy48⟩ := hvy48
  obtain ⟨ary61, bry61, cry61, dry61, ery61, fry61, gry611, hry61, ⟨acry61, iry61⟩, ⟨kcry61, jry61⟩, kry61, lry61, mry61, nry61, ory61, pry61⟩ := id hkvy48
  obtain ⟨thcy62, zhcy62, ohcy62, rhcy62, hzhcy62, hthcy62, hwhcy62⟩ := id lry61
  obtain ⟨thcy63, zhcy63, ohcy63, rhcy63, hzhcy63, hthcy63, hwhcy63⟩ := id mry61
  obtain ⟨asy64, bsy64, csy64, dsy64, esy64, ⟨ptsy64, fsy64, gsy641⟩, hsy64, ⟨nusy64, nvsy64, nwsy64, isy64, jsy64, ksy64, lsy64, msy64, nsy64⟩, rfsy64, osy64⟩ := id iry61
  obtain ⟨uy65t, uy65z, uy65o, uy65r, uy65z4, uy65t5, uy651, ⟨uy65u, uy652, uy653⟩, uy654⟩ := id csy64
  have hay66 : zAt ad (11 + 1) (ad (11 + 1)) := rfl
  have hay67 : zAt ad (11 + 1 + 1) (ad (11 + 1 + 1)) := rfl
  obtain ⟨sloy68, hooy68, uaoy68, stoy68, opoy68, aioy68, faoy68, muoy68, tboy68, hsloy68, hhooy68, hpoy68⟩ := id kry61
  refine z_istore (lv' := [(4, .int (zI (vy48))), (0, .ref (ad 0)), (1, .int (zI (z))), (2, .int (zI (z1))), (3, .int (zI (z2)))]) C dX9_matters_34 (by decide) rfl ?_
  refine z_iconst (z := -1) C dX9_matters_36 rfl ?_
  refine z_istore (lv' := [(5, .int (zI (-1))), (4, .int (zI (vy48))), (0, .ref (ad 0)), (1, .int (zI (z))), (2, .int (zI (z1))), (3, .int (zI (z2)))]) C dX9_matters_37 (by decide) rfl ?_
  refine z_iconst (z := 0) C dX9_matters_39 rfl ?_
  refine z_istore (lv' := [(6, .int (zI (0))), (5, .int (zI (-1))), (4, .int (zI (vy48))), (0, .ref (ad 0)), (1, .int (zI (z))), (2, .int (zI (z1))), (3, .int (zI (z2)))]) C dX9_matters_40 (by decide) rfl ?_
  refine z_iconst (z := 0) C dX9_matters_42 rfl ?_
  refine z_istore (lv' := [(7, .int (zI (0))), (6, .int (zI (0))), (5, .int (zI (-1))), (4, .int (zI (vy48))), (0, .ref (ad 0)), (1, .int (zI (z))), (2, .int (zI (z1))), (3, .int (zI (z2)))]) C dX9_matters_43 (by decide) rfl ?_
  have lp45 : ∀ (n9 : Nat) (i : Int) (mo : Int) (wh : Int) (us : Int) (g1 : Nat → va_E), (24 - i).toNat = n9 → (okRec cs ad g1 N t fp im nz kz sl ho ua st op ai fa mu tb tp) → (oX g g1) → (0 ≤ i ∧ i ≤ 24) → (-2147483648 ≤ mo ∧ mo ≤ 2147483647) → (-1 ≤ wh ∧ wh ≤ 24) → (-2147483648 ≤ us ∧ us ≤ 2147483647) → (0 ≤ z ∧ z < sl) → (1 ≤ z1 ∧ z1 ≤ 48) → (0 ≤ z2 ∧ z2 ≤ 1) → zV p l e ({ frames := 12, cells := 6, slots := 60, locals := 720 } : Room) s m ([.ref (ad 0), .int (zI (z)), .int (zI (z1)), .int (zI (z2))] : List Value).toArray below meth c (vx_MQ below (zPost D A (rI0 N ad fun r g' => (-2147483648 ≤ r ∧ r ≤ 2147483647) ∧ okRec cs ad g' N t fp im nz kz sl ho ua st op ai fa mu tb tp ∧ oX g g')) (zX D A (fun E N' ad' g' => (E = eNS ∨ E = eIA) ∧ N' = N ∧ ad' = ad ∧ g' = g)) ([.ref (ad 0), .int (zI (z)), .int (zI (z1)), .int (zI (z2))] : List Value).toArray s ({ frames := 12, cells := 6, slots := 60, locals := 720 } : Room).cells ({ frames := 12, cells := 6, slots := 60, locals := 720 } : Room).slots A) D A 9 (N) ad g1 (3) (18) 45 [(7, .int (zI (i))), (6, .int (zI (mo))), (5, .int (zI (wh))), (4, .int (zI (us))), (0, .ref (ad 0)), (1, .int (zI (z))), (2, .int (zI (z1))), (3, .int (zI (z2)))] [] := by
    intro n9
    induction n9 using Nat.strongRecOn with
    | ind n9 ih_lp45 =>
      intro i mo wh us g1 hm9 f1 f2 hv45_0 hv45_1 hv45_2 hv45_3 hv45_4 hv45_5 hv45_6
      obtain ⟨ary69, bry69, cry69, dry69, ery69, fry69, gry691, hry69, ⟨acry69, iry69⟩, ⟨kcry69, jry69⟩, kry69, lry69, mry69, nry69, ory69, pry69⟩ := id f1
      have hay70 : zAt ad (0) (ad 0) := rfl
      have hay71 : zAt ad (1) (ad 1) := rfl
      have hay72 : zAt ad (2) (ad 2) := rfl
      have hay73 : zAt ad (4) (ad 4) := rfl
      have hay74 : zAt ad (11) (ad 11) := rfl
      have hay75 : zAt ad (447) (ad 447) := rfl
      have hay76 : zAt ad (883) (ad 883) := rfl
      have hay77 : zAt ad (890) (ad 890) := rfl
      have hay78 : zAt ad (900) (ad 900) := rfl
      have hay79 : zAt ad (910) (ad 910) := rfl
      have hay80 : zAt ad (917) (ad 917) := rfl
      have hay81 : zAt ad (919) (ad 919) := rfl
      have hay82 : zAt ad (4 + 1) (ad (4 + 1)) := rfl
      have hay83 : zAt ad (4 + 2) (ad (4 + 2)) := rfl
      have hay84 : zAt ad (4 + 3) (ad (4 + 3)) := rfl
      have hay85 : zAt ad (4 + 4) (ad (4 + 4)) := rfl
      have hay86 : zAt ad (4 + 5) (ad (4 + 5)) := rfl
      have hay87 : zAt ad (4 + 6) (ad (4 + 6)) := rfl
      obtain ⟨thcy88, zhcy88, ohcy88, rhcy88, hzhcy88, hthcy88, hwhcy88⟩ := id lry69
      obtain ⟨thcy89, zhcy89, ohcy89, rhcy89, hzhcy89, hthcy89, hwhcy89⟩ := id mry69
      obtain ⟨asy90, bsy90, csy90, dsy90, esy90, ⟨ptsy90, fsy90, gsy901⟩, hsy90, ⟨nusy90, nvsy90, nwsy90, isy90, jsy90, ksy90, lsy90, msy90, nsy90⟩, rfsy90, osy90⟩ := id iry69
      have hay91 : zAt ad (11 + 1) (ad (11 + 1)) := rfl
      have hay92 : zAt ad (11 + 11) (ad (11 + 11)) := rfl
      have hay93 : zAt ad (11 + 12) (ad (11 + 12)) := rfl
      have hay94 : zAt ad (11 + 13) (ad (11 + 13)) := rfl
      have hay95 : zAt ad (11 + 13 + 1) (ad (11 + 13 + 1)) := rfl
      have hay96 : zAt ad (11 + 13 + 2) (ad (11 + 13 + 2)) := rfl
      have hay97 : zAt ad (11 + 13 + 3) (ad (11 + 13 + 3)) := rfl
      have hay98 : zAt ad (11 + 17) (ad (11 + 17)) := rfl
      obtain ⟨uy99t, uy99z, uy99o, uy99r, uy99z4, uy99t5, uy991, ⟨uy99u, uy992, uy993⟩, uy994⟩ := id csy90
      have hay100 : zAt ad (11 + 1) (ad (11 + 1)) := rfl
      have hay101 : zAt ad (11 + 1 + 1) (ad (11 + 1 + 1)) := rfl
      obtain ⟨sloy102, hooy102, uaoy102, stoy102, opoy102, aioy102, faoy102, muoy102, tboy102, hsloy102, hhooy102, hpoy102⟩ := id kry69
      have hay103 : zAt ad (883 + 1) (ad (883 + 1)) := rfl
      have hay104 : zAt ad (883 + 2) (ad (883 + 2)) := rfl
      have hay105 : zAt ad (883 + 3) (ad (883 + 3)) := rfl
      have hay106 : zAt ad (883 + 4) (ad (883 + 4)) := rfl
      have hay107 : zAt ad (883 + 5) (ad (883 + 5)) := rfl
      have hay108 : zAt ad (883 + 6) (ad (883 + 6)) := rfl
      refine z_iload C 0 dX9_matters_45 rfl ?_
      refine z_aload_n C 4 dX9_matters_47 rfl ?_
      refine z_get (v := .ref (ad 4)) C (lt_K hN (rfl : Nat.blt (0) 952 = true)) hay70 ary69 rfl inA_X9 4 (by decide) q_353 rfl rfl dX9_matters_48 ?_
      refine z_get (v := .int (zI (ho))) C (lt_K hN (rfl : Nat.blt (4) 952 = true)) hay73 fry69.1 rfl inA_X5 1 (by decide) q_93 rfl rfl dX9_matters_51 ?_
      refine z_icmp_ge (tgt := 136) C dX9_matters_54 (by decide) (by omega) (by omega) (fun hby109 => ?_) (fun hby109 => ?_)
      · refine z_iload_n C 7 dX9_matters_136 rfl ?_
        refine z_if_ne (tgt := 145) C dX9_matters_137 (by decide) (by omega) (fun hby110 => ?_) (fun hby110 => ?_)
        · refine z_iload C 1 dX9_matters_145 rfl ?_
          have hrecy111 : okRec cs ad g1 N (t) (fp) (im) (nz) (kz) (sl) (ho) (ua) (st) (op) (ai) (fa) (mu) (tb) (tp) := ⟨ary69, bry69, cry69, dry69, ery69, fry69, gry691, hry69, ⟨_, iry69⟩, ⟨_, jry69⟩, kry69, lry69, mry69, nry69, ory69, pry69⟩
          exact z_rX (z_iret C hr hlk dX9_matters_147 (by decide) (by decide) ⟨mo, rfl, rfl, rfl, by omega, hrecy111, fun j j1 j2 => by exact f2 j j1 j2⟩)
        · refine z_iload C 2 dX9_matters_140 rfl ?_
          refine z_goto (tgt := 147) C dX9_matters_142 (by decide) ?_
          have hrecy112 : okRec cs ad g1 N (t) (fp) (im) (nz) (kz) (sl) (ho) (ua) (st) (op) (ai) (fa) (mu) (tb) (tp) := ⟨ary69, bry69, cry69, dry69, ery69, fry69, gry691, hry69, ⟨_, iry69⟩, ⟨_, jry69⟩, kry69, lry69, mry69, nry69, ory69, pry69⟩
          exact z_rX (z_iret C hr hlk dX9_matters_147 (by decide) (by decide) ⟨wh, rfl, rfl, rfl, by omega, hrecy112, fun j j1 j2 => by exact f2 j j1 j2⟩)
      · refine z_aload_n C 4 dX9_matters_57 rfl ?_
        refine z_get (v := .ref (ad 4)) C (lt_K hN (rfl : Nat.blt (0) 952 = true)) hay70 ary69 rfl inA_X9 4 (by decide) q_353 rfl rfl dX9_matters_58 ?_
        refine z_get (v := .ref (ad (4 + 4))) C (lt_K hN (rfl : Nat.blt (4) 952 = true)) hay73 fry69.1 rfl inA_X5 6 (by decide) q_108 rfl rfl dX9_matters_61 ?_
        refine z_iload C 0 dX9_matters_64 rfl ?_
        refine z_iald C (lt_K hN (rfl : Nat.blt (4 + 4) 952 = true)) hay85 fry69.2.2.2.2.1 ((i).toNat) (by omega) (by omega) (by decide) dX9_matters_66 ?_
        obtain ⟨xy113, exy114, hxy115⟩ := zI_of (zI (fa ((i).toNat)))
        rw [exy114]
        refine z_if_eq (tgt := 130) C dX9_matters_67 (by decide) (by omega) (fun hby116 => ?_) (fun hby116 => ?_)
        · refine z_iinc (z := i + 1) (lv' := [(7, .int (zI (i + 1))), (6, .int (zI (mo))), (5, .int (zI (wh))), (4, .int (zI (us))), (0, .ref (ad 0)), (1, .int (zI (z))), (2, .int (zI (z1))), (3, .int (zI (z2)))]) (j := 0) C dX9_matters_130 rfl rfl (by decide) rfl ?_
          refine z_goto (tgt := 45) C dX9_matters_133 (by decide) ?_
          have hrecy117 : okRec cs ad g1 N (t) (fp) (im) (nz) (kz) (sl) (ho) (ua) (st) (op) (ai) (fa) (mu) (tb) (tp) := ⟨ary69, bry69, cry69, dry69, ery69, fry69, gry691, hry69, ⟨_, iry69⟩, ⟨_, jry69⟩, kry69, lry69, mry69, nry69, ory69, pry69⟩
          refine z_lv (lv' := [(7, .int (zI (i + 1))), (6, .int (zI (mo))), (5, .int (zI (wh))), (4, .int (zI (us))), (0, .ref (ad 0)), (1, .int (zI (z))), (2, .int (zI (z1))), (3, .int (zI (z2)))]) [0, 1, 2, 3, 4, 5, 6, 7] rfl ?_
          exact ih_lp45 _ (by omega) (i + 1) (mo) (wh) (us) g1 rfl hrecy117 (fun j j1 j2 => by exact f2 j j1 j2) (by omega) (by omega) (by omega) (by omega) (by omega) (by omega) (by omega)
        · refine z_aload_n C 4 dX9_matters_70 rfl ?_
          refine z_get (v := .ref (ad 883)) C (lt_K hN (rfl : Nat.blt (0) 952 = true)) hay70 ary69 rfl inA_X9 8 (by decide) q_357 rfl rfl dX9_matters_71 ?_
          refine z_get (v := .ref (ad (883 + 4))) C (lt_K hN (rfl : Nat.blt (883) 952 = true)) hay76 hpoy102.1 rfl inA_X5 6 (by decide) q_108 rfl rfl dX9_matters_74 ?_
          refine z_iload C 0 dX9_matters_77 rfl ?_
          refine z_iconst (z := 0) C dX9_matters_79 rfl ?_
          refine z_iast C (lt_K hN (rfl : Nat.blt (883 + 4) 952 = true)) hay106 hpoy102.2.2.2.2.1 ((i).toNat) (by omega) (by omega) (by decide) dX9_matters_80 (fun gy118 egy119 => ?_)
          have hgy120 := up_s egy119
          refine z_aload_n C 4 dX9_matters_81 rfl ?_
          refine z_iload_n C 5 dX9_matters_82 rfl ?_
          refine z_iload_n C 6 dX9_matters_83 rfl ?_
          have hgy122 := up_n egy119 hpoy102.1 (ne_o (i := 883) (c := 0) (d := 4) rfl)
          have hgy123 := up_n egy119 hpoy102.2.1 (ne_o (i := 883) (c := 1) (d := 4) rfl)
          have hgy124 := up_n egy119 hpoy102.2.2.1 (ne_o (i := 883) (c := 2) (d := 4) rfl)
          have hgy125 := up_n egy119 hpoy102.2.2.2.1 (ne_o (i := 883) (c := 3) (d := 4) rfl)
          have hgy126 := up_n egy119 hpoy102.2.2.2.2.2.1 (ne_o (i := 883) (c := 5) (d := 4) rfl)
          have hgy127 := up_n egy119 hpoy102.2.2.2.2.2.2 (ne_o (i := 883) (c := 6) (d := 4) rfl)
          have hopy128 : okPlan cs ad gy118 883 := ⟨_, _, _, _, _, _, _, _, _, hsloy102, hhooy102, ⟨hgy122, hgy123, hgy124, hgy125, hgy120, hgy126, hgy127⟩⟩
          have hgy129 := up_n egy119 ary69 (by omega)
          have hgy130 := up_n egy119 dry69 (by omega)
          have hpy131 := okState.mv (ad' := ad) (g' := gy118) (fun j h1 h2 => by rfl) (fun j h1 h2 => by rw [egy119, va_up_ne _ _ (by omega)]) iry69
          have hpy132 := okRdr.mv (ad' := ad) (g' := gy118) (fun j h1 h2 => by rfl) (fun j h1 h2 => by rw [egy119, va_up_ne _ _ (by omega)]) ery69
          have hpy133 := isPlan.mv (ad' := ad) (g' := gy118) (fun j h1 h2 => by rfl) (fun j h1 h2 => by rw [egy119, va_up_ne _ _ (by omega)]) fry69
          have hpy134 := okState.mv (ad' := ad) (g' := gy118) (fun j h1 h2 => by rfl) (fun j h1 h2 => by rw [egy119, va_up_ne _ _ (by omega)]) jry69
          have hpy135 := okGss.mv (ad' := ad) (g' := gy118) (fun j h1 h2 => by rfl) (fun j h1 h2 => by rw [egy119, va_up_ne _ _ (by omega)]) nry69
          have hpy136 := okLike.mv (ad' := ad) (g' := gy118) (fun j h1 h2 => by rfl) (fun j h1 h2 => by rw [egy119, va_up_ne _ _ (by omega)]) ory69
          have hpy137 := okBld.mv (ad' := ad) (g' := gy118) (fun j h1 h2 => by rfl) (fun j h1 h2 => by rw [egy119, va_up_ne _ _ (by omega)]) pry69
          have hoky138 : okWorld cs ad gy118 (890) := okWorld.mv (fun j j1 j2 => by rw [egy119, va_up_ne _ _ (by omega)]) lry69
          have hoky139 : okWorld cs ad gy118 (900) := okWorld.mv (fun j j1 j2 => by rw [egy119, va_up_ne _ _ (by omega)]) mry69
          have hrecy140 : okRec cs ad gy118 N (t) (fp) (im) (nz) (kz) (sl) (ho) (ua) (st) (op) (ai) (fa) (mu) (tb) (tp) := ⟨hgy129, bry69, cry69, hgy130, hpy132, hpy133, gry691, hry69, ⟨_, hpy131⟩, ⟨_, hpy134⟩, hopy128, hoky138, hoky139, hpy135, hpy136, hpy137⟩
          refine z_cV (As := [.int (zI (z)), .int (zI (z1))]) (rest := []) (ci := 11) C (c_X9_otherRatio l D A cs tt N ad _ hN _ _ _ _ _ _ _ _ _ _ _ _ _ _ _ hrecy140 (z) (by omega) (z1) (by omega)) (lt_K hN (rfl : Nat.blt (0) 952 = true)) hay70 hgy129 rfl rfl mv_yX9_otherRatio q_1304 hd_yX9_otherRatio (by decide) (Nat.le_of_ble_eq_true rfl) (by decide) dX9_matters_84 rfl (kI0 fun vy121 gvy121 hvy121 => ?_)
          obtain ⟨hrvy121, hkvy121, hfvy121⟩ := hvy121
          obtain ⟨ary141, bry141, cry141, dry141, ery141, fry141, gry1411, hry141, ⟨acry141, iry141⟩, ⟨kcry141, jry141⟩, kry141, lry141, mry141, nry141, ory141, pry141⟩ := id hkvy121
          obtain ⟨thcy142, zhcy142, ohcy142, rhcy142, hzhcy142, hthcy142, hwhcy142⟩ := id lry141
          obtain ⟨thcy143, zhcy143, ohcy143, rhcy143, hzhcy143, hthcy143, hwhcy143⟩ := id mry141
          obtain ⟨asy144, bsy144, csy144, dsy144, esy144, ⟨ptsy144, fsy144, gsy1441⟩, hsy144, ⟨nusy144, nvsy144, nwsy144, isy144, jsy144, ksy144, lsy144, msy144, nsy144⟩, rfsy144, osy144⟩ := id iry141
          obtain ⟨uy145t, uy145z, uy145o, uy145r, uy145z4, uy145t5, uy1451, ⟨uy145u, uy1452, uy1453⟩, uy1454⟩ := id csy144
          have hay146 : zAt ad (11 + 1) (ad (11 + 1)) := rfl
          have hay147 : zAt ad (11 + 1 + 1) (ad (11 + 1 + 1)) := rfl
          obtain ⟨sloy148, hooy148, uaoy148, stoy148, opoy148, aioy148, faoy148, muoy148, tboy148, hsloy148, hhooy148, hpoy148⟩ := id kry141
          refine z_iload C 3 dX9_matters_87 rfl ?_
          refine z_isub C dX9_matters_89 ?_
          obtain ⟨xy149, exy150, hxy151⟩ := zI_of (zI (vy121 - us))
          rw [exy150]
          refine z_mabs C q_1308 q_527 q_20 q_528 (by omega) (by decide) (Nat.le_of_ble_eq_true rfl) (by decide) (by decide) dX9_matters_90 ?_
          obtain ⟨xy152, exy153, hxy154⟩ := mm_abs (xy149)
          rw [exy153]
          refine z_istore (lv' := [(8, .int (zI (xy152))), (7, .int (zI (i))), (6, .int (zI (mo))), (5, .int (zI (wh))), (4, .int (zI (us))), (0, .ref (ad 0)), (1, .int (zI (z))), (2, .int (zI (z1))), (3, .int (zI (z2)))]) C dX9_matters_93 (by decide) rfl ?_
          refine z_aload_n C 5 dX9_matters_95 rfl ?_
          refine z_get (v := .ref (ad 883)) C (lt_K hN (rfl : Nat.blt (0) 952 = true)) hay70 ary141 rfl inA_X9 8 (by decide) q_357 rfl rfl dX9_matters_96 ?_
          refine z_get (v := .ref (ad (883 + 4))) C (lt_K hN (rfl : Nat.blt (883) 952 = true)) hay76 hpoy148.1 rfl inA_X5 6 (by decide) q_108 rfl rfl dX9_matters_99 ?_
          refine z_iload C 1 dX9_matters_102 rfl ?_
          refine z_aload_n C 5 dX9_matters_104 rfl ?_
          refine z_get (v := .ref (ad 4)) C (lt_K hN (rfl : Nat.blt (0) 952 = true)) hay70 ary141 rfl inA_X9 4 (by decide) q_353 rfl rfl dX9_matters_105 ?_
          refine z_get (v := .ref (ad (4 + 4))) C (lt_K hN (rfl : Nat.blt (4) 952 = true)) hay73 fry141.1 rfl inA_X5 6 (by decide) q_108 rfl rfl dX9_matters_108 ?_
          refine z_iload C 1 dX9_matters_111 rfl ?_
          refine z_iald C (lt_K hN (rfl : Nat.blt (4 + 4) 952 = true)) hay85 fry141.2.2.2.2.1 ((i).toNat) (by omega) (by omega) (by decide) dX9_matters_113 ?_
          refine z_iast C (lt_K hN (rfl : Nat.blt (883 + 4) 952 = true)) hay106 hpoy148.2.2.2.2.1 ((i).toNat) (by omega) (by omega) (by decide) dX9_matters_114 (fun gy155 egy156 => ?_)
          have hgy157 := up_s egy156
          refine z_iload C 0 dX9_matters_115 rfl ?_
          refine z_iload C 2 dX9_matters_117 rfl ?_
          obtain ⟨xy158, exy159, hxy160⟩ := zI_of (zI (xy152))
          rw [exy159]
          refine z_icmp_le (tgt := 130) C dX9_matters_119 (by decide) (by omega) (by omega) (fun hby161 => ?_) (fun hby161 => ?_)
          · refine z_iinc (z := i + 1) (lv' := [(7, .int (zI (i + 1))), (8, .int (zI (xy158))), (6, .int (zI (mo))), (5, .int (zI (wh))), (4, .int (zI (us))), (0, .ref (ad 0)), (1, .int (zI (z))), (2, .int (zI (z1))), (3, .int (zI (z2)))]) (j := 1) C dX9_matters_130 rfl rfl (by decide) rfl ?_
            refine z_goto (tgt := 45) C dX9_matters_133 (by decide) ?_
            have hgy162 := up_n egy156 hpoy148.1 (ne_o (i := 883) (c := 0) (d := 4) rfl)
            have hgy163 := up_n egy156 hpoy148.2.1 (ne_o (i := 883) (c := 1) (d := 4) rfl)
            have hgy164 := up_n egy156 hpoy148.2.2.1 (ne_o (i := 883) (c := 2) (d := 4) rfl)
            have hgy165 := up_n egy156 hpoy148.2.2.2.1 (ne_o (i := 883) (c := 3) (d := 4) rfl)
            have hgy166 := up_n egy156 hpoy148.2.2.2.2.2.1 (ne_o (i := 883) (c := 5) (d := 4) rfl)
            have hgy167 := up_n egy156 hpoy148.2.2.2.2.2.2 (ne_o (i := 883) (c := 6) (d := 4) rfl)
            have hopy168 : okPlan cs ad gy155 883 := ⟨_, _, _, _, _, _, _, _, _, hsloy148, hhooy148, ⟨hgy162, hgy163, hgy164, hgy165, hgy157, hgy166, hgy167⟩⟩
            have hgy169 := up_n egy156 ary141 (by omega)
            have hgy170 := up_n egy156 dry141 (by omega)
            have hpy171 := okState.mv (ad' := ad) (g' := gy155) (fun j h1 h2 => by rfl) (fun j h1 h2 => by rw [egy156, va_up_ne _ _ (by omega)]) iry141
            have hpy172 := okRdr.mv (ad' := ad) (g' := gy155) (fun j h1 h2 => by rfl) (fun j h1 h2 => by rw [egy156, va_up_ne _ _ (by omega)]) ery141
            have hpy173 := isPlan.mv (ad' := ad) (g' := gy155) (fun j h1 h2 => by rfl) (fun j h1 h2 => by rw [egy156, va_up_ne _ _ (by omega)]) fry141
            have hpy174 := okState.mv (ad' := ad) (g' := gy155) (fun j h1 h2 => by rfl) (fun j h1 h2 => by rw [egy156, va_up_ne _ _ (by omega)]) jry141
            have hpy175 := okGss.mv (ad' := ad) (g' := gy155) (fun j h1 h2 => by rfl) (fun j h1 h2 => by rw [egy156, va_up_ne _ _ (by omega)]) nry141
            have hpy176 := okLike.mv (ad' := ad) (g' := gy155) (fun j h1 h2 => by rfl) (fun j h1 h2 => by rw [egy156, va_up_ne _ _ (by omega)]) ory141
            have hpy177 := okBld.mv (ad' := ad) (g' := gy155) (fun j h1 h2 => by rfl) (fun j h1 h2 => by rw [egy156, va_up_ne _ _ (by omega)]) pry141
            have hoky178 : okWorld cs ad gy155 (890) := okWorld.mv (fun j j1 j2 => by rw [egy156, va_up_ne _ _ (by omega)]) lry141
            have hoky179 : okWorld cs ad gy155 (900) := okWorld.mv (fun j j1 j2 => by rw [egy156, va_up_ne _ _ (by omega)]) mry141
            have hrecy180 : okRec cs ad gy155 N (t) (fp) (im) (nz) (kz) (sl) (ho) (ua) (st) (op) (ai) (fa) (mu) (tb) (tp) := ⟨hgy169, bry141, cry141, hgy170, hpy172, hpy173, gry1411, hry141, ⟨_, hpy171⟩, ⟨_, hpy174⟩, hopy168, hoky178, hoky179, hpy175, hpy176, hpy177⟩
            refine z_lv (lv' := [(7, .int (zI (i + 1))), (6, .int (zI (mo))), (5, .int (zI (wh))), (4, .int (zI (us))), (0, .ref (ad 0)), (1, .int (zI (z))), (2, .int (zI (z1))), (3, .int (zI (z2)))]) [0, 2, 3, 4, 5, 6, 7, 8] rfl ?_
            exact ih_lp45 _ (by omega) (i + 1) (mo) (wh) (us) gy155 rfl hrecy180 (fun j j1 j2 => by rw [egy156, va_up_ne _ _ (by omega)]; rw [hfvy121 _ (by omega) (by omega)]; rw [egy119, va_up_ne _ _ (by omega)]; exact f2 j j1 j2) (by omega) (by omega) (by omega) (by omega) (by omega) (by omega) (by omega)
          · refine z_iload C 1 dX9_matters_122 rfl ?_
            refine z_istore (lv' := [(5, .int (zI (i))), (8, .int (zI (xy158))), (7, .int (zI (i))), (6, .int (zI (mo))), (4, .int (zI (us))), (0, .ref (ad 0)), (1, .int (zI (z))), (2, .int (zI (z1))), (3, .int (zI (z2)))]) C dX9_matters_124 (by decide) rfl ?_
            refine z_iload C 1 dX9_matters_126 rfl ?_
            refine z_istore (lv' := [(6, .int (zI (xy158))), (5, .int (zI (i))), (8, .int (zI (xy158))), (7, .int (zI (i))), (4, .int (zI (us))), (0, .ref (ad 0)), (1, .int (zI (z))), (2, .int (zI (z1))), (3, .int (zI (z2)))]) C dX9_matters_128 (by decide) rfl ?_
            refine z_iinc (z := i + 1) (lv' := [(7, .int (zI (i + 1))), (6, .int (zI (xy158))), (5, .int (zI (i))), (8, .int (zI (xy158))), (4, .int (zI (us))), (0, .ref (ad 0)), (1, .int (zI (z))), (2, .int (zI (z1))), (3, .int (zI (z2)))]) (j := 3) C dX9_matters_130 rfl rfl (by decide) rfl ?_
            refine z_goto (tgt := 45) C dX9_matters_133 (by decide) ?_
            have hgy181 := up_n egy156 hpoy148.1 (ne_o (i := 883) (c := 0) (d := 4) rfl)
            have hgy182 := up_n egy156 hpoy148.2.1 (ne_o (i := 883) (c := 1) (d := 4) rfl)
            have hgy183 := up_n egy156 hpoy148.2.2.1 (ne_o (i := 883) (c := 2) (d := 4) rfl)
            have hgy184 := up_n egy156 hpoy148.2.2.2.1 (ne_o (i := 883) (c := 3) (d := 4) rfl)
            have hgy185 := up_n egy156 hpoy148.2.2.2.2.2.1 (ne_o (i := 883) (c := 5) (d := 4) rfl)
            have hgy186 := up_n egy156 hpoy148.2.2.2.2.2.2 (ne_o (i := 883) (c := 6) (d := 4) rfl)
            have hopy187 : okPlan cs ad gy155 883 := ⟨_, _, _, _, _, _, _, _, _, hsloy148, hhooy148, ⟨hgy181, hgy182, hgy183, hgy184, hgy157, hgy185, hgy186⟩⟩
            have hgy188 := up_n egy156 ary141 (by omega)
            have hgy189 := up_n egy156 dry141 (by omega)
            have hpy190 := okState.mv (ad' := ad) (g' := gy155) (fun j h1 h2 => by rfl) (fun j h1 h2 => by rw [egy156, va_up_ne _ _ (by omega)]) iry141
            have hpy191 := okRdr.mv (ad' := ad) (g' := gy155) (fun j h1 h2 => by rfl) (fun j h1 h2 => by rw [egy156, va_up_ne _ _ (by omega)]) ery141
            have hpy192 := isPlan.mv (ad' := ad) (g' := gy155) (fun j h1 h2 => by rfl) (fun j h1 h2 => by rw [egy156, va_up_ne _ _ (by omega)]) fry141
            have hpy193 := okState.mv (ad' := ad) (g' := gy155) (fun j h1 h2 => by rfl) (fun j h1 h2 => by rw [egy156, va_up_ne _ _ (by omega)]) jry141
            have hpy194 := okGss.mv (ad' := ad) (g' := gy155) (fun j h1 h2 => by rfl) (fun j h1 h2 => by rw [egy156, va_up_ne _ _ (by omega)]) nry141
            have hpy195 := okLike.mv (ad' := ad) (g' := gy155) (fun j h1 h2 => by rfl) (fun j h1 h2 => by rw [egy156, va_up_ne _ _ (by omega)]) ory141
            have hpy196 := okBld.mv (ad' := ad) (g' := gy155) (fun j h1 h2 => by rfl) (fun j h1 h2 => by rw [egy156, va_up_ne _ _ (by omega)]) pry141
            have hoky197 : okWorld cs ad gy155 (890) := okWorld.mv (fun j j1 j2 => by rw [egy156, va_up_ne _ _ (by omega)]) lry141
            have hoky198 : okWorld cs ad gy155 (900) := okWorld.mv (fun j j1 j2 => by rw [egy156, va_up_ne _ _ (by omega)]) mry141
            have hrecy199 : okRec cs ad gy155 N (t) (fp) (im) (nz) (kz) (sl) (ho) (ua) (st) (op) (ai) (fa) (mu) (tb) (tp) := ⟨hgy188, bry141, cry141, hgy189, hpy191, hpy192, gry1411, hry141, ⟨_, hpy190⟩, ⟨_, hpy193⟩, hopy187, hoky197, hoky198, hpy194, hpy195, hpy196⟩
            refine z_lv (lv' := [(7, .int (zI (i + 1))), (6, .int (zI (xy158))), (5, .int (zI (i))), (4, .int (zI (us))), (0, .ref (ad 0)), (1, .int (zI (z))), (2, .int (zI (z1))), (3, .int (zI (z2)))]) [0, 1, 2, 4, 5, 6, 7, 8] rfl ?_
            exact ih_lp45 _ (by omega) (i + 1) (xy158) (i) (us) gy155 rfl hrecy199 (fun j j1 j2 => by rw [egy156, va_up_ne _ _ (by omega)]; rw [hfvy121 _ (by omega) (by omega)]; rw [egy119, va_up_ne _ _ (by omega)]; exact f2 j j1 j2) (by omega) (by omega) (by omega) (by omega) (by omega) (by omega) (by omega)
  have hrecy200 : okRec cs ad gvy48 N (t) (fp) (im) (nz) (kz) (sl) (ho) (ua) (st) (op) (ai) (fa) (mu) (tb) (tp) := ⟨ary61, bry61, cry61, dry61, ery61, fry61, gry611, hry61, ⟨_, iry61⟩, ⟨_, jry61⟩, kry61, lry61, mry61, nry61, ory61, pry61⟩
  refine z_lv (lv' := [(7, .int (zI (0))), (6, .int (zI (0))), (5, .int (zI (-1))), (4, .int (zI (vy48))), (0, .ref (ad 0)), (1, .int (zI (z))), (2, .int (zI (z1))), (3, .int (zI (z2)))]) [0, 1, 2, 3, 4, 5, 6, 7] rfl ?_
  exact lp45 _ (0) (0) (-1) (vy48) gvy48 rfl hrecy200 (fun j j1 j2 => by rw [hfvy48 _ (by omega) (by omega)]; rw [hfvy45 _ (by omega)]) (by omega) (by omega) (by omega) (by omega) (by omega) (by omega) (by omega)

set_option maxRecDepth 100000 in
set_option maxHeartbeats 4000000 in
theorem c_X9_isNotedSo_890_4 (l : Launch) (D : va_G) (A : Nat → Prop) (cs : Nat → ClassId) (tt : Nat) (N : Nat) (ad : Nat → Nat) (g : Nat → va_E) (hN : 952 ≤ N) (t fp im nz kz sl ho ua : Int) (st op ai fa mu tb tp : Nat → Int) (hR : okRec cs ad g N t fp im nz kz sl ho ua st op ai fa mu tb tp) (z : Int) (hz : -2147483648 ≤ z ∧ z ≤ 2147483647) (z1 : Int) (hz1 : 0 ≤ z1 ∧ z1 ≤ 100) (z2 : Int) (hz2 : -1 ≤ z2 ∧ z2 ≤ 100) : zM l yX9_isNotedSo cX9_isNotedSo 9 (some .boolean) ({ frames := 6, cells := 0, slots := 0, locals := 360 } : Room) D A cs tt N ad g [.ref (ad 0), .ref (ad 890), .ref (ad 4), .int (zI (z)), .int (zI (z1)), .int (zI (z2))] (rI0 N ad fun r g' => (0 ≤ r ∧ r ≤ 1) ∧ okRec cs ad g' N t fp im nz kz sl ho ua st op ai fa mu tb tp ∧ oX g g') := by
  obtain ⟨ary1, bry1, cry1, dry1, ery1, fry1, gry11, hry1, ⟨acry1, iry1⟩, ⟨kcry1, jry1⟩, kry1, lry1, mry1, nry1, ory1, pry1⟩ := id hR
  have hay2 : zAt ad (0) (ad 0) := rfl
  have hay3 : zAt ad (1) (ad 1) := rfl
  have hay4 : zAt ad (2) (ad 2) := rfl
  have hay5 : zAt ad (4) (ad 4) := rfl
  have hay6 : zAt ad (11) (ad 11) := rfl
  have hay7 : zAt ad (447) (ad 447) := rfl
  have hay8 : zAt ad (883) (ad 883) := rfl
  have hay9 : zAt ad (890) (ad 890) := rfl
  have hay10 : zAt ad (900) (ad 900) := rfl
  have hay11 : zAt ad (910) (ad 910) := rfl
  have hay12 : zAt ad (917) (ad 917) := rfl
  have hay13 : zAt ad (919) (ad 919) := rfl
  have hay14 : zAt ad (4 + 1) (ad (4 + 1)) := rfl
  have hay15 : zAt ad (4 + 2) (ad (4 + 2)) := rfl
  have hay16 : zAt ad (4 + 3) (ad (4 + 3)) := rfl
  have hay17 : zAt ad (4 + 4) (ad (4 + 4)) := rfl
  have hay18 : zAt ad (4 + 5) (ad (4 + 5)) := rfl
  have hay19 : zAt ad (4 + 6) (ad (4 + 6)) := rfl
  obtain ⟨thcy20, zhcy20, ohcy20, rhcy20, hzhcy20, hthcy20, hwhcy20⟩ := id lry1
  obtain ⟨thcy21, zhcy21, ohcy21, rhcy21, hzhcy21, hthcy21, hwhcy21⟩ := id mry1
  obtain ⟨asy22, bsy22, csy22, dsy22, esy22, ⟨ptsy22, fsy22, gsy221⟩, hsy22, ⟨nusy22, nvsy22, nwsy22, isy22, jsy22, ksy22, lsy22, msy22, nsy22⟩, rfsy22, osy22⟩ := id iry1
  have hay23 : zAt ad (11 + 1) (ad (11 + 1)) := rfl
  have hay24 : zAt ad (11 + 11) (ad (11 + 11)) := rfl
  have hay25 : zAt ad (11 + 12) (ad (11 + 12)) := rfl
  have hay26 : zAt ad (11 + 13) (ad (11 + 13)) := rfl
  have hay27 : zAt ad (11 + 13 + 1) (ad (11 + 13 + 1)) := rfl
  have hay28 : zAt ad (11 + 13 + 2) (ad (11 + 13 + 2)) := rfl
  have hay29 : zAt ad (11 + 13 + 3) (ad (11 + 13 + 3)) := rfl
  have hay30 : zAt ad (11 + 17) (ad (11 + 17)) := rfl
  obtain ⟨uy31t, uy31z, uy31o, uy31r, uy31z4, uy31t5, uy311, ⟨uy31u, uy312, uy313⟩, uy314⟩ := id csy22
  have hay32 : zAt ad (11 + 1) (ad (11 + 1)) := rfl
  have hay33 : zAt ad (11 + 1 + 1) (ad (11 + 1 + 1)) := rfl
  obtain ⟨sloy34, hooy34, uaoy34, stoy34, opoy34, aioy34, faoy34, muoy34, tboy34, hsloy34, hhooy34, hpoy34⟩ := id kry1
  have hay35 : zAt ad (883 + 1) (ad (883 + 1)) := rfl
  have hay36 : zAt ad (883 + 2) (ad (883 + 2)) := rfl
  have hay37 : zAt ad (883 + 3) (ad (883 + 3)) := rfl
  have hay38 : zAt ad (883 + 4) (ad (883 + 4)) := rfl
  have hay39 : zAt ad (883 + 5) (ad (883 + 5)) := rfl
  have hay40 : zAt ad (883 + 6) (ad (883 + 6)) := rfl
  refine z_of (by decide) (Nat.le_of_ble_eq_true rfl) ?_
  intro p e s m below meth c C hr hlk hnm
  refine z_lv (lv' := [(0, .ref (ad 0)), (1, .ref (ad 890)), (2, .ref (ad 4)), (3, .int (zI (z))), (4, .int (zI (z1))), (5, .int (zI (z2)))]) [0, 1, 2, 3, 4, 5] rfl ?_
  refine z_aload_n C 0 dX9_isNotedSo_0 rfl ?_
  refine z_get (v := .ref (ad 11)) C (lt_K hN (rfl : Nat.blt (0) 952 = true)) hay2 ary1 rfl inA_X9 5 (by decide) q_354 rfl rfl dX9_isNotedSo_1 ?_
  refine z_get (v := .ref (ad (11 + 13))) C (lt_K hN (rfl : Nat.blt (11) 952 = true)) hay6 iry1.1 rfl inA_X6 4 (by decide) q_265 rfl rfl dX9_isNotedSo_4 ?_
  refine z_astore (lv' := [(6, .ref (ad (11 + 13))), (0, .ref (ad 0)), (1, .ref (ad 890)), (2, .ref (ad 4)), (3, .int (zI (z))), (4, .int (zI (z1))), (5, .int (zI (z2)))]) C dX9_isNotedSo_7 (by decide) rfl ?_
  refine z_iload C 5 dX9_isNotedSo_9 rfl ?_
  refine z_istore (lv' := [(7, .int (zI (z1))), (6, .ref (ad (11 + 13))), (0, .ref (ad 0)), (1, .ref (ad 890)), (2, .ref (ad 4)), (3, .int (zI (z))), (4, .int (zI (z1))), (5, .int (zI (z2)))]) C dX9_isNotedSo_11 (by decide) rfl ?_
  have lp13 : ∀ (n9 : Nat) (el : Int) (g1 : Nat → va_E), (z2 + 1 - el).toNat = n9 → (okRec cs ad g1 N t fp im nz kz sl ho ua st op ai fa mu tb tp) → (oX g g1) → (0 ≤ el ∧ (el ≤ z2 + 1 ∨ el ≤ 100)) → zV p l e ({ frames := 6, cells := 0, slots := 0, locals := 360 } : Room) s m ([.ref (ad 0), .ref (ad 890), .ref (ad 4), .int (zI (z)), .int (zI (z1)), .int (zI (z2))] : List Value).toArray below meth c (MQ below (zPost D A (rI0 N ad fun r g' => (0 ≤ r ∧ r ≤ 1) ∧ okRec cs ad g' N t fp im nz kz sl ho ua st op ai fa mu tb tp ∧ oX g g')) ([.ref (ad 0), .ref (ad 890), .ref (ad 4), .int (zI (z)), .int (zI (z1)), .int (zI (z2))] : List Value).toArray s ({ frames := 6, cells := 0, slots := 0, locals := 360 } : Room).cells ({ frames := 6, cells := 0, slots := 0, locals := 360 } : Room).slots A) D A 9 (N) ad g1 (0) (0) 13 [(7, .int (zI (el))), (6, .ref (ad (11 + 13))), (0, .ref (ad 0)), (1, .ref (ad 890)), (2, .ref (ad 4)), (3, .int (zI (z))), (4, .int (zI (z1))), (5, .int (zI (z2)))] [] := by
    intro n9
    induction n9 using Nat.strongRecOn with
    | ind n9 ih_lp13 =>
      intro el g1 hm9 f1 f2 hv13_0
      obtain ⟨ary41, bry41, cry41, dry41, ery41, fry41, gry411, hry41, ⟨acry41, iry41⟩, ⟨kcry41, jry41⟩, kry41, lry41, mry41, nry41, ory41, pry41⟩ := id f1
      have hay42 : zAt ad (0) (ad 0) := rfl
      have hay43 : zAt ad (1) (ad 1) := rfl
      have hay44 : zAt ad (2) (ad 2) := rfl
      have hay45 : zAt ad (4) (ad 4) := rfl
      have hay46 : zAt ad (11) (ad 11) := rfl
      have hay47 : zAt ad (447) (ad 447) := rfl
      have hay48 : zAt ad (883) (ad 883) := rfl
      have hay49 : zAt ad (890) (ad 890) := rfl
      have hay50 : zAt ad (900) (ad 900) := rfl
      have hay51 : zAt ad (910) (ad 910) := rfl
      have hay52 : zAt ad (917) (ad 917) := rfl
      have hay53 : zAt ad (919) (ad 919) := rfl
      have hay54 : zAt ad (4 + 1) (ad (4 + 1)) := rfl
      have hay55 : zAt ad (4 + 2) (ad (4 + 2)) := rfl
      have hay56 : zAt ad (4 + 3) (ad (4 + 3)) := rfl
      have hay57 : zAt ad (4 + 4) (ad (4 + 4)) := rfl
      have hay58 : zAt ad (4 + 5) (ad (4 + 5)) := rfl
      have hay59 : zAt ad (4 + 6) (ad (4 + 6)) := rfl
      obtain ⟨thcy60, zhcy60, ohcy60, rhcy60, hzhcy60, hthcy60, hwhcy60⟩ := id lry41
      obtain ⟨thcy61, zhcy61, ohcy61, rhcy61, hzhcy61, hthcy61, hwhcy61⟩ := id mry41
      obtain ⟨asy62, bsy62, csy62, dsy62, esy62, ⟨ptsy62, fsy62, gsy621⟩, hsy62, ⟨nusy62, nvsy62, nwsy62, isy62, jsy62, ksy62, lsy62, msy62, nsy62⟩, rfsy62, osy62⟩ := id iry41
      have hay63 : zAt ad (11 + 1) (ad (11 + 1)) := rfl
      have hay64 : zAt ad (11 + 11) (ad (11 + 11)) := rfl
      have hay65 : zAt ad (11 + 12) (ad (11 + 12)) := rfl
      have hay66 : zAt ad (11 + 13) (ad (11 + 13)) := rfl
      have hay67 : zAt ad (11 + 13 + 1) (ad (11 + 13 + 1)) := rfl
      have hay68 : zAt ad (11 + 13 + 2) (ad (11 + 13 + 2)) := rfl
      have hay69 : zAt ad (11 + 13 + 3) (ad (11 + 13 + 3)) := rfl
      have hay70 : zAt ad (11 + 17) (ad (11 + 17)) := rfl
      obtain ⟨uy71t, uy71z, uy71o, uy71r, uy71z4, uy71t5, uy711, ⟨uy71u, uy712, uy713⟩, uy714⟩ := id csy62
      have hay72 : zAt ad (11 + 1) (ad (11 + 1)) := rfl
      have hay73 : zAt ad (11 + 1 + 1) (ad (11 + 1 + 1)) := rfl
      obtain ⟨sloy74, hooy74, uaoy74, stoy74, opoy74, aioy74, faoy74, muoy74, tboy74, hsloy74, hhooy74, hpoy74⟩ := id kry41
      have hay75 : zAt ad (883 + 1) (ad (883 + 1)) := rfl
      have hay76 : zAt ad (883 + 2) (ad (883 + 2)) := rfl
      have hay77 : zAt ad (883 + 3) (ad (883 + 3)) := rfl
      have hay78 : zAt ad (883 + 4) (ad (883 + 4)) := rfl
      have hay79 : zAt ad (883 + 5) (ad (883 + 5)) := rfl
      have hay80 : zAt ad (883 + 6) (ad (883 + 6)) := rfl
      refine z_iload C 0 dX9_isNotedSo_13 rfl ?_
      refine z_iload C 7 dX9_isNotedSo_15 rfl ?_
      refine z_icmp_gt (tgt := 103) C dX9_isNotedSo_17 (by decide) (by omega) (by omega) (fun hby81 => ?_) (fun hby81 => ?_)
      · refine z_iconst (z := 1) C dX9_isNotedSo_103 rfl ?_
        have hrecy82 : okRec cs ad g1 N (t) (fp) (im) (nz) (kz) (sl) (ho) (ua) (st) (op) (ai) (fa) (mu) (tb) (tp) := ⟨ary41, bry41, cry41, dry41, ery41, fry41, gry411, hry41, ⟨_, iry41⟩, ⟨_, jry41⟩, kry41, lry41, mry41, nry41, ory41, pry41⟩
        exact z_zret C hr hlk dX9_isNotedSo_104 (by decide) (by decide) (by decide) ⟨1, rfl, rfl, rfl, by omega, hrecy82, fun j j1 j2 => by exact f2 j j1 j2⟩
      · refine z_iload C 0 dX9_isNotedSo_20 rfl ?_
        refine z_iload C 6 dX9_isNotedSo_22 rfl ?_
        refine z_icmp_le (tgt := 34) C dX9_isNotedSo_24 (by decide) (by omega) (by omega) (fun hby83 => ?_) (fun hby83 => ?_)
        · refine z_iconst (z := 0) C dX9_isNotedSo_34 rfl ?_
          refine z_istore (lv' := [(8, .int (zI (0))), (7, .int (zI (el))), (6, .ref (ad (11 + 13))), (0, .ref (ad 0)), (1, .ref (ad 890)), (2, .ref (ad 4)), (3, .int (zI (z))), (4, .int (zI (z1))), (5, .int (zI (z2)))]) C dX9_isNotedSo_35 (by decide) rfl ?_
          have lp37 : ∀ (n9 : Nat) (i : Int) (g1 : Nat → va_E), (8 - i).toNat = n9 → (okRec cs ad g1 N t fp im nz kz sl ho ua st op ai fa mu tb tp) → (oX g g1) → (0 ≤ i ∧ i ≤ 8) → zV p l e ({ frames := 6, cells := 0, slots := 0, locals := 360 } : Room) s m ([.ref (ad 0), .ref (ad 890), .ref (ad 4), .int (zI (z)), .int (zI (z1)), .int (zI (z2))] : List Value).toArray below meth c (MQ below (zPost D A (rI0 N ad fun r g' => (0 ≤ r ∧ r ≤ 1) ∧ okRec cs ad g' N t fp im nz kz sl ho ua st op ai fa mu tb tp ∧ oX g g')) ([.ref (ad 0), .ref (ad 890), .ref (ad 4), .int (zI (z)), .int (zI (z1)), .int (zI (z2))] : List Value).toArray s ({ frames := 6, cells := 0, slots := 0, locals := 360 } : Room).cells ({ frames := 6, cells := 0, slots := 0, locals := 360 } : Room).slots A) D A 9 (N) ad g1 (0) (0) 37 [(8, .int (zI (i))), (7, .int (zI (el))), (6, .ref (ad (11 + 13))), (0, .ref (ad 0)), (1, .ref (ad 890)), (2, .ref (ad 4)), (3, .int (zI (z))), (4, .int (zI (z1))), (5, .int (zI (z2)))] [] := by
            intro n9
            induction n9 using Nat.strongRecOn with
            | ind n9 ih_lp37 =>
              intro i g1 hm9 f1 f2 hv37_0
              obtain ⟨ary84, bry84, cry84, dry84, ery84, fry84, gry841, hry84, ⟨acry84, iry84⟩, ⟨kcry84, jry84⟩, kry84, lry84, mry84, nry84, ory84, pry84⟩ := id f1
              have hay85 : zAt ad (0) (ad 0) := rfl
              have hay86 : zAt ad (1) (ad 1) := rfl
              have hay87 : zAt ad (2) (ad 2) := rfl
              have hay88 : zAt ad (4) (ad 4) := rfl
              have hay89 : zAt ad (11) (ad 11) := rfl
              have hay90 : zAt ad (447) (ad 447) := rfl
              have hay91 : zAt ad (883) (ad 883) := rfl
              have hay92 : zAt ad (890) (ad 890) := rfl
              have hay93 : zAt ad (900) (ad 900) := rfl
              have hay94 : zAt ad (910) (ad 910) := rfl
              have hay95 : zAt ad (917) (ad 917) := rfl
              have hay96 : zAt ad (919) (ad 919) := rfl
              have hay97 : zAt ad (4 + 1) (ad (4 + 1)) := rfl
              have hay98 : zAt ad (4 + 2) (ad (4 + 2)) := rfl
              have hay99 : zAt ad (4 + 3) (ad (4 + 3)) := rfl
              have hay100 : zAt ad (4 + 4) (ad (4 + 4)) := rfl
              have hay101 : zAt ad (4 + 5) (ad (4 + 5)) := rfl
              have hay102 : zAt ad (4 + 6) (ad (4 + 6)) := rfl
              obtain ⟨thcy103, zhcy103, ohcy103, rhcy103, hzhcy103, hthcy103, hwhcy103⟩ := id lry84
              obtain ⟨thcy104, zhcy104, ohcy104, rhcy104, hzhcy104, hthcy104, hwhcy104⟩ := id mry84
              obtain ⟨asy105, bsy105, csy105, dsy105, esy105, ⟨ptsy105, fsy105, gsy1051⟩, hsy105, ⟨nusy105, nvsy105, nwsy105, isy105, jsy105, ksy105, lsy105, msy105, nsy105⟩, rfsy105, osy105⟩ := id iry84
              have hay106 : zAt ad (11 + 1) (ad (11 + 1)) := rfl
              have hay107 : zAt ad (11 + 11) (ad (11 + 11)) := rfl
              have hay108 : zAt ad (11 + 12) (ad (11 + 12)) := rfl
              have hay109 : zAt ad (11 + 13) (ad (11 + 13)) := rfl
              have hay110 : zAt ad (11 + 13 + 1) (ad (11 + 13 + 1)) := rfl
              have hay111 : zAt ad (11 + 13 + 2) (ad (11 + 13 + 2)) := rfl
              have hay112 : zAt ad (11 + 13 + 3) (ad (11 + 13 + 3)) := rfl
              have hay113 : zAt ad (11 + 17) (ad (11 + 17)) := rfl
              obtain ⟨uy114t, uy114z, uy114o, uy114r, uy114z4, uy114t5, uy1141, ⟨uy114u, uy1142, uy1143⟩, uy1144⟩ := id csy105
              have hay115 : zAt ad (11 + 1) (ad (11 + 1)) := rfl
              have hay116 : zAt ad (11 + 1 + 1) (ad (11 + 1 + 1)) := rfl
              obtain ⟨sloy117, hooy117, uaoy117, stoy117, opoy117, aioy117, faoy117, muoy117, tboy117, hsloy117, hhooy117, hpoy117⟩ := id kry84
              have hay118 : zAt ad (883 + 1) (ad (883 + 1)) := rfl
              have hay119 : zAt ad (883 + 2) (ad (883 + 2)) := rfl
              have hay120 : zAt ad (883 + 3) (ad (883 + 3)) := rfl
              have hay121 : zAt ad (883 + 4) (ad (883 + 4)) := rfl
              have hay122 : zAt ad (883 + 5) (ad (883 + 5)) := rfl
              have hay123 : zAt ad (883 + 6) (ad (883 + 6)) := rfl
              refine z_iload C 0 dX9_isNotedSo_37 rfl ?_
              refine z_aload C 2 dX9_isNotedSo_39 rfl ?_
              refine z_get (v := .int (zI (nz))) C (lt_K hN (rfl : Nat.blt (11 + 13) 952 = true)) hay109 ksy105 rfl inA_X2 0 (by decide) q_218 rfl rfl dX9_isNotedSo_41 ?_
              refine z_icmp_ge (tgt := 97) C dX9_isNotedSo_44 (by decide) (by omega) (by omega) (fun hby124 => ?_) (fun hby124 => ?_)
              · refine z_iinc (z := el + 1) (lv' := [(7, .int (zI (el + 1))), (8, .int (zI (i))), (6, .ref (ad (11 + 13))), (0, .ref (ad 0)), (1, .ref (ad 890)), (2, .ref (ad 4)), (3, .int (zI (z))), (4, .int (zI (z1))), (5, .int (zI (z2)))]) (j := 1) C dX9_isNotedSo_97 rfl rfl (by decide) rfl ?_
                refine z_goto (tgt := 13) C dX9_isNotedSo_100 (by decide) ?_
                have hrecy125 : okRec cs ad g1 N (t) (fp) (im) (nz) (kz) (sl) (ho) (ua) (st) (op) (ai) (fa) (mu) (tb) (tp) := ⟨ary84, bry84, cry84, dry84, ery84, fry84, gry841, hry84, ⟨_, iry84⟩, ⟨_, jry84⟩, kry84, lry84, mry84, nry84, ory84, pry84⟩
                refine z_lv (lv' := [(7, .int (zI (el + 1))), (6, .ref (ad (11 + 13))), (0, .ref (ad 0)), (1, .ref (ad 890)), (2, .ref (ad 4)), (3, .int (zI (z))), (4, .int (zI (z1))), (5, .int (zI (z2)))]) [0, 2, 3, 4, 5, 6, 7, 8] rfl ?_
                exact ih_lp13 _ (by omega) (el + 1) g1 rfl hrecy125 (fun j j1 j2 => by exact f2 j j1 j2) (by omega)
              · refine z_aload C 2 dX9_isNotedSo_47 rfl ?_
                refine z_get (v := .ref (ad (11 + 13 + 2))) C (lt_K hN (rfl : Nat.blt (11 + 13) 952 = true)) hay109 ksy105 rfl inA_X2 2 (by decide) q_222 rfl rfl dX9_isNotedSo_49 ?_
                refine z_iload C 0 dX9_isNotedSo_52 rfl ?_
                refine z_iald C (lt_K hN (rfl : Nat.blt (11 + 13 + 2) 952 = true)) hay111 msy105 ((i).toNat) (by omega) (by omega) (by decide) dX9_isNotedSo_54 ?_
                have hrfy126 := jsy105 ((i).toNat) (by omega)
                refine z_iload C 1 dX9_isNotedSo_55 rfl ?_
                refine z_icmp_ne (tgt := 91) C dX9_isNotedSo_57 (by decide) (by omega) (by omega) (fun hby127 => ?_) (fun hby127 => ?_)
                · refine z_iinc (z := i + 1) (lv' := [(8, .int (zI (i + 1))), (7, .int (zI (el))), (6, .ref (ad (11 + 13))), (0, .ref (ad 0)), (1, .ref (ad 890)), (2, .ref (ad 4)), (3, .int (zI (z))), (4, .int (zI (z1))), (5, .int (zI (z2)))]) (j := 0) C dX9_isNotedSo_91 rfl rfl (by decide) rfl ?_
                  refine z_goto (tgt := 37) C dX9_isNotedSo_94 (by decide) ?_
                  have hrecy128 : okRec cs ad g1 N (t) (fp) (im) (nz) (kz) (sl) (ho) (ua) (st) (op) (ai) (fa) (mu) (tb) (tp) := ⟨ary84, bry84, cry84, dry84, ery84, fry84, gry841, hry84, ⟨_, iry84⟩, ⟨_, jry84⟩, kry84, lry84, mry84, nry84, ory84, pry84⟩
                  refine z_lv (lv' := [(8, .int (zI (i + 1))), (7, .int (zI (el))), (6, .ref (ad (11 + 13))), (0, .ref (ad 0)), (1, .ref (ad 890)), (2, .ref (ad 4)), (3, .int (zI (z))), (4, .int (zI (z1))), (5, .int (zI (z2)))]) [0, 1, 2, 3, 4, 5, 6, 7, 8] rfl ?_
                  exact ih_lp37 _ (by omega) (i + 1) g1 rfl hrecy128 (fun j j1 j2 => by exact f2 j j1 j2) (by omega)
                · refine z_aload C 2 dX9_isNotedSo_60 rfl ?_
                  refine z_get (v := .ref (ad (11 + 13 + 3))) C (lt_K hN (rfl : Nat.blt (11 + 13) 952 = true)) hay109 ksy105 rfl inA_X2 3 (by decide) q_224 rfl rfl dX9_isNotedSo_62 ?_
                  refine z_iload C 0 dX9_isNotedSo_65 rfl ?_
                  refine z_iald C (lt_K hN (rfl : Nat.blt (11 + 13 + 3) 952 = true)) hay112 nsy105 ((i).toNat) (by omega) (by omega) (by decide) dX9_isNotedSo_67 ?_
                  refine z_aload_n C 4 dX9_isNotedSo_68 rfl ?_
                  refine z_get (v := .ref (ad (890 + 1))) C (lt_K hN (rfl : Nat.blt (890) 952 = true)) hay92 hwhcy103.1 rfl inA_X8 6 (by decide) q_191 rfl rfl dX9_isNotedSo_69 ?_
                  refine z_aload C 2 dX9_isNotedSo_72 rfl ?_
                  refine z_get (v := .ref (ad (11 + 13 + 1))) C (lt_K hN (rfl : Nat.blt (11 + 13) 952 = true)) hay109 ksy105 rfl inA_X2 1 (by decide) q_220 rfl rfl dX9_isNotedSo_74 ?_
                  refine z_iload C 0 dX9_isNotedSo_77 rfl ?_
                  refine z_iald C (lt_K hN (rfl : Nat.blt (11 + 13 + 1) 952 = true)) hay110 lsy105 ((i).toNat) (by omega) (by omega) (by decide) dX9_isNotedSo_79 ?_
                  have hrfy129 := jsy105 ((i).toNat) (by omega)
                  obtain ⟨uy130t, uy130z, uy130o, uy130r, uy130z4, uy130t5, uy1301, ⟨uy130u, uy1302, uy1303⟩, uy1304⟩ := id lry84
                  have hay131 : zAt ad (890) (ad 890) := rfl
                  have hay132 : zAt ad (890 + 1) (ad (890 + 1)) := rfl
                  refine z_aald C (lt_K hN (rfl : Nat.blt (890 + 1) 952 = true)) hay132 uy1302 3 rfl ((nusy105 ((i).toNat)).toNat) (by omega) (by omega) (by decide) (uy1303 (nusy105 ((i).toNat)).toNat (by omega)) dX9_isNotedSo_80 ?_
                  have hay133 : zAt ad (890 + 2 + 2 * (nusy105 ((i).toNat)).toNat) (ad (890 + 2 + 2 * (nusy105 ((i).toNat)).toNat)) := rfl
                  have hay134 : zAt ad (890 + 2 + 2 * (nusy105 ((i).toNat)).toNat + 1) (ad (890 + 2 + 2 * (nusy105 ((i).toNat)).toNat + 1)) := rfl
                  have hpy135 := uy1304 (nusy105 ((i).toNat)).toNat (by omega)
                  have hqy136 := uy130z4 (nusy105 ((i).toNat)).toNat (by omega)
                  refine z_bipush (z := 36) C dX9_isNotedSo_81 (by decide) ?_
                  refine z_cV (As := [.int (zI (36))]) (rest := [.int (zI (nwsy105 ((i).toNat)))]) (ci := 5) C (c_X3_sum l D A cs tt N ad _ (890 + 2 + 2 * (nusy105 ((i).toNat)).toNat) (by omega) _ _ _ (by omega) ⟨hpy135.1, hpy135.2⟩  (36) (by omega)) (by omega) hay133 hpy135.1 rfl rfl mv_yX3_sum q_945 hd_yX3_sum (by decide) (Nat.le_of_ble_eq_true rfl) (by decide) dX9_isNotedSo_83 rfl (kI0 fun vy137 gvy137 hvy137 => ?_)
                  obtain ⟨hvy137, rfl⟩ := hvy137
                  obtain ⟨xy138, exy139, hxy140⟩ := zI_of (zI (nwsy105 ((i).toNat)))
                  rw [exy139]
                  refine z_icmp_eq (tgt := 91) C dX9_isNotedSo_86 (by decide) (by omega) (by omega) (fun hby141 => ?_) (fun hby141 => ?_)
                  · refine z_iinc (z := i + 1) (lv' := [(8, .int (zI (i + 1))), (7, .int (zI (el))), (6, .ref (ad (11 + 13))), (0, .ref (ad 0)), (1, .ref (ad 890)), (2, .ref (ad 4)), (3, .int (zI (z))), (4, .int (zI (z1))), (5, .int (zI (z2)))]) (j := 0) C dX9_isNotedSo_91 rfl rfl (by decide) rfl ?_
                    refine z_goto (tgt := 37) C dX9_isNotedSo_94 (by decide) ?_
                    have hrecy142 : okRec cs ad g1 N (t) (fp) (im) (nz) (kz) (sl) (ho) (ua) (st) (op) (ai) (fa) (mu) (tb) (tp) := ⟨ary84, bry84, cry84, dry84, ery84, fry84, gry841, hry84, ⟨_, iry84⟩, ⟨_, jry84⟩, kry84, lry84, mry84, nry84, ory84, pry84⟩
                    refine z_lv (lv' := [(8, .int (zI (i + 1))), (7, .int (zI (el))), (6, .ref (ad (11 + 13))), (0, .ref (ad 0)), (1, .ref (ad 890)), (2, .ref (ad 4)), (3, .int (zI (z))), (4, .int (zI (z1))), (5, .int (zI (z2)))]) [0, 1, 2, 3, 4, 5, 6, 7, 8] rfl ?_
                    exact ih_lp37 _ (by omega) (i + 1) g1 rfl hrecy142 (fun j j1 j2 => by exact f2 j j1 j2) (by omega)
                  · refine z_iconst (z := 0) C dX9_isNotedSo_89 rfl ?_
                    have hrecy143 : okRec cs ad g1 N (t) (fp) (im) (nz) (kz) (sl) (ho) (ua) (st) (op) (ai) (fa) (mu) (tb) (tp) := ⟨ary84, bry84, cry84, dry84, ery84, fry84, gry841, hry84, ⟨_, iry84⟩, ⟨_, jry84⟩, kry84, lry84, mry84, nry84, ory84, pry84⟩
                    exact z_zret C hr hlk dX9_isNotedSo_90 (by decide) (by decide) (by decide) ⟨0, rfl, rfl, rfl, by omega, hrecy143, fun j j1 j2 => by exact f2 j j1 j2⟩
          have hrecy144 : okRec cs ad g1 N (t) (fp) (im) (nz) (kz) (sl) (ho) (ua) (st) (op) (ai) (fa) (mu) (tb) (tp) := ⟨ary41, bry41, cry41, dry41, ery41, fry41, gry411, hry41, ⟨_, iry41⟩, ⟨_, jry41⟩, kry41, lry41, mry41, nry41, ory41, pry41⟩
          refine z_lv (lv' := [(8, .int (zI (0))), (7, .int (zI (el))), (6, .ref (ad (11 + 13))), (0, .ref (ad 0)), (1, .ref (ad 890)), (2, .ref (ad 4)), (3, .int (zI (z))), (4, .int (zI (z1))), (5, .int (zI (z2)))]) [0, 1, 2, 3, 4, 5, 6, 7, 8] rfl ?_
          exact lp37 _ (0) g1 rfl hrecy144 (fun j j1 j2 => by exact f2 j j1 j2) (by omega)
        · refine z_aload_n C 3 dX9_isNotedSo_27 rfl ?_
          refine z_aload_n C 4 dX9_isNotedSo_28 rfl ?_
          refine z_iload_n C 5 dX9_isNotedSo_29 rfl ?_
          refine z_iconst (z := 1) C dX9_isNotedSo_30 rfl ?_
          refine z_cV (As := [.ref (ad 4), .int (zI (z)), .int (zI (1))]) (rest := []) (ci := 10) C (c_X8_hour l D A cs tt N ad _ (890) (by omega) lry41 (4) (by omega) _ _ _ _ _ _ _ _ _ ⟨fry41.1, fry41.2.1, fry41.2.2.1, fry41.2.2.2.1, fry41.2.2.2.2.1, fry41.2.2.2.2.2.1, fry41.2.2.2.2.2.2⟩ (by omega) (by omega) (by omega) (z) (by omega) (1) (by omega)) (lt_K hN (rfl : Nat.blt (890) 952 = true)) hay49 hwhcy60.1 rfl rfl mv_yX8_hour q_435 hd_yX8_hour (by decide) (Nat.le_of_ble_eq_true rfl) (by decide) dX9_isNotedSo_31 rfl (kV0 fun gvy145 hvy145 => ?_)
          obtain ⟨hkvy145, hfvy145⟩ := hvy145
          have hoky146 : okWorld cs ad gvy145 (890) := hkvy145
          obtain ⟨thcy147, zhcy147, ohcy147, rhcy147, hzhcy147, hthcy147, hwhcy147⟩ := id hoky146
          refine z_iconst (z := 0) C dX9_isNotedSo_34 rfl ?_
          refine z_istore (lv' := [(8, .int (zI (0))), (7, .int (zI (el))), (6, .ref (ad (11 + 13))), (0, .ref (ad 0)), (1, .ref (ad 890)), (2, .ref (ad 4)), (3, .int (zI (z))), (4, .int (zI (z1))), (5, .int (zI (z2)))]) C dX9_isNotedSo_35 (by decide) rfl ?_
          have lp37 : ∀ (n9 : Nat) (i : Int) (g1 : Nat → va_E), (8 - i).toNat = n9 → (okRec cs ad g1 N t fp im nz kz sl ho ua st op ai fa mu tb tp) → (oX g g1) → (0 ≤ i ∧ i ≤ 8) → zV p l e ({ frames := 6, cells := 0, slots := 0, locals := 360 } : Room) s m ([.ref (ad 0), .ref (ad 890), .ref (ad 4), .int (zI (z)), .int (zI (z1)), .int (zI (z2))] : List Value).toArray below meth c (MQ below (zPost D A (rI0 N ad fun r g' => (0 ≤ r ∧ r ≤ 1) ∧ okRec cs ad g' N t fp im nz kz sl ho ua st op ai fa mu tb tp ∧ oX g g')) ([.ref (ad 0), .ref (ad 890), .ref (ad 4), .int (zI (z)), .int (zI (z1)), .int (zI (z2))] : List Value).toArray s ({ frames := 6, cells := 0, slots := 0, locals := 360 } : Room).cells ({ frames := 6, cells := 0, slots := 0, locals := 360 } : Room).slots A) D A 9 (N) ad g1 (0) (0) 37 [(8, .int (zI (i))), (7, .int (zI (el))), (6, .ref (ad (11 + 13))), (0, .ref (ad 0)), (1, .ref (ad 890)), (2, .ref (ad 4)), (3, .int (zI (z))), (4, .int (zI (z1))), (5, .int (zI (z2)))] [] := by
            intro n9
            induction n9 using Nat.strongRecOn with
            | ind n9 ih_lp37 =>
              intro i g1 hm9 f1 f2 hv37_0
              obtain ⟨ary148, bry148, cry148, dry148, ery148, fry148, gry1481, hry148, ⟨acry148, iry148⟩, ⟨kcry148, jry148⟩, kry148, lry148, mry148, nry148, ory148, pry148⟩ := id f1
              have hay149 : zAt ad (0) (ad 0) := rfl
              have hay150 : zAt ad (1) (ad 1) := rfl
              have hay151 : zAt ad (2) (ad 2) := rfl
              have hay152 : zAt ad (4) (ad 4) := rfl
              have hay153 : zAt ad (11) (ad 11) := rfl
              have hay154 : zAt ad (447) (ad 447) := rfl
              have hay155 : zAt ad (883) (ad 883) := rfl
              have hay156 : zAt ad (890) (ad 890) := rfl
              have hay157 : zAt ad (900) (ad 900) := rfl
              have hay158 : zAt ad (910) (ad 910) := rfl
              have hay159 : zAt ad (917) (ad 917) := rfl
              have hay160 : zAt ad (919) (ad 919) := rfl
              have hay161 : zAt ad (4 + 1) (ad (4 + 1)) := rfl
              have hay162 : zAt ad (4 + 2) (ad (4 + 2)) := rfl
              have hay163 : zAt ad (4 + 3) (ad (4 + 3)) := rfl
              have hay164 : zAt ad (4 + 4) (ad (4 + 4)) := rfl
              have hay165 : zAt ad (4 + 5) (ad (4 + 5)) := rfl
              have hay166 : zAt ad (4 + 6) (ad (4 + 6)) := rfl
              obtain ⟨thcy167, zhcy167, ohcy167, rhcy167, hzhcy167, hthcy167, hwhcy167⟩ := id lry148
              obtain ⟨thcy168, zhcy168, ohcy168, rhcy168, hzhcy168, hthcy168, hwhcy168⟩ := id mry148
              obtain ⟨asy169, bsy169, csy169, dsy169, esy169, ⟨ptsy169, fsy169, gsy1691⟩, hsy169, ⟨nusy169, nvsy169, nwsy169, isy169, jsy169, ksy169, lsy169, msy169, nsy169⟩, rfsy169, osy169⟩ := id iry148
              have hay170 : zAt ad (11 + 1) (ad (11 + 1)) := rfl
              have hay171 : zAt ad (11 + 11) (ad (11 + 11)) := rfl
              have hay172 : zAt ad (11 + 12) (ad (11 + 12)) := rfl
              have hay173 : zAt ad (11 + 13) (ad (11 + 13)) := rfl
              have hay174 : zAt ad (11 + 13 + 1) (ad (11 + 13 + 1)) := rfl
              have hay175 : zAt ad (11 + 13 + 2) (ad (11 + 13 + 2)) := rfl
              have hay176 : zAt ad (11 + 13 + 3) (ad (11 + 13 + 3)) := rfl
              have hay177 : zAt ad (11 + 17) (ad (11 + 17)) := rfl
              obtain ⟨uy178t, uy178z, uy178o, uy178r, uy178z4, uy178t5, uy1781, ⟨uy178u, uy1782, uy1783⟩, uy1784⟩ := id csy169
              have hay179 : zAt ad (11 + 1) (ad (11 + 1)) := rfl
              have hay180 : zAt ad (11 + 1 + 1) (ad (11 + 1 + 1)) := rfl
              obtain ⟨sloy181, hooy181, uaoy181, stoy181, opoy181, aioy181, faoy181, muoy181, tboy181, hsloy181, hhooy181, hpoy181⟩ := id kry148
              have hay182 : zAt ad (883 + 1) (ad (883 + 1)) := rfl
              have hay183 : zAt ad (883 + 2) (ad (883 + 2)) := rfl
              have hay184 : zAt ad (883 + 3) (ad (883 + 3)) := rfl
              have hay185 : zAt ad (883 + 4) (ad (883 + 4)) := rfl
              have hay186 : zAt ad (883 + 5) (ad (883 + 5)) := rfl
              have hay187 : zAt ad (883 + 6) (ad (883 + 6)) := rfl
              refine z_iload C 0 dX9_isNotedSo_37 rfl ?_
              refine z_aload C 2 dX9_isNotedSo_39 rfl ?_
              refine z_get (v := .int (zI (nz))) C (lt_K hN (rfl : Nat.blt (11 + 13) 952 = true)) hay173 ksy169 rfl inA_X2 0 (by decide) q_218 rfl rfl dX9_isNotedSo_41 ?_
              refine z_icmp_ge (tgt := 97) C dX9_isNotedSo_44 (by decide) (by omega) (by omega) (fun hby188 => ?_) (fun hby188 => ?_)
              · refine z_iinc (z := el + 1) (lv' := [(7, .int (zI (el + 1))), (8, .int (zI (i))), (6, .ref (ad (11 + 13))), (0, .ref (ad 0)), (1, .ref (ad 890)), (2, .ref (ad 4)), (3, .int (zI (z))), (4, .int (zI (z1))), (5, .int (zI (z2)))]) (j := 1) C dX9_isNotedSo_97 rfl rfl (by decide) rfl ?_
                refine z_goto (tgt := 13) C dX9_isNotedSo_100 (by decide) ?_
                have hrecy189 : okRec cs ad g1 N (t) (fp) (im) (nz) (kz) (sl) (ho) (ua) (st) (op) (ai) (fa) (mu) (tb) (tp) := ⟨ary148, bry148, cry148, dry148, ery148, fry148, gry1481, hry148, ⟨_, iry148⟩, ⟨_, jry148⟩, kry148, lry148, mry148, nry148, ory148, pry148⟩
                refine z_lv (lv' := [(7, .int (zI (el + 1))), (6, .ref (ad (11 + 13))), (0, .ref (ad 0)), (1, .ref (ad 890)), (2, .ref (ad 4)), (3, .int (zI (z))), (4, .int (zI (z1))), (5, .int (zI (z2)))]) [0, 2, 3, 4, 5, 6, 7, 8] rfl ?_
                exact ih_lp13 _ (by omega) (el + 1) g1 rfl hrecy189 (fun j j1 j2 => by exact f2 j j1 j2) (by omega)
              · refine z_aload C 2 dX9_isNotedSo_47 rfl ?_
                refine z_get (v := .ref (ad (11 + 13 + 2))) C (lt_K hN (rfl : Nat.blt (11 + 13) 952 = true)) hay173 ksy169 rfl inA_X2 2 (by decide) q_222 rfl rfl dX9_isNotedSo_49 ?_
                refine z_iload C 0 dX9_isNotedSo_52 rfl ?_
                refine z_iald C (lt_K hN (rfl : Nat.blt (11 + 13 + 2) 952 = true)) hay175 msy169 ((i).toNat) (by omega) (by omega) (by decide) dX9_isNotedSo_54 ?_
                have hrfy190 := jsy169 ((i).toNat) (by omega)
                refine z_iload C 1 dX9_isNotedSo_55 rfl ?_
                refine z_icmp_ne (tgt := 91) C dX9_isNotedSo_57 (by decide) (by omega) (by omega) (fun hby191 => ?_) (fun hby191 => ?_)
                · refine z_iinc (z := i + 1) (lv' := [(8, .int (zI (i + 1))), (7, .int (zI (el))), (6, .ref (ad (11 + 13))), (0, .ref (ad 0)), (1, .ref (ad 890)), (2, .ref (ad 4)), (3, .int (zI (z))), (4, .int (zI (z1))), (5, .int (zI (z2)))]) (j := 0) C dX9_isNotedSo_91 rfl rfl (by decide) rfl ?_
                  refine z_goto (tgt := 37) C dX9_isNotedSo_94 (by decide) ?_
                  have hrecy192 : okRec cs ad g1 N (t) (fp) (im) (nz) (kz) (sl) (ho) (ua) (st) (op) (ai) (fa) (mu) (tb) (tp) := ⟨ary148, bry148, cry148, dry148, ery148, fry148, gry1481, hry148, ⟨_, iry148⟩, ⟨_, jry148⟩, kry148, lry148, mry148, nry148, ory148, pry148⟩
                  refine z_lv (lv' := [(8, .int (zI (i + 1))), (7, .int (zI (el))), (6, .ref (ad (11 + 13))), (0, .ref (ad 0)), (1, .ref (ad 890)), (2, .ref (ad 4)), (3, .int (zI (z))), (4, .int (zI (z1))), (5, .int (zI (z2)))]) [0, 1, 2, 3, 4, 5, 6, 7, 8] rfl ?_
                  exact ih_lp37 _ (by omega) (i + 1) g1 rfl hrecy192 (fun j j1 j2 => by exact f2 j j1 j2) (by omega)
                · refine z_aload C 2 dX9_isNotedSo_60 rfl ?_
                  refine z_get (v := .ref (ad (11 + 13 + 3))) C (lt_K hN (rfl : Nat.blt (11 + 13) 952 = true)) hay173 ksy169 rfl inA_X2 3 (by decide) q_224 rfl rfl dX9_isNotedSo_62 ?_
                  refine z_iload C 0 dX9_isNotedSo_65 rfl ?_
                  refine z_iald C (lt_K hN (rfl : Nat.blt (11 + 13 + 3) 952 = true)) hay176 nsy169 ((i).toNat) (by omega) (by omega) (by decide) dX9_isNotedSo_67 ?_
                  refine z_aload_n C 4 dX9_isNotedSo_68 rfl ?_
                  refine z_get (v := .ref (ad (890 + 1))) C (lt_K hN (rfl : Nat.blt (890) 952 = true)) hay156 hwhcy167.1 rfl inA_X8 6 (by decide) q_191 rfl rfl dX9_isNotedSo_69 ?_
                  refine z_aload C 2 dX9_isNotedSo_72 rfl ?_
                  refine z_get (v := .ref (ad (11 + 13 + 1))) C (lt_K hN (rfl : Nat.blt (11 + 13) 952 = true)) hay173 ksy169 rfl inA_X2 1 (by decide) q_220 rfl rfl dX9_isNotedSo_74 ?_
                  refine z_iload C 0 dX9_isNotedSo_77 rfl ?_
                  refine z_iald C (lt_K hN (rfl : Nat.blt (11 + 13 + 1) 952 = true)) hay174 lsy169 ((i).toNat) (by omega) (by omega) (by decide) dX9_isNotedSo_79 ?_
                  have hrfy193 := jsy169 ((i).toNat) (by omega)
                  obtain ⟨uy194t, uy194z, uy194o, uy194r, uy194z4, uy194t5, uy1941, ⟨uy194u, uy1942, uy1943⟩, uy1944⟩ := id lry148
                  have hay195 : zAt ad (890) (ad 890) := rfl
                  have hay196 : zAt ad (890 + 1) (ad (890 + 1)) := rfl
                  refine z_aald C (lt_K hN (rfl : Nat.blt (890 + 1) 952 = true)) hay196 uy1942 3 rfl ((nusy169 ((i).toNat)).toNat) (by omega) (by omega) (by decide) (uy1943 (nusy169 ((i).toNat)).toNat (by omega)) dX9_isNotedSo_80 ?_
                  have hay197 : zAt ad (890 + 2 + 2 * (nusy169 ((i).toNat)).toNat) (ad (890 + 2 + 2 * (nusy169 ((i).toNat)).toNat)) := rfl
                  have hay198 : zAt ad (890 + 2 + 2 * (nusy169 ((i).toNat)).toNat + 1) (ad (890 + 2 + 2 * (nusy169 ((i).toNat)).toNat + 1)) := rfl
                  have hpy199 := uy1944 (nusy169 ((i).toNat)).toNat (by omega)
                  have hqy200 := uy194z4 (nusy169 ((i).toNat)).toNat (by omega)
                  refine z_bipush (z := 36) C dX9_isNotedSo_81 (by decide) ?_
                  refine z_cV (As := [.int (zI (36))]) (rest := [.int (zI (nwsy169 ((i).toNat)))]) (ci := 5) C (c_X3_sum l D A cs tt N ad _ (890 + 2 + 2 * (nusy169 ((i).toNat)).toNat) (by omega) _ _ _ (by omega) ⟨hpy199.1, hpy199.2⟩  (36) (by omega)) (by omega) hay197 hpy199.1 rfl rfl mv_yX3_sum q_945 hd_yX3_sum (by decide) (Nat.le_of_ble_eq_true rfl) (by decide) dX9_isNotedSo_83 rfl (kI0 fun vy201 gvy201 hvy201 => ?_)
                  obtain ⟨hvy201, rfl⟩ := hvy201
                  obtain ⟨xy202, exy203, hxy204⟩ := zI_of (zI (nwsy169 ((i).toNat)))
                  rw [exy203]
                  refine z_icmp_eq (tgt := 91) C dX9_isNotedSo_86 (by decide) (by omega) (by omega) (fun hby205 => ?_) (fun hby205 => ?_)
                  · refine z_iinc (z := i + 1) (lv' := [(8, .int (zI (i + 1))), (7, .int (zI (el))), (6, .ref (ad (11 + 13))), (0, .ref (ad 0)), (1, .ref (ad 890)), (2, .ref (ad 4)), (3, .int (zI (z))), (4, .int (zI (z1))), (5, .int (zI (z2)))]) (j := 0) C dX9_isNotedSo_91 rfl rfl (by decide) rfl ?_
                    refine z_goto (tgt := 37) C dX9_isNotedSo_94 (by decide) ?_
                    have hrecy206 : okRec cs ad g1 N (t) (fp) (im) (nz) (kz) (sl) (ho) (ua) (st) (op) (ai) (fa) (mu) (tb) (tp) := ⟨ary148, bry148, cry148, dry148, ery148, fry148, gry1481, hry148, ⟨_, iry148⟩, ⟨_, jry148⟩, kry148, lry148, mry148, nry148, ory148, pry148⟩
                    refine z_lv (lv' := [(8, .int (zI (i + 1))), (7, .int (zI (el))), (6, .ref (ad (11 + 13))), (0, .ref (ad 0)), (1, .ref (ad 890)), (2, .ref (ad 4)), (3, .int (zI (z))), (4, .int (zI (z1))), (5, .int (zI (z2)))]) [0, 1, 2, 3, 4, 5, 6, 7, 8] rfl ?_
                    exact ih_lp37 _ (by omega) (i + 1) g1 rfl hrecy206 (fun j j1 j2 => by exact f2 j j1 j2) (by omega)
                  · refine z_iconst (z := 0) C dX9_isNotedSo_89 rfl ?_
                    have hrecy207 : okRec cs ad g1 N (t) (fp) (im) (nz) (kz) (sl) (ho) (ua) (st) (op) (ai) (fa) (mu) (tb) (tp) := ⟨ary148, bry148, cry148, dry148, ery148, fry148, gry1481, hry148, ⟨_, iry148⟩, ⟨_, jry148⟩, kry148, lry148, mry148, nry148, ory148, pry148⟩
                    exact z_zret C hr hlk dX9_isNotedSo_90 (by decide) (by decide) (by decide) ⟨0, rfl, rfl, rfl, by omega, hrecy207, fun j j1 j2 => by exact f2 j j1 j2⟩
          have hgy208 := (hfvy145 (0) (by omega)).trans ary41
          have hgy209 := (hfvy145 (1) (by omega)).trans dry41
          have hpy210 := okState.mv (ad' := ad) (g' := gvy145) (fun j h1 h2 => by rfl) (fun j h1 h2 => by rw [hfvy145 _ (by omega)]) iry41
          have hpy211 := okRdr.mv (ad' := ad) (g' := gvy145) (fun j h1 h2 => by rfl) (fun j h1 h2 => by rw [hfvy145 _ (by omega)]) ery41
          have hpy212 := isPlan.mv (ad' := ad) (g' := gvy145) (fun j h1 h2 => by rfl) (fun j h1 h2 => by rw [hfvy145 _ (by omega)]) fry41
          have hpy213 := okState.mv (ad' := ad) (g' := gvy145) (fun j h1 h2 => by rfl) (fun j h1 h2 => by rw [hfvy145 _ (by omega)]) jry41
          have hpy214 := okPlan.mv (ad' := ad) (g' := gvy145) (fun j h1 h2 => by rfl) (fun j h1 h2 => by rw [hfvy145 _ (by omega)]) kry41
          have hpy215 := okGss.mv (ad' := ad) (g' := gvy145) (fun j h1 h2 => by rfl) (fun j h1 h2 => by rw [hfvy145 _ (by omega)]) nry41
          have hpy216 := okLike.mv (ad' := ad) (g' := gvy145) (fun j h1 h2 => by rfl) (fun j h1 h2 => by rw [hfvy145 _ (by omega)]) ory41
          have hpy217 := okBld.mv (ad' := ad) (g' := gvy145) (fun j h1 h2 => by rfl) (fun j h1 h2 => by rw [hfvy145 _ (by omega)]) pry41
          have hoky218 : okWorld cs ad gvy145 (900) := okWorld.mv (fun j j1 j2 => by rw [hfvy145 _ (by omega)]) mry41
          have hrecy219 : okRec cs ad gvy145 N (t) (fp) (im) (nz) (kz) (sl) (ho) (ua) (st) (op) (ai) (fa) (mu) (tb) (tp) := ⟨hgy208, bry41, cry41, hgy209, hpy211, hpy212, gry411, hry41, ⟨_, hpy210⟩, ⟨_, hpy213⟩, hpy214, hoky146, hoky218, hpy215, hpy216, hpy217⟩
          refine z_lv (lv' := [(8, .int (zI (0))), (7, .int (zI (el))), (6, .ref (ad (11 + 13))), (0, .ref (ad 0)), (1, .ref (ad 890)), (2, .ref (ad 4)), (3, .int (zI (z))), (4, .int (zI (z1))), (5, .int (zI (z2)))]) [0, 1, 2, 3, 4, 5, 6, 7, 8] rfl ?_
          exact lp37 _ (0) gvy145 rfl hrecy219 (fun j j1 j2 => by rw [hfvy145 _ (by omega)]; exact f2 j j1 j2) (by omega)
  have hrecy220 : okRec cs ad g N (t) (fp) (im) (nz) (kz) (sl) (ho) (ua) (st) (op) (ai) (fa) (mu) (tb) (tp) := ⟨ary1, bry1, cry1, dry1, ery1, fry1, gry11, hry1, ⟨_, iry1⟩, ⟨_, jry1⟩, kry1, lry1, mry1, nry1, ory1, pry1⟩
  refine z_lv (lv' := [(7, .int (zI (z1))), (6, .ref (ad (11 + 13))), (0, .ref (ad 0)), (1, .ref (ad 890)), (2, .ref (ad 4)), (3, .int (zI (z))), (4, .int (zI (z1))), (5, .int (zI (z2)))]) [0, 1, 2, 3, 4, 5, 6, 7] rfl ?_
  exact lp13 _ (z1) g rfl hrecy220 (fun j j1 j2 => by rfl) (by omega)

set_option maxRecDepth 100000 in
set_option maxHeartbeats 4000000 in
theorem c_X9_isNotedSo_900_4 (l : Launch) (D : va_G) (A : Nat → Prop) (cs : Nat → ClassId) (tt : Nat) (N : Nat) (ad : Nat → Nat) (g : Nat → va_E) (hN : 952 ≤ N) (t fp im nz kz sl ho ua : Int) (st op ai fa mu tb tp : Nat → Int) (hR : okRec cs ad g N t fp im nz kz sl ho ua st op ai fa mu tb tp) (z : Int) (hz : -2147483648 ≤ z ∧ z ≤ 2147483647) (z1 : Int) (hz1 : 0 ≤ z1 ∧ z1 ≤ 100) (z2 : Int) (hz2 : -1 ≤ z2 ∧ z2 ≤ 100) : zM l yX9_isNotedSo cX9_isNotedSo 9 (some .boolean) ({ frames := 6, cells := 0, slots := 0, locals := 360 } : Room) D A cs tt N ad g [.ref (ad 0), .ref (ad 900), .ref (ad 4), .int (zI (z)), .int (zI (z1)), .int (zI (z2))] (rI0 N ad fun r g' => (0 ≤ r ∧ r ≤ 1) ∧ okRec cs ad g' N t fp im nz kz sl ho ua st op ai fa mu tb tp ∧ oX g g') := by
  obtain ⟨ary1, bry1, cry1, dry1, ery1, fry1, gry11, hry1, ⟨acry1, iry1⟩, ⟨kcry1, jry1⟩, kry1, lry1, mry1, nry1, ory1, pry1⟩ := id hR
  have hay2 : zAt ad (0) (ad 0) := rfl
  have hay3 : zAt ad (1) (ad 1) := rfl
  have hay4 : zAt ad (2) (ad 2) := rfl
  have hay5 : zAt ad (4) (ad 4) := rfl
  have hay6 : zAt ad (11) (ad 11) := rfl
  have hay7 : zAt ad (447) (ad 447) := rfl
  have hay8 : zAt ad (883) (ad 883) := rfl
  have hay9 : zAt ad (890) (ad 890) := rfl
  have hay10 : zAt ad (900) (ad 900) := rfl
  have hay11 : zAt ad (910) (ad 910) := rfl
  have hay12 : zAt ad (917) (ad 917) := rfl
  have hay13 : zAt ad (919) (ad 919) := rfl
  have hay14 : zAt ad (4 + 1) (ad (4 + 1)) := rfl
  have hay15 : zAt ad (4 + 2) (ad (4 + 2)) := rfl
  have hay16 : zAt ad (4 + 3) (ad (4 + 3)) := rfl
  have hay17 : zAt ad (4 + 4) (ad (4 + 4)) := rfl
  have hay18 : zAt ad (4 + 5) (ad (4 + 5)) := rfl
  have hay19 : zAt ad (4 + 6) (ad (4 + 6)) := rfl
  obtain ⟨thcy20, zhcy20, ohcy20, rhcy20, hzhcy20, hthcy20, hwhcy20⟩ := id lry1
  obtain ⟨thcy21, zhcy21, ohcy21, rhcy21, hzhcy21, hthcy21, hwhcy21⟩ := id mry1
  obtain ⟨asy22, bsy22, csy22, dsy22, esy22, ⟨ptsy22, fsy22, gsy221⟩, hsy22, ⟨nusy22, nvsy22, nwsy22, isy22, jsy22, ksy22, lsy22, msy22, nsy22⟩, rfsy22, osy22⟩ := id iry1
  have hay23 : zAt ad (11 + 1) (ad (11 + 1)) := rfl
  have hay24 : zAt ad (11 + 11) (ad (11 + 11)) := rfl
  have hay25 : zAt ad (11 + 12) (ad (11 + 12)) := rfl
  have hay26 : zAt ad (11 + 13) (ad (11 + 13)) := rfl
  have hay27 : zAt ad (11 + 13 + 1) (ad (11 + 13 + 1)) := rfl
  have hay28 : zAt ad (11 + 13 + 2) (ad (11 + 13 + 2)) := rfl
  have hay29 : zAt ad (11 + 13 + 3) (ad (11 + 13 + 3)) := rfl
  have hay30 : zAt ad (11 + 17) (ad (11 + 17)) := rfl
  obtain ⟨uy31t, uy31z, uy31o, uy31r, uy31z4, uy31t5, uy311, ⟨uy31u, uy312, uy313⟩, uy314⟩ := id csy22
  have hay32 : zAt ad (11 + 1) (ad (11 + 1)) := rfl
  have hay33 : zAt ad (11 + 1 + 1) (ad (11 + 1 + 1)) := rfl
  obtain ⟨sloy34, hooy34, uaoy34, stoy34, opoy34, aioy34, faoy34, muoy34, tboy34, hsloy34, hhooy34, hpoy34⟩ := id kry1
  have hay35 : zAt ad (883 + 1) (ad (883 + 1)) := rfl
  have hay36 : zAt ad (883 + 2) (ad (883 + 2)) := rfl
  have hay37 : zAt ad (883 + 3) (ad (883 + 3)) := rfl
  have hay38 : zAt ad (883 + 4) (ad (883 + 4)) := rfl
  have hay39 : zAt ad (883 + 5) (ad (883 + 5)) := rfl
  have hay40 : zAt ad (883 + 6) (ad (883 + 6)) := rfl
  refine z_of (by decide) (Nat.le_of_ble_eq_true rfl) ?_
  intro p e s m below meth c C hr hlk hnm
  refine z_lv (lv' := [(0, .ref (ad 0)), (1, .ref (ad 900)), (2, .ref (ad 4)), (3, .int (zI (z))), (4, .int (zI (z1))), (5, .int (zI (z2)))]) [0, 1, 2, 3, 4, 5] rfl ?_
  refine z_aload_n C 0 dX9_isNotedSo_0 rfl ?_
  refine z_get (v := .ref (ad 11)) C (lt_K hN (rfl : Nat.blt (0) 952 = true)) hay2 ary1 rfl inA_X9 5 (by decide) q_354 rfl rfl dX9_isNotedSo_1 ?_
  refine z_get (v := .ref (ad (11 + 13))) C (lt_K hN (rfl : Nat.blt (11) 952 = true)) hay6 iry1.1 rfl inA_X6 4 (by decide) q_265 rfl rfl dX9_isNotedSo_4 ?_
  refine z_astore (lv' := [(6, .ref (ad (11 + 13))), (0, .ref (ad 0)), (1, .ref (ad 900)), (2, .ref (ad 4)), (3, .int (zI (z))), (4, .int (zI (z1))), (5, .int (zI (z2)))]) C dX9_isNotedSo_7 (by decide) rfl ?_
  refine z_iload C 5 dX9_isNotedSo_9 rfl ?_
  refine z_istore (lv' := [(7, .int (zI (z1))), (6, .ref (ad (11 + 13))), (0, .ref (ad 0)), (1, .ref (ad 900)), (2, .ref (ad 4)), (3, .int (zI (z))), (4, .int (zI (z1))), (5, .int (zI (z2)))]) C dX9_isNotedSo_11 (by decide) rfl ?_
  have lp13 : ∀ (n9 : Nat) (el : Int) (g1 : Nat → va_E), (z2 + 1 - el).toNat = n9 → (okRec cs ad g1 N t fp im nz kz sl ho ua st op ai fa mu tb tp) → (oX g g1) → (0 ≤ el ∧ (el ≤ z2 + 1 ∨ el ≤ 100)) → zV p l e ({ frames := 6, cells := 0, slots := 0, locals := 360 } : Room) s m ([.ref (ad 0), .ref (ad 900), .ref (ad 4), .int (zI (z)), .int (zI (z1)), .int (zI (z2))] : List Value).toArray below meth c (MQ below (zPost D A (rI0 N ad fun r g' => (0 ≤ r ∧ r ≤ 1) ∧ okRec cs ad g' N t fp im nz kz sl ho ua st op ai fa mu tb tp ∧ oX g g')) ([.ref (ad 0), .ref (ad 900), .ref (ad 4), .int (zI (z)), .int (zI (z1)), .int (zI (z2))] : List Value).toArray s ({ frames := 6, cells := 0, slots := 0, locals := 360 } : Room).cells ({ frames := 6, cells := 0, slots := 0, locals := 360 } : Room).slots A) D A 9 (N) ad g1 (0) (0) 13 [(7, .int (zI (el))), (6, .ref (ad (11 + 13))), (0, .ref (ad 0)), (1, .ref (ad 900)), (2, .ref (ad 4)), (3, .int (zI (z))), (4, .int (zI (z1))), (5, .int (zI (z2)))] [] := by
    intro n9
    induction n9 using Nat.strongRecOn with
    | ind n9 ih_lp13 =>
      intro el g1 hm9 f1 f2 hv13_0
      obtain ⟨ary41, bry41, cry41, dry41, ery41, fry41, gry411, hry41, ⟨acry41, iry41⟩, ⟨kcry41, jry41⟩, kry41, lry41, mry41, nry41, ory41, pry41⟩ := id f1
      have hay42 : zAt ad (0) (ad 0) := rfl
      have hay43 : zAt ad (1) (ad 1) := rfl
      have hay44 : zAt ad (2) (ad 2) := rfl
      have hay45 : zAt ad (4) (ad 4) := rfl
      have hay46 : zAt ad (11) (ad 11) := rfl
      have hay47 : zAt ad (447) (ad 447) := rfl
      have hay48 : zAt ad (883) (ad 883) := rfl
      have hay49 : zAt ad (890) (ad 890) := rfl
      have hay50 : zAt ad (900) (ad 900) := rfl
      have hay51 : zAt ad (910) (ad 910) := rfl
      have hay52 : zAt ad (917) (ad 917) := rfl
      have hay53 : zAt ad (919) (ad 919) := rfl
      have hay54 : zAt ad (4 + 1) (ad (4 + 1)) := rfl
      have hay55 : zAt ad (4 + 2) (ad (4 + 2)) := rfl
      have hay56 : zAt ad (4 + 3) (ad (4 + 3)) := rfl
      have hay57 : zAt ad (4 + 4) (ad (4 + 4)) := rfl
      have hay58 : zAt ad (4 + 5) (ad (4 + 5)) := rfl
      have hay59 : zAt ad (4 + 6) (ad (4 + 6)) := rfl
      obtain ⟨thcy60, zhcy60, ohcy60, rhcy60, hzhcy60, hthcy60, hwhcy60⟩ := id lry41
      obtain ⟨thcy61, zhcy61, ohcy61, rhcy61, hzhcy61, hthcy61, hwhcy61⟩ := id mry41
      obtain ⟨asy62, bsy62, csy62, dsy62, esy62, ⟨ptsy62, fsy62, gsy621⟩, hsy62, ⟨nusy62, nvsy62, nwsy62, isy62, jsy62, ksy62, lsy62, msy62, nsy62⟩, rfsy62, osy62⟩ := id iry41
      have hay63 : zAt ad (11 + 1) (ad (11 + 1)) := rfl
      have hay64 : zAt ad (11 + 11) (ad (11 + 11)) := rfl
      have hay65 : zAt ad (11 + 12) (ad (11 + 12)) := rfl
      have hay66 : zAt ad (11 + 13) (ad (11 + 13)) := rfl
      have hay67 : zAt ad (11 + 13 + 1) (ad (11 + 13 + 1)) := rfl
      have hay68 : zAt ad (11 + 13 + 2) (ad (11 + 13 + 2)) := rfl
      have hay69 : zAt ad (11 + 13 + 3) (ad (11 + 13 + 3)) := rfl
      have hay70 : zAt ad (11 + 17) (ad (11 + 17)) := rfl
      obtain ⟨uy71t, uy71z, uy71o, uy71r, uy71z4, uy71t5, uy711, ⟨uy71u, uy712, uy713⟩, uy714⟩ := id csy62
      have hay72 : zAt ad (11 + 1) (ad (11 + 1)) := rfl
      have hay73 : zAt ad (11 + 1 + 1) (ad (11 + 1 + 1)) := rfl
      obtain ⟨sloy74, hooy74, uaoy74, stoy74, opoy74, aioy74, faoy74, muoy74, tboy74, hsloy74, hhooy74, hpoy74⟩ := id kry41
      have hay75 : zAt ad (883 + 1) (ad (883 + 1)) := rfl
      have hay76 : zAt ad (883 + 2) (ad (883 + 2)) := rfl
      have hay77 : zAt ad (883 + 3) (ad (883 + 3)) := rfl
      have hay78 : zAt ad (883 + 4) (ad (883 + 4)) := rfl
      have hay79 : zAt ad (883 + 5) (ad (883 + 5)) := rfl
      have hay80 : zAt ad (883 + 6) (ad (883 + 6)) := rfl
      refine z_iload C 0 dX9_isNotedSo_13 rfl ?_
      refine z_iload C 7 dX9_isNotedSo_15 rfl ?_
      refine z_icmp_gt (tgt := 103) C dX9_isNotedSo_17 (by decide) (by omega) (by omega) (fun hby81 => ?_) (fun hby81 => ?_)
      · refine z_iconst (z := 1) C dX9_isNotedSo_103 rfl ?_
        have hrecy82 : okRec cs ad g1 N (t) (fp) (im) (nz) (kz) (sl) (ho) (ua) (st) (op) (ai) (fa) (mu) (tb) (tp) := ⟨ary41, bry41, cry41, dry41, ery41, fry41, gry411, hry41, ⟨_, iry41⟩, ⟨_, jry41⟩, kry41, lry41, mry41, nry41, ory41, pry41⟩
        exact z_zret C hr hlk dX9_isNotedSo_104 (by decide) (by decide) (by decide) ⟨1, rfl, rfl, rfl, by omega, hrecy82, fun j j1 j2 => by exact f2 j j1 j2⟩
      · refine z_iload C 0 dX9_isNotedSo_20 rfl ?_
        refine z_iload C 6 dX9_isNotedSo_22 rfl ?_
        refine z_icmp_le (tgt := 34) C dX9_isNotedSo_24 (by decide) (by omega) (by omega) (fun hby83 => ?_) (fun hby83 => ?_)
        · refine z_iconst (z := 0) C dX9_isNotedSo_34 rfl ?_
          refine z_istore (lv' := [(8, .int (zI (0))), (7, .int (zI (el))), (6, .ref (ad (11 + 13))), (0, .ref (ad 0)), (1, .ref (ad 900)), (2, .ref (ad 4)), (3, .int (zI (z))), (4, .int (zI (z1))), (5, .int (zI (z2)))]) C dX9_isNotedSo_35 (by decide) rfl ?_
          have lp37 : ∀ (n9 : Nat) (i : Int) (g1 : Nat → va_E), (8 - i).toNat = n9 → (okRec cs ad g1 N t fp im nz kz sl ho ua st op ai fa mu tb tp) → (oX g g1) → (0 ≤ i ∧ i ≤ 8) → zV p l e ({ frames := 6, cells := 0, slots := 0, locals := 360 } : Room) s m ([.ref (ad 0), .ref (ad 900), .ref (ad 4), .int (zI (z)), .int (zI (z1)), .int (zI (z2))] : List Value).toArray below meth c (MQ below (zPost D A (rI0 N ad fun r g' => (0 ≤ r ∧ r ≤ 1) ∧ okRec cs ad g' N t fp im nz kz sl ho ua st op ai fa mu tb tp ∧ oX g g')) ([.ref (ad 0), .ref (ad 900), .ref (ad 4), .int (zI (z)), .int (zI (z1)), .int (zI (z2))] : List Value).toArray s ({ frames := 6, cells := 0, slots := 0, locals := 360 } : Room).cells ({ frames := 6, cells := 0, slots := 0, locals := 360 } : Room).slots A) D A 9 (N) ad g1 (0) (0) 37 [(8, .int (zI (i))), (7, .int (zI (el))), (6, .ref (ad (11 + 13))), (0, .ref (ad 0)), (1, .ref (ad 900)), (2, .ref (ad 4)), (3, .int (zI (z))), (4, .int (zI (z1))), (5, .int (zI (z2)))] [] := by
            intro n9
            induction n9 using Nat.strongRecOn with
            | ind n9 ih_lp37 =>
              intro i g1 hm9 f1 f2 hv37_0
              obtain ⟨ary84, bry84, cry84, dry84, ery84, fry84, gry841, hry84, ⟨acry84, iry84⟩, ⟨kcry84, jry84⟩, kry84, lry84, mry84, nry84, ory84, pry84⟩ := id f1
              have hay85 : zAt ad (0) (ad 0) := rfl
              have hay86 : zAt ad (1) (ad 1) := rfl
              have hay87 : zAt ad (2) (ad 2) := rfl
              have hay88 : zAt ad (4) (ad 4) := rfl
              have hay89 : zAt ad (11) (ad 11) := rfl
              have hay90 : zAt ad (447) (ad 447) := rfl
              have hay91 : zAt ad (883) (ad 883) := rfl
              have hay92 : zAt ad (890) (ad 890) := rfl
              have hay93 : zAt ad (900) (ad 900) := rfl
              have hay94 : zAt ad (910) (ad 910) := rfl
              have hay95 : zAt ad (917) (ad 917) := rfl
              have hay96 : zAt ad (919) (ad 919) := rfl
              have hay97 : zAt ad (4 + 1) (ad (4 + 1)) := rfl
              have hay98 : zAt ad (4 + 2) (ad (4 + 2)) := rfl
              have hay99 : zAt ad (4 + 3) (ad (4 + 3)) := rfl
              have hay100 : zAt ad (4 + 4) (ad (4 + 4)) := rfl
              have hay101 : zAt ad (4 + 5) (ad (4 + 5)) := rfl
              have hay102 : zAt ad (4 + 6) (ad (4 + 6)) := rfl
              obtain ⟨thcy103, zhcy103, ohcy103, rhcy103, hzhcy103, hthcy103, hwhcy103⟩ := id lry84
              obtain ⟨thcy104, zhcy104, ohcy104, rhcy104, hzhcy104, hthcy104, hwhcy104⟩ := id mry84
              obtain ⟨asy105, bsy105, csy105, dsy105, esy105, ⟨ptsy105, fsy105, gsy1051⟩, hsy105, ⟨nusy105, nvsy105, nwsy105, isy105, jsy105, ksy105, lsy105, msy105, nsy105⟩, rfsy105, osy105⟩ := id iry84
              have hay106 : zAt ad (11 + 1) (ad (11 + 1)) := rfl
              have hay107 : zAt ad (11 + 11) (ad (11 + 11)) := rfl
              have hay108 : zAt ad (11 + 12) (ad (11 + 12)) := rfl
              have hay109 : zAt ad (11 + 13) (ad (11 + 13)) := rfl
              have hay110 : zAt ad (11 + 13 + 1) (ad (11 + 13 + 1)) := rfl
              have hay111 : zAt ad (11 + 13 + 2) (ad (11 + 13 + 2)) := rfl
              have hay112 : zAt ad (11 + 13 + 3) (ad (11 + 13 + 3)) := rfl
              have hay113 : zAt ad (11 + 17) (ad (11 + 17)) := rfl
              obtain ⟨uy114t, uy114z, uy114o, uy114r, uy114z4, uy114t5, uy1141, ⟨uy114u, uy1142, uy1143⟩, uy1144⟩ := id csy105
              have hay115 : zAt ad (11 + 1) (ad (11 + 1)) := rfl
              have hay116 : zAt ad (11 + 1 + 1) (ad (11 + 1 + 1)) := rfl
              obtain ⟨sloy117, hooy117, uaoy117, stoy117, opoy117, aioy117, faoy117, muoy117, tboy117, hsloy117, hhooy117, hpoy117⟩ := id kry84
              have hay118 : zAt ad (883 + 1) (ad (883 + 1)) := rfl
              have hay119 : zAt ad (883 + 2) (ad (883 + 2)) := rfl
              have hay120 : zAt ad (883 + 3) (ad (883 + 3)) := rfl
              have hay121 : zAt ad (883 + 4) (ad (883 + 4)) := rfl
              have hay122 : zAt ad (883 + 5) (ad (883 + 5)) := rfl
              have hay123 : zAt ad (883 + 6) (ad (883 + 6)) := rfl
              refine z_iload C 0 dX9_isNotedSo_37 rfl ?_
              refine z_aload C 2 dX9_isNotedSo_39 rfl ?_
              refine z_get (v := .int (zI (nz))) C (lt_K hN (rfl : Nat.blt (11 + 13) 952 = true)) hay109 ksy105 rfl inA_X2 0 (by decide) q_218 rfl rfl dX9_isNotedSo_41 ?_
              refine z_icmp_ge (tgt := 97) C dX9_isNotedSo_44 (by decide) (by omega) (by omega) (fun hby124 => ?_) (fun hby124 => ?_)
              · refine z_iinc (z := el + 1) (lv' := [(7, .int (zI (el + 1))), (8, .int (zI (i))), (6, .ref (ad (11 + 13))), (0, .ref (ad 0)), (1, .ref (ad 900)), (2, .ref (ad 4)), (3, .int (zI (z))), (4, .int (zI (z1))), (5, .int (zI (z2)))]) (j := 1) C dX9_isNotedSo_97 rfl rfl (by decide) rfl ?_
                refine z_goto (tgt := 13) C dX9_isNotedSo_100 (by decide) ?_
                have hrecy125 : okRec cs ad g1 N (t) (fp) (im) (nz) (kz) (sl) (ho) (ua) (st) (op) (ai) (fa) (mu) (tb) (tp) := ⟨ary84, bry84, cry84, dry84, ery84, fry84, gry841, hry84, ⟨_, iry84⟩, ⟨_, jry84⟩, kry84, lry84, mry84, nry84, ory84, pry84⟩
                refine z_lv (lv' := [(7, .int (zI (el + 1))), (6, .ref (ad (11 + 13))), (0, .ref (ad 0)), (1, .ref (ad 900)), (2, .ref (ad 4)), (3, .int (zI (z))), (4, .int (zI (z1))), (5, .int (zI (z2)))]) [0, 2, 3, 4, 5, 6, 7, 8] rfl ?_
                exact ih_lp13 _ (by omega) (el + 1) g1 rfl hrecy125 (fun j j1 j2 => by exact f2 j j1 j2) (by omega)
              · refine z_aload C 2 dX9_isNotedSo_47 rfl ?_
                refine z_get (v := .ref (ad (11 + 13 + 2))) C (lt_K hN (rfl : Nat.blt (11 + 13) 952 = true)) hay109 ksy105 rfl inA_X2 2 (by decide) q_222 rfl rfl dX9_isNotedSo_49 ?_
                refine z_iload C 0 dX9_isNotedSo_52 rfl ?_
                refine z_iald C (lt_K hN (rfl : Nat.blt (11 + 13 + 2) 952 = true)) hay111 msy105 ((i).toNat) (by omega) (by omega) (by decide) dX9_isNotedSo_54 ?_
                have hrfy126 := jsy105 ((i).toNat) (by omega)
                refine z_iload C 1 dX9_isNotedSo_55 rfl ?_
                refine z_icmp_ne (tgt := 91) C dX9_isNotedSo_57 (by decide) (by omega) (by omega) (fun hby127 => ?_) (fun hby127 => ?_)
                · refine z_iinc (z := i + 1) (lv' := [(8, .int (zI (i + 1))), (7, .int (zI (el))), (6, .ref (ad (11 + 13))), (0, .ref (ad 0)), (1, .ref (ad 900)), (2, .ref (ad 4)), (3, .int (zI (z))), (4, .int (zI (z1))), (5, .int (zI (z2)))]) (j := 0) C dX9_isNotedSo_91 rfl rfl (by decide) rfl ?_
                  refine z_goto (tgt := 37) C dX9_isNotedSo_94 (by decide) ?_
                  have hrecy128 : okRec cs ad g1 N (t) (fp) (im) (nz) (kz) (sl) (ho) (ua) (st) (op) (ai) (fa) (mu) (tb) (tp) := ⟨ary84, bry84, cry84, dry84, ery84, fry84, gry841, hry84, ⟨_, iry84⟩, ⟨_, jry84⟩, kry84, lry84, mry84, nry84, ory84, pry84⟩
                  refine z_lv (lv' := [(8, .int (zI (i + 1))), (7, .int (zI (el))), (6, .ref (ad (11 + 13))), (0, .ref (ad 0)), (1, .ref (ad 900)), (2, .ref (ad 4)), (3, .int (zI (z))), (4, .int (zI (z1))), (5, .int (zI (z2)))]) [0, 1, 2, 3, 4, 5, 6, 7, 8] rfl ?_
                  exact ih_lp37 _ (by omega) (i + 1) g1 rfl hrecy128 (fun j j1 j2 => by exact f2 j j1 j2) (by omega)
                · refine z_aload C 2 dX9_isNotedSo_60 rfl ?_
                  refine z_get (v := .ref (ad (11 + 13 + 3))) C (lt_K hN (rfl : Nat.blt (11 + 13) 952 = true)) hay109 ksy105 rfl inA_X2 3 (by decide) q_224 rfl rfl dX9_isNotedSo_62 ?_
                  refine z_iload C 0 dX9_isNotedSo_65 rfl ?_
                  refine z_iald C (lt_K hN (rfl : Nat.blt (11 + 13 + 3) 952 = true)) hay112 nsy105 ((i).toNat) (by omega) (by omega) (by decide) dX9_isNotedSo_67 ?_
                  refine z_aload_n C 4 dX9_isNotedSo_68 rfl ?_
                  refine z_get (v := .ref (ad (900 + 1))) C (lt_K hN (rfl : Nat.blt (900) 952 = true)) hay93 hwhcy104.1 rfl inA_X8 6 (by decide) q_191 rfl rfl dX9_isNotedSo_69 ?_
                  refine z_aload C 2 dX9_isNotedSo_72 rfl ?_
                  refine z_get (v := .ref (ad (11 + 13 + 1))) C (lt_K hN (rfl : Nat.blt (11 + 13) 952 = true)) hay109 ksy105 rfl inA_X2 1 (by decide) q_220 rfl rfl dX9_isNotedSo_74 ?_
                  refine z_iload C 0 dX9_isNotedSo_77 rfl ?_
                  refine z_iald C (lt_K hN (rfl : Nat.blt (11 + 13 + 1) 952 = true)) hay110 lsy105 ((i).toNat) (by omega) (by omega) (by decide) dX9_isNotedSo_79 ?_
                  have hrfy129 := jsy105 ((i).toNat) (by omega)
                  obtain ⟨uy130t, uy130z, uy130o, uy130r, uy130z4, uy130t5, uy1301, ⟨uy130u, uy1302, uy1303⟩, uy1304⟩ := id mry84
                  have hay131 : zAt ad (900) (ad 900) := rfl
                  have hay132 : zAt ad (900 + 1) (ad (900 + 1)) := rfl
                  refine z_aald C (lt_K hN (rfl : Nat.blt (900 + 1) 952 = true)) hay132 uy1302 3 rfl ((nusy105 ((i).toNat)).toNat) (by omega) (by omega) (by decide) (uy1303 (nusy105 ((i).toNat)).toNat (by omega)) dX9_isNotedSo_80 ?_
                  have hay133 : zAt ad (900 + 2 + 2 * (nusy105 ((i).toNat)).toNat) (ad (900 + 2 + 2 * (nusy105 ((i).toNat)).toNat)) := rfl
                  have hay134 : zAt ad (900 + 2 + 2 * (nusy105 ((i).toNat)).toNat + 1) (ad (900 + 2 + 2 * (nusy105 ((i).toNat)).toNat + 1)) := rfl
                  have hpy135 := uy1304 (nusy105 ((i).toNat)).toNat (by omega)
                  have hqy136 := uy130z4 (nusy105 ((i).toNat)).toNat (by omega)
                  refine z_bipush (z := 36) C dX9_isNotedSo_81 (by decide) ?_
                  refine z_cV (As := [.int (zI (36))]) (rest := [.int (zI (nwsy105 ((i).toNat)))]) (ci := 5) C (c_X3_sum l D A cs tt N ad _ (900 + 2 + 2 * (nusy105 ((i).toNat)).toNat) (by omega) _ _ _ (by omega) ⟨hpy135.1, hpy135.2⟩  (36) (by omega)) (by omega) hay133 hpy135.1 rfl rfl mv_yX3_sum q_945 hd_yX3_sum (by decide) (Nat.le_of_ble_eq_true rfl) (by decide) dX9_isNotedSo_83 rfl (kI0 fun vy137 gvy137 hvy137 => ?_)
                  obtain ⟨hvy137, rfl⟩ := hvy137
                  obtain ⟨xy138, exy139, hxy140⟩ := zI_of (zI (nwsy105 ((i).toNat)))
                  rw [exy139]
                  refine z_icmp_eq (tgt := 91) C dX9_isNotedSo_86 (by decide) (by omega) (by omega) (fun hby141 => ?_) (fun hby141 => ?_)
                  · refine z_iinc (z := i + 1) (lv' := [(8, .int (zI (i + 1))), (7, .int (zI (el))), (6, .ref (ad (11 + 13))), (0, .ref (ad 0)), (1, .ref (ad 900)), (2, .ref (ad 4)), (3, .int (zI (z))), (4, .int (zI (z1))), (5, .int (zI (z2)))]) (j := 0) C dX9_isNotedSo_91 rfl rfl (by decide) rfl ?_
                    refine z_goto (tgt := 37) C dX9_isNotedSo_94 (by decide) ?_
                    have hrecy142 : okRec cs ad g1 N (t) (fp) (im) (nz) (kz) (sl) (ho) (ua) (st) (op) (ai) (fa) (mu) (tb) (tp) := ⟨ary84, bry84, cry84, dry84, ery84, fry84, gry841, hry84, ⟨_, iry84⟩, ⟨_, jry84⟩, kry84, lry84, mry84, nry84, ory84, pry84⟩
                    refine z_lv (lv' := [(8, .int (zI (i + 1))), (7, .int (zI (el))), (6, .ref (ad (11 + 13))), (0, .ref (ad 0)), (1, .ref (ad 900)), (2, .ref (ad 4)), (3, .int (zI (z))), (4, .int (zI (z1))), (5, .int (zI (z2)))]) [0, 1, 2, 3, 4, 5, 6, 7, 8] rfl ?_
                    exact ih_lp37 _ (by omega) (i + 1) g1 rfl hrecy142 (fun j j1 j2 => by exact f2 j j1 j2) (by omega)
                  · refine z_iconst (z := 0) C dX9_isNotedSo_89 rfl ?_
                    have hrecy143 : okRec cs ad g1 N (t) (fp) (im) (nz) (kz) (sl) (ho) (ua) (st) (op) (ai) (fa) (mu) (tb) (tp) := ⟨ary84, bry84, cry84, dry84, ery84, fry84, gry841, hry84, ⟨_, iry84⟩, ⟨_, jry84⟩, kry84, lry84, mry84, nry84, ory84, pry84⟩
                    exact z_zret C hr hlk dX9_isNotedSo_90 (by decide) (by decide) (by decide) ⟨0, rfl, rfl, rfl, by omega, hrecy143, fun j j1 j2 => by exact f2 j j1 j2⟩
          have hrecy144 : okRec cs ad g1 N (t) (fp) (im) (nz) (kz) (sl) (ho) (ua) (st) (op) (ai) (fa) (mu) (tb) (tp) := ⟨ary41, bry41, cry41, dry41, ery41, fry41, gry411, hry41, ⟨_, iry41⟩, ⟨_, jry41⟩, kry41, lry41, mry41, nry41, ory41, pry41⟩
          refine z_lv (lv' := [(8, .int (zI (0))), (7, .int (zI (el))), (6, .ref (ad (11 + 13))), (0, .ref (ad 0)), (1, .ref (ad 900)), (2, .ref (ad 4)), (3, .int (zI (z))), (4, .int (zI (z1))), (5, .int (zI (z2)))]) [0, 1, 2, 3, 4, 5, 6, 7, 8] rfl ?_
          exact lp37 _ (0) g1 rfl hrecy144 (fun j j1 j2 => by exact f2 j j1 j2) (by omega)
        · refine z_aload_n C 3 dX9_isNotedSo_27 rfl ?_
          refine z_aload_n C 4 dX9_isNotedSo_28 rfl ?_
          refine z_iload_n C 5 dX9_isNotedSo_29 rfl ?_
          refine z_iconst (z := 1) C dX9_isNotedSo_30 rfl ?_
          refine z_cV (As := [.ref (ad 4), .int (zI (z)), .int (zI (1))]) (rest := []) (ci := 10) C (c_X8_hour l D A cs tt N ad _ (900) (by omega) mry41 (4) (by omega) _ _ _ _ _ _ _ _ _ ⟨fry41.1, fry41.2.1, fry41.2.2.1, fry41.2.2.2.1, fry41.2.2.2.2.1, fry41.2.2.2.2.2.1, fry41.2.2.2.2.2.2⟩ (by omega) (by omega) (by omega) (z) (by omega) (1) (by omega)) (lt_K hN (rfl : Nat.blt (900) 952 = true)) hay50 hwhcy61.1 rfl rfl mv_yX8_hour q_435 hd_yX8_hour (by decide) (Nat.le_of_ble_eq_true rfl) (by decide) dX9_isNotedSo_31 rfl (kV0 fun gvy145 hvy145 => ?_)
          obtain ⟨hkvy145, hfvy145⟩ := hvy145
          have hoky146 : okWorld cs ad gvy145 (900) := hkvy145
          obtain ⟨thcy147, zhcy147, ohcy147, rhcy147, hzhcy147, hthcy147, hwhcy147⟩ := id hoky146
          refine z_iconst (z := 0) C dX9_isNotedSo_34 rfl ?_
          refine z_istore (lv' := [(8, .int (zI (0))), (7, .int (zI (el))), (6, .ref (ad (11 + 13))), (0, .ref (ad 0)), (1, .ref (ad 900)), (2, .ref (ad 4)), (3, .int (zI (z))), (4, .int (zI (z1))), (5, .int (zI (z2)))]) C dX9_isNotedSo_35 (by decide) rfl ?_
          have lp37 : ∀ (n9 : Nat) (i : Int) (g1 : Nat → va_E), (8 - i).toNat = n9 → (okRec cs ad g1 N t fp im nz kz sl ho ua st op ai fa mu tb tp) → (oX g g1) → (0 ≤ i ∧ i ≤ 8) → zV p l e ({ frames := 6, cells := 0, slots := 0, locals := 360 } : Room) s m ([.ref (ad 0), .ref (ad 900), .ref (ad 4), .int (zI (z)), .int (zI (z1)), .int (zI (z2))] : List Value).toArray below meth c (MQ below (zPost D A (rI0 N ad fun r g' => (0 ≤ r ∧ r ≤ 1) ∧ okRec cs ad g' N t fp im nz kz sl ho ua st op ai fa mu tb tp ∧ oX g g')) ([.ref (ad 0), .ref (ad 900), .ref (ad 4), .int (zI (z)), .int (zI (z1)), .int (zI (z2))] : List Value).toArray s ({ frames := 6, cells := 0, slots := 0, locals := 360 } : Room).cells ({ frames := 6, cells := 0, slots := 0, locals := 360 } : Room).slots A) D A 9 (N) ad g1 (0) (0) 37 [(8, .int (zI (i))), (7, .int (zI (el))), (6, .ref (ad (11 + 13))), (0, .ref (ad 0)), (1, .ref (ad 900)), (2, .ref (ad 4)), (3, .int (zI (z))), (4, .int (zI (z1))), (5, .int (zI (z2)))] [] := by
            intro n9
            induction n9 using Nat.strongRecOn with
            | ind n9 ih_lp37 =>
              intro i g1 hm9 f1 f2 hv37_0
              obtain ⟨ary148, bry148, cry148, dry148, ery148, fry148, gry1481, hry148, ⟨acry148, iry148⟩, ⟨kcry148, jry148⟩, kry148, lry148, mry148, nry148, ory148, pry148⟩ := id f1
              have hay149 : zAt ad (0) (ad 0) := rfl
              have hay150 : zAt ad (1) (ad 1) := rfl
              have hay151 : zAt ad (2) (ad 2) := rfl
              have hay152 : zAt ad (4) (ad 4) := rfl
              have hay153 : zAt ad (11) (ad 11) := rfl
              have hay154 : zAt ad (447) (ad 447) := rfl
              have hay155 : zAt ad (883) (ad 883) := rfl
              have hay156 : zAt ad (890) (ad 890) := rfl
              have hay157 : zAt ad (900) (ad 900) := rfl
              have hay158 : zAt ad (910) (ad 910) := rfl
              have hay159 : zAt ad (917) (ad 917) := rfl
              have hay160 : zAt ad (919) (ad 919) := rfl
              have hay161 : zAt ad (4 + 1) (ad (4 + 1)) := rfl
              have hay162 : zAt ad (4 + 2) (ad (4 + 2)) := rfl
              have hay163 : zAt ad (4 + 3) (ad (4 + 3)) := rfl
              have hay164 : zAt ad (4 + 4) (ad (4 + 4)) := rfl
              have hay165 : zAt ad (4 + 5) (ad (4 + 5)) := rfl
              have hay166 : zAt ad (4 + 6) (ad (4 + 6)) := rfl
              obtain ⟨thcy167, zhcy167, ohcy167, rhcy167, hzhcy167, hthcy167, hwhcy167⟩ := id lry148
              obtain ⟨thcy168, zhcy168, ohcy168, rhcy168, hzhcy168, hthcy168, hwhcy168⟩ := id mry148
              obtain ⟨asy169, bsy169, csy169, dsy169, esy169, ⟨ptsy169, fsy169, gsy1691⟩, hsy169, ⟨nusy169, nvsy169, nwsy169, isy169, jsy169, ksy169, lsy169, msy169, nsy169⟩, rfsy169, osy169⟩ := id iry148
              have hay170 : zAt ad (11 + 1) (ad (11 + 1)) := rfl
              have hay171 : zAt ad (11 + 11) (ad (11 + 11)) := rfl
              have hay172 : zAt ad (11 + 12) (ad (11 + 12)) := rfl
              have hay173 : zAt ad (11 + 13) (ad (11 + 13)) := rfl
              have hay174 : zAt ad (11 + 13 + 1) (ad (11 + 13 + 1)) := rfl
              have hay175 : zAt ad (11 + 13 + 2) (ad (11 + 13 + 2)) := rfl
              have hay176 : zAt ad (11 + 13 + 3) (ad (11 + 13 + 3)) := rfl
              have hay177 : zAt ad (11 + 17) (ad (11 + 17)) := rfl
              obtain ⟨uy178t, uy178z, uy178o, uy178r, uy178z4, uy178t5, uy1781, ⟨uy178u, uy1782, uy1783⟩, uy1784⟩ := id csy169
              have hay179 : zAt ad (11 + 1) (ad (11 + 1)) := rfl
              have hay180 : zAt ad (11 + 1 + 1) (ad (11 + 1 + 1)) := rfl
              obtain ⟨sloy181, hooy181, uaoy181, stoy181, opoy181, aioy181, faoy181, muoy181, tboy181, hsloy181, hhooy181, hpoy181⟩ := id kry148
              have hay182 : zAt ad (883 + 1) (ad (883 + 1)) := rfl
              have hay183 : zAt ad (883 + 2) (ad (883 + 2)) := rfl
              have hay184 : zAt ad (883 + 3) (ad (883 + 3)) := rfl
              have hay185 : zAt ad (883 + 4) (ad (883 + 4)) := rfl
              have hay186 : zAt ad (883 + 5) (ad (883 + 5)) := rfl
              have hay187 : zAt ad (883 + 6) (ad (883 + 6)) := rfl
              refine z_iload C 0 dX9_isNotedSo_37 rfl ?_
              refine z_aload C 2 dX9_isNotedSo_39 rfl ?_
              refine z_get (v := .int (zI (nz))) C (lt_K hN (rfl : Nat.blt (11 + 13) 952 = true)) hay173 ksy169 rfl inA_X2 0 (by decide) q_218 rfl rfl dX9_isNotedSo_41 ?_
              refine z_icmp_ge (tgt := 97) C dX9_isNotedSo_44 (by decide) (by omega) (by omega) (fun hby188 => ?_) (fun hby188 => ?_)
              · refine z_iinc (z := el + 1) (lv' := [(7, .int (zI (el + 1))), (8, .int (zI (i))), (6, .ref (ad (11 + 13))), (0, .ref (ad 0)), (1, .ref (ad 900)), (2, .ref (ad 4)), (3, .int (zI (z))), (4, .int (zI (z1))), (5, .int (zI (z2)))]) (j := 1) C dX9_isNotedSo_97 rfl rfl (by decide) rfl ?_
                refine z_goto (tgt := 13) C dX9_isNotedSo_100 (by decide) ?_
                have hrecy189 : okRec cs ad g1 N (t) (fp) (im) (nz) (kz) (sl) (ho) (ua) (st) (op) (ai) (fa) (mu) (tb) (tp) := ⟨ary148, bry148, cry148, dry148, ery148, fry148, gry1481, hry148, ⟨_, iry148⟩, ⟨_, jry148⟩, kry148, lry148, mry148, nry148, ory148, pry148⟩
                refine z_lv (lv' := [(7, .int (zI (el + 1))), (6, .ref (ad (11 + 13))), (0, .ref (ad 0)), (1, .ref (ad 900)), (2, .ref (ad 4)), (3, .int (zI (z))), (4, .int (zI (z1))), (5, .int (zI (z2)))]) [0, 2, 3, 4, 5, 6, 7, 8] rfl ?_
                exact ih_lp13 _ (by omega) (el + 1) g1 rfl hrecy189 (fun j j1 j2 => by exact f2 j j1 j2) (by omega)
              · refine z_aload C 2 dX9_isNotedSo_47 rfl ?_
                refine z_get (v := .ref (ad (11 + 13 + 2))) C (lt_K hN (rfl : Nat.blt (11 + 13) 952 = true)) hay173 ksy169 rfl inA_X2 2 (by decide) q_222 rfl rfl dX9_isNotedSo_49 ?_
                refine z_iload C 0 dX9_isNotedSo_52 rfl ?_
                refine z_iald C (lt_K hN (rfl : Nat.blt (11 + 13 + 2) 952 = true)) hay175 msy169 ((i).toNat) (by omega) (by omega) (by decide) dX9_isNotedSo_54 ?_
                have hrfy190 := jsy169 ((i).toNat) (by omega)
                refine z_iload C 1 dX9_isNotedSo_55 rfl ?_
                refine z_icmp_ne (tgt := 91) C dX9_isNotedSo_57 (by decide) (by omega) (by omega) (fun hby191 => ?_) (fun hby191 => ?_)
                · refine z_iinc (z := i + 1) (lv' := [(8, .int (zI (i + 1))), (7, .int (zI (el))), (6, .ref (ad (11 + 13))), (0, .ref (ad 0)), (1, .ref (ad 900)), (2, .ref (ad 4)), (3, .int (zI (z))), (4, .int (zI (z1))), (5, .int (zI (z2)))]) (j := 0) C dX9_isNotedSo_91 rfl rfl (by decide) rfl ?_
                  refine z_goto (tgt := 37) C dX9_isNotedSo_94 (by decide) ?_
                  have hrecy192 : okRec cs ad g1 N (t) (fp) (im) (nz) (kz) (sl) (ho) (ua) (st) (op) (ai) (fa) (mu) (tb) (tp) := ⟨ary148, bry148, cry148, dry148, ery148, fry148, gry1481, hry148, ⟨_, iry148⟩, ⟨_, jry148⟩, kry148, lry148, mry148, nry148, ory148, pry148⟩
                  refine z_lv (lv' := [(8, .int (zI (i + 1))), (7, .int (zI (el))), (6, .ref (ad (11 + 13))), (0, .ref (ad 0)), (1, .ref (ad 900)), (2, .ref (ad 4)), (3, .int (zI (z))), (4, .int (zI (z1))), (5, .int (zI (z2)))]) [0, 1, 2, 3, 4, 5, 6, 7, 8] rfl ?_
                  exact ih_lp37 _ (by omega) (i + 1) g1 rfl hrecy192 (fun j j1 j2 => by exact f2 j j1 j2) (by omega)
                · refine z_aload C 2 dX9_isNotedSo_60 rfl ?_
                  refine z_get (v := .ref (ad (11 + 13 + 3))) C (lt_K hN (rfl : Nat.blt (11 + 13) 952 = true)) hay173 ksy169 rfl inA_X2 3 (by decide) q_224 rfl rfl dX9_isNotedSo_62 ?_
                  refine z_iload C 0 dX9_isNotedSo_65 rfl ?_
                  refine z_iald C (lt_K hN (rfl : Nat.blt (11 + 13 + 3) 952 = true)) hay176 nsy169 ((i).toNat) (by omega) (by omega) (by decide) dX9_isNotedSo_67 ?_
                  refine z_aload_n C 4 dX9_isNotedSo_68 rfl ?_
                  refine z_get (v := .ref (ad (900 + 1))) C (lt_K hN (rfl : Nat.blt (900) 952 = true)) hay157 hwhcy168.1 rfl inA_X8 6 (by decide) q_191 rfl rfl dX9_isNotedSo_69 ?_
                  refine z_aload C 2 dX9_isNotedSo_72 rfl ?_
                  refine z_get (v := .ref (ad (11 + 13 + 1))) C (lt_K hN (rfl : Nat.blt (11 + 13) 952 = true)) hay173 ksy169 rfl inA_X2 1 (by decide) q_220 rfl rfl dX9_isNotedSo_74 ?_
                  refine z_iload C 0 dX9_isNotedSo_77 rfl ?_
                  refine z_iald C (lt_K hN (rfl : Nat.blt (11 + 13 + 1) 952 = true)) hay174 lsy169 ((i).toNat) (by omega) (by omega) (by decide) dX9_isNotedSo_79 ?_
                  have hrfy193 := jsy169 ((i).toNat) (by omega)
                  obtain ⟨uy194t, uy194z, uy194o, uy194r, uy194z4, uy194t5, uy1941, ⟨uy194u, uy1942, uy1943⟩, uy1944⟩ := id mry148
                  have hay195 : zAt ad (900) (ad 900) := rfl
                  have hay196 : zAt ad (900 + 1) (ad (900 + 1)) := rfl
                  refine z_aald C (lt_K hN (rfl : Nat.blt (900 + 1) 952 = true)) hay196 uy1942 3 rfl ((nusy169 ((i).toNat)).toNat) (by omega) (by omega) (by decide) (uy1943 (nusy169 ((i).toNat)).toNat (by omega)) dX9_isNotedSo_80 ?_
                  have hay197 : zAt ad (900 + 2 + 2 * (nusy169 ((i).toNat)).toNat) (ad (900 + 2 + 2 * (nusy169 ((i).toNat)).toNat)) := rfl
                  have hay198 : zAt ad (900 + 2 + 2 * (nusy169 ((i).toNat)).toNat + 1) (ad (900 + 2 + 2 * (nusy169 ((i).toNat)).toNat + 1)) := rfl
                  have hpy199 := uy1944 (nusy169 ((i).toNat)).toNat (by omega)
                  have hqy200 := uy194z4 (nusy169 ((i).toNat)).toNat (by omega)
                  refine z_bipush (z := 36) C dX9_isNotedSo_81 (by decide) ?_
                  refine z_cV (As := [.int (zI (36))]) (rest := [.int (zI (nwsy169 ((i).toNat)))]) (ci := 5) C (c_X3_sum l D A cs tt N ad _ (900 + 2 + 2 * (nusy169 ((i).toNat)).toNat) (by omega) _ _ _ (by omega) ⟨hpy199.1, hpy199.2⟩  (36) (by omega)) (by omega) hay197 hpy199.1 rfl rfl mv_yX3_sum q_945 hd_yX3_sum (by decide) (Nat.le_of_ble_eq_true rfl) (by decide) dX9_isNotedSo_83 rfl (kI0 fun vy201 gvy201 hvy201 => ?_)
                  obtain ⟨hvy201, rfl⟩ := hvy201
                  obtain ⟨xy202, exy203, hxy204⟩ := zI_of (zI (nwsy169 ((i).toNat)))
                  rw [exy203]
                  refine z_icmp_eq (tgt := 91) C dX9_isNotedSo_86 (by decide) (by omega) (by omega) (fun hby205 => ?_) (fun hby205 => ?_)
                  · refine z_iinc (z := i + 1) (lv' := [(8, .int (zI (i + 1))), (7, .int (zI (el))), (6, .ref (ad (11 + 13))), (0, .ref (ad 0)), (1, .ref (ad 900)), (2, .ref (ad 4)), (3, .int (zI (z))), (4, .int (zI (z1))), (5, .int (zI (z2)))]) (j := 0) C dX9_isNotedSo_91 rfl rfl (by decide) rfl ?_
                    refine z_goto (tgt := 37) C dX9_isNotedSo_94 (by decide) ?_
                    have hrecy206 : okRec cs ad g1 N (t) (fp) (im) (nz) (kz) (sl) (ho) (ua) (st) (op) (ai) (fa) (mu) (tb) (tp) := ⟨ary148, bry148, cry148, dry148, ery148, fry148, gry1481, hry148, ⟨_, iry148⟩, ⟨_, jry148⟩, kry148, lry148, mry148, nry148, ory148, pry148⟩
                    refine z_lv (lv' := [(8, .int (zI (i + 1))), (7, .int (zI (el))), (6, .ref (ad (11 + 13))), (0, .ref (ad 0)), (1, .ref (ad 900)), (2, .ref (ad 4)), (3, .int (zI (z))), (4, .int (zI (z1))), (5, .int (zI (z2)))]) [0, 1, 2, 3, 4, 5, 6, 7, 8] rfl ?_
                    exact ih_lp37 _ (by omega) (i + 1) g1 rfl hrecy206 (fun j j1 j2 => by exact f2 j j1 j2) (by omega)
                  · refine z_iconst (z := 0) C dX9_isNotedSo_89 rfl ?_
                    have hrecy207 : okRec cs ad g1 N (t) (fp) (im) (nz) (kz) (sl) (ho) (ua) (st) (op) (ai) (fa) (mu) (tb) (tp) := ⟨ary148, bry148, cry148, dry148, ery148, fry148, gry1481, hry148, ⟨_, iry148⟩, ⟨_, jry148⟩, kry148, lry148, mry148, nry148, ory148, pry148⟩
                    exact z_zret C hr hlk dX9_isNotedSo_90 (by decide) (by decide) (by decide) ⟨0, rfl, rfl, rfl, by omega, hrecy207, fun j j1 j2 => by exact f2 j j1 j2⟩
          have hgy208 := (hfvy145 (0) (by omega)).trans ary41
          have hgy209 := (hfvy145 (1) (by omega)).trans dry41
          have hpy210 := okState.mv (ad' := ad) (g' := gvy145) (fun j h1 h2 => by rfl) (fun j h1 h2 => by rw [hfvy145 _ (by omega)]) iry41
          have hpy211 := okRdr.mv (ad' := ad) (g' := gvy145) (fun j h1 h2 => by rfl) (fun j h1 h2 => by rw [hfvy145 _ (by omega)]) ery41
          have hpy212 := isPlan.mv (ad' := ad) (g' := gvy145) (fun j h1 h2 => by rfl) (fun j h1 h2 => by rw [hfvy145 _ (by omega)]) fry41
          have hpy213 := okState.mv (ad' := ad) (g' := gvy145) (fun j h1 h2 => by rfl) (fun j h1 h2 => by rw [hfvy145 _ (by omega)]) jry41
          have hpy214 := okPlan.mv (ad' := ad) (g' := gvy145) (fun j h1 h2 => by rfl) (fun j h1 h2 => by rw [hfvy145 _ (by omega)]) kry41
          have hpy215 := okGss.mv (ad' := ad) (g' := gvy145) (fun j h1 h2 => by rfl) (fun j h1 h2 => by rw [hfvy145 _ (by omega)]) nry41
          have hpy216 := okLike.mv (ad' := ad) (g' := gvy145) (fun j h1 h2 => by rfl) (fun j h1 h2 => by rw [hfvy145 _ (by omega)]) ory41
          have hpy217 := okBld.mv (ad' := ad) (g' := gvy145) (fun j h1 h2 => by rfl) (fun j h1 h2 => by rw [hfvy145 _ (by omega)]) pry41
          have hoky218 : okWorld cs ad gvy145 (890) := okWorld.mv (fun j j1 j2 => by rw [hfvy145 _ (by omega)]) lry41
          have hrecy219 : okRec cs ad gvy145 N (t) (fp) (im) (nz) (kz) (sl) (ho) (ua) (st) (op) (ai) (fa) (mu) (tb) (tp) := ⟨hgy208, bry41, cry41, hgy209, hpy211, hpy212, gry411, hry41, ⟨_, hpy210⟩, ⟨_, hpy213⟩, hpy214, hoky218, hoky146, hpy215, hpy216, hpy217⟩
          refine z_lv (lv' := [(8, .int (zI (0))), (7, .int (zI (el))), (6, .ref (ad (11 + 13))), (0, .ref (ad 0)), (1, .ref (ad 900)), (2, .ref (ad 4)), (3, .int (zI (z))), (4, .int (zI (z1))), (5, .int (zI (z2)))]) [0, 1, 2, 3, 4, 5, 6, 7, 8] rfl ?_
          exact lp37 _ (0) gvy145 rfl hrecy219 (fun j j1 j2 => by rw [hfvy145 _ (by omega)]; exact f2 j j1 j2) (by omega)
  have hrecy220 : okRec cs ad g N (t) (fp) (im) (nz) (kz) (sl) (ho) (ua) (st) (op) (ai) (fa) (mu) (tb) (tp) := ⟨ary1, bry1, cry1, dry1, ery1, fry1, gry11, hry1, ⟨_, iry1⟩, ⟨_, jry1⟩, kry1, lry1, mry1, nry1, ory1, pry1⟩
  refine z_lv (lv' := [(7, .int (zI (z1))), (6, .ref (ad (11 + 13))), (0, .ref (ad 0)), (1, .ref (ad 900)), (2, .ref (ad 4)), (3, .int (zI (z))), (4, .int (zI (z1))), (5, .int (zI (z2)))]) [0, 1, 2, 3, 4, 5, 6, 7] rfl ?_
  exact lp13 _ (z1) g rfl hrecy220 (fun j j1 j2 => by rfl) (by omega)

set_option maxRecDepth 100000 in
set_option maxHeartbeats 4000000 in
theorem c_X9_isNotedSo_890_883 (l : Launch) (D : va_G) (A : Nat → Prop) (cs : Nat → ClassId) (tt : Nat) (N : Nat) (ad : Nat → Nat) (g : Nat → va_E) (hN : 952 ≤ N) (t fp im nz kz sl ho ua : Int) (st op ai fa mu tb tp : Nat → Int) (hR : okRec cs ad g N t fp im nz kz sl ho ua st op ai fa mu tb tp) (z : Int) (hz : -2147483648 ≤ z ∧ z ≤ 2147483647) (z1 : Int) (hz1 : 0 ≤ z1 ∧ z1 ≤ 100) (z2 : Int) (hz2 : -1 ≤ z2 ∧ z2 ≤ 100) : zM l yX9_isNotedSo cX9_isNotedSo 9 (some .boolean) ({ frames := 6, cells := 0, slots := 0, locals := 360 } : Room) D A cs tt N ad g [.ref (ad 0), .ref (ad 890), .ref (ad 883), .int (zI (z)), .int (zI (z1)), .int (zI (z2))] (rI0 N ad fun r g' => (0 ≤ r ∧ r ≤ 1) ∧ okRec cs ad g' N t fp im nz kz sl ho ua st op ai fa mu tb tp ∧ oX g g') := by
  obtain ⟨ary1, bry1, cry1, dry1, ery1, fry1, gry11, hry1, ⟨acry1, iry1⟩, ⟨kcry1, jry1⟩, kry1, lry1, mry1, nry1, ory1, pry1⟩ := id hR
  have hay2 : zAt ad (0) (ad 0) := rfl
  have hay3 : zAt ad (1) (ad 1) := rfl
  have hay4 : zAt ad (2) (ad 2) := rfl
  have hay5 : zAt ad (4) (ad 4) := rfl
  have hay6 : zAt ad (11) (ad 11) := rfl
  have hay7 : zAt ad (447) (ad 447) := rfl
  have hay8 : zAt ad (883) (ad 883) := rfl
  have hay9 : zAt ad (890) (ad 890) := rfl
  have hay10 : zAt ad (900) (ad 900) := rfl
  have hay11 : zAt ad (910) (ad 910) := rfl
  have hay12 : zAt ad (917) (ad 917) := rfl
  have hay13 : zAt ad (919) (ad 919) := rfl
  have hay14 : zAt ad (4 + 1) (ad (4 + 1)) := rfl
  have hay15 : zAt ad (4 + 2) (ad (4 + 2)) := rfl
  have hay16 : zAt ad (4 + 3) (ad (4 + 3)) := rfl
  have hay17 : zAt ad (4 + 4) (ad (4 + 4)) := rfl
  have hay18 : zAt ad (4 + 5) (ad (4 + 5)) := rfl
  have hay19 : zAt ad (4 + 6) (ad (4 + 6)) := rfl
  obtain ⟨thcy20, zhcy20, ohcy20, rhcy20, hzhcy20, hthcy20, hwhcy20⟩ := id lry1
  obtain ⟨thcy21, zhcy21, ohcy21, rhcy21, hzhcy21, hthcy21, hwhcy21⟩ := id mry1
  obtain ⟨asy22, bsy22, csy22, dsy22, esy22, ⟨ptsy22, fsy22, gsy221⟩, hsy22, ⟨nusy22, nvsy22, nwsy22, isy22, jsy22, ksy22, lsy22, msy22, nsy22⟩, rfsy22, osy22⟩ := id iry1
  have hay23 : zAt ad (11 + 1) (ad (11 + 1)) := rfl
  have hay24 : zAt ad (11 + 11) (ad (11 + 11)) := rfl
  have hay25 : zAt ad (11 + 12) (ad (11 + 12)) := rfl
  have hay26 : zAt ad (11 + 13) (ad (11 + 13)) := rfl
  have hay27 : zAt ad (11 + 13 + 1) (ad (11 + 13 + 1)) := rfl
  have hay28 : zAt ad (11 + 13 + 2) (ad (11 + 13 + 2)) := rfl
  have hay29 : zAt ad (11 + 13 + 3) (ad (11 + 13 + 3)) := rfl
  have hay30 : zAt ad (11 + 17) (ad (11 + 17)) := rfl
  obtain ⟨uy31t, uy31z, uy31o, uy31r, uy31z4, uy31t5, uy311, ⟨uy31u, uy312, uy313⟩, uy314⟩ := id csy22
  have hay32 : zAt ad (11 + 1) (ad (11 + 1)) := rfl
  have hay33 : zAt ad (11 + 1 + 1) (ad (11 + 1 + 1)) := rfl
  obtain ⟨sloy34, hooy34, uaoy34, stoy34, opoy34, aioy34, faoy34, muoy34, tboy34, hsloy34, hhooy34, hpoy34⟩ := id kry1
  have hay35 : zAt ad (883 + 1) (ad (883 + 1)) := rfl
  have hay36 : zAt ad (883 + 2) (ad (883 + 2)) := rfl
  have hay37 : zAt ad (883 + 3) (ad (883 + 3)) := rfl
  have hay38 : zAt ad (883 + 4) (ad (883 + 4)) := rfl
  have hay39 : zAt ad (883 + 5) (ad (883 + 5)) := rfl
  have hay40 : zAt ad (883 + 6) (ad (883 + 6)) := rfl
  refine z_of (by decide) (Nat.le_of_ble_eq_true rfl) ?_
  intro p e s m below meth c C hr hlk hnm
  refine z_lv (lv' := [(0, .ref (ad 0)), (1, .ref (ad 890)), (2, .ref (ad 883)), (3, .int (zI (z))), (4, .int (zI (z1))), (5, .int (zI (z2)))]) [0, 1, 2, 3, 4, 5] rfl ?_
  refine z_aload_n C 0 dX9_isNotedSo_0 rfl ?_
  refine z_get (v := .ref (ad 11)) C (lt_K hN (rfl : Nat.blt (0) 952 = true)) hay2 ary1 rfl inA_X9 5 (by decide) q_354 rfl rfl dX9_isNotedSo_1 ?_
  refine z_get (v := .ref (ad (11 + 13))) C (lt_K hN (rfl : Nat.blt (11) 952 = true)) hay6 iry1.1 rfl inA_X6 4 (by decide) q_265 rfl rfl dX9_isNotedSo_4 ?_
  refine z_astore (lv' := [(6, .ref (ad (11 + 13))), (0, .ref (ad 0)), (1, .ref (ad 890)), (2, .ref (ad 883)), (3, .int (zI (z))), (4, .int (zI (z1))), (5, .int (zI (z2)))]) C dX9_isNotedSo_7 (by decide) rfl ?_
  refine z_iload C 5 dX9_isNotedSo_9 rfl ?_
  refine z_istore (lv' := [(7, .int (zI (z1))), (6, .ref (ad (11 + 13))), (0, .ref (ad 0)), (1, .ref (ad 890)), (2, .ref (ad 883)), (3, .int (zI (z))), (4, .int (zI (z1))), (5, .int (zI (z2)))]) C dX9_isNotedSo_11 (by decide) rfl ?_
  have lp13 : ∀ (n9 : Nat) (el : Int) (g1 : Nat → va_E), (z2 + 1 - el).toNat = n9 → (okRec cs ad g1 N t fp im nz kz sl ho ua st op ai fa mu tb tp) → (oX g g1) → (0 ≤ el ∧ (el ≤ z2 + 1 ∨ el ≤ 100)) → zV p l e ({ frames := 6, cells := 0, slots := 0, locals := 360 } : Room) s m ([.ref (ad 0), .ref (ad 890), .ref (ad 883), .int (zI (z)), .int (zI (z1)), .int (zI (z2))] : List Value).toArray below meth c (MQ below (zPost D A (rI0 N ad fun r g' => (0 ≤ r ∧ r ≤ 1) ∧ okRec cs ad g' N t fp im nz kz sl ho ua st op ai fa mu tb tp ∧ oX g g')) ([.ref (ad 0), .ref (ad 890), .ref (ad 883), .int (zI (z)), .int (zI (z1)), .int (zI (z2))] : List Value).toArray s ({ frames := 6, cells := 0, slots := 0, locals := 360 } : Room).cells ({ frames := 6, cells := 0, slots := 0, locals := 360 } : Room).slots A) D A 9 (N) ad g1 (0) (0) 13 [(7, .int (zI (el))), (6, .ref (ad (11 + 13))), (0, .ref (ad 0)), (1, .ref (ad 890)), (2, .ref (ad 883)), (3, .int (zI (z))), (4, .int (zI (z1))), (5, .int (zI (z2)))] [] := by
    intro n9
    induction n9 using Nat.strongRecOn with
    | ind n9 ih_lp13 =>
      intro el g1 hm9 f1 f2 hv13_0
      obtain ⟨ary41, bry41, cry41, dry41, ery41, fry41, gry411, hry41, ⟨acry41, iry41⟩, ⟨kcry41, jry41⟩, kry41, lry41, mry41, nry41, ory41, pry41⟩ := id f1
      have hay42 : zAt ad (0) (ad 0) := rfl
      have hay43 : zAt ad (1) (ad 1) := rfl
      have hay44 : zAt ad (2) (ad 2) := rfl
      have hay45 : zAt ad (4) (ad 4) := rfl
      have hay46 : zAt ad (11) (ad 11) := rfl
      have hay47 : zAt ad (447) (ad 447) := rfl
      have hay48 : zAt ad (883) (ad 883) := rfl
      have hay49 : zAt ad (890) (ad 890) := rfl
      have hay50 : zAt ad (900) (ad 900) := rfl
      have hay51 : zAt ad (910) (ad 910) := rfl
      have hay52 : zAt ad (917) (ad 917) := rfl
      have hay53 : zAt ad (919) (ad 919) := rfl
      have hay54 : zAt ad (4 + 1) (ad (4 + 1)) := rfl
      have hay55 : zAt ad (4 + 2) (ad (4 + 2)) := rfl
      have hay56 : zAt ad (4 + 3) (ad (4 + 3)) := rfl
      have hay57 : zAt ad (4 + 4) (ad (4 + 4)) := rfl
      have hay58 : zAt ad (4 + 5) (ad (4 + 5)) := rfl
      have hay59 : zAt ad (4 + 6) (ad (4 + 6)) := rfl
      obtain ⟨thcy60, zhcy60, ohcy60, rhcy60, hzhcy60, hthcy60, hwhcy60⟩ := id lry41
      obtain ⟨thcy61, zhcy61, ohcy61, rhcy61, hzhcy61, hthcy61, hwhcy61⟩ := id mry41
      obtain ⟨asy62, bsy62, csy62, dsy62, esy62, ⟨ptsy62, fsy62, gsy621⟩, hsy62, ⟨nusy62, nvsy62, nwsy62, isy62, jsy62, ksy62, lsy62, msy62, nsy62⟩, rfsy62, osy62⟩ := id iry41
      have hay63 : zAt ad (11 + 1) (ad (11 + 1)) := rfl
      have hay64 : zAt ad (11 + 11) (ad (11 + 11)) := rfl
      have hay65 : zAt ad (11 + 12) (ad (11 + 12)) := rfl
      have hay66 : zAt ad (11 + 13) (ad (11 + 13)) := rfl
      have hay67 : zAt ad (11 + 13 + 1) (ad (11 + 13 + 1)) := rfl
      have hay68 : zAt ad (11 + 13 + 2) (ad (11 + 13 + 2)) := rfl
      have hay69 : zAt ad (11 + 13 + 3) (ad (11 + 13 + 3)) := rfl
      have hay70 : zAt ad (11 + 17) (ad (11 + 17)) := rfl
      obtain ⟨uy71t, uy71z, uy71o, uy71r, uy71z4, uy71t5, uy711, ⟨uy71u, uy712, uy713⟩, uy714⟩ := id csy62
      have hay72 : zAt ad (11 + 1) (ad (11 + 1)) := rfl
      have hay73 : zAt ad (11 + 1 + 1) (ad (11 + 1 + 1)) := rfl
      obtain ⟨sloy74, hooy74, uaoy74, stoy74, opoy74, aioy74, faoy74, muoy74, tboy74, hsloy74, hhooy74, hpoy74⟩ := id kry41
      have hay75 : zAt ad (883 + 1) (ad (883 + 1)) := rfl
      have hay76 : zAt ad (883 + 2) (ad (883 + 2)) := rfl
      have hay77 : zAt ad (883 + 3) (ad (883 + 3)) := rfl
      have hay78 : zAt ad (883 + 4) (ad (883 + 4)) := rfl
      have hay79 : zAt ad (883 + 5) (ad (883 + 5)) := rfl
      have hay80 : zAt ad (883 + 6) (ad (883 + 6)) := rfl
      refine z_iload C 0 dX9_isNotedSo_13 rfl ?_
      refine z_iload C 7 dX9_isNotedSo_15 rfl ?_
      refine z_icmp_gt (tgt := 103) C dX9_isNotedSo_17 (by decide) (by omega) (by omega) (fun hby81 => ?_) (fun hby81 => ?_)
      · refine z_iconst (z := 1) C dX9_isNotedSo_103 rfl ?_
        have hrecy82 : okRec cs ad g1 N (t) (fp) (im) (nz) (kz) (sl) (ho) (ua) (st) (op) (ai) (fa) (mu) (tb) (tp) := ⟨ary41, bry41, cry41, dry41, ery41, fry41, gry411, hry41, ⟨_, iry41⟩, ⟨_, jry41⟩, kry41, lry41, mry41, nry41, ory41, pry41⟩
        exact z_zret C hr hlk dX9_isNotedSo_104 (by decide) (by decide) (by decide) ⟨1, rfl, rfl, rfl, by omega, hrecy82, fun j j1 j2 => by exact f2 j j1 j2⟩
      · refine z_iload C 0 dX9_isNotedSo_20 rfl ?_
        refine z_iload C 6 dX9_isNotedSo_22 rfl ?_
        refine z_icmp_le (tgt := 34) C dX9_isNotedSo_24 (by decide) (by omega) (by omega) (fun hby83 => ?_) (fun hby83 => ?_)
        · refine z_iconst (z := 0) C dX9_isNotedSo_34 rfl ?_
          refine z_istore (lv' := [(8, .int (zI (0))), (7, .int (zI (el))), (6, .ref (ad (11 + 13))), (0, .ref (ad 0)), (1, .ref (ad 890)), (2, .ref (ad 883)), (3, .int (zI (z))), (4, .int (zI (z1))), (5, .int (zI (z2)))]) C dX9_isNotedSo_35 (by decide) rfl ?_
          have lp37 : ∀ (n9 : Nat) (i : Int) (g1 : Nat → va_E), (8 - i).toNat = n9 → (okRec cs ad g1 N t fp im nz kz sl ho ua st op ai fa mu tb tp) → (oX g g1) → (0 ≤ i ∧ i ≤ 8) → zV p l e ({ frames := 6, cells := 0, slots := 0, locals := 360 } : Room) s m ([.ref (ad 0), .ref (ad 890), .ref (ad 883), .int (zI (z)), .int (zI (z1)), .int (zI (z2))] : List Value).toArray below meth c (MQ below (zPost D A (rI0 N ad fun r g' => (0 ≤ r ∧ r ≤ 1) ∧ okRec cs ad g' N t fp im nz kz sl ho ua st op ai fa mu tb tp ∧ oX g g')) ([.ref (ad 0), .ref (ad 890), .ref (ad 883), .int (zI (z)), .int (zI (z1)), .int (zI (z2))] : List Value).toArray s ({ frames := 6, cells := 0, slots := 0, locals := 360 } : Room).cells ({ frames := 6, cells := 0, slots := 0, locals := 360 } : Room).slots A) D A 9 (N) ad g1 (0) (0) 37 [(8, .int (zI (i))), (7, .int (zI (el))), (6, .ref (ad (11 + 13))), (0, .ref (ad 0)), (1, .ref (ad 890)), (2, .ref (ad 883)), (3, .int (zI (z))), (4, .int (zI (z1))), (5, .int (zI (z2)))] [] := by
            intro n9
            induction n9 using Nat.strongRecOn with
            | ind n9 ih_lp37 =>
              intro i g1 hm9 f1 f2 hv37_0
              obtain ⟨ary84, bry84, cry84, dry84, ery84, fry84, gry841, hry84, ⟨acry84, iry84⟩, ⟨kcry84, jry84⟩, kry84, lry84, mry84, nry84, ory84, pry84⟩ := id f1
              have hay85 : zAt ad (0) (ad 0) := rfl
              have hay86 : zAt ad (1) (ad 1) := rfl
              have hay87 : zAt ad (2) (ad 2) := rfl
              have hay88 : zAt ad (4) (ad 4) := rfl
              have hay89 : zAt ad (11) (ad 11) := rfl
              have hay90 : zAt ad (447) (ad 447) := rfl
              have hay91 : zAt ad (883) (ad 883) := rfl
              have hay92 : zAt ad (890) (ad 890) := rfl
              have hay93 : zAt ad (900) (ad 900) := rfl
              have hay94 : zAt ad (910) (ad 910) := rfl
              have hay95 : zAt ad (917) (ad 917) := rfl
              have hay96 : zAt ad (919) (ad 919) := rfl
              have hay97 : zAt ad (4 + 1) (ad (4 + 1)) := rfl
              have hay98 : zAt ad (4 + 2) (ad (4 + 2)) := rfl
              have hay99 : zAt ad (4 + 3) (ad (4 + 3)) := rfl
              have hay100 : zAt ad (4 + 4) (ad (4 + 4)) := rfl
              have hay101 : zAt ad (4 + 5) (ad (4 + 5)) := rfl
              have hay102 : zAt ad (4 + 6) (ad (4 + 6)) := rfl
              obtain ⟨thcy103, zhcy103, ohcy103, rhcy103, hzhcy103, hthcy103, hwhcy103⟩ := id lry84
              obtain ⟨thcy104, zhcy104, ohcy104, rhcy104, hzhcy104, hthcy104, hwhcy104⟩ := id mry84
              obtain ⟨asy105, bsy105, csy105, dsy105, esy105, ⟨ptsy105, fsy105, gsy1051⟩, hsy105, ⟨nusy105, nvsy105, nwsy105, isy105, jsy105, ksy105, lsy105, msy105, nsy105⟩, rfsy105, osy105⟩ := id iry84
              have hay106 : zAt ad (11 + 1) (ad (11 + 1)) := rfl
              have hay107 : zAt ad (11 + 11) (ad (11 + 11)) := rfl
              have hay108 : zAt ad (11 + 12) (ad (11 + 12)) := rfl
              have hay109 : zAt ad (11 + 13) (ad (11 + 13)) := rfl
              have hay110 : zAt ad (11 + 13 + 1) (ad (11 + 13 + 1)) := rfl
              have hay111 : zAt ad (11 + 13 + 2) (ad (11 + 13 + 2)) := rfl
              have hay112 : zAt ad (11 + 13 + 3) (ad (11 + 13 + 3)) := rfl
              have hay113 : zAt ad (11 + 17) (ad (11 + 17)) := rfl
              obtain ⟨uy114t, uy114z, uy114o, uy114r, uy114z4, uy114t5, uy1141, ⟨uy114u, uy1142, uy1143⟩, uy1144⟩ := id csy105
              have hay115 : zAt ad (11 + 1) (ad (11 + 1)) := rfl
              have hay116 : zAt ad (11 + 1 + 1) (ad (11 + 1 + 1)) := rfl
              obtain ⟨sloy117, hooy117, uaoy117, stoy117, opoy117, aioy117, faoy117, muoy117, tboy117, hsloy117, hhooy117, hpoy117⟩ := id kry84
              have hay118 : zAt ad (883 + 1) (ad (883 + 1)) := rfl
              have hay119 : zAt ad (883 + 2) (ad (883 + 2)) := rfl
              have hay120 : zAt ad (883 + 3) (ad (883 + 3)) := rfl
              have hay121 : zAt ad (883 + 4) (ad (883 + 4)) := rfl
              have hay122 : zAt ad (883 + 5) (ad (883 + 5)) := rfl
              have hay123 : zAt ad (883 + 6) (ad (883 + 6)) := rfl
              refine z_iload C 0 dX9_isNotedSo_37 rfl ?_
              refine z_aload C 2 dX9_isNotedSo_39 rfl ?_
              refine z_get (v := .int (zI (nz))) C (lt_K hN (rfl : Nat.blt (11 + 13) 952 = true)) hay109 ksy105 rfl inA_X2 0 (by decide) q_218 rfl rfl dX9_isNotedSo_41 ?_
              refine z_icmp_ge (tgt := 97) C dX9_isNotedSo_44 (by decide) (by omega) (by omega) (fun hby124 => ?_) (fun hby124 => ?_)
              · refine z_iinc (z := el + 1) (lv' := [(7, .int (zI (el + 1))), (8, .int (zI (i))), (6, .ref (ad (11 + 13))), (0, .ref (ad 0)), (1, .ref (ad 890)), (2, .ref (ad 883)), (3, .int (zI (z))), (4, .int (zI (z1))), (5, .int (zI (z2)))]) (j := 1) C dX9_isNotedSo_97 rfl rfl (by decide) rfl ?_
                refine z_goto (tgt := 13) C dX9_isNotedSo_100 (by decide) ?_
                have hrecy125 : okRec cs ad g1 N (t) (fp) (im) (nz) (kz) (sl) (ho) (ua) (st) (op) (ai) (fa) (mu) (tb) (tp) := ⟨ary84, bry84, cry84, dry84, ery84, fry84, gry841, hry84, ⟨_, iry84⟩, ⟨_, jry84⟩, kry84, lry84, mry84, nry84, ory84, pry84⟩
                refine z_lv (lv' := [(7, .int (zI (el + 1))), (6, .ref (ad (11 + 13))), (0, .ref (ad 0)), (1, .ref (ad 890)), (2, .ref (ad 883)), (3, .int (zI (z))), (4, .int (zI (z1))), (5, .int (zI (z2)))]) [0, 2, 3, 4, 5, 6, 7, 8] rfl ?_
                exact ih_lp13 _ (by omega) (el + 1) g1 rfl hrecy125 (fun j j1 j2 => by exact f2 j j1 j2) (by omega)
              · refine z_aload C 2 dX9_isNotedSo_47 rfl ?_
                refine z_get (v := .ref (ad (11 + 13 + 2))) C (lt_K hN (rfl : Nat.blt (11 + 13) 952 = true)) hay109 ksy105 rfl inA_X2 2 (by decide) q_222 rfl rfl dX9_isNotedSo_49 ?_
                refine z_iload C 0 dX9_isNotedSo_52 rfl ?_
                refine z_iald C (lt_K hN (rfl : Nat.blt (11 + 13 + 2) 952 = true)) hay111 msy105 ((i).toNat) (by omega) (by omega) (by decide) dX9_isNotedSo_54 ?_
                have hrfy126 := jsy105 ((i).toNat) (by omega)
                refine z_iload C 1 dX9_isNotedSo_55 rfl ?_
                refine z_icmp_ne (tgt := 91) C dX9_isNotedSo_57 (by decide) (by omega) (by omega) (fun hby127 => ?_) (fun hby127 => ?_)
                · refine z_iinc (z := i + 1) (lv' := [(8, .int (zI (i + 1))), (7, .int (zI (el))), (6, .ref (ad (11 + 13))), (0, .ref (ad 0)), (1, .ref (ad 890)), (2, .ref (ad 883)), (3, .int (zI (z))), (4, .int (zI (z1))), (5, .int (zI (z2)))]) (j := 0) C dX9_isNotedSo_91 rfl rfl (by decide) rfl ?_
                  refine z_goto (tgt := 37) C dX9_isNotedSo_94 (by decide) ?_
                  have hrecy128 : okRec cs ad g1 N (t) (fp) (im) (nz) (kz) (sl) (ho) (ua) (st) (op) (ai) (fa) (mu) (tb) (tp) := ⟨ary84, bry84, cry84, dry84, ery84, fry84, gry841, hry84, ⟨_, iry84⟩, ⟨_, jry84⟩, kry84, lry84, mry84, nry84, ory84, pry84⟩
                  refine z_lv (lv' := [(8, .int (zI (i + 1))), (7, .int (zI (el))), (6, .ref (ad (11 + 13))), (0, .ref (ad 0)), (1, .ref (ad 890)), (2, .ref (ad 883)), (3, .int (zI (z))), (4, .int (zI (z1))), (5, .int (zI (z2)))]) [0, 1, 2, 3, 4, 5, 6, 7, 8] rfl ?_
                  exact ih_lp37 _ (by omega) (i + 1) g1 rfl hrecy128 (fun j j1 j2 => by exact f2 j j1 j2) (by omega)
                · refine z_aload C 2 dX9_isNotedSo_60 rfl ?_
                  refine z_get (v := .ref (ad (11 + 13 + 3))) C (lt_K hN (rfl : Nat.blt (11 + 13) 952 = true)) hay109 ksy105 rfl inA_X2 3 (by decide) q_224 rfl rfl dX9_isNotedSo_62 ?_
                  refine z_iload C 0 dX9_isNotedSo_65 rfl ?_
                  refine z_iald C (lt_K hN (rfl : Nat.blt (11 + 13 + 3) 952 = true)) hay112 nsy105 ((i).toNat) (by omega) (by omega) (by decide) dX9_isNotedSo_67 ?_
                  refine z_aload_n C 4 dX9_isNotedSo_68 rfl ?_
                  refine z_get (v := .ref (ad (890 + 1))) C (lt_K hN (rfl : Nat.blt (890) 952 = true)) hay92 hwhcy103.1 rfl inA_X8 6 (by decide) q_191 rfl rfl dX9_isNotedSo_69 ?_
                  refine z_aload C 2 dX9_isNotedSo_72 rfl ?_
                  refine z_get (v := .ref (ad (11 + 13 + 1))) C (lt_K hN (rfl : Nat.blt (11 + 13) 952 = true)) hay109 ksy105 rfl inA_X2 1 (by decide) q_220 rfl rfl dX9_isNotedSo_74 ?_
                  refine z_iload C 0 dX9_isNotedSo_77 rfl ?_
                  refine z_iald C (lt_K hN (rfl : Nat.blt (11 + 13 + 1) 952 = true)) hay110 lsy105 ((i).toNat) (by omega) (by omega) (by decide) dX9_isNotedSo_79 ?_
                  have hrfy129 := jsy105 ((i).toNat) (by omega)
                  obtain ⟨uy130t, uy130z, uy130o, uy130r, uy130z4, uy130t5, uy1301, ⟨uy130u, uy1302, uy1303⟩, uy1304⟩ := id lry84
                  have hay131 : zAt ad (890) (ad 890) := rfl
                  have hay132 : zAt ad (890 + 1) (ad (890 + 1)) := rfl
                  refine z_aald C (lt_K hN (rfl : Nat.blt (890 + 1) 952 = true)) hay132 uy1302 3 rfl ((nusy105 ((i).toNat)).toNat) (by omega) (by omega) (by decide) (uy1303 (nusy105 ((i).toNat)).toNat (by omega)) dX9_isNotedSo_80 ?_
                  have hay133 : zAt ad (890 + 2 + 2 * (nusy105 ((i).toNat)).toNat) (ad (890 + 2 + 2 * (nusy105 ((i).toNat)).toNat)) := rfl
                  have hay134 : zAt ad (890 + 2 + 2 * (nusy105 ((i).toNat)).toNat + 1) (ad (890 + 2 + 2 * (nusy105 ((i).toNat)).toNat + 1)) := rfl
                  have hpy135 := uy1304 (nusy105 ((i).toNat)).toNat (by omega)
                  have hqy136 := uy130z4 (nusy105 ((i).toNat)).toNat (by omega)
                  refine z_bipush (z := 36) C dX9_isNotedSo_81 (by decide) ?_
                  refine z_cV (As := [.int (zI (36))]) (rest := [.int (zI (nwsy105 ((i).toNat)))]) (ci := 5) C (c_X3_sum l D A cs tt N ad _ (890 + 2 + 2 * (nusy105 ((i).toNat)).toNat) (by omega) _ _ _ (by omega) ⟨hpy135.1, hpy135.2⟩  (36) (by omega)) (by omega) hay133 hpy135.1 rfl rfl mv_yX3_sum q_945 hd_yX3_sum (by decide) (Nat.le_of_ble_eq_true rfl) (by decide) dX9_isNotedSo_83 rfl (kI0 fun vy137 gvy137 hvy137 => ?_)
                  obtain ⟨hvy137, rfl⟩ := hvy137
                  obtain ⟨xy138, exy139, hxy140⟩ := zI_of (zI (nwsy105 ((i).toNat)))
                  rw [exy139]
                  refine z_icmp_eq (tgt := 91) C dX9_isNotedSo_86 (by decide) (by omega) (by omega) (fun hby141 => ?_) (fun hby141 => ?_)
                  · refine z_iinc (z := i + 1) (lv' := [(8, .int (zI (i + 1))), (7, .int (zI (el))), (6, .ref (ad (11 + 13))), (0, .ref (ad 0)), (1, .ref (ad 890)), (2, .ref (ad 883)), (3, .int (zI (z))), (4, .int (zI (z1))), (5, .int (zI (z2)))]) (j := 0) C dX9_isNotedSo_91 rfl rfl (by decide) rfl ?_
                    refine z_goto (tgt := 37) C dX9_isNotedSo_94 (by decide) ?_
                    have hrecy142 : okRec cs ad g1 N (t) (fp) (im) (nz) (kz) (sl) (ho) (ua) (st) (op) (ai) (fa) (mu) (tb) (tp) := ⟨ary84, bry84, cry84, dry84, ery84, fry84, gry841, hry84, ⟨_, iry84⟩, ⟨_, jry84⟩, kry84, lry84, mry84, nry84, ory84, pry84⟩
                    refine z_lv (lv' := [(8, .int (zI (i + 1))), (7, .int (zI (el))), (6, .ref (ad (11 + 13))), (0, .ref (ad 0)), (1, .ref (ad 890)), (2, .ref (ad 883)), (3, .int (zI (z))), (4, .int (zI (z1))), (5, .int (zI (z2)))]) [0, 1, 2, 3, 4, 5, 6, 7, 8] rfl ?_
                    exact ih_lp37 _ (by omega) (i + 1) g1 rfl hrecy142 (fun j j1 j2 => by exact f2 j j1 j2) (by omega)
                  · refine z_iconst (z := 0) C dX9_isNotedSo_89 rfl ?_
                    have hrecy143 : okRec cs ad g1 N (t) (fp) (im) (nz) (kz) (sl) (ho) (ua) (st) (op) (ai) (fa) (mu) (tb) (tp) := ⟨ary84, bry84, cry84, dry84, ery84, fry84, gry841, hry84, ⟨_, iry84⟩, ⟨_, jry84⟩, kry84, lry84, mry84, nry84, ory84, pry84⟩
                    exact z_zret C hr hlk dX9_isNotedSo_90 (by decide) (by decide) (by decide) ⟨0, rfl, rfl, rfl, by omega, hrecy143, fun j j1 j2 => by exact f2 j j1 j2⟩
          have hrecy144 : okRec cs ad g1 N (t) (fp) (im) (nz) (kz) (sl) (ho) (ua) (st) (op) (ai) (fa) (mu) (tb) (tp) := ⟨ary41, bry41, cry41, dry41, ery41, fry41, gry411, hry41, ⟨_, iry41⟩, ⟨_, jry41⟩, kry41, lry41, mry41, nry41, ory41, pry41⟩
          refine z_lv (lv' := [(8, .int (zI (0))), (7, .int (zI (el))), (6, .ref (ad (11 + 13))), (0, .ref (ad 0)), (1, .ref (ad 890)), (2, .ref (ad 883)), (3, .int (zI (z))), (4, .int (zI (z1))), (5, .int (zI (z2)))]) [0, 1, 2, 3, 4, 5, 6, 7, 8] rfl ?_
          exact lp37 _ (0) g1 rfl hrecy144 (fun j j1 j2 => by exact f2 j j1 j2) (by omega)
        · refine z_aload_n C 3 dX9_isNotedSo_27 rfl ?_
          refine z_aload_n C 4 dX9_isNotedSo_28 rfl ?_
          refine z_iload_n C 5 dX9_isNotedSo_29 rfl ?_
          refine z_iconst (z := 1) C dX9_isNotedSo_30 rfl ?_
          refine z_cV (As := [.ref (ad 883), .int (zI (z)), .int (zI (1))]) (rest := []) (ci := 10) C (c_X8_hour l D A cs tt N ad _ (890) (by omega) lry41 (883) (by omega) _ _ _ _ _ _ _ _ _ ⟨hpoy74.1, hpoy74.2.1, hpoy74.2.2.1, hpoy74.2.2.2.1, hpoy74.2.2.2.2.1, hpoy74.2.2.2.2.2.1, hpoy74.2.2.2.2.2.2⟩ (by omega) (by omega) (by omega) (z) (by omega) (1) (by omega)) (lt_K hN (rfl : Nat.blt (890) 952 = true)) hay49 hwhcy60.1 rfl rfl mv_yX8_hour q_435 hd_yX8_hour (by decide) (Nat.le_of_ble_eq_true rfl) (by decide) dX9_isNotedSo_31 rfl (kV0 fun gvy145 hvy145 => ?_)
          obtain ⟨hkvy145, hfvy145⟩ := hvy145
          have hoky146 : okWorld cs ad gvy145 (890) := hkvy145
          obtain ⟨thcy147, zhcy147, ohcy147, rhcy147, hzhcy147, hthcy147, hwhcy147⟩ := id hoky146
          refine z_iconst (z := 0) C dX9_isNotedSo_34 rfl ?_
          refine z_istore (lv' := [(8, .int (zI (0))), (7, .int (zI (el))), (6, .ref (ad (11 + 13))), (0, .ref (ad 0)), (1, .ref (ad 890)), (2, .ref (ad 883)), (3, .int (zI (z))), (4, .int (zI (z1))), (5, .int (zI (z2)))]) C dX9_isNotedSo_35 (by decide) rfl ?_
          have lp37 : ∀ (n9 : Nat) (i : Int) (g1 : Nat → va_E), (8 - i).toNat = n9 → (okRec cs ad g1 N t fp im nz kz sl ho ua st op ai fa mu tb tp) → (oX g g1) → (0 ≤ i ∧ i ≤ 8) → zV p l e ({ frames := 6, cells := 0, slots := 0, locals := 360 } : Room) s m ([.ref (ad 0), .ref (ad 890), .ref (ad 883), .int (zI (z)), .int (zI (z1)), .int (zI (z2))] : List Value).toArray below meth c (MQ below (zPost D A (rI0 N ad fun r g' => (0 ≤ r ∧ r ≤ 1) ∧ okRec cs ad g' N t fp im nz kz sl ho ua st op ai fa mu tb tp ∧ oX g g')) ([.ref (ad 0), .ref (ad 890), .ref (ad 883), .int (zI (z)), .int (zI (z1)), .int (zI (z2))] : List Value).toArray s ({ frames := 6, cells := 0, slots := 0, locals := 360 } : Room).cells ({ frames := 6, cells := 0, slots := 0, locals := 360 } : Room).slots A) D A 9 (N) ad g1 (0) (0) 37 [(8, .int (zI (i))), (7, .int (zI (el))), (6, .ref (ad (11 + 13))), (0, .ref (ad 0)), (1, .ref (ad 890)), (2, .ref (ad 883)), (3, .int (zI (z))), (4, .int (zI (z1))), (5, .int (zI (z2)))] [] := by
            intro n9
            induction n9 using Nat.strongRecOn with
            | ind n9 ih_lp37 =>
              intro i g1 hm9 f1 f2 hv37_0
              obtain ⟨ary148, bry148, cry148, dry148, ery148, fry148, gry1481, hry148, ⟨acry148, iry148⟩, ⟨kcry148, jry148⟩, kry148, lry148, mry148, nry148, ory148, pry148⟩ := id f1
              have hay149 : zAt ad (0) (ad 0) := rfl
              have hay150 : zAt ad (1) (ad 1) := rfl
              have hay151 : zAt ad (2) (ad 2) := rfl
              have hay152 : zAt ad (4) (ad 4) := rfl
              have hay153 : zAt ad (11) (ad 11) := rfl
              have hay154 : zAt ad (447) (ad 447) := rfl
              have hay155 : zAt ad (883) (ad 883) := rfl
              have hay156 : zAt ad (890) (ad 890) := rfl
              have hay157 : zAt ad (900) (ad 900) := rfl
              have hay158 : zAt ad (910) (ad 910) := rfl
              have hay159 : zAt ad (917) (ad 917) := rfl
              have hay160 : zAt ad (919) (ad 919) := rfl
              have hay161 : zAt ad (4 + 1) (ad (4 + 1)) := rfl
              have hay162 : zAt ad (4 + 2) (ad (4 + 2)) := rfl
              have hay163 : zAt ad (4 + 3) (ad (4 + 3)) := rfl
              have hay164 : zAt ad (4 + 4) (ad (4 + 4)) := rfl
              have hay165 : zAt ad (4 + 5) (ad (4 + 5)) := rfl
              have hay166 : zAt ad (4 + 6) (ad (4 + 6)) := rfl
              obtain ⟨thcy167, zhcy167, ohcy167, rhcy167, hzhcy167, hthcy167, hwhcy167⟩ := id lry148
              obtain ⟨thcy168, zhcy168, ohcy168, rhcy168, hzhcy168, hthcy168, hwhcy168⟩ := id mry148
              obtain ⟨asy169, bsy169, csy169, dsy169, esy169, ⟨ptsy169, fsy169, gsy1691⟩, hsy169, ⟨nusy169, nvsy169, nwsy169, isy169, jsy169, ksy169, lsy169, msy169, nsy169⟩, rfsy169, osy169⟩ := id iry148
              have hay170 : zAt ad (11 + 1) (ad (11 + 1)) := rfl
              have hay171 : zAt ad (11 + 11) (ad (11 + 11)) := rfl
              have hay172 : zAt ad (11 + 12) (ad (11 + 12)) := rfl
              have hay173 : zAt ad (11 + 13) (ad (11 + 13)) := rfl
              have hay174 : zAt ad (11 + 13 + 1) (ad (11 + 13 + 1)) := rfl
              have hay175 : zAt ad (11 + 13 + 2) (ad (11 + 13 + 2)) := rfl
              have hay176 : zAt ad (11 + 13 + 3) (ad (11 + 13 + 3)) := rfl
              have hay177 : zAt ad (11 + 17) (ad (11 + 17)) := rfl
              obtain ⟨uy178t, uy178z, uy178o, uy178r, uy178z4, uy178t5, uy1781, ⟨uy178u, uy1782, uy1783⟩, uy1784⟩ := id csy169
              have hay179 : zAt ad (11 + 1) (ad (11 + 1)) := rfl
              have hay180 : zAt ad (11 + 1 + 1) (ad (11 + 1 + 1)) := rfl
              obtain ⟨sloy181, hooy181, uaoy181, stoy181, opoy181, aioy181, faoy181, muoy181, tboy181, hsloy181, hhooy181, hpoy181⟩ := id kry148
              have hay182 : zAt ad (883 + 1) (ad (883 + 1)) := rfl
              have hay183 : zAt ad (883 + 2) (ad (883 + 2)) := rfl
              have hay184 : zAt ad (883 + 3) (ad (883 + 3)) := rfl
              have hay185 : zAt ad (883 + 4) (ad (883 + 4)) := rfl
              have hay186 : zAt ad (883 + 5) (ad (883 + 5)) := rfl
              have hay187 : zAt ad (883 + 6) (ad (883 + 6)) := rfl
              refine z_iload C 0 dX9_isNotedSo_37 rfl ?_
              refine z_aload C 2 dX9_isNotedSo_39 rfl ?_
              refine z_get (v := .int (zI (nz))) C (lt_K hN (rfl : Nat.blt (11 + 13) 952 = true)) hay173 ksy169 rfl inA_X2 0 (by decide) q_218 rfl rfl dX9_isNotedSo_41 ?_
              refine z_icmp_ge (tgt := 97) C dX9_isNotedSo_44 (by decide) (by omega) (by omega) (fun hby188 => ?_) (fun hby188 => ?_)
              · refine z_iinc (z := el + 1) (lv' := [(7, .int (zI (el + 1))), (8, .int (zI (i))), (6, .ref (ad (11 + 13))), (0, .ref (ad 0)), (1, .ref (ad 890)), (2, .ref (ad 883)), (3, .int (zI (z))), (4, .int (zI (z1))), (5, .int (zI (z2)))]) (j := 1) C dX9_isNotedSo_97 rfl rfl (by decide) rfl ?_
                refine z_goto (tgt := 13) C dX9_isNotedSo_100 (by decide) ?_
                have hrecy189 : okRec cs ad g1 N (t) (fp) (im) (nz) (kz) (sl) (ho) (ua) (st) (op) (ai) (fa) (mu) (tb) (tp) := ⟨ary148, bry148, cry148, dry148, ery148, fry148, gry1481, hry148, ⟨_, iry148⟩, ⟨_, jry148⟩, kry148, lry148, mry148, nry148, ory148, pry148⟩
                refine z_lv (lv' := [(7, .int (zI (el + 1))), (6, .ref (ad (11 + 13))), (0, .ref (ad 0)), (1, .ref (ad 890)), (2, .ref (ad 883)), (3, .int (zI (z))), (4, .int (zI (z1))), (5, .int (zI (z2)))]) [0, 2, 3, 4, 5, 6, 7, 8] rfl ?_
                exact ih_lp13 _ (by omega) (el + 1) g1 rfl hrecy189 (fun j j1 j2 => by exact f2 j j1 j2) (by omega)
              · refine z_aload C 2 dX9_isNotedSo_47 rfl ?_
                refine z_get (v := .ref (ad (11 + 13 + 2))) C (lt_K hN (rfl : Nat.blt (11 + 13) 952 = true)) hay173 ksy169 rfl inA_X2 2 (by decide) q_222 rfl rfl dX9_isNotedSo_49 ?_
                refine z_iload C 0 dX9_isNotedSo_52 rfl ?_
                refine z_iald C (lt_K hN (rfl : Nat.blt (11 + 13 + 2) 952 = true)) hay175 msy169 ((i).toNat) (by omega) (by omega) (by decide) dX9_isNotedSo_54 ?_
                have hrfy190 := jsy169 ((i).toNat) (by omega)
                refine z_iload C 1 dX9_isNotedSo_55 rfl ?_
                refine z_icmp_ne (tgt := 91) C dX9_isNotedSo_57 (by decide) (by omega) (by omega) (fun hby191 => ?_) (fun hby191 => ?_)
                · refine z_iinc (z := i + 1) (lv' := [(8, .int (zI (i + 1))), (7, .int (zI (el))), (6, .ref (ad (11 + 13))), (0, .ref (ad 0)), (1, .ref (ad 890)), (2, .ref (ad 883)), (3, .int (zI (z))), (4, .int (zI (z1))), (5, .int (zI (z2)))]) (j := 0) C dX9_isNotedSo_91 rfl rfl (by decide) rfl ?_
                  refine z_goto (tgt := 37) C dX9_isNotedSo_94 (by decide) ?_
                  have hrecy192 : okRec cs ad g1 N (t) (fp) (im) (nz) (kz) (sl) (ho) (ua) (st) (op) (ai) (fa) (mu) (tb) (tp) := ⟨ary148, bry148, cry148, dry148, ery148, fry148, gry1481, hry148, ⟨_, iry148⟩, ⟨_, jry148⟩, kry148, lry148, mry148, nry148, ory148, pry148⟩
                  refine z_lv (lv' := [(8, .int (zI (i + 1))), (7, .int (zI (el))), (6, .ref (ad (11 + 13))), (0, .ref (ad 0)), (1, .ref (ad 890)), (2, .ref (ad 883)), (3, .int (zI (z))), (4, .int (zI (z1))), (5, .int (zI (z2)))]) [0, 1, 2, 3, 4, 5, 6, 7, 8] rfl ?_
                  exact ih_lp37 _ (by omega) (i + 1) g1 rfl hrecy192 (fun j j1 j2 => by exact f2 j j1 j2) (by omega)
                · refine z_aload C 2 dX9_isNotedSo_60 rfl ?_
                  refine z_get (v := .ref (ad (11 + 13 + 3))) C (lt_K hN (rfl : Nat.blt (11 + 13) 952 = true)) hay173 ksy169 rfl inA_X2 3 (by decide) q_224 rfl rfl dX9_isNotedSo_62 ?_
                  refine z_iload C 0 dX9_isNotedSo_65 rfl ?_
                  refine z_iald C (lt_K hN (rfl : Nat.blt (11 + 13 + 3) 952 = true)) hay176 nsy169 ((i).toNat) (by omega) (by omega) (by decide) dX9_isNotedSo_67 ?_
                  refine z_aload_n C 4 dX9_isNotedSo_68 rfl ?_
                  refine z_get (v := .ref (ad (890 + 1))) C (lt_K hN (rfl : Nat.blt (890) 952 = true)) hay156 hwhcy167.1 rfl inA_X8 6 (by decide) q_191 rfl rfl dX9_isNotedSo_69 ?_
                  refine z_aload C 2 dX9_isNotedSo_72 rfl ?_
                  refine z_get (v := .ref (ad (11 + 13 + 1))) C (lt_K hN (rfl : Nat.blt (11 + 13) 952 = true)) hay173 ksy169 rfl inA_X2 1 (by decide) q_220 rfl rfl dX9_isNotedSo_74 ?_
                  refine z_iload C 0 dX9_isNotedSo_77 rfl ?_
                  refine z_iald C (lt_K hN (rfl : Nat.blt (11 + 13 + 1) 952 = true)) hay174 lsy169 ((i).toNat) (by omega) (by omega) (by decide) dX9_isNotedSo_79 ?_
                  have hrfy193 := jsy169 ((i).toNat) (by omega)
                  obtain ⟨uy194t, uy194z, uy194o, uy194r, uy194z4, uy194t5, uy1941, ⟨uy194u, uy1942, uy1943⟩, uy1944⟩ := id lry148
                  have hay195 : zAt ad (890) (ad 890) := rfl
                  have hay196 : zAt ad (890 + 1) (ad (890 + 1)) := rfl
                  refine z_aald C (lt_K hN (rfl : Nat.blt (890 + 1) 952 = true)) hay196 uy1942 3 rfl ((nusy169 ((i).toNat)).toNat) (by omega) (by omega) (by decide) (uy1943 (nusy169 ((i).toNat)).toNat (by omega)) dX9_isNotedSo_80 ?_
                  have hay197 : zAt ad (890 + 2 + 2 * (nusy169 ((i).toNat)).toNat) (ad (890 + 2 + 2 * (nusy169 ((i).toNat)).toNat)) := rfl
                  have hay198 : zAt ad (890 + 2 + 2 * (nusy169 ((i).toNat)).toNat + 1) (ad (890 + 2 + 2 * (nusy169 ((i).toNat)).toNat + 1)) := rfl
                  have hpy199 := uy1944 (nusy169 ((i).toNat)).toNat (by omega)
                  have hqy200 := uy194z4 (nusy169 ((i).toNat)).toNat (by omega)
                  refine z_bipush (z := 36) C dX9_isNotedSo_81 (by decide) ?_
                  refine z_cV (As := [.int (zI (36))]) (rest := [.int (zI (nwsy169 ((i).toNat)))]) (ci := 5) C (c_X3_sum l D A cs tt N ad _ (890 + 2 + 2 * (nusy169 ((i).toNat)).toNat) (by omega) _ _ _ (by omega) ⟨hpy199.1, hpy199.2⟩  (36) (by omega)) (by omega) hay197 hpy199.1 rfl rfl mv_yX3_sum q_945 hd_yX3_sum (by decide) (Nat.le_of_ble_eq_true rfl) (by decide) dX9_isNotedSo_83 rfl (kI0 fun vy201 gvy201 hvy201 => ?_)
                  obtain ⟨hvy201, rfl⟩ := hvy201
                  obtain ⟨xy202, exy203, hxy204⟩ := zI_of (zI (nwsy169 ((i).toNat)))
                  rw [exy203]
                  refine z_icmp_eq (tgt := 91) C dX9_isNotedSo_86 (by decide) (by omega) (by omega) (fun hby205 => ?_) (fun hby205 => ?_)
                  · refine z_iinc (z := i + 1) (lv' := [(8, .int (zI (i + 1))), (7, .int (zI (el))), (6, .ref (ad (11 + 13))), (0, .ref (ad 0)), (1, .ref (ad 890)), (2, .ref (ad 883)), (3, .int (zI (z))), (4, .int (zI (z1))), (5, .int (zI (z2)))]) (j := 0) C dX9_isNotedSo_91 rfl rfl (by decide) rfl ?_
                    refine z_goto (tgt := 37) C dX9_isNotedSo_94 (by decide) ?_
                    have hrecy206 : okRec cs ad g1 N (t) (fp) (im) (nz) (kz) (sl) (ho) (ua) (st) (op) (ai) (fa) (mu) (tb) (tp) := ⟨ary148, bry148, cry148, dry148, ery148, fry148, gry1481, hry148, ⟨_, iry148⟩, ⟨_, jry148⟩, kry148, lry148, mry148, nry148, ory148, pry148⟩
                    refine z_lv (lv' := [(8, .int (zI (i + 1))), (7, .int (zI (el))), (6, .ref (ad (11 + 13))), (0, .ref (ad 0)), (1, .ref (ad 890)), (2, .ref (ad 883)), (3, .int (zI (z))), (4, .int (zI (z1))), (5, .int (zI (z2)))]) [0, 1, 2, 3, 4, 5, 6, 7, 8] rfl ?_
                    exact ih_lp37 _ (by omega) (i + 1) g1 rfl hrecy206 (fun j j1 j2 => by exact f2 j j1 j2) (by omega)
                  · refine z_iconst (z := 0) C dX9_isNotedSo_89 rfl ?_
                    have hrecy207 : okRec cs ad g1 N (t) (fp) (im) (nz) (kz) (sl) (ho) (ua) (st) (op) (ai) (fa) (mu) (tb) (tp) := ⟨ary148, bry148, cry148, dry148, ery148, fry148, gry1481, hry148, ⟨_, iry148⟩, ⟨_, jry148⟩, kry148, lry148, mry148, nry148, ory148, pry148⟩
                    exact z_zret C hr hlk dX9_isNotedSo_90 (by decide) (by decide) (by decide) ⟨0, rfl, rfl, rfl, by omega, hrecy207, fun j j1 j2 => by exact f2 j j1 j2⟩
          have hgy208 := (hfvy145 (0) (by omega)).trans ary41
          have hgy209 := (hfvy145 (1) (by omega)).trans dry41
          have hpy210 := okState.mv (ad' := ad) (g' := gvy145) (fun j h1 h2 => by rfl) (fun j h1 h2 => by rw [hfvy145 _ (by omega)]) iry41
          have hpy211 := okRdr.mv (ad' := ad) (g' := gvy145) (fun j h1 h2 => by rfl) (fun j h1 h2 => by rw [hfvy145 _ (by omega)]) ery41
          have hpy212 := isPlan.mv (ad' := ad) (g' := gvy145) (fun j h1 h2 => by rfl) (fun j h1 h2 => by rw [hfvy145 _ (by omega)]) fry41
          have hpy213 := okState.mv (ad' := ad) (g' := gvy145) (fun j h1 h2 => by rfl) (fun j h1 h2 => by rw [hfvy145 _ (by omega)]) jry41
          have hpy214 := okPlan.mv (ad' := ad) (g' := gvy145) (fun j h1 h2 => by rfl) (fun j h1 h2 => by rw [hfvy145 _ (by omega)]) kry41
          have hpy215 := okGss.mv (ad' := ad) (g' := gvy145) (fun j h1 h2 => by rfl) (fun j h1 h2 => by rw [hfvy145 _ (by omega)]) nry41
          have hpy216 := okLike.mv (ad' := ad) (g' := gvy145) (fun j h1 h2 => by rfl) (fun j h1 h2 => by rw [hfvy145 _ (by omega)]) ory41
          have hpy217 := okBld.mv (ad' := ad) (g' := gvy145) (fun j h1 h2 => by rfl) (fun j h1 h2 => by rw [hfvy145 _ (by omega)]) pry41
          have hoky218 : okWorld cs ad gvy145 (900) := okWorld.mv (fun j j1 j2 => by rw [hfvy145 _ (by omega)]) mry41
          have hrecy219 : okRec cs ad gvy145 N (t) (fp) (im) (nz) (kz) (sl) (ho) (ua) (st) (op) (ai) (fa) (mu) (tb) (tp) := ⟨hgy208, bry41, cry41, hgy209, hpy211, hpy212, gry411, hry41, ⟨_, hpy210⟩, ⟨_, hpy213⟩, hpy214, hoky146, hoky218, hpy215, hpy216, hpy217⟩
          refine z_lv (lv' := [(8, .int (zI (0))), (7, .int (zI (el))), (6, .ref (ad (11 + 13))), (0, .ref (ad 0)), (1, .ref (ad 890)), (2, .ref (ad 883)), (3, .int (zI (z))), (4, .int (zI (z1))), (5, .int (zI (z2)))]) [0, 1, 2, 3, 4, 5, 6, 7, 8] rfl ?_
          exact lp37 _ (0) gvy145 rfl hrecy219 (fun j j1 j2 => by rw [hfvy145 _ (by omega)]; exact f2 j j1 j2) (by omega)
  have hrecy220 : okRec cs ad g N (t) (fp) (im) (nz) (kz) (sl) (ho) (ua) (st) (op) (ai) (fa) (mu) (tb) (tp) := ⟨ary1, bry1, cry1, dry1, ery1, fry1, gry11, hry1, ⟨_, iry1⟩, ⟨_, jry1⟩, kry1, lry1, mry1, nry1, ory1, pry1⟩
  refine z_lv (lv' := [(7, .int (zI (z1))), (6, .ref (ad (11 + 13))), (0, .ref (ad 0)), (1, .ref (ad 890)), (2, .ref (ad 883)), (3, .int (zI (z))), (4, .int (zI (z1))), (5, .int (zI (z2)))]) [0, 1, 2, 3, 4, 5, 6, 7] rfl ?_
  exact lp13 _ (z1) g rfl hrecy220 (fun j j1 j2 => by rfl) (by omega)

set_option maxRecDepth 100000 in
set_option maxHeartbeats 4000000 in
theorem c_X9_lookFrom (l : Launch) (D : va_G) (A : Nat → Prop) (cs : Nat → ClassId) (tt : Nat) (N : Nat) (ad : Nat → Nat) (g : Nat → va_E) (hN : 952 ≤ N) (t fp im nz kz sl ho ua : Int) (st op ai fa mu tb tp : Nat → Int) (hR : okRec cs ad g N t fp im nz kz sl ho ua st op ai fa mu tb tp) (z : Int) (hz : 0 ≤ z ∧ z ≤ 24) : zM l yX9_lookFrom cX9_lookFrom 3 none ({ frames := 7, cells := 0, slots := 0, locals := 420 } : Room) D A cs tt N ad g [.ref (ad 0), .int (zI (z))] (rV0 N ad fun g' => okRec cs ad g' N t fp im nz kz sl ho ua st op ai fa mu tb tp ∧ oX g g') := by
  obtain ⟨ary1, bry1, cry1, dry1, ery1, fry1, gry11, hry1, ⟨acry1, iry1⟩, ⟨kcry1, jry1⟩, kry1, lry1, mry1, nry1, ory1, pry1⟩ := id hR
  have hay2 : zAt ad (0) (ad 0) := rfl
  have hay3 : zAt ad (1) (ad 1) := rfl
  have hay4 : zAt ad (2) (ad 2) := rfl
  have hay5 : zAt ad (4) (ad 4) := rfl
  have hay6 : zAt ad (11) (ad 11) := rfl
  have hay7 : zAt ad (447) (ad 447) := rfl
  have hay8 : zAt ad (883) (ad 883) := rfl
  have hay9 : zAt ad (890) (ad 890) := rfl
  have hay10 : zAt ad (900) (ad 900) := rfl
  have hay11 : zAt ad (910) (ad 910) := rfl
  have hay12 : zAt ad (917) (ad 917) := rfl
  have hay13 : zAt ad (919) (ad 919) := rfl
  have hay14 : zAt ad (4 + 1) (ad (4 + 1)) := rfl
  have hay15 : zAt ad (4 + 2) (ad (4 + 2)) := rfl
  have hay16 : zAt ad (4 + 3) (ad (4 + 3)) := rfl
  have hay17 : zAt ad (4 + 4) (ad (4 + 4)) := rfl
  have hay18 : zAt ad (4 + 5) (ad (4 + 5)) := rfl
  have hay19 : zAt ad (4 + 6) (ad (4 + 6)) := rfl
  obtain ⟨thcy20, zhcy20, ohcy20, rhcy20, hzhcy20, hthcy20, hwhcy20⟩ := id lry1
  obtain ⟨thcy21, zhcy21, ohcy21, rhcy21, hzhcy21, hthcy21, hwhcy21⟩ := id mry1
  obtain ⟨asy22, bsy22, csy22, dsy22, esy22, ⟨ptsy22, fsy22, gsy221⟩, hsy22, ⟨nusy22, nvsy22, nwsy22, isy22, jsy22, ksy22, lsy22, msy22, nsy22⟩, rfsy22, osy22⟩ := id iry1
  have hay23 : zAt ad (11 + 1) (ad (11 + 1)) := rfl
  have hay24 : zAt ad (11 + 11) (ad (11 + 11)) := rfl
  have hay25 : zAt ad (11 + 12) (ad (11 + 12)) := rfl
  have hay26 : zAt ad (11 + 13) (ad (11 + 13)) := rfl
  have hay27 : zAt ad (11 + 13 + 1) (ad (11 + 13 + 1)) := rfl
  have hay28 : zAt ad (11 + 13 + 2) (ad (11 + 13 + 2)) := rfl
  have hay29 : zAt ad (11 + 13 + 3) (ad (11 + 13 + 3)) := rfl
  have hay30 : zAt ad (11 + 17) (ad (11 + 17)) := rfl
  obtain ⟨uy31t, uy31z, uy31o, uy31r, uy31z4, uy31t5, uy311, ⟨uy31u, uy312, uy313⟩, uy314⟩ := id csy22
  have hay32 : zAt ad (11 + 1) (ad (11 + 1)) := rfl
  have hay33 : zAt ad (11 + 1 + 1) (ad (11 + 1 + 1)) := rfl
  obtain ⟨sloy34, hooy34, uaoy34, stoy34, opoy34, aioy34, faoy34, muoy34, tboy34, hsloy34, hhooy34, hpoy34⟩ := id kry1
  have hay35 : zAt ad (883 + 1) (ad (883 + 1)) := rfl
  have hay36 : zAt ad (883 + 2) (ad (883 + 2)) := rfl
  have hay37 : zAt ad (883 + 3) (ad (883 + 3)) := rfl
  have hay38 : zAt ad (883 + 4) (ad (883 + 4)) := rfl
  have hay39 : zAt ad (883 + 5) (ad (883 + 5)) := rfl
  have hay40 : zAt ad (883 + 6) (ad (883 + 6)) := rfl
  obtain ⟨mnqy41, fiqy41, uqy41, qqy41, h1qy41, h2qy41, h3qy41, h4qy41⟩ := id nry1
  have hay42 : zAt ad (910 + 1) (ad (910 + 1)) := rfl
  refine z_of (by decide) (Nat.le_of_ble_eq_true rfl) ?_
  intro p e s m below meth c C hr hlk hnm
  refine z_lv (lv' := [(0, .ref (ad 0)), (1, .int (zI (z)))]) [0, 1] rfl ?_
  refine z_aload_n C 0 dX9_lookFrom_0 rfl ?_
  refine z_get (v := .ref (ad 890)) C (lt_K hN (rfl : Nat.blt (0) 952 = true)) hay2 ary1 rfl inA_X9 9 (by decide) q_358 rfl rfl dX9_lookFrom_1 ?_
  refine z_aload_n C 0 dX9_lookFrom_4 rfl ?_
  refine z_get (v := .ref (ad 900)) C (lt_K hN (rfl : Nat.blt (0) 952 = true)) hay2 ary1 rfl inA_X9 10 (by decide) q_359 rfl rfl dX9_lookFrom_5 ?_
  refine z_cV (As := [.ref (ad 900)]) (rest := []) (ci := 10) C (c_X8_copyFrom l D A cs tt N ad _ (890) (by omega) lry1 (900) (by omega) mry1 (by omega)) (lt_K hN (rfl : Nat.blt (890) 952 = true)) hay9 hwhcy20.1 rfl rfl mv_yX8_copyFrom q_1228 hd_yX8_copyFrom (by decide) (Nat.le_of_ble_eq_true rfl) (by decide) dX9_lookFrom_8 rfl (kV0 fun gvy43 hvy43 => ?_)
  obtain ⟨⟨tvy43, zvy43, ovy43, rvy43, hzvy43, htvy43, -, hwvy43⟩, hfvy43⟩ := hvy43
  have hoky44 : okWorld cs ad gvy43 (890) := ⟨_, _, _, _, hzvy43, htvy43, hwvy43⟩
  obtain ⟨thcy45, zhcy45, ohcy45, rhcy45, hzhcy45, hthcy45, hwhcy45⟩ := id hoky44
  refine z_iload_n C 1 dX9_lookFrom_11 rfl ?_
  refine z_istore_n (lv' := [(2, .int (zI (z))), (0, .ref (ad 0)), (1, .int (zI (z)))]) C dX9_lookFrom_12 rfl (by decide) rfl ?_
  have lp13 : ∀ (n9 : Nat) (i : Int) (g1 : Nat → va_E), (24 - i).toNat = n9 → (okRec cs ad g1 N t fp im nz kz sl ho ua st op ai fa mu tb tp) → (oX g g1) → (0 ≤ i ∧ i ≤ 24) → zV p l e ({ frames := 7, cells := 0, slots := 0, locals := 420 } : Room) s m ([.ref (ad 0), .int (zI (z))] : List Value).toArray below meth c (MQ below (zPost D A (rV0 N ad fun g' => okRec cs ad g' N t fp im nz kz sl ho ua st op ai fa mu tb tp ∧ oX g g')) ([.ref (ad 0), .int (zI (z))] : List Value).toArray s ({ frames := 7, cells := 0, slots := 0, locals := 420 } : Room).cells ({ frames := 7, cells := 0, slots := 0, locals := 420 } : Room).slots A) D A 3 (N) ad g1 (0) (0) 13 [(2, .int (zI (i))), (0, .ref (ad 0)), (1, .int (zI (z)))] [] := by
    intro n9
    induction n9 using Nat.strongRecOn with
    | ind n9 ih_lp13 =>
      intro i g1 hm9 f1 f2 hv13_0
      obtain ⟨ary46, bry46, cry46, dry46, ery46, fry46, gry461, hry46, ⟨acry46, iry46⟩, ⟨kcry46, jry46⟩, kry46, lry46, mry46, nry46, ory46, pry46⟩ := id f1
      have hay47 : zAt ad (0) (ad 0) := rfl
      have hay48 : zAt ad (1) (ad 1) := rfl
      have hay49 : zAt ad (2) (ad 2) := rfl
      have hay50 : zAt ad (4) (ad 4) := rfl
      have hay51 : zAt ad (11) (ad 11) := rfl
      have hay52 : zAt ad (447) (ad 447) := rfl
      have hay53 : zAt ad (883) (ad 883) := rfl
      have hay54 : zAt ad (890) (ad 890) := rfl
      have hay55 : zAt ad (900) (ad 900) := rfl
      have hay56 : zAt ad (910) (ad 910) := rfl
      have hay57 : zAt ad (917) (ad 917) := rfl
      have hay58 : zAt ad (919) (ad 919) := rfl
      have hay59 : zAt ad (4 + 1) (ad (4 + 1)) := rfl
      have hay60 : zAt ad (4 + 2) (ad (4 + 2)) := rfl
      have hay61 : zAt ad (4 + 3) (ad (4 + 3)) := rfl
      have hay62 : zAt ad (4 + 4) (ad (4 + 4)) := rfl
      have hay63 : zAt ad (4 + 5) (ad (4 + 5)) := rfl
      have hay64 : zAt ad (4 + 6) (ad (4 + 6)) := rfl
      obtain ⟨thcy65, zhcy65, ohcy65, rhcy65, hzhcy65, hthcy65, hwhcy65⟩ := id lry46
      obtain ⟨thcy66, zhcy66, ohcy66, rhcy66, hzhcy66, hthcy66, hwhcy66⟩ := id mry46
      obtain ⟨asy67, bsy67, csy67, dsy67, esy67, ⟨ptsy67, fsy67, gsy671⟩, hsy67, ⟨nusy67, nvsy67, nwsy67, isy67, jsy67, ksy67, lsy67, msy67, nsy67⟩, rfsy67, osy67⟩ := id iry46
      have hay68 : zAt ad (11 + 1) (ad (11 + 1)) := rfl
      have hay69 : zAt ad (11 + 11) (ad (11 + 11)) := rfl
      have hay70 : zAt ad (11 + 12) (ad (11 + 12)) := rfl
      have hay71 : zAt ad (11 + 13) (ad (11 + 13)) := rfl
      have hay72 : zAt ad (11 + 13 + 1) (ad (11 + 13 + 1)) := rfl
      have hay73 : zAt ad (11 + 13 + 2) (ad (11 + 13 + 2)) := rfl
      have hay74 : zAt ad (11 + 13 + 3) (ad (11 + 13 + 3)) := rfl
      have hay75 : zAt ad (11 + 17) (ad (11 + 17)) := rfl
      obtain ⟨uy76t, uy76z, uy76o, uy76r, uy76z4, uy76t5, uy761, ⟨uy76u, uy762, uy763⟩, uy764⟩ := id csy67
      have hay77 : zAt ad (11 + 1) (ad (11 + 1)) := rfl
      have hay78 : zAt ad (11 + 1 + 1) (ad (11 + 1 + 1)) := rfl
      obtain ⟨sloy79, hooy79, uaoy79, stoy79, opoy79, aioy79, faoy79, muoy79, tboy79, hsloy79, hhooy79, hpoy79⟩ := id kry46
      have hay80 : zAt ad (883 + 1) (ad (883 + 1)) := rfl
      have hay81 : zAt ad (883 + 2) (ad (883 + 2)) := rfl
      have hay82 : zAt ad (883 + 3) (ad (883 + 3)) := rfl
      have hay83 : zAt ad (883 + 4) (ad (883 + 4)) := rfl
      have hay84 : zAt ad (883 + 5) (ad (883 + 5)) := rfl
      have hay85 : zAt ad (883 + 6) (ad (883 + 6)) := rfl
      obtain ⟨mnqy86, fiqy86, uqy86, qqy86, h1qy86, h2qy86, h3qy86, h4qy86⟩ := id nry46
      have hay87 : zAt ad (910 + 1) (ad (910 + 1)) := rfl
      refine z_iload_n C 0 dX9_lookFrom_13 rfl ?_
      refine z_bipush (z := 24) C dX9_lookFrom_14 (by decide) ?_
      refine z_icmp_ge (tgt := 44) C dX9_lookFrom_16 (by decide) (by omega) (by omega) (fun hby88 => ?_) (fun hby88 => ?_)
      · refine z_iconst (z := 0) C dX9_lookFrom_44 rfl ?_
        refine z_istore_n (lv' := [(2, .int (zI (0))), (0, .ref (ad 0)), (1, .int (zI (z)))]) C dX9_lookFrom_45 rfl (by decide) rfl ?_
        have lp46 : ∀ (n9 : Nat) (k : Int) (g1 : Nat → va_E), (4 - k).toNat = n9 → (okRec cs ad g1 N t fp im nz kz sl ho ua st op ai fa mu tb tp) → (oX g g1) → (0 ≤ k ∧ k ≤ 4) → zV p l e ({ frames := 7, cells := 0, slots := 0, locals := 420 } : Room) s m ([.ref (ad 0), .int (zI (z))] : List Value).toArray below meth c (MQ below (zPost D A (rV0 N ad fun g' => okRec cs ad g' N t fp im nz kz sl ho ua st op ai fa mu tb tp ∧ oX g g')) ([.ref (ad 0), .int (zI (z))] : List Value).toArray s ({ frames := 7, cells := 0, slots := 0, locals := 420 } : Room).cells ({ frames := 7, cells := 0, slots := 0, locals := 420 } : Room).slots A) D A 3 (N) ad g1 (0) (0) 46 [(2, .int (zI (k))), (0, .ref (ad 0)), (1, .int (zI (z)))] [] := by
          intro n9
          induction n9 using Nat.strongRecOn with
          | ind n9 ih_lp46 =>
            intro k g1 hm9 f1 f2 hv46_0
            obtain ⟨ary89, bry89, cry89, dry89, ery89, fry89, gry891, hry89, ⟨acry89, iry89⟩, ⟨kcry89, jry89⟩, kry89, lry89, mry89, nry89, ory89, pry89⟩ := id f1
            have hay90 : zAt ad (0) (ad 0) := rfl
            have hay91 : zAt ad (1) (ad 1) := rfl
            have hay92 : zAt ad (2) (ad 2) := rfl
            have hay93 : zAt ad (4) (ad 4) := rfl
            have hay94 : zAt ad (11) (ad 11) := rfl
            have hay95 : zAt ad (447) (ad 447) := rfl
            have hay96 : zAt ad (883) (ad 883) := rfl
            have hay97 : zAt ad (890) (ad 890) := rfl
            have hay98 : zAt ad (900) (ad 900) := rfl
            have hay99 : zAt ad (910) (ad 910) := rfl
            have hay100 : zAt ad (917) (ad 917) := rfl
            have hay101 : zAt ad (919) (ad 919) := rfl
            have hay102 : zAt ad (4 + 1) (ad (4 + 1)) := rfl
            have hay103 : zAt ad (4 + 2) (ad (4 + 2)) := rfl
            have hay104 : zAt ad (4 + 3) (ad (4 + 3)) := rfl
            have hay105 : zAt ad (4 + 4) (ad (4 + 4)) := rfl
            have hay106 : zAt ad (4 + 5) (ad (4 + 5)) := rfl
            have hay107 : zAt ad (4 + 6) (ad (4 + 6)) := rfl
            obtain ⟨thcy108, zhcy108, ohcy108, rhcy108, hzhcy108, hthcy108, hwhcy108⟩ := id lry89
            obtain ⟨thcy109, zhcy109, ohcy109, rhcy109, hzhcy109, hthcy109, hwhcy109⟩ := id mry89
            obtain ⟨asy110, bsy110, csy110, dsy110, esy110, ⟨ptsy110, fsy110, gsy1101⟩, hsy110, ⟨nusy110, nvsy110, nwsy110, isy110, jsy110, ksy110, lsy110, msy110, nsy110⟩, rfsy110, osy110⟩ := id iry89
            have hay111 : zAt ad (11 + 1) (ad (11 + 1)) := rfl
            have hay112 : zAt ad (11 + 11) (ad (11 + 11)) := rfl
            have hay113 : zAt ad (11 + 12) (ad (11 + 12)) := rfl
            have hay114 : zAt ad (11 + 13) (ad (11 + 13)) := rfl
            have hay115 : zAt ad (11 + 13 + 1) (ad (11 + 13 + 1)) := rfl
            have hay116 : zAt ad (11 + 13 + 2) (ad (11 + 13 + 2)) := rfl
            have hay117 : zAt ad (11 + 13 + 3) (ad (11 + 13 + 3)) := rfl
            have hay118 : zAt ad (11 + 17) (ad (11 + 17)) := rfl
            obtain ⟨uy119t, uy119z, uy119o, uy119r, uy119z4, uy119t5, uy1191, ⟨uy119u, uy1192, uy1193⟩, uy1194⟩ := id csy110
            have hay120 : zAt ad (11 + 1) (ad (11 + 1)) := rfl
            have hay121 : zAt ad (11 + 1 + 1) (ad (11 + 1 + 1)) := rfl
            obtain ⟨sloy122, hooy122, uaoy122, stoy122, opoy122, aioy122, faoy122, muoy122, tboy122, hsloy122, hhooy122, hpoy122⟩ := id kry89
            have hay123 : zAt ad (883 + 1) (ad (883 + 1)) := rfl
            have hay124 : zAt ad (883 + 2) (ad (883 + 2)) := rfl
            have hay125 : zAt ad (883 + 3) (ad (883 + 3)) := rfl
            have hay126 : zAt ad (883 + 4) (ad (883 + 4)) := rfl
            have hay127 : zAt ad (883 + 5) (ad (883 + 5)) := rfl
            have hay128 : zAt ad (883 + 6) (ad (883 + 6)) := rfl
            obtain ⟨mnqy129, fiqy129, uqy129, qqy129, h1qy129, h2qy129, h3qy129, h4qy129⟩ := id nry89
            have hay130 : zAt ad (910 + 1) (ad (910 + 1)) := rfl
            refine z_iload_n C 0 dX9_lookFrom_46 rfl ?_
            refine z_aload_n C 1 dX9_lookFrom_47 rfl ?_
            refine z_get (v := .ref (ad 4)) C (lt_K hN (rfl : Nat.blt (0) 952 = true)) hay90 ary89 rfl inA_X9 4 (by decide) q_353 rfl rfl dX9_lookFrom_48 ?_
            refine z_get (v := .int (zI (sl))) C (lt_K hN (rfl : Nat.blt (4) 952 = true)) hay93 fry89.1 rfl inA_X5 0 (by decide) q_90 rfl rfl dX9_lookFrom_51 ?_
            refine z_icmp_ge (tgt := 85) C dX9_lookFrom_54 (by decide) (by omega) (by omega) (fun hby131 => ?_) (fun hby131 => ?_)
            · have hrecy132 : okRec cs ad g1 N (t) (fp) (im) (nz) (kz) (sl) (ho) (ua) (st) (op) (ai) (fa) (mu) (tb) (tp) := ⟨ary89, bry89, cry89, dry89, ery89, fry89, gry891, hry89, ⟨_, iry89⟩, ⟨_, jry89⟩, kry89, lry89, mry89, nry89, ory89, pry89⟩
              exact z_vret C hr hlk dX9_lookFrom_85 (by decide) (by decide) ⟨rfl, rfl, rfl, hrecy132, fun j j1 j2 => by exact f2 j j1 j2⟩
            · refine z_aload_n C 1 dX9_lookFrom_57 rfl ?_
              refine z_get (v := .ref (ad 910)) C (lt_K hN (rfl : Nat.blt (0) 952 = true)) hay90 ary89 rfl inA_X9 11 (by decide) q_360 rfl rfl dX9_lookFrom_58 ?_
              refine z_iload_n C 0 dX9_lookFrom_61 rfl ?_
              refine z_aload_n C 1 dX9_lookFrom_62 rfl ?_
              refine z_get (v := .ref (ad 890)) C (lt_K hN (rfl : Nat.blt (0) 952 = true)) hay90 ary89 rfl inA_X9 9 (by decide) q_358 rfl rfl dX9_lookFrom_63 ?_
              refine z_get (v := .ref (ad (890 + 1))) C (lt_K hN (rfl : Nat.blt (890) 952 = true)) hay97 hwhcy108.1 rfl inA_X8 6 (by decide) q_191 rfl rfl dX9_lookFrom_66 ?_
              refine z_iload_n C 0 dX9_lookFrom_69 rfl ?_
              obtain ⟨uy133t, uy133z, uy133o, uy133r, uy133z4, uy133t5, uy1331, ⟨uy133u, uy1332, uy1333⟩, uy1334⟩ := id lry89
              have hay134 : zAt ad (890) (ad 890) := rfl
              have hay135 : zAt ad (890 + 1) (ad (890 + 1)) := rfl
              refine z_aald C (lt_K hN (rfl : Nat.blt (890 + 1) 952 = true)) hay135 uy1332 3 rfl ((k).toNat) (by omega) (by omega) (by decide) (uy1333 (k).toNat (by omega)) dX9_lookFrom_70 ?_
              have hay136 : zAt ad (890 + 2 + 2 * (k).toNat) (ad (890 + 2 + 2 * (k).toNat)) := rfl
              have hay137 : zAt ad (890 + 2 + 2 * (k).toNat + 1) (ad (890 + 2 + 2 * (k).toNat + 1)) := rfl
              have hpy138 := uy1334 (k).toNat (by omega)
              have hqy139 := uy133z4 (k).toNat (by omega)
              refine z_bipush (z := 36) C dX9_lookFrom_71 (by decide) ?_
              refine z_cV (As := [.int (zI (36))]) (rest := [.int (zI (k)), .ref (ad 910)]) (ci := 5) C (c_X3_sum l D A cs tt N ad _ (890 + 2 + 2 * (k).toNat) (by omega) _ _ _ (by omega) ⟨hpy138.1, hpy138.2⟩  (36) (by omega)) (by omega) hay136 hpy138.1 rfl rfl mv_yX3_sum q_945 hd_yX3_sum (by decide) (Nat.le_of_ble_eq_true rfl) (by decide) dX9_lookFrom_73 rfl (kI0 fun vy140 gvy140 hvy140 => ?_)
              obtain ⟨hvy140, rfl⟩ := hvy140
              refine z_cV (As := [.int (zI (k)), .int (zI (vy140))]) (rest := []) (ci := 2) C (c_X0_see l D A cs tt N ad _ 910 (by omega) nry89 (k) (by omega) (vy140) (by omega)) (lt_K hN (rfl : Nat.blt (910) 952 = true)) hay99 h2qy129 rfl rfl mv_yX0_see q_1397 hd_yX0_see (by decide) (Nat.le_of_ble_eq_true rfl) (by decide) dX9_lookFrom_76 rfl (kV0 fun gvy141 hvy141 => ?_)
              obtain ⟨hkvy141, hfvy141⟩ := hvy141
              obtain ⟨mnqy142, fiqy142, uqy142, qqy142, h1qy142, h2qy142, h3qy142, h4qy142⟩ := id hkvy141
              refine z_iinc (z := k + 1) (lv' := [(2, .int (zI (k + 1))), (0, .ref (ad 0)), (1, .int (zI (z)))]) (j := 0) C dX9_lookFrom_79 rfl rfl (by decide) rfl ?_
              refine z_goto (tgt := 46) C dX9_lookFrom_82 (by decide) ?_
              have hgy143 := (hfvy141 (0) (by omega)).trans ary89
              have hgy144 := (hfvy141 (1) (by omega)).trans dry89
              have hpy145 := okState.mv (ad' := ad) (g' := gvy141) (fun j h1 h2 => by rfl) (fun j h1 h2 => by rw [hfvy141 _ (by omega)]) iry89
              have hpy146 := okRdr.mv (ad' := ad) (g' := gvy141) (fun j h1 h2 => by rfl) (fun j h1 h2 => by rw [hfvy141 _ (by omega)]) ery89
              have hpy147 := isPlan.mv (ad' := ad) (g' := gvy141) (fun j h1 h2 => by rfl) (fun j h1 h2 => by rw [hfvy141 _ (by omega)]) fry89
              have hpy148 := okState.mv (ad' := ad) (g' := gvy141) (fun j h1 h2 => by rfl) (fun j h1 h2 => by rw [hfvy141 _ (by omega)]) jry89
              have hpy149 := okPlan.mv (ad' := ad) (g' := gvy141) (fun j h1 h2 => by rfl) (fun j h1 h2 => by rw [hfvy141 _ (by omega)]) kry89
              have hpy150 := okLike.mv (ad' := ad) (g' := gvy141) (fun j h1 h2 => by rfl) (fun j h1 h2 => by rw [hfvy141 _ (by omega)]) ory89
              have hpy151 := okBld.mv (ad' := ad) (g' := gvy141) (fun j h1 h2 => by rfl) (fun j h1 h2 => by rw [hfvy141 _ (by omega)]) pry89
              have hoky152 : okWorld cs ad gvy141 (890) := okWorld.mv (fun j j1 j2 => by rw [hfvy141 _ (by omega)]) lry89
              have hoky153 : okWorld cs ad gvy141 (900) := okWorld.mv (fun j j1 j2 => by rw [hfvy141 _ (by omega)]) mry89
              have hrecy154 : okRec cs ad gvy141 N (t) (fp) (im) (nz) (kz) (sl) (ho) (ua) (st) (op) (ai) (fa) (mu) (tb) (tp) := ⟨hgy143, bry89, cry89, hgy144, hpy146, hpy147, gry891, hry89, ⟨_, hpy145⟩, ⟨_, hpy148⟩, hpy149, hoky152, hoky153, hkvy141, hpy150, hpy151⟩
              refine z_lv (lv' := [(2, .int (zI (k + 1))), (0, .ref (ad 0)), (1, .int (zI (z)))]) [0, 1, 2] rfl ?_
              exact ih_lp46 _ (by omega) (k + 1) gvy141 rfl hrecy154 (fun j j1 j2 => by rw [hfvy141 _ (by omega)]; exact f2 j j1 j2) (by omega)
        have hrecy155 : okRec cs ad g1 N (t) (fp) (im) (nz) (kz) (sl) (ho) (ua) (st) (op) (ai) (fa) (mu) (tb) (tp) := ⟨ary46, bry46, cry46, dry46, ery46, fry46, gry461, hry46, ⟨_, iry46⟩, ⟨_, jry46⟩, kry46, lry46, mry46, nry46, ory46, pry46⟩
        refine z_lv (lv' := [(2, .int (zI (0))), (0, .ref (ad 0)), (1, .int (zI (z)))]) [0, 1, 2] rfl ?_
        exact lp46 _ (0) g1 rfl hrecy155 (fun j j1 j2 => by exact f2 j j1 j2) (by omega)
      · refine z_aload_n C 1 dX9_lookFrom_19 rfl ?_
        refine z_get (v := .ref (ad 890)) C (lt_K hN (rfl : Nat.blt (0) 952 = true)) hay47 ary46 rfl inA_X9 9 (by decide) q_358 rfl rfl dX9_lookFrom_20 ?_
        refine z_aload_n C 1 dX9_lookFrom_23 rfl ?_
        refine z_get (v := .ref (ad 883)) C (lt_K hN (rfl : Nat.blt (0) 952 = true)) hay47 ary46 rfl inA_X9 8 (by decide) q_357 rfl rfl dX9_lookFrom_24 ?_
        refine z_aload_n C 1 dX9_lookFrom_27 rfl ?_
        refine z_get (v := .ref (ad 4)) C (lt_K hN (rfl : Nat.blt (0) 952 = true)) hay47 ary46 rfl inA_X9 4 (by decide) q_353 rfl rfl dX9_lookFrom_28 ?_
        refine z_cV (As := []) (rest := [.ref (ad 883), .ref (ad 890)]) (ci := 7) C (c_X5_allSlopes l D A cs tt N ad _ (4) (by omega) _ _ _ _ _ _ _ _ _ ⟨fry46.1, fry46.2.1, fry46.2.2.1, fry46.2.2.2.1, fry46.2.2.2.2.1, fry46.2.2.2.2.2.1, fry46.2.2.2.2.2.2⟩) (lt_K hN (rfl : Nat.blt (4) 952 = true)) hay50 fry46.1 rfl rfl mv_yX5_allSlopes q_431 hd_yX5_allSlopes (by decide) (Nat.le_of_ble_eq_true rfl) (by decide) dX9_lookFrom_31 rfl (kI0 fun vy156 gvy156 hvy156 => ?_)
        obtain ⟨hvy156, rfl⟩ := hvy156
        refine z_iconst (z := 1) C dX9_lookFrom_34 rfl ?_
        refine z_cV (As := [.ref (ad 883), .int (zI (vy156)), .int (zI (1))]) (rest := []) (ci := 10) C (c_X8_hour l D A cs tt N ad _ (890) (by omega) lry46 (883) (by omega) _ _ _ _ _ _ _ _ _ ⟨hpoy79.1, hpoy79.2.1, hpoy79.2.2.1, hpoy79.2.2.2.1, hpoy79.2.2.2.2.1, hpoy79.2.2.2.2.2.1, hpoy79.2.2.2.2.2.2⟩ (by omega) (by omega) (by omega) (vy156) (by omega) (1) (by omega)) (lt_K hN (rfl : Nat.blt (890) 952 = true)) hay54 hwhcy65.1 rfl rfl mv_yX8_hour q_435 hd_yX8_hour (by decide) (Nat.le_of_ble_eq_true rfl) (by decide) dX9_lookFrom_35 rfl (kV0 fun gvy157 hvy157 => ?_)
        obtain ⟨hkvy157, hfvy157⟩ := hvy157
        have hoky158 : okWorld cs ad gvy157 (890) := hkvy157
        obtain ⟨thcy159, zhcy159, ohcy159, rhcy159, hzhcy159, hthcy159, hwhcy159⟩ := id hoky158
        refine z_iinc (z := i + 1) (lv' := [(2, .int (zI (i + 1))), (0, .ref (ad 0)), (1, .int (zI (z)))]) (j := 0) C dX9_lookFrom_38 rfl rfl (by decide) rfl ?_
        refine z_goto (tgt := 13) C dX9_lookFrom_41 (by decide) ?_
        have hgy160 := (hfvy157 (0) (by omega)).trans ary46
        have hgy161 := (hfvy157 (1) (by omega)).trans dry46
        have hpy162 := okState.mv (ad' := ad) (g' := gvy157) (fun j h1 h2 => by rfl) (fun j h1 h2 => by rw [hfvy157 _ (by omega)]) iry46
        have hpy163 := okRdr.mv (ad' := ad) (g' := gvy157) (fun j h1 h2 => by rfl) (fun j h1 h2 => by rw [hfvy157 _ (by omega)]) ery46
        have hpy164 := isPlan.mv (ad' := ad) (g' := gvy157) (fun j h1 h2 => by rfl) (fun j h1 h2 => by rw [hfvy157 _ (by omega)]) fry46
        have hpy165 := okState.mv (ad' := ad) (g' := gvy157) (fun j h1 h2 => by rfl) (fun j h1 h2 => by rw [hfvy157 _ (by omega)]) jry46
        have hpy166 := okPlan.mv (ad' := ad) (g' := gvy157) (fun j h1 h2 => by rfl) (fun j h1 h2 => by rw [hfvy157 _ (by omega)]) kry46
        have hpy167 := okGss.mv (ad' := ad) (g' := gvy157) (fun j h1 h2 => by rfl) (fun j h1 h2 => by rw [hfvy157 _ (by omega)]) nry46
        have hpy168 := okLike.mv (ad' := ad) (g' := gvy157) (fun j h1 h2 => by rfl) (fun j h1 h2 => by rw [hfvy157 _ (by omega)]) ory46
        have hpy169 := okBld.mv (ad' := ad) (g' := gvy157) (fun j h1 h2 => by rfl) (fun j h1 h2 => by rw [hfvy157 _ (by omega)]) pry46
        have hoky170 : okWorld cs ad gvy157 (900) := okWorld.mv (fun j j1 j2 => by rw [hfvy157 _ (by omega)]) mry46
        have hrecy171 : okRec cs ad gvy157 N (t) (fp) (im) (nz) (kz) (sl) (ho) (ua) (st) (op) (ai) (fa) (mu) (tb) (tp) := ⟨hgy160, bry46, cry46, hgy161, hpy163, hpy164, gry461, hry46, ⟨_, hpy162⟩, ⟨_, hpy165⟩, hpy166, hoky158, hoky170, hpy167, hpy168, hpy169⟩
        refine z_lv (lv' := [(2, .int (zI (i + 1))), (0, .ref (ad 0)), (1, .int (zI (z)))]) [0, 1, 2] rfl ?_
        exact ih_lp13 _ (by omega) (i + 1) gvy157 rfl hrecy171 (fun j j1 j2 => by rw [hfvy157 _ (by omega)]; exact f2 j j1 j2) (by omega)
  have hgy172 := (hfvy43 (0) (by omega)).trans ary1
  have hgy173 := (hfvy43 (1) (by omega)).trans dry1
  have hpy174 := okState.mv (ad' := ad) (g' := gvy43) (fun j h1 h2 => by rfl) (fun j h1 h2 => by rw [hfvy43 _ (by omega)]) iry1
  have hpy175 := okRdr.mv (ad' := ad) (g' := gvy43) (fun j h1 h2 => by rfl) (fun j h1 h2 => by rw [hfvy43 _ (by omega)]) ery1
  have hpy176 := isPlan.mv (ad' := ad) (g' := gvy43) (fun j h1 h2 => by rfl) (fun j h1 h2 => by rw [hfvy43 _ (by omega)]) fry1
  have hpy177 := okState.mv (ad' := ad) (g' := gvy43) (fun j h1 h2 => by rfl) (fun j h1 h2 => by rw [hfvy43 _ (by omega)]) jry1
  have hpy178 := okPlan.mv (ad' := ad) (g' := gvy43) (fun j h1 h2 => by rfl) (fun j h1 h2 => by rw [hfvy43 _ (by omega)]) kry1
  have hpy179 := okGss.mv (ad' := ad) (g' := gvy43) (fun j h1 h2 => by rfl) (fun j h1 h2 => by rw [hfvy43 _ (by omega)]) nry1
  have hpy180 := okLike.mv (ad' := ad) (g' := gvy43) (fun j h1 h2 => by rfl) (fun j h1 h2 => by rw [hfvy43 _ (by omega)]) ory1
  have hpy181 := okBld.mv (ad' := ad) (g' := gvy43) (fun j h1 h2 => by rfl) (fun j h1 h2 => by rw [hfvy43 _ (by omega)]) pry1
  have hoky182 : okWorld cs ad gvy43 (900) := okWorld.mv (fun j j1 j2 => by rw [hfvy43 _ (by omega)]) mry1
  have hrecy183 : okRec cs ad gvy43 N (t) (fp) (im) (nz) (kz) (sl) (ho) (ua) (st) (op) (ai) (fa) (mu) (tb) (tp) := ⟨hgy172, bry1, cry1, hgy173, hpy175, hpy176, gry11, hry1, ⟨_, hpy174⟩, ⟨_, hpy177⟩, hpy178, hoky44, hoky182, hpy179, hpy180, hpy181⟩
  refine z_lv (lv' := [(2, .int (zI (z))), (0, .ref (ad 0)), (1, .int (zI (z)))]) [0, 1, 2] rfl ?_
  exact lp13 _ (z) gvy43 rfl hrecy183 (fun j j1 j2 => by rw [hfvy43 _ (by omega)]) (by omega)

set_option maxRecDepth 100000 in
set_option maxHeartbeats 4000000 in
theorem c_X9_guessMuch (l : Launch) (D : va_G) (A : Nat → Prop) (cs : Nat → ClassId) (tt : Nat) (N : Nat) (ad : Nat → Nat) (g : Nat → va_E) (hN : 952 ≤ N) (t fp im nz kz sl ho ua : Int) (st op ai fa mu tb tp : Nat → Int) (hR : okRec cs ad g N t fp im nz kz sl ho ua st op ai fa mu tb tp) (z : Int) (hz : 0 ≤ z ∧ z ≤ 23) (z1 : Int) (hz1 : 0 ≤ z1 ∧ z1 ≤ 24) (z2 : Int) (hz2 : 0 ≤ z2 ∧ z2 ≤ 1) : zM l yX9_guessMuch cX9_guessMuch 7 none ({ frames := 9, cells := 0, slots := 0, locals := 540 } : Room) D A cs tt N ad g [.ref (ad 0), .int (zI (z)), .int (zI (z1)), .int (zI (z2))] (rV0 N ad fun g' => okRec cs ad g' N t fp im nz kz sl ho ua st op ai fa mu tb tp ∧ oX g g') := by
  obtain ⟨ary1, bry1, cry1, dry1, ery1, fry1, gry11, hry1, ⟨acry1, iry1⟩, ⟨kcry1, jry1⟩, kry1, lry1, mry1, nry1, ory1, pry1⟩ := id hR
  have hay2 : zAt ad (0) (ad 0) := rfl
  have hay3 : zAt ad (1) (ad 1) := rfl
  have hay4 : zAt ad (2) (ad 2) := rfl
  have hay5 : zAt ad (4) (ad 4) := rfl
  have hay6 : zAt ad (11) (ad 11) := rfl
  have hay7 : zAt ad (447) (ad 447) := rfl
  have hay8 : zAt ad (883) (ad 883) := rfl
  have hay9 : zAt ad (890) (ad 890) := rfl
  have hay10 : zAt ad (900) (ad 900) := rfl
  have hay11 : zAt ad (910) (ad 910) := rfl
  have hay12 : zAt ad (917) (ad 917) := rfl
  have hay13 : zAt ad (919) (ad 919) := rfl
  have hay14 : zAt ad (4 + 1) (ad (4 + 1)) := rfl
  have hay15 : zAt ad (4 + 2) (ad (4 + 2)) := rfl
  have hay16 : zAt ad (4 + 3) (ad (4 + 3)) := rfl
  have hay17 : zAt ad (4 + 4) (ad (4 + 4)) := rfl
  have hay18 : zAt ad (4 + 5) (ad (4 + 5)) := rfl
  have hay19 : zAt ad (4 + 6) (ad (4 + 6)) := rfl
  obtain ⟨thcy20, zhcy20, ohcy20, rhcy20, hzhcy20, hthcy20, hwhcy20⟩ := id lry1
  obtain ⟨thcy21, zhcy21, ohcy21, rhcy21, hzhcy21, hthcy21, hwhcy21⟩ := id mry1
  obtain ⟨asy22, bsy22, csy22, dsy22, esy22, ⟨ptsy22, fsy22, gsy221⟩, hsy22, ⟨nusy22, nvsy22, nwsy22, isy22, jsy22, ksy22, lsy22, msy22, nsy22⟩, rfsy22, osy22⟩ := id iry1
  have hay23 : zAt ad (11 + 1) (ad (11 + 1)) := rfl
  have hay24 : zAt ad (11 + 11) (ad (11 + 11)) := rfl
  have hay25 : zAt ad (11 + 12) (ad (11 + 12)) := rfl
  have hay26 : zAt ad (11 + 13) (ad (11 + 13)) := rfl
  have hay27 : zAt ad (11 + 13 + 1) (ad (11 + 13 + 1)) := rfl
  have hay28 : zAt ad (11 + 13 + 2) (ad (11 + 13 + 2)) := rfl
  have hay29 : zAt ad (11 + 13 + 3) (ad (11 + 13 + 3)) := rfl
  have hay30 : zAt ad (11 + 17) (ad (11 + 17)) := rfl
  obtain ⟨uy31t, uy31z, uy31o, uy31r, uy31z4, uy31t5, uy311, ⟨uy31u, uy312, uy313⟩, uy314⟩ := id csy22
  have hay32 : zAt ad (11 + 1) (ad (11 + 1)) := rfl
  have hay33 : zAt ad (11 + 1 + 1) (ad (11 + 1 + 1)) := rfl
  obtain ⟨sloy34, hooy34, uaoy34, stoy34, opoy34, aioy34, faoy34, muoy34, tboy34, hsloy34, hhooy34, hpoy34⟩ := id kry1
  have hay35 : zAt ad (883 + 1) (ad (883 + 1)) := rfl
  have hay36 : zAt ad (883 + 2) (ad (883 + 2)) := rfl
  have hay37 : zAt ad (883 + 3) (ad (883 + 3)) := rfl
  have hay38 : zAt ad (883 + 4) (ad (883 + 4)) := rfl
  have hay39 : zAt ad (883 + 5) (ad (883 + 5)) := rfl
  have hay40 : zAt ad (883 + 6) (ad (883 + 6)) := rfl
  obtain ⟨mnqy41, fiqy41, uqy41, qqy41, h1qy41, h2qy41, h3qy41, h4qy41⟩ := id nry1
  have hay42 : zAt ad (910 + 1) (ad (910 + 1)) := rfl
  refine z_of (by decide) (Nat.le_of_ble_eq_true rfl) ?_
  intro p e s m below meth c C hr hlk hnm
  refine z_lv (lv' := [(0, .ref (ad 0)), (1, .int (zI (z))), (2, .int (zI (z1))), (3, .int (zI (z2)))]) [0, 1, 2, 3] rfl ?_
  refine z_aload_n C 0 dX9_guessMuch_0 rfl ?_
  refine z_get (v := .ref (ad 11)) C (lt_K hN (rfl : Nat.blt (0) 952 = true)) hay2 ary1 rfl inA_X9 5 (by decide) q_354 rfl rfl dX9_guessMuch_1 ?_
  refine z_get (v := .ref (ad (11 + 13))) C (lt_K hN (rfl : Nat.blt (11) 952 = true)) hay6 iry1.1 rfl inA_X6 4 (by decide) q_265 rfl rfl dX9_guessMuch_4 ?_
  refine z_cV (As := []) (rest := []) (ci := 4) C (c_X2_slopes l D A cs tt N ad _ (11 + 13) (by omega) _ ⟨nusy22, nvsy22, nwsy22, isy22, jsy22, ksy22, lsy22, msy22, nsy22⟩) (lt_K hN (rfl : Nat.blt (11 + 13) 952 = true)) hay26 ksy22 rfl rfl mv_yX2_slopes q_1385 hd_yX2_slopes (by decide) (Nat.le_of_ble_eq_true rfl) (by decide) dX9_guessMuch_7 rfl (kI0 fun vy43 gvy43 hvy43 => ?_)
  obtain ⟨hvy43, rfl⟩ := hvy43
  refine z_istore (lv' := [(4, .int (zI (vy43))), (0, .ref (ad 0)), (1, .int (zI (z))), (2, .int (zI (z1))), (3, .int (zI (z2)))]) C dX9_guessMuch_10 (by decide) rfl ?_
  refine z_aload_n C 1 dX9_guessMuch_12 rfl ?_
  refine z_get (v := .ref (ad 11)) C (lt_K hN (rfl : Nat.blt (0) 952 = true)) hay2 ary1 rfl inA_X9 5 (by decide) q_354 rfl rfl dX9_guessMuch_13 ?_
  refine z_get (v := .ref (ad (11 + 13))) C (lt_K hN (rfl : Nat.blt (11) 952 = true)) hay6 iry1.1 rfl inA_X6 4 (by decide) q_265 rfl rfl dX9_guessMuch_16 ?_
  refine z_cV (As := []) (rest := []) (ci := 4) C (c_X2_lastHour l D A cs tt N ad _ (11 + 13) (by omega) _ ⟨nusy22, nvsy22, nwsy22, isy22, jsy22, ksy22, lsy22, msy22, nsy22⟩) (lt_K hN (rfl : Nat.blt (11 + 13) 952 = true)) hay26 ksy22 rfl rfl mv_yX2_lastHour q_1363 hd_yX2_lastHour (by decide) (Nat.le_of_ble_eq_true rfl) (by decide) dX9_guessMuch_19 rfl (kI0 fun vy44 gvy44 hvy44 => ?_)
  obtain ⟨hvy44, rfl⟩ := hvy44
  refine z_istore (lv' := [(5, .int (zI (vy44))), (4, .int (zI (vy43))), (0, .ref (ad 0)), (1, .int (zI (z))), (2, .int (zI (z1))), (3, .int (zI (z2)))]) C dX9_guessMuch_22 (by decide) rfl ?_
  refine z_iconst (z := 1) C dX9_guessMuch_24 rfl ?_
  refine z_istore (lv' := [(6, .int (zI (1))), (5, .int (zI (vy44))), (4, .int (zI (vy43))), (0, .ref (ad 0)), (1, .int (zI (z))), (2, .int (zI (z1))), (3, .int (zI (z2)))]) C dX9_guessMuch_25 (by decide) rfl ?_
  have lp27 : ∀ (n9 : Nat) (i : Int) (sp : Int) (la : Int) (g1 : Nat → va_E), (51 - i).toNat = n9 → (okRec cs ad g1 N t fp im nz kz sl ho ua st op ai fa mu tb tp) → (oX g g1) → (1 ≤ i ∧ i ≤ 51) → (-2147483648 ≤ sp ∧ sp ≤ 2147483647) → (-1 ≤ la ∧ la ≤ 48) → zV p l e ({ frames := 9, cells := 0, slots := 0, locals := 540 } : Room) s m ([.ref (ad 0), .int (zI (z)), .int (zI (z1)), .int (zI (z2))] : List Value).toArray below meth c (MQ below (zPost D A (rV0 N ad fun g' => okRec cs ad g' N t fp im nz kz sl ho ua st op ai fa mu tb tp ∧ oX g g')) ([.ref (ad 0), .int (zI (z)), .int (zI (z1)), .int (zI (z2))] : List Value).toArray s ({ frames := 9, cells := 0, slots := 0, locals := 540 } : Room).cells ({ frames := 9, cells := 0, slots := 0, locals := 540 } : Room).slots A) D A 7 (N) ad g1 (0) (0) 27 [(6, .int (zI (i))), (4, .int (zI (sp))), (5, .int (zI (la))), (0, .ref (ad 0)), (1, .int (zI (z))), (2, .int (zI (z1))), (3, .int (zI (z2)))] [] := by
    intro n9
    induction n9 using Nat.strongRecOn with
    | ind n9 ih_lp27 =>
      intro i sp la g1 hm9 f1 f2 hv27_0 hv27_1 hv27_2
      obtain ⟨ary45, bry45, cry45, dry45, ery45, fry45, gry451, hry45, ⟨acry45, iry45⟩, ⟨kcry45, jry45⟩, kry45, lry45, mry45, nry45, ory45, pry45⟩ := id f1
      have hay46 : zAt ad (0) (ad 0) := rfl
      have hay47 : zAt ad (1) (ad 1) := rfl
      have hay48 : zAt ad (2) (ad 2) := rfl
      have hay49 : zAt ad (4) (ad 4) := rfl
      have hay50 : zAt ad (11) (ad 11) := rfl
      have hay51 : zAt ad (447) (ad 447) := rfl
      have hay52 : zAt ad (883) (ad 883) := rfl
      have hay53 : zAt ad (890) (ad 890) := rfl
      have hay54 : zAt ad (900) (ad 900) := rfl
      have hay55 : zAt ad (910) (ad 910) := rfl
      have hay56 : zAt ad (917) (ad 917) := rfl
      have hay57 : zAt ad (919) (ad 919) := rfl
      have hay58 : zAt ad (4 + 1) (ad (4 + 1)) := rfl
      have hay59 : zAt ad (4 + 2) (ad (4 + 2)) := rfl
      have hay60 : zAt ad (4 + 3) (ad (4 + 3)) := rfl
      have hay61 : zAt ad (4 + 4) (ad (4 + 4)) := rfl
      have hay62 : zAt ad (4 + 5) (ad (4 + 5)) := rfl
      have hay63 : zAt ad (4 + 6) (ad (4 + 6)) := rfl
      obtain ⟨thcy64, zhcy64, ohcy64, rhcy64, hzhcy64, hthcy64, hwhcy64⟩ := id lry45
      obtain ⟨thcy65, zhcy65, ohcy65, rhcy65, hzhcy65, hthcy65, hwhcy65⟩ := id mry45
      obtain ⟨asy66, bsy66, csy66, dsy66, esy66, ⟨ptsy66, fsy66, gsy661⟩, hsy66, ⟨nusy66, nvsy66, nwsy66, isy66, jsy66, ksy66, lsy66, msy66, nsy66⟩, rfsy66, osy66⟩ := id iry45
      have hay67 : zAt ad (11 + 1) (ad (11 + 1)) := rfl
      have hay68 : zAt ad (11 + 11) (ad (11 + 11)) := rfl
      have hay69 : zAt ad (11 + 12) (ad (11 + 12)) := rfl
      have hay70 : zAt ad (11 + 13) (ad (11 + 13)) := rfl
      have hay71 : zAt ad (11 + 13 + 1) (ad (11 + 13 + 1)) := rfl
      have hay72 : zAt ad (11 + 13 + 2) (ad (11 + 13 + 2)) := rfl
      have hay73 : zAt ad (11 + 13 + 3) (ad (11 + 13 + 3)) := rfl
      have hay74 : zAt ad (11 + 17) (ad (11 + 17)) := rfl
      obtain ⟨uy75t, uy75z, uy75o, uy75r, uy75z4, uy75t5, uy751, ⟨uy75u, uy752, uy753⟩, uy754⟩ := id csy66
      have hay76 : zAt ad (11 + 1) (ad (11 + 1)) := rfl
      have hay77 : zAt ad (11 + 1 + 1) (ad (11 + 1 + 1)) := rfl
      obtain ⟨sloy78, hooy78, uaoy78, stoy78, opoy78, aioy78, faoy78, muoy78, tboy78, hsloy78, hhooy78, hpoy78⟩ := id kry45
      have hay79 : zAt ad (883 + 1) (ad (883 + 1)) := rfl
      have hay80 : zAt ad (883 + 2) (ad (883 + 2)) := rfl
      have hay81 : zAt ad (883 + 3) (ad (883 + 3)) := rfl
      have hay82 : zAt ad (883 + 4) (ad (883 + 4)) := rfl
      have hay83 : zAt ad (883 + 5) (ad (883 + 5)) := rfl
      have hay84 : zAt ad (883 + 6) (ad (883 + 6)) := rfl
      obtain ⟨mnqy85, fiqy85, uqy85, qqy85, h1qy85, h2qy85, h3qy85, h4qy85⟩ := id nry45
      have hay86 : zAt ad (910 + 1) (ad (910 + 1)) := rfl
      refine z_iload C 0 dX9_guessMuch_27 rfl ?_
      refine z_bipush (z := 50) C dX9_guessMuch_29 (by decide) ?_
      refine z_icmp_gt (tgt := 119) C dX9_guessMuch_31 (by decide) (by omega) (by omega) (fun hby87 => ?_) (fun hby87 => ?_)
      · refine z_aload_n C 3 dX9_guessMuch_119 rfl ?_
        refine z_get (v := .ref (ad 883)) C (lt_K hN (rfl : Nat.blt (0) 952 = true)) hay46 ary45 rfl inA_X9 8 (by decide) q_357 rfl rfl dX9_guessMuch_120 ?_
        refine z_get (v := .ref (ad (883 + 5))) C (lt_K hN (rfl : Nat.blt (883) 952 = true)) hay52 hpoy78.1 rfl inA_X5 7 (by decide) q_111 rfl rfl dX9_guessMuch_123 ?_
        refine z_iload_n C 4 dX9_guessMuch_126 rfl ?_
        refine z_aload_n C 3 dX9_guessMuch_127 rfl ?_
        refine z_get (v := .ref (ad 4)) C (lt_K hN (rfl : Nat.blt (0) 952 = true)) hay46 ary45 rfl inA_X9 4 (by decide) q_353 rfl rfl dX9_guessMuch_128 ?_
        refine z_get (v := .ref (ad (4 + 5))) C (lt_K hN (rfl : Nat.blt (4) 952 = true)) hay49 fry45.1 rfl inA_X5 7 (by decide) q_111 rfl rfl dX9_guessMuch_131 ?_
        refine z_iload_n C 4 dX9_guessMuch_134 rfl ?_
        refine z_iald C (lt_K hN (rfl : Nat.blt (4 + 5) 952 = true)) hay62 fry45.2.2.2.2.2.1 ((z).toNat) (by omega) (by omega) (by decide) dX9_guessMuch_135 ?_
        refine z_iast C (lt_K hN (rfl : Nat.blt (883 + 5) 952 = true)) hay83 hpoy78.2.2.2.2.2.1 ((z).toNat) (by omega) (by omega) (by decide) dX9_guessMuch_136 (fun gy88 egy89 => ?_)
        have hgy90 := up_s egy89
        have hgy91 := up_n egy89 hpoy78.1 (ne_o (i := 883) (c := 0) (d := 5) rfl)
        have hgy92 := up_n egy89 hpoy78.2.1 (ne_o (i := 883) (c := 1) (d := 5) rfl)
        have hgy93 := up_n egy89 hpoy78.2.2.1 (ne_o (i := 883) (c := 2) (d := 5) rfl)
        have hgy94 := up_n egy89 hpoy78.2.2.2.1 (ne_o (i := 883) (c := 3) (d := 5) rfl)
        have hgy95 := up_n egy89 hpoy78.2.2.2.2.1 (ne_o (i := 883) (c := 4) (d := 5) rfl)
        have hgy96 := up_n egy89 hpoy78.2.2.2.2.2.2 (ne_o (i := 883) (c := 6) (d := 5) rfl)
        have hopy97 : okPlan cs ad gy88 883 := ⟨_, _, _, _, _, _, _, _, _, hsloy78, hhooy78, ⟨hgy91, hgy92, hgy93, hgy94, hgy95, hgy90, hgy96⟩⟩
        have hgy98 := up_n egy89 ary45 (by omega)
        have hgy99 := up_n egy89 dry45 (by omega)
        have hpy100 := okState.mv (ad' := ad) (g' := gy88) (fun j h1 h2 => by rfl) (fun j h1 h2 => by rw [egy89, va_up_ne _ _ (by omega)]) iry45
        have hpy101 := okRdr.mv (ad' := ad) (g' := gy88) (fun j h1 h2 => by rfl) (fun j h1 h2 => by rw [egy89, va_up_ne _ _ (by omega)]) ery45
        have hpy102 := isPlan.mv (ad' := ad) (g' := gy88) (fun j h1 h2 => by rfl) (fun j h1 h2 => by rw [egy89, va_up_ne _ _ (by omega)]) fry45
        have hpy103 := okState.mv (ad' := ad) (g' := gy88) (fun j h1 h2 => by rfl) (fun j h1 h2 => by rw [egy89, va_up_ne _ _ (by omega)]) jry45
        have hpy104 := okGss.mv (ad' := ad) (g' := gy88) (fun j h1 h2 => by rfl) (fun j h1 h2 => by rw [egy89, va_up_ne _ _ (by omega)]) nry45
        have hpy105 := okLike.mv (ad' := ad) (g' := gy88) (fun j h1 h2 => by rfl) (fun j h1 h2 => by rw [egy89, va_up_ne _ _ (by omega)]) ory45
        have hpy106 := okBld.mv (ad' := ad) (g' := gy88) (fun j h1 h2 => by rfl) (fun j h1 h2 => by rw [egy89, va_up_ne _ _ (by omega)]) pry45
        have hoky107 : okWorld cs ad gy88 (890) := okWorld.mv (fun j j1 j2 => by rw [egy89, va_up_ne _ _ (by omega)]) lry45
        have hoky108 : okWorld cs ad gy88 (900) := okWorld.mv (fun j j1 j2 => by rw [egy89, va_up_ne _ _ (by omega)]) mry45
        have hrecy109 : okRec cs ad gy88 N (t) (fp) (im) (nz) (kz) (sl) (ho) (ua) (st) (op) (ai) (fa) (mu) (tb) (tp) := ⟨hgy98, bry45, cry45, hgy99, hpy101, hpy102, gry451, hry45, ⟨_, hpy100⟩, ⟨_, hpy103⟩, hopy97, hoky107, hoky108, hpy104, hpy105, hpy106⟩
        exact z_vret C hr hlk dX9_guessMuch_137 (by decide) (by decide) ⟨rfl, rfl, rfl, hrecy109, fun j j1 j2 => by rw [egy89, va_up_ne _ _ (by omega)]; exact f2 j j1 j2⟩
      · refine z_aload_n C 3 dX9_guessMuch_34 rfl ?_
        refine z_get (v := .ref (ad 883)) C (lt_K hN (rfl : Nat.blt (0) 952 = true)) hay46 ary45 rfl inA_X9 8 (by decide) q_357 rfl rfl dX9_guessMuch_35 ?_
        refine z_get (v := .ref (ad (883 + 5))) C (lt_K hN (rfl : Nat.blt (883) 952 = true)) hay52 hpoy78.1 rfl inA_X5 7 (by decide) q_111 rfl rfl dX9_guessMuch_38 ?_
        refine z_iload_n C 4 dX9_guessMuch_41 rfl ?_
        refine z_iload C 0 dX9_guessMuch_42 rfl ?_
        refine z_iast C (lt_K hN (rfl : Nat.blt (883 + 5) 952 = true)) hay83 hpoy78.2.2.2.2.2.1 ((z).toNat) (by omega) (by omega) (by decide) dX9_guessMuch_44 (fun gy110 egy111 => ?_)
        have hgy112 := up_s egy111
        refine z_aload_n C 3 dX9_guessMuch_45 rfl ?_
        have hgy113 := up_n egy111 ary45 (by omega)
        refine z_get (v := .ref (ad 890)) C (lt_K hN (rfl : Nat.blt (0) 952 = true)) hay46 hgy113 rfl inA_X9 9 (by decide) q_358 rfl rfl dX9_guessMuch_46 ?_
        refine z_aload_n C 3 dX9_guessMuch_49 rfl ?_
        refine z_get (v := .ref (ad 900)) C (lt_K hN (rfl : Nat.blt (0) 952 = true)) hay46 hgy113 rfl inA_X9 10 (by decide) q_359 rfl rfl dX9_guessMuch_50 ?_
        have hoky114 : okWorld cs ad gy110 (890) := okWorld.mv (fun j j1 j2 => by rw [egy111, va_up_ne _ _ (by omega)]) lry45
        have hoky115 : okWorld cs ad gy110 (900) := okWorld.mv (fun j j1 j2 => by rw [egy111, va_up_ne _ _ (by omega)]) mry45
        have hgy117 := up_n egy111 hwhcy64.1 (by omega)
        refine z_cV (As := [.ref (ad 900)]) (rest := []) (ci := 10) C (c_X8_copyFrom l D A cs tt N ad _ (890) (by omega) hoky114 (900) (by omega) hoky115 (by omega)) (lt_K hN (rfl : Nat.blt (890) 952 = true)) hay53 hgy117 rfl rfl mv_yX8_copyFrom q_1228 hd_yX8_copyFrom (by decide) (Nat.le_of_ble_eq_true rfl) (by decide) dX9_guessMuch_53 rfl (kV0 fun gvy116 hvy116 => ?_)
        obtain ⟨⟨tvy116, zvy116, ovy116, rvy116, hzvy116, htvy116, -, hwvy116⟩, hfvy116⟩ := hvy116
        have hoky118 : okWorld cs ad gvy116 (890) := ⟨_, _, _, _, hzvy116, htvy116, hwvy116⟩
        obtain ⟨thcy119, zhcy119, ohcy119, rhcy119, hzhcy119, hthcy119, hwhcy119⟩ := id hoky118
        refine z_iload C 0 dX9_guessMuch_56 rfl ?_
        refine z_aload_n C 3 dX9_guessMuch_58 rfl ?_
        have hgy120 := (hfvy116 (0) (by omega)).trans hgy113
        refine z_get (v := .ref (ad 4)) C (lt_K hN (rfl : Nat.blt (0) 952 = true)) hay46 hgy120 rfl inA_X9 4 (by decide) q_353 rfl rfl dX9_guessMuch_59 ?_
        have hgy121 := up_n egy111 fry45.1 (by omega)
        have hgy122 := (hfvy116 (4) (by omega)).trans hgy121
        refine z_get (v := .ref (ad (4 + 5))) C (lt_K hN (rfl : Nat.blt (4) 952 = true)) hay49 hgy122 rfl inA_X5 7 (by decide) q_111 rfl rfl dX9_guessMuch_62 ?_
        refine z_iload_n C 4 dX9_guessMuch_65 rfl ?_
        have hgy123 := up_n egy111 fry45.2.2.2.2.2.1 (by omega)
        have hgy124 := (hfvy116 (4 + 5) (by omega)).trans hgy123
        refine z_iald C (lt_K hN (rfl : Nat.blt (4 + 5) 952 = true)) hay62 hgy124 ((z).toNat) (by omega) (by omega) (by decide) dX9_guessMuch_66 ?_
        obtain ⟨xy125, exy126, hxy127⟩ := zI_of (zI (mu ((z).toNat)))
        rw [exy126]
        refine z_icmp_eq (tgt := 113) C dX9_guessMuch_67 (by decide) (by omega) (by omega) (fun hby128 => ?_) (fun hby128 => ?_)
        · refine z_iinc (z := i + 1) (lv' := [(6, .int (zI (i + 1))), (4, .int (zI (sp))), (5, .int (zI (la))), (0, .ref (ad 0)), (1, .int (zI (z))), (2, .int (zI (z1))), (3, .int (zI (z2)))]) (j := 0) C dX9_guessMuch_113 rfl rfl (by decide) rfl ?_
          refine z_goto (tgt := 27) C dX9_guessMuch_116 (by decide) ?_
          have hgy129 := up_n egy111 hpoy78.1 (ne_o (i := 883) (c := 0) (d := 5) rfl)
          have hgy130 := (hfvy116 (883) (by omega)).trans hgy129
          have hgy131 := up_n egy111 hpoy78.2.1 (ne_o (i := 883) (c := 1) (d := 5) rfl)
          have hgy132 := (hfvy116 (883 + 1) (by omega)).trans hgy131
          have hgy133 := up_n egy111 hpoy78.2.2.1 (ne_o (i := 883) (c := 2) (d := 5) rfl)
          have hgy134 := (hfvy116 (883 + 2) (by omega)).trans hgy133
          have hgy135 := up_n egy111 hpoy78.2.2.2.1 (ne_o (i := 883) (c := 3) (d := 5) rfl)
          have hgy136 := (hfvy116 (883 + 3) (by omega)).trans hgy135
          have hgy137 := up_n egy111 hpoy78.2.2.2.2.1 (ne_o (i := 883) (c := 4) (d := 5) rfl)
          have hgy138 := (hfvy116 (883 + 4) (by omega)).trans hgy137
          have hgy139 := (hfvy116 (883 + 5) (by omega)).trans hgy112
          have hgy140 := up_n egy111 hpoy78.2.2.2.2.2.2 (ne_o (i := 883) (c := 6) (d := 5) rfl)
          have hgy141 := (hfvy116 (883 + 6) (by omega)).trans hgy140
          have hopy142 : okPlan cs ad gvy116 883 := ⟨_, _, _, _, _, _, _, _, _, hsloy78, hhooy78, ⟨hgy130, hgy132, hgy134, hgy136, hgy138, hgy139, hgy141⟩⟩
          have hgy143 := up_n egy111 dry45 (by omega)
          have hgy144 := (hfvy116 (1) (by omega)).trans hgy143
          have hpy145 := okState.mv (ad' := ad) (g' := gvy116) (fun j h1 h2 => by rfl) (fun j h1 h2 => by rw [hfvy116 _ (by omega)]; rw [egy111, va_up_ne _ _ (by omega)]) iry45
          have hpy146 := okRdr.mv (ad' := ad) (g' := gvy116) (fun j h1 h2 => by rfl) (fun j h1 h2 => by rw [hfvy116 _ (by omega)]; rw [egy111, va_up_ne _ _ (by omega)]) ery45
          have hpy147 := isPlan.mv (ad' := ad) (g' := gvy116) (fun j h1 h2 => by rfl) (fun j h1 h2 => by rw [hfvy116 _ (by omega)]; rw [egy111, va_up_ne _ _ (by omega)]) fry45
          have hpy148 := okState.mv (ad' := ad) (g' := gvy116) (fun j h1 h2 => by rfl) (fun j h1 h2 => by rw [hfvy116 _ (by omega)]; rw [egy111, va_up_ne _ _ (by omega)]) jry45
          have hpy149 := okGss.mv (ad' := ad) (g' := gvy116) (fun j h1 h2 => by rfl) (fun j h1 h2 => by rw [hfvy116 _ (by omega)]; rw [egy111, va_up_ne _ _ (by omega)]) nry45
          have hpy150 := okLike.mv (ad' := ad) (g' := gvy116) (fun j h1 h2 => by rfl) (fun j h1 h2 => by rw [hfvy116 _ (by omega)]; rw [egy111, va_up_ne _ _ (by omega)]) ory45
          have hpy151 := okBld.mv (ad' := ad) (g' := gvy116) (fun j h1 h2 => by rfl) (fun j h1 h2 => by rw [hfvy116 _ (by omega)]; rw [egy111, va_up_ne _ _ (by omega)]) pry45
          have hoky152 : okWorld cs ad gvy116 (900) := okWorld.mv (fun j j1 j2 => by rw [hfvy116 _ (by omega)]) hoky115
          have hrecy153 : okRec cs ad gvy116 N (t) (fp) (im) (nz) (kz) (sl) (ho) (ua) (st) (op) (ai) (fa) (mu) (tb) (tp) := ⟨hgy120, bry45, cry45, hgy144, hpy146, hpy147, gry451, hry45, ⟨_, hpy145⟩, ⟨_, hpy148⟩, hopy142, hoky118, hoky152, hpy149, hpy150, hpy151⟩
          refine z_lv (lv' := [(6, .int (zI (i + 1))), (4, .int (zI (sp))), (5, .int (zI (la))), (0, .ref (ad 0)), (1, .int (zI (z))), (2, .int (zI (z1))), (3, .int (zI (z2)))]) [0, 1, 2, 3, 4, 5, 6] rfl ?_
          exact ih_lp27 _ (by omega) (i + 1) (sp) (la) gvy116 rfl hrecy153 (fun j j1 j2 => by rw [hfvy116 _ (by omega)]; rw [egy111, va_up_ne _ _ (by omega)]; exact f2 j j1 j2) (by omega) (by omega) (by omega)
        · refine z_aload_n C 3 dX9_guessMuch_70 rfl ?_
          refine z_aload_n C 3 dX9_guessMuch_71 rfl ?_
          refine z_get (v := .ref (ad 890)) C (lt_K hN (rfl : Nat.blt (0) 952 = true)) hay46 hgy120 rfl inA_X9 9 (by decide) q_358 rfl rfl dX9_guessMuch_72 ?_
          refine z_aload_n C 3 dX9_guessMuch_75 rfl ?_
          refine z_get (v := .ref (ad 883)) C (lt_K hN (rfl : Nat.blt (0) 952 = true)) hay46 hgy120 rfl inA_X9 8 (by decide) q_357 rfl rfl dX9_guessMuch_76 ?_
          refine z_iload C 1 dX9_guessMuch_79 rfl ?_
          refine z_iload_n C 5 dX9_guessMuch_81 rfl ?_
          refine z_iload C 2 dX9_guessMuch_82 rfl ?_
          have hgy155 := up_n egy111 hpoy78.1 (ne_o (i := 883) (c := 0) (d := 5) rfl)
          have hgy156 := (hfvy116 (883) (by omega)).trans hgy155
          have hgy157 := up_n egy111 hpoy78.2.1 (ne_o (i := 883) (c := 1) (d := 5) rfl)
          have hgy158 := (hfvy116 (883 + 1) (by omega)).trans hgy157
          have hgy159 := up_n egy111 hpoy78.2.2.1 (ne_o (i := 883) (c := 2) (d := 5) rfl)
          have hgy160 := (hfvy116 (883 + 2) (by omega)).trans hgy159
          have hgy161 := up_n egy111 hpoy78.2.2.2.1 (ne_o (i := 883) (c := 3) (d := 5) rfl)
          have hgy162 := (hfvy116 (883 + 3) (by omega)).trans hgy161
          have hgy163 := up_n egy111 hpoy78.2.2.2.2.1 (ne_o (i := 883) (c := 4) (d := 5) rfl)
          have hgy164 := (hfvy116 (883 + 4) (by omega)).trans hgy163
          have hgy165 := (hfvy116 (883 + 5) (by omega)).trans hgy112
          have hgy166 := up_n egy111 hpoy78.2.2.2.2.2.2 (ne_o (i := 883) (c := 6) (d := 5) rfl)
          have hgy167 := (hfvy116 (883 + 6) (by omega)).trans hgy166
          have hopy168 : okPlan cs ad gvy116 883 := ⟨_, _, _, _, _, _, _, _, _, hsloy78, hhooy78, ⟨hgy156, hgy158, hgy160, hgy162, hgy164, hgy165, hgy167⟩⟩
          have hgy169 := up_n egy111 dry45 (by omega)
          have hgy170 := (hfvy116 (1) (by omega)).trans hgy169
          have hpy171 := okState.mv (ad' := ad) (g' := gvy116) (fun j h1 h2 => by rfl) (fun j h1 h2 => by rw [hfvy116 _ (by omega)]; rw [egy111, va_up_ne _ _ (by omega)]) iry45
          have hpy172 := okRdr.mv (ad' := ad) (g' := gvy116) (fun j h1 h2 => by rfl) (fun j h1 h2 => by rw [hfvy116 _ (by omega)]; rw [egy111, va_up_ne _ _ (by omega)]) ery45
          have hpy173 := isPlan.mv (ad' := ad) (g' := gvy116) (fun j h1 h2 => by rfl) (fun j h1 h2 => by rw [hfvy116 _ (by omega)]; rw [egy111, va_up_ne _ _ (by omega)]) fry45
          have hpy174 := okState.mv (ad' := ad) (g' := gvy116) (fun j h1 h2 => by rfl) (fun j h1 h2 => by rw [hfvy116 _ (by omega)]; rw [egy111, va_up_ne _ _ (by omega)]) jry45
          have hpy175 := okGss.mv (ad' := ad) (g' := gvy116) (fun j h1 h2 => by rfl) (fun j h1 h2 => by rw [hfvy116 _ (by omega)]; rw [egy111, va_up_ne _ _ (by omega)]) nry45
          have hpy176 := okLike.mv (ad' := ad) (g' := gvy116) (fun j h1 h2 => by rfl) (fun j h1 h2 => by rw [hfvy116 _ (by omega)]; rw [egy111, va_up_ne _ _ (by omega)]) ory45
          have hpy177 := okBld.mv (ad' := ad) (g' := gvy116) (fun j h1 h2 => by rfl) (fun j h1 h2 => by rw [hfvy116 _ (by omega)]; rw [egy111, va_up_ne _ _ (by omega)]) pry45
          have hoky178 : okWorld cs ad gvy116 (900) := okWorld.mv (fun j j1 j2 => by rw [hfvy116 _ (by omega)]) hoky115
          have hrecy179 : okRec cs ad gvy116 N (t) (fp) (im) (nz) (kz) (sl) (ho) (ua) (st) (op) (ai) (fa) (mu) (tb) (tp) := ⟨hgy120, bry45, cry45, hgy170, hpy172, hpy173, gry451, hry45, ⟨_, hpy171⟩, ⟨_, hpy174⟩, hopy168, hoky118, hoky178, hpy175, hpy176, hpy177⟩
          refine z_cV (As := [.ref (ad 890), .ref (ad 883), .int (zI (sp)), .int (zI (z1)), .int (zI (la))]) (rest := []) (ci := 11) C (c_X9_isNotedSo_890_883 l D A cs tt N ad _ hN _ _ _ _ _ _ _ _ _ _ _ _ _ _ _ hrecy179 (sp) (by omega) (z1) (by omega) (la) (by omega)) (lt_K hN (rfl : Nat.blt (0) 952 = true)) hay46 hgy120 rfl rfl mv_yX9_isNotedSo q_1368 hd_yX9_isNotedSo (by decide) (Nat.le_of_ble_eq_true rfl) (by decide) dX9_guessMuch_84 rfl (kI0 fun vy154 gvy154 hvy154 => ?_)
          obtain ⟨hrvy154, hkvy154, hfvy154⟩ := hvy154
          obtain ⟨ary180, bry180, cry180, dry180, ery180, fry180, gry1801, hry180, ⟨acry180, iry180⟩, ⟨kcry180, jry180⟩, kry180, lry180, mry180, nry180, ory180, pry180⟩ := id hkvy154
          obtain ⟨thcy181, zhcy181, ohcy181, rhcy181, hzhcy181, hthcy181, hwhcy181⟩ := id lry180
          obtain ⟨thcy182, zhcy182, ohcy182, rhcy182, hzhcy182, hthcy182, hwhcy182⟩ := id mry180
          obtain ⟨asy183, bsy183, csy183, dsy183, esy183, ⟨ptsy183, fsy183, gsy1831⟩, hsy183, ⟨nusy183, nvsy183, nwsy183, isy183, jsy183, ksy183, lsy183, msy183, nsy183⟩, rfsy183, osy183⟩ := id iry180
          obtain ⟨uy184t, uy184z, uy184o, uy184r, uy184z4, uy184t5, uy1841, ⟨uy184u, uy1842, uy1843⟩, uy1844⟩ := id csy183
          have hay185 : zAt ad (11 + 1) (ad (11 + 1)) := rfl
          have hay186 : zAt ad (11 + 1 + 1) (ad (11 + 1 + 1)) := rfl
          obtain ⟨sloy187, hooy187, uaoy187, stoy187, opoy187, aioy187, faoy187, muoy187, tboy187, hsloy187, hhooy187, hpoy187⟩ := id kry180
          refine z_if_eq (tgt := 113) C dX9_guessMuch_87 (by decide) (by omega) (fun hby188 => ?_) (fun hby188 => ?_)
          · refine z_iinc (z := i + 1) (lv' := [(6, .int (zI (i + 1))), (4, .int (zI (sp))), (5, .int (zI (la))), (0, .ref (ad 0)), (1, .int (zI (z))), (2, .int (zI (z1))), (3, .int (zI (z2)))]) (j := 0) C dX9_guessMuch_113 rfl rfl (by decide) rfl ?_
            refine z_goto (tgt := 27) C dX9_guessMuch_116 (by decide) ?_
            have hrecy189 : okRec cs ad gvy154 N (t) (fp) (im) (nz) (kz) (sl) (ho) (ua) (st) (op) (ai) (fa) (mu) (tb) (tp) := ⟨ary180, bry180, cry180, dry180, ery180, fry180, gry1801, hry180, ⟨_, iry180⟩, ⟨_, jry180⟩, kry180, lry180, mry180, nry180, ory180, pry180⟩
            refine z_lv (lv' := [(6, .int (zI (i + 1))), (4, .int (zI (sp))), (5, .int (zI (la))), (0, .ref (ad 0)), (1, .int (zI (z))), (2, .int (zI (z1))), (3, .int (zI (z2)))]) [0, 1, 2, 3, 4, 5, 6] rfl ?_
            exact ih_lp27 _ (by omega) (i + 1) (sp) (la) gvy154 rfl hrecy189 (fun j j1 j2 => by rw [hfvy154 _ (by omega) (by omega)]; rw [hfvy116 _ (by omega)]; rw [egy111, va_up_ne _ _ (by omega)]; exact f2 j j1 j2) (by omega) (by omega) (by omega)
          · refine z_aload_n C 3 dX9_guessMuch_90 rfl ?_
            refine z_get (v := .ref (ad 910)) C (lt_K hN (rfl : Nat.blt (0) 952 = true)) hay46 ary180 rfl inA_X9 11 (by decide) q_360 rfl rfl dX9_guessMuch_91 ?_
            refine z_bipush (z := 100) C dX9_guessMuch_94 (by decide) ?_
            refine z_iload_n C 4 dX9_guessMuch_96 rfl ?_
            refine z_imul C dX9_guessMuch_97 ?_
            refine z_iload C 0 dX9_guessMuch_98 rfl ?_
            refine z_iadd C dX9_guessMuch_100 ?_
            obtain ⟨mnqy190, fiqy190, uqy190, qqy190, h1qy190, h2qy190, h3qy190, h4qy190⟩ := id nry180
            refine z_cV (As := [.int (zI ((100 * z) + i))]) (rest := []) (ci := 2) C (c_X0_add l D A cs tt N ad _ 910 (by omega) nry180 ((100 * z) + i) (by omega)) (lt_K hN (rfl : Nat.blt (910) 952 = true)) hay55 h2qy190 rfl rfl mv_yX0_add q_1389 hd_yX0_add (by decide) (Nat.le_of_ble_eq_true rfl) (by decide) dX9_guessMuch_101 rfl (kV0 fun gvy191 hvy191 => ?_)
            obtain ⟨hkvy191, hfvy191⟩ := hvy191
            obtain ⟨mnqy192, fiqy192, uqy192, qqy192, h1qy192, h2qy192, h3qy192, h4qy192⟩ := id hkvy191
            refine z_iload_n C 6 dX9_guessMuch_104 rfl ?_
            refine z_if_eq (tgt := 113) C dX9_guessMuch_105 (by decide) (by omega) (fun hby193 => ?_) (fun hby193 => ?_)
            · refine z_iinc (z := i + 1) (lv' := [(6, .int (zI (i + 1))), (4, .int (zI (sp))), (5, .int (zI (la))), (0, .ref (ad 0)), (1, .int (zI (z))), (2, .int (zI (z1))), (3, .int (zI (z2)))]) (j := 0) C dX9_guessMuch_113 rfl rfl (by decide) rfl ?_
              refine z_goto (tgt := 27) C dX9_guessMuch_116 (by decide) ?_
              have hgy194 := (hfvy191 (0) (by omega)).trans ary180
              have hgy195 := (hfvy191 (1) (by omega)).trans dry180
              have hpy196 := okState.mv (ad' := ad) (g' := gvy191) (fun j h1 h2 => by rfl) (fun j h1 h2 => by rw [hfvy191 _ (by omega)]) iry180
              have hpy197 := okRdr.mv (ad' := ad) (g' := gvy191) (fun j h1 h2 => by rfl) (fun j h1 h2 => by rw [hfvy191 _ (by omega)]) ery180
              have hpy198 := isPlan.mv (ad' := ad) (g' := gvy191) (fun j h1 h2 => by rfl) (fun j h1 h2 => by rw [hfvy191 _ (by omega)]) fry180
              have hpy199 := okState.mv (ad' := ad) (g' := gvy191) (fun j h1 h2 => by rfl) (fun j h1 h2 => by rw [hfvy191 _ (by omega)]) jry180
              have hpy200 := okPlan.mv (ad' := ad) (g' := gvy191) (fun j h1 h2 => by rfl) (fun j h1 h2 => by rw [hfvy191 _ (by omega)]) kry180
              have hpy201 := okLike.mv (ad' := ad) (g' := gvy191) (fun j h1 h2 => by rfl) (fun j h1 h2 => by rw [hfvy191 _ (by omega)]) ory180
              have hpy202 := okBld.mv (ad' := ad) (g' := gvy191) (fun j h1 h2 => by rfl) (fun j h1 h2 => by rw [hfvy191 _ (by omega)]) pry180
              have hoky203 : okWorld cs ad gvy191 (890) := okWorld.mv (fun j j1 j2 => by rw [hfvy191 _ (by omega)]) lry180
              have hoky204 : okWorld cs ad gvy191 (900) := okWorld.mv (fun j j1 j2 => by rw [hfvy191 _ (by omega)]) mry180
              have hrecy205 : okRec cs ad gvy191 N (t) (fp) (im) (nz) (kz) (sl) (ho) (ua) (st) (op) (ai) (fa) (mu) (tb) (tp) := ⟨hgy194, bry180, cry180, hgy195, hpy197, hpy198, gry1801, hry180, ⟨_, hpy196⟩, ⟨_, hpy199⟩, hpy200, hoky203, hoky204, hkvy191, hpy201, hpy202⟩
              refine z_lv (lv' := [(6, .int (zI (i + 1))), (4, .int (zI (sp))), (5, .int (zI (la))), (0, .ref (ad 0)), (1, .int (zI (z))), (2, .int (zI (z1))), (3, .int (zI (z2)))]) [0, 1, 2, 3, 4, 5, 6] rfl ?_
              exact ih_lp27 _ (by omega) (i + 1) (sp) (la) gvy191 rfl hrecy205 (fun j j1 j2 => by rw [hfvy191 _ (by omega)]; rw [hfvy154 _ (by omega) (by omega)]; rw [hfvy116 _ (by omega)]; rw [egy111, va_up_ne _ _ (by omega)]; exact f2 j j1 j2) (by omega) (by omega) (by omega)
            · refine z_aload_n C 3 dX9_guessMuch_108 rfl ?_
              refine z_iload_n C 5 dX9_guessMuch_109 rfl ?_
              have hgy207 := (hfvy191 (0) (by omega)).trans ary180
              have hgy208 := (hfvy191 (1) (by omega)).trans dry180
              have hpy209 := okState.mv (ad' := ad) (g' := gvy191) (fun j h1 h2 => by rfl) (fun j h1 h2 => by rw [hfvy191 _ (by omega)]) iry180
              have hpy210 := okRdr.mv (ad' := ad) (g' := gvy191) (fun j h1 h2 => by rfl) (fun j h1 h2 => by rw [hfvy191 _ (by omega)]) ery180
              have hpy211 := isPlan.mv (ad' := ad) (g' := gvy191) (fun j h1 h2 => by rfl) (fun j h1 h2 => by rw [hfvy191 _ (by omega)]) fry180
              have hpy212 := okState.mv (ad' := ad) (g' := gvy191) (fun j h1 h2 => by rfl) (fun j h1 h2 => by rw [hfvy191 _ (by omega)]) jry180
              have hpy213 := okPlan.mv (ad' := ad) (g' := gvy191) (fun j h1 h2 => by rfl) (fun j h1 h2 => by rw [hfvy191 _ (by omega)]) kry180
              have hpy214 := okLike.mv (ad' := ad) (g' := gvy191) (fun j h1 h2 => by rfl) (fun j h1 h2 => by rw [hfvy191 _ (by omega)]) ory180
              have hpy215 := okBld.mv (ad' := ad) (g' := gvy191) (fun j h1 h2 => by rfl) (fun j h1 h2 => by rw [hfvy191 _ (by omega)]) pry180
              have hoky216 : okWorld cs ad gvy191 (890) := okWorld.mv (fun j j1 j2 => by rw [hfvy191 _ (by omega)]) lry180
              have hoky217 : okWorld cs ad gvy191 (900) := okWorld.mv (fun j j1 j2 => by rw [hfvy191 _ (by omega)]) mry180
              have hrecy218 : okRec cs ad gvy191 N (t) (fp) (im) (nz) (kz) (sl) (ho) (ua) (st) (op) (ai) (fa) (mu) (tb) (tp) := ⟨hgy207, bry180, cry180, hgy208, hpy210, hpy211, gry1801, hry180, ⟨_, hpy209⟩, ⟨_, hpy212⟩, hpy213, hoky216, hoky217, hkvy191, hpy214, hpy215⟩
              refine z_cV (As := [.int (zI (z1))]) (rest := []) (ci := 11) C (c_X9_lookFrom l D A cs tt N ad _ hN _ _ _ _ _ _ _ _ _ _ _ _ _ _ _ hrecy218 (z1) (by omega)) (lt_K hN (rfl : Nat.blt (0) 952 = true)) hay46 hgy207 rfl rfl mv_yX9_lookFrom q_1393 hd_yX9_lookFrom (by decide) (Nat.le_of_ble_eq_true rfl) (by decide) dX9_guessMuch_110 rfl (kV0 fun gvy206 hvy206 => ?_)
              obtain ⟨hkvy206, hfvy206⟩ := hvy206
              obtain ⟨ary219, bry219, cry219, dry219, ery219, fry219, gry2191, hry219, ⟨acry219, iry219⟩, ⟨kcry219, jry219⟩, kry219, lry219, mry219, nry219, ory219, pry219⟩ := id hkvy206
              obtain ⟨thcy220, zhcy220, ohcy220, rhcy220, hzhcy220, hthcy220, hwhcy220⟩ := id lry219
              obtain ⟨thcy221, zhcy221, ohcy221, rhcy221, hzhcy221, hthcy221, hwhcy221⟩ := id mry219
              obtain ⟨asy222, bsy222, csy222, dsy222, esy222, ⟨ptsy222, fsy222, gsy2221⟩, hsy222, ⟨nusy222, nvsy222, nwsy222, isy222, jsy222, ksy222, lsy222, msy222, nsy222⟩, rfsy222, osy222⟩ := id iry219
              obtain ⟨uy223t, uy223z, uy223o, uy223r, uy223z4, uy223t5, uy2231, ⟨uy223u, uy2232, uy2233⟩, uy2234⟩ := id csy222
              have hay224 : zAt ad (11 + 1) (ad (11 + 1)) := rfl
              have hay225 : zAt ad (11 + 1 + 1) (ad (11 + 1 + 1)) := rfl
              obtain ⟨sloy226, hooy226, uaoy226, stoy226, opoy226, aioy226, faoy226, muoy226, tboy226, hsloy226, hhooy226, hpoy226⟩ := id kry219
              refine z_iinc (z := i + 1) (lv' := [(6, .int (zI (i + 1))), (4, .int (zI (sp))), (5, .int (zI (la))), (0, .ref (ad 0)), (1, .int (zI (z))), (2, .int (zI (z1))), (3, .int (zI (z2)))]) (j := 0) C dX9_guessMuch_113 rfl rfl (by decide) rfl ?_
              refine z_goto (tgt := 27) C dX9_guessMuch_116 (by decide) ?_
              have hrecy227 : okRec cs ad gvy206 N (t) (fp) (im) (nz) (kz) (sl) (ho) (ua) (st) (op) (ai) (fa) (mu) (tb) (tp) := ⟨ary219, bry219, cry219, dry219, ery219, fry219, gry2191, hry219, ⟨_, iry219⟩, ⟨_, jry219⟩, kry219, lry219, mry219, nry219, ory219, pry219⟩
              refine z_lv (lv' := [(6, .int (zI (i + 1))), (4, .int (zI (sp))), (5, .int (zI (la))), (0, .ref (ad 0)), (1, .int (zI (z))), (2, .int (zI (z1))), (3, .int (zI (z2)))]) [0, 1, 2, 3, 4, 5, 6] rfl ?_
              exact ih_lp27 _ (by omega) (i + 1) (sp) (la) gvy206 rfl hrecy227 (fun j j1 j2 => by rw [hfvy206 _ (by omega) (by omega)]; rw [hfvy191 _ (by omega)]; rw [hfvy154 _ (by omega) (by omega)]; rw [hfvy116 _ (by omega)]; rw [egy111, va_up_ne _ _ (by omega)]; exact f2 j j1 j2) (by omega) (by omega) (by omega)
  have hrecy228 : okRec cs ad g N (t) (fp) (im) (nz) (kz) (sl) (ho) (ua) (st) (op) (ai) (fa) (mu) (tb) (tp) := ⟨ary1, bry1, cry1, dry1, ery1, fry1, gry11, hry1, ⟨_, iry1⟩, ⟨_, jry1⟩, kry1, lry1, mry1, nry1, ory1, pry1⟩
  refine z_lv (lv' := [(6, .int (zI (1))), (4, .int (zI (vy43))), (5, .int (zI (vy44))), (0, .ref (ad 0)), (1, .int (zI (z))), (2, .int (zI (z1))), (3, .int (zI (z2)))]) [0, 2, 1, 3, 4, 5, 6] rfl ?_
  exact lp27 _ (1) (vy43) (vy44) g rfl hrecy228 (fun j j1 j2 => by rfl) (by omega) (by omega) (by omega)

set_option maxRecDepth 100000 in
set_option maxHeartbeats 4000000 in
theorem c_X9_guessFalls (l : Launch) (D : va_G) (A : Nat → Prop) (cs : Nat → ClassId) (tt : Nat) (N : Nat) (ad : Nat → Nat) (g : Nat → va_E) (hN : 952 ≤ N) (t fp im nz kz sl ho ua : Int) (st op ai fa mu tb tp : Nat → Int) (hR : okRec cs ad g N t fp im nz kz sl ho ua st op ai fa mu tb tp) (z : Int) (hz : 0 ≤ z ∧ z ≤ 1) : zM l yX9_guessFalls cX9_guessFalls 4 none ({ frames := 11, cells := 0, slots := 0, locals := 660 } : Room) D A cs tt N ad g [.ref (ad 0), .int (zI (z))] (rV0 N ad fun g' => okRec cs ad g' N t fp im nz kz sl ho ua st op ai fa mu tb tp ∧ oX g g') := by
  obtain ⟨ary1, bry1, cry1, dry1, ery1, fry1, gry11, hry1, ⟨acry1, iry1⟩, ⟨kcry1, jry1⟩, kry1, lry1, mry1, nry1, ory1, pry1⟩ := id hR
  have hay2 : zAt ad (0) (ad 0) := rfl
  have hay3 : zAt ad (1) (ad 1) := rfl
  have hay4 : zAt ad (2) (ad 2) := rfl
  have hay5 : zAt ad (4) (ad 4) := rfl
  have hay6 : zAt ad (11) (ad 11) := rfl
  have hay7 : zAt ad (447) (ad 447) := rfl
  have hay8 : zAt ad (883) (ad 883) := rfl
  have hay9 : zAt ad (890) (ad 890) := rfl
  have hay10 : zAt ad (900) (ad 900) := rfl
  have hay11 : zAt ad (910) (ad 910) := rfl
  have hay12 : zAt ad (917) (ad 917) := rfl
  have hay13 : zAt ad (919) (ad 919) := rfl
  have hay14 : zAt ad (4 + 1) (ad (4 + 1)) := rfl
  have hay15 : zAt ad (4 + 2) (ad (4 + 2)) := rfl
  have hay16 : zAt ad (4 + 3) (ad (4 + 3)) := rfl
  have hay17 : zAt ad (4 + 4) (ad (4 + 4)) := rfl
  have hay18 : zAt ad (4 + 5) (ad (4 + 5)) := rfl
  have hay19 : zAt ad (4 + 6) (ad (4 + 6)) := rfl
  obtain ⟨thcy20, zhcy20, ohcy20, rhcy20, hzhcy20, hthcy20, hwhcy20⟩ := id lry1
  obtain ⟨thcy21, zhcy21, ohcy21, rhcy21, hzhcy21, hthcy21, hwhcy21⟩ := id mry1
  obtain ⟨asy22, bsy22, csy22, dsy22, esy22, ⟨ptsy22, fsy22, gsy221⟩, hsy22, ⟨nusy22, nvsy22, nwsy22, isy22, jsy22, ksy22, lsy22, msy22, nsy22⟩, rfsy22, osy22⟩ := id iry1
  have hay23 : zAt ad (11 + 1) (ad (11 + 1)) := rfl
  have hay24 : zAt ad (11 + 11) (ad (11 + 11)) := rfl
  have hay25 : zAt ad (11 + 12) (ad (11 + 12)) := rfl
  have hay26 : zAt ad (11 + 13) (ad (11 + 13)) := rfl
  have hay27 : zAt ad (11 + 13 + 1) (ad (11 + 13 + 1)) := rfl
  have hay28 : zAt ad (11 + 13 + 2) (ad (11 + 13 + 2)) := rfl
  have hay29 : zAt ad (11 + 13 + 3) (ad (11 + 13 + 3)) := rfl
  have hay30 : zAt ad (11 + 17) (ad (11 + 17)) := rfl
  obtain ⟨uy31t, uy31z, uy31o, uy31r, uy31z4, uy31t5, uy311, ⟨uy31u, uy312, uy313⟩, uy314⟩ := id csy22
  have hay32 : zAt ad (11 + 1) (ad (11 + 1)) := rfl
  have hay33 : zAt ad (11 + 1 + 1) (ad (11 + 1 + 1)) := rfl
  obtain ⟨sloy34, hooy34, uaoy34, stoy34, opoy34, aioy34, faoy34, muoy34, tboy34, hsloy34, hhooy34, hpoy34⟩ := id kry1
  have hay35 : zAt ad (883 + 1) (ad (883 + 1)) := rfl
  have hay36 : zAt ad (883 + 2) (ad (883 + 2)) := rfl
  have hay37 : zAt ad (883 + 3) (ad (883 + 3)) := rfl
  have hay38 : zAt ad (883 + 4) (ad (883 + 4)) := rfl
  have hay39 : zAt ad (883 + 5) (ad (883 + 5)) := rfl
  have hay40 : zAt ad (883 + 6) (ad (883 + 6)) := rfl
  obtain ⟨mnqy41, fiqy41, uqy41, qqy41, h1qy41, h2qy41, h3qy41, h4qy41⟩ := id nry1
  have hay42 : zAt ad (910 + 1) (ad (910 + 1)) := rfl
  refine z_of (by decide) (Nat.le_of_ble_eq_true rfl) ?_
  intro p e s m below meth c C hr hlk hnm
  refine z_lv (lv' := [(0, .ref (ad 0)), (1, .int (zI (z)))]) [0, 1] rfl ?_
  refine z_aload_n C 0 dX9_guessFalls_0 rfl ?_
  refine z_get (v := .ref (ad 910)) C (lt_K hN (rfl : Nat.blt (0) 952 = true)) hay2 ary1 rfl inA_X9 11 (by decide) q_360 rfl rfl dX9_guessFalls_1 ?_
  refine z_cV (As := []) (rest := []) (ci := 2) C (c_X0_clear l D A cs tt N ad _ 910 (by omega) nry1 ) (lt_K hN (rfl : Nat.blt (910) 952 = true)) hay11 h2qy41 rfl rfl mv_yX0_clear q_1376 hd_yX0_clear (by decide) (Nat.le_of_ble_eq_true rfl) (by decide) dX9_guessFalls_4 rfl (kV0 fun gvy43 hvy43 => ?_)
  obtain ⟨hkvy43, hfvy43⟩ := hvy43
  obtain ⟨mnqy44, fiqy44, uqy44, qqy44, h1qy44, h2qy44, h3qy44, h4qy44⟩ := id hkvy43
  refine z_aload_n C 0 dX9_guessFalls_7 rfl ?_
  have hgy45 := (hfvy43 (0) (by omega)).trans ary1
  refine z_get (v := .ref (ad 883)) C (lt_K hN (rfl : Nat.blt (0) 952 = true)) hay2 hgy45 rfl inA_X9 8 (by decide) q_357 rfl rfl dX9_guessFalls_8 ?_
  refine z_aload_n C 0 dX9_guessFalls_11 rfl ?_
  refine z_get (v := .ref (ad 4)) C (lt_K hN (rfl : Nat.blt (0) 952 = true)) hay2 hgy45 rfl inA_X9 4 (by decide) q_353 rfl rfl dX9_guessFalls_12 ?_
  have hgy47 := (hfvy43 (883) (by omega)).trans hpoy34.1
  have hgy48 := (hfvy43 (883 + 1) (by omega)).trans hpoy34.2.1
  have hgy49 := (hfvy43 (883 + 2) (by omega)).trans hpoy34.2.2.1
  have hgy50 := (hfvy43 (883 + 3) (by omega)).trans hpoy34.2.2.2.1
  have hgy51 := (hfvy43 (883 + 4) (by omega)).trans hpoy34.2.2.2.2.1
  have hgy52 := (hfvy43 (883 + 5) (by omega)).trans hpoy34.2.2.2.2.2.1
  have hgy53 := (hfvy43 (883 + 6) (by omega)).trans hpoy34.2.2.2.2.2.2
  have hgy54 := (hfvy43 (4) (by omega)).trans fry1.1
  have hgy55 := (hfvy43 (4 + 1) (by omega)).trans fry1.2.1
  have hgy56 := (hfvy43 (4 + 2) (by omega)).trans fry1.2.2.1
  have hgy57 := (hfvy43 (4 + 3) (by omega)).trans fry1.2.2.2.1
  have hgy58 := (hfvy43 (4 + 4) (by omega)).trans fry1.2.2.2.2.1
  have hgy59 := (hfvy43 (4 + 5) (by omega)).trans fry1.2.2.2.2.2.1
  have hgy60 := (hfvy43 (4 + 6) (by omega)).trans fry1.2.2.2.2.2.2
  refine z_cV (As := [.ref (ad 4)]) (rest := []) (ci := 7) C (c_X5_copyFrom l D A cs tt N ad _ 883 (by omega) _ _ _ _ _ _ _ _ _ ⟨hgy47, hgy48, hgy49, hgy50, hgy51, hgy52, hgy53⟩ (4) (by omega) _ _ _ _ _ _ _ _ _ ⟨hgy54, hgy55, hgy56, hgy57, hgy58, hgy59, hgy60⟩ (by omega)) (lt_K hN (rfl : Nat.blt (883) 952 = true)) hay8 hgy47 rfl rfl mv_yX5_copyFrom q_862 hd_yX5_copyFrom (by decide) (Nat.le_of_ble_eq_true rfl) (by decide) dX9_guessFalls_15 rfl (kV0 fun gvy46 hvy46 => ?_)
  obtain ⟨hpvy46, hfvy46⟩ := hvy46
  have hopy61 : okPlan cs ad gvy46 883 := ⟨_, _, _, _, _, _, _, _, _, by omega, by omega, hpvy46⟩
  obtain ⟨sloy62, hooy62, uaoy62, stoy62, opoy62, aioy62, faoy62, muoy62, tboy62, hsloy62, hhooy62, hpoy62⟩ := id hopy61
  refine z_iconst (z := 0) C dX9_guessFalls_18 rfl ?_
  refine z_istore_n (lv' := [(2, .int (zI (0))), (0, .ref (ad 0)), (1, .int (zI (z)))]) C dX9_guessFalls_19 rfl (by decide) rfl ?_
  have lp20 : ∀ (n9 : Nat) (i : Int) (g1 : Nat → va_E), (24 - i).toNat = n9 → (okRec cs ad g1 N t fp im nz kz sl ho ua st op ai fa mu tb tp) → (oX g g1) → (0 ≤ i ∧ i ≤ 24) → zV p l e ({ frames := 11, cells := 0, slots := 0, locals := 660 } : Room) s m ([.ref (ad 0), .int (zI (z))] : List Value).toArray below meth c (MQ below (zPost D A (rV0 N ad fun g' => okRec cs ad g' N t fp im nz kz sl ho ua st op ai fa mu tb tp ∧ oX g g')) ([.ref (ad 0), .int (zI (z))] : List Value).toArray s ({ frames := 11, cells := 0, slots := 0, locals := 660 } : Room).cells ({ frames := 11, cells := 0, slots := 0, locals := 660 } : Room).slots A) D A 4 (N) ad g1 (0) (0) 20 [(2, .int (zI (i))), (0, .ref (ad 0)), (1, .int (zI (z)))] [] := by
    intro n9
    induction n9 using Nat.strongRecOn with
    | ind n9 ih_lp20 =>
      intro i g1 hm9 f1 f2 hv20_0
      obtain ⟨ary63, bry63, cry63, dry63, ery63, fry63, gry631, hry63, ⟨acry63, iry63⟩, ⟨kcry63, jry63⟩, kry63, lry63, mry63, nry63, ory63, pry63⟩ := id f1
      have hay64 : zAt ad (0) (ad 0) := rfl
      have hay65 : zAt ad (1) (ad 1) := rfl
      have hay66 : zAt ad (2) (ad 2) := rfl
      have hay67 : zAt ad (4) (ad 4) := rfl
      have hay68 : zAt ad (11) (ad 11) := rfl
      have hay69 : zAt ad (447) (ad 447) := rfl
      have hay70 : zAt ad (883) (ad 883) := rfl
      have hay71 : zAt ad (890) (ad 890) := rfl
      have hay72 : zAt ad (900) (ad 900) := rfl
      have hay73 : zAt ad (910) (ad 910) := rfl
      have hay74 : zAt ad (917) (ad 917) := rfl
      have hay75 : zAt ad (919) (ad 919) := rfl
      have hay76 : zAt ad (4 + 1) (ad (4 + 1)) := rfl
      have hay77 : zAt ad (4 + 2) (ad (4 + 2)) := rfl
      have hay78 : zAt ad (4 + 3) (ad (4 + 3)) := rfl
      have hay79 : zAt ad (4 + 4) (ad (4 + 4)) := rfl
      have hay80 : zAt ad (4 + 5) (ad (4 + 5)) := rfl
      have hay81 : zAt ad (4 + 6) (ad (4 + 6)) := rfl
      obtain ⟨thcy82, zhcy82, ohcy82, rhcy82, hzhcy82, hthcy82, hwhcy82⟩ := id lry63
      obtain ⟨thcy83, zhcy83, ohcy83, rhcy83, hzhcy83, hthcy83, hwhcy83⟩ := id mry63
      obtain ⟨asy84, bsy84, csy84, dsy84, esy84, ⟨ptsy84, fsy84, gsy841⟩, hsy84, ⟨nusy84, nvsy84, nwsy84, isy84, jsy84, ksy84, lsy84, msy84, nsy84⟩, rfsy84, osy84⟩ := id iry63
      have hay85 : zAt ad (11 + 1) (ad (11 + 1)) := rfl
      have hay86 : zAt ad (11 + 11) (ad (11 + 11)) := rfl
      have hay87 : zAt ad (11 + 12) (ad (11 + 12)) := rfl
      have hay88 : zAt ad (11 + 13) (ad (11 + 13)) := rfl
      have hay89 : zAt ad (11 + 13 + 1) (ad (11 + 13 + 1)) := rfl
      have hay90 : zAt ad (11 + 13 + 2) (ad (11 + 13 + 2)) := rfl
      have hay91 : zAt ad (11 + 13 + 3) (ad (11 + 13 + 3)) := rfl
      have hay92 : zAt ad (11 + 17) (ad (11 + 17)) := rfl
      obtain ⟨uy93t, uy93z, uy93o, uy93r, uy93z4, uy93t5, uy931, ⟨uy93u, uy932, uy933⟩, uy934⟩ := id csy84
      have hay94 : zAt ad (11 + 1) (ad (11 + 1)) := rfl
      have hay95 : zAt ad (11 + 1 + 1) (ad (11 + 1 + 1)) := rfl
      obtain ⟨sloy96, hooy96, uaoy96, stoy96, opoy96, aioy96, faoy96, muoy96, tboy96, hsloy96, hhooy96, hpoy96⟩ := id kry63
      have hay97 : zAt ad (883 + 1) (ad (883 + 1)) := rfl
      have hay98 : zAt ad (883 + 2) (ad (883 + 2)) := rfl
      have hay99 : zAt ad (883 + 3) (ad (883 + 3)) := rfl
      have hay100 : zAt ad (883 + 4) (ad (883 + 4)) := rfl
      have hay101 : zAt ad (883 + 5) (ad (883 + 5)) := rfl
      have hay102 : zAt ad (883 + 6) (ad (883 + 6)) := rfl
      obtain ⟨mnqy103, fiqy103, uqy103, qqy103, h1qy103, h2qy103, h3qy103, h4qy103⟩ := id nry63
      have hay104 : zAt ad (910 + 1) (ad (910 + 1)) := rfl
      refine z_iload_n C 0 dX9_guessFalls_20 rfl ?_
      refine z_aload_n C 1 dX9_guessFalls_21 rfl ?_
      refine z_get (v := .ref (ad 4)) C (lt_K hN (rfl : Nat.blt (0) 952 = true)) hay64 ary63 rfl inA_X9 4 (by decide) q_353 rfl rfl dX9_guessFalls_22 ?_
      refine z_get (v := .int (zI (ho))) C (lt_K hN (rfl : Nat.blt (4) 952 = true)) hay67 fry63.1 rfl inA_X5 1 (by decide) q_93 rfl rfl dX9_guessFalls_25 ?_
      refine z_icmp_ge (tgt := 131) C dX9_guessFalls_28 (by decide) (by omega) (by omega) (fun hby105 => ?_) (fun hby105 => ?_)
      · have hrecy106 : okRec cs ad g1 N (t) (fp) (im) (nz) (kz) (sl) (ho) (ua) (st) (op) (ai) (fa) (mu) (tb) (tp) := ⟨ary63, bry63, cry63, dry63, ery63, fry63, gry631, hry63, ⟨_, iry63⟩, ⟨_, jry63⟩, kry63, lry63, mry63, nry63, ory63, pry63⟩
        exact z_vret C hr hlk dX9_guessFalls_131 (by decide) (by decide) ⟨rfl, rfl, rfl, hrecy106, fun j j1 j2 => by exact f2 j j1 j2⟩
      · refine z_aload_n C 1 dX9_guessFalls_31 rfl ?_
        refine z_get (v := .ref (ad 4)) C (lt_K hN (rfl : Nat.blt (0) 952 = true)) hay64 ary63 rfl inA_X9 4 (by decide) q_353 rfl rfl dX9_guessFalls_32 ?_
        refine z_get (v := .ref (ad (4 + 4))) C (lt_K hN (rfl : Nat.blt (4) 952 = true)) hay67 fry63.1 rfl inA_X5 6 (by decide) q_108 rfl rfl dX9_guessFalls_35 ?_
        refine z_iload_n C 0 dX9_guessFalls_38 rfl ?_
        refine z_iald C (lt_K hN (rfl : Nat.blt (4 + 4) 952 = true)) hay79 fry63.2.2.2.2.1 ((i).toNat) (by omega) (by omega) (by decide) dX9_guessFalls_39 ?_
        refine z_iconst (z := 1) C dX9_guessFalls_40 rfl ?_
        obtain ⟨xy107, exy108, hxy109⟩ := zI_of (zI (fa ((i).toNat)))
        rw [exy108]
        refine z_icmp_eq (tgt := 57) C dX9_guessFalls_41 (by decide) (by omega) (by omega) (fun hby110 => ?_) (fun hby110 => ?_)
        · refine z_iload_n C 0 dX9_guessFalls_57 rfl ?_
          refine z_aload_n C 1 dX9_guessFalls_58 rfl ?_
          refine z_get (v := .ref (ad 11)) C (lt_K hN (rfl : Nat.blt (0) 952 = true)) hay64 ary63 rfl inA_X9 5 (by decide) q_354 rfl rfl dX9_guessFalls_59 ?_
          refine z_get (v := .ref (ad (11 + 1))) C (lt_K hN (rfl : Nat.blt (11) 952 = true)) hay68 iry63.1 rfl inA_X6 0 (by decide) q_258 rfl rfl dX9_guessFalls_62 ?_
          refine z_get (v := .int (zI (uy93t 0))) C (lt_K hN (rfl : Nat.blt (11 + 1) 952 = true)) hay94 uy931 rfl inA_X8 0 (by decide) q_174 rfl rfl dX9_guessFalls_65 ?_
          refine z_isub C dX9_guessFalls_68 ?_
          refine z_aload_n C 1 dX9_guessFalls_69 rfl ?_
          refine z_get (v := .ref (ad 4)) C (lt_K hN (rfl : Nat.blt (0) 952 = true)) hay64 ary63 rfl inA_X9 4 (by decide) q_353 rfl rfl dX9_guessFalls_70 ?_
          refine z_get (v := .int (zI (ho))) C (lt_K hN (rfl : Nat.blt (4) 952 = true)) hay67 fry63.1 rfl inA_X5 1 (by decide) q_93 rfl rfl dX9_guessFalls_73 ?_
          obtain ⟨xy111, exy112, hxy113⟩ := zI_of (zI (i - (uy93t 0)))
          rw [exy112]
          refine z_cS (As := [.int (zI (xy111)), .int (zI (ho))]) (rest := []) C (c_floorMod l D A cs tt N ad _ (xy111) (by omega) (ho) (by omega)) ms_yJ9_floorMod_7cf53 q_1380 hd_yJ9_floorMod_7cf53 (by decide) (Nat.le_of_ble_eq_true rfl) (by decide) dX9_guessFalls_76 rfl (kI0 fun vy114 gvy114 hvy114 => ?_)
          obtain ⟨hvy114, rfl⟩ := hvy114
          refine z_istore_n (lv' := [(3, .int (zI (vy114))), (2, .int (zI (i))), (0, .ref (ad 0)), (1, .int (zI (z)))]) C dX9_guessFalls_79 rfl (by decide) rfl ?_
          refine z_aload_n C 2 dX9_guessFalls_80 rfl ?_
          refine z_get (v := .ref (ad 900)) C (lt_K hN (rfl : Nat.blt (0) 952 = true)) hay64 ary63 rfl inA_X9 10 (by decide) q_359 rfl rfl dX9_guessFalls_81 ?_
          refine z_aload_n C 2 dX9_guessFalls_84 rfl ?_
          refine z_get (v := .ref (ad 11)) C (lt_K hN (rfl : Nat.blt (0) 952 = true)) hay64 ary63 rfl inA_X9 5 (by decide) q_354 rfl rfl dX9_guessFalls_85 ?_
          refine z_get (v := .ref (ad (11 + 1))) C (lt_K hN (rfl : Nat.blt (11) 952 = true)) hay68 iry63.1 rfl inA_X6 0 (by decide) q_258 rfl rfl dX9_guessFalls_88 ?_
          refine z_cV (As := [.ref (ad (11 + 1))]) (rest := []) (ci := 10) C (c_X8_copyFrom l D A cs tt N ad _ (900) (by omega) mry63 (11 + 1) (by omega) csy84 (by omega)) (lt_K hN (rfl : Nat.blt (900) 952 = true)) hay72 hwhcy83.1 rfl rfl mv_yX8_copyFrom q_1228 hd_yX8_copyFrom (by decide) (Nat.le_of_ble_eq_true rfl) (by decide) dX9_guessFalls_91 rfl (kV0 fun gvy115 hvy115 => ?_)
          obtain ⟨⟨tvy115, zvy115, ovy115, rvy115, hzvy115, htvy115, -, hwvy115⟩, hfvy115⟩ := hvy115
          have hoky116 : okWorld cs ad gvy115 (900) := ⟨_, _, _, _, hzvy115, htvy115, hwvy115⟩
          obtain ⟨thcy117, zhcy117, ohcy117, rhcy117, hzhcy117, hthcy117, hwhcy117⟩ := id hoky116
          refine z_aload_n C 2 dX9_guessFalls_94 rfl ?_
          refine z_aload_n C 2 dX9_guessFalls_95 rfl ?_
          have hgy118 := (hfvy115 (0) (by omega)).trans ary63
          refine z_get (v := .ref (ad 900)) C (lt_K hN (rfl : Nat.blt (0) 952 = true)) hay64 hgy118 rfl inA_X9 10 (by decide) q_359 rfl rfl dX9_guessFalls_96 ?_
          refine z_aload_n C 2 dX9_guessFalls_99 rfl ?_
          refine z_get (v := .ref (ad 4)) C (lt_K hN (rfl : Nat.blt (0) 952 = true)) hay64 hgy118 rfl inA_X9 4 (by decide) q_353 rfl rfl dX9_guessFalls_100 ?_
          refine z_aload_n C 2 dX9_guessFalls_103 rfl ?_
          refine z_get (v := .ref (ad 4)) C (lt_K hN (rfl : Nat.blt (0) 952 = true)) hay64 hgy118 rfl inA_X9 4 (by decide) q_353 rfl rfl dX9_guessFalls_104 ?_
          have hgy120 := (hfvy115 (4) (by omega)).trans fry63.1
          have hgy121 := (hfvy115 (4 + 1) (by omega)).trans fry63.2.1
          have hgy122 := (hfvy115 (4 + 2) (by omega)).trans fry63.2.2.1
          have hgy123 := (hfvy115 (4 + 3) (by omega)).trans fry63.2.2.2.1
          have hgy124 := (hfvy115 (4 + 4) (by omega)).trans fry63.2.2.2.2.1
          have hgy125 := (hfvy115 (4 + 5) (by omega)).trans fry63.2.2.2.2.2.1
          have hgy126 := (hfvy115 (4 + 6) (by omega)).trans fry63.2.2.2.2.2.2
          refine z_cV (As := []) (rest := [.ref (ad 4), .ref (ad 900), .ref (ad 0)]) (ci := 7) C (c_X5_allSlopes l D A cs tt N ad _ (4) (by omega) _ _ _ _ _ _ _ _ _ ⟨hgy120, hgy121, hgy122, hgy123, hgy124, hgy125, hgy126⟩) (lt_K hN (rfl : Nat.blt (4) 952 = true)) hay67 hgy120 rfl rfl mv_yX5_allSlopes q_431 hd_yX5_allSlopes (by decide) (Nat.le_of_ble_eq_true rfl) (by decide) dX9_guessFalls_107 rfl (kI0 fun vy119 gvy119 hvy119 => ?_)
          obtain ⟨hvy119, rfl⟩ := hvy119
          refine z_iconst (z := 0) C dX9_guessFalls_110 rfl ?_
          refine z_iload_n C 0 dX9_guessFalls_111 rfl ?_
          have hgy128 := (hfvy115 (1) (by omega)).trans dry63
          have hpy129 := okState.mv (ad' := ad) (g' := gvy115) (fun j h1 h2 => by rfl) (fun j h1 h2 => by rw [hfvy115 _ (by omega)]) iry63
          have hpy130 := okRdr.mv (ad' := ad) (g' := gvy115) (fun j h1 h2 => by rfl) (fun j h1 h2 => by rw [hfvy115 _ (by omega)]) ery63
          have hpy131 := isPlan.mv (ad' := ad) (g' := gvy115) (fun j h1 h2 => by rfl) (fun j h1 h2 => by rw [hfvy115 _ (by omega)]) fry63
          have hpy132 := okState.mv (ad' := ad) (g' := gvy115) (fun j h1 h2 => by rfl) (fun j h1 h2 => by rw [hfvy115 _ (by omega)]) jry63
          have hpy133 := okPlan.mv (ad' := ad) (g' := gvy115) (fun j h1 h2 => by rfl) (fun j h1 h2 => by rw [hfvy115 _ (by omega)]) kry63
          have hpy134 := okGss.mv (ad' := ad) (g' := gvy115) (fun j h1 h2 => by rfl) (fun j h1 h2 => by rw [hfvy115 _ (by omega)]) nry63
          have hpy135 := okLike.mv (ad' := ad) (g' := gvy115) (fun j h1 h2 => by rfl) (fun j h1 h2 => by rw [hfvy115 _ (by omega)]) ory63
          have hpy136 := okBld.mv (ad' := ad) (g' := gvy115) (fun j h1 h2 => by rfl) (fun j h1 h2 => by rw [hfvy115 _ (by omega)]) pry63
          have hoky137 : okWorld cs ad gvy115 (890) := okWorld.mv (fun j j1 j2 => by rw [hfvy115 _ (by omega)]) lry63
          have hrecy138 : okRec cs ad gvy115 N (t) (fp) (im) (nz) (kz) (sl) (ho) (ua) (st) (op) (ai) (fa) (mu) (tb) (tp) := ⟨hgy118, bry63, cry63, hgy128, hpy130, hpy131, gry631, hry63, ⟨_, hpy129⟩, ⟨_, hpy132⟩, hpy133, hoky137, hoky116, hpy134, hpy135, hpy136⟩
          refine z_cV (As := [.ref (ad 900), .ref (ad 4), .int (zI (vy119)), .int (zI (0)), .int (zI (vy114))]) (rest := []) (ci := 11) C (c_X9_isNotedSo_900_4 l D A cs tt N ad _ hN _ _ _ _ _ _ _ _ _ _ _ _ _ _ _ hrecy138 (vy119) (by omega) (0) (by omega) (vy114) (by omega)) (lt_K hN (rfl : Nat.blt (0) 952 = true)) hay64 hgy118 rfl rfl mv_yX9_isNotedSo q_1368 hd_yX9_isNotedSo (by decide) (Nat.le_of_ble_eq_true rfl) (by decide) dX9_guessFalls_112 rfl (kI0 fun vy127 gvy127 hvy127 => ?_)
          obtain ⟨hrvy127, hkvy127, hfvy127⟩ := hvy127
          obtain ⟨ary139, bry139, cry139, dry139, ery139, fry139, gry1391, hry139, ⟨acry139, iry139⟩, ⟨kcry139, jry139⟩, kry139, lry139, mry139, nry139, ory139, pry139⟩ := id hkvy127
          obtain ⟨thcy140, zhcy140, ohcy140, rhcy140, hzhcy140, hthcy140, hwhcy140⟩ := id lry139
          obtain ⟨thcy141, zhcy141, ohcy141, rhcy141, hzhcy141, hthcy141, hwhcy141⟩ := id mry139
          obtain ⟨asy142, bsy142, csy142, dsy142, esy142, ⟨ptsy142, fsy142, gsy1421⟩, hsy142, ⟨nusy142, nvsy142, nwsy142, isy142, jsy142, ksy142, lsy142, msy142, nsy142⟩, rfsy142, osy142⟩ := id iry139
          obtain ⟨uy143t, uy143z, uy143o, uy143r, uy143z4, uy143t5, uy1431, ⟨uy143u, uy1432, uy1433⟩, uy1434⟩ := id csy142
          have hay144 : zAt ad (11 + 1) (ad (11 + 1)) := rfl
          have hay145 : zAt ad (11 + 1 + 1) (ad (11 + 1 + 1)) := rfl
          obtain ⟨sloy146, hooy146, uaoy146, stoy146, opoy146, aioy146, faoy146, muoy146, tboy146, hsloy146, hhooy146, hpoy146⟩ := id kry139
          refine z_if_eq (tgt := 125) C dX9_guessFalls_115 (by decide) (by omega) (fun hby147 => ?_) (fun hby147 => ?_)
          · refine z_iinc (z := i + 1) (lv' := [(2, .int (zI (i + 1))), (3, .int (zI (vy114))), (0, .ref (ad 0)), (1, .int (zI (z)))]) (j := 1) C dX9_guessFalls_125 rfl rfl (by decide) rfl ?_
            refine z_goto (tgt := 20) C dX9_guessFalls_128 (by decide) ?_
            have hrecy148 : okRec cs ad gvy127 N (t) (fp) (im) (nz) (kz) (sl) (ho) (ua) (st) (op) (ai) (fa) (mu) (tb) (tp) := ⟨ary139, bry139, cry139, dry139, ery139, fry139, gry1391, hry139, ⟨_, iry139⟩, ⟨_, jry139⟩, kry139, lry139, mry139, nry139, ory139, pry139⟩
            refine z_lv (lv' := [(2, .int (zI (i + 1))), (0, .ref (ad 0)), (1, .int (zI (z)))]) [0, 2, 3] rfl ?_
            exact ih_lp20 _ (by omega) (i + 1) gvy127 rfl hrecy148 (fun j j1 j2 => by rw [hfvy127 _ (by omega) (by omega)]; rw [hfvy115 _ (by omega)]; exact f2 j j1 j2) (by omega)
          · refine z_aload_n C 2 dX9_guessFalls_118 rfl ?_
            refine z_iload_n C 1 dX9_guessFalls_119 rfl ?_
            refine z_iload_n C 0 dX9_guessFalls_120 rfl ?_
            refine z_iload_n C 3 dX9_guessFalls_121 rfl ?_
            have hrecy150 : okRec cs ad gvy127 N (t) (fp) (im) (nz) (kz) (sl) (ho) (ua) (st) (op) (ai) (fa) (mu) (tb) (tp) := ⟨ary139, bry139, cry139, dry139, ery139, fry139, gry1391, hry139, ⟨_, iry139⟩, ⟨_, jry139⟩, kry139, lry139, mry139, nry139, ory139, pry139⟩
            refine z_cV (As := [.int (zI (i)), .int (zI (vy114)), .int (zI (z))]) (rest := []) (ci := 11) C (c_X9_guessMuch l D A cs tt N ad _ hN _ _ _ _ _ _ _ _ _ _ _ _ _ _ _ hrecy150 (i) (by omega) (vy114) (by omega) (z) (by omega)) (lt_K hN (rfl : Nat.blt (0) 952 = true)) hay64 ary139 rfl rfl mv_yX9_guessMuch q_1381 hd_yX9_guessMuch (by decide) (Nat.le_of_ble_eq_true rfl) (by decide) dX9_guessFalls_122 rfl (kV0 fun gvy149 hvy149 => ?_)
            obtain ⟨hkvy149, hfvy149⟩ := hvy149
            obtain ⟨ary151, bry151, cry151, dry151, ery151, fry151, gry1511, hry151, ⟨acry151, iry151⟩, ⟨kcry151, jry151⟩, kry151, lry151, mry151, nry151, ory151, pry151⟩ := id hkvy149
            obtain ⟨thcy152, zhcy152, ohcy152, rhcy152, hzhcy152, hthcy152, hwhcy152⟩ := id lry151
            obtain ⟨thcy153, zhcy153, ohcy153, rhcy153, hzhcy153, hthcy153, hwhcy153⟩ := id mry151
            obtain ⟨asy154, bsy154, csy154, dsy154, esy154, ⟨ptsy154, fsy154, gsy1541⟩, hsy154, ⟨nusy154, nvsy154, nwsy154, isy154, jsy154, ksy154, lsy154, msy154, nsy154⟩, rfsy154, osy154⟩ := id iry151
            obtain ⟨uy155t, uy155z, uy155o, uy155r, uy155z4, uy155t5, uy1551, ⟨uy155u, uy1552, uy1553⟩, uy1554⟩ := id csy154
            have hay156 : zAt ad (11 + 1) (ad (11 + 1)) := rfl
            have hay157 : zAt ad (11 + 1 + 1) (ad (11 + 1 + 1)) := rfl
            obtain ⟨sloy158, hooy158, uaoy158, stoy158, opoy158, aioy158, faoy158, muoy158, tboy158, hsloy158, hhooy158, hpoy158⟩ := id kry151
            refine z_iinc (z := i + 1) (lv' := [(2, .int (zI (i + 1))), (3, .int (zI (vy114))), (0, .ref (ad 0)), (1, .int (zI (z)))]) (j := 1) C dX9_guessFalls_125 rfl rfl (by decide) rfl ?_
            refine z_goto (tgt := 20) C dX9_guessFalls_128 (by decide) ?_
            have hrecy159 : okRec cs ad gvy149 N (t) (fp) (im) (nz) (kz) (sl) (ho) (ua) (st) (op) (ai) (fa) (mu) (tb) (tp) := ⟨ary151, bry151, cry151, dry151, ery151, fry151, gry1511, hry151, ⟨_, iry151⟩, ⟨_, jry151⟩, kry151, lry151, mry151, nry151, ory151, pry151⟩
            refine z_lv (lv' := [(2, .int (zI (i + 1))), (0, .ref (ad 0)), (1, .int (zI (z)))]) [0, 2, 3] rfl ?_
            exact ih_lp20 _ (by omega) (i + 1) gvy149 rfl hrecy159 (fun j j1 j2 => by rw [hfvy149 _ (by omega) (by omega)]; rw [hfvy127 _ (by omega) (by omega)]; rw [hfvy115 _ (by omega)]; exact f2 j j1 j2) (by omega)
        · refine z_aload_n C 1 dX9_guessFalls_44 rfl ?_
          refine z_get (v := .ref (ad 4)) C (lt_K hN (rfl : Nat.blt (0) 952 = true)) hay64 ary63 rfl inA_X9 4 (by decide) q_353 rfl rfl dX9_guessFalls_45 ?_
          refine z_get (v := .ref (ad (4 + 4))) C (lt_K hN (rfl : Nat.blt (4) 952 = true)) hay67 fry63.1 rfl inA_X5 6 (by decide) q_108 rfl rfl dX9_guessFalls_48 ?_
          refine z_iload_n C 0 dX9_guessFalls_51 rfl ?_
          refine z_iald C (lt_K hN (rfl : Nat.blt (4 + 4) 952 = true)) hay79 fry63.2.2.2.2.1 ((i).toNat) (by omega) (by omega) (by decide) dX9_guessFalls_52 ?_
          refine z_iconst (z := 2) C dX9_guessFalls_53 rfl ?_
          obtain ⟨xy160, exy161, hxy162⟩ := zI_of (zI (fa ((i).toNat)))
          rw [exy161]
          refine z_icmp_ne (tgt := 125) C dX9_guessFalls_54 (by decide) (by omega) (by omega) (fun hby163 => ?_) (fun hby163 => ?_)
          · refine z_iinc (z := i + 1) (lv' := [(2, .int (zI (i + 1))), (0, .ref (ad 0)), (1, .int (zI (z)))]) (j := 0) C dX9_guessFalls_125 rfl rfl (by decide) rfl ?_
            refine z_goto (tgt := 20) C dX9_guessFalls_128 (by decide) ?_
            have hrecy164 : okRec cs ad g1 N (t) (fp) (im) (nz) (kz) (sl) (ho) (ua) (st) (op) (ai) (fa) (mu) (tb) (tp) := ⟨ary63, bry63, cry63, dry63, ery63, fry63, gry631, hry63, ⟨_, iry63⟩, ⟨_, jry63⟩, kry63, lry63, mry63, nry63, ory63, pry63⟩
            refine z_lv (lv' := [(2, .int (zI (i + 1))), (0, .ref (ad 0)), (1, .int (zI (z)))]) [0, 1, 2] rfl ?_
            exact ih_lp20 _ (by omega) (i + 1) g1 rfl hrecy164 (fun j j1 j2 => by exact f2 j j1 j2) (by omega)
          · refine z_iload_n C 0 dX9_guessFalls_57 rfl ?_
            refine z_aload_n C 1 dX9_guessFalls_58 rfl ?_
            refine z_get (v := .ref (ad 11)) C (lt_K hN (rfl : Nat.blt (0) 952 = true)) hay64 ary63 rfl inA_X9 5 (by decide) q_354 rfl rfl dX9_guessFalls_59 ?_
            refine z_get (v := .ref (ad (11 + 1))) C (lt_K hN (rfl : Nat.blt (11) 952 = true)) hay68 iry63.1 rfl inA_X6 0 (by decide) q_258 rfl rfl dX9_guessFalls_62 ?_
            refine z_get (v := .int (zI (uy93t 0))) C (lt_K hN (rfl : Nat.blt (11 + 1) 952 = true)) hay94 uy931 rfl inA_X8 0 (by decide) q_174 rfl rfl dX9_guessFalls_65 ?_
            refine z_isub C dX9_guessFalls_68 ?_
            refine z_aload_n C 1 dX9_guessFalls_69 rfl ?_
            refine z_get (v := .ref (ad 4)) C (lt_K hN (rfl : Nat.blt (0) 952 = true)) hay64 ary63 rfl inA_X9 4 (by decide) q_353 rfl rfl dX9_guessFalls_70 ?_
            refine z_get (v := .int (zI (ho))) C (lt_K hN (rfl : Nat.blt (4) 952 = true)) hay67 fry63.1 rfl inA_X5 1 (by decide) q_93 rfl rfl dX9_guessFalls_73 ?_
            obtain ⟨xy165, exy166, hxy167⟩ := zI_of (zI (i - (uy93t 0)))
            rw [exy166]
            refine z_cS (As := [.int (zI (xy165)), .int (zI (ho))]) (rest := []) C (c_floorMod l D A cs tt N ad _ (xy165) (by omega) (ho) (by omega)) ms_yJ9_floorMod_7cf53 q_1380 hd_yJ9_floorMod_7cf53 (by decide) (Nat.le_of_ble_eq_true rfl) (by decide) dX9_guessFalls_76 rfl (kI0 fun vy168 gvy168 hvy168 => ?_)
            obtain ⟨hvy168, rfl⟩ := hvy168
            refine z_istore_n (lv' := [(3, .int (zI (vy168))), (2, .int (zI (i))), (0, .ref (ad 0)), (1, .int (zI (z)))]) C dX9_guessFalls_79 rfl (by decide) rfl ?_
            refine z_aload_n C 2 dX9_guessFalls_80 rfl ?_
            refine z_get (v := .ref (ad 900)) C (lt_K hN (rfl : Nat.blt (0) 952 = true)) hay64 ary63 rfl inA_X9 10 (by decide) q_359 rfl rfl dX9_guessFalls_81 ?_
            refine z_aload_n C 2 dX9_guessFalls_84 rfl ?_
            refine z_get (v := .ref (ad 11)) C (lt_K hN (rfl : Nat.blt (0) 952 = true)) hay64 ary63 rfl inA_X9 5 (by decide) q_354 rfl rfl dX9_guessFalls_85 ?_
            refine z_get (v := .ref (ad (11 + 1))) C (lt_K hN (rfl : Nat.blt (11) 952 = true)) hay68 iry63.1 rfl inA_X6 0 (by decide) q_258 rfl rfl dX9_guessFalls_88 ?_
            refine z_cV (As := [.ref (ad (11 + 1))]) (rest := []) (ci := 10) C (c_X8_copyFrom l D A cs tt N ad _ (900) (by omega) mry63 (11 + 1) (by omega) csy84 (by omega)) (lt_K hN (rfl : Nat.blt (900) 952 = true)) hay72 hwhcy83.1 rfl rfl mv_yX8_copyFrom q_1228 hd_yX8_copyFrom (by decide) (Nat.le_of_ble_eq_true rfl) (by decide) dX9_guessFalls_91 rfl (kV0 fun gvy169 hvy169 => ?_)
            obtain ⟨⟨tvy169, zvy169, ovy169, rvy169, hzvy169, htvy169, -, hwvy169⟩, hfvy169⟩ := hvy169
            have hoky170 : okWorld cs ad gvy169 (900) := ⟨_, _, _, _, hzvy169, htvy169, hwvy169⟩
            obtain ⟨thcy171, zhcy171, ohcy171, rhcy171, hzhcy171, hthcy171, hwhcy171⟩ := id hoky170
            refine z_aload_n C 2 dX9_guessFalls_94 rfl ?_
            refine z_aload_n C 2 dX9_guessFalls_95 rfl ?_
            have hgy172 := (hfvy169 (0) (by omega)).trans ary63
            refine z_get (v := .ref (ad 900)) C (lt_K hN (rfl : Nat.blt (0) 952 = true)) hay64 hgy172 rfl inA_X9 10 (by decide) q_359 rfl rfl dX9_guessFalls_96 ?_
            refine z_aload_n C 2 dX9_guessFalls_99 rfl ?_
            refine z_get (v := .ref (ad 4)) C (lt_K hN (rfl : Nat.blt (0) 952 = true)) hay64 hgy172 rfl inA_X9 4 (by decide) q_353 rfl rfl dX9_guessFalls_100 ?_
            refine z_aload_n C 2 dX9_guessFalls_103 rfl ?_
            refine z_get (v := .ref (ad 4)) C (lt_K hN (rfl : Nat.blt (0) 952 = true)) hay64 hgy172 rfl inA_X9 4 (by decide) q_353 rfl rfl dX9_guessFalls_104 ?_
            have hgy174 := (hfvy169 (4) (by omega)).trans fry63.1
            have hgy175 := (hfvy169 (4 + 1) (by omega)).trans fry63.2.1
            have hgy176 := (hfvy169 (4 + 2) (by omega)).trans fry63.2.2.1
            have hgy177 := (hfvy169 (4 + 3) (by omega)).trans fry63.2.2.2.1
            have hgy178 := (hfvy169 (4 + 4) (by omega)).trans fry63.2.2.2.2.1
            have hgy179 := (hfvy169 (4 + 5) (by omega)).trans fry63.2.2.2.2.2.1
            have hgy180 := (hfvy169 (4 + 6) (by omega)).trans fry63.2.2.2.2.2.2
            refine z_cV (As := []) (rest := [.ref (ad 4), .ref (ad 900), .ref (ad 0)]) (ci := 7) C (c_X5_allSlopes l D A cs tt N ad _ (4) (by omega) _ _ _ _ _ _ _ _ _ ⟨hgy174, hgy175, hgy176, hgy177, hgy178, hgy179, hgy180⟩) (lt_K hN (rfl : Nat.blt (4) 952 = true)) hay67 hgy174 rfl rfl mv_yX5_allSlopes q_431 hd_yX5_allSlopes (by decide) (Nat.le_of_ble_eq_true rfl) (by decide) dX9_guessFalls_107 rfl (kI0 fun vy173 gvy173 hvy173 => ?_)
            obtain ⟨hvy173, rfl⟩ := hvy173
            refine z_iconst (z := 0) C dX9_guessFalls_110 rfl ?_
            refine z_iload_n C 0 dX9_guessFalls_111 rfl ?_
            have hgy182 := (hfvy169 (1) (by omega)).trans dry63
            have hpy183 := okState.mv (ad' := ad) (g' := gvy169) (fun j h1 h2 => by rfl) (fun j h1 h2 => by rw [hfvy169 _ (by omega)]) iry63
            have hpy184 := okRdr.mv (ad' := ad) (g' := gvy169) (fun j h1 h2 => by rfl) (fun j h1 h2 => by rw [hfvy169 _ (by omega)]) ery63
            have hpy185 := isPlan.mv (ad' := ad) (g' := gvy169) (fun j h1 h2 => by rfl) (fun j h1 h2 => by rw [hfvy169 _ (by omega)]) fry63
            have hpy186 := okState.mv (ad' := ad) (g' := gvy169) (fun j h1 h2 => by rfl) (fun j h1 h2 => by rw [hfvy169 _ (by omega)]) jry63
            have hpy187 := okPlan.mv (ad' := ad) (g' := gvy169) (fun j h1 h2 => by rfl) (fun j h1 h2 => by rw [hfvy169 _ (by omega)]) kry63
            have hpy188 := okGss.mv (ad' := ad) (g' := gvy169) (fun j h1 h2 => by rfl) (fun j h1 h2 => by rw [hfvy169 _ (by omega)]) nry63
            have hpy189 := okLike.mv (ad' := ad) (g' := gvy169) (fun j h1 h2 => by rfl) (fun j h1 h2 => by rw [hfvy169 _ (by omega)]) ory63
            have hpy190 := okBld.mv (ad' := ad) (g' := gvy169) (fun j h1 h2 => by rfl) (fun j h1 h2 => by rw [hfvy169 _ (by omega)]) pry63
            have hoky191 : okWorld cs ad gvy169 (890) := okWorld.mv (fun j j1 j2 => by rw [hfvy169 _ (by omega)]) lry63
            have hrecy192 : okRec cs ad gvy169 N (t) (fp) (im) (nz) (kz) (sl) (ho) (ua) (st) (op) (ai) (fa) (mu) (tb) (tp) := ⟨hgy172, bry63, cry63, hgy182, hpy184, hpy185, gry631, hry63, ⟨_, hpy183⟩, ⟨_, hpy186⟩, hpy187, hoky191, hoky170, hpy188, hpy189, hpy190⟩
            refine z_cV (As := [.ref (ad 900), .ref (ad 4), .int (zI (vy173)), .int (zI (0)), .int (zI (vy168))]) (rest := []) (ci := 11) C (c_X9_isNotedSo_900_4 l D A cs tt N ad _ hN _ _ _ _ _ _ _ _ _ _ _ _ _ _ _ hrecy192 (vy173) (by omega) (0) (by omega) (vy168) (by omega)) (lt_K hN (rfl : Nat.blt (0) 952 = true)) hay64 hgy172 rfl rfl mv_yX9_isNotedSo q_1368 hd_yX9_isNotedSo (by decide) (Nat.le_of_ble_eq_true rfl) (by decide) dX9_guessFalls_112 rfl (kI0 fun vy181 gvy181 hvy181 => ?_)
            obtain ⟨hrvy181, hkvy181, hfvy181⟩ := hvy181
            obtain ⟨ary193, bry193, cry193, dry193, ery193, fry193, gry1931, hry193, ⟨acry193, iry193⟩, ⟨kcry193, jry193⟩, kry193, lry193, mry193, nry193, ory193, pry193⟩ := id hkvy181
            obtain ⟨thcy194, zhcy194, ohcy194, rhcy194, hzhcy194, hthcy194, hwhcy194⟩ := id lry193
            obtain ⟨thcy195, zhcy195, ohcy195, rhcy195, hzhcy195, hthcy195, hwhcy195⟩ := id mry193
            obtain ⟨asy196, bsy196, csy196, dsy196, esy196, ⟨ptsy196, fsy196, gsy1961⟩, hsy196, ⟨nusy196, nvsy196, nwsy196, isy196, jsy196, ksy196, lsy196, msy196, nsy196⟩, rfsy196, osy196⟩ := id iry193
            obtain ⟨uy197t, uy197z, uy197o, uy197r, uy197z4, uy197t5, uy1971, ⟨uy197u, uy1972, uy1973⟩, uy1974⟩ := id csy196
            have hay198 : zAt ad (11 + 1) (ad (11 + 1)) := rfl
            have hay199 : zAt ad (11 + 1 + 1) (ad (11 + 1 + 1)) := rfl
            obtain ⟨sloy200, hooy200, uaoy200, stoy200, opoy200, aioy200, faoy200, muoy200, tboy200, hsloy200, hhooy200, hpoy200⟩ := id kry193
            refine z_if_eq (tgt := 125) C dX9_guessFalls_115 (by decide) (by omega) (fun hby201 => ?_) (fun hby201 => ?_)
            · refine z_iinc (z := i + 1) (lv' := [(2, .int (zI (i + 1))), (3, .int (zI (vy168))), (0, .ref (ad 0)), (1, .int (zI (z)))]) (j := 1) C dX9_guessFalls_125 rfl rfl (by decide) rfl ?_
              refine z_goto (tgt := 20) C dX9_guessFalls_128 (by decide) ?_
              have hrecy202 : okRec cs ad gvy181 N (t) (fp) (im) (nz) (kz) (sl) (ho) (ua) (st) (op) (ai) (fa) (mu) (tb) (tp) := ⟨ary193, bry193, cry193, dry193, ery193, fry193, gry1931, hry193, ⟨_, iry193⟩, ⟨_, jry193⟩, kry193, lry193, mry193, nry193, ory193, pry193⟩
              refine z_lv (lv' := [(2, .int (zI (i + 1))), (0, .ref (ad 0)), (1, .int (zI (z)))]) [0, 2, 3] rfl ?_
              exact ih_lp20 _ (by omega) (i + 1) gvy181 rfl hrecy202 (fun j j1 j2 => by rw [hfvy181 _ (by omega) (by omega)]; rw [hfvy169 _ (by omega)]; exact f2 j j1 j2) (by omega)
            · refine z_aload_n C 2 dX9_guessFalls_118 rfl ?_
              refine z_iload_n C 1 dX9_guessFalls_119 rfl ?_
              refine z_iload_n C 0 dX9_guessFalls_120 rfl ?_
              refine z_iload_n C 3 dX9_guessFalls_121 rfl ?_
              have hrecy204 : okRec cs ad gvy181 N (t) (fp) (im) (nz) (kz) (sl) (ho) (ua) (st) (op) (ai) (fa) (mu) (tb) (tp) := ⟨ary193, bry193, cry193, dry193, ery193, fry193, gry1931, hry193, ⟨_, iry193⟩, ⟨_, jry193⟩, kry193, lry193, mry193, nry193, ory193, pry193⟩
              refine z_cV (As := [.int (zI (i)), .int (zI (vy168)), .int (zI (z))]) (rest := []) (ci := 11) C (c_X9_guessMuch l D A cs tt N ad _ hN _ _ _ _ _ _ _ _ _ _ _ _ _ _ _ hrecy204 (i) (by omega) (vy168) (by omega) (z) (by omega)) (lt_K hN (rfl : Nat.blt (0) 952 = true)) hay64 ary193 rfl rfl mv_yX9_guessMuch q_1381 hd_yX9_guessMuch (by decide) (Nat.le_of_ble_eq_true rfl) (by decide) dX9_guessFalls_122 rfl (kV0 fun gvy203 hvy203 => ?_)
              obtain ⟨hkvy203, hfvy203⟩ := hvy203
              obtain ⟨ary205, bry205, cry205, dry205, ery205, fry205, gry2051, hry205, ⟨acry205, iry205⟩, ⟨kcry205, jry205⟩, kry205, lry205, mry205, nry205, ory205, pry205⟩ := id hkvy203
              obtain ⟨thcy206, zhcy206, ohcy206, rhcy206, hzhcy206, hthcy206, hwhcy206⟩ := id lry205
              obtain ⟨thcy207, zhcy207, ohcy207, rhcy207, hzhcy207, hthcy207, hwhcy207⟩ := id mry205
              obtain ⟨asy208, bsy208, csy208, dsy208, esy208, ⟨ptsy208, fsy208, gsy2081⟩, hsy208, ⟨nusy208, nvsy208, nwsy208, isy208, jsy208, ksy208, lsy208, msy208, nsy208⟩, rfsy208, osy208⟩ := id iry205
              obtain ⟨uy209t, uy209z, uy209o, uy209r, uy209z4, uy209t5, uy2091, ⟨uy209u, uy2092, uy2093⟩, uy2094⟩ := id csy208
              have hay210 : zAt ad (11 + 1) (ad (11 + 1)) := rfl
              have hay211 : zAt ad (11 + 1 + 1) (ad (11 + 1 + 1)) := rfl
              obtain ⟨sloy212, hooy212, uaoy212, stoy212, opoy212, aioy212, faoy212, muoy212, tboy212, hsloy212, hhooy212, hpoy212⟩ := id kry205
              refine z_iinc (z := i + 1) (lv' := [(2, .int (zI (i + 1))), (3, .int (zI (vy168))), (0, .ref (ad 0)), (1, .int (zI (z)))]) (j := 1) C dX9_guessFalls_125 rfl rfl (by decide) rfl ?_
              refine z_goto (tgt := 20) C dX9_guessFalls_128 (by decide) ?_
              have hrecy213 : okRec cs ad gvy203 N (t) (fp) (im) (nz) (kz) (sl) (ho) (ua) (st) (op) (ai) (fa) (mu) (tb) (tp) := ⟨ary205, bry205, cry205, dry205, ery205, fry205, gry2051, hry205, ⟨_, iry205⟩, ⟨_, jry205⟩, kry205, lry205, mry205, nry205, ory205, pry205⟩
              refine z_lv (lv' := [(2, .int (zI (i + 1))), (0, .ref (ad 0)), (1, .int (zI (z)))]) [0, 2, 3] rfl ?_
              exact ih_lp20 _ (by omega) (i + 1) gvy203 rfl hrecy213 (fun j j1 j2 => by rw [hfvy203 _ (by omega) (by omega)]; rw [hfvy181 _ (by omega) (by omega)]; rw [hfvy169 _ (by omega)]; exact f2 j j1 j2) (by omega)
  have hgy214 := (hfvy46 (0) (by omega)).trans hgy45
  have hgy215 := (hfvy43 (1) (by omega)).trans dry1
  have hgy216 := (hfvy46 (1) (by omega)).trans hgy215
  have hpy217 := okState.mv (ad' := ad) (g' := gvy46) (fun j h1 h2 => by rfl) (fun j h1 h2 => by rw [hfvy46 _ (by omega)]; rw [hfvy43 _ (by omega)]) iry1
  have hpy218 := okRdr.mv (ad' := ad) (g' := gvy46) (fun j h1 h2 => by rfl) (fun j h1 h2 => by rw [hfvy46 _ (by omega)]; rw [hfvy43 _ (by omega)]) ery1
  have hpy219 := isPlan.mv (ad' := ad) (g' := gvy46) (fun j h1 h2 => by rfl) (fun j h1 h2 => by rw [hfvy46 _ (by omega)]; rw [hfvy43 _ (by omega)]) fry1
  have hpy220 := okState.mv (ad' := ad) (g' := gvy46) (fun j h1 h2 => by rfl) (fun j h1 h2 => by rw [hfvy46 _ (by omega)]; rw [hfvy43 _ (by omega)]) jry1
  have hpy221 := okGss.mv (ad' := ad) (g' := gvy46) (fun j h1 h2 => by rfl) (fun j h1 h2 => by rw [hfvy46 _ (by omega)]) hkvy43
  have hpy222 := okLike.mv (ad' := ad) (g' := gvy46) (fun j h1 h2 => by rfl) (fun j h1 h2 => by rw [hfvy46 _ (by omega)]; rw [hfvy43 _ (by omega)]) ory1
  have hpy223 := okBld.mv (ad' := ad) (g' := gvy46) (fun j h1 h2 => by rfl) (fun j h1 h2 => by rw [hfvy46 _ (by omega)]; rw [hfvy43 _ (by omega)]) pry1
  have hoky224 : okWorld cs ad gvy46 (890) := okWorld.mv (fun j j1 j2 => by rw [hfvy46 _ (by omega)]; rw [hfvy43 _ (by omega)]) lry1
  have hoky225 : okWorld cs ad gvy46 (900) := okWorld.mv (fun j j1 j2 => by rw [hfvy46 _ (by omega)]; rw [hfvy43 _ (by omega)]) mry1
  have hrecy226 : okRec cs ad gvy46 N (t) (fp) (im) (nz) (kz) (sl) (ho) (ua) (st) (op) (ai) (fa) (mu) (tb) (tp) := ⟨hgy214, bry1, cry1, hgy216, hpy218, hpy219, gry11, hry1, ⟨_, hpy217⟩, ⟨_, hpy220⟩, hopy61, hoky224, hoky225, hpy221, hpy222, hpy223⟩
  refine z_lv (lv' := [(2, .int (zI (0))), (0, .ref (ad 0)), (1, .int (zI (z)))]) [0, 1, 2] rfl ?_
  exact lp20 _ (0) gvy46 rfl hrecy226 (fun j j1 j2 => by rw [hfvy46 _ (by omega)]; rw [hfvy43 _ (by omega)]) (by omega)

set_option maxRecDepth 100000 in
set_option maxHeartbeats 4000000 in
theorem c_X9_falls (l : Launch) (D : va_G) (A : Nat → Prop) (cs : Nat → ClassId) (tt : Nat) (N : Nat) (ad : Nat → Nat) (g : Nat → va_E) (hN : 952 ≤ N) (t fp im nz kz sl ho ua : Int) (st op ai fa mu tb tp : Nat → Int) (hR : okRec cs ad g N t fp im nz kz sl ho ua st op ai fa mu tb tp) (hl0 : l.stackTraces = false) (z : Int) (hz : -2147483648 ≤ z ∧ z ≤ 2147483647) : zMX l yX9_falls cX9_falls 3 (some .int) ({ frames := 14, cells := 6, slots := 60, locals := 840 } : Room) D A cs tt N ad g [.ref (ad 0), .int (zI (z))] (rI0 N ad fun r g' => (-2147483648 ≤ r ∧ r ≤ 2147483647) ∧ okRec cs ad g' N t fp im nz kz sl ho ua st op ai fa mu tb tp ∧ oX g g') (fun E N' ad' g' => E = eNS ∧ N' = N ∧ ad' = ad ∧ g' = g) := by
  obtain ⟨ary1, bry1, cry1, dry1, ery1, fry1, gry11, hry1, ⟨acry1, iry1⟩, ⟨kcry1, jry1⟩, kry1, lry1, mry1, nry1, ory1, pry1⟩ := id hR
  have hay2 : zAt ad (0) (ad 0) := rfl
  have hay3 : zAt ad (1) (ad 1) := rfl
  have hay4 : zAt ad (2) (ad 2) := rfl
  have hay5 : zAt ad (4) (ad 4) := rfl
  have hay6 : zAt ad (11) (ad 11) := rfl
  have hay7 : zAt ad (447) (ad 447) := rfl
  have hay8 : zAt ad (883) (ad 883) := rfl
  have hay9 : zAt ad (890) (ad 890) := rfl
  have hay10 : zAt ad (900) (ad 900) := rfl
  have hay11 : zAt ad (910) (ad 910) := rfl
  have hay12 : zAt ad (917) (ad 917) := rfl
  have hay13 : zAt ad (919) (ad 919) := rfl
  have hay14 : zAt ad (4 + 1) (ad (4 + 1)) := rfl
  have hay15 : zAt ad (4 + 2) (ad (4 + 2)) := rfl
  have hay16 : zAt ad (4 + 3) (ad (4 + 3)) := rfl
  have hay17 : zAt ad (4 + 4) (ad (4 + 4)) := rfl
  have hay18 : zAt ad (4 + 5) (ad (4 + 5)) := rfl
  have hay19 : zAt ad (4 + 6) (ad (4 + 6)) := rfl
  obtain ⟨thcy20, zhcy20, ohcy20, rhcy20, hzhcy20, hthcy20, hwhcy20⟩ := id lry1
  obtain ⟨thcy21, zhcy21, ohcy21, rhcy21, hzhcy21, hthcy21, hwhcy21⟩ := id mry1
  obtain ⟨asy22, bsy22, csy22, dsy22, esy22, ⟨ptsy22, fsy22, gsy221⟩, hsy22, ⟨nusy22, nvsy22, nwsy22, isy22, jsy22, ksy22, lsy22, msy22, nsy22⟩, rfsy22, osy22⟩ := id iry1
  have hay23 : zAt ad (11 + 1) (ad (11 + 1)) := rfl
  have hay24 : zAt ad (11 + 11) (ad (11 + 11)) := rfl
  have hay25 : zAt ad (11 + 12) (ad (11 + 12)) := rfl
  have hay26 : zAt ad (11 + 13) (ad (11 + 13)) := rfl
  have hay27 : zAt ad (11 + 13 + 1) (ad (11 + 13 + 1)) := rfl
  have hay28 : zAt ad (11 + 13 + 2) (ad (11 + 13 + 2)) := rfl
  have hay29 : zAt ad (11 + 13 + 3) (ad (11 + 13 + 3)) := rfl
  have hay30 : zAt ad (11 + 17) (ad (11 + 17)) := rfl
  obtain ⟨uy31t, uy31z, uy31o, uy31r, uy31z4, uy31t5, uy311, ⟨uy31u, uy312, uy313⟩, uy314⟩ := id csy22
  have hay32 : zAt ad (11 + 1) (ad (11 + 1)) := rfl
  have hay33 : zAt ad (11 + 1 + 1) (ad (11 + 1 + 1)) := rfl
  obtain ⟨sloy34, hooy34, uaoy34, stoy34, opoy34, aioy34, faoy34, muoy34, tboy34, hsloy34, hhooy34, hpoy34⟩ := id kry1
  have hay35 : zAt ad (883 + 1) (ad (883 + 1)) := rfl
  have hay36 : zAt ad (883 + 2) (ad (883 + 2)) := rfl
  have hay37 : zAt ad (883 + 3) (ad (883 + 3)) := rfl
  have hay38 : zAt ad (883 + 4) (ad (883 + 4)) := rfl
  have hay39 : zAt ad (883 + 5) (ad (883 + 5)) := rfl
  have hay40 : zAt ad (883 + 6) (ad (883 + 6)) := rfl
  obtain ⟨mnqy41, fiqy41, uqy41, qqy41, h1qy41, h2qy41, h3qy41, h4qy41⟩ := id nry1
  have hay42 : zAt ad (910 + 1) (ad (910 + 1)) := rfl
  refine z_ofX (by decide) (Nat.le_of_ble_eq_true rfl) ?_
  intro p e s m below meth c C hr hlk hxt
  refine z_lv (lv' := [(0, .ref (ad 0)), (1, .int (zI (z)))]) [0, 1] rfl ?_
  refine z_iload_n C 1 dX9_falls_0 rfl ?_
  refine z_iconst (z := 2) C dX9_falls_1 rfl ?_
  refine z_cSX (As := [.int (zI (z)), .int (zI (2))]) (rest := []) C (c_X9_needWhat l D A cs tt N ad _ hl0 (z) (by omega) (2) (by omega)) ms_yX9_needWhat q_1220 hd_yX9_needWhat (by decide) (Nat.le_of_ble_eq_true rfl) (by decide) dX9_falls_2 rfl (fun E N' ad' g' h => by obtain ⟨⟨rfl, h9⟩, rfl, rfl, rfl⟩ := h; exact z_uout C hxt hlk (by decide) (by decide) ⟨rfl, rfl, rfl, rfl⟩) (kV0 fun gvy43 hvy43 => ?_)
  obtain ⟨hvy43, rfl⟩ := hvy43
  refine z_iload_n C 1 dX9_falls_5 rfl ?_
  refine z_iconst (z := 2) C dX9_falls_6 rfl ?_
  refine z_icmp_ne (tgt := 65) C dX9_falls_7 (by decide) (by omega) (by omega) (fun hby44 => ?_) (fun hby44 => ?_)
  · refine z_aload_n C 0 dX9_falls_65 rfl ?_
    refine z_iconst (z := 0) C dX9_falls_66 rfl ?_
    have hrecy46 : okRec cs ad g N (t) (fp) (im) (nz) (kz) (sl) (ho) (ua) (st) (op) (ai) (fa) (mu) (tb) (tp) := ⟨ary1, bry1, cry1, dry1, ery1, fry1, gry11, hry1, ⟨_, iry1⟩, ⟨_, jry1⟩, kry1, lry1, mry1, nry1, ory1, pry1⟩
    refine z_cV (As := [.int (zI (0))]) (rest := []) (ci := 11) C (c_X9_guessFalls l D A cs tt N ad _ hN _ _ _ _ _ _ _ _ _ _ _ _ _ _ _ hrecy46 (0) (by omega)) (lt_K hN (rfl : Nat.blt (0) 952 = true)) hay2 ary1 rfl rfl mv_yX9_guessFalls q_1372 hd_yX9_guessFalls (by decide) (Nat.le_of_ble_eq_true rfl) (by decide) dX9_falls_67 rfl (kV0 fun gvy45 hvy45 => ?_)
    obtain ⟨hkvy45, hfvy45⟩ := hvy45
    obtain ⟨ary47, bry47, cry47, dry47, ery47, fry47, gry471, hry47, ⟨acry47, iry47⟩, ⟨kcry47, jry47⟩, kry47, lry47, mry47, nry47, ory47, pry47⟩ := id hkvy45
    obtain ⟨thcy48, zhcy48, ohcy48, rhcy48, hzhcy48, hthcy48, hwhcy48⟩ := id lry47
    obtain ⟨thcy49, zhcy49, ohcy49, rhcy49, hzhcy49, hthcy49, hwhcy49⟩ := id mry47
    obtain ⟨asy50, bsy50, csy50, dsy50, esy50, ⟨ptsy50, fsy50, gsy501⟩, hsy50, ⟨nusy50, nvsy50, nwsy50, isy50, jsy50, ksy50, lsy50, msy50, nsy50⟩, rfsy50, osy50⟩ := id iry47
    obtain ⟨uy51t, uy51z, uy51o, uy51r, uy51z4, uy51t5, uy511, ⟨uy51u, uy512, uy513⟩, uy514⟩ := id csy50
    have hay52 : zAt ad (11 + 1) (ad (11 + 1)) := rfl
    have hay53 : zAt ad (11 + 1 + 1) (ad (11 + 1 + 1)) := rfl
    obtain ⟨sloy54, hooy54, uaoy54, stoy54, opoy54, aioy54, faoy54, muoy54, tboy54, hsloy54, hhooy54, hpoy54⟩ := id kry47
    obtain ⟨mnqy55, fiqy55, uqy55, qqy55, h1qy55, h2qy55, h3qy55, h4qy55⟩ := id nry47
    refine z_iload_n C 1 dX9_falls_70 rfl ?_
    refine z_if_ne (tgt := 84) C dX9_falls_71 (by decide) (by omega) (fun hby56 => ?_) (fun hby56 => ?_)
    · refine z_aload_n C 0 dX9_falls_84 rfl ?_
      refine z_get (v := .ref (ad 910)) C (lt_K hN (rfl : Nat.blt (0) 952 = true)) hay2 ary47 rfl inA_X9 11 (by decide) q_360 rfl rfl dX9_falls_85 ?_
      refine z_get (v := .int (zI (fiqy55))) C (lt_K hN (rfl : Nat.blt (910) 952 = true)) hay11 h2qy55 rfl inA_X0 1 (by decide) q_294 rfl rfl dX9_falls_88 ?_
      obtain ⟨xy57, exy58, hxy59⟩ := zI_of (zI (fiqy55))
      rw [exy58]
      have hrecy60 : okRec cs ad gvy45 N (t) (fp) (im) (nz) (kz) (sl) (ho) (ua) (st) (op) (ai) (fa) (mu) (tb) (tp) := ⟨ary47, bry47, cry47, dry47, ery47, fry47, gry471, hry47, ⟨_, iry47⟩, ⟨_, jry47⟩, kry47, lry47, mry47, nry47, ory47, pry47⟩
      exact z_rX (z_iret C hr hlk dX9_falls_91 (by decide) (by decide) ⟨xy57, rfl, rfl, rfl, by omega, hrecy60, fun j j1 j2 => by rw [hfvy45 _ (by omega) (by omega)]⟩)
    · refine z_aload_n C 0 dX9_falls_74 rfl ?_
      refine z_get (v := .ref (ad 910)) C (lt_K hN (rfl : Nat.blt (0) 952 = true)) hay2 ary47 rfl inA_X9 11 (by decide) q_360 rfl rfl dX9_falls_75 ?_
      refine z_get (v := .int (zI (mnqy55))) C (lt_K hN (rfl : Nat.blt (910) 952 = true)) hay11 h2qy55 rfl inA_X0 0 (by decide) q_292 rfl rfl dX9_falls_78 ?_
      refine z_goto (tgt := 91) C dX9_falls_81 (by decide) ?_
      obtain ⟨xy61, exy62, hxy63⟩ := zI_of (zI (mnqy55))
      rw [exy62]
      have hrecy64 : okRec cs ad gvy45 N (t) (fp) (im) (nz) (kz) (sl) (ho) (ua) (st) (op) (ai) (fa) (mu) (tb) (tp) := ⟨ary47, bry47, cry47, dry47, ery47, fry47, gry471, hry47, ⟨_, iry47⟩, ⟨_, jry47⟩, kry47, lry47, mry47, nry47, ory47, pry47⟩
      exact z_rX (z_iret C hr hlk dX9_falls_91 (by decide) (by decide) ⟨xy61, rfl, rfl, rfl, by omega, hrecy64, fun j j1 j2 => by rw [hfvy45 _ (by omega) (by omega)]⟩)
  · refine z_aload_n C 0 dX9_falls_10 rfl ?_
    refine z_get (v := .ref (ad 890)) C (lt_K hN (rfl : Nat.blt (0) 952 = true)) hay2 ary1 rfl inA_X9 9 (by decide) q_358 rfl rfl dX9_falls_11 ?_
    refine z_aload_n C 0 dX9_falls_14 rfl ?_
    refine z_get (v := .ref (ad 11)) C (lt_K hN (rfl : Nat.blt (0) 952 = true)) hay2 ary1 rfl inA_X9 5 (by decide) q_354 rfl rfl dX9_falls_15 ?_
    refine z_get (v := .ref (ad (11 + 1))) C (lt_K hN (rfl : Nat.blt (11) 952 = true)) hay6 iry1.1 rfl inA_X6 0 (by decide) q_258 rfl rfl dX9_falls_18 ?_
    refine z_cV (As := [.ref (ad (11 + 1))]) (rest := []) (ci := 10) C (c_X8_copyFrom l D A cs tt N ad _ (890) (by omega) lry1 (11 + 1) (by omega) csy22 (by omega)) (lt_K hN (rfl : Nat.blt (890) 952 = true)) hay9 hwhcy20.1 rfl rfl mv_yX8_copyFrom q_1228 hd_yX8_copyFrom (by decide) (Nat.le_of_ble_eq_true rfl) (by decide) dX9_falls_21 rfl (kV0 fun gvy65 hvy65 => ?_)
    obtain ⟨⟨tvy65, zvy65, ovy65, rvy65, hzvy65, htvy65, -, hwvy65⟩, hfvy65⟩ := hvy65
    have hoky66 : okWorld cs ad gvy65 (890) := ⟨_, _, _, _, hzvy65, htvy65, hwvy65⟩
    obtain ⟨thcy67, zhcy67, ohcy67, rhcy67, hzhcy67, hthcy67, hwhcy67⟩ := id hoky66
    refine z_aload_n C 0 dX9_falls_24 rfl ?_
    refine z_aload_n C 0 dX9_falls_25 rfl ?_
    have hgy68 := (hfvy65 (0) (by omega)).trans ary1
    refine z_get (v := .ref (ad 890)) C (lt_K hN (rfl : Nat.blt (0) 952 = true)) hay2 hgy68 rfl inA_X9 9 (by decide) q_358 rfl rfl dX9_falls_26 ?_
    refine z_aload_n C 0 dX9_falls_29 rfl ?_
    refine z_get (v := .ref (ad 4)) C (lt_K hN (rfl : Nat.blt (0) 952 = true)) hay2 hgy68 rfl inA_X9 4 (by decide) q_353 rfl rfl dX9_falls_30 ?_
    refine z_aload_n C 0 dX9_falls_33 rfl ?_
    refine z_get (v := .ref (ad 4)) C (lt_K hN (rfl : Nat.blt (0) 952 = true)) hay2 hgy68 rfl inA_X9 4 (by decide) q_353 rfl rfl dX9_falls_34 ?_
    have hgy70 := (hfvy65 (4) (by omega)).trans fry1.1
    have hgy71 := (hfvy65 (4 + 1) (by omega)).trans fry1.2.1
    have hgy72 := (hfvy65 (4 + 2) (by omega)).trans fry1.2.2.1
    have hgy73 := (hfvy65 (4 + 3) (by omega)).trans fry1.2.2.2.1
    have hgy74 := (hfvy65 (4 + 4) (by omega)).trans fry1.2.2.2.2.1
    have hgy75 := (hfvy65 (4 + 5) (by omega)).trans fry1.2.2.2.2.2.1
    have hgy76 := (hfvy65 (4 + 6) (by omega)).trans fry1.2.2.2.2.2.2
    refine z_cV (As := []) (rest := [.ref (ad 4), .ref (ad 890), .ref (ad 0)]) (ci := 7) C (c_X5_allSlopes l D A cs tt N ad _ (4) (by omega) _ _ _ _ _ _ _ _ _ ⟨hgy70, hgy71, hgy72, hgy73, hgy74, hgy75, hgy76⟩) (lt_K hN (rfl : Nat.blt (4) 952 = true)) hay5 hgy70 rfl rfl mv_yX5_allSlopes q_431 hd_yX5_allSlopes (by decide) (Nat.le_of_ble_eq_true rfl) (by decide) dX9_falls_37 rfl (kI0 fun vy69 gvy69 hvy69 => ?_)
    obtain ⟨hvy69, rfl⟩ := hvy69
    refine z_iconst (z := 0) C dX9_falls_40 rfl ?_
    refine z_aload_n C 0 dX9_falls_41 rfl ?_
    refine z_get (v := .ref (ad 11)) C (lt_K hN (rfl : Nat.blt (0) 952 = true)) hay2 hgy68 rfl inA_X9 5 (by decide) q_354 rfl rfl dX9_falls_42 ?_
    have hgy77 := (hfvy65 (11) (by omega)).trans iry1.1
    refine z_get (v := .ref (ad (11 + 13))) C (lt_K hN (rfl : Nat.blt (11) 952 = true)) hay6 hgy77 rfl inA_X6 4 (by decide) q_265 rfl rfl dX9_falls_45 ?_
    have hgy79 := (hfvy65 (11 + 13) (by omega)).trans ksy22
    have hgy80 := (hfvy65 (11 + 13 + 1) (by omega)).trans lsy22
    have hgy81 := (hfvy65 (11 + 13 + 2) (by omega)).trans msy22
    have hgy82 := (hfvy65 (11 + 13 + 3) (by omega)).trans nsy22
    refine z_cV (As := []) (rest := [.int (zI (0)), .int (zI (vy69)), .ref (ad 4), .ref (ad 890), .ref (ad 0)]) (ci := 4) C (c_X2_lastHour l D A cs tt N ad _ (11 + 13) (by omega) _ ⟨nusy22, nvsy22, nwsy22, isy22, jsy22, hgy79, hgy80, hgy81, hgy82⟩) (lt_K hN (rfl : Nat.blt (11 + 13) 952 = true)) hay26 hgy79 rfl rfl mv_yX2_lastHour q_1363 hd_yX2_lastHour (by decide) (Nat.le_of_ble_eq_true rfl) (by decide) dX9_falls_48 rfl (kI0 fun vy78 gvy78 hvy78 => ?_)
    obtain ⟨hvy78, rfl⟩ := hvy78
    have hgy84 := (hfvy65 (1) (by omega)).trans dry1
    have hpy85 := okState.mv (ad' := ad) (g' := gvy65) (fun j h1 h2 => by rfl) (fun j h1 h2 => by rw [hfvy65 _ (by omega)]) iry1
    have hpy86 := okRdr.mv (ad' := ad) (g' := gvy65) (fun j h1 h2 => by rfl) (fun j h1 h2 => by rw [hfvy65 _ (by omega)]) ery1
    have hpy87 := isPlan.mv (ad' := ad) (g' := gvy65) (fun j h1 h2 => by rfl) (fun j h1 h2 => by rw [hfvy65 _ (by omega)]) fry1
    have hpy88 := okState.mv (ad' := ad) (g' := gvy65) (fun j h1 h2 => by rfl) (fun j h1 h2 => by rw [hfvy65 _ (by omega)]) jry1
    have hpy89 := okPlan.mv (ad' := ad) (g' := gvy65) (fun j h1 h2 => by rfl) (fun j h1 h2 => by rw [hfvy65 _ (by omega)]) kry1
    have hpy90 := okGss.mv (ad' := ad) (g' := gvy65) (fun j h1 h2 => by rfl) (fun j h1 h2 => by rw [hfvy65 _ (by omega)]) nry1
    have hpy91 := okLike.mv (ad' := ad) (g' := gvy65) (fun j h1 h2 => by rfl) (fun j h1 h2 => by rw [hfvy65 _ (by omega)]) ory1
    have hpy92 := okBld.mv (ad' := ad) (g' := gvy65) (fun j h1 h2 => by rfl) (fun j h1 h2 => by rw [hfvy65 _ (by omega)]) pry1
    have hoky93 : okWorld cs ad gvy65 (900) := okWorld.mv (fun j j1 j2 => by rw [hfvy65 _ (by omega)]) mry1
    have hrecy94 : okRec cs ad gvy65 N (t) (fp) (im) (nz) (kz) (sl) (ho) (ua) (st) (op) (ai) (fa) (mu) (tb) (tp) := ⟨hgy68, bry1, cry1, hgy84, hpy86, hpy87, gry11, hry1, ⟨_, hpy85⟩, ⟨_, hpy88⟩, hpy89, hoky66, hoky93, hpy90, hpy91, hpy92⟩
    refine z_cV (As := [.ref (ad 890), .ref (ad 4), .int (zI (vy69)), .int (zI (0)), .int (zI (vy78))]) (rest := []) (ci := 11) C (c_X9_isNotedSo_890_4 l D A cs tt N ad _ hN _ _ _ _ _ _ _ _ _ _ _ _ _ _ _ hrecy94 (vy69) (by omega) (0) (by omega) (vy78) (by omega)) (lt_K hN (rfl : Nat.blt (0) 952 = true)) hay2 hgy68 rfl rfl mv_yX9_isNotedSo q_1368 hd_yX9_isNotedSo (by decide) (Nat.le_of_ble_eq_true rfl) (by decide) dX9_falls_51 rfl (kI0 fun vy83 gvy83 hvy83 => ?_)
    obtain ⟨hrvy83, hkvy83, hfvy83⟩ := hvy83
    obtain ⟨ary95, bry95, cry95, dry95, ery95, fry95, gry951, hry95, ⟨acry95, iry95⟩, ⟨kcry95, jry95⟩, kry95, lry95, mry95, nry95, ory95, pry95⟩ := id hkvy83
    obtain ⟨thcy96, zhcy96, ohcy96, rhcy96, hzhcy96, hthcy96, hwhcy96⟩ := id lry95
    obtain ⟨thcy97, zhcy97, ohcy97, rhcy97, hzhcy97, hthcy97, hwhcy97⟩ := id mry95
    obtain ⟨asy98, bsy98, csy98, dsy98, esy98, ⟨ptsy98, fsy98, gsy981⟩, hsy98, ⟨nusy98, nvsy98, nwsy98, isy98, jsy98, ksy98, lsy98, msy98, nsy98⟩, rfsy98, osy98⟩ := id iry95
    obtain ⟨uy99t, uy99z, uy99o, uy99r, uy99z4, uy99t5, uy991, ⟨uy99u, uy992, uy993⟩, uy994⟩ := id csy98
    have hay100 : zAt ad (11 + 1) (ad (11 + 1)) := rfl
    have hay101 : zAt ad (11 + 1 + 1) (ad (11 + 1 + 1)) := rfl
    obtain ⟨sloy102, hooy102, uaoy102, stoy102, opoy102, aioy102, faoy102, muoy102, tboy102, hsloy102, hhooy102, hpoy102⟩ := id kry95
    obtain ⟨mnqy103, fiqy103, uqy103, qqy103, h1qy103, h2qy103, h3qy103, h4qy103⟩ := id nry95
    refine z_istore_n (lv' := [(2, .int (zI (vy83))), (0, .ref (ad 0)), (1, .int (zI (z)))]) C dX9_falls_54 rfl (by decide) rfl ?_
    refine z_iload_n C 0 dX9_falls_55 rfl ?_
    refine z_if_eq (tgt := 63) C dX9_falls_56 (by decide) (by omega) (fun hby104 => ?_) (fun hby104 => ?_)
    · refine z_iconst (z := 0) C dX9_falls_63 rfl ?_
      have hrecy105 : okRec cs ad gvy83 N (t) (fp) (im) (nz) (kz) (sl) (ho) (ua) (st) (op) (ai) (fa) (mu) (tb) (tp) := ⟨ary95, bry95, cry95, dry95, ery95, fry95, gry951, hry95, ⟨_, iry95⟩, ⟨_, jry95⟩, kry95, lry95, mry95, nry95, ory95, pry95⟩
      exact z_rX (z_iret C hr hlk dX9_falls_64 (by decide) (by decide) ⟨0, rfl, rfl, rfl, by omega, hrecy105, fun j j1 j2 => by rw [hfvy83 _ (by omega) (by omega)]; rw [hfvy65 _ (by omega)]⟩)
    · refine z_iconst (z := 1) C dX9_falls_59 rfl ?_
      refine z_goto (tgt := 64) C dX9_falls_60 (by decide) ?_
      have hrecy106 : okRec cs ad gvy83 N (t) (fp) (im) (nz) (kz) (sl) (ho) (ua) (st) (op) (ai) (fa) (mu) (tb) (tp) := ⟨ary95, bry95, cry95, dry95, ery95, fry95, gry951, hry95, ⟨_, iry95⟩, ⟨_, jry95⟩, kry95, lry95, mry95, nry95, ory95, pry95⟩
      exact z_rX (z_iret C hr hlk dX9_falls_64 (by decide) (by decide) ⟨1, rfl, rfl, rfl, by omega, hrecy106, fun j j1 j2 => by rw [hfvy83 _ (by omega) (by omega)]; rw [hfvy65 _ (by omega)]⟩)

set_option maxRecDepth 100000 in
set_option maxHeartbeats 4000000 in
theorem c_X9_look (l : Launch) (D : va_G) (A : Nat → Prop) (cs : Nat → ClassId) (tt : Nat) (N : Nat) (ad : Nat → Nat) (g : Nat → va_E) (hN : 952 ≤ N) (t fp im nz kz sl ho ua : Int) (st op ai fa mu tb tp : Nat → Int) (hR : okRec cs ad g N t fp im nz kz sl ho ua st op ai fa mu tb tp) (hl0 : l.stackTraces = false) (z : Int) (hz : -2147483648 ≤ z ∧ z ≤ 2147483647) : zMX l yX9_look cX9_look 5 (some .int) ({ frames := 14, cells := 6, slots := 60, locals := 840 } : Room) D A cs tt N ad g [.ref (ad 0), .int (zI (z))] (rI0 N ad fun r g' => (-2147483648 ≤ r ∧ r ≤ 2147483647) ∧ okRec cs ad g' N t fp im nz kz sl ho ua st op ai fa mu tb tp ∧ oX g g') (fun E N' ad' g' => E = eNS ∧ N' = N ∧ ad' = ad ∧ g' = g) := by
  obtain ⟨ary1, bry1, cry1, dry1, ery1, fry1, gry11, hry1, ⟨acry1, iry1⟩, ⟨kcry1, jry1⟩, kry1, lry1, mry1, nry1, ory1, pry1⟩ := id hR
  have hay2 : zAt ad (0) (ad 0) := rfl
  have hay3 : zAt ad (1) (ad 1) := rfl
  have hay4 : zAt ad (2) (ad 2) := rfl
  have hay5 : zAt ad (4) (ad 4) := rfl
  have hay6 : zAt ad (11) (ad 11) := rfl
  have hay7 : zAt ad (447) (ad 447) := rfl
  have hay8 : zAt ad (883) (ad 883) := rfl
  have hay9 : zAt ad (890) (ad 890) := rfl
  have hay10 : zAt ad (900) (ad 900) := rfl
  have hay11 : zAt ad (910) (ad 910) := rfl
  have hay12 : zAt ad (917) (ad 917) := rfl
  have hay13 : zAt ad (919) (ad 919) := rfl
  have hay14 : zAt ad (4 + 1) (ad (4 + 1)) := rfl
  have hay15 : zAt ad (4 + 2) (ad (4 + 2)) := rfl
  have hay16 : zAt ad (4 + 3) (ad (4 + 3)) := rfl
  have hay17 : zAt ad (4 + 4) (ad (4 + 4)) := rfl
  have hay18 : zAt ad (4 + 5) (ad (4 + 5)) := rfl
  have hay19 : zAt ad (4 + 6) (ad (4 + 6)) := rfl
  obtain ⟨thcy20, zhcy20, ohcy20, rhcy20, hzhcy20, hthcy20, hwhcy20⟩ := id lry1
  obtain ⟨thcy21, zhcy21, ohcy21, rhcy21, hzhcy21, hthcy21, hwhcy21⟩ := id mry1
  obtain ⟨asy22, bsy22, csy22, dsy22, esy22, ⟨ptsy22, fsy22, gsy221⟩, hsy22, ⟨nusy22, nvsy22, nwsy22, isy22, jsy22, ksy22, lsy22, msy22, nsy22⟩, rfsy22, osy22⟩ := id iry1
  have hay23 : zAt ad (11 + 1) (ad (11 + 1)) := rfl
  have hay24 : zAt ad (11 + 11) (ad (11 + 11)) := rfl
  have hay25 : zAt ad (11 + 12) (ad (11 + 12)) := rfl
  have hay26 : zAt ad (11 + 13) (ad (11 + 13)) := rfl
  have hay27 : zAt ad (11 + 13 + 1) (ad (11 + 13 + 1)) := rfl
  have hay28 : zAt ad (11 + 13 + 2) (ad (11 + 13 + 2)) := rfl
  have hay29 : zAt ad (11 + 13 + 3) (ad (11 + 13 + 3)) := rfl
  have hay30 : zAt ad (11 + 17) (ad (11 + 17)) := rfl
  obtain ⟨uy31t, uy31z, uy31o, uy31r, uy31z4, uy31t5, uy311, ⟨uy31u, uy312, uy313⟩, uy314⟩ := id csy22
  have hay32 : zAt ad (11 + 1) (ad (11 + 1)) := rfl
  have hay33 : zAt ad (11 + 1 + 1) (ad (11 + 1 + 1)) := rfl
  obtain ⟨sloy34, hooy34, uaoy34, stoy34, opoy34, aioy34, faoy34, muoy34, tboy34, hsloy34, hhooy34, hpoy34⟩ := id kry1
  have hay35 : zAt ad (883 + 1) (ad (883 + 1)) := rfl
  have hay36 : zAt ad (883 + 2) (ad (883 + 2)) := rfl
  have hay37 : zAt ad (883 + 3) (ad (883 + 3)) := rfl
  have hay38 : zAt ad (883 + 4) (ad (883 + 4)) := rfl
  have hay39 : zAt ad (883 + 5) (ad (883 + 5)) := rfl
  have hay40 : zAt ad (883 + 6) (ad (883 + 6)) := rfl
  obtain ⟨mnqy41, fiqy41, uqy41, qqy41, h1qy41, h2qy41, h3qy41, h4qy41⟩ := id nry1
  have hay42 : zAt ad (910 + 1) (ad (910 + 1)) := rfl
  refine z_ofX (by decide) (Nat.le_of_ble_eq_true rfl) ?_
  intro p e s m below meth c C hr hlk hxt
  refine z_lv (lv' := [(0, .ref (ad 0)), (1, .int (zI (z)))]) [0, 1] rfl ?_
  refine z_iload_n C 1 dX9_look_0 rfl ?_
  refine z_iconst (z := 1) C dX9_look_1 rfl ?_
  refine z_cSX (As := [.int (zI (z)), .int (zI (1))]) (rest := []) C (c_X9_needWhat l D A cs tt N ad _ hl0 (z) (by omega) (1) (by omega)) ms_yX9_needWhat q_1220 hd_yX9_needWhat (by decide) (Nat.le_of_ble_eq_true rfl) (by decide) dX9_look_2 rfl (fun E N' ad' g' h => by obtain ⟨⟨rfl, h9⟩, rfl, rfl, rfl⟩ := h; exact z_uout C hxt hlk (by decide) (by decide) ⟨rfl, rfl, rfl, rfl⟩) (kV0 fun gvy43 hvy43 => ?_)
  obtain ⟨hvy43, rfl⟩ := hvy43
  refine z_aload_n C 0 dX9_look_5 rfl ?_
  refine z_iconst (z := 1) C dX9_look_6 rfl ?_
  have hrecy45 : okRec cs ad g N (t) (fp) (im) (nz) (kz) (sl) (ho) (ua) (st) (op) (ai) (fa) (mu) (tb) (tp) := ⟨ary1, bry1, cry1, dry1, ery1, fry1, gry11, hry1, ⟨_, iry1⟩, ⟨_, jry1⟩, kry1, lry1, mry1, nry1, ory1, pry1⟩
  refine z_cV (As := [.int (zI (1))]) (rest := []) (ci := 11) C (c_X9_guessFalls l D A cs tt N ad _ hN _ _ _ _ _ _ _ _ _ _ _ _ _ _ _ hrecy45 (1) (by omega)) (lt_K hN (rfl : Nat.blt (0) 952 = true)) hay2 ary1 rfl rfl mv_yX9_guessFalls q_1372 hd_yX9_guessFalls (by decide) (Nat.le_of_ble_eq_true rfl) (by decide) dX9_look_7 rfl (kV0 fun gvy44 hvy44 => ?_)
  obtain ⟨hkvy44, hfvy44⟩ := hvy44
  obtain ⟨ary46, bry46, cry46, dry46, ery46, fry46, gry461, hry46, ⟨acry46, iry46⟩, ⟨kcry46, jry46⟩, kry46, lry46, mry46, nry46, ory46, pry46⟩ := id hkvy44
  obtain ⟨thcy47, zhcy47, ohcy47, rhcy47, hzhcy47, hthcy47, hwhcy47⟩ := id lry46
  obtain ⟨thcy48, zhcy48, ohcy48, rhcy48, hzhcy48, hthcy48, hwhcy48⟩ := id mry46
  obtain ⟨asy49, bsy49, csy49, dsy49, esy49, ⟨ptsy49, fsy49, gsy491⟩, hsy49, ⟨nusy49, nvsy49, nwsy49, isy49, jsy49, ksy49, lsy49, msy49, nsy49⟩, rfsy49, osy49⟩ := id iry46
  obtain ⟨uy50t, uy50z, uy50o, uy50r, uy50z4, uy50t5, uy501, ⟨uy50u, uy502, uy503⟩, uy504⟩ := id csy49
  have hay51 : zAt ad (11 + 1) (ad (11 + 1)) := rfl
  have hay52 : zAt ad (11 + 1 + 1) (ad (11 + 1 + 1)) := rfl
  obtain ⟨sloy53, hooy53, uaoy53, stoy53, opoy53, aioy53, faoy53, muoy53, tboy53, hsloy53, hhooy53, hpoy53⟩ := id kry46
  obtain ⟨mnqy54, fiqy54, uqy54, qqy54, h1qy54, h2qy54, h3qy54, h4qy54⟩ := id nry46
  refine z_iconst (z := -1) C dX9_look_10 rfl ?_
  refine z_istore_n (lv' := [(2, .int (zI (-1))), (0, .ref (ad 0)), (1, .int (zI (z)))]) C dX9_look_11 rfl (by decide) rfl ?_
  refine z_iconst (z := 0) C dX9_look_12 rfl ?_
  refine z_istore_n (lv' := [(3, .int (zI (0))), (2, .int (zI (-1))), (0, .ref (ad 0)), (1, .int (zI (z)))]) C dX9_look_13 rfl (by decide) rfl ?_
  refine z_iconst (z := 0) C dX9_look_14 rfl ?_
  refine z_istore (lv' := [(4, .int (zI (0))), (3, .int (zI (0))), (2, .int (zI (-1))), (0, .ref (ad 0)), (1, .int (zI (z)))]) C dX9_look_15 (by decide) rfl ?_
  have lp17 : ∀ (n9 : Nat) (i : Int) (mo : Int) (wh : Int) (g1 : Nat → va_E), (4 - i).toNat = n9 → (okRec cs ad g1 N t fp im nz kz sl ho ua st op ai fa mu tb tp) → (oX g g1) → (0 ≤ i ∧ i ≤ 4) → (0 ≤ mo ∧ mo ≤ 1200) → (-1 ≤ wh ∧ wh ≤ 4) → (0 ≤ z ∧ z ≤ 1) → zV p l e ({ frames := 14, cells := 6, slots := 60, locals := 840 } : Room) s m ([.ref (ad 0), .int (zI (z))] : List Value).toArray below meth c (vx_MQ below (zPost D A (rI0 N ad fun r g' => (-2147483648 ≤ r ∧ r ≤ 2147483647) ∧ okRec cs ad g' N t fp im nz kz sl ho ua st op ai fa mu tb tp ∧ oX g g')) (zX D A (fun E N' ad' g' => E = eNS ∧ N' = N ∧ ad' = ad ∧ g' = g)) ([.ref (ad 0), .int (zI (z))] : List Value).toArray s ({ frames := 14, cells := 6, slots := 60, locals := 840 } : Room).cells ({ frames := 14, cells := 6, slots := 60, locals := 840 } : Room).slots A) D A 5 (N) ad g1 (1) (6) 17 [(4, .int (zI (i))), (3, .int (zI (mo))), (2, .int (zI (wh))), (0, .ref (ad 0)), (1, .int (zI (z)))] [] := by
    intro n9
    induction n9 using Nat.strongRecOn with
    | ind n9 ih_lp17 =>
      intro i mo wh g1 hm9 f1 f2 hv17_0 hv17_1 hv17_2 hv17_3
      obtain ⟨ary55, bry55, cry55, dry55, ery55, fry55, gry551, hry55, ⟨acry55, iry55⟩, ⟨kcry55, jry55⟩, kry55, lry55, mry55, nry55, ory55, pry55⟩ := id f1
      have hay56 : zAt ad (0) (ad 0) := rfl
      have hay57 : zAt ad (1) (ad 1) := rfl
      have hay58 : zAt ad (2) (ad 2) := rfl
      have hay59 : zAt ad (4) (ad 4) := rfl
      have hay60 : zAt ad (11) (ad 11) := rfl
      have hay61 : zAt ad (447) (ad 447) := rfl
      have hay62 : zAt ad (883) (ad 883) := rfl
      have hay63 : zAt ad (890) (ad 890) := rfl
      have hay64 : zAt ad (900) (ad 900) := rfl
      have hay65 : zAt ad (910) (ad 910) := rfl
      have hay66 : zAt ad (917) (ad 917) := rfl
      have hay67 : zAt ad (919) (ad 919) := rfl
      have hay68 : zAt ad (4 + 1) (ad (4 + 1)) := rfl
      have hay69 : zAt ad (4 + 2) (ad (4 + 2)) := rfl
      have hay70 : zAt ad (4 + 3) (ad (4 + 3)) := rfl
      have hay71 : zAt ad (4 + 4) (ad (4 + 4)) := rfl
      have hay72 : zAt ad (4 + 5) (ad (4 + 5)) := rfl
      have hay73 : zAt ad (4 + 6) (ad (4 + 6)) := rfl
      obtain ⟨thcy74, zhcy74, ohcy74, rhcy74, hzhcy74, hthcy74, hwhcy74⟩ := id lry55
      obtain ⟨thcy75, zhcy75, ohcy75, rhcy75, hzhcy75, hthcy75, hwhcy75⟩ := id mry55
      obtain ⟨asy76, bsy76, csy76, dsy76, esy76, ⟨ptsy76, fsy76, gsy761⟩, hsy76, ⟨nusy76, nvsy76, nwsy76, isy76, jsy76, ksy76, lsy76, msy76, nsy76⟩, rfsy76, osy76⟩ := id iry55
      have hay77 : zAt ad (11 + 1) (ad (11 + 1)) := rfl
      have hay78 : zAt ad (11 + 11) (ad (11 + 11)) := rfl
      have hay79 : zAt ad (11 + 12) (ad (11 + 12)) := rfl
      have hay80 : zAt ad (11 + 13) (ad (11 + 13)) := rfl
      have hay81 : zAt ad (11 + 13 + 1) (ad (11 + 13 + 1)) := rfl
      have hay82 : zAt ad (11 + 13 + 2) (ad (11 + 13 + 2)) := rfl
      have hay83 : zAt ad (11 + 13 + 3) (ad (11 + 13 + 3)) := rfl
      have hay84 : zAt ad (11 + 17) (ad (11 + 17)) := rfl
      obtain ⟨uy85t, uy85z, uy85o, uy85r, uy85z4, uy85t5, uy851, ⟨uy85u, uy852, uy853⟩, uy854⟩ := id csy76
      have hay86 : zAt ad (11 + 1) (ad (11 + 1)) := rfl
      have hay87 : zAt ad (11 + 1 + 1) (ad (11 + 1 + 1)) := rfl
      obtain ⟨sloy88, hooy88, uaoy88, stoy88, opoy88, aioy88, faoy88, muoy88, tboy88, hsloy88, hhooy88, hpoy88⟩ := id kry55
      have hay89 : zAt ad (883 + 1) (ad (883 + 1)) := rfl
      have hay90 : zAt ad (883 + 2) (ad (883 + 2)) := rfl
      have hay91 : zAt ad (883 + 3) (ad (883 + 3)) := rfl
      have hay92 : zAt ad (883 + 4) (ad (883 + 4)) := rfl
      have hay93 : zAt ad (883 + 5) (ad (883 + 5)) := rfl
      have hay94 : zAt ad (883 + 6) (ad (883 + 6)) := rfl
      obtain ⟨mnqy95, fiqy95, uqy95, qqy95, h1qy95, h2qy95, h3qy95, h4qy95⟩ := id nry55
      have hay96 : zAt ad (910 + 1) (ad (910 + 1)) := rfl
      refine z_iload C 0 dX9_look_17 rfl ?_
      refine z_aload_n C 3 dX9_look_19 rfl ?_
      refine z_get (v := .ref (ad 4)) C (lt_K hN (rfl : Nat.blt (0) 952 = true)) hay56 ary55 rfl inA_X9 4 (by decide) q_353 rfl rfl dX9_look_20 ?_
      refine z_get (v := .int (zI (sl))) C (lt_K hN (rfl : Nat.blt (4) 952 = true)) hay59 fry55.1 rfl inA_X5 0 (by decide) q_90 rfl rfl dX9_look_23 ?_
      refine z_icmp_ge (tgt := 63) C dX9_look_26 (by decide) (by omega) (by omega) (fun hby97 => ?_) (fun hby97 => ?_)
      · refine z_iload_n C 4 dX9_look_63 rfl ?_
        refine z_if_ne (tgt := 71) C dX9_look_64 (by decide) (by omega) (fun hby98 => ?_) (fun hby98 => ?_)
        · refine z_iload_n C 1 dX9_look_71 rfl ?_
          have hrecy99 : okRec cs ad g1 N (t) (fp) (im) (nz) (kz) (sl) (ho) (ua) (st) (op) (ai) (fa) (mu) (tb) (tp) := ⟨ary55, bry55, cry55, dry55, ery55, fry55, gry551, hry55, ⟨_, iry55⟩, ⟨_, jry55⟩, kry55, lry55, mry55, nry55, ory55, pry55⟩
          exact z_rX (z_iret C hr hlk dX9_look_72 (by decide) (by decide) ⟨mo, rfl, rfl, rfl, by omega, hrecy99, fun j j1 j2 => by exact f2 j j1 j2⟩)
        · refine z_iload_n C 2 dX9_look_67 rfl ?_
          refine z_goto (tgt := 72) C dX9_look_68 (by decide) ?_
          have hrecy100 : okRec cs ad g1 N (t) (fp) (im) (nz) (kz) (sl) (ho) (ua) (st) (op) (ai) (fa) (mu) (tb) (tp) := ⟨ary55, bry55, cry55, dry55, ery55, fry55, gry551, hry55, ⟨_, iry55⟩, ⟨_, jry55⟩, kry55, lry55, mry55, nry55, ory55, pry55⟩
          exact z_rX (z_iret C hr hlk dX9_look_72 (by decide) (by decide) ⟨wh, rfl, rfl, rfl, by omega, hrecy100, fun j j1 j2 => by exact f2 j j1 j2⟩)
      · refine z_aload_n C 3 dX9_look_29 rfl ?_
        refine z_get (v := .ref (ad 910)) C (lt_K hN (rfl : Nat.blt (0) 952 = true)) hay56 ary55 rfl inA_X9 11 (by decide) q_360 rfl rfl dX9_look_30 ?_
        refine z_get (v := .ref (ad (910 + 1))) C (lt_K hN (rfl : Nat.blt (910) 952 = true)) hay65 h2qy95 rfl inA_X0 2 (by decide) q_296 rfl rfl dX9_look_33 ?_
        refine z_iload C 0 dX9_look_36 rfl ?_
        refine z_iald C (lt_K hN (rfl : Nat.blt (910 + 1) 952 = true)) hay96 h3qy95 ((i).toNat) (by omega) (by omega) (by decide) dX9_look_38 ?_
        have hrfy101 := h1qy95 ((i).toNat) (by omega)
        refine z_iload_n C 1 dX9_look_39 rfl ?_
        refine z_icmp_le (tgt := 57) C dX9_look_40 (by decide) (by omega) (by omega) (fun hby102 => ?_) (fun hby102 => ?_)
        · refine z_iinc (z := i + 1) (lv' := [(4, .int (zI (i + 1))), (3, .int (zI (mo))), (2, .int (zI (wh))), (0, .ref (ad 0)), (1, .int (zI (z)))]) (j := 0) C dX9_look_57 rfl rfl (by decide) rfl ?_
          refine z_goto (tgt := 17) C dX9_look_60 (by decide) ?_
          have hrecy103 : okRec cs ad g1 N (t) (fp) (im) (nz) (kz) (sl) (ho) (ua) (st) (op) (ai) (fa) (mu) (tb) (tp) := ⟨ary55, bry55, cry55, dry55, ery55, fry55, gry551, hry55, ⟨_, iry55⟩, ⟨_, jry55⟩, kry55, lry55, mry55, nry55, ory55, pry55⟩
          refine z_lv (lv' := [(4, .int (zI (i + 1))), (3, .int (zI (mo))), (2, .int (zI (wh))), (0, .ref (ad 0)), (1, .int (zI (z)))]) [0, 1, 2, 3, 4] rfl ?_
          exact ih_lp17 _ (by omega) (i + 1) (mo) (wh) g1 rfl hrecy103 (fun j j1 j2 => by exact f2 j j1 j2) (by omega) (by omega) (by omega) (by omega)
        · refine z_iload C 0 dX9_look_43 rfl ?_
          refine z_istore_n (lv' := [(2, .int (zI (i))), (4, .int (zI (i))), (3, .int (zI (mo))), (0, .ref (ad 0)), (1, .int (zI (z)))]) C dX9_look_45 rfl (by decide) rfl ?_
          refine z_aload_n C 3 dX9_look_46 rfl ?_
          refine z_get (v := .ref (ad 910)) C (lt_K hN (rfl : Nat.blt (0) 952 = true)) hay56 ary55 rfl inA_X9 11 (by decide) q_360 rfl rfl dX9_look_47 ?_
          refine z_get (v := .ref (ad (910 + 1))) C (lt_K hN (rfl : Nat.blt (910) 952 = true)) hay65 h2qy95 rfl inA_X0 2 (by decide) q_296 rfl rfl dX9_look_50 ?_
          refine z_iload C 1 dX9_look_53 rfl ?_
          refine z_iald C (lt_K hN (rfl : Nat.blt (910 + 1) 952 = true)) hay96 h3qy95 ((i).toNat) (by omega) (by omega) (by decide) dX9_look_55 ?_
          have hrfy104 := h1qy95 ((i).toNat) (by omega)
          refine z_istore_n (lv' := [(3, .int (zI (uqy95 ((i).toNat)))), (2, .int (zI (i))), (4, .int (zI (i))), (0, .ref (ad 0)), (1, .int (zI (z)))]) C dX9_look_56 rfl (by decide) rfl ?_
          refine z_iinc (z := i + 1) (lv' := [(4, .int (zI (i + 1))), (3, .int (zI (uqy95 ((i).toNat)))), (2, .int (zI (i))), (0, .ref (ad 0)), (1, .int (zI (z)))]) (j := 2) C dX9_look_57 rfl rfl (by decide) rfl ?_
          refine z_goto (tgt := 17) C dX9_look_60 (by decide) ?_
          have hrecy105 : okRec cs ad g1 N (t) (fp) (im) (nz) (kz) (sl) (ho) (ua) (st) (op) (ai) (fa) (mu) (tb) (tp) := ⟨ary55, bry55, cry55, dry55, ery55, fry55, gry551, hry55, ⟨_, iry55⟩, ⟨_, jry55⟩, kry55, lry55, mry55, nry55, ory55, pry55⟩
          refine z_lv (lv' := [(4, .int (zI (i + 1))), (3, .int (zI (uqy95 ((i).toNat)))), (2, .int (zI (i))), (0, .ref (ad 0)), (1, .int (zI (z)))]) [0, 1, 2, 3, 4] rfl ?_
          exact ih_lp17 _ (by omega) (i + 1) (uqy95 ((i).toNat)) (i) g1 rfl hrecy105 (fun j j1 j2 => by exact f2 j j1 j2) (by omega) (by omega) (by omega) (by omega)
  have hrecy106 : okRec cs ad gvy44 N (t) (fp) (im) (nz) (kz) (sl) (ho) (ua) (st) (op) (ai) (fa) (mu) (tb) (tp) := ⟨ary46, bry46, cry46, dry46, ery46, fry46, gry461, hry46, ⟨_, iry46⟩, ⟨_, jry46⟩, kry46, lry46, mry46, nry46, ory46, pry46⟩
  refine z_lv (lv' := [(4, .int (zI (0))), (3, .int (zI (0))), (2, .int (zI (-1))), (0, .ref (ad 0)), (1, .int (zI (z)))]) [0, 1, 2, 3, 4] rfl ?_
  exact lp17 _ (0) (0) (-1) gvy44 rfl hrecy106 (fun j j1 j2 => by rw [hfvy44 _ (by omega) (by omega)]) (by omega) (by omega) (by omega) (by omega)

set_option maxRecDepth 100000 in
set_option maxHeartbeats 4000000 in
theorem c_X9_weightOf (l : Launch) (D : va_G) (A : Nat → Prop) (cs : Nat → ClassId) (tt : Nat) (N : Nat) (ad : Nat → Nat) (g : Nat → va_E) (hN : 952 ≤ N) (t fp im nz kz sl ho ua : Int) (st op ai fa mu tb tp : Nat → Int) (hR : okRec cs ad g N t fp im nz kz sl ho ua st op ai fa mu tb tp) (z : Int) (hz : -2147483648 ≤ z ∧ z ≤ 2147483647) (z1 : Int) (hz1 : 0 ≤ z1 ∧ z1 ≤ 6) (z2 : Int) (hz2 : 0 ≤ z2 ∧ z2 ≤ 10) : zM l yX9_weightOf cX9_weightOf 7 (some .int) ({ frames := 4, cells := 0, slots := 0, locals := 240 } : Room) D A cs tt N ad g [.ref (ad 0), .int (zI (z)), .int (zI (z1)), .int (zI (z2))] (rI0 N ad fun r g' => (-2147483648 ≤ r ∧ r ≤ 2147483647) ∧ g = g') := by
  obtain ⟨ary1, bry1, cry1, dry1, ery1, fry1, gry11, hry1, ⟨acry1, iry1⟩, ⟨kcry1, jry1⟩, kry1, lry1, mry1, nry1, ory1, pry1⟩ := id hR
  have hay2 : zAt ad (0) (ad 0) := rfl
  have hay3 : zAt ad (1) (ad 1) := rfl
  have hay4 : zAt ad (2) (ad 2) := rfl
  have hay5 : zAt ad (4) (ad 4) := rfl
  have hay6 : zAt ad (11) (ad 11) := rfl
  have hay7 : zAt ad (447) (ad 447) := rfl
  have hay8 : zAt ad (883) (ad 883) := rfl
  have hay9 : zAt ad (890) (ad 890) := rfl
  have hay10 : zAt ad (900) (ad 900) := rfl
  have hay11 : zAt ad (910) (ad 910) := rfl
  have hay12 : zAt ad (917) (ad 917) := rfl
  have hay13 : zAt ad (919) (ad 919) := rfl
  have hay14 : zAt ad (4 + 1) (ad (4 + 1)) := rfl
  have hay15 : zAt ad (4 + 2) (ad (4 + 2)) := rfl
  have hay16 : zAt ad (4 + 3) (ad (4 + 3)) := rfl
  have hay17 : zAt ad (4 + 4) (ad (4 + 4)) := rfl
  have hay18 : zAt ad (4 + 5) (ad (4 + 5)) := rfl
  have hay19 : zAt ad (4 + 6) (ad (4 + 6)) := rfl
  obtain ⟨thcy20, zhcy20, ohcy20, rhcy20, hzhcy20, hthcy20, hwhcy20⟩ := id lry1
  obtain ⟨thcy21, zhcy21, ohcy21, rhcy21, hzhcy21, hthcy21, hwhcy21⟩ := id mry1
  obtain ⟨asy22, bsy22, csy22, dsy22, esy22, ⟨ptsy22, fsy22, gsy221⟩, hsy22, ⟨nusy22, nvsy22, nwsy22, isy22, jsy22, ksy22, lsy22, msy22, nsy22⟩, rfsy22, osy22⟩ := id iry1
  have hay23 : zAt ad (11 + 1) (ad (11 + 1)) := rfl
  have hay24 : zAt ad (11 + 11) (ad (11 + 11)) := rfl
  have hay25 : zAt ad (11 + 12) (ad (11 + 12)) := rfl
  have hay26 : zAt ad (11 + 13) (ad (11 + 13)) := rfl
  have hay27 : zAt ad (11 + 13 + 1) (ad (11 + 13 + 1)) := rfl
  have hay28 : zAt ad (11 + 13 + 2) (ad (11 + 13 + 2)) := rfl
  have hay29 : zAt ad (11 + 13 + 3) (ad (11 + 13 + 3)) := rfl
  have hay30 : zAt ad (11 + 17) (ad (11 + 17)) := rfl
  obtain ⟨uy31t, uy31z, uy31o, uy31r, uy31z4, uy31t5, uy311, ⟨uy31u, uy312, uy313⟩, uy314⟩ := id csy22
  have hay32 : zAt ad (11 + 1) (ad (11 + 1)) := rfl
  have hay33 : zAt ad (11 + 1 + 1) (ad (11 + 1 + 1)) := rfl
  refine z_of (by decide) (Nat.le_of_ble_eq_true rfl) ?_
  intro p e s m below meth c C hr hlk hnm
  refine z_lv (lv' := [(0, .ref (ad 0)), (1, .int (zI (z))), (2, .int (zI (z1))), (3, .int (zI (z2)))]) [0, 1, 2, 3] rfl ?_
  refine z_iconst (z := 1) C dX9_weightOf_0 rfl ?_
  refine z_istore (lv' := [(4, .int (zI (1))), (0, .ref (ad 0)), (1, .int (zI (z))), (2, .int (zI (z1))), (3, .int (zI (z2)))]) C dX9_weightOf_1 (by decide) rfl ?_
  refine z_iconst (z := 0) C dX9_weightOf_3 rfl ?_
  refine z_istore (lv' := [(5, .int (zI (0))), (4, .int (zI (1))), (0, .ref (ad 0)), (1, .int (zI (z))), (2, .int (zI (z1))), (3, .int (zI (z2)))]) C dX9_weightOf_4 (by decide) rfl ?_
  have lp : ∀ (n9 : Nat) (we : Int) (i : Int) (g1 : Nat → va_E), (6 - i).toNat = n9 → (g1 = g) → (-2147483648 ≤ we ∧ we ≤ 2147483647) → (0 ≤ i ∧ i ≤ 6) → zV p l e ({ frames := 4, cells := 0, slots := 0, locals := 240 } : Room) s m ([.ref (ad 0), .int (zI (z)), .int (zI (z1)), .int (zI (z2))] : List Value).toArray below meth c (MQ below (zPost D A (rI0 N ad fun r g' => (-2147483648 ≤ r ∧ r ≤ 2147483647) ∧ g = g')) ([.ref (ad 0), .int (zI (z)), .int (zI (z1)), .int (zI (z2))] : List Value).toArray s ({ frames := 4, cells := 0, slots := 0, locals := 240 } : Room).cells ({ frames := 4, cells := 0, slots := 0, locals := 240 } : Room).slots A) D A 7 (N) ad g1 (0) (0) 6 [(5, .int (zI (i))), (4, .int (zI (we))), (0, .ref (ad 0)), (1, .int (zI (z))), (2, .int (zI (z1))), (3, .int (zI (z2)))] [] := by
    intro n9
    induction n9 using Nat.strongRecOn with
    | ind n9 ih =>
      intro we i g1 hm9 hg1 hv0 hv1
      subst hg1
      obtain ⟨ary34, bry34, cry34, dry34, ery34, fry34, gry341, hry34, ⟨acry34, iry34⟩, ⟨kcry34, jry34⟩, kry34, lry34, mry34, nry34, ory34, pry34⟩ := id hR
      have hay35 : zAt ad (0) (ad 0) := rfl
      have hay36 : zAt ad (1) (ad 1) := rfl
      have hay37 : zAt ad (2) (ad 2) := rfl
      have hay38 : zAt ad (4) (ad 4) := rfl
      have hay39 : zAt ad (11) (ad 11) := rfl
      have hay40 : zAt ad (447) (ad 447) := rfl
      have hay41 : zAt ad (883) (ad 883) := rfl
      have hay42 : zAt ad (890) (ad 890) := rfl
      have hay43 : zAt ad (900) (ad 900) := rfl
      have hay44 : zAt ad (910) (ad 910) := rfl
      have hay45 : zAt ad (917) (ad 917) := rfl
      have hay46 : zAt ad (919) (ad 919) := rfl
      have hay47 : zAt ad (4 + 1) (ad (4 + 1)) := rfl
      have hay48 : zAt ad (4 + 2) (ad (4 + 2)) := rfl
      have hay49 : zAt ad (4 + 3) (ad (4 + 3)) := rfl
      have hay50 : zAt ad (4 + 4) (ad (4 + 4)) := rfl
      have hay51 : zAt ad (4 + 5) (ad (4 + 5)) := rfl
      have hay52 : zAt ad (4 + 6) (ad (4 + 6)) := rfl
      obtain ⟨thcy53, zhcy53, ohcy53, rhcy53, hzhcy53, hthcy53, hwhcy53⟩ := id lry34
      obtain ⟨thcy54, zhcy54, ohcy54, rhcy54, hzhcy54, hthcy54, hwhcy54⟩ := id mry34
      obtain ⟨asy55, bsy55, csy55, dsy55, esy55, ⟨ptsy55, fsy55, gsy551⟩, hsy55, ⟨nusy55, nvsy55, nwsy55, isy55, jsy55, ksy55, lsy55, msy55, nsy55⟩, rfsy55, osy55⟩ := id iry34
      have hay56 : zAt ad (11 + 1) (ad (11 + 1)) := rfl
      have hay57 : zAt ad (11 + 11) (ad (11 + 11)) := rfl
      have hay58 : zAt ad (11 + 12) (ad (11 + 12)) := rfl
      have hay59 : zAt ad (11 + 13) (ad (11 + 13)) := rfl
      have hay60 : zAt ad (11 + 13 + 1) (ad (11 + 13 + 1)) := rfl
      have hay61 : zAt ad (11 + 13 + 2) (ad (11 + 13 + 2)) := rfl
      have hay62 : zAt ad (11 + 13 + 3) (ad (11 + 13 + 3)) := rfl
      have hay63 : zAt ad (11 + 17) (ad (11 + 17)) := rfl
      obtain ⟨uy64t, uy64z, uy64o, uy64r, uy64z4, uy64t5, uy641, ⟨uy64u, uy642, uy643⟩, uy644⟩ := id csy55
      have hay65 : zAt ad (11 + 1) (ad (11 + 1)) := rfl
      have hay66 : zAt ad (11 + 1 + 1) (ad (11 + 1 + 1)) := rfl
      refine z_iload C 0 dX9_weightOf_6 rfl ?_
      refine z_iload_n C 4 dX9_weightOf_8 rfl ?_
      refine z_icmp_ge (tgt := 95) C dX9_weightOf_9 (by decide) (by omega) (by omega) (fun hby67 => ?_) (fun hby67 => ?_)
      · refine z_iload C 1 dX9_weightOf_95 rfl ?_
        exact z_iret C hr hlk dX9_weightOf_97 (by decide) (by decide) ⟨we, rfl, rfl, rfl, by omega, rfl⟩
      · refine z_iload_n C 3 dX9_weightOf_12 rfl ?_
        refine z_iload C 0 dX9_weightOf_13 rfl ?_
        obtain ⟨xy68, exy69, hxy70⟩ := zI_of (zI (z) >>> (zI (i) &&& 31))
        refine z_ishr (z := xy68) C dX9_weightOf_15 exy69 ?_
        refine z_iconst (z := 1) C dX9_weightOf_16 rfl ?_
        obtain ⟨xy71, exy72, hxy73⟩ := zI_and (zI (xy68)) (m := zI 1) 1 (by decide)
        refine z_iand (z := xy71) C dX9_weightOf_17 exy72 ?_
        refine z_iconst (z := 1) C dX9_weightOf_18 rfl ?_
        refine z_icmp_ne (tgt := 26) C dX9_weightOf_19 (by decide) (by omega) (by omega) (fun hby74 => ?_) (fun hby74 => ?_)
        · refine z_iconst (z := 0) C dX9_weightOf_26 rfl ?_
          refine z_istore (lv' := [(6, .int (zI (0))), (5, .int (zI (i))), (4, .int (zI (we))), (0, .ref (ad 0)), (1, .int (zI (z))), (2, .int (zI (z1))), (3, .int (zI (z2)))]) C dX9_weightOf_27 (by decide) rfl ?_
          refine z_aload_n C 3 dX9_weightOf_29 rfl ?_
          refine z_get (v := .ref (ad 4)) C (lt_K hN (rfl : Nat.blt (0) 952 = true)) hay35 ary34 rfl inA_X9 4 (by decide) q_353 rfl rfl dX9_weightOf_30 ?_
          refine z_aload_n C 3 dX9_weightOf_33 rfl ?_
          refine z_get (v := .ref (ad 11)) C (lt_K hN (rfl : Nat.blt (0) 952 = true)) hay35 ary34 rfl inA_X9 5 (by decide) q_354 rfl rfl dX9_weightOf_34 ?_
          refine z_get (v := .ref (ad (11 + 1))) C (lt_K hN (rfl : Nat.blt (11) 952 = true)) hay39 iry34.1 rfl inA_X6 0 (by decide) q_258 rfl rfl dX9_weightOf_37 ?_
          refine z_get (v := .int (zI (uy64t 0))) C (lt_K hN (rfl : Nat.blt (11 + 1) 952 = true)) hay65 uy641 rfl inA_X8 0 (by decide) q_174 rfl rfl dX9_weightOf_40 ?_
          refine z_iload C 1 dX9_weightOf_43 rfl ?_
          refine z_iadd C dX9_weightOf_45 ?_
          obtain ⟨xy75, exy76, hxy77⟩ := zI_of (zI ((uy64t 0) + i))
          rw [exy76]
          refine z_cV (As := [.int (zI (xy75))]) (rest := []) (ci := 7) C (c_X5_fallAt l D A cs tt N ad _ (4) (by omega) _ _ _ _ _ _ _ _ _ ⟨fry34.1, fry34.2.1, fry34.2.2.1, fry34.2.2.2.1, fry34.2.2.2.2.1, fry34.2.2.2.2.2.1, fry34.2.2.2.2.2.2⟩ (by omega) (xy75) (by omega)) (lt_K hN (rfl : Nat.blt (4) 952 = true)) hay38 fry34.1 rfl rfl mv_yX5_fallAt q_1420 hd_yX5_fallAt (by decide) (Nat.le_of_ble_eq_true rfl) (by decide) dX9_weightOf_46 rfl (kI0 fun vy78 gvy78 hvy78 => ?_)
          obtain ⟨hvy78, rfl⟩ := hvy78
          refine z_if_eq (tgt := 73) C dX9_weightOf_49 (by decide) (by omega) (fun hby79 => ?_) (fun hby79 => ?_)
          · refine z_iload C 2 dX9_weightOf_73 rfl ?_
            refine z_iload C 0 dX9_weightOf_75 rfl ?_
            refine z_if_eq (tgt := 84) C dX9_weightOf_77 (by decide) (by omega) (fun _ => ?_) (fun h => absurd h (by omega))
            refine z_bipush (z := 10) C dX9_weightOf_84 (by decide) ?_
            refine z_imul C dX9_weightOf_86 ?_
            refine z_istore (lv' := [(4, .int (zI (we * 10))), (6, .int (zI (0))), (5, .int (zI (i))), (0, .ref (ad 0)), (1, .int (zI (z))), (2, .int (zI (z1))), (3, .int (zI (z2)))]) C dX9_weightOf_87 (by decide) rfl ?_
            refine z_iinc (z := i + 1) (lv' := [(5, .int (zI (i + 1))), (4, .int (zI (we * 10))), (6, .int (zI (0))), (0, .ref (ad 0)), (1, .int (zI (z))), (2, .int (zI (z1))), (3, .int (zI (z2)))]) (j := 2) C dX9_weightOf_89 rfl rfl (by decide) rfl ?_
            refine z_goto (tgt := 6) C dX9_weightOf_92 (by decide) ?_
            obtain ⟨xy80, exy81, hxy82⟩ := zI_of (zI (we * 10))
            rw [exy81]
            refine z_lv (lv' := [(5, .int (zI (i + 1))), (4, .int (zI (xy80))), (0, .ref (ad 0)), (1, .int (zI (z))), (2, .int (zI (z1))), (3, .int (zI (z2)))]) [0, 1, 3, 4, 5, 6] rfl ?_
            exact ih _ (by omega) (xy80) (i + 1) _ rfl rfl (by omega) (by omega)
          · refine z_iload C 2 dX9_weightOf_52 rfl ?_
            refine z_iload C 0 dX9_weightOf_54 rfl ?_
            refine z_if_eq (tgt := 63) C dX9_weightOf_56 (by decide) (by omega) (fun _ => ?_) (fun h => absurd h (by omega))
            refine z_bipush (z := 10) C dX9_weightOf_63 (by decide) ?_
            refine z_iload_n C 6 dX9_weightOf_65 rfl ?_
            refine z_isub C dX9_weightOf_66 ?_
            refine z_imul C dX9_weightOf_67 ?_
            refine z_istore (lv' := [(4, .int (zI (we * (10 - z2)))), (6, .int (zI (0))), (5, .int (zI (i))), (0, .ref (ad 0)), (1, .int (zI (z))), (2, .int (zI (z1))), (3, .int (zI (z2)))]) C dX9_weightOf_68 (by decide) rfl ?_
            refine z_goto (tgt := 89) C dX9_weightOf_70 (by decide) ?_
            refine z_iinc (z := i + 1) (lv' := [(5, .int (zI (i + 1))), (4, .int (zI (we * (10 - z2)))), (6, .int (zI (0))), (0, .ref (ad 0)), (1, .int (zI (z))), (2, .int (zI (z1))), (3, .int (zI (z2)))]) (j := 2) C dX9_weightOf_89 rfl rfl (by decide) rfl ?_
            refine z_goto (tgt := 6) C dX9_weightOf_92 (by decide) ?_
            obtain ⟨xy83, exy84, hxy85⟩ := zI_of (zI (we * (10 - z2)))
            rw [exy84]
            refine z_lv (lv' := [(5, .int (zI (i + 1))), (4, .int (zI (xy83))), (0, .ref (ad 0)), (1, .int (zI (z))), (2, .int (zI (z1))), (3, .int (zI (z2)))]) [0, 1, 3, 4, 5, 6] rfl ?_
            exact ih _ (by omega) (xy83) (i + 1) _ rfl rfl (by omega) (by omega)
        · refine z_iconst (z := 1) C dX9_weightOf_22 rfl ?_
          refine z_goto (tgt := 27) C dX9_weightOf_23 (by decide) ?_
          refine z_istore (lv' := [(6, .int (zI (1))), (5, .int (zI (i))), (4, .int (zI (we))), (0, .ref (ad 0)), (1, .int (zI (z))), (2, .int (zI (z1))), (3, .int (zI (z2)))]) C dX9_weightOf_27 (by decide) rfl ?_
          refine z_aload_n C 3 dX9_weightOf_29 rfl ?_
          refine z_get (v := .ref (ad 4)) C (lt_K hN (rfl : Nat.blt (0) 952 = true)) hay35 ary34 rfl inA_X9 4 (by decide) q_353 rfl rfl dX9_weightOf_30 ?_
          refine z_aload_n C 3 dX9_weightOf_33 rfl ?_
          refine z_get (v := .ref (ad 11)) C (lt_K hN (rfl : Nat.blt (0) 952 = true)) hay35 ary34 rfl inA_X9 5 (by decide) q_354 rfl rfl dX9_weightOf_34 ?_
          refine z_get (v := .ref (ad (11 + 1))) C (lt_K hN (rfl : Nat.blt (11) 952 = true)) hay39 iry34.1 rfl inA_X6 0 (by decide) q_258 rfl rfl dX9_weightOf_37 ?_
          refine z_get (v := .int (zI (uy64t 0))) C (lt_K hN (rfl : Nat.blt (11 + 1) 952 = true)) hay65 uy641 rfl inA_X8 0 (by decide) q_174 rfl rfl dX9_weightOf_40 ?_
          refine z_iload C 1 dX9_weightOf_43 rfl ?_
          refine z_iadd C dX9_weightOf_45 ?_
          obtain ⟨xy86, exy87, hxy88⟩ := zI_of (zI ((uy64t 0) + i))
          rw [exy87]
          refine z_cV (As := [.int (zI (xy86))]) (rest := []) (ci := 7) C (c_X5_fallAt l D A cs tt N ad _ (4) (by omega) _ _ _ _ _ _ _ _ _ ⟨fry34.1, fry34.2.1, fry34.2.2.1, fry34.2.2.2.1, fry34.2.2.2.2.1, fry34.2.2.2.2.2.1, fry34.2.2.2.2.2.2⟩ (by omega) (xy86) (by omega)) (lt_K hN (rfl : Nat.blt (4) 952 = true)) hay38 fry34.1 rfl rfl mv_yX5_fallAt q_1420 hd_yX5_fallAt (by decide) (Nat.le_of_ble_eq_true rfl) (by decide) dX9_weightOf_46 rfl (kI0 fun vy89 gvy89 hvy89 => ?_)
          obtain ⟨hvy89, rfl⟩ := hvy89
          refine z_if_eq (tgt := 73) C dX9_weightOf_49 (by decide) (by omega) (fun hby90 => ?_) (fun hby90 => ?_)
          · refine z_iload C 2 dX9_weightOf_73 rfl ?_
            refine z_iload C 0 dX9_weightOf_75 rfl ?_
            refine z_if_eq (tgt := 84) C dX9_weightOf_77 (by decide) (by omega) (fun h => absurd h (by omega)) (fun _ => ?_)
            refine z_iconst (z := 0) C dX9_weightOf_80 rfl ?_
            refine z_goto (tgt := 86) C dX9_weightOf_81 (by decide) ?_
            refine z_imul C dX9_weightOf_86 ?_
            refine z_istore (lv' := [(4, .int (zI (we * 0))), (6, .int (zI (1))), (5, .int (zI (i))), (0, .ref (ad 0)), (1, .int (zI (z))), (2, .int (zI (z1))), (3, .int (zI (z2)))]) C dX9_weightOf_87 (by decide) rfl ?_
            refine z_iinc (z := i + 1) (lv' := [(5, .int (zI (i + 1))), (4, .int (zI (we * 0))), (6, .int (zI (1))), (0, .ref (ad 0)), (1, .int (zI (z))), (2, .int (zI (z1))), (3, .int (zI (z2)))]) (j := 2) C dX9_weightOf_89 rfl rfl (by decide) rfl ?_
            refine z_goto (tgt := 6) C dX9_weightOf_92 (by decide) ?_
            refine z_lv (lv' := [(5, .int (zI (i + 1))), (4, .int (zI (we * 0))), (0, .ref (ad 0)), (1, .int (zI (z))), (2, .int (zI (z1))), (3, .int (zI (z2)))]) [0, 1, 3, 4, 5, 6] rfl ?_
            exact ih _ (by omega) (we * 0) (i + 1) _ rfl rfl (by omega) (by omega)
          · refine z_iload C 2 dX9_weightOf_52 rfl ?_
            refine z_iload C 0 dX9_weightOf_54 rfl ?_
            refine z_if_eq (tgt := 63) C dX9_weightOf_56 (by decide) (by omega) (fun h => absurd h (by omega)) (fun _ => ?_)
            refine z_iload_n C 6 dX9_weightOf_59 rfl ?_
            refine z_goto (tgt := 67) C dX9_weightOf_60 (by decide) ?_
            refine z_imul C dX9_weightOf_67 ?_
            refine z_istore (lv' := [(4, .int (zI (we * z2))), (6, .int (zI (1))), (5, .int (zI (i))), (0, .ref (ad 0)), (1, .int (zI (z))), (2, .int (zI (z1))), (3, .int (zI (z2)))]) C dX9_weightOf_68 (by decide) rfl ?_
            refine z_goto (tgt := 89) C dX9_weightOf_70 (by decide) ?_
            refine z_iinc (z := i + 1) (lv' := [(5, .int (zI (i + 1))), (4, .int (zI (we * z2))), (6, .int (zI (1))), (0, .ref (ad 0)), (1, .int (zI (z))), (2, .int (zI (z1))), (3, .int (zI (z2)))]) (j := 2) C dX9_weightOf_89 rfl rfl (by decide) rfl ?_
            refine z_goto (tgt := 6) C dX9_weightOf_92 (by decide) ?_
            obtain ⟨xy91, exy92, hxy93⟩ := zI_of (zI (we * z2))
            rw [exy92]
            refine z_lv (lv' := [(5, .int (zI (i + 1))), (4, .int (zI (xy91))), (0, .ref (ad 0)), (1, .int (zI (z))), (2, .int (zI (z1))), (3, .int (zI (z2)))]) [0, 1, 3, 4, 5, 6] rfl ?_
            exact ih _ (by omega) (xy91) (i + 1) _ rfl rfl (by omega) (by omega)
  refine z_lv (lv' := [(5, .int (zI (0))), (4, .int (zI (1))), (0, .ref (ad 0)), (1, .int (zI (z))), (2, .int (zI (z1))), (3, .int (zI (z2)))]) [0, 1, 2, 3, 4, 5] rfl ?_
  exact lp _ (1) (0) _ rfl rfl (by omega) (by omega)

set_option maxRecDepth 100000 in
set_option maxHeartbeats 4000000 in
theorem c_X9_isUnstableWithout (l : Launch) (D : va_G) (A : Nat → Prop) (cs : Nat → ClassId) (tt : Nat) (N : Nat) (ad : Nat → Nat) (g : Nat → va_E) (hN : 952 ≤ N) (t fp im nz kz sl ho ua : Int) (st op ai fa mu tb tp : Nat → Int) (hR : okRec cs ad g N t fp im nz kz sl ho ua st op ai fa mu tb tp) (z : Int) (hz : -2147483648 ≤ z ∧ z ≤ 2147483647) (z1 : Int) (hz1 : 0 ≤ z1 ∧ z1 ≤ 3) (z2 : Int) (hz2 : 0 ≤ z2 ∧ z2 ≤ 6) : zM l yX9_isUnstableWithout cX9_isUnstableWithout 5 (some .boolean) ({ frames := 6, cells := 0, slots := 0, locals := 360 } : Room) D A cs tt N ad g [.ref (ad 0), .int (zI (z)), .int (zI (z1)), .int (zI (z2))] (rI0 N ad fun r g' => (0 ≤ r ∧ r ≤ 1) ∧ okRec cs ad g' N t fp im nz kz sl ho ua st op ai fa mu tb tp ∧ oX g g') := by
  obtain ⟨ary1, bry1, cry1, dry1, ery1, fry1, gry11, hry1, ⟨acry1, iry1⟩, ⟨kcry1, jry1⟩, kry1, lry1, mry1, nry1, ory1, pry1⟩ := id hR
  have hay2 : zAt ad (0) (ad 0) := rfl
  have hay3 : zAt ad (1) (ad 1) := rfl
  have hay4 : zAt ad (2) (ad 2) := rfl
  have hay5 : zAt ad (4) (ad 4) := rfl
  have hay6 : zAt ad (11) (ad 11) := rfl
  have hay7 : zAt ad (447) (ad 447) := rfl
  have hay8 : zAt ad (883) (ad 883) := rfl
  have hay9 : zAt ad (890) (ad 890) := rfl
  have hay10 : zAt ad (900) (ad 900) := rfl
  have hay11 : zAt ad (910) (ad 910) := rfl
  have hay12 : zAt ad (917) (ad 917) := rfl
  have hay13 : zAt ad (919) (ad 919) := rfl
  have hay14 : zAt ad (4 + 1) (ad (4 + 1)) := rfl
  have hay15 : zAt ad (4 + 2) (ad (4 + 2)) := rfl
  have hay16 : zAt ad (4 + 3) (ad (4 + 3)) := rfl
  have hay17 : zAt ad (4 + 4) (ad (4 + 4)) := rfl
  have hay18 : zAt ad (4 + 5) (ad (4 + 5)) := rfl
  have hay19 : zAt ad (4 + 6) (ad (4 + 6)) := rfl
  obtain ⟨thcy20, zhcy20, ohcy20, rhcy20, hzhcy20, hthcy20, hwhcy20⟩ := id lry1
  obtain ⟨thcy21, zhcy21, ohcy21, rhcy21, hzhcy21, hthcy21, hwhcy21⟩ := id mry1
  obtain ⟨asy22, bsy22, csy22, dsy22, esy22, ⟨ptsy22, fsy22, gsy221⟩, hsy22, ⟨nusy22, nvsy22, nwsy22, isy22, jsy22, ksy22, lsy22, msy22, nsy22⟩, rfsy22, osy22⟩ := id iry1
  have hay23 : zAt ad (11 + 1) (ad (11 + 1)) := rfl
  have hay24 : zAt ad (11 + 11) (ad (11 + 11)) := rfl
  have hay25 : zAt ad (11 + 12) (ad (11 + 12)) := rfl
  have hay26 : zAt ad (11 + 13) (ad (11 + 13)) := rfl
  have hay27 : zAt ad (11 + 13 + 1) (ad (11 + 13 + 1)) := rfl
  have hay28 : zAt ad (11 + 13 + 2) (ad (11 + 13 + 2)) := rfl
  have hay29 : zAt ad (11 + 13 + 3) (ad (11 + 13 + 3)) := rfl
  have hay30 : zAt ad (11 + 17) (ad (11 + 17)) := rfl
  obtain ⟨uy31t, uy31z, uy31o, uy31r, uy31z4, uy31t5, uy311, ⟨uy31u, uy312, uy313⟩, uy314⟩ := id csy22
  have hay32 : zAt ad (11 + 1) (ad (11 + 1)) := rfl
  have hay33 : zAt ad (11 + 1 + 1) (ad (11 + 1 + 1)) := rfl
  obtain ⟨sloy34, hooy34, uaoy34, stoy34, opoy34, aioy34, faoy34, muoy34, tboy34, hsloy34, hhooy34, hpoy34⟩ := id kry1
  have hay35 : zAt ad (883 + 1) (ad (883 + 1)) := rfl
  have hay36 : zAt ad (883 + 2) (ad (883 + 2)) := rfl
  have hay37 : zAt ad (883 + 3) (ad (883 + 3)) := rfl
  have hay38 : zAt ad (883 + 4) (ad (883 + 4)) := rfl
  have hay39 : zAt ad (883 + 5) (ad (883 + 5)) := rfl
  have hay40 : zAt ad (883 + 6) (ad (883 + 6)) := rfl
  refine z_of (by decide) (Nat.le_of_ble_eq_true rfl) ?_
  intro p e s m below meth c C hr hlk hnm
  refine z_lv (lv' := [(0, .ref (ad 0)), (1, .int (zI (z))), (2, .int (zI (z1))), (3, .int (zI (z2)))]) [0, 1, 2, 3] rfl ?_
  refine z_aload_n C 0 dX9_isUnstableWithout_0 rfl ?_
  refine z_get (v := .ref (ad 890)) C (lt_K hN (rfl : Nat.blt (0) 952 = true)) hay2 ary1 rfl inA_X9 9 (by decide) q_358 rfl rfl dX9_isUnstableWithout_1 ?_
  refine z_aload_n C 0 dX9_isUnstableWithout_4 rfl ?_
  refine z_get (v := .ref (ad 11)) C (lt_K hN (rfl : Nat.blt (0) 952 = true)) hay2 ary1 rfl inA_X9 5 (by decide) q_354 rfl rfl dX9_isUnstableWithout_5 ?_
  refine z_get (v := .ref (ad (11 + 1))) C (lt_K hN (rfl : Nat.blt (11) 952 = true)) hay6 iry1.1 rfl inA_X6 0 (by decide) q_258 rfl rfl dX9_isUnstableWithout_8 ?_
  refine z_cV (As := [.ref (ad (11 + 1))]) (rest := []) (ci := 10) C (c_X8_copyFrom l D A cs tt N ad _ (890) (by omega) lry1 (11 + 1) (by omega) csy22 (by omega)) (lt_K hN (rfl : Nat.blt (890) 952 = true)) hay9 hwhcy20.1 rfl rfl mv_yX8_copyFrom q_1228 hd_yX8_copyFrom (by decide) (Nat.le_of_ble_eq_true rfl) (by decide) dX9_isUnstableWithout_11 rfl (kV0 fun gvy41 hvy41 => ?_)
  obtain ⟨⟨tvy41, zvy41, ovy41, rvy41, hzvy41, htvy41, -, hwvy41⟩, hfvy41⟩ := hvy41
  have hoky42 : okWorld cs ad gvy41 (890) := ⟨_, _, _, _, hzvy41, htvy41, hwvy41⟩
  obtain ⟨thcy43, zhcy43, ohcy43, rhcy43, hzhcy43, hthcy43, hwhcy43⟩ := id hoky42
  refine z_iconst (z := 0) C dX9_isUnstableWithout_14 rfl ?_
  refine z_istore (lv' := [(4, .int (zI (0))), (0, .ref (ad 0)), (1, .int (zI (z))), (2, .int (zI (z1))), (3, .int (zI (z2)))]) C dX9_isUnstableWithout_15 (by decide) rfl ?_
  have lp17 : ∀ (n9 : Nat) (i : Int) (g1 : Nat → va_E), (6 - i).toNat = n9 → (okRec cs ad g1 N t fp im nz kz sl ho ua st op ai fa mu tb tp) → (oX g g1) → (0 ≤ i ∧ i ≤ 6) → zV p l e ({ frames := 6, cells := 0, slots := 0, locals := 360 } : Room) s m ([.ref (ad 0), .int (zI (z)), .int (zI (z1)), .int (zI (z2))] : List Value).toArray below meth c (MQ below (zPost D A (rI0 N ad fun r g' => (0 ≤ r ∧ r ≤ 1) ∧ okRec cs ad g' N t fp im nz kz sl ho ua st op ai fa mu tb tp ∧ oX g g')) ([.ref (ad 0), .int (zI (z)), .int (zI (z1)), .int (zI (z2))] : List Value).toArray s ({ frames := 6, cells := 0, slots := 0, locals := 360 } : Room).cells ({ frames := 6, cells := 0, slots := 0, locals := 360 } : Room).slots A) D A 5 (N) ad g1 (0) (0) 17 [(4, .int (zI (i))), (0, .ref (ad 0)), (1, .int (zI (z))), (2, .int (zI (z1))), (3, .int (zI (z2)))] [] := by
    intro n9
    induction n9 using Nat.strongRecOn with
    | ind n9 ih_lp17 =>
      intro i g1 hm9 f1 f2 hv17_0
      obtain ⟨ary44, bry44, cry44, dry44, ery44, fry44, gry441, hry44, ⟨acry44, iry44⟩, ⟨kcry44, jry44⟩, kry44, lry44, mry44, nry44, ory44, pry44⟩ := id f1
      have hay45 : zAt ad (0) (ad 0) := rfl
      have hay46 : zAt ad (1) (ad 1) := rfl
      have hay47 : zAt ad (2) (ad 2) := rfl
      have hay48 : zAt ad (4) (ad 4) := rfl
      have hay49 : zAt ad (11) (ad 11) := rfl
      have hay50 : zAt ad (447) (ad 447) := rfl
      have hay51 : zAt ad (883) (ad 883) := rfl
      have hay52 : zAt ad (890) (ad 890) := rfl
      have hay53 : zAt ad (900) (ad 900) := rfl
      have hay54 : zAt ad (910) (ad 910) := rfl
      have hay55 : zAt ad (917) (ad 917) := rfl
      have hay56 : zAt ad (919) (ad 919) := rfl
      have hay57 : zAt ad (4 + 1) (ad (4 + 1)) := rfl
      have hay58 : zAt ad (4 + 2) (ad (4 + 2)) := rfl
      have hay59 : zAt ad (4 + 3) (ad (4 + 3)) := rfl
      have hay60 : zAt ad (4 + 4) (ad (4 + 4)) := rfl
      have hay61 : zAt ad (4 + 5) (ad (4 + 5)) := rfl
      have hay62 : zAt ad (4 + 6) (ad (4 + 6)) := rfl
      obtain ⟨thcy63, zhcy63, ohcy63, rhcy63, hzhcy63, hthcy63, hwhcy63⟩ := id lry44
      obtain ⟨thcy64, zhcy64, ohcy64, rhcy64, hzhcy64, hthcy64, hwhcy64⟩ := id mry44
      obtain ⟨asy65, bsy65, csy65, dsy65, esy65, ⟨ptsy65, fsy65, gsy651⟩, hsy65, ⟨nusy65, nvsy65, nwsy65, isy65, jsy65, ksy65, lsy65, msy65, nsy65⟩, rfsy65, osy65⟩ := id iry44
      have hay66 : zAt ad (11 + 1) (ad (11 + 1)) := rfl
      have hay67 : zAt ad (11 + 11) (ad (11 + 11)) := rfl
      have hay68 : zAt ad (11 + 12) (ad (11 + 12)) := rfl
      have hay69 : zAt ad (11 + 13) (ad (11 + 13)) := rfl
      have hay70 : zAt ad (11 + 13 + 1) (ad (11 + 13 + 1)) := rfl
      have hay71 : zAt ad (11 + 13 + 2) (ad (11 + 13 + 2)) := rfl
      have hay72 : zAt ad (11 + 13 + 3) (ad (11 + 13 + 3)) := rfl
      have hay73 : zAt ad (11 + 17) (ad (11 + 17)) := rfl
      obtain ⟨uy74t, uy74z, uy74o, uy74r, uy74z4, uy74t5, uy741, ⟨uy74u, uy742, uy743⟩, uy744⟩ := id csy65
      have hay75 : zAt ad (11 + 1) (ad (11 + 1)) := rfl
      have hay76 : zAt ad (11 + 1 + 1) (ad (11 + 1 + 1)) := rfl
      obtain ⟨sloy77, hooy77, uaoy77, stoy77, opoy77, aioy77, faoy77, muoy77, tboy77, hsloy77, hhooy77, hpoy77⟩ := id kry44
      have hay78 : zAt ad (883 + 1) (ad (883 + 1)) := rfl
      have hay79 : zAt ad (883 + 2) (ad (883 + 2)) := rfl
      have hay80 : zAt ad (883 + 3) (ad (883 + 3)) := rfl
      have hay81 : zAt ad (883 + 4) (ad (883 + 4)) := rfl
      have hay82 : zAt ad (883 + 5) (ad (883 + 5)) := rfl
      have hay83 : zAt ad (883 + 6) (ad (883 + 6)) := rfl
      refine z_iload C 0 dX9_isUnstableWithout_17 rfl ?_
      refine z_iload_n C 4 dX9_isUnstableWithout_19 rfl ?_
      refine z_icmp_ge (tgt := 57) C dX9_isUnstableWithout_20 (by decide) (by omega) (by omega) (fun hby84 => ?_) (fun hby84 => ?_)
      · refine z_aload_n C 1 dX9_isUnstableWithout_57 rfl ?_
        refine z_aload_n C 1 dX9_isUnstableWithout_58 rfl ?_
        refine z_get (v := .ref (ad 890)) C (lt_K hN (rfl : Nat.blt (0) 952 = true)) hay45 ary44 rfl inA_X9 9 (by decide) q_358 rfl rfl dX9_isUnstableWithout_59 ?_
        refine z_iload_n C 3 dX9_isUnstableWithout_62 rfl ?_
        have hrecy86 : okRec cs ad g1 N (t) (fp) (im) (nz) (kz) (sl) (ho) (ua) (st) (op) (ai) (fa) (mu) (tb) (tp) := ⟨ary44, bry44, cry44, dry44, ery44, fry44, gry441, hry44, ⟨_, iry44⟩, ⟨_, jry44⟩, kry44, lry44, mry44, nry44, ory44, pry44⟩
        refine z_cV (As := [.ref (ad 890), .int (zI (z1))]) (rest := []) (ci := 11) C (c_X9_isUnstable l D A cs tt N ad _ hN _ _ _ _ _ _ _ _ _ _ _ _ _ _ _ hrecy86 (890) (by omega) lry44 (z1) (by omega)) (lt_K hN (rfl : Nat.blt (0) 952 = true)) hay45 ary44 rfl rfl mv_yX9_isUnstable q_560 hd_yX9_isUnstable (by decide) (Nat.le_of_ble_eq_true rfl) (by decide) dX9_isUnstableWithout_63 rfl (kI0 fun vy85 gvy85 hvy85 => ?_)
        obtain ⟨hvy85, rfl⟩ := hvy85
        have hrecy87 : okRec cs ad g1 N (t) (fp) (im) (nz) (kz) (sl) (ho) (ua) (st) (op) (ai) (fa) (mu) (tb) (tp) := ⟨ary44, bry44, cry44, dry44, ery44, fry44, gry441, hry44, ⟨_, iry44⟩, ⟨_, jry44⟩, kry44, lry44, mry44, nry44, ory44, pry44⟩
        exact z_zret C hr hlk dX9_isUnstableWithout_66 (nb01 (by omega)) (by decide) (by decide) ⟨vy85, rfl, rfl, rfl, by omega, hrecy87, fun j j1 j2 => by exact f2 j j1 j2⟩
      · refine z_aload_n C 1 dX9_isUnstableWithout_23 rfl ?_
        refine z_get (v := .ref (ad 890)) C (lt_K hN (rfl : Nat.blt (0) 952 = true)) hay45 ary44 rfl inA_X9 9 (by decide) q_358 rfl rfl dX9_isUnstableWithout_24 ?_
        refine z_aload_n C 1 dX9_isUnstableWithout_27 rfl ?_
        refine z_get (v := .ref (ad 4)) C (lt_K hN (rfl : Nat.blt (0) 952 = true)) hay45 ary44 rfl inA_X9 4 (by decide) q_353 rfl rfl dX9_isUnstableWithout_28 ?_
        refine z_iconst (z := 1) C dX9_isUnstableWithout_31 rfl ?_
        refine z_iload_n C 3 dX9_isUnstableWithout_32 rfl ?_
        obtain ⟨xy88, exy89, hxy90⟩ := zI_of (zI (1) <<< (zI (z1) &&& 31))
        refine z_ishl (z := xy88) C dX9_isUnstableWithout_33 exy89 ?_
        refine z_iload_n C 2 dX9_isUnstableWithout_34 rfl ?_
        refine z_iload C 0 dX9_isUnstableWithout_35 rfl ?_
        obtain ⟨xy91, exy92, hxy93⟩ := zI_of (zI (z) >>> (zI (i) &&& 31))
        refine z_ishr (z := xy91) C dX9_isUnstableWithout_37 exy92 ?_
        refine z_iconst (z := 1) C dX9_isUnstableWithout_38 rfl ?_
        obtain ⟨xy94, exy95, hxy96⟩ := zI_and (zI (xy91)) (m := zI 1) 1 (by decide)
        refine z_iand (z := xy94) C dX9_isUnstableWithout_39 exy95 ?_
        refine z_if_ne (tgt := 47) C dX9_isUnstableWithout_40 (by decide) (by omega) (fun hby97 => ?_) (fun hby97 => ?_)
        · refine z_iconst (z := 0) C dX9_isUnstableWithout_47 rfl ?_
          refine z_cV (As := [.ref (ad 4), .int (zI (xy88)), .int (zI (0))]) (rest := []) (ci := 10) C (c_X8_hour l D A cs tt N ad _ (890) (by omega) lry44 (4) (by omega) _ _ _ _ _ _ _ _ _ ⟨fry44.1, fry44.2.1, fry44.2.2.1, fry44.2.2.2.1, fry44.2.2.2.2.1, fry44.2.2.2.2.2.1, fry44.2.2.2.2.2.2⟩ (by omega) (by omega) (by omega) (xy88) (by omega) (0) (by omega)) (lt_K hN (rfl : Nat.blt (890) 952 = true)) hay52 hwhcy63.1 rfl rfl mv_yX8_hour q_435 hd_yX8_hour (by decide) (Nat.le_of_ble_eq_true rfl) (by decide) dX9_isUnstableWithout_48 rfl (kV0 fun gvy98 hvy98 => ?_)
          obtain ⟨hkvy98, hfvy98⟩ := hvy98
          have hoky99 : okWorld cs ad gvy98 (890) := hkvy98
          obtain ⟨thcy100, zhcy100, ohcy100, rhcy100, hzhcy100, hthcy100, hwhcy100⟩ := id hoky99
          refine z_iinc (z := i + 1) (lv' := [(4, .int (zI (i + 1))), (0, .ref (ad 0)), (1, .int (zI (z))), (2, .int (zI (z1))), (3, .int (zI (z2)))]) (j := 0) C dX9_isUnstableWithout_51 rfl rfl (by decide) rfl ?_
          refine z_goto (tgt := 17) C dX9_isUnstableWithout_54 (by decide) ?_
          have hgy101 := (hfvy98 (0) (by omega)).trans ary44
          have hgy102 := (hfvy98 (1) (by omega)).trans dry44
          have hpy103 := okState.mv (ad' := ad) (g' := gvy98) (fun j h1 h2 => by rfl) (fun j h1 h2 => by rw [hfvy98 _ (by omega)]) iry44
          have hpy104 := okRdr.mv (ad' := ad) (g' := gvy98) (fun j h1 h2 => by rfl) (fun j h1 h2 => by rw [hfvy98 _ (by omega)]) ery44
          have hpy105 := isPlan.mv (ad' := ad) (g' := gvy98) (fun j h1 h2 => by rfl) (fun j h1 h2 => by rw [hfvy98 _ (by omega)]) fry44
          have hpy106 := okState.mv (ad' := ad) (g' := gvy98) (fun j h1 h2 => by rfl) (fun j h1 h2 => by rw [hfvy98 _ (by omega)]) jry44
          have hpy107 := okPlan.mv (ad' := ad) (g' := gvy98) (fun j h1 h2 => by rfl) (fun j h1 h2 => by rw [hfvy98 _ (by omega)]) kry44
          have hpy108 := okGss.mv (ad' := ad) (g' := gvy98) (fun j h1 h2 => by rfl) (fun j h1 h2 => by rw [hfvy98 _ (by omega)]) nry44
          have hpy109 := okLike.mv (ad' := ad) (g' := gvy98) (fun j h1 h2 => by rfl) (fun j h1 h2 => by rw [hfvy98 _ (by omega)]) ory44
          have hpy110 := okBld.mv (ad' := ad) (g' := gvy98) (fun j h1 h2 => by rfl) (fun j h1 h2 => by rw [hfvy98 _ (by omega)]) pry44
          have hoky111 : okWorld cs ad gvy98 (900) := okWorld.mv (fun j j1 j2 => by rw [hfvy98 _ (by omega)]) mry44
          have hrecy112 : okRec cs ad gvy98 N (t) (fp) (im) (nz) (kz) (sl) (ho) (ua) (st) (op) (ai) (fa) (mu) (tb) (tp) := ⟨hgy101, bry44, cry44, hgy102, hpy104, hpy105, gry441, hry44, ⟨_, hpy103⟩, ⟨_, hpy106⟩, hpy107, hoky99, hoky111, hpy108, hpy109, hpy110⟩
          refine z_lv (lv' := [(4, .int (zI (i + 1))), (0, .ref (ad 0)), (1, .int (zI (z))), (2, .int (zI (z1))), (3, .int (zI (z2)))]) [0, 1, 2, 3, 4] rfl ?_
          exact ih_lp17 _ (by omega) (i + 1) gvy98 rfl hrecy112 (fun j j1 j2 => by rw [hfvy98 _ (by omega)]; exact f2 j j1 j2) (by omega)
        · refine z_iconst (z := 1) C dX9_isUnstableWithout_43 rfl ?_
          refine z_goto (tgt := 48) C dX9_isUnstableWithout_44 (by decide) ?_
          refine z_cV (As := [.ref (ad 4), .int (zI (xy88)), .int (zI (1))]) (rest := []) (ci := 10) C (c_X8_hour l D A cs tt N ad _ (890) (by omega) lry44 (4) (by omega) _ _ _ _ _ _ _ _ _ ⟨fry44.1, fry44.2.1, fry44.2.2.1, fry44.2.2.2.1, fry44.2.2.2.2.1, fry44.2.2.2.2.2.1, fry44.2.2.2.2.2.2⟩ (by omega) (by omega) (by omega) (xy88) (by omega) (1) (by omega)) (lt_K hN (rfl : Nat.blt (890) 952 = true)) hay52 hwhcy63.1 rfl rfl mv_yX8_hour q_435 hd_yX8_hour (by decide) (Nat.le_of_ble_eq_true rfl) (by decide) dX9_isUnstableWithout_48 rfl (kV0 fun gvy113 hvy113 => ?_)
          obtain ⟨hkvy113, hfvy113⟩ := hvy113
          have hoky114 : okWorld cs ad gvy113 (890) := hkvy113
          obtain ⟨thcy115, zhcy115, ohcy115, rhcy115, hzhcy115, hthcy115, hwhcy115⟩ := id hoky114
          refine z_iinc (z := i + 1) (lv' := [(4, .int (zI (i + 1))), (0, .ref (ad 0)), (1, .int (zI (z))), (2, .int (zI (z1))), (3, .int (zI (z2)))]) (j := 0) C dX9_isUnstableWithout_51 rfl rfl (by decide) rfl ?_
          refine z_goto (tgt := 17) C dX9_isUnstableWithout_54 (by decide) ?_
          have hgy116 := (hfvy113 (0) (by omega)).trans ary44
          have hgy117 := (hfvy113 (1) (by omega)).trans dry44
          have hpy118 := okState.mv (ad' := ad) (g' := gvy113) (fun j h1 h2 => by rfl) (fun j h1 h2 => by rw [hfvy113 _ (by omega)]) iry44
          have hpy119 := okRdr.mv (ad' := ad) (g' := gvy113) (fun j h1 h2 => by rfl) (fun j h1 h2 => by rw [hfvy113 _ (by omega)]) ery44
          have hpy120 := isPlan.mv (ad' := ad) (g' := gvy113) (fun j h1 h2 => by rfl) (fun j h1 h2 => by rw [hfvy113 _ (by omega)]) fry44
          have hpy121 := okState.mv (ad' := ad) (g' := gvy113) (fun j h1 h2 => by rfl) (fun j h1 h2 => by rw [hfvy113 _ (by omega)]) jry44
          have hpy122 := okPlan.mv (ad' := ad) (g' := gvy113) (fun j h1 h2 => by rfl) (fun j h1 h2 => by rw [hfvy113 _ (by omega)]) kry44
          have hpy123 := okGss.mv (ad' := ad) (g' := gvy113) (fun j h1 h2 => by rfl) (fun j h1 h2 => by rw [hfvy113 _ (by omega)]) nry44
          have hpy124 := okLike.mv (ad' := ad) (g' := gvy113) (fun j h1 h2 => by rfl) (fun j h1 h2 => by rw [hfvy113 _ (by omega)]) ory44
          have hpy125 := okBld.mv (ad' := ad) (g' := gvy113) (fun j h1 h2 => by rfl) (fun j h1 h2 => by rw [hfvy113 _ (by omega)]) pry44
          have hoky126 : okWorld cs ad gvy113 (900) := okWorld.mv (fun j j1 j2 => by rw [hfvy113 _ (by omega)]) mry44
          have hrecy127 : okRec cs ad gvy113 N (t) (fp) (im) (nz) (kz) (sl) (ho) (ua) (st) (op) (ai) (fa) (mu) (tb) (tp) := ⟨hgy116, bry44, cry44, hgy117, hpy119, hpy120, gry441, hry44, ⟨_, hpy118⟩, ⟨_, hpy121⟩, hpy122, hoky114, hoky126, hpy123, hpy124, hpy125⟩
          refine z_lv (lv' := [(4, .int (zI (i + 1))), (0, .ref (ad 0)), (1, .int (zI (z))), (2, .int (zI (z1))), (3, .int (zI (z2)))]) [0, 1, 2, 3, 4] rfl ?_
          exact ih_lp17 _ (by omega) (i + 1) gvy113 rfl hrecy127 (fun j j1 j2 => by rw [hfvy113 _ (by omega)]; exact f2 j j1 j2) (by omega)
  have hgy128 := (hfvy41 (0) (by omega)).trans ary1
  have hgy129 := (hfvy41 (1) (by omega)).trans dry1
  have hpy130 := okState.mv (ad' := ad) (g' := gvy41) (fun j h1 h2 => by rfl) (fun j h1 h2 => by rw [hfvy41 _ (by omega)]) iry1
  have hpy131 := okRdr.mv (ad' := ad) (g' := gvy41) (fun j h1 h2 => by rfl) (fun j h1 h2 => by rw [hfvy41 _ (by omega)]) ery1
  have hpy132 := isPlan.mv (ad' := ad) (g' := gvy41) (fun j h1 h2 => by rfl) (fun j h1 h2 => by rw [hfvy41 _ (by omega)]) fry1
  have hpy133 := okState.mv (ad' := ad) (g' := gvy41) (fun j h1 h2 => by rfl) (fun j h1 h2 => by rw [hfvy41 _ (by omega)]) jry1
  have hpy134 := okPlan.mv (ad' := ad) (g' := gvy41) (fun j h1 h2 => by rfl) (fun j h1 h2 => by rw [hfvy41 _ (by omega)]) kry1
  have hpy135 := okGss.mv (ad' := ad) (g' := gvy41) (fun j h1 h2 => by rfl) (fun j h1 h2 => by rw [hfvy41 _ (by omega)]) nry1
  have hpy136 := okLike.mv (ad' := ad) (g' := gvy41) (fun j h1 h2 => by rfl) (fun j h1 h2 => by rw [hfvy41 _ (by omega)]) ory1
  have hpy137 := okBld.mv (ad' := ad) (g' := gvy41) (fun j h1 h2 => by rfl) (fun j h1 h2 => by rw [hfvy41 _ (by omega)]) pry1
  have hoky138 : okWorld cs ad gvy41 (900) := okWorld.mv (fun j j1 j2 => by rw [hfvy41 _ (by omega)]) mry1
  have hrecy139 : okRec cs ad gvy41 N (t) (fp) (im) (nz) (kz) (sl) (ho) (ua) (st) (op) (ai) (fa) (mu) (tb) (tp) := ⟨hgy128, bry1, cry1, hgy129, hpy131, hpy132, gry11, hry1, ⟨_, hpy130⟩, ⟨_, hpy133⟩, hpy134, hoky42, hoky138, hpy135, hpy136, hpy137⟩
  refine z_lv (lv' := [(4, .int (zI (0))), (0, .ref (ad 0)), (1, .int (zI (z))), (2, .int (zI (z1))), (3, .int (zI (z2)))]) [0, 1, 2, 3, 4] rfl ?_
  exact lp17 _ (0) gvy41 rfl hrecy139 (fun j j1 j2 => by rw [hfvy41 _ (by omega)]) (by omega)

set_option maxRecDepth 100000 in
set_option maxHeartbeats 4000000 in
theorem c_X9_odds (l : Launch) (D : va_G) (A : Nat → Prop) (cs : Nat → ClassId) (tt : Nat) (N : Nat) (ad : Nat → Nat) (g : Nat → va_E) (hN : 952 ≤ N) (t fp im nz kz sl ho ua : Int) (st op ai fa mu tb tp : Nat → Int) (hR : okRec cs ad g N t fp im nz kz sl ho ua st op ai fa mu tb tp) (hl0 : l.stackTraces = false) (z : Int) (hz : -2147483648 ≤ z ∧ z ≤ 2147483647) (z1 : Int) (hz1 : -2147483648 ≤ z1 ∧ z1 ≤ 2147483647) (z2 : Int) (hz2 : -2147483648 ≤ z2 ∧ z2 ≤ 2147483647) : zMX l yX9_odds cX9_odds 7 (some .int) ({ frames := 12, cells := 6, slots := 60, locals := 720 } : Room) D A cs tt N ad g [.ref (ad 0), .int (zI (z)), .int (zI (z1)), .int (zI (z2))] (rI0 N ad fun r g' => (-2147483648 ≤ r ∧ r ≤ 2147483647) ∧ okRec cs ad g' N t fp im nz kz sl ho ua st op ai fa mu tb tp ∧ oX g g') (fun E N' ad' g' => (E = eNS ∨ E = eIA) ∧ N' = N ∧ ad' = ad ∧ g' = g) := by
  obtain ⟨ary1, bry1, cry1, dry1, ery1, fry1, gry11, hry1, ⟨acry1, iry1⟩, ⟨kcry1, jry1⟩, kry1, lry1, mry1, nry1, ory1, pry1⟩ := id hR
  have hay2 : zAt ad (0) (ad 0) := rfl
  have hay3 : zAt ad (1) (ad 1) := rfl
  have hay4 : zAt ad (2) (ad 2) := rfl
  have hay5 : zAt ad (4) (ad 4) := rfl
  have hay6 : zAt ad (11) (ad 11) := rfl
  have hay7 : zAt ad (447) (ad 447) := rfl
  have hay8 : zAt ad (883) (ad 883) := rfl
  have hay9 : zAt ad (890) (ad 890) := rfl
  have hay10 : zAt ad (900) (ad 900) := rfl
  have hay11 : zAt ad (910) (ad 910) := rfl
  have hay12 : zAt ad (917) (ad 917) := rfl
  have hay13 : zAt ad (919) (ad 919) := rfl
  have hay14 : zAt ad (4 + 1) (ad (4 + 1)) := rfl
  have hay15 : zAt ad (4 + 2) (ad (4 + 2)) := rfl
  have hay16 : zAt ad (4 + 3) (ad (4 + 3)) := rfl
  have hay17 : zAt ad (4 + 4) (ad (4 + 4)) := rfl
  have hay18 : zAt ad (4 + 5) (ad (4 + 5)) := rfl
  have hay19 : zAt ad (4 + 6) (ad (4 + 6)) := rfl
  obtain ⟨thcy20, zhcy20, ohcy20, rhcy20, hzhcy20, hthcy20, hwhcy20⟩ := id lry1
  obtain ⟨thcy21, zhcy21, ohcy21, rhcy21, hzhcy21, hthcy21, hwhcy21⟩ := id mry1
  obtain ⟨asy22, bsy22, csy22, dsy22, esy22, ⟨ptsy22, fsy22, gsy221⟩, hsy22, ⟨nusy22, nvsy22, nwsy22, isy22, jsy22, ksy22, lsy22, msy22, nsy22⟩, rfsy22, osy22⟩ := id iry1
  have hay23 : zAt ad (11 + 1) (ad (11 + 1)) := rfl
  have hay24 : zAt ad (11 + 11) (ad (11 + 11)) := rfl
  have hay25 : zAt ad (11 + 12) (ad (11 + 12)) := rfl
  have hay26 : zAt ad (11 + 13) (ad (11 + 13)) := rfl
  have hay27 : zAt ad (11 + 13 + 1) (ad (11 + 13 + 1)) := rfl
  have hay28 : zAt ad (11 + 13 + 2) (ad (11 + 13 + 2)) := rfl
  have hay29 : zAt ad (11 + 13 + 3) (ad (11 + 13 + 3)) := rfl
  have hay30 : zAt ad (11 + 17) (ad (11 + 17)) := rfl
  obtain ⟨uy31t, uy31z, uy31o, uy31r, uy31z4, uy31t5, uy311, ⟨uy31u, uy312, uy313⟩, uy314⟩ := id csy22
  have hay32 : zAt ad (11 + 1) (ad (11 + 1)) := rfl
  have hay33 : zAt ad (11 + 1 + 1) (ad (11 + 1 + 1)) := rfl
  obtain ⟨sloy34, hooy34, uaoy34, stoy34, opoy34, aioy34, faoy34, muoy34, tboy34, hsloy34, hhooy34, hpoy34⟩ := id kry1
  have hay35 : zAt ad (883 + 1) (ad (883 + 1)) := rfl
  have hay36 : zAt ad (883 + 2) (ad (883 + 2)) := rfl
  have hay37 : zAt ad (883 + 3) (ad (883 + 3)) := rfl
  have hay38 : zAt ad (883 + 4) (ad (883 + 4)) := rfl
  have hay39 : zAt ad (883 + 5) (ad (883 + 5)) := rfl
  have hay40 : zAt ad (883 + 6) (ad (883 + 6)) := rfl
  refine z_ofX (by decide) (Nat.le_of_ble_eq_true rfl) ?_
  intro p e s m below meth c C hr hlk hxt
  refine z_lv (lv' := [(0, .ref (ad 0)), (1, .int (zI (z))), (2, .int (zI (z1))), (3, .int (zI (z2)))]) [0, 1, 2, 3] rfl ?_
  refine z_aload_n C 0 dX9_odds_0 rfl ?_
  refine z_iload_n C 1 dX9_odds_1 rfl ?_
  have hrecy42 : okRec cs ad g N (t) (fp) (im) (nz) (kz) (sl) (ho) (ua) (st) (op) (ai) (fa) (mu) (tb) (tp) := ⟨ary1, bry1, cry1, dry1, ery1, fry1, gry11, hry1, ⟨_, iry1⟩, ⟨_, jry1⟩, kry1, lry1, mry1, nry1, ory1, pry1⟩
  refine z_cVX (As := [.int (zI (z))]) (rest := []) (ci := 11) C (c_X9_needSlope l D A cs tt N ad _ hN _ _ _ _ _ _ _ _ _ _ _ _ _ _ _ hrecy42 hl0 (z) (by omega)) (lt_K hN (rfl : Nat.blt (0) 952 = true)) hay2 ary1 rfl rfl mv_yX9_needSlope q_940 hd_yX9_needSlope (by decide) (Nat.le_of_ble_eq_true rfl) (by decide) dX9_odds_2 rfl (fun E N' ad' g' h => by obtain ⟨rfl, rfl, rfl, rfl⟩ := h; exact z_uout C hxt hlk (by decide) (by decide) ⟨Or.inl rfl, rfl, rfl, rfl⟩) (kV0 fun gvy41 hvy41 => ?_)
  obtain ⟨hvy41, rfl⟩ := hvy41
  refine z_iload_n C 2 dX9_odds_5 rfl ?_
  refine z_iconst (z := 1) C dX9_odds_6 rfl ?_
  refine z_bipush (z := 6) C dX9_odds_7 (by decide) ?_
  refine z_cSX (As := [.int (zI (z1)), .int (zI (1)), .int (zI (6))]) (rest := []) C (c_X9_needHours l D A cs tt N ad _ hl0 (z1) (by omega) (1) (by omega) (6) (by omega)) ms_yX9_needHours q_1224 hd_yX9_needHours (by decide) (Nat.le_of_ble_eq_true rfl) (by decide) dX9_odds_9 rfl (fun E N' ad' g' h => by obtain ⟨⟨rfl, h9⟩, rfl, rfl, rfl⟩ := h; exact z_uout C hxt hlk (by decide) (by decide) ⟨Or.inr rfl, rfl, rfl, rfl⟩) (kV0 fun gvy43 hvy43 => ?_)
  obtain ⟨hvy43, rfl⟩ := hvy43
  refine z_iload_n C 3 dX9_odds_12 rfl ?_
  refine z_if_lt (tgt := 22) C dX9_odds_13 (by decide) (by omega) (fun hby44 => ?_) (fun hby44 => ?_)
  · exact z_thrW (cls := eIA) (text := "tenths are 0 to 10") C hl0 (by decide +kernel) q_658 q_19 (by decide +kernel) at_IA gd_IA dX9_odds_22 dX9_odds_25 dX9_odds_26 dX9_odds_29 dX9_odds_32 hxt (by decide) (Nat.le_of_ble_eq_true rfl) (by decide) (by decide) hlk (by decide) (by decide) ⟨Or.inr rfl, rfl, rfl, rfl⟩
  · refine z_iload_n C 3 dX9_odds_16 rfl ?_
    refine z_bipush (z := 10) C dX9_odds_17 (by decide) ?_
    refine z_icmp_le (tgt := 33) C dX9_odds_19 (by decide) (by omega) (by omega) (fun hby45 => ?_) (fun hby45 => ?_)
    · refine z_iconst (z := 0) C dX9_odds_33 rfl ?_
      refine z_istore (lv' := [(4, .int (zI (0))), (0, .ref (ad 0)), (1, .int (zI (z))), (2, .int (zI (z1))), (3, .int (zI (z2)))]) C dX9_odds_34 (by decide) rfl ?_
      refine z_iconst (z := 0) C dX9_odds_36 rfl ?_
      refine z_istore (lv' := [(5, .int (zI (0))), (4, .int (zI (0))), (0, .ref (ad 0)), (1, .int (zI (z))), (2, .int (zI (z1))), (3, .int (zI (z2)))]) C dX9_odds_37 (by decide) rfl ?_
      have lp39 : ∀ (n9 : Nat) (i : Int) (ch : Int) (g1 : Nat → va_E), (64 - i).toNat = n9 → (okRec cs ad g1 N t fp im nz kz sl ho ua st op ai fa mu tb tp) → (oX g g1) → (0 ≤ i ∧ i ≤ 64) → (-2147483648 ≤ ch ∧ ch ≤ 2147483647) → (0 ≤ z ∧ z < sl) → (1 ≤ z1 ∧ z1 ≤ 6) → (0 ≤ z2 ∧ z2 ≤ 10) → zV p l e ({ frames := 12, cells := 6, slots := 60, locals := 720 } : Room) s m ([.ref (ad 0), .int (zI (z)), .int (zI (z1)), .int (zI (z2))] : List Value).toArray below meth c (vx_MQ below (zPost D A (rI0 N ad fun r g' => (-2147483648 ≤ r ∧ r ≤ 2147483647) ∧ okRec cs ad g' N t fp im nz kz sl ho ua st op ai fa mu tb tp ∧ oX g g')) (zX D A (fun E N' ad' g' => (E = eNS ∨ E = eIA) ∧ N' = N ∧ ad' = ad ∧ g' = g)) ([.ref (ad 0), .int (zI (z)), .int (zI (z1)), .int (zI (z2))] : List Value).toArray s ({ frames := 12, cells := 6, slots := 60, locals := 720 } : Room).cells ({ frames := 12, cells := 6, slots := 60, locals := 720 } : Room).slots A) D A 7 (N) ad g1 (2) (12) 39 [(5, .int (zI (i))), (4, .int (zI (ch))), (0, .ref (ad 0)), (1, .int (zI (z))), (2, .int (zI (z1))), (3, .int (zI (z2)))] [] := by
        intro n9
        induction n9 using Nat.strongRecOn with
        | ind n9 ih_lp39 =>
          intro i ch g1 hm9 f1 f2 hv39_0 hv39_1 hv39_2 hv39_3 hv39_4
          obtain ⟨ary46, bry46, cry46, dry46, ery46, fry46, gry461, hry46, ⟨acry46, iry46⟩, ⟨kcry46, jry46⟩, kry46, lry46, mry46, nry46, ory46, pry46⟩ := id f1
          have hay47 : zAt ad (0) (ad 0) := rfl
          have hay48 : zAt ad (1) (ad 1) := rfl
          have hay49 : zAt ad (2) (ad 2) := rfl
          have hay50 : zAt ad (4) (ad 4) := rfl
          have hay51 : zAt ad (11) (ad 11) := rfl
          have hay52 : zAt ad (447) (ad 447) := rfl
          have hay53 : zAt ad (883) (ad 883) := rfl
          have hay54 : zAt ad (890) (ad 890) := rfl
          have hay55 : zAt ad (900) (ad 900) := rfl
          have hay56 : zAt ad (910) (ad 910) := rfl
          have hay57 : zAt ad (917) (ad 917) := rfl
          have hay58 : zAt ad (919) (ad 919) := rfl
          have hay59 : zAt ad (4 + 1) (ad (4 + 1)) := rfl
          have hay60 : zAt ad (4 + 2) (ad (4 + 2)) := rfl
          have hay61 : zAt ad (4 + 3) (ad (4 + 3)) := rfl
          have hay62 : zAt ad (4 + 4) (ad (4 + 4)) := rfl
          have hay63 : zAt ad (4 + 5) (ad (4 + 5)) := rfl
          have hay64 : zAt ad (4 + 6) (ad (4 + 6)) := rfl
          obtain ⟨thcy65, zhcy65, ohcy65, rhcy65, hzhcy65, hthcy65, hwhcy65⟩ := id lry46
          obtain ⟨thcy66, zhcy66, ohcy66, rhcy66, hzhcy66, hthcy66, hwhcy66⟩ := id mry46
          obtain ⟨asy67, bsy67, csy67, dsy67, esy67, ⟨ptsy67, fsy67, gsy671⟩, hsy67, ⟨nusy67, nvsy67, nwsy67, isy67, jsy67, ksy67, lsy67, msy67, nsy67⟩, rfsy67, osy67⟩ := id iry46
          have hay68 : zAt ad (11 + 1) (ad (11 + 1)) := rfl
          have hay69 : zAt ad (11 + 11) (ad (11 + 11)) := rfl
          have hay70 : zAt ad (11 + 12) (ad (11 + 12)) := rfl
          have hay71 : zAt ad (11 + 13) (ad (11 + 13)) := rfl
          have hay72 : zAt ad (11 + 13 + 1) (ad (11 + 13 + 1)) := rfl
          have hay73 : zAt ad (11 + 13 + 2) (ad (11 + 13 + 2)) := rfl
          have hay74 : zAt ad (11 + 13 + 3) (ad (11 + 13 + 3)) := rfl
          have hay75 : zAt ad (11 + 17) (ad (11 + 17)) := rfl
          obtain ⟨uy76t, uy76z, uy76o, uy76r, uy76z4, uy76t5, uy761, ⟨uy76u, uy762, uy763⟩, uy764⟩ := id csy67
          have hay77 : zAt ad (11 + 1) (ad (11 + 1)) := rfl
          have hay78 : zAt ad (11 + 1 + 1) (ad (11 + 1 + 1)) := rfl
          obtain ⟨sloy79, hooy79, uaoy79, stoy79, opoy79, aioy79, faoy79, muoy79, tboy79, hsloy79, hhooy79, hpoy79⟩ := id kry46
          have hay80 : zAt ad (883 + 1) (ad (883 + 1)) := rfl
          have hay81 : zAt ad (883 + 2) (ad (883 + 2)) := rfl
          have hay82 : zAt ad (883 + 3) (ad (883 + 3)) := rfl
          have hay83 : zAt ad (883 + 4) (ad (883 + 4)) := rfl
          have hay84 : zAt ad (883 + 5) (ad (883 + 5)) := rfl
          have hay85 : zAt ad (883 + 6) (ad (883 + 6)) := rfl
          refine z_iload C 0 dX9_odds_39 rfl ?_
          refine z_iconst (z := 1) C dX9_odds_41 rfl ?_
          refine z_iload_n C 4 dX9_odds_42 rfl ?_
          obtain ⟨xy86, exy87, hxy88⟩ := zI_of (zI (1) <<< (zI (z1) &&& 31))
          refine z_ishl (z := xy86) C dX9_odds_43 exy87 ?_
          have hshy89 := shl1_le (z := z1) (by omega) exy87 hxy88
          refine z_icmp_ge (tgt := 86) C dX9_odds_44 (by decide) (by omega) (by omega) (fun hby90 => ?_) (fun hby90 => ?_)
          · refine z_iload C 1 dX9_odds_86 rfl ?_
            have hrecy91 : okRec cs ad g1 N (t) (fp) (im) (nz) (kz) (sl) (ho) (ua) (st) (op) (ai) (fa) (mu) (tb) (tp) := ⟨ary46, bry46, cry46, dry46, ery46, fry46, gry461, hry46, ⟨_, iry46⟩, ⟨_, jry46⟩, kry46, lry46, mry46, nry46, ory46, pry46⟩
            exact z_rX (z_iret C hr hlk dX9_odds_88 (by decide) (by decide) ⟨ch, rfl, rfl, rfl, by omega, hrecy91, fun j j1 j2 => by exact f2 j j1 j2⟩)
          · refine z_aload_n C 2 dX9_odds_47 rfl ?_
            refine z_iload C 0 dX9_odds_48 rfl ?_
            refine z_iload_n C 4 dX9_odds_50 rfl ?_
            refine z_iload_n C 5 dX9_odds_51 rfl ?_
            have hrecy93 : okRec cs ad g1 N (t) (fp) (im) (nz) (kz) (sl) (ho) (ua) (st) (op) (ai) (fa) (mu) (tb) (tp) := ⟨ary46, bry46, cry46, dry46, ery46, fry46, gry461, hry46, ⟨_, iry46⟩, ⟨_, jry46⟩, kry46, lry46, mry46, nry46, ory46, pry46⟩
            refine z_cV (As := [.int (zI (i)), .int (zI (z1)), .int (zI (z2))]) (rest := []) (ci := 11) C (c_X9_weightOf l D A cs tt N ad _ hN _ _ _ _ _ _ _ _ _ _ _ _ _ _ _ hrecy93 (i) (by omega) (z1) (by omega) (z2) (by omega)) (lt_K hN (rfl : Nat.blt (0) 952 = true)) hay47 ary46 rfl rfl mv_yX9_weightOf q_1416 hd_yX9_weightOf (by decide) (Nat.le_of_ble_eq_true rfl) (by decide) dX9_odds_52 rfl (kI0 fun vy92 gvy92 hvy92 => ?_)
            obtain ⟨hvy92, rfl⟩ := hvy92
            refine z_istore (lv' := [(6, .int (zI (vy92))), (5, .int (zI (i))), (4, .int (zI (ch))), (0, .ref (ad 0)), (1, .int (zI (z))), (2, .int (zI (z1))), (3, .int (zI (z2)))]) C dX9_odds_55 (by decide) rfl ?_
            refine z_iload C 0 dX9_odds_57 rfl ?_
            refine z_if_le (tgt := 80) C dX9_odds_59 (by decide) (by omega) (fun hby94 => ?_) (fun hby94 => ?_)
            · refine z_iinc (z := i + 1) (lv' := [(5, .int (zI (i + 1))), (6, .int (zI (vy92))), (4, .int (zI (ch))), (0, .ref (ad 0)), (1, .int (zI (z))), (2, .int (zI (z1))), (3, .int (zI (z2)))]) (j := 1) C dX9_odds_80 rfl rfl (by decide) rfl ?_
              refine z_goto (tgt := 39) C dX9_odds_83 (by decide) ?_
              have hrecy95 : okRec cs ad g1 N (t) (fp) (im) (nz) (kz) (sl) (ho) (ua) (st) (op) (ai) (fa) (mu) (tb) (tp) := ⟨ary46, bry46, cry46, dry46, ery46, fry46, gry461, hry46, ⟨_, iry46⟩, ⟨_, jry46⟩, kry46, lry46, mry46, nry46, ory46, pry46⟩
              refine z_lv (lv' := [(5, .int (zI (i + 1))), (4, .int (zI (ch))), (0, .ref (ad 0)), (1, .int (zI (z))), (2, .int (zI (z1))), (3, .int (zI (z2)))]) [0, 2, 3, 4, 5, 6] rfl ?_
              exact ih_lp39 _ (by omega) (i + 1) (ch) g1 rfl hrecy95 (fun j j1 j2 => by exact f2 j j1 j2) (by omega) (by omega) (by omega) (by omega) (by omega)
            · refine z_aload_n C 3 dX9_odds_62 rfl ?_
              refine z_iload C 1 dX9_odds_63 rfl ?_
              refine z_iload_n C 4 dX9_odds_65 rfl ?_
              refine z_iload_n C 5 dX9_odds_66 rfl ?_
              have hrecy97 : okRec cs ad g1 N (t) (fp) (im) (nz) (kz) (sl) (ho) (ua) (st) (op) (ai) (fa) (mu) (tb) (tp) := ⟨ary46, bry46, cry46, dry46, ery46, fry46, gry461, hry46, ⟨_, iry46⟩, ⟨_, jry46⟩, kry46, lry46, mry46, nry46, ory46, pry46⟩
              refine z_cV (As := [.int (zI (i)), .int (zI (z)), .int (zI (z1))]) (rest := []) (ci := 11) C (c_X9_isUnstableWithout l D A cs tt N ad _ hN _ _ _ _ _ _ _ _ _ _ _ _ _ _ _ hrecy97 (i) (by omega) (z) (by omega) (z1) (by omega)) (lt_K hN (rfl : Nat.blt (0) 952 = true)) hay47 ary46 rfl rfl mv_yX9_isUnstableWithout q_1421 hd_yX9_isUnstableWithout (by decide) (Nat.le_of_ble_eq_true rfl) (by decide) dX9_odds_67 rfl (kI0 fun vy96 gvy96 hvy96 => ?_)
              obtain ⟨hrvy96, hkvy96, hfvy96⟩ := hvy96
              obtain ⟨ary98, bry98, cry98, dry98, ery98, fry98, gry981, hry98, ⟨acry98, iry98⟩, ⟨kcry98, jry98⟩, kry98, lry98, mry98, nry98, ory98, pry98⟩ := id hkvy96
              obtain ⟨thcy99, zhcy99, ohcy99, rhcy99, hzhcy99, hthcy99, hwhcy99⟩ := id lry98
              obtain ⟨thcy100, zhcy100, ohcy100, rhcy100, hzhcy100, hthcy100, hwhcy100⟩ := id mry98
              obtain ⟨asy101, bsy101, csy101, dsy101, esy101, ⟨ptsy101, fsy101, gsy1011⟩, hsy101, ⟨nusy101, nvsy101, nwsy101, isy101, jsy101, ksy101, lsy101, msy101, nsy101⟩, rfsy101, osy101⟩ := id iry98
              obtain ⟨uy102t, uy102z, uy102o, uy102r, uy102z4, uy102t5, uy1021, ⟨uy102u, uy1022, uy1023⟩, uy1024⟩ := id csy101
              have hay103 : zAt ad (11 + 1) (ad (11 + 1)) := rfl
              have hay104 : zAt ad (11 + 1 + 1) (ad (11 + 1 + 1)) := rfl
              obtain ⟨sloy105, hooy105, uaoy105, stoy105, opoy105, aioy105, faoy105, muoy105, tboy105, hsloy105, hhooy105, hpoy105⟩ := id kry98
              refine z_if_eq (tgt := 80) C dX9_odds_70 (by decide) (by omega) (fun hby106 => ?_) (fun hby106 => ?_)
              · refine z_iinc (z := i + 1) (lv' := [(5, .int (zI (i + 1))), (6, .int (zI (vy92))), (4, .int (zI (ch))), (0, .ref (ad 0)), (1, .int (zI (z))), (2, .int (zI (z1))), (3, .int (zI (z2)))]) (j := 1) C dX9_odds_80 rfl rfl (by decide) rfl ?_
                refine z_goto (tgt := 39) C dX9_odds_83 (by decide) ?_
                have hrecy107 : okRec cs ad gvy96 N (t) (fp) (im) (nz) (kz) (sl) (ho) (ua) (st) (op) (ai) (fa) (mu) (tb) (tp) := ⟨ary98, bry98, cry98, dry98, ery98, fry98, gry981, hry98, ⟨_, iry98⟩, ⟨_, jry98⟩, kry98, lry98, mry98, nry98, ory98, pry98⟩
                refine z_lv (lv' := [(5, .int (zI (i + 1))), (4, .int (zI (ch))), (0, .ref (ad 0)), (1, .int (zI (z))), (2, .int (zI (z1))), (3, .int (zI (z2)))]) [0, 2, 3, 4, 5, 6] rfl ?_
                exact ih_lp39 _ (by omega) (i + 1) (ch) gvy96 rfl hrecy107 (fun j j1 j2 => by rw [hfvy96 _ (by omega) (by omega)]; exact f2 j j1 j2) (by omega) (by omega) (by omega) (by omega) (by omega)
              · refine z_iload C 2 dX9_odds_73 rfl ?_
                refine z_iload C 0 dX9_odds_75 rfl ?_
                refine z_iadd C dX9_odds_77 ?_
                refine z_istore (lv' := [(4, .int (zI (ch + vy92))), (6, .int (zI (vy92))), (5, .int (zI (i))), (0, .ref (ad 0)), (1, .int (zI (z))), (2, .int (zI (z1))), (3, .int (zI (z2)))]) C dX9_odds_78 (by decide) rfl ?_
                refine z_iinc (z := i + 1) (lv' := [(5, .int (zI (i + 1))), (4, .int (zI (ch + vy92))), (6, .int (zI (vy92))), (0, .ref (ad 0)), (1, .int (zI (z))), (2, .int (zI (z1))), (3, .int (zI (z2)))]) (j := 2) C dX9_odds_80 rfl rfl (by decide) rfl ?_
                refine z_goto (tgt := 39) C dX9_odds_83 (by decide) ?_
                obtain ⟨xy108, exy109, hxy110⟩ := zI_of (zI (ch + vy92))
                rw [exy109]
                have hrecy111 : okRec cs ad gvy96 N (t) (fp) (im) (nz) (kz) (sl) (ho) (ua) (st) (op) (ai) (fa) (mu) (tb) (tp) := ⟨ary98, bry98, cry98, dry98, ery98, fry98, gry981, hry98, ⟨_, iry98⟩, ⟨_, jry98⟩, kry98, lry98, mry98, nry98, ory98, pry98⟩
                refine z_lv (lv' := [(5, .int (zI (i + 1))), (4, .int (zI (xy108))), (0, .ref (ad 0)), (1, .int (zI (z))), (2, .int (zI (z1))), (3, .int (zI (z2)))]) [0, 1, 3, 4, 5, 6] rfl ?_
                exact ih_lp39 _ (by omega) (i + 1) (xy108) gvy96 rfl hrecy111 (fun j j1 j2 => by rw [hfvy96 _ (by omega) (by omega)]; exact f2 j j1 j2) (by omega) (by omega) (by omega) (by omega) (by omega)
      have hrecy112 : okRec cs ad g N (t) (fp) (im) (nz) (kz) (sl) (ho) (ua) (st) (op) (ai) (fa) (mu) (tb) (tp) := ⟨ary1, bry1, cry1, dry1, ery1, fry1, gry11, hry1, ⟨_, iry1⟩, ⟨_, jry1⟩, kry1, lry1, mry1, nry1, ory1, pry1⟩
      refine z_lv (lv' := [(5, .int (zI (0))), (4, .int (zI (0))), (0, .ref (ad 0)), (1, .int (zI (z))), (2, .int (zI (z1))), (3, .int (zI (z2)))]) [0, 1, 2, 3, 4, 5] rfl ?_
      exact lp39 _ (0) (0) g rfl hrecy112 (fun j j1 j2 => by rfl) (by omega) (by omega) (by omega) (by omega) (by omega)
    · exact z_thrW (cls := eIA) (text := "tenths are 0 to 10") C hl0 (by decide +kernel) q_658 q_19 (by decide +kernel) at_IA gd_IA dX9_odds_22 dX9_odds_25 dX9_odds_26 dX9_odds_29 dX9_odds_32 hxt (by decide) (Nat.le_of_ble_eq_true rfl) (by decide) (by decide) hlk (by decide) (by decide) ⟨Or.inr rfl, rfl, rfl, rfl⟩

set_option maxRecDepth 100000 in
set_option maxHeartbeats 4000000 in
theorem c_X9_drawOf (l : Launch) (D : va_G) (A : Nat → Prop) (cs : Nat → ClassId) (tt : Nat) (N : Nat) (ad : Nat → Nat) (g : Nat → va_E) (z : Int) (hz : -2147483648 ≤ z ∧ z ≤ 2147483647) (z1 : Int) (hz1 : 1 ≤ z1 ∧ z1 ≤ 1000) : zM l yX9_drawOf cX9_drawOf 2 (some .int) ({ frames := 2, cells := 0, slots := 0, locals := 120 } : Room) D A cs tt N ad g [.int (zI (z)), .int (zI (z1))] (rI0 N ad fun r g' => (0 ≤ r ∧ r < z1) ∧ g = g') := by
  refine z_of (by decide) (Nat.le_of_ble_eq_true rfl) ?_
  intro p e s m below meth c C hr hlk hnm
  refine z_lv (lv' := [(0, .int (zI (z))), (1, .int (zI (z1)))]) [0, 1] rfl ?_
  refine z_iload_n C 0 dX9_drawOf_0 rfl ?_
  refine z_bipush (z := 16) C dX9_drawOf_1 (by decide) ?_
  obtain ⟨xy1, exy2, hxy3⟩ := zI_of (((zI (z)).toUInt32 >>> ((zI (16)).toUInt32 &&& Int32.toUInt32 31)).toInt32)
  refine z_iushr (z := xy1) C dX9_drawOf_3 exy2 ?_
  refine z_sipush (z := 32767) C dX9_drawOf_4 (by decide) ?_
  obtain ⟨xy4, exy5, hxy6⟩ := zI_and (zI (xy1)) (m := zI 32767) 15 (by decide)
  refine z_iand (z := xy4) C dX9_drawOf_7 exy5 ?_
  refine z_iload_n C 1 dX9_drawOf_8 rfl ?_
  refine z_iconst (z := 1) C dX9_drawOf_9 rfl ?_
  refine z_mmax C q_1444 q_470 q_20 q_471 (by omega) (by omega) (by decide) (Nat.le_of_ble_eq_true rfl) (by decide) (by decide) dX9_drawOf_10 ?_
  obtain ⟨xy7, exy8, hxy9⟩ := mm_max (z1) (1)
  rw [exy8]
  refine z_irem C dX9_drawOf_13 (by omega) (by omega) (by omega) ?_
  have hm1 := Int.tmod_nonneg (xy7) (show 0 ≤ xy4 by omega)
  have hm2 := Int.tmod_lt_of_pos (xy4) (show 0 < xy7 by omega)
  exact z_iret C hr hlk dX9_drawOf_14 (by decide) (by decide) ⟨xy4.tmod xy7, rfl, rfl, rfl, by omega, rfl⟩

set_option maxRecDepth 100000 in
set_option maxHeartbeats 4000000 in
theorem c_X9_slideAll (l : Launch) (D : va_G) (A : Nat → Prop) (cs : Nat → ClassId) (tt : Nat) (N : Nat) (ad : Nat → Nat) (g : Nat → va_E) (hN : 952 ≤ N) (t fp im nz kz sl ho ua : Int) (st op ai fa mu tb tp : Nat → Int) (hR : okRec cs ad g N t fp im nz kz sl ho ua st op ai fa mu tb tp) : zM l yX9_slideAll cX9_slideAll 2 none ({ frames := 7, cells := 0, slots := 0, locals := 420 } : Room) D A cs tt N ad g [.ref (ad 0)] (rV0 N ad fun g' => okRec cs ad g' N t fp im nz kz sl ho ua st op ai fa mu tb tp ∧ oX g g') := by
  obtain ⟨ary1, bry1, cry1, dry1, ery1, fry1, gry11, hry1, ⟨acry1, iry1⟩, ⟨kcry1, jry1⟩, kry1, lry1, mry1, nry1, ory1, pry1⟩ := id hR
  have hay2 : zAt ad (0) (ad 0) := rfl
  have hay3 : zAt ad (1) (ad 1) := rfl
  have hay4 : zAt ad (2) (ad 2) := rfl
  have hay5 : zAt ad (4) (ad 4) := rfl
  have hay6 : zAt ad (11) (ad 11) := rfl
  have hay7 : zAt ad (447) (ad 447) := rfl
  have hay8 : zAt ad (883) (ad 883) := rfl
  have hay9 : zAt ad (890) (ad 890) := rfl
  have hay10 : zAt ad (900) (ad 900) := rfl
  have hay11 : zAt ad (910) (ad 910) := rfl
  have hay12 : zAt ad (917) (ad 917) := rfl
  have hay13 : zAt ad (919) (ad 919) := rfl
  have hay14 : zAt ad (4 + 1) (ad (4 + 1)) := rfl
  have hay15 : zAt ad (4 + 2) (ad (4 + 2)) := rfl
  have hay16 : zAt ad (4 + 3) (ad (4 + 3)) := rfl
  have hay17 : zAt ad (4 + 4) (ad (4 + 4)) := rfl
  have hay18 : zAt ad (4 + 5) (ad (4 + 5)) := rfl
  have hay19 : zAt ad (4 + 6) (ad (4 + 6)) := rfl
  obtain ⟨thcy20, zhcy20, ohcy20, rhcy20, hzhcy20, hthcy20, hwhcy20⟩ := id lry1
  obtain ⟨thcy21, zhcy21, ohcy21, rhcy21, hzhcy21, hthcy21, hwhcy21⟩ := id mry1
  obtain ⟨asy22, bsy22, csy22, dsy22, esy22, ⟨ptsy22, fsy22, gsy221⟩, hsy22, ⟨nusy22, nvsy22, nwsy22, isy22, jsy22, ksy22, lsy22, msy22, nsy22⟩, rfsy22, osy22⟩ := id iry1
  have hay23 : zAt ad (11 + 1) (ad (11 + 1)) := rfl
  have hay24 : zAt ad (11 + 11) (ad (11 + 11)) := rfl
  have hay25 : zAt ad (11 + 12) (ad (11 + 12)) := rfl
  have hay26 : zAt ad (11 + 13) (ad (11 + 13)) := rfl
  have hay27 : zAt ad (11 + 13 + 1) (ad (11 + 13 + 1)) := rfl
  have hay28 : zAt ad (11 + 13 + 2) (ad (11 + 13 + 2)) := rfl
  have hay29 : zAt ad (11 + 13 + 3) (ad (11 + 13 + 3)) := rfl
  have hay30 : zAt ad (11 + 17) (ad (11 + 17)) := rfl
  obtain ⟨uy31t, uy31z, uy31o, uy31r, uy31z4, uy31t5, uy311, ⟨uy31u, uy312, uy313⟩, uy314⟩ := id csy22
  have hay32 : zAt ad (11 + 1) (ad (11 + 1)) := rfl
  have hay33 : zAt ad (11 + 1 + 1) (ad (11 + 1 + 1)) := rfl
  obtain ⟨sloy34, hooy34, uaoy34, stoy34, opoy34, aioy34, faoy34, muoy34, tboy34, hsloy34, hhooy34, hpoy34⟩ := id kry1
  have hay35 : zAt ad (883 + 1) (ad (883 + 1)) := rfl
  have hay36 : zAt ad (883 + 2) (ad (883 + 2)) := rfl
  have hay37 : zAt ad (883 + 3) (ad (883 + 3)) := rfl
  have hay38 : zAt ad (883 + 4) (ad (883 + 4)) := rfl
  have hay39 : zAt ad (883 + 5) (ad (883 + 5)) := rfl
  have hay40 : zAt ad (883 + 6) (ad (883 + 6)) := rfl
  refine z_of (by decide) (Nat.le_of_ble_eq_true rfl) ?_
  intro p e s m below meth c C hr hlk hnm
  refine z_lv (lv' := [(0, .ref (ad 0))]) [0] rfl ?_
  refine z_iconst (z := 0) C dX9_slideAll_0 rfl ?_
  refine z_istore_n (lv' := [(1, .int (zI (0))), (0, .ref (ad 0))]) C dX9_slideAll_1 rfl (by decide) rfl ?_
  have lp2 : ∀ (n9 : Nat) (i : Int) (g1 : Nat → va_E), (4 - i).toNat = n9 → (okRec cs ad g1 N t fp im nz kz sl ho ua st op ai fa mu tb tp) → (oX g g1) → (0 ≤ i ∧ i ≤ 4) → zV p l e ({ frames := 7, cells := 0, slots := 0, locals := 420 } : Room) s m ([.ref (ad 0)] : List Value).toArray below meth c (MQ below (zPost D A (rV0 N ad fun g' => okRec cs ad g' N t fp im nz kz sl ho ua st op ai fa mu tb tp ∧ oX g g')) ([.ref (ad 0)] : List Value).toArray s ({ frames := 7, cells := 0, slots := 0, locals := 420 } : Room).cells ({ frames := 7, cells := 0, slots := 0, locals := 420 } : Room).slots A) D A 2 (N) ad g1 (0) (0) 2 [(1, .int (zI (i))), (0, .ref (ad 0))] [] := by
    intro n9
    induction n9 using Nat.strongRecOn with
    | ind n9 ih_lp2 =>
      intro i g1 hm9 f1 f2 hv2_0
      obtain ⟨ary41, bry41, cry41, dry41, ery41, fry41, gry411, hry41, ⟨acry41, iry41⟩, ⟨kcry41, jry41⟩, kry41, lry41, mry41, nry41, ory41, pry41⟩ := id f1
      have hay42 : zAt ad (0) (ad 0) := rfl
      have hay43 : zAt ad (1) (ad 1) := rfl
      have hay44 : zAt ad (2) (ad 2) := rfl
      have hay45 : zAt ad (4) (ad 4) := rfl
      have hay46 : zAt ad (11) (ad 11) := rfl
      have hay47 : zAt ad (447) (ad 447) := rfl
      have hay48 : zAt ad (883) (ad 883) := rfl
      have hay49 : zAt ad (890) (ad 890) := rfl
      have hay50 : zAt ad (900) (ad 900) := rfl
      have hay51 : zAt ad (910) (ad 910) := rfl
      have hay52 : zAt ad (917) (ad 917) := rfl
      have hay53 : zAt ad (919) (ad 919) := rfl
      have hay54 : zAt ad (4 + 1) (ad (4 + 1)) := rfl
      have hay55 : zAt ad (4 + 2) (ad (4 + 2)) := rfl
      have hay56 : zAt ad (4 + 3) (ad (4 + 3)) := rfl
      have hay57 : zAt ad (4 + 4) (ad (4 + 4)) := rfl
      have hay58 : zAt ad (4 + 5) (ad (4 + 5)) := rfl
      have hay59 : zAt ad (4 + 6) (ad (4 + 6)) := rfl
      obtain ⟨thcy60, zhcy60, ohcy60, rhcy60, hzhcy60, hthcy60, hwhcy60⟩ := id lry41
      obtain ⟨thcy61, zhcy61, ohcy61, rhcy61, hzhcy61, hthcy61, hwhcy61⟩ := id mry41
      obtain ⟨asy62, bsy62, csy62, dsy62, esy62, ⟨ptsy62, fsy62, gsy621⟩, hsy62, ⟨nusy62, nvsy62, nwsy62, isy62, jsy62, ksy62, lsy62, msy62, nsy62⟩, rfsy62, osy62⟩ := id iry41
      have hay63 : zAt ad (11 + 1) (ad (11 + 1)) := rfl
      have hay64 : zAt ad (11 + 11) (ad (11 + 11)) := rfl
      have hay65 : zAt ad (11 + 12) (ad (11 + 12)) := rfl
      have hay66 : zAt ad (11 + 13) (ad (11 + 13)) := rfl
      have hay67 : zAt ad (11 + 13 + 1) (ad (11 + 13 + 1)) := rfl
      have hay68 : zAt ad (11 + 13 + 2) (ad (11 + 13 + 2)) := rfl
      have hay69 : zAt ad (11 + 13 + 3) (ad (11 + 13 + 3)) := rfl
      have hay70 : zAt ad (11 + 17) (ad (11 + 17)) := rfl
      obtain ⟨uy71t, uy71z, uy71o, uy71r, uy71z4, uy71t5, uy711, ⟨uy71u, uy712, uy713⟩, uy714⟩ := id csy62
      have hay72 : zAt ad (11 + 1) (ad (11 + 1)) := rfl
      have hay73 : zAt ad (11 + 1 + 1) (ad (11 + 1 + 1)) := rfl
      obtain ⟨sloy74, hooy74, uaoy74, stoy74, opoy74, aioy74, faoy74, muoy74, tboy74, hsloy74, hhooy74, hpoy74⟩ := id kry41
      have hay75 : zAt ad (883 + 1) (ad (883 + 1)) := rfl
      have hay76 : zAt ad (883 + 2) (ad (883 + 2)) := rfl
      have hay77 : zAt ad (883 + 3) (ad (883 + 3)) := rfl
      have hay78 : zAt ad (883 + 4) (ad (883 + 4)) := rfl
      have hay79 : zAt ad (883 + 5) (ad (883 + 5)) := rfl
      have hay80 : zAt ad (883 + 6) (ad (883 + 6)) := rfl
      refine z_iload_n C 0 dX9_slideAll_2 rfl ?_
      refine z_aload_n C 1 dX9_slideAll_3 rfl ?_
      refine z_get (v := .ref (ad 4)) C (lt_K hN (rfl : Nat.blt (0) 952 = true)) hay42 ary41 rfl inA_X9 4 (by decide) q_353 rfl rfl dX9_slideAll_4 ?_
      refine z_get (v := .int (zI (sl))) C (lt_K hN (rfl : Nat.blt (4) 952 = true)) hay45 fry41.1 rfl inA_X5 0 (by decide) q_90 rfl rfl dX9_slideAll_7 ?_
      refine z_icmp_ge (tgt := 44) C dX9_slideAll_10 (by decide) (by omega) (by omega) (fun hby81 => ?_) (fun hby81 => ?_)
      · have hrecy82 : okRec cs ad g1 N (t) (fp) (im) (nz) (kz) (sl) (ho) (ua) (st) (op) (ai) (fa) (mu) (tb) (tp) := ⟨ary41, bry41, cry41, dry41, ery41, fry41, gry411, hry41, ⟨_, iry41⟩, ⟨_, jry41⟩, kry41, lry41, mry41, nry41, ory41, pry41⟩
        exact z_vret C hr hlk dX9_slideAll_44 (by decide) (by decide) ⟨rfl, rfl, rfl, hrecy82, fun j j1 j2 => by exact f2 j j1 j2⟩
      · refine z_aload_n C 1 dX9_slideAll_13 rfl ?_
        refine z_aload_n C 1 dX9_slideAll_14 rfl ?_
        refine z_get (v := .ref (ad 890)) C (lt_K hN (rfl : Nat.blt (0) 952 = true)) hay42 ary41 rfl inA_X9 9 (by decide) q_358 rfl rfl dX9_slideAll_15 ?_
        refine z_iload_n C 0 dX9_slideAll_18 rfl ?_
        have hrecy84 : okRec cs ad g1 N (t) (fp) (im) (nz) (kz) (sl) (ho) (ua) (st) (op) (ai) (fa) (mu) (tb) (tp) := ⟨ary41, bry41, cry41, dry41, ery41, fry41, gry411, hry41, ⟨_, iry41⟩, ⟨_, jry41⟩, kry41, lry41, mry41, nry41, ory41, pry41⟩
        refine z_cV (As := [.ref (ad 890), .int (zI (i))]) (rest := []) (ci := 11) C (c_X9_isUnstable l D A cs tt N ad _ hN _ _ _ _ _ _ _ _ _ _ _ _ _ _ _ hrecy84 (890) (by omega) lry41 (i) (by omega)) (lt_K hN (rfl : Nat.blt (0) 952 = true)) hay42 ary41 rfl rfl mv_yX9_isUnstable q_560 hd_yX9_isUnstable (by decide) (Nat.le_of_ble_eq_true rfl) (by decide) dX9_slideAll_19 rfl (kI0 fun vy83 gvy83 hvy83 => ?_)
        obtain ⟨hvy83, rfl⟩ := hvy83
        refine z_if_eq (tgt := 38) C dX9_slideAll_22 (by decide) (by omega) (fun hby85 => ?_) (fun hby85 => ?_)
        · refine z_iinc (z := i + 1) (lv' := [(1, .int (zI (i + 1))), (0, .ref (ad 0))]) (j := 0) C dX9_slideAll_38 rfl rfl (by decide) rfl ?_
          refine z_goto (tgt := 2) C dX9_slideAll_41 (by decide) ?_
          have hrecy86 : okRec cs ad g1 N (t) (fp) (im) (nz) (kz) (sl) (ho) (ua) (st) (op) (ai) (fa) (mu) (tb) (tp) := ⟨ary41, bry41, cry41, dry41, ery41, fry41, gry411, hry41, ⟨_, iry41⟩, ⟨_, jry41⟩, kry41, lry41, mry41, nry41, ory41, pry41⟩
          refine z_lv (lv' := [(1, .int (zI (i + 1))), (0, .ref (ad 0))]) [0, 1] rfl ?_
          exact ih_lp2 _ (by omega) (i + 1) g1 rfl hrecy86 (fun j j1 j2 => by exact f2 j j1 j2) (by omega)
        · refine z_aload_n C 1 dX9_slideAll_25 rfl ?_
          refine z_get (v := .ref (ad 890)) C (lt_K hN (rfl : Nat.blt (0) 952 = true)) hay42 ary41 rfl inA_X9 9 (by decide) q_358 rfl rfl dX9_slideAll_26 ?_
          refine z_iload_n C 0 dX9_slideAll_29 rfl ?_
          refine z_aload_n C 1 dX9_slideAll_30 rfl ?_
          refine z_get (v := .ref (ad 4)) C (lt_K hN (rfl : Nat.blt (0) 952 = true)) hay42 ary41 rfl inA_X9 4 (by decide) q_353 rfl rfl dX9_slideAll_31 ?_
          refine z_cV (As := [.int (zI (i)), .ref (ad 4)]) (rest := []) (ci := 10) C (c_X8_slideOn l D A cs tt N ad _ (890) (by omega) lry41 (i) (by omega) (4) (by omega) _ _ _ _ _ _ _ _ _ ⟨fry41.1, fry41.2.1, fry41.2.2.1, fry41.2.2.2.1, fry41.2.2.2.2.1, fry41.2.2.2.2.2.1, fry41.2.2.2.2.2.2⟩ (by omega)) (lt_K hN (rfl : Nat.blt (890) 952 = true)) hay49 hwhcy60.1 rfl rfl mv_yX8_slideOn q_586 hd_yX8_slideOn (by decide) (Nat.le_of_ble_eq_true rfl) (by decide) dX9_slideAll_34 rfl (kI0 fun vy87 gvy87 hvy87 => ?_)
          obtain ⟨hrvy87, hkvy87, hfvy87⟩ := hvy87
          have hoky88 : okWorld cs ad gvy87 (890) := hkvy87
          obtain ⟨thcy89, zhcy89, ohcy89, rhcy89, hzhcy89, hthcy89, hwhcy89⟩ := id hoky88
          refine z_pop C dX9_slideAll_37 rfl ?_
          refine z_iinc (z := i + 1) (lv' := [(1, .int (zI (i + 1))), (0, .ref (ad 0))]) (j := 0) C dX9_slideAll_38 rfl rfl (by decide) rfl ?_
          refine z_goto (tgt := 2) C dX9_slideAll_41 (by decide) ?_
          have hgy90 := (hfvy87 (0) (by omega)).trans ary41
          have hgy91 := (hfvy87 (1) (by omega)).trans dry41
          have hpy92 := okState.mv (ad' := ad) (g' := gvy87) (fun j h1 h2 => by rfl) (fun j h1 h2 => by rw [hfvy87 _ (by omega)]) iry41
          have hpy93 := okRdr.mv (ad' := ad) (g' := gvy87) (fun j h1 h2 => by rfl) (fun j h1 h2 => by rw [hfvy87 _ (by omega)]) ery41
          have hpy94 := isPlan.mv (ad' := ad) (g' := gvy87) (fun j h1 h2 => by rfl) (fun j h1 h2 => by rw [hfvy87 _ (by omega)]) fry41
          have hpy95 := okState.mv (ad' := ad) (g' := gvy87) (fun j h1 h2 => by rfl) (fun j h1 h2 => by rw [hfvy87 _ (by omega)]) jry41
          have hpy96 := okPlan.mv (ad' := ad) (g' := gvy87) (fun j h1 h2 => by rfl) (fun j h1 h2 => by rw [hfvy87 _ (by omega)]) kry41
          have hpy97 := okGss.mv (ad' := ad) (g' := gvy87) (fun j h1 h2 => by rfl) (fun j h1 h2 => by rw [hfvy87 _ (by omega)]) nry41
          have hpy98 := okLike.mv (ad' := ad) (g' := gvy87) (fun j h1 h2 => by rfl) (fun j h1 h2 => by rw [hfvy87 _ (by omega)]) ory41
          have hpy99 := okBld.mv (ad' := ad) (g' := gvy87) (fun j h1 h2 => by rfl) (fun j h1 h2 => by rw [hfvy87 _ (by omega)]) pry41
          have hoky100 : okWorld cs ad gvy87 (900) := okWorld.mv (fun j j1 j2 => by rw [hfvy87 _ (by omega)]) mry41
          have hrecy101 : okRec cs ad gvy87 N (t) (fp) (im) (nz) (kz) (sl) (ho) (ua) (st) (op) (ai) (fa) (mu) (tb) (tp) := ⟨hgy90, bry41, cry41, hgy91, hpy93, hpy94, gry411, hry41, ⟨_, hpy92⟩, ⟨_, hpy95⟩, hpy96, hoky88, hoky100, hpy97, hpy98, hpy99⟩
          refine z_lv (lv' := [(1, .int (zI (i + 1))), (0, .ref (ad 0))]) [0, 1] rfl ?_
          exact ih_lp2 _ (by omega) (i + 1) gvy87 rfl hrecy101 (fun j j1 j2 => by rw [hfvy87 _ (by omega)]; exact f2 j j1 j2) (by omega)
  have hrecy102 : okRec cs ad g N (t) (fp) (im) (nz) (kz) (sl) (ho) (ua) (st) (op) (ai) (fa) (mu) (tb) (tp) := ⟨ary1, bry1, cry1, dry1, ery1, fry1, gry11, hry1, ⟨_, iry1⟩, ⟨_, jry1⟩, kry1, lry1, mry1, nry1, ory1, pry1⟩
  refine z_lv (lv' := [(1, .int (zI (0))), (0, .ref (ad 0))]) [0, 1] rfl ?_
  exact lp2 _ (0) g rfl hrecy102 (fun j j1 j2 => by rfl) (by omega)

set_option maxRecDepth 100000 in
set_option maxHeartbeats 4000000 in
theorem c_X9_yearGoesBy (l : Launch) (D : va_G) (A : Nat → Prop) (cs : Nat → ClassId) (tt : Nat) (N : Nat) (ad : Nat → Nat) (g : Nat → va_E) (hN : 952 ≤ N) (t fp im nz kz sl ho ua : Int) (st op ai fa mu tb tp : Nat → Int) (hR : okRec cs ad g N t fp im nz kz sl ho ua st op ai fa mu tb tp) (z : Int) (hz : -2147483648 ≤ z ∧ z ≤ 2147483647) : zM l yX9_yearGoesBy cX9_yearGoesBy 6 (some .int) ({ frames := 8, cells := 0, slots := 0, locals := 480 } : Room) D A cs tt N ad g [.ref (ad 0), .int (zI (z))] (rI0 N ad fun r g' => (-2147483648 ≤ r ∧ r ≤ 2147483647) ∧ okRec cs ad g' N t fp im nz kz sl ho ua st op ai fa mu tb tp ∧ oX g g') := by
  obtain ⟨ary1, bry1, cry1, dry1, ery1, fry1, gry11, hry1, ⟨acry1, iry1⟩, ⟨kcry1, jry1⟩, kry1, lry1, mry1, nry1, ory1, pry1⟩ := id hR
  have hay2 : zAt ad (0) (ad 0) := rfl
  have hay3 : zAt ad (1) (ad 1) := rfl
  have hay4 : zAt ad (2) (ad 2) := rfl
  have hay5 : zAt ad (4) (ad 4) := rfl
  have hay6 : zAt ad (11) (ad 11) := rfl
  have hay7 : zAt ad (447) (ad 447) := rfl
  have hay8 : zAt ad (883) (ad 883) := rfl
  have hay9 : zAt ad (890) (ad 890) := rfl
  have hay10 : zAt ad (900) (ad 900) := rfl
  have hay11 : zAt ad (910) (ad 910) := rfl
  have hay12 : zAt ad (917) (ad 917) := rfl
  have hay13 : zAt ad (919) (ad 919) := rfl
  have hay14 : zAt ad (4 + 1) (ad (4 + 1)) := rfl
  have hay15 : zAt ad (4 + 2) (ad (4 + 2)) := rfl
  have hay16 : zAt ad (4 + 3) (ad (4 + 3)) := rfl
  have hay17 : zAt ad (4 + 4) (ad (4 + 4)) := rfl
  have hay18 : zAt ad (4 + 5) (ad (4 + 5)) := rfl
  have hay19 : zAt ad (4 + 6) (ad (4 + 6)) := rfl
  obtain ⟨thcy20, zhcy20, ohcy20, rhcy20, hzhcy20, hthcy20, hwhcy20⟩ := id lry1
  obtain ⟨thcy21, zhcy21, ohcy21, rhcy21, hzhcy21, hthcy21, hwhcy21⟩ := id mry1
  obtain ⟨asy22, bsy22, csy22, dsy22, esy22, ⟨ptsy22, fsy22, gsy221⟩, hsy22, ⟨nusy22, nvsy22, nwsy22, isy22, jsy22, ksy22, lsy22, msy22, nsy22⟩, rfsy22, osy22⟩ := id iry1
  have hay23 : zAt ad (11 + 1) (ad (11 + 1)) := rfl
  have hay24 : zAt ad (11 + 11) (ad (11 + 11)) := rfl
  have hay25 : zAt ad (11 + 12) (ad (11 + 12)) := rfl
  have hay26 : zAt ad (11 + 13) (ad (11 + 13)) := rfl
  have hay27 : zAt ad (11 + 13 + 1) (ad (11 + 13 + 1)) := rfl
  have hay28 : zAt ad (11 + 13 + 2) (ad (11 + 13 + 2)) := rfl
  have hay29 : zAt ad (11 + 13 + 3) (ad (11 + 13 + 3)) := rfl
  have hay30 : zAt ad (11 + 17) (ad (11 + 17)) := rfl
  obtain ⟨uy31t, uy31z, uy31o, uy31r, uy31z4, uy31t5, uy311, ⟨uy31u, uy312, uy313⟩, uy314⟩ := id csy22
  have hay32 : zAt ad (11 + 1) (ad (11 + 1)) := rfl
  have hay33 : zAt ad (11 + 1 + 1) (ad (11 + 1 + 1)) := rfl
  obtain ⟨sloy34, hooy34, uaoy34, stoy34, opoy34, aioy34, faoy34, muoy34, tboy34, hsloy34, hhooy34, hpoy34⟩ := id kry1
  have hay35 : zAt ad (883 + 1) (ad (883 + 1)) := rfl
  have hay36 : zAt ad (883 + 2) (ad (883 + 2)) := rfl
  have hay37 : zAt ad (883 + 3) (ad (883 + 3)) := rfl
  have hay38 : zAt ad (883 + 4) (ad (883 + 4)) := rfl
  have hay39 : zAt ad (883 + 5) (ad (883 + 5)) := rfl
  have hay40 : zAt ad (883 + 6) (ad (883 + 6)) := rfl
  refine z_of (by decide) (Nat.le_of_ble_eq_true rfl) ?_
  intro p e s m below meth c C hr hlk hnm
  refine z_lv (lv' := [(0, .ref (ad 0)), (1, .int (zI (z)))]) [0, 1] rfl ?_
  refine z_iload_n C 1 dX9_yearGoesBy_0 rfl ?_
  refine z_cS (As := [.int (zI (z))]) (rest := []) C (c_X9_nextSeed l D A cs tt N ad _ (z) (by omega)) ms_yX9_nextSeed q_1437 hd_yX9_nextSeed (by decide) (Nat.le_of_ble_eq_true rfl) (by decide) dX9_yearGoesBy_1 rfl (kI0 fun vy41 gvy41 hvy41 => ?_)
  obtain ⟨hvy41, rfl⟩ := hvy41
  refine z_istore_n (lv' := [(2, .int (zI (vy41))), (0, .ref (ad 0)), (1, .int (zI (z)))]) C dX9_yearGoesBy_4 rfl (by decide) rfl ?_
  refine z_iload_n C 0 dX9_yearGoesBy_5 rfl ?_
  refine z_bipush (z := 6) C dX9_yearGoesBy_6 (by decide) ?_
  refine z_cS (As := [.int (zI (vy41)), .int (zI (6))]) (rest := []) C (c_X9_drawOf l D A cs tt N ad _ (vy41) (by omega) (6) (by omega)) ms_yX9_drawOf q_1441 hd_yX9_drawOf (by decide) (Nat.le_of_ble_eq_true rfl) (by decide) dX9_yearGoesBy_8 rfl (kI0 fun vy42 gvy42 hvy42 => ?_)
  obtain ⟨hvy42, rfl⟩ := hvy42
  refine z_istore_n (lv' := [(3, .int (zI (vy42))), (2, .int (zI (vy41))), (0, .ref (ad 0)), (1, .int (zI (z)))]) C dX9_yearGoesBy_11 rfl (by decide) rfl ?_
  refine z_iload_n C 0 dX9_yearGoesBy_12 rfl ?_
  refine z_iconst (z := 1) C dX9_yearGoesBy_13 rfl ?_
  refine z_icmp_gt (tgt := 70) C dX9_yearGoesBy_14 (by decide) (by omega) (by omega) (fun hby43 => ?_) (fun hby43 => ?_)
  · refine z_iload_n C 0 dX9_yearGoesBy_70 rfl ?_
    refine z_iconst (z := 5) C dX9_yearGoesBy_71 rfl ?_
    refine z_icmp_ne (tgt := 82) C dX9_yearGoesBy_72 (by decide) (by omega) (by omega) (fun hby44 => ?_) (fun hby44 => ?_)
    · refine z_aload_n C 2 dX9_yearGoesBy_82 rfl ?_
      refine z_get (v := .ref (ad 4)) C (lt_K hN (rfl : Nat.blt (0) 952 = true)) hay2 ary1 rfl inA_X9 4 (by decide) q_353 rfl rfl dX9_yearGoesBy_83 ?_
      refine z_get (v := .int (zI (sl))) C (lt_K hN (rfl : Nat.blt (4) 952 = true)) hay5 fry1.1 rfl inA_X5 0 (by decide) q_90 rfl rfl dX9_yearGoesBy_86 ?_
      refine z_if_le (tgt := 178) C dX9_yearGoesBy_89 (by decide) (by omega) (fun hby45 => ?_) (fun hby45 => ?_)
      · refine z_iload_n C 1 dX9_yearGoesBy_178 rfl ?_
        have hrecy46 : okRec cs ad g N (t) (fp) (im) (nz) (kz) (sl) (ho) (ua) (st) (op) (ai) (fa) (mu) (tb) (tp) := ⟨ary1, bry1, cry1, dry1, ery1, fry1, gry11, hry1, ⟨_, iry1⟩, ⟨_, jry1⟩, kry1, lry1, mry1, nry1, ory1, pry1⟩
        exact z_iret C hr hlk dX9_yearGoesBy_179 (by decide) (by decide) ⟨vy41, rfl, rfl, rfl, by omega, hrecy46, fun j j1 j2 => by rfl⟩
      · refine z_iload_n C 1 dX9_yearGoesBy_92 rfl ?_
        refine z_cS (As := [.int (zI (vy41))]) (rest := []) C (c_X9_nextSeed l D A cs tt N ad _ (vy41) (by omega)) ms_yX9_nextSeed q_1437 hd_yX9_nextSeed (by decide) (Nat.le_of_ble_eq_true rfl) (by decide) dX9_yearGoesBy_93 rfl (kI0 fun vy47 gvy47 hvy47 => ?_)
        obtain ⟨hvy47, rfl⟩ := hvy47
        refine z_istore_n (lv' := [(2, .int (zI (vy47))), (3, .int (zI (vy42))), (0, .ref (ad 0)), (1, .int (zI (z)))]) C dX9_yearGoesBy_96 rfl (by decide) rfl ?_
        refine z_iload_n C 0 dX9_yearGoesBy_97 rfl ?_
        refine z_aload_n C 2 dX9_yearGoesBy_98 rfl ?_
        refine z_get (v := .ref (ad 4)) C (lt_K hN (rfl : Nat.blt (0) 952 = true)) hay2 ary1 rfl inA_X9 4 (by decide) q_353 rfl rfl dX9_yearGoesBy_99 ?_
        refine z_get (v := .int (zI (sl))) C (lt_K hN (rfl : Nat.blt (4) 952 = true)) hay5 fry1.1 rfl inA_X5 0 (by decide) q_90 rfl rfl dX9_yearGoesBy_102 ?_
        refine z_cS (As := [.int (zI (vy47)), .int (zI (sl))]) (rest := []) C (c_X9_drawOf l D A cs tt N ad _ (vy47) (by omega) (sl) (by omega)) ms_yX9_drawOf q_1441 hd_yX9_drawOf (by decide) (Nat.le_of_ble_eq_true rfl) (by decide) dX9_yearGoesBy_105 rfl (kI0 fun vy48 gvy48 hvy48 => ?_)
        obtain ⟨hvy48, rfl⟩ := hvy48
        refine z_istore (lv' := [(4, .int (zI (vy48))), (2, .int (zI (vy47))), (3, .int (zI (vy42))), (0, .ref (ad 0)), (1, .int (zI (z)))]) C dX9_yearGoesBy_108 (by decide) rfl ?_
        refine z_iload_n C 2 dX9_yearGoesBy_110 rfl ?_
        refine z_iconst (z := 4) C dX9_yearGoesBy_111 rfl ?_
        refine z_icmp_ne (tgt := 128) C dX9_yearGoesBy_112 (by decide) (by omega) (by omega) (fun hby49 => ?_) (fun hby49 => ?_)
        · refine z_iload_n C 1 dX9_yearGoesBy_128 rfl ?_
          refine z_cS (As := [.int (zI (vy47))]) (rest := []) C (c_X9_nextSeed l D A cs tt N ad _ (vy47) (by omega)) ms_yX9_nextSeed q_1437 hd_yX9_nextSeed (by decide) (Nat.le_of_ble_eq_true rfl) (by decide) dX9_yearGoesBy_129 rfl (kI0 fun vy50 gvy50 hvy50 => ?_)
          obtain ⟨hvy50, rfl⟩ := hvy50
          refine z_istore_n (lv' := [(2, .int (zI (vy50))), (4, .int (zI (vy48))), (3, .int (zI (vy42))), (0, .ref (ad 0)), (1, .int (zI (z)))]) C dX9_yearGoesBy_132 rfl (by decide) rfl ?_
          refine z_iload_n C 2 dX9_yearGoesBy_133 rfl ?_
          refine z_iconst (z := 2) C dX9_yearGoesBy_134 rfl ?_
          refine z_icmp_ne (tgt := 142) C dX9_yearGoesBy_135 (by decide) (by omega) (by omega) (fun hby51 => ?_) (fun hby51 => ?_)
          · refine z_iconst (z := 2) C dX9_yearGoesBy_142 rfl ?_
            refine z_istore (lv' := [(5, .int (zI (2))), (2, .int (zI (vy50))), (4, .int (zI (vy48))), (3, .int (zI (vy42))), (0, .ref (ad 0)), (1, .int (zI (z)))]) C dX9_yearGoesBy_143 (by decide) rfl ?_
            refine z_aload_n C 4 dX9_yearGoesBy_145 rfl ?_
            refine z_get (v := .ref (ad 890)) C (lt_K hN (rfl : Nat.blt (0) 952 = true)) hay2 ary1 rfl inA_X9 9 (by decide) q_358 rfl rfl dX9_yearGoesBy_146 ?_
            refine z_iload C 2 dX9_yearGoesBy_149 rfl ?_
            refine z_iload C 0 dX9_yearGoesBy_151 rfl ?_
            refine z_iload_n C 1 dX9_yearGoesBy_153 rfl ?_
            refine z_bipush (z := 20) C dX9_yearGoesBy_154 (by decide) ?_
            refine z_cS (As := [.int (zI (vy50)), .int (zI (20))]) (rest := [.int (zI (2)), .int (zI (vy48)), .ref (ad 890)]) C (c_X9_drawOf l D A cs tt N ad _ (vy50) (by omega) (20) (by omega)) ms_yX9_drawOf q_1441 hd_yX9_drawOf (by decide) (Nat.le_of_ble_eq_true rfl) (by decide) dX9_yearGoesBy_156 rfl (kI0 fun vy52 gvy52 hvy52 => ?_)
            obtain ⟨hvy52, rfl⟩ := hvy52
            refine z_iconst (z := 1) C dX9_yearGoesBy_159 rfl ?_
            refine z_iadd C dX9_yearGoesBy_160 ?_
            refine z_aload_n C 4 dX9_yearGoesBy_161 rfl ?_
            refine z_get (v := .ref (ad 4)) C (lt_K hN (rfl : Nat.blt (0) 952 = true)) hay2 ary1 rfl inA_X9 4 (by decide) q_353 rfl rfl dX9_yearGoesBy_162 ?_
            refine z_aload_n C 4 dX9_yearGoesBy_165 rfl ?_
            refine z_get (v := .ref (ad 890)) C (lt_K hN (rfl : Nat.blt (0) 952 = true)) hay2 ary1 rfl inA_X9 9 (by decide) q_358 rfl rfl dX9_yearGoesBy_166 ?_
            refine z_get (v := .int (zI (thcy20 0))) C (lt_K hN (rfl : Nat.blt (890) 952 = true)) hay9 hwhcy20.1 rfl inA_X8 0 (by decide) q_174 rfl rfl dX9_yearGoesBy_169 ?_
            obtain ⟨xy53, exy54, hxy55⟩ := zI_of (zI (thcy20 0))
            rw [exy54]
            refine z_cV (As := [.int (zI (xy53))]) (rest := [.int (zI (vy52 + 1)), .int (zI (2)), .int (zI (vy48)), .ref (ad 890)]) (ci := 7) C (c_X5_airAt l D A cs tt N ad _ (4) (by omega) _ _ _ _ _ _ _ _ _ ⟨fry1.1, fry1.2.1, fry1.2.2.1, fry1.2.2.2.1, fry1.2.2.2.2.1, fry1.2.2.2.2.2.1, fry1.2.2.2.2.2.2⟩ (by omega) (xy53) (by omega)) (lt_K hN (rfl : Nat.blt (4) 952 = true)) hay5 fry1.1 rfl rfl mv_yX5_airAt q_545 hd_yX5_airAt (by decide) (Nat.le_of_ble_eq_true rfl) (by decide) dX9_yearGoesBy_172 rfl (kI0 fun vy56 gvy56 hvy56 => ?_)
            obtain ⟨hvy56, rfl⟩ := hvy56
            refine z_cV (As := [.int (zI (vy48)), .int (zI (2)), .int (zI (vy52 + 1)), .int (zI (vy56))]) (rest := []) (ci := 10) C (c_X8_fallOn l D A cs tt N ad _ (890) (by omega) lry1 (vy48) (by omega) (2) (by omega) (vy52 + 1) (by omega) (vy56) (by omega)) (lt_K hN (rfl : Nat.blt (890) 952 = true)) hay9 hwhcy20.1 rfl rfl mv_yX8_fallOn q_546 hd_yX8_fallOn (by decide) (Nat.le_of_ble_eq_true rfl) (by decide) dX9_yearGoesBy_175 rfl (kV0 fun gvy57 hvy57 => ?_)
            obtain ⟨hkvy57, hfvy57⟩ := hvy57
            have hoky58 : okWorld cs ad gvy57 (890) := hkvy57
            obtain ⟨thcy59, zhcy59, ohcy59, rhcy59, hzhcy59, hthcy59, hwhcy59⟩ := id hoky58
            refine z_iload_n C 1 dX9_yearGoesBy_178 rfl ?_
            have hgy60 := (hfvy57 (0) (by omega)).trans ary1
            have hgy61 := (hfvy57 (1) (by omega)).trans dry1
            have hpy62 := okState.mv (ad' := ad) (g' := gvy57) (fun j h1 h2 => by rfl) (fun j h1 h2 => by rw [hfvy57 _ (by omega)]) iry1
            have hpy63 := okRdr.mv (ad' := ad) (g' := gvy57) (fun j h1 h2 => by rfl) (fun j h1 h2 => by rw [hfvy57 _ (by omega)]) ery1
            have hpy64 := isPlan.mv (ad' := ad) (g' := gvy57) (fun j h1 h2 => by rfl) (fun j h1 h2 => by rw [hfvy57 _ (by omega)]) fry1
            have hpy65 := okState.mv (ad' := ad) (g' := gvy57) (fun j h1 h2 => by rfl) (fun j h1 h2 => by rw [hfvy57 _ (by omega)]) jry1
            have hpy66 := okPlan.mv (ad' := ad) (g' := gvy57) (fun j h1 h2 => by rfl) (fun j h1 h2 => by rw [hfvy57 _ (by omega)]) kry1
            have hpy67 := okGss.mv (ad' := ad) (g' := gvy57) (fun j h1 h2 => by rfl) (fun j h1 h2 => by rw [hfvy57 _ (by omega)]) nry1
            have hpy68 := okLike.mv (ad' := ad) (g' := gvy57) (fun j h1 h2 => by rfl) (fun j h1 h2 => by rw [hfvy57 _ (by omega)]) ory1
            have hpy69 := okBld.mv (ad' := ad) (g' := gvy57) (fun j h1 h2 => by rfl) (fun j h1 h2 => by rw [hfvy57 _ (by omega)]) pry1
            have hoky70 : okWorld cs ad gvy57 (900) := okWorld.mv (fun j j1 j2 => by rw [hfvy57 _ (by omega)]) mry1
            have hrecy71 : okRec cs ad gvy57 N (t) (fp) (im) (nz) (kz) (sl) (ho) (ua) (st) (op) (ai) (fa) (mu) (tb) (tp) := ⟨hgy60, bry1, cry1, hgy61, hpy63, hpy64, gry11, hry1, ⟨_, hpy62⟩, ⟨_, hpy65⟩, hpy66, hoky58, hoky70, hpy67, hpy68, hpy69⟩
            exact z_iret C hr hlk dX9_yearGoesBy_179 (by decide) (by decide) ⟨vy50, rfl, rfl, rfl, by omega, hrecy71, fun j j1 j2 => by rw [hfvy57 _ (by omega)]⟩
          · refine z_iconst (z := 1) C dX9_yearGoesBy_138 rfl ?_
            refine z_goto (tgt := 143) C dX9_yearGoesBy_139 (by decide) ?_
            refine z_istore (lv' := [(5, .int (zI (1))), (2, .int (zI (vy50))), (4, .int (zI (vy48))), (3, .int (zI (vy42))), (0, .ref (ad 0)), (1, .int (zI (z)))]) C dX9_yearGoesBy_143 (by decide) rfl ?_
            refine z_aload_n C 4 dX9_yearGoesBy_145 rfl ?_
            refine z_get (v := .ref (ad 890)) C (lt_K hN (rfl : Nat.blt (0) 952 = true)) hay2 ary1 rfl inA_X9 9 (by decide) q_358 rfl rfl dX9_yearGoesBy_146 ?_
            refine z_iload C 2 dX9_yearGoesBy_149 rfl ?_
            refine z_iload C 0 dX9_yearGoesBy_151 rfl ?_
            refine z_iload_n C 1 dX9_yearGoesBy_153 rfl ?_
            refine z_bipush (z := 20) C dX9_yearGoesBy_154 (by decide) ?_
            refine z_cS (As := [.int (zI (vy50)), .int (zI (20))]) (rest := [.int (zI (1)), .int (zI (vy48)), .ref (ad 890)]) C (c_X9_drawOf l D A cs tt N ad _ (vy50) (by omega) (20) (by omega)) ms_yX9_drawOf q_1441 hd_yX9_drawOf (by decide) (Nat.le_of_ble_eq_true rfl) (by decide) dX9_yearGoesBy_156 rfl (kI0 fun vy72 gvy72 hvy72 => ?_)
            obtain ⟨hvy72, rfl⟩ := hvy72
            refine z_iconst (z := 1) C dX9_yearGoesBy_159 rfl ?_
            refine z_iadd C dX9_yearGoesBy_160 ?_
            refine z_aload_n C 4 dX9_yearGoesBy_161 rfl ?_
            refine z_get (v := .ref (ad 4)) C (lt_K hN (rfl : Nat.blt (0) 952 = true)) hay2 ary1 rfl inA_X9 4 (by decide) q_353 rfl rfl dX9_yearGoesBy_162 ?_
            refine z_aload_n C 4 dX9_yearGoesBy_165 rfl ?_
            refine z_get (v := .ref (ad 890)) C (lt_K hN (rfl : Nat.blt (0) 952 = true)) hay2 ary1 rfl inA_X9 9 (by decide) q_358 rfl rfl dX9_yearGoesBy_166 ?_
            refine z_get (v := .int (zI (thcy20 0))) C (lt_K hN (rfl : Nat.blt (890) 952 = true)) hay9 hwhcy20.1 rfl inA_X8 0 (by decide) q_174 rfl rfl dX9_yearGoesBy_169 ?_
            obtain ⟨xy73, exy74, hxy75⟩ := zI_of (zI (thcy20 0))
            rw [exy74]
            refine z_cV (As := [.int (zI (xy73))]) (rest := [.int (zI (vy72 + 1)), .int (zI (1)), .int (zI (vy48)), .ref (ad 890)]) (ci := 7) C (c_X5_airAt l D A cs tt N ad _ (4) (by omega) _ _ _ _ _ _ _ _ _ ⟨fry1.1, fry1.2.1, fry1.2.2.1, fry1.2.2.2.1, fry1.2.2.2.2.1, fry1.2.2.2.2.2.1, fry1.2.2.2.2.2.2⟩ (by omega) (xy73) (by omega)) (lt_K hN (rfl : Nat.blt (4) 952 = true)) hay5 fry1.1 rfl rfl mv_yX5_airAt q_545 hd_yX5_airAt (by decide) (Nat.le_of_ble_eq_true rfl) (by decide) dX9_yearGoesBy_172 rfl (kI0 fun vy76 gvy76 hvy76 => ?_)
            obtain ⟨hvy76, rfl⟩ := hvy76
            refine z_cV (As := [.int (zI (vy48)), .int (zI (1)), .int (zI (vy72 + 1)), .int (zI (vy76))]) (rest := []) (ci := 10) C (c_X8_fallOn l D A cs tt N ad _ (890) (by omega) lry1 (vy48) (by omega) (1) (by omega) (vy72 + 1) (by omega) (vy76) (by omega)) (lt_K hN (rfl : Nat.blt (890) 952 = true)) hay9 hwhcy20.1 rfl rfl mv_yX8_fallOn q_546 hd_yX8_fallOn (by decide) (Nat.le_of_ble_eq_true rfl) (by decide) dX9_yearGoesBy_175 rfl (kV0 fun gvy77 hvy77 => ?_)
            obtain ⟨hkvy77, hfvy77⟩ := hvy77
            have hoky78 : okWorld cs ad gvy77 (890) := hkvy77
            obtain ⟨thcy79, zhcy79, ohcy79, rhcy79, hzhcy79, hthcy79, hwhcy79⟩ := id hoky78
            refine z_iload_n C 1 dX9_yearGoesBy_178 rfl ?_
            have hgy80 := (hfvy77 (0) (by omega)).trans ary1
            have hgy81 := (hfvy77 (1) (by omega)).trans dry1
            have hpy82 := okState.mv (ad' := ad) (g' := gvy77) (fun j h1 h2 => by rfl) (fun j h1 h2 => by rw [hfvy77 _ (by omega)]) iry1
            have hpy83 := okRdr.mv (ad' := ad) (g' := gvy77) (fun j h1 h2 => by rfl) (fun j h1 h2 => by rw [hfvy77 _ (by omega)]) ery1
            have hpy84 := isPlan.mv (ad' := ad) (g' := gvy77) (fun j h1 h2 => by rfl) (fun j h1 h2 => by rw [hfvy77 _ (by omega)]) fry1
            have hpy85 := okState.mv (ad' := ad) (g' := gvy77) (fun j h1 h2 => by rfl) (fun j h1 h2 => by rw [hfvy77 _ (by omega)]) jry1
            have hpy86 := okPlan.mv (ad' := ad) (g' := gvy77) (fun j h1 h2 => by rfl) (fun j h1 h2 => by rw [hfvy77 _ (by omega)]) kry1
            have hpy87 := okGss.mv (ad' := ad) (g' := gvy77) (fun j h1 h2 => by rfl) (fun j h1 h2 => by rw [hfvy77 _ (by omega)]) nry1
            have hpy88 := okLike.mv (ad' := ad) (g' := gvy77) (fun j h1 h2 => by rfl) (fun j h1 h2 => by rw [hfvy77 _ (by omega)]) ory1
            have hpy89 := okBld.mv (ad' := ad) (g' := gvy77) (fun j h1 h2 => by rfl) (fun j h1 h2 => by rw [hfvy77 _ (by omega)]) pry1
            have hoky90 : okWorld cs ad gvy77 (900) := okWorld.mv (fun j j1 j2 => by rw [hfvy77 _ (by omega)]) mry1
            have hrecy91 : okRec cs ad gvy77 N (t) (fp) (im) (nz) (kz) (sl) (ho) (ua) (st) (op) (ai) (fa) (mu) (tb) (tp) := ⟨hgy80, bry1, cry1, hgy81, hpy83, hpy84, gry11, hry1, ⟨_, hpy82⟩, ⟨_, hpy85⟩, hpy86, hoky78, hoky90, hpy87, hpy88, hpy89⟩
            exact z_iret C hr hlk dX9_yearGoesBy_179 (by decide) (by decide) ⟨vy50, rfl, rfl, rfl, by omega, hrecy91, fun j j1 j2 => by rw [hfvy77 _ (by omega)]⟩
        · refine z_aload_n C 3 dX9_yearGoesBy_115 rfl ?_
          refine z_get (v := .ref (ad 890)) C (lt_K hN (rfl : Nat.blt (0) 952 = true)) hay2 ary1 rfl inA_X9 9 (by decide) q_358 rfl rfl dX9_yearGoesBy_116 ?_
          refine z_iload C 0 dX9_yearGoesBy_119 rfl ?_
          refine z_cV (As := [.int (zI (vy48))]) (rest := []) (ci := 10) C (c_X8_digOn l D A cs tt N ad _ (890) (by omega) lry1 (vy48) (by omega) ) (lt_K hN (rfl : Nat.blt (890) 952 = true)) hay9 hwhcy20.1 rfl rfl mv_yX8_digOn q_551 hd_yX8_digOn (by decide) (Nat.le_of_ble_eq_true rfl) (by decide) dX9_yearGoesBy_121 rfl (kI0 fun vy92 gvy92 hvy92 => ?_)
          obtain ⟨hrvy92, hkvy92, hfvy92⟩ := hvy92
          have hoky93 : okWorld cs ad gvy92 (890) := hkvy92
          obtain ⟨thcy94, zhcy94, ohcy94, rhcy94, hzhcy94, hthcy94, hwhcy94⟩ := id hoky93
          refine z_pop C dX9_yearGoesBy_124 rfl ?_
          refine z_goto (tgt := 178) C dX9_yearGoesBy_125 (by decide) ?_
          refine z_iload_n C 1 dX9_yearGoesBy_178 rfl ?_
          have hgy95 := (hfvy92 (0) (by omega)).trans ary1
          have hgy96 := (hfvy92 (1) (by omega)).trans dry1
          have hpy97 := okState.mv (ad' := ad) (g' := gvy92) (fun j h1 h2 => by rfl) (fun j h1 h2 => by rw [hfvy92 _ (by omega)]) iry1
          have hpy98 := okRdr.mv (ad' := ad) (g' := gvy92) (fun j h1 h2 => by rfl) (fun j h1 h2 => by rw [hfvy92 _ (by omega)]) ery1
          have hpy99 := isPlan.mv (ad' := ad) (g' := gvy92) (fun j h1 h2 => by rfl) (fun j h1 h2 => by rw [hfvy92 _ (by omega)]) fry1
          have hpy100 := okState.mv (ad' := ad) (g' := gvy92) (fun j h1 h2 => by rfl) (fun j h1 h2 => by rw [hfvy92 _ (by omega)]) jry1
          have hpy101 := okPlan.mv (ad' := ad) (g' := gvy92) (fun j h1 h2 => by rfl) (fun j h1 h2 => by rw [hfvy92 _ (by omega)]) kry1
          have hpy102 := okGss.mv (ad' := ad) (g' := gvy92) (fun j h1 h2 => by rfl) (fun j h1 h2 => by rw [hfvy92 _ (by omega)]) nry1
          have hpy103 := okLike.mv (ad' := ad) (g' := gvy92) (fun j h1 h2 => by rfl) (fun j h1 h2 => by rw [hfvy92 _ (by omega)]) ory1
          have hpy104 := okBld.mv (ad' := ad) (g' := gvy92) (fun j h1 h2 => by rfl) (fun j h1 h2 => by rw [hfvy92 _ (by omega)]) pry1
          have hoky105 : okWorld cs ad gvy92 (900) := okWorld.mv (fun j j1 j2 => by rw [hfvy92 _ (by omega)]) mry1
          have hrecy106 : okRec cs ad gvy92 N (t) (fp) (im) (nz) (kz) (sl) (ho) (ua) (st) (op) (ai) (fa) (mu) (tb) (tp) := ⟨hgy95, bry1, cry1, hgy96, hpy98, hpy99, gry11, hry1, ⟨_, hpy97⟩, ⟨_, hpy100⟩, hpy101, hoky93, hoky105, hpy102, hpy103, hpy104⟩
          exact z_iret C hr hlk dX9_yearGoesBy_179 (by decide) (by decide) ⟨vy47, rfl, rfl, rfl, by omega, hrecy106, fun j j1 j2 => by rw [hfvy92 _ (by omega)]⟩
    · refine z_aload_n C 2 dX9_yearGoesBy_75 rfl ?_
      have hrecy108 : okRec cs ad g N (t) (fp) (im) (nz) (kz) (sl) (ho) (ua) (st) (op) (ai) (fa) (mu) (tb) (tp) := ⟨ary1, bry1, cry1, dry1, ery1, fry1, gry11, hry1, ⟨_, iry1⟩, ⟨_, jry1⟩, kry1, lry1, mry1, nry1, ory1, pry1⟩
      refine z_cV (As := []) (rest := []) (ci := 11) C (c_X9_slideAll l D A cs tt N ad _ hN _ _ _ _ _ _ _ _ _ _ _ _ _ _ _ hrecy108 ) (lt_K hN (rfl : Nat.blt (0) 952 = true)) hay2 ary1 rfl rfl mv_yX9_slideAll q_1445 hd_yX9_slideAll (by decide) (Nat.le_of_ble_eq_true rfl) (by decide) dX9_yearGoesBy_76 rfl (kV0 fun gvy107 hvy107 => ?_)
      obtain ⟨hkvy107, hfvy107⟩ := hvy107
      obtain ⟨ary109, bry109, cry109, dry109, ery109, fry109, gry1091, hry109, ⟨acry109, iry109⟩, ⟨kcry109, jry109⟩, kry109, lry109, mry109, nry109, ory109, pry109⟩ := id hkvy107
      obtain ⟨thcy110, zhcy110, ohcy110, rhcy110, hzhcy110, hthcy110, hwhcy110⟩ := id lry109
      obtain ⟨thcy111, zhcy111, ohcy111, rhcy111, hzhcy111, hthcy111, hwhcy111⟩ := id mry109
      obtain ⟨asy112, bsy112, csy112, dsy112, esy112, ⟨ptsy112, fsy112, gsy1121⟩, hsy112, ⟨nusy112, nvsy112, nwsy112, isy112, jsy112, ksy112, lsy112, msy112, nsy112⟩, rfsy112, osy112⟩ := id iry109
      obtain ⟨uy113t, uy113z, uy113o, uy113r, uy113z4, uy113t5, uy1131, ⟨uy113u, uy1132, uy1133⟩, uy1134⟩ := id csy112
      have hay114 : zAt ad (11 + 1) (ad (11 + 1)) := rfl
      have hay115 : zAt ad (11 + 1 + 1) (ad (11 + 1 + 1)) := rfl
      obtain ⟨sloy116, hooy116, uaoy116, stoy116, opoy116, aioy116, faoy116, muoy116, tboy116, hsloy116, hhooy116, hpoy116⟩ := id kry109
      refine z_goto (tgt := 178) C dX9_yearGoesBy_79 (by decide) ?_
      refine z_iload_n C 1 dX9_yearGoesBy_178 rfl ?_
      have hrecy117 : okRec cs ad gvy107 N (t) (fp) (im) (nz) (kz) (sl) (ho) (ua) (st) (op) (ai) (fa) (mu) (tb) (tp) := ⟨ary109, bry109, cry109, dry109, ery109, fry109, gry1091, hry109, ⟨_, iry109⟩, ⟨_, jry109⟩, kry109, lry109, mry109, nry109, ory109, pry109⟩
      exact z_iret C hr hlk dX9_yearGoesBy_179 (by decide) (by decide) ⟨vy41, rfl, rfl, rfl, by omega, hrecy117, fun j j1 j2 => by rw [hfvy107 _ (by omega) (by omega)]⟩
  · refine z_iload_n C 1 dX9_yearGoesBy_17 rfl ?_
    refine z_cS (As := [.int (zI (vy41))]) (rest := []) C (c_X9_nextSeed l D A cs tt N ad _ (vy41) (by omega)) ms_yX9_nextSeed q_1437 hd_yX9_nextSeed (by decide) (Nat.le_of_ble_eq_true rfl) (by decide) dX9_yearGoesBy_18 rfl (kI0 fun vy118 gvy118 hvy118 => ?_)
    obtain ⟨hvy118, rfl⟩ := hvy118
    refine z_istore_n (lv' := [(2, .int (zI (vy118))), (3, .int (zI (vy42))), (0, .ref (ad 0)), (1, .int (zI (z)))]) C dX9_yearGoesBy_21 rfl (by decide) rfl ?_
    refine z_iload_n C 0 dX9_yearGoesBy_22 rfl ?_
    refine z_bipush (z := 6) C dX9_yearGoesBy_23 (by decide) ?_
    refine z_cS (As := [.int (zI (vy118)), .int (zI (6))]) (rest := []) C (c_X9_drawOf l D A cs tt N ad _ (vy118) (by omega) (6) (by omega)) ms_yX9_drawOf q_1441 hd_yX9_drawOf (by decide) (Nat.le_of_ble_eq_true rfl) (by decide) dX9_yearGoesBy_25 rfl (kI0 fun vy119 gvy119 hvy119 => ?_)
    obtain ⟨hvy119, rfl⟩ := hvy119
    refine z_iconst (z := 1) C dX9_yearGoesBy_28 rfl ?_
    refine z_iadd C dX9_yearGoesBy_29 ?_
    refine z_istore (lv' := [(4, .int (zI (vy119 + 1))), (2, .int (zI (vy118))), (3, .int (zI (vy42))), (0, .ref (ad 0)), (1, .int (zI (z)))]) C dX9_yearGoesBy_30 (by decide) rfl ?_
    refine z_iconst (z := 0) C dX9_yearGoesBy_32 rfl ?_
    refine z_istore (lv' := [(5, .int (zI (0))), (4, .int (zI (vy119 + 1))), (2, .int (zI (vy118))), (3, .int (zI (vy42))), (0, .ref (ad 0)), (1, .int (zI (z)))]) C dX9_yearGoesBy_33 (by decide) rfl ?_
    have lp35 : ∀ (n9 : Nat) (i : Int) (ma : Int) (ch : Int) (dr : Int) (g1 : Nat → va_E), (6 - i).toNat = n9 → (okRec cs ad g1 N t fp im nz kz sl ho ua st op ai fa mu tb tp) → (oX g g1) → (0 ≤ i ∧ i ≤ 6) → (1 ≤ ma ∧ ma ≤ 6) → (0 ≤ ch ∧ ch ≤ 1) → (-2147483648 ≤ dr ∧ dr ≤ 2147483647) → zV p l e ({ frames := 8, cells := 0, slots := 0, locals := 480 } : Room) s m ([.ref (ad 0), .int (zI (z))] : List Value).toArray below meth c (MQ below (zPost D A (rI0 N ad fun r g' => (-2147483648 ≤ r ∧ r ≤ 2147483647) ∧ okRec cs ad g' N t fp im nz kz sl ho ua st op ai fa mu tb tp ∧ oX g g')) ([.ref (ad 0), .int (zI (z))] : List Value).toArray s ({ frames := 8, cells := 0, slots := 0, locals := 480 } : Room).cells ({ frames := 8, cells := 0, slots := 0, locals := 480 } : Room).slots A) D A 6 (N) ad g1 (0) (0) 35 [(5, .int (zI (i))), (4, .int (zI (ma))), (3, .int (zI (ch))), (2, .int (zI (dr))), (0, .ref (ad 0)), (1, .int (zI (z)))] [] := by
      intro n9
      induction n9 using Nat.strongRecOn with
      | ind n9 ih_lp35 =>
        intro i ma ch dr g1 hm9 f1 f2 hv35_0 hv35_1 hv35_2 hv35_3
        obtain ⟨ary120, bry120, cry120, dry120, ery120, fry120, gry1201, hry120, ⟨acry120, iry120⟩, ⟨kcry120, jry120⟩, kry120, lry120, mry120, nry120, ory120, pry120⟩ := id f1
        have hay121 : zAt ad (0) (ad 0) := rfl
        have hay122 : zAt ad (1) (ad 1) := rfl
        have hay123 : zAt ad (2) (ad 2) := rfl
        have hay124 : zAt ad (4) (ad 4) := rfl
        have hay125 : zAt ad (11) (ad 11) := rfl
        have hay126 : zAt ad (447) (ad 447) := rfl
        have hay127 : zAt ad (883) (ad 883) := rfl
        have hay128 : zAt ad (890) (ad 890) := rfl
        have hay129 : zAt ad (900) (ad 900) := rfl
        have hay130 : zAt ad (910) (ad 910) := rfl
        have hay131 : zAt ad (917) (ad 917) := rfl
        have hay132 : zAt ad (919) (ad 919) := rfl
        have hay133 : zAt ad (4 + 1) (ad (4 + 1)) := rfl
        have hay134 : zAt ad (4 + 2) (ad (4 + 2)) := rfl
        have hay135 : zAt ad (4 + 3) (ad (4 + 3)) := rfl
        have hay136 : zAt ad (4 + 4) (ad (4 + 4)) := rfl
        have hay137 : zAt ad (4 + 5) (ad (4 + 5)) := rfl
        have hay138 : zAt ad (4 + 6) (ad (4 + 6)) := rfl
        obtain ⟨thcy139, zhcy139, ohcy139, rhcy139, hzhcy139, hthcy139, hwhcy139⟩ := id lry120
        obtain ⟨thcy140, zhcy140, ohcy140, rhcy140, hzhcy140, hthcy140, hwhcy140⟩ := id mry120
        obtain ⟨asy141, bsy141, csy141, dsy141, esy141, ⟨ptsy141, fsy141, gsy1411⟩, hsy141, ⟨nusy141, nvsy141, nwsy141, isy141, jsy141, ksy141, lsy141, msy141, nsy141⟩, rfsy141, osy141⟩ := id iry120
        have hay142 : zAt ad (11 + 1) (ad (11 + 1)) := rfl
        have hay143 : zAt ad (11 + 11) (ad (11 + 11)) := rfl
        have hay144 : zAt ad (11 + 12) (ad (11 + 12)) := rfl
        have hay145 : zAt ad (11 + 13) (ad (11 + 13)) := rfl
        have hay146 : zAt ad (11 + 13 + 1) (ad (11 + 13 + 1)) := rfl
        have hay147 : zAt ad (11 + 13 + 2) (ad (11 + 13 + 2)) := rfl
        have hay148 : zAt ad (11 + 13 + 3) (ad (11 + 13 + 3)) := rfl
        have hay149 : zAt ad (11 + 17) (ad (11 + 17)) := rfl
        obtain ⟨uy150t, uy150z, uy150o, uy150r, uy150z4, uy150t5, uy1501, ⟨uy150u, uy1502, uy1503⟩, uy1504⟩ := id csy141
        have hay151 : zAt ad (11 + 1) (ad (11 + 1)) := rfl
        have hay152 : zAt ad (11 + 1 + 1) (ad (11 + 1 + 1)) := rfl
        obtain ⟨sloy153, hooy153, uaoy153, stoy153, opoy153, aioy153, faoy153, muoy153, tboy153, hsloy153, hhooy153, hpoy153⟩ := id kry120
        have hay154 : zAt ad (883 + 1) (ad (883 + 1)) := rfl
        have hay155 : zAt ad (883 + 2) (ad (883 + 2)) := rfl
        have hay156 : zAt ad (883 + 3) (ad (883 + 3)) := rfl
        have hay157 : zAt ad (883 + 4) (ad (883 + 4)) := rfl
        have hay158 : zAt ad (883 + 5) (ad (883 + 5)) := rfl
        have hay159 : zAt ad (883 + 6) (ad (883 + 6)) := rfl
        refine z_iload C 0 dX9_yearGoesBy_35 rfl ?_
        refine z_iload C 1 dX9_yearGoesBy_37 rfl ?_
        refine z_icmp_ge (tgt := 67) C dX9_yearGoesBy_39 (by decide) (by omega) (by omega) (fun hby160 => ?_) (fun hby160 => ?_)
        · refine z_goto (tgt := 178) C dX9_yearGoesBy_67 (by decide) ?_
          refine z_iload_n C 3 dX9_yearGoesBy_178 rfl ?_
          have hrecy161 : okRec cs ad g1 N (t) (fp) (im) (nz) (kz) (sl) (ho) (ua) (st) (op) (ai) (fa) (mu) (tb) (tp) := ⟨ary120, bry120, cry120, dry120, ery120, fry120, gry1201, hry120, ⟨_, iry120⟩, ⟨_, jry120⟩, kry120, lry120, mry120, nry120, ory120, pry120⟩
          exact z_iret C hr hlk dX9_yearGoesBy_179 (by decide) (by decide) ⟨dr, rfl, rfl, rfl, by omega, hrecy161, fun j j1 j2 => by exact f2 j j1 j2⟩
        · refine z_aload_n C 4 dX9_yearGoesBy_42 rfl ?_
          refine z_get (v := .ref (ad 890)) C (lt_K hN (rfl : Nat.blt (0) 952 = true)) hay121 ary120 rfl inA_X9 9 (by decide) q_358 rfl rfl dX9_yearGoesBy_43 ?_
          refine z_aload_n C 4 dX9_yearGoesBy_46 rfl ?_
          refine z_get (v := .ref (ad 4)) C (lt_K hN (rfl : Nat.blt (0) 952 = true)) hay121 ary120 rfl inA_X9 4 (by decide) q_353 rfl rfl dX9_yearGoesBy_47 ?_
          refine z_aload_n C 4 dX9_yearGoesBy_50 rfl ?_
          refine z_get (v := .ref (ad 4)) C (lt_K hN (rfl : Nat.blt (0) 952 = true)) hay121 ary120 rfl inA_X9 4 (by decide) q_353 rfl rfl dX9_yearGoesBy_51 ?_
          refine z_cV (As := []) (rest := [.ref (ad 4), .ref (ad 890)]) (ci := 7) C (c_X5_allSlopes l D A cs tt N ad _ (4) (by omega) _ _ _ _ _ _ _ _ _ ⟨fry120.1, fry120.2.1, fry120.2.2.1, fry120.2.2.2.1, fry120.2.2.2.2.1, fry120.2.2.2.2.2.1, fry120.2.2.2.2.2.2⟩) (lt_K hN (rfl : Nat.blt (4) 952 = true)) hay124 fry120.1 rfl rfl mv_yX5_allSlopes q_431 hd_yX5_allSlopes (by decide) (Nat.le_of_ble_eq_true rfl) (by decide) dX9_yearGoesBy_54 rfl (kI0 fun vy162 gvy162 hvy162 => ?_)
          obtain ⟨hvy162, rfl⟩ := hvy162
          refine z_iconst (z := 1) C dX9_yearGoesBy_57 rfl ?_
          refine z_cV (As := [.ref (ad 4), .int (zI (vy162)), .int (zI (1))]) (rest := []) (ci := 10) C (c_X8_hour l D A cs tt N ad _ (890) (by omega) lry120 (4) (by omega) _ _ _ _ _ _ _ _ _ ⟨fry120.1, fry120.2.1, fry120.2.2.1, fry120.2.2.2.1, fry120.2.2.2.2.1, fry120.2.2.2.2.2.1, fry120.2.2.2.2.2.2⟩ (by omega) (by omega) (by omega) (vy162) (by omega) (1) (by omega)) (lt_K hN (rfl : Nat.blt (890) 952 = true)) hay128 hwhcy139.1 rfl rfl mv_yX8_hour q_435 hd_yX8_hour (by decide) (Nat.le_of_ble_eq_true rfl) (by decide) dX9_yearGoesBy_58 rfl (kV0 fun gvy163 hvy163 => ?_)
          obtain ⟨hkvy163, hfvy163⟩ := hvy163
          have hoky164 : okWorld cs ad gvy163 (890) := hkvy163
          obtain ⟨thcy165, zhcy165, ohcy165, rhcy165, hzhcy165, hthcy165, hwhcy165⟩ := id hoky164
          refine z_iinc (z := i + 1) (lv' := [(5, .int (zI (i + 1))), (4, .int (zI (ma))), (3, .int (zI (ch))), (2, .int (zI (dr))), (0, .ref (ad 0)), (1, .int (zI (z)))]) (j := 0) C dX9_yearGoesBy_61 rfl rfl (by decide) rfl ?_
          refine z_goto (tgt := 35) C dX9_yearGoesBy_64 (by decide) ?_
          have hgy166 := (hfvy163 (0) (by omega)).trans ary120
          have hgy167 := (hfvy163 (1) (by omega)).trans dry120
          have hpy168 := okState.mv (ad' := ad) (g' := gvy163) (fun j h1 h2 => by rfl) (fun j h1 h2 => by rw [hfvy163 _ (by omega)]) iry120
          have hpy169 := okRdr.mv (ad' := ad) (g' := gvy163) (fun j h1 h2 => by rfl) (fun j h1 h2 => by rw [hfvy163 _ (by omega)]) ery120
          have hpy170 := isPlan.mv (ad' := ad) (g' := gvy163) (fun j h1 h2 => by rfl) (fun j h1 h2 => by rw [hfvy163 _ (by omega)]) fry120
          have hpy171 := okState.mv (ad' := ad) (g' := gvy163) (fun j h1 h2 => by rfl) (fun j h1 h2 => by rw [hfvy163 _ (by omega)]) jry120
          have hpy172 := okPlan.mv (ad' := ad) (g' := gvy163) (fun j h1 h2 => by rfl) (fun j h1 h2 => by rw [hfvy163 _ (by omega)]) kry120
          have hpy173 := okGss.mv (ad' := ad) (g' := gvy163) (fun j h1 h2 => by rfl) (fun j h1 h2 => by rw [hfvy163 _ (by omega)]) nry120
          have hpy174 := okLike.mv (ad' := ad) (g' := gvy163) (fun j h1 h2 => by rfl) (fun j h1 h2 => by rw [hfvy163 _ (by omega)]) ory120
          have hpy175 := okBld.mv (ad' := ad) (g' := gvy163) (fun j h1 h2 => by rfl) (fun j h1 h2 => by rw [hfvy163 _ (by omega)]) pry120
          have hoky176 : okWorld cs ad gvy163 (900) := okWorld.mv (fun j j1 j2 => by rw [hfvy163 _ (by omega)]) mry120
          have hrecy177 : okRec cs ad gvy163 N (t) (fp) (im) (nz) (kz) (sl) (ho) (ua) (st) (op) (ai) (fa) (mu) (tb) (tp) := ⟨hgy166, bry120, cry120, hgy167, hpy169, hpy170, gry1201, hry120, ⟨_, hpy168⟩, ⟨_, hpy171⟩, hpy172, hoky164, hoky176, hpy173, hpy174, hpy175⟩
          refine z_lv (lv' := [(5, .int (zI (i + 1))), (4, .int (zI (ma))), (3, .int (zI (ch))), (2, .int (zI (dr))), (0, .ref (ad 0)), (1, .int (zI (z)))]) [0, 1, 2, 3, 4, 5] rfl ?_
          exact ih_lp35 _ (by omega) (i + 1) (ma) (ch) (dr) gvy163 rfl hrecy177 (fun j j1 j2 => by rw [hfvy163 _ (by omega)]; exact f2 j j1 j2) (by omega) (by omega) (by omega) (by omega)
    have hrecy178 : okRec cs ad g N (t) (fp) (im) (nz) (kz) (sl) (ho) (ua) (st) (op) (ai) (fa) (mu) (tb) (tp) := ⟨ary1, bry1, cry1, dry1, ery1, fry1, gry11, hry1, ⟨_, iry1⟩, ⟨_, jry1⟩, kry1, lry1, mry1, nry1, ory1, pry1⟩
    refine z_lv (lv' := [(5, .int (zI (0))), (4, .int (zI (vy119 + 1))), (3, .int (zI (vy42))), (2, .int (zI (vy118))), (0, .ref (ad 0)), (1, .int (zI (z)))]) [0, 1, 3, 2, 4, 5] rfl ?_
    exact lp35 _ (0) (vy119 + 1) (vy42) (vy118) g rfl hrecy178 (fun j j1 j2 => by rfl) (by omega) (by omega) (by omega) (by omega)

set_option maxRecDepth 100000 in
set_option maxHeartbeats 4000000 in
theorem c_X9_years (l : Launch) (D : va_G) (A : Nat → Prop) (cs : Nat → ClassId) (tt : Nat) (N : Nat) (ad : Nat → Nat) (g : Nat → va_E) (hN : 952 ≤ N) (t fp im nz kz sl ho ua : Int) (st op ai fa mu tb tp : Nat → Int) (hR : okRec cs ad g N t fp im nz kz sl ho ua st op ai fa mu tb tp) (hl0 : l.stackTraces = false) (z : Int) (hz : -2147483648 ≤ z ∧ z ≤ 2147483647) (z1 : Int) (hz1 : -2147483648 ≤ z1 ∧ z1 ≤ 2147483647) (z2 : Int) (hz2 : -2147483648 ≤ z2 ∧ z2 ≤ 2147483647) : zMX l yX9_years cX9_years 6 (some .int) ({ frames := 12, cells := 6, slots := 60, locals := 720 } : Room) D A cs tt N ad g [.ref (ad 0), .int (zI (z)), .int (zI (z1)), .int (zI (z2))] (rI0 N ad fun r g' => (-2147483648 ≤ r ∧ r ≤ 2147483647) ∧ okRec cs ad g' N t fp im nz kz sl ho ua st op ai fa mu tb tp ∧ oX g g') (fun E N' ad' g' => (E = eNS ∨ E = eIA) ∧ N' = N ∧ ad' = ad ∧ g' = g) := by
  obtain ⟨ary1, bry1, cry1, dry1, ery1, fry1, gry11, hry1, ⟨acry1, iry1⟩, ⟨kcry1, jry1⟩, kry1, lry1, mry1, nry1, ory1, pry1⟩ := id hR
  have hay2 : zAt ad (0) (ad 0) := rfl
  have hay3 : zAt ad (1) (ad 1) := rfl
  have hay4 : zAt ad (2) (ad 2) := rfl
  have hay5 : zAt ad (4) (ad 4) := rfl
  have hay6 : zAt ad (11) (ad 11) := rfl
  have hay7 : zAt ad (447) (ad 447) := rfl
  have hay8 : zAt ad (883) (ad 883) := rfl
  have hay9 : zAt ad (890) (ad 890) := rfl
  have hay10 : zAt ad (900) (ad 900) := rfl
  have hay11 : zAt ad (910) (ad 910) := rfl
  have hay12 : zAt ad (917) (ad 917) := rfl
  have hay13 : zAt ad (919) (ad 919) := rfl
  have hay14 : zAt ad (4 + 1) (ad (4 + 1)) := rfl
  have hay15 : zAt ad (4 + 2) (ad (4 + 2)) := rfl
  have hay16 : zAt ad (4 + 3) (ad (4 + 3)) := rfl
  have hay17 : zAt ad (4 + 4) (ad (4 + 4)) := rfl
  have hay18 : zAt ad (4 + 5) (ad (4 + 5)) := rfl
  have hay19 : zAt ad (4 + 6) (ad (4 + 6)) := rfl
  obtain ⟨thcy20, zhcy20, ohcy20, rhcy20, hzhcy20, hthcy20, hwhcy20⟩ := id lry1
  obtain ⟨thcy21, zhcy21, ohcy21, rhcy21, hzhcy21, hthcy21, hwhcy21⟩ := id mry1
  obtain ⟨asy22, bsy22, csy22, dsy22, esy22, ⟨ptsy22, fsy22, gsy221⟩, hsy22, ⟨nusy22, nvsy22, nwsy22, isy22, jsy22, ksy22, lsy22, msy22, nsy22⟩, rfsy22, osy22⟩ := id iry1
  have hay23 : zAt ad (11 + 1) (ad (11 + 1)) := rfl
  have hay24 : zAt ad (11 + 11) (ad (11 + 11)) := rfl
  have hay25 : zAt ad (11 + 12) (ad (11 + 12)) := rfl
  have hay26 : zAt ad (11 + 13) (ad (11 + 13)) := rfl
  have hay27 : zAt ad (11 + 13 + 1) (ad (11 + 13 + 1)) := rfl
  have hay28 : zAt ad (11 + 13 + 2) (ad (11 + 13 + 2)) := rfl
  have hay29 : zAt ad (11 + 13 + 3) (ad (11 + 13 + 3)) := rfl
  have hay30 : zAt ad (11 + 17) (ad (11 + 17)) := rfl
  obtain ⟨uy31t, uy31z, uy31o, uy31r, uy31z4, uy31t5, uy311, ⟨uy31u, uy312, uy313⟩, uy314⟩ := id csy22
  have hay32 : zAt ad (11 + 1) (ad (11 + 1)) := rfl
  have hay33 : zAt ad (11 + 1 + 1) (ad (11 + 1 + 1)) := rfl
  obtain ⟨sloy34, hooy34, uaoy34, stoy34, opoy34, aioy34, faoy34, muoy34, tboy34, hsloy34, hhooy34, hpoy34⟩ := id kry1
  have hay35 : zAt ad (883 + 1) (ad (883 + 1)) := rfl
  have hay36 : zAt ad (883 + 2) (ad (883 + 2)) := rfl
  have hay37 : zAt ad (883 + 3) (ad (883 + 3)) := rfl
  have hay38 : zAt ad (883 + 4) (ad (883 + 4)) := rfl
  have hay39 : zAt ad (883 + 5) (ad (883 + 5)) := rfl
  have hay40 : zAt ad (883 + 6) (ad (883 + 6)) := rfl
  refine z_ofX (by decide) (Nat.le_of_ble_eq_true rfl) ?_
  intro p e s m below meth c C hr hlk hxt
  refine z_lv (lv' := [(0, .ref (ad 0)), (1, .int (zI (z))), (2, .int (zI (z1))), (3, .int (zI (z2)))]) [0, 1, 2, 3] rfl ?_
  refine z_iload_n C 3 dX9_years_0 rfl ?_
  refine z_iconst (z := 2) C dX9_years_1 rfl ?_
  refine z_cSX (As := [.int (zI (z2)), .int (zI (2))]) (rest := []) C (c_X9_needWhat l D A cs tt N ad _ hl0 (z2) (by omega) (2) (by omega)) ms_yX9_needWhat q_1220 hd_yX9_needWhat (by decide) (Nat.le_of_ble_eq_true rfl) (by decide) dX9_years_2 rfl (fun E N' ad' g' h => by obtain ⟨⟨rfl, h9⟩, rfl, rfl, rfl⟩ := h; exact z_uout C hxt hlk (by decide) (by decide) ⟨Or.inl rfl, rfl, rfl, rfl⟩) (kV0 fun gvy41 hvy41 => ?_)
  obtain ⟨hvy41, rfl⟩ := hvy41
  refine z_iload_n C 2 dX9_years_5 rfl ?_
  refine z_if_lt (tgt := 15) C dX9_years_6 (by decide) (by omega) (fun hby42 => ?_) (fun hby42 => ?_)
  · exact z_thrW (cls := eIA) (text := "years are 0 to 30") C hl0 (by decide +kernel) q_658 q_19 (by decide +kernel) at_IA gd_IA dX9_years_15 dX9_years_18 dX9_years_19 dX9_years_22 dX9_years_25 hxt (by decide) (Nat.le_of_ble_eq_true rfl) (by decide) (by decide) hlk (by decide) (by decide) ⟨Or.inr rfl, rfl, rfl, rfl⟩
  · refine z_iload_n C 2 dX9_years_9 rfl ?_
    refine z_bipush (z := 30) C dX9_years_10 (by decide) ?_
    refine z_icmp_le (tgt := 26) C dX9_years_12 (by decide) (by omega) (by omega) (fun hby43 => ?_) (fun hby43 => ?_)
    · refine z_aload_n C 0 dX9_years_26 rfl ?_
      refine z_get (v := .ref (ad 890)) C (lt_K hN (rfl : Nat.blt (0) 952 = true)) hay2 ary1 rfl inA_X9 9 (by decide) q_358 rfl rfl dX9_years_27 ?_
      refine z_aload_n C 0 dX9_years_30 rfl ?_
      refine z_get (v := .ref (ad 11)) C (lt_K hN (rfl : Nat.blt (0) 952 = true)) hay2 ary1 rfl inA_X9 5 (by decide) q_354 rfl rfl dX9_years_31 ?_
      refine z_get (v := .ref (ad (11 + 1))) C (lt_K hN (rfl : Nat.blt (11) 952 = true)) hay6 iry1.1 rfl inA_X6 0 (by decide) q_258 rfl rfl dX9_years_34 ?_
      refine z_cV (As := [.ref (ad (11 + 1))]) (rest := []) (ci := 10) C (c_X8_copyFrom l D A cs tt N ad _ (890) (by omega) lry1 (11 + 1) (by omega) csy22 (by omega)) (lt_K hN (rfl : Nat.blt (890) 952 = true)) hay9 hwhcy20.1 rfl rfl mv_yX8_copyFrom q_1228 hd_yX8_copyFrom (by decide) (Nat.le_of_ble_eq_true rfl) (by decide) dX9_years_37 rfl (kV0 fun gvy44 hvy44 => ?_)
      obtain ⟨⟨tvy44, zvy44, ovy44, rvy44, hzvy44, htvy44, -, hwvy44⟩, hfvy44⟩ := hvy44
      have hoky45 : okWorld cs ad gvy44 (890) := ⟨_, _, _, _, hzvy44, htvy44, hwvy44⟩
      obtain ⟨thcy46, zhcy46, ohcy46, rhcy46, hzhcy46, hthcy46, hwhcy46⟩ := id hoky45
      refine z_iload_n C 1 dX9_years_40 rfl ?_
      refine z_istore (lv' := [(4, .int (zI (z))), (0, .ref (ad 0)), (1, .int (zI (z))), (2, .int (zI (z1))), (3, .int (zI (z2)))]) C dX9_years_41 (by decide) rfl ?_
      refine z_iconst (z := 0) C dX9_years_43 rfl ?_
      refine z_istore (lv' := [(5, .int (zI (0))), (4, .int (zI (z))), (0, .ref (ad 0)), (1, .int (zI (z))), (2, .int (zI (z1))), (3, .int (zI (z2)))]) C dX9_years_44 (by decide) rfl ?_
      have lp46 : ∀ (n9 : Nat) (i : Int) (dr : Int) (g1 : Nat → va_E), (30 - i).toNat = n9 → (okRec cs ad g1 N t fp im nz kz sl ho ua st op ai fa mu tb tp) → (oX g g1) → (0 ≤ i ∧ i ≤ 30) → (-2147483648 ≤ dr ∧ dr ≤ 2147483647) → (0 ≤ z1 ∧ z1 ≤ 30) → (0 ≤ z2 ∧ z2 ≤ 2) → zV p l e ({ frames := 12, cells := 6, slots := 60, locals := 720 } : Room) s m ([.ref (ad 0), .int (zI (z)), .int (zI (z1)), .int (zI (z2))] : List Value).toArray below meth c (vx_MQ below (zPost D A (rI0 N ad fun r g' => (-2147483648 ≤ r ∧ r ≤ 2147483647) ∧ okRec cs ad g' N t fp im nz kz sl ho ua st op ai fa mu tb tp ∧ oX g g')) (zX D A (fun E N' ad' g' => (E = eNS ∨ E = eIA) ∧ N' = N ∧ ad' = ad ∧ g' = g)) ([.ref (ad 0), .int (zI (z)), .int (zI (z1)), .int (zI (z2))] : List Value).toArray s ({ frames := 12, cells := 6, slots := 60, locals := 720 } : Room).cells ({ frames := 12, cells := 6, slots := 60, locals := 720 } : Room).slots A) D A 6 (N) ad g1 (1) (6) 46 [(5, .int (zI (i))), (4, .int (zI (dr))), (0, .ref (ad 0)), (1, .int (zI (z))), (2, .int (zI (z1))), (3, .int (zI (z2)))] [] := by
        intro n9
        induction n9 using Nat.strongRecOn with
        | ind n9 ih_lp46 =>
          intro i dr g1 hm9 f1 f2 hv46_0 hv46_1 hv46_2 hv46_3
          obtain ⟨ary47, bry47, cry47, dry47, ery47, fry47, gry471, hry47, ⟨acry47, iry47⟩, ⟨kcry47, jry47⟩, kry47, lry47, mry47, nry47, ory47, pry47⟩ := id f1
          have hay48 : zAt ad (0) (ad 0) := rfl
          have hay49 : zAt ad (1) (ad 1) := rfl
          have hay50 : zAt ad (2) (ad 2) := rfl
          have hay51 : zAt ad (4) (ad 4) := rfl
          have hay52 : zAt ad (11) (ad 11) := rfl
          have hay53 : zAt ad (447) (ad 447) := rfl
          have hay54 : zAt ad (883) (ad 883) := rfl
          have hay55 : zAt ad (890) (ad 890) := rfl
          have hay56 : zAt ad (900) (ad 900) := rfl
          have hay57 : zAt ad (910) (ad 910) := rfl
          have hay58 : zAt ad (917) (ad 917) := rfl
          have hay59 : zAt ad (919) (ad 919) := rfl
          have hay60 : zAt ad (4 + 1) (ad (4 + 1)) := rfl
          have hay61 : zAt ad (4 + 2) (ad (4 + 2)) := rfl
          have hay62 : zAt ad (4 + 3) (ad (4 + 3)) := rfl
          have hay63 : zAt ad (4 + 4) (ad (4 + 4)) := rfl
          have hay64 : zAt ad (4 + 5) (ad (4 + 5)) := rfl
          have hay65 : zAt ad (4 + 6) (ad (4 + 6)) := rfl
          obtain ⟨thcy66, zhcy66, ohcy66, rhcy66, hzhcy66, hthcy66, hwhcy66⟩ := id lry47
          obtain ⟨thcy67, zhcy67, ohcy67, rhcy67, hzhcy67, hthcy67, hwhcy67⟩ := id mry47
          obtain ⟨asy68, bsy68, csy68, dsy68, esy68, ⟨ptsy68, fsy68, gsy681⟩, hsy68, ⟨nusy68, nvsy68, nwsy68, isy68, jsy68, ksy68, lsy68, msy68, nsy68⟩, rfsy68, osy68⟩ := id iry47
          have hay69 : zAt ad (11 + 1) (ad (11 + 1)) := rfl
          have hay70 : zAt ad (11 + 11) (ad (11 + 11)) := rfl
          have hay71 : zAt ad (11 + 12) (ad (11 + 12)) := rfl
          have hay72 : zAt ad (11 + 13) (ad (11 + 13)) := rfl
          have hay73 : zAt ad (11 + 13 + 1) (ad (11 + 13 + 1)) := rfl
          have hay74 : zAt ad (11 + 13 + 2) (ad (11 + 13 + 2)) := rfl
          have hay75 : zAt ad (11 + 13 + 3) (ad (11 + 13 + 3)) := rfl
          have hay76 : zAt ad (11 + 17) (ad (11 + 17)) := rfl
          obtain ⟨uy77t, uy77z, uy77o, uy77r, uy77z4, uy77t5, uy771, ⟨uy77u, uy772, uy773⟩, uy774⟩ := id csy68
          have hay78 : zAt ad (11 + 1) (ad (11 + 1)) := rfl
          have hay79 : zAt ad (11 + 1 + 1) (ad (11 + 1 + 1)) := rfl
          obtain ⟨sloy80, hooy80, uaoy80, stoy80, opoy80, aioy80, faoy80, muoy80, tboy80, hsloy80, hhooy80, hpoy80⟩ := id kry47
          have hay81 : zAt ad (883 + 1) (ad (883 + 1)) := rfl
          have hay82 : zAt ad (883 + 2) (ad (883 + 2)) := rfl
          have hay83 : zAt ad (883 + 3) (ad (883 + 3)) := rfl
          have hay84 : zAt ad (883 + 4) (ad (883 + 4)) := rfl
          have hay85 : zAt ad (883 + 5) (ad (883 + 5)) := rfl
          have hay86 : zAt ad (883 + 6) (ad (883 + 6)) := rfl
          refine z_iload C 0 dX9_years_46 rfl ?_
          refine z_iload_n C 4 dX9_years_48 rfl ?_
          refine z_icmp_ge (tgt := 66) C dX9_years_49 (by decide) (by omega) (by omega) (fun hby87 => ?_) (fun hby87 => ?_)
          · refine z_iload_n C 5 dX9_years_66 rfl ?_
            by_cases hsy88 : z2 ≠ 0 ∧ z2 ≠ 1
            · refine z_lookup (off := 63) (tgt := 130) C dX9_years_67 (by decide) (by omega) (lk_out (by simp; omega)) (by decide) ?_
              refine z_aload_n C 2 dX9_years_130 rfl ?_
              refine z_get (v := .ref (ad 890)) C (lt_K hN (rfl : Nat.blt (0) 952 = true)) hay48 ary47 rfl inA_X9 9 (by decide) q_358 rfl rfl dX9_years_131 ?_
              refine z_bipush (z := 36) C dX9_years_134 (by decide) ?_
              refine z_cV (As := [.int (zI (36))]) (rest := []) (ci := 10) C (c_X8_sum l D A cs tt N ad _ (890) (by omega) lry47 (36) (by omega)) (lt_K hN (rfl : Nat.blt (890) 952 = true)) hay55 hwhcy66.1 rfl rfl mv_yX8_sum q_886 hd_yX8_sum (by decide) (Nat.le_of_ble_eq_true rfl) (by decide) dX9_years_136 rfl (kI0 fun vy89 gvy89 hvy89 => ?_)
              obtain ⟨hvy89, rfl⟩ := hvy89
              have hrecy90 : okRec cs ad g1 N (t) (fp) (im) (nz) (kz) (sl) (ho) (ua) (st) (op) (ai) (fa) (mu) (tb) (tp) := ⟨ary47, bry47, cry47, dry47, ery47, fry47, gry471, hry47, ⟨_, iry47⟩, ⟨_, jry47⟩, kry47, lry47, mry47, nry47, ory47, pry47⟩
              exact z_rX (z_iret C hr hlk dX9_years_139 (by decide) (by decide) ⟨vy89, rfl, rfl, rfl, by omega, hrecy90, fun j j1 j2 => by exact f2 j j1 j2⟩)
            · rcases (show z2 = 0 ∨ z2 = 1 by omega) with rfl | rfl
              · refine z_lookup (off := 25) (tgt := 92) C dX9_years_67 (by decide) (by omega) (by decide) (by decide) ?_
                refine z_aload_n C 2 dX9_years_92 rfl ?_
                refine z_get (v := .ref (ad 890)) C (lt_K hN (rfl : Nat.blt (0) 952 = true)) hay48 ary47 rfl inA_X9 9 (by decide) q_358 rfl rfl dX9_years_93 ?_
                refine z_get (v := .int (zI (thcy66 4))) C (lt_K hN (rfl : Nat.blt (890) 952 = true)) hay55 hwhcy66.1 rfl inA_X8 4 (by decide) q_184 rfl rfl dX9_years_96 ?_
                refine z_aload_n C 2 dX9_years_99 rfl ?_
                refine z_get (v := .ref (ad 11)) C (lt_K hN (rfl : Nat.blt (0) 952 = true)) hay48 ary47 rfl inA_X9 5 (by decide) q_354 rfl rfl dX9_years_100 ?_
                refine z_get (v := .ref (ad (11 + 1))) C (lt_K hN (rfl : Nat.blt (11) 952 = true)) hay52 iry47.1 rfl inA_X6 0 (by decide) q_258 rfl rfl dX9_years_103 ?_
                refine z_get (v := .int (zI (uy77t 4))) C (lt_K hN (rfl : Nat.blt (11 + 1) 952 = true)) hay78 uy771 rfl inA_X8 4 (by decide) q_184 rfl rfl dX9_years_106 ?_
                refine z_isub C dX9_years_109 ?_
                obtain ⟨xy91, exy92, hxy93⟩ := zI_of (zI ((thcy66 4) - (uy77t 4)))
                rw [exy92]
                have hrecy94 : okRec cs ad g1 N (t) (fp) (im) (nz) (kz) (sl) (ho) (ua) (st) (op) (ai) (fa) (mu) (tb) (tp) := ⟨ary47, bry47, cry47, dry47, ery47, fry47, gry471, hry47, ⟨_, iry47⟩, ⟨_, jry47⟩, kry47, lry47, mry47, nry47, ory47, pry47⟩
                exact z_rX (z_iret C hr hlk dX9_years_110 (by decide) (by decide) ⟨xy91, rfl, rfl, rfl, by omega, hrecy94, fun j j1 j2 => by exact f2 j j1 j2⟩)
              · refine z_lookup (off := 44) (tgt := 111) C dX9_years_67 (by decide) (by omega) (by decide) (by decide) ?_
                refine z_aload_n C 2 dX9_years_111 rfl ?_
                refine z_get (v := .ref (ad 890)) C (lt_K hN (rfl : Nat.blt (0) 952 = true)) hay48 ary47 rfl inA_X9 9 (by decide) q_358 rfl rfl dX9_years_112 ?_
                refine z_get (v := .int (zI (thcy66 3))) C (lt_K hN (rfl : Nat.blt (890) 952 = true)) hay55 hwhcy66.1 rfl inA_X8 3 (by decide) q_182 rfl rfl dX9_years_115 ?_
                refine z_aload_n C 2 dX9_years_118 rfl ?_
                refine z_get (v := .ref (ad 11)) C (lt_K hN (rfl : Nat.blt (0) 952 = true)) hay48 ary47 rfl inA_X9 5 (by decide) q_354 rfl rfl dX9_years_119 ?_
                refine z_get (v := .ref (ad (11 + 1))) C (lt_K hN (rfl : Nat.blt (11) 952 = true)) hay52 iry47.1 rfl inA_X6 0 (by decide) q_258 rfl rfl dX9_years_122 ?_
                refine z_get (v := .int (zI (uy77t 3))) C (lt_K hN (rfl : Nat.blt (11 + 1) 952 = true)) hay78 uy771 rfl inA_X8 3 (by decide) q_182 rfl rfl dX9_years_125 ?_
                refine z_isub C dX9_years_128 ?_
                obtain ⟨xy95, exy96, hxy97⟩ := zI_of (zI ((thcy66 3) - (uy77t 3)))
                rw [exy96]
                have hrecy98 : okRec cs ad g1 N (t) (fp) (im) (nz) (kz) (sl) (ho) (ua) (st) (op) (ai) (fa) (mu) (tb) (tp) := ⟨ary47, bry47, cry47, dry47, ery47, fry47, gry471, hry47, ⟨_, iry47⟩, ⟨_, jry47⟩, kry47, lry47, mry47, nry47, ory47, pry47⟩
                exact z_rX (z_iret C hr hlk dX9_years_129 (by decide) (by decide) ⟨xy95, rfl, rfl, rfl, by omega, hrecy98, fun j j1 j2 => by exact f2 j j1 j2⟩)
          · refine z_aload_n C 2 dX9_years_52 rfl ?_
            refine z_iload C 1 dX9_years_53 rfl ?_
            have hrecy100 : okRec cs ad g1 N (t) (fp) (im) (nz) (kz) (sl) (ho) (ua) (st) (op) (ai) (fa) (mu) (tb) (tp) := ⟨ary47, bry47, cry47, dry47, ery47, fry47, gry471, hry47, ⟨_, iry47⟩, ⟨_, jry47⟩, kry47, lry47, mry47, nry47, ory47, pry47⟩
            refine z_cV (As := [.int (zI (dr))]) (rest := []) (ci := 11) C (c_X9_yearGoesBy l D A cs tt N ad _ hN _ _ _ _ _ _ _ _ _ _ _ _ _ _ _ hrecy100 (dr) (by omega)) (lt_K hN (rfl : Nat.blt (0) 952 = true)) hay48 ary47 rfl rfl mv_yX9_yearGoesBy q_1433 hd_yX9_yearGoesBy (by decide) (Nat.le_of_ble_eq_true rfl) (by decide) dX9_years_55 rfl (kI0 fun vy99 gvy99 hvy99 => ?_)
            obtain ⟨hrvy99, hkvy99, hfvy99⟩ := hvy99
            obtain ⟨ary101, bry101, cry101, dry101, ery101, fry101, gry1011, hry101, ⟨acry101, iry101⟩, ⟨kcry101, jry101⟩, kry101, lry101, mry101, nry101, ory101, pry101⟩ := id hkvy99
            obtain ⟨thcy102, zhcy102, ohcy102, rhcy102, hzhcy102, hthcy102, hwhcy102⟩ := id lry101
            obtain ⟨thcy103, zhcy103, ohcy103, rhcy103, hzhcy103, hthcy103, hwhcy103⟩ := id mry101
            obtain ⟨asy104, bsy104, csy104, dsy104, esy104, ⟨ptsy104, fsy104, gsy1041⟩, hsy104, ⟨nusy104, nvsy104, nwsy104, isy104, jsy104, ksy104, lsy104, msy104, nsy104⟩, rfsy104, osy104⟩ := id iry101
            obtain ⟨uy105t, uy105z, uy105o, uy105r, uy105z4, uy105t5, uy1051, ⟨uy105u, uy1052, uy1053⟩, uy1054⟩ := id csy104
            have hay106 : zAt ad (11 + 1) (ad (11 + 1)) := rfl
            have hay107 : zAt ad (11 + 1 + 1) (ad (11 + 1 + 1)) := rfl
            obtain ⟨sloy108, hooy108, uaoy108, stoy108, opoy108, aioy108, faoy108, muoy108, tboy108, hsloy108, hhooy108, hpoy108⟩ := id kry101
            refine z_istore (lv' := [(4, .int (zI (vy99))), (5, .int (zI (i))), (0, .ref (ad 0)), (1, .int (zI (z))), (2, .int (zI (z1))), (3, .int (zI (z2)))]) C dX9_years_58 (by decide) rfl ?_
            refine z_iinc (z := i + 1) (lv' := [(5, .int (zI (i + 1))), (4, .int (zI (vy99))), (0, .ref (ad 0)), (1, .int (zI (z))), (2, .int (zI (z1))), (3, .int (zI (z2)))]) (j := 1) C dX9_years_60 rfl rfl (by decide) rfl ?_
            refine z_goto (tgt := 46) C dX9_years_63 (by decide) ?_
            have hrecy109 : okRec cs ad gvy99 N (t) (fp) (im) (nz) (kz) (sl) (ho) (ua) (st) (op) (ai) (fa) (mu) (tb) (tp) := ⟨ary101, bry101, cry101, dry101, ery101, fry101, gry1011, hry101, ⟨_, iry101⟩, ⟨_, jry101⟩, kry101, lry101, mry101, nry101, ory101, pry101⟩
            refine z_lv (lv' := [(5, .int (zI (i + 1))), (4, .int (zI (vy99))), (0, .ref (ad 0)), (1, .int (zI (z))), (2, .int (zI (z1))), (3, .int (zI (z2)))]) [0, 1, 2, 3, 4, 5] rfl ?_
            exact ih_lp46 _ (by omega) (i + 1) (vy99) gvy99 rfl hrecy109 (fun j j1 j2 => by rw [hfvy99 _ (by omega) (by omega)]; exact f2 j j1 j2) (by omega) (by omega) (by omega) (by omega)
      have hgy110 := (hfvy44 (0) (by omega)).trans ary1
      have hgy111 := (hfvy44 (1) (by omega)).trans dry1
      have hpy112 := okState.mv (ad' := ad) (g' := gvy44) (fun j h1 h2 => by rfl) (fun j h1 h2 => by rw [hfvy44 _ (by omega)]) iry1
      have hpy113 := okRdr.mv (ad' := ad) (g' := gvy44) (fun j h1 h2 => by rfl) (fun j h1 h2 => by rw [hfvy44 _ (by omega)]) ery1
      have hpy114 := isPlan.mv (ad' := ad) (g' := gvy44) (fun j h1 h2 => by rfl) (fun j h1 h2 => by rw [hfvy44 _ (by omega)]) fry1
      have hpy115 := okState.mv (ad' := ad) (g' := gvy44) (fun j h1 h2 => by rfl) (fun j h1 h2 => by rw [hfvy44 _ (by omega)]) jry1
      have hpy116 := okPlan.mv (ad' := ad) (g' := gvy44) (fun j h1 h2 => by rfl) (fun j h1 h2 => by rw [hfvy44 _ (by omega)]) kry1
      have hpy117 := okGss.mv (ad' := ad) (g' := gvy44) (fun j h1 h2 => by rfl) (fun j h1 h2 => by rw [hfvy44 _ (by omega)]) nry1
      have hpy118 := okLike.mv (ad' := ad) (g' := gvy44) (fun j h1 h2 => by rfl) (fun j h1 h2 => by rw [hfvy44 _ (by omega)]) ory1
      have hpy119 := okBld.mv (ad' := ad) (g' := gvy44) (fun j h1 h2 => by rfl) (fun j h1 h2 => by rw [hfvy44 _ (by omega)]) pry1
      have hoky120 : okWorld cs ad gvy44 (900) := okWorld.mv (fun j j1 j2 => by rw [hfvy44 _ (by omega)]) mry1
      have hrecy121 : okRec cs ad gvy44 N (t) (fp) (im) (nz) (kz) (sl) (ho) (ua) (st) (op) (ai) (fa) (mu) (tb) (tp) := ⟨hgy110, bry1, cry1, hgy111, hpy113, hpy114, gry11, hry1, ⟨_, hpy112⟩, ⟨_, hpy115⟩, hpy116, hoky45, hoky120, hpy117, hpy118, hpy119⟩
      refine z_lv (lv' := [(5, .int (zI (0))), (4, .int (zI (z))), (0, .ref (ad 0)), (1, .int (zI (z))), (2, .int (zI (z1))), (3, .int (zI (z2)))]) [0, 1, 2, 3, 4, 5] rfl ?_
      exact lp46 _ (0) (z) gvy44 rfl hrecy121 (fun j j1 j2 => by rw [hfvy44 _ (by omega)]) (by omega) (by omega) (by omega) (by omega)
    · exact z_thrW (cls := eIA) (text := "years are 0 to 30") C hl0 (by decide +kernel) q_658 q_19 (by decide +kernel) at_IA gd_IA dX9_years_15 dX9_years_18 dX9_years_19 dX9_years_22 dX9_years_25 hxt (by decide) (Nat.le_of_ble_eq_true rfl) (by decide) (by decide) hlk (by decide) (by decide) ⟨Or.inr rfl, rfl, rfl, rfl⟩

