theorem okState.now2 {cs : Nat → ClassId} {ad : Nat → Nat} {g g' : Nat → va_E} {i : Nat} {ac nz : Int} (h : okState cs ad g i ac nz) (hG : ∀ j, i ≤ j → j < i + 436 → (j < i + 1 ∨ i + 11 ≤ j) → g' j = g j) (hw : okWorld cs ad g' (i + 1)) : okState cs ad g' i ac nz := by
  obtain ⟨h1, h2, h3, ⟨b, f, h4, h5⟩, h6, ⟨b2, h7, h8⟩, h9, h10, r, h11⟩ := h
  exact ⟨by rw [hG _ (by omega) (by omega) (by omega)]; exact h1, h2, hw, ⟨b, f, by rw [hG _ (by omega) (by omega) (by omega)]; exact h4, h5⟩, fun k hk => (h6 k hk).mv (fun j _ _ => hG j (by omega) (by omega) (by omega)), ⟨b2, by rw [hG _ (by omega) (by omega) (by omega)]; exact h7, h8⟩, fun k hk => (h9 k hk).mv (fun _ _ _ => rfl) (fun j _ _ => hG j (by omega) (by omega) (by omega)), h10.mv (fun _ _ _ => rfl) (fun j _ _ => hG j (by omega) (by omega) (by omega)), r, by rw [hG _ (by omega) (by omega) (by omega)]; exact h11⟩
abbrev okRdr (ad : Nat → Nat) (g : Nat → va_E) (i : Nat) : Prop := ∃ (x0 x1 x3 x4 x5 x6 x7 x8 : Int) (tx : Nat), g i = oC 9 [.int (zI x0), .int (zI x1), .ref tx, .int (zI x3), .int (zI x4), .int (zI x5), .int (zI x6), .int (zI x7), .int (zI x8)]
theorem okRdr.mv {ad ad' : Nat → Nat} {g g' : Nat → va_E} {i : Nat} (hA : ∀ j, i ≤ j → j < i + 1 → ad' j = ad j) (hG : ∀ j, i ≤ j → j < i + 1 → g' j = g j) (h : okRdr ad g i) : okRdr ad' g' i := by
  obtain ⟨x0, x1, x3, x4, x5, x6, x7, x8, tx, h⟩ := h
  exact ⟨x0, x1, x3, x4, x5, x6, x7, x8, tx, by rw [hG _ (by omega) (by omega)]; exact h⟩
abbrev okPlan (cs : Nat → ClassId) (ad : Nat → Nat) (g : Nat → va_E) (i : Nat) : Prop := ∃ (sl ho ua : Int) (st op ai fa mu tb : Nat → Int), (0 ≤ sl ∧ sl ≤ 4) ∧ (0 ≤ ho ∧ ho ≤ 24) ∧ isPlan cs ad g i sl ho ua st op ai fa mu tb
theorem okPlan.mv {cs : Nat → ClassId} {ad ad' : Nat → Nat} {g g' : Nat → va_E} {i : Nat} (hA : ∀ j, i ≤ j → j < i + 7 → ad' j = ad j) (hG : ∀ j, i ≤ j → j < i + 7 → g' j = g j) (h : okPlan cs ad g i) : okPlan cs ad' g' i := by
  obtain ⟨sl, ho, ua, st, op, ai, fa, mu, tb, h1, h2, h3⟩ := h
  exact ⟨sl, ho, ua, st, op, ai, fa, mu, tb, h1, h2, h3.mv hA hG⟩
/-- the builder: its bytes lie at the role that was made with it, or at one that came later -/
abbrev okBld (cs : Nat → ClassId) (ad : Nat → Nat) (g : Nat → va_E) (N : Nat) : Prop := ∃ (v cap : Nat) (ml cn : Int) (by' : Nat → Int), (v = 920 ∨ 952 ≤ v) ∧ v < N ∧ cap ≤ 1000 ∧ (0 ≤ cn ∧ cn ≤ (cap : Int)) ∧ ((0 ≤ ml ∧ ml ≤ 1) ∧ ∀ j, -128 ≤ by' j ∧ by' j ≤ 127) ∧ g 919 = oC 1 [.ref (ad v), .int (zI 0), .int (zI ml), .int (zI cn)] ∧ g v = bA cs cap by'
theorem okBld.mv {cs : Nat → ClassId} {ad ad' : Nat → Nat} {g g' : Nat → va_E} {N : Nat} (hA : ∀ j, 919 ≤ j → (j < 921 ∨ (952 ≤ j ∧ j < N)) → ad' j = ad j) (hG : ∀ j, 919 ≤ j → (j < 921 ∨ (952 ≤ j ∧ j < N)) → g' j = g j) (h : okBld cs ad g N) : okBld cs ad' g' N := by
  obtain ⟨v, cap, ml, cn, b, h1, h2, h3, h4, h5, h6, h7⟩ := h
  exact ⟨v, cap, ml, cn, b, h1, h2, h3, h4, h5, by rw [hG _ (by omega) (by omega), hA v (by omega) (by omega)]; exact h6, by rw [hG _ (by omega) (by omega)]; exact h7⟩
abbrev rcC (ad : Nat → Nat) (t fp im : Int) : va_E := oC 11 [.ref (ad 1), .int (zI t), .int (zI fp), .ref (ad 2), .ref (ad 4), .ref (ad 11), .ref (ad 447), .int (zI im), .ref (ad 883), .ref (ad 890), .ref (ad 900), .ref (ad 910), .ref (ad 917), .ref (ad 919)]
/-- the recorder at role 0: tape size t, fault place fp, imaged im, notes nz (kept kz), the plan -/
def okRec (cs : Nat → ClassId) (ad : Nat → Nat) (g : Nat → va_E) (N : Nat) (t fp im nz kz sl ho ua : Int) (st op ai fa mu tb tp : Nat → Int) : Prop :=
  g 0 = rcC ad t fp im ∧ (0 ≤ t ∧ t ≤ 900) ∧ (0 ≤ im ∧ im ≤ 1) ∧ g 1 = bA cs 900 tp ∧ okRdr ad g 2 ∧ isPlan cs ad g 4 sl ho ua st op ai fa mu tb ∧ (0 ≤ sl ∧ sl ≤ 4) ∧ (0 ≤ ho ∧ ho ≤ 24) ∧ (∃ ac : Int, okState cs ad g 11 ac nz) ∧ (∃ ac : Int, okState cs ad g 447 ac kz) ∧ okPlan cs ad g 883 ∧ okWorld cs ad g 890 ∧ okWorld cs ad g 900 ∧ okGss cs ad g 910 ∧ okLike cs ad g 917 ∧ okBld cs ad g N

abbrev oX (g g' : Nat → va_E) : Prop := ∀ j, 921 ≤ j → j < 952 → g' j = g j

set_option maxRecDepth 100000 in
set_option maxHeartbeats 4000000 in
theorem c_X9_isSlope (l : Launch) (D : va_G) (A : Nat → Prop) (cs : Nat → ClassId) (tt : Nat) (N : Nat) (ad : Nat → Nat) (g : Nat → va_E) (hN : 952 ≤ N) (t fp im nz kz sl ho ua : Int) (st op ai fa mu tb tp : Nat → Int) (hR : okRec cs ad g N t fp im nz kz sl ho ua st op ai fa mu tb tp) (z : Int) (hz : -2147483648 ≤ z ∧ z ≤ 2147483647) : zM l yX9_isSlope cX9_isSlope 2 (some .boolean) ({ frames := 1, cells := 0, slots := 0, locals := 60 } : Room) D A cs tt N ad g [.ref (ad 0), .int (zI (z))] (rI0 N ad fun r g' => (r = (if 0 ≤ z ∧ z < sl then 1 else 0)) ∧ g = g') := by
  obtain ⟨ary1, bry1, cry1, dry1, ery1, fry1, gry11, hry1, ⟨acry1, iry1⟩, ⟨kcry1, jry1⟩, kry1, lry1, mry1, nry1, ory1, pry1⟩ := id hR
  have hay2 : zAt ad (0) (ad 0) := rfl
  have hay3 : zAt ad (1) (ad 1) := rfl
  have hay4 : zAt ad (2) (ad 2) := rfl
  have hay5 : zAt ad (4) (ad 4) := rfl
  have hay6 : zAt ad (11) (ad 11) := rfl
  have hay7 : zAt ad (447) (ad 447) := rfl
  have hay8 : zAt ad (883) (ad 883) := rfl
  have hay9 : zAt ad (890) (ad 890) := rfl
  have hay10 : zAt ad (900) (ad 900) := rfl
  have hay11 : zAt ad (910) (ad 910) := rfl
  have hay12 : zAt ad (917) (ad 917) := rfl
  have hay13 : zAt ad (919) (ad 919) := rfl
  have hay14 : zAt ad (4 + 1) (ad (4 + 1)) := rfl
  have hay15 : zAt ad (4 + 2) (ad (4 + 2)) := rfl
  have hay16 : zAt ad (4 + 3) (ad (4 + 3)) := rfl
  have hay17 : zAt ad (4 + 4) (ad (4 + 4)) := rfl
  have hay18 : zAt ad (4 + 5) (ad (4 + 5)) := rfl
  have hay19 : zAt ad (4 + 6) (ad (4 + 6)) := rfl
  obtain ⟨thcy20, zhcy20, ohcy20, rhcy20, hzhcy20, hthcy20, hwhcy20⟩ := id lry1
  obtain ⟨thcy21, zhcy21, ohcy21, rhcy21, hzhcy21, hthcy21, hwhcy21⟩ := id mry1
  refine z_of (by decide) (Nat.le_of_ble_eq_true rfl) ?_
  intro p e s m below meth c C hr hlk hnm
  refine z_lv (lv' := [(0, .ref (ad 0)), (1, .int (zI (z)))]) [0, 1] rfl ?_
  refine z_iload_n C 1 dX9_isSlope_0 rfl ?_
  refine z_if_lt (tgt := 19) C dX9_isSlope_1 (by decide) (by omega) (fun hby22 => ?_) (fun hby22 => ?_)
  · refine z_iconst (z := 0) C dX9_isSlope_19 rfl ?_
    exact z_zret C hr hlk dX9_isSlope_20 (by decide) (by decide) (by decide) ⟨0, rfl, rfl, rfl, by rw [if_neg (by omega)], rfl⟩
  · refine z_iload_n C 1 dX9_isSlope_4 rfl ?_
    refine z_aload_n C 0 dX9_isSlope_5 rfl ?_
    refine z_get (v := .ref (ad 4)) C (lt_K hN (rfl : Nat.blt (0) 952 = true)) hay2 ary1 rfl inA_X9 4 (by decide) q_353 rfl rfl dX9_isSlope_6 ?_
    refine z_get (v := .int (zI (sl))) C (lt_K hN (rfl : Nat.blt (4) 952 = true)) hay5 fry1.1 rfl inA_X5 0 (by decide) q_90 rfl rfl dX9_isSlope_9 ?_
    refine z_icmp_ge (tgt := 19) C dX9_isSlope_12 (by decide) (by omega) (by omega) (fun hby23 => ?_) (fun hby23 => ?_)
    · refine z_iconst (z := 0) C dX9_isSlope_19 rfl ?_
      exact z_zret C hr hlk dX9_isSlope_20 (by decide) (by decide) (by decide) ⟨0, rfl, rfl, rfl, by rw [if_neg (by omega)], rfl⟩
    · refine z_iconst (z := 1) C dX9_isSlope_15 rfl ?_
      refine z_goto (tgt := 20) C dX9_isSlope_16 (by decide) ?_
      exact z_zret C hr hlk dX9_isSlope_20 (by decide) (by decide) (by decide) ⟨1, rfl, rfl, rfl, by rw [if_pos (by omega)], rfl⟩

set_option maxRecDepth 100000 in
set_option maxHeartbeats 4000000 in
theorem c_X9_needSlope (l : Launch) (D : va_G) (A : Nat → Prop) (cs : Nat → ClassId) (tt : Nat) (N : Nat) (ad : Nat → Nat) (g : Nat → va_E) (hN : 952 ≤ N) (t fp im nz kz sl ho ua : Int) (st op ai fa mu tb tp : Nat → Int) (hR : okRec cs ad g N t fp im nz kz sl ho ua st op ai fa mu tb tp) (hl0 : l.stackTraces = false) (z : Int) (hz : -2147483648 ≤ z ∧ z ≤ 2147483647) : zMX l yX9_needSlope cX9_needSlope 2 none ({ frames := 6, cells := 1, slots := 6, locals := 360 } : Room) D A cs tt N ad g [.ref (ad 0), .int (zI (z))] (rV0 N ad fun g' => (0 ≤ z ∧ z < sl) ∧ g = g') (fun E N' ad' g' => E = eNS ∧ N' = N ∧ ad' = ad ∧ g' = g) := by
  obtain ⟨ary1, bry1, cry1, dry1, ery1, fry1, gry11, hry1, ⟨acry1, iry1⟩, ⟨kcry1, jry1⟩, kry1, lry1, mry1, nry1, ory1, pry1⟩ := id hR
  have hay2 : zAt ad (0) (ad 0) := rfl
  have hay3 : zAt ad (1) (ad 1) := rfl
  have hay4 : zAt ad (2) (ad 2) := rfl
  have hay5 : zAt ad (4) (ad 4) := rfl
  have hay6 : zAt ad (11) (ad 11) := rfl
  have hay7 : zAt ad (447) (ad 447) := rfl
  have hay8 : zAt ad (883) (ad 883) := rfl
  have hay9 : zAt ad (890) (ad 890) := rfl
  have hay10 : zAt ad (900) (ad 900) := rfl
  have hay11 : zAt ad (910) (ad 910) := rfl
  have hay12 : zAt ad (917) (ad 917) := rfl
  have hay13 : zAt ad (919) (ad 919) := rfl
  have hay14 : zAt ad (4 + 1) (ad (4 + 1)) := rfl
  have hay15 : zAt ad (4 + 2) (ad (4 + 2)) := rfl
  have hay16 : zAt ad (4 + 3) (ad (4 + 3)) := rfl
  have hay17 : zAt ad (4 + 4) (ad (4 + 4)) := rfl
  have hay18 : zAt ad (4 + 5) (ad (4 + 5)) := rfl
  have hay19 : zAt ad (4 + 6) (ad (4 + 6)) := rfl
  obtain ⟨thcy20, zhcy20, ohcy20, rhcy20, hzhcy20, hthcy20, hwhcy20⟩ := id lry1
  obtain ⟨thcy21, zhcy21, ohcy21, rhcy21, hzhcy21, hthcy21, hwhcy21⟩ := id mry1
  refine z_ofX (by decide) (Nat.le_of_ble_eq_true rfl) ?_
  intro p e s m below meth c C hr hlk hxt
  refine z_lv (lv' := [(0, .ref (ad 0)), (1, .int (zI (z)))]) [0, 1] rfl ?_
  refine z_aload_n C 0 dX9_needSlope_0 rfl ?_
  refine z_iload_n C 1 dX9_needSlope_1 rfl ?_
  have hrecy23 : okRec cs ad g N (t) (fp) (im) (nz) (kz) (sl) (ho) (ua) (st) (op) (ai) (fa) (mu) (tb) (tp) := ⟨ary1, bry1, cry1, dry1, ery1, fry1, gry11, hry1, ⟨_, iry1⟩, ⟨_, jry1⟩, kry1, lry1, mry1, nry1, ory1, pry1⟩
  refine z_cV (As := [.int (zI (z))]) (rest := []) (ci := 11) C (c_X9_isSlope l D A cs tt N ad _ hN _ _ _ _ _ _ _ _ _ _ _ _ _ _ _ hrecy23 (z) (by omega)) (lt_K hN (rfl : Nat.blt (0) 952 = true)) hay2 ary1 rfl rfl mv_yX9_isSlope q_537 hd_yX9_isSlope (by decide) (Nat.le_of_ble_eq_true rfl) (by decide) dX9_needSlope_2 rfl (kI0 fun vy22 gvy22 hvy22 => ?_)
  obtain ⟨hvy22, rfl⟩ := hvy22
  have hbvy22 : (vy22 = 1 ∧ 0 ≤ z ∧ z < sl) ∨ (vy22 = 0 ∧ ¬ (0 ≤ z ∧ z < sl)) := by rw [hvy22]; by_cases e9 : 0 ≤ z ∧ z < sl; (rw [if_pos e9]; exact Or.inl ⟨rfl, e9⟩); (rw [if_neg e9]; exact Or.inr ⟨rfl, e9⟩)
  refine z_if_ne (tgt := 19) C dX9_needSlope_5 (by decide) (by omega) (fun hby24 => ?_) (fun hby24 => ?_)
  · exact z_rX (z_vret C hr hlk dX9_needSlope_19 (by decide) (by decide) ⟨rfl, rfl, rfl, by omega, rfl⟩)
  · exact z_thrNW (cls := eNS) (text := "no such slope") C hl0 (ix := 13) (rx := nsB) ns0 ns1 ns2 ns5 (by decide +kernel) q_904 q_24 (by decide +kernel) at_NS gd_NS dX9_needSlope_8 dX9_needSlope_11 dX9_needSlope_12 dX9_needSlope_15 dX9_needSlope_18 hxt (by decide) (Nat.le_of_ble_eq_true rfl) (by decide) (by decide) hlk (by decide) (by decide) ⟨rfl, rfl, rfl, rfl⟩

set_option maxRecDepth 100000 in
set_option maxHeartbeats 4000000 in
theorem c_X9_packOf (l : Launch) (D : va_G) (A : Nat → Prop) (cs : Nat → ClassId) (tt : Nat) (N : Nat) (ad : Nat → Nat) (g : Nat → va_E) (hN : 952 ≤ N) (t fp im nz kz sl ho ua : Int) (st op ai fa mu tb tp : Nat → Int) (hR : okRec cs ad g N t fp im nz kz sl ho ua st op ai fa mu tb tp) (hl0 : l.stackTraces = false) (z : Int) (hz : -2147483648 ≤ z ∧ z ≤ 2147483647) : zMX l yX9_packOf cX9_packOf 2 (some (.object "SnowRecorder$Pack")) ({ frames := 7, cells := 1, slots := 6, locals := 420 } : Room) D A cs tt N ad g [.ref (ad 0), .int (zI (z))] (rR0 N ad fun a g' => (0 ≤ z ∧ z < sl) ∧ a = ad (11 + 1 + 2 + 2 * (z).toNat) ∧ g = g') (fun E N' ad' g' => E = eNS ∧ N' = N ∧ ad' = ad ∧ g' = g) := by
  obtain ⟨ary1, bry1, cry1, dry1, ery1, fry1, gry11, hry1, ⟨acry1, iry1⟩, ⟨kcry1, jry1⟩, kry1, lry1, mry1, nry1, ory1, pry1⟩ := id hR
  have hay2 : zAt ad (0) (ad 0) := rfl
  have hay3 : zAt ad (1) (ad 1) := rfl
  have hay4 : zAt ad (2) (ad 2) := rfl
  have hay5 : zAt ad (4) (ad 4) := rfl
  have hay6 : zAt ad (11) (ad 11) := rfl
  have hay7 : zAt ad (447) (ad 447) := rfl
  have hay8 : zAt ad (883) (ad 883) := rfl
  have hay9 : zAt ad (890) (ad 890) := rfl
  have hay10 : zAt ad (900) (ad 900) := rfl
  have hay11 : zAt ad (910) (ad 910) := rfl
  have hay12 : zAt ad (917) (ad 917) := rfl
  have hay13 : zAt ad (919) (ad 919) := rfl
  have hay14 : zAt ad (4 + 1) (ad (4 + 1)) := rfl
  have hay15 : zAt ad (4 + 2) (ad (4 + 2)) := rfl
  have hay16 : zAt ad (4 + 3) (ad (4 + 3)) := rfl
  have hay17 : zAt ad (4 + 4) (ad (4 + 4)) := rfl
  have hay18 : zAt ad (4 + 5) (ad (4 + 5)) := rfl
  have hay19 : zAt ad (4 + 6) (ad (4 + 6)) := rfl
  obtain ⟨thcy20, zhcy20, ohcy20, rhcy20, hzhcy20, hthcy20, hwhcy20⟩ := id lry1
  obtain ⟨thcy21, zhcy21, ohcy21, rhcy21, hzhcy21, hthcy21, hwhcy21⟩ := id mry1
  obtain ⟨asy22, bsy22, csy22, dsy22, esy22, ⟨ptsy22, fsy22, gsy221⟩, hsy22, ⟨nusy22, nvsy22, nwsy22, isy22, jsy22, ksy22, lsy22, msy22, nsy22⟩, rfsy22, osy22⟩ := id iry1
  have hay23 : zAt ad (11 + 1) (ad (11 + 1)) := rfl
  have hay24 : zAt ad (11 + 11) (ad (11 + 11)) := rfl
  have hay25 : zAt ad (11 + 12) (ad (11 + 12)) := rfl
  have hay26 : zAt ad (11 + 13) (ad (11 + 13)) := rfl
  have hay27 : zAt ad (11 + 13 + 1) (ad (11 + 13 + 1)) := rfl
  have hay28 : zAt ad (11 + 13 + 2) (ad (11 + 13 + 2)) := rfl
  have hay29 : zAt ad (11 + 13 + 3) (ad (11 + 13 + 3)) := rfl
  have hay30 : zAt ad (11 + 17) (ad (11 + 17)) := rfl
  obtain ⟨uy31t, uy31z, uy31o, uy31r, uy31z4, uy31t5, uy311, ⟨uy31u, uy312, uy313⟩, uy314⟩ := id csy22
  have hay32 : zAt ad (11 + 1) (ad (11 + 1)) := rfl
  have hay33 : zAt ad (11 + 1 + 1) (ad (11 + 1 + 1)) := rfl
  refine z_ofX (by decide) (Nat.le_of_ble_eq_true rfl) ?_
  intro p e s m below meth c C hr hlk hxt
  refine z_lv (lv' := [(0, .ref (ad 0)), (1, .int (zI (z)))]) [0, 1] rfl ?_
  refine z_aload_n C 0 dX9_packOf_0 rfl ?_
  refine z_iload_n C 1 dX9_packOf_1 rfl ?_
  have hrecy35 : okRec cs ad g N (t) (fp) (im) (nz) (kz) (sl) (ho) (ua) (st) (op) (ai) (fa) (mu) (tb) (tp) := ⟨ary1, bry1, cry1, dry1, ery1, fry1, gry11, hry1, ⟨_, iry1⟩, ⟨_, jry1⟩, kry1, lry1, mry1, nry1, ory1, pry1⟩
  refine z_cVX (As := [.int (zI (z))]) (rest := []) (ci := 11) C (c_X9_needSlope l D A cs tt N ad _ hN _ _ _ _ _ _ _ _ _ _ _ _ _ _ _ hrecy35 hl0 (z) (by omega)) (lt_K hN (rfl : Nat.blt (0) 952 = true)) hay2 ary1 rfl rfl mv_yX9_needSlope q_940 hd_yX9_needSlope (by decide) (Nat.le_of_ble_eq_true rfl) (by decide) dX9_packOf_2 rfl (fun E N' ad' g' h => by obtain ⟨rfl, rfl, rfl, rfl⟩ := h; exact z_uout C hxt hlk (by decide) (by decide) ⟨rfl, rfl, rfl, rfl⟩) (kV0 fun gvy34 hvy34 => ?_)
  obtain ⟨hvy34, rfl⟩ := hvy34
  refine z_aload_n C 0 dX9_packOf_5 rfl ?_
  refine z_get (v := .ref (ad 11)) C (lt_K hN (rfl : Nat.blt (0) 952 = true)) hay2 ary1 rfl inA_X9 5 (by decide) q_354 rfl rfl dX9_packOf_6 ?_
  refine z_get (v := .ref (ad (11 + 1))) C (lt_K hN (rfl : Nat.blt (11) 952 = true)) hay6 iry1.1 rfl inA_X6 0 (by decide) q_258 rfl rfl dX9_packOf_9 ?_
  refine z_get (v := .ref (ad (11 + 1 + 1))) C (lt_K hN (rfl : Nat.blt (11 + 1) 952 = true)) hay32 uy311 rfl inA_X8 6 (by decide) q_191 rfl rfl dX9_packOf_12 ?_
  refine z_iload_n C 1 dX9_packOf_15 rfl ?_
  refine z_aald C (lt_K hN (rfl : Nat.blt (11 + 1 + 1) 952 = true)) hay33 uy312 3 rfl ((z).toNat) (by omega) (by omega) (by decide) (uy313 (z).toNat (by omega)) dX9_packOf_16 ?_
  have hay36 : zAt ad (11 + 1 + 2 + 2 * (z).toNat) (ad (11 + 1 + 2 + 2 * (z).toNat)) := rfl
  have hay37 : zAt ad (11 + 1 + 2 + 2 * (z).toNat + 1) (ad (11 + 1 + 2 + 2 * (z).toNat + 1)) := rfl
  have hpy38 := uy314 (z).toNat (by omega)
  have hqy39 := uy31z4 (z).toNat (by omega)
  exact z_rX (z_aret C hr (Or.inl ⟨_, rfl⟩) hlk dX9_packOf_17 (by decide) (by decide) ⟨_, rfl, rfl, rfl, by omega, rfl, rfl⟩)

set_option maxRecDepth 100000 in
set_option maxHeartbeats 4000000 in
theorem c_X9_needLayer (l : Launch) (D : va_G) (A : Nat → Prop) (cs : Nat → ClassId) (tt : Nat) (N : Nat) (ad : Nat → Nat) (g : Nat → va_E) (a : Nat) (hN : a + 2 ≤ N) (sz ro : Int) (r : Nat → Int) (hz : 0 ≤ sz ∧ sz ≤ 12) (ha : isPack cs ad g a sz ro r) (hl0 : l.stackTraces = false) (x : Nat) (z : Int) (hzz : -2147483648 ≤ z ∧ z ≤ 2147483647) : zMX l yX9_needLayer cX9_needLayer 3 none ({ frames := 6, cells := 1, slots := 6, locals := 360 } : Room) D A cs tt N ad g [.ref x, .ref (ad a), .int (zI (z))] (rV0 N ad fun g' => (0 ≤ z ∧ z < sz) ∧ g = g') (fun E N' ad' g' => E = eNS ∧ N' = N ∧ ad' = ad ∧ g' = g) := by
  have hay1 : zAt ad (a) (ad a) := rfl
  have hay2 : zAt ad (a + 1) (ad (a + 1)) := rfl
  refine z_ofX (by decide) (Nat.le_of_ble_eq_true rfl) ?_
  intro p e s m below meth c C hr hlk hxt
  refine z_lv (lv' := [(0, .ref x), (1, .ref (ad a)), (2, .int (zI (z)))]) [0, 1, 2] rfl ?_
  refine z_iload_n C 2 dX9_needLayer_0 rfl ?_
  refine z_if_lt (tgt := 12) C dX9_needLayer_1 (by decide) (by omega) (fun hby3 => ?_) (fun hby3 => ?_)
  · exact z_thrNW (cls := eNS) (text := "no such layer") C hl0 (ix := 13) (rx := nsB) ns0 ns1 ns2 ns5 (by decide +kernel) q_904 q_24 (by decide +kernel) at_NS gd_NS dX9_needLayer_12 dX9_needLayer_15 dX9_needLayer_16 dX9_needLayer_19 dX9_needLayer_22 hxt (by decide) (Nat.le_of_ble_eq_true rfl) (by decide) (by decide) hlk (by decide) (by decide) ⟨rfl, rfl, rfl, rfl⟩
  · refine z_iload_n C 2 dX9_needLayer_4 rfl ?_
    refine z_aload_n C 1 dX9_needLayer_5 rfl ?_
    refine z_get (v := .int (zI (sz))) C (lt_A0 hN rfl) hay1 ha.1 rfl inA_X3 0 (by decide) q_158 rfl rfl dX9_needLayer_6 ?_
    refine z_icmp_lt (tgt := 23) C dX9_needLayer_9 (by decide) (by omega) (by omega) (fun hby4 => ?_) (fun hby4 => ?_)
    · exact z_rX (z_vret C hr hlk dX9_needLayer_23 (by decide) (by decide) ⟨rfl, rfl, rfl, by omega, rfl⟩)
    · exact z_thrNW (cls := eNS) (text := "no such layer") C hl0 (ix := 13) (rx := nsB) ns0 ns1 ns2 ns5 (by decide +kernel) q_904 q_24 (by decide +kernel) at_NS gd_NS dX9_needLayer_12 dX9_needLayer_15 dX9_needLayer_16 dX9_needLayer_19 dX9_needLayer_22 hxt (by decide) (Nat.le_of_ble_eq_true rfl) (by decide) (by decide) hlk (by decide) (by decide) ⟨rfl, rfl, rfl, rfl⟩

set_option maxRecDepth 100000 in
set_option maxHeartbeats 4000000 in
theorem c_X9_needPit (l : Launch) (D : va_G) (A : Nat → Prop) (cs : Nat → ClassId) (tt : Nat) (N : Nat) (ad : Nat → Nat) (g : Nat → va_E) (hN : 952 ≤ N) (t fp im nz kz sl ho ua : Int) (st op ai fa mu tb tp : Nat → Int) (hR : okRec cs ad g N t fp im nz kz sl ho ua st op ai fa mu tb tp) (hl0 : l.stackTraces = false) (z : Int) (hz : -2147483648 ≤ z ∧ z ≤ 2147483647) : zMX l yX9_needPit cX9_needPit 2 none ({ frames := 6, cells := 1, slots := 6, locals := 360 } : Room) D A cs tt N ad g [.ref (ad 0), .int (zI (z))] (rV0 N ad fun g' => (0 ≤ z ∧ z ≤ 5) ∧ g = g') (fun E N' ad' g' => E = eNS ∧ N' = N ∧ ad' = ad ∧ g' = g) := by
  obtain ⟨ary1, bry1, cry1, dry1, ery1, fry1, gry11, hry1, ⟨acry1, iry1⟩, ⟨kcry1, jry1⟩, kry1, lry1, mry1, nry1, ory1, pry1⟩ := id hR
  have hay2 : zAt ad (0) (ad 0) := rfl
  have hay3 : zAt ad (1) (ad 1) := rfl
  have hay4 : zAt ad (2) (ad 2) := rfl
  have hay5 : zAt ad (4) (ad 4) := rfl
  have hay6 : zAt ad (11) (ad 11) := rfl
  have hay7 : zAt ad (447) (ad 447) := rfl
  have hay8 : zAt ad (883) (ad 883) := rfl
  have hay9 : zAt ad (890) (ad 890) := rfl
  have hay10 : zAt ad (900) (ad 900) := rfl
  have hay11 : zAt ad (910) (ad 910) := rfl
  have hay12 : zAt ad (917) (ad 917) := rfl
  have hay13 : zAt ad (919) (ad 919) := rfl
  have hay14 : zAt ad (4 + 1) (ad (4 + 1)) := rfl
  have hay15 : zAt ad (4 + 2) (ad (4 + 2)) := rfl
  have hay16 : zAt ad (4 + 3) (ad (4 + 3)) := rfl
  have hay17 : zAt ad (4 + 4) (ad (4 + 4)) := rfl
  have hay18 : zAt ad (4 + 5) (ad (4 + 5)) := rfl
  have hay19 : zAt ad (4 + 6) (ad (4 + 6)) := rfl
  obtain ⟨thcy20, zhcy20, ohcy20, rhcy20, hzhcy20, hthcy20, hwhcy20⟩ := id lry1
  obtain ⟨thcy21, zhcy21, ohcy21, rhcy21, hzhcy21, hthcy21, hwhcy21⟩ := id mry1
  obtain ⟨asy22, bsy22, csy22, dsy22, esy22, ⟨ptsy22, fsy22, gsy221⟩, hsy22, ⟨nusy22, nvsy22, nwsy22, isy22, jsy22, ksy22, lsy22, msy22, nsy22⟩, rfsy22, osy22⟩ := id iry1
  have hay23 : zAt ad (11 + 1) (ad (11 + 1)) := rfl
  have hay24 : zAt ad (11 + 11) (ad (11 + 11)) := rfl
  have hay25 : zAt ad (11 + 12) (ad (11 + 12)) := rfl
  have hay26 : zAt ad (11 + 13) (ad (11 + 13)) := rfl
  have hay27 : zAt ad (11 + 13 + 1) (ad (11 + 13 + 1)) := rfl
  have hay28 : zAt ad (11 + 13 + 2) (ad (11 + 13 + 2)) := rfl
  have hay29 : zAt ad (11 + 13 + 3) (ad (11 + 13 + 3)) := rfl
  have hay30 : zAt ad (11 + 17) (ad (11 + 17)) := rfl
  obtain ⟨uy31t, uy31z, uy31o, uy31r, uy31z4, uy31t5, uy311, ⟨uy31u, uy312, uy313⟩, uy314⟩ := id csy22
  have hay32 : zAt ad (11 + 1) (ad (11 + 1)) := rfl
  have hay33 : zAt ad (11 + 1 + 1) (ad (11 + 1 + 1)) := rfl
  refine z_ofX (by decide) (Nat.le_of_ble_eq_true rfl) ?_
  intro p e s m below meth c C hr hlk hxt
  refine z_lv (lv' := [(0, .ref (ad 0)), (1, .int (zI (z)))]) [0, 1] rfl ?_
  refine z_iload_n C 1 dX9_needPit_0 rfl ?_
  refine z_if_lt (tgt := 18) C dX9_needPit_1 (by decide) (by omega) (fun hby34 => ?_) (fun hby34 => ?_)
  · exact z_thrNW (cls := eNS) (text := "no such pit") C hl0 (ix := 13) (rx := nsB) ns0 ns1 ns2 ns5 (by decide +kernel) q_904 q_24 (by decide +kernel) at_NS gd_NS dX9_needPit_18 dX9_needPit_21 dX9_needPit_22 dX9_needPit_25 dX9_needPit_28 hxt (by decide) (Nat.le_of_ble_eq_true rfl) (by decide) (by decide) hlk (by decide) (by decide) ⟨rfl, rfl, rfl, rfl⟩
  · refine z_iload_n C 1 dX9_needPit_4 rfl ?_
    refine z_aload_n C 0 dX9_needPit_5 rfl ?_
    refine z_get (v := .ref (ad 11)) C (lt_K hN (rfl : Nat.blt (0) 952 = true)) hay2 ary1 rfl inA_X9 5 (by decide) q_354 rfl rfl dX9_needPit_6 ?_
    refine z_get (v := .ref (ad (11 + 1))) C (lt_K hN (rfl : Nat.blt (11) 952 = true)) hay6 iry1.1 rfl inA_X6 0 (by decide) q_258 rfl rfl dX9_needPit_9 ?_
    refine z_get (v := .int (zI (uy31t 5))) C (lt_K hN (rfl : Nat.blt (11 + 1) 952 = true)) hay32 uy311 rfl inA_X8 5 (by decide) q_186 rfl rfl dX9_needPit_12 ?_
    refine z_icmp_lt (tgt := 29) C dX9_needPit_15 (by decide) (by omega) (by omega) (fun hby35 => ?_) (fun hby35 => ?_)
    · exact z_rX (z_vret C hr hlk dX9_needPit_29 (by decide) (by decide) ⟨rfl, rfl, rfl, by omega, rfl⟩)
    · exact z_thrNW (cls := eNS) (text := "no such pit") C hl0 (ix := 13) (rx := nsB) ns0 ns1 ns2 ns5 (by decide +kernel) q_904 q_24 (by decide +kernel) at_NS gd_NS dX9_needPit_18 dX9_needPit_21 dX9_needPit_22 dX9_needPit_25 dX9_needPit_28 hxt (by decide) (Nat.le_of_ble_eq_true rfl) (by decide) (by decide) hlk (by decide) (by decide) ⟨rfl, rfl, rfl, rfl⟩

set_option maxRecDepth 100000 in
set_option maxHeartbeats 4000000 in
theorem c_X9_needWhat (l : Launch) (D : va_G) (A : Nat → Prop) (cs : Nat → ClassId) (tt : Nat) (N : Nat) (ad : Nat → Nat) (g : Nat → va_E) (hl0 : l.stackTraces = false) (z : Int) (hz : -2147483648 ≤ z ∧ z ≤ 2147483647) (w : Int) (hw : -2147483648 ≤ w ∧ w ≤ 2147483647) : zMX l yX9_needWhat cX9_needWhat 2 none ({ frames := 6, cells := 1, slots := 6, locals := 360 } : Room) D A cs tt N ad g [.int (zI (z)), .int (zI (w))] (rV0 N ad fun g' => (0 ≤ z ∧ z ≤ w) ∧ g = g') (fun E N' ad' g' => (E = eNS ∧ ¬ (0 ≤ z ∧ z ≤ w)) ∧ N' = N ∧ ad' = ad ∧ g' = g) := by
  refine z_ofX (by decide) (Nat.le_of_ble_eq_true rfl) ?_
  intro p e s m below meth c C hr hlk hxt
  refine z_lv (lv' := [(0, .int (zI (z))), (1, .int (zI (w)))]) [0, 1] rfl ?_
  refine z_iload_n C 0 dX9_needWhat_0 rfl ?_
  refine z_if_lt (tgt := 9) C dX9_needWhat_1 (by decide) (by omega) (fun hby1 => ?_) (fun hby1 => ?_)
  · exact z_thrNW (cls := eNS) (text := "no such thing to ask") C hl0 (ix := 13) (rx := nsB) ns0 ns1 ns2 ns5 (by decide +kernel) q_904 q_24 (by decide +kernel) at_NS gd_NS dX9_needWhat_9 dX9_needWhat_12 dX9_needWhat_13 dX9_needWhat_16 dX9_needWhat_19 hxt (by decide) (Nat.le_of_ble_eq_true rfl) (by decide) (by decide) hlk (by decide) (by decide) ⟨⟨rfl, by omega⟩, rfl, rfl, rfl⟩
  · refine z_iload_n C 0 dX9_needWhat_4 rfl ?_
    refine z_iload_n C 1 dX9_needWhat_5 rfl ?_
    refine z_icmp_le (tgt := 20) C dX9_needWhat_6 (by decide) (by omega) (by omega) (fun hby2 => ?_) (fun hby2 => ?_)
    · exact z_rX (z_vret C hr hlk dX9_needWhat_20 (by decide) (by decide) ⟨rfl, rfl, rfl, by omega, rfl⟩)
    · exact z_thrNW (cls := eNS) (text := "no such thing to ask") C hl0 (ix := 13) (rx := nsB) ns0 ns1 ns2 ns5 (by decide +kernel) q_904 q_24 (by decide +kernel) at_NS gd_NS dX9_needWhat_9 dX9_needWhat_12 dX9_needWhat_13 dX9_needWhat_16 dX9_needWhat_19 hxt (by decide) (Nat.le_of_ble_eq_true rfl) (by decide) (by decide) hlk (by decide) (by decide) ⟨⟨rfl, by omega⟩, rfl, rfl, rfl⟩

set_option maxRecDepth 100000 in
set_option maxHeartbeats 4000000 in
theorem c_X9_needHours (l : Launch) (D : va_G) (A : Nat → Prop) (cs : Nat → ClassId) (tt : Nat) (N : Nat) (ad : Nat → Nat) (g : Nat → va_E) (hl0 : l.stackTraces = false) (z : Int) (hz : -2147483648 ≤ z ∧ z ≤ 2147483647) (lo : Int) (hlo : -2147483648 ≤ lo ∧ lo ≤ 2147483647) (hi : Int) (hhi : -2147483648 ≤ hi ∧ hi ≤ 2147483647) : zMX l yX9_needHours cX9_needHours 3 none ({ frames := 6, cells := 1, slots := 6, locals := 360 } : Room) D A cs tt N ad g [.int (zI (z)), .int (zI (lo)), .int (zI (hi))] (rV0 N ad fun g' => (lo ≤ z ∧ z ≤ hi) ∧ g = g') (fun E N' ad' g' => (E = eIA ∧ ¬ (lo ≤ z ∧ z ≤ hi)) ∧ N' = N ∧ ad' = ad ∧ g' = g) := by
  refine z_ofX (by decide) (Nat.le_of_ble_eq_true rfl) ?_
  intro p e s m below meth c C hr hlk hxt
  refine z_lv (lv' := [(0, .int (zI (z))), (1, .int (zI (lo))), (2, .int (zI (hi)))]) [0, 1, 2] rfl ?_
  refine z_iload_n C 0 dX9_needHours_0 rfl ?_
  refine z_iload_n C 1 dX9_needHours_1 rfl ?_
  refine z_icmp_lt (tgt := 10) C dX9_needHours_2 (by decide) (by omega) (by omega) (fun hby1 => ?_) (fun hby1 => ?_)
  · exact z_thrW (cls := eIA) (text := "not so many hours") C hl0 (by decide +kernel) q_658 q_19 (by decide +kernel) at_IA gd_IA dX9_needHours_10 dX9_needHours_13 dX9_needHours_14 dX9_needHours_17 dX9_needHours_20 hxt (by decide) (Nat.le_of_ble_eq_true rfl) (by decide) (by decide) hlk (by decide) (by decide) ⟨⟨rfl, by omega⟩, rfl, rfl, rfl⟩
  · refine z_iload_n C 0 dX9_needHours_5 rfl ?_
    refine z_iload_n C 2 dX9_needHours_6 rfl ?_
    refine z_icmp_le (tgt := 21) C dX9_needHours_7 (by decide) (by omega) (by omega) (fun hby2 => ?_) (fun hby2 => ?_)
    · exact z_rX (z_vret C hr hlk dX9_needHours_21 (by decide) (by decide) ⟨rfl, rfl, rfl, by omega, rfl⟩)
    · exact z_thrW (cls := eIA) (text := "not so many hours") C hl0 (by decide +kernel) q_658 q_19 (by decide +kernel) at_IA gd_IA dX9_needHours_10 dX9_needHours_13 dX9_needHours_14 dX9_needHours_17 dX9_needHours_20 hxt (by decide) (Nat.le_of_ble_eq_true rfl) (by decide) (by decide) hlk (by decide) (by decide) ⟨⟨rfl, by omega⟩, rfl, rfl, rfl⟩

set_option maxRecDepth 100000 in
set_option maxHeartbeats 4000000 in
theorem c_X9_extraOf (l : Launch) (D : va_G) (A : Nat → Prop) (cs : Nat → ClassId) (tt : Nat) (N : Nat) (ad : Nat → Nat) (g : Nat → va_E) (z : Int) (hz : -2147483648 ≤ z ∧ z ≤ 2147483647) : zM l yX9_extraOf cX9_extraOf 4 (some .int) ({ frames := 2, cells := 0, slots := 0, locals := 120 } : Room) D A cs tt N ad g [.int (zI (z))] (rI0 N ad fun r g' => (-2147483648 ≤ r ∧ r ≤ 2147483647) ∧ g = g') := by
  refine z_of (by decide) (Nat.le_of_ble_eq_true rfl) ?_
  intro p e s m below meth c C hr hlk hnm
  refine z_lv (lv' := [(0, .int (zI (z)))]) [0] rfl ?_
  refine z_iload_n C 0 dX9_extraOf_0 rfl ?_
  refine z_bipush (z := 10) C dX9_extraOf_1 (by decide) ?_
  refine z_mmin C q_1266 q_473 q_20 q_474 (by omega) (by omega) (by decide) (Nat.le_of_ble_eq_true rfl) (by decide) (by decide) dX9_extraOf_3 ?_
  obtain ⟨xy1, exy2, hxy3⟩ := mm_min (z) (10)
  rw [exy2]
  refine z_istore_n (lv' := [(1, .int (zI (xy1))), (0, .int (zI (z)))]) C dX9_extraOf_6 rfl (by decide) rfl ?_
  refine z_iload_n C 1 dX9_extraOf_7 rfl ?_
  refine z_iload_n C 0 dX9_extraOf_8 rfl ?_
  refine z_isub C dX9_extraOf_9 ?_
  refine z_bipush (z := 10) C dX9_extraOf_10 (by decide) ?_
  obtain ⟨xy4, exy5, hxy6⟩ := zI_of (zI (z - xy1))
  rw [exy5]
  refine z_mmin C q_1266 q_473 q_20 q_474 (by omega) (by omega) (by decide) (Nat.le_of_ble_eq_true rfl) (by decide) (by decide) dX9_extraOf_12 ?_
  obtain ⟨xy7, exy8, hxy9⟩ := mm_min (xy4) (10)
  rw [exy8]
  refine z_istore_n (lv' := [(2, .int (zI (xy7))), (1, .int (zI (xy1))), (0, .int (zI (z)))]) C dX9_extraOf_15 rfl (by decide) rfl ?_
  refine z_iload_n C 2 dX9_extraOf_16 rfl ?_
  refine z_iload_n C 1 dX9_extraOf_17 rfl ?_
  refine z_isub C dX9_extraOf_18 ?_
  refine z_iload_n C 0 dX9_extraOf_19 rfl ?_
  refine z_isub C dX9_extraOf_20 ?_
  refine z_istore_n (lv' := [(3, .int (zI ((z - xy1) - xy7))), (2, .int (zI (xy7))), (1, .int (zI (xy1))), (0, .int (zI (z)))]) C dX9_extraOf_21 rfl (by decide) rfl ?_
  refine z_iload_n C 2 dX9_extraOf_22 rfl ?_
  refine z_iconst (z := 2) C dX9_extraOf_23 rfl ?_
  refine z_iload_n C 1 dX9_extraOf_24 rfl ?_
  refine z_imul C dX9_extraOf_25 ?_
  refine z_iadd C dX9_extraOf_26 ?_
  refine z_iconst (z := 4) C dX9_extraOf_27 rfl ?_
  refine z_iload_n C 0 dX9_extraOf_28 rfl ?_
  refine z_imul C dX9_extraOf_29 ?_
  refine z_iadd C dX9_extraOf_30 ?_
  obtain ⟨xy10, exy11, hxy12⟩ := zI_of (zI ((xy1 + (2 * xy7)) + (4 * ((z - xy1) - xy7))))
  rw [exy11]
  exact z_iret C hr hlk dX9_extraOf_31 (by decide) (by decide) ⟨xy10, rfl, rfl, rfl, by omega, rfl⟩

set_option maxRecDepth 100000 in
set_option maxHeartbeats 4000000 in
theorem c_X9_nextSeed (l : Launch) (D : va_G) (A : Nat → Prop) (cs : Nat → ClassId) (tt : Nat) (N : Nat) (ad : Nat → Nat) (g : Nat → va_E) (z : Int) (hz : -2147483648 ≤ z ∧ z ≤ 2147483647) : zM l yX9_nextSeed cX9_nextSeed 1 (some .int) ({ frames := 1, cells := 0, slots := 0, locals := 60 } : Room) D A cs tt N ad g [.int (zI (z))] (rI0 N ad fun r g' => (-2147483648 ≤ r ∧ r ≤ 2147483647) ∧ g = g') := by
  refine z_of (by decide) (Nat.le_of_ble_eq_true rfl) ?_
  intro p e s m below meth c C hr hlk hnm
  refine z_lv (lv' := [(0, .int (zI (z)))]) [0] rfl ?_
  refine z_iload_n C 0 dX9_nextSeed_0 rfl ?_
  refine z_ldcw (z := 1103515245) C dX9_nextSeed_1 q_1440 (by decide) ?_
  refine z_imul C dX9_nextSeed_4 ?_
  refine z_sipush (z := 12345) C dX9_nextSeed_5 (by decide) ?_
  refine z_iadd C dX9_nextSeed_8 ?_
  obtain ⟨xy1, exy2, hxy3⟩ := zI_of (zI ((z * 1103515245) + 12345))
  rw [exy2]
  exact z_iret C hr hlk dX9_nextSeed_9 (by decide) (by decide) ⟨xy1, rfl, rfl, rfl, by omega, rfl⟩

