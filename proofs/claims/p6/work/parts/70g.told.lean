theorem okRec.grow {cs : Nat → ClassId} {ad ad' : Nat → Nat} {g g' : Nat → va_E} {N N' : Nat} {t fp im nz kz sl ho ua : Int} {st op ai fa mu tb tp : Nat → Int} {cn cp : Int} (hN : 952 ≤ N) (h : okRec cs ad g N t fp im nz kz sl ho ua st op ai fa mu tb tp) (hg : GR N ad g N' ad' g') (hB : bldC cs ad' g' N' cn cp) : okRec cs ad' g' N' t fp im nz kz sl ho ua st op ai fa mu tb tp := by
  obtain ⟨a1, a2, a3, a4, a5, a6, a7, a8, ⟨ac, a9⟩, ⟨kc, a10⟩, a11, a12, a13, a14, a15, a16⟩ := h
  obtain ⟨h1, h2, h3⟩ := hg
  obtain ⟨v, cap, ml, b, b1, b2, b3, b4, b5, b6, b7, b8, b9⟩ := hB
  have hA : ∀ j, j < 919 → ad' j = ad j := fun j hj => h2 j (by omega)
  have hG : ∀ j, j < 919 → g' j = g j := fun j hj => h3 j (by omega) (by omega) (by omega)
  refine ⟨?_, a2, a3, by rw [hG 1 (by omega)]; exact a4, a5.mv (fun j _ _ => hA j (by omega)) (fun j _ _ => hG j (by omega)), a6.mv (fun j _ _ => hA j (by omega)) (fun j _ _ => hG j (by omega)), a7, a8, ⟨ac, a9.mv (fun j _ _ => hA j (by omega)) (fun j _ _ => hG j (by omega))⟩, ⟨kc, a10.mv (fun j _ _ => hA j (by omega)) (fun j _ _ => hG j (by omega))⟩, a11.mv (fun j _ _ => hA j (by omega)) (fun j _ _ => hG j (by omega)), a12.mv2 (fun j _ _ => hA j (by omega)) (fun j _ _ => hG j (by omega)), a13.mv2 (fun j _ _ => hA j (by omega)) (fun j _ _ => hG j (by omega)), a14.mv (fun j _ _ => hA j (by omega)) (fun j _ _ => hG j (by omega)), a15.mv (fun j _ _ => hA j (by omega)) (fun j _ _ => hG j (by omega)), v, cap, ml, cn, b, b1, b2, b3, b5, ⟨b6, b7⟩, b8, b9⟩
  rw [hG 0 (by omega), a1]
  show rcC ad t fp im = rcC ad' t fp im
  unfold rcC
  rw [hA 1 (by omega), hA 2 (by omega), hA 4 (by omega), hA 11 (by omega), hA 447 (by omega), hA 883 (by omega), hA 890 (by omega), hA 900 (by omega), hA 910 (by omega), hA 917 (by omega), h2 919 (by omega)]
theorem okRec.bld {cs : Nat → ClassId} {ad : Nat → Nat} {g : Nat → va_E} {N : Nat} {t fp im nz kz sl ho ua : Int} {st op ai fa mu tb tp : Nat → Int} (h : okRec cs ad g N t fp im nz kz sl ho ua st op ai fa mu tb tp) : ∃ cn : Int, bldC cs ad g N cn 0 := by
  obtain ⟨_, _, _, _, _, _, _, _, _, _, _, _, _, _, _, v, cap, ml, cn, b, b1, b2, b3, b4, ⟨b5, b6⟩, b7, b8⟩ := h
  exact ⟨cn, v, cap, ml, b, b1, b2, b3, by omega, b4, b5, b6, b7, b8⟩

set_option maxRecDepth 100000 in
set_option maxHeartbeats 4000000 in
theorem c_bLen (l : Launch) (D : va_G) (A : Nat → Prop) (cs : Nat → ClassId) (tt : Nat) (N : Nat) (ad : Nat → Nat) (g : Nat → va_E) (hN : 952 ≤ N) (cn cp : Int) (hB : bldC cs ad g N cn cp) (b9 : Nat) (hb9 : zAt ad 919 b9) : zM l yJ5_length_8abf5 cJ5_length_8abf5 1 (some .int) ({ frames := 1, cells := 0, slots := 0, locals := 60 } : Room) D A cs tt N ad g [.ref b9] (rI0 N ad fun r g' => r = cn ∧ g = g') := by
  obtain ⟨v_y1, cap_y1, ml_y1, b_y1, hv_y1, hvN_y1, hcap_y1, hcp_y1, hcn_y1, hml_y1, hby_y1, h9_y1, hgv_y1⟩ := id hB
  have hay2 : zAt ad (v_y1) (ad v_y1) := rfl
  refine z_of (by decide) (Nat.le_of_ble_eq_true rfl) ?_
  intro p e s m below meth c C hr hlk hnm
  refine z_lv (lv' := [(0, .ref b9)]) [0] rfl ?_
  refine z_aload_n C 0 dJ5_length_8abf5_0 rfl ?_
  refine z_get (v := .int (zI (cn))) C (lt_K hN (rfl : Nat.blt (919) 952 = true)) hb9 h9_y1 rfl inA_J4 3 (by decide) q_339 rfl rfl dJ5_length_8abf5_1 ?_
  exact z_iret C hr hlk dJ5_length_8abf5_4 (by decide) (by decide) ⟨_, rfl, rfl, rfl, rfl, rfl⟩

set_option maxRecDepth 100000 in
set_option maxHeartbeats 4000000 in
theorem c_sbLen (l : Launch) (D : va_G) (A : Nat → Prop) (cs : Nat → ClassId) (tt : Nat) (N : Nat) (ad : Nat → Nat) (g : Nat → va_E) (hN : 952 ≤ N) (cn cp : Int) (hB : bldC cs ad g N cn cp) (b9 : Nat) (hb9 : zAt ad 919 b9) : zM l yJ4_length_8abf5 cJ4_length_8abf5 1 (some .int) ({ frames := 2, cells := 0, slots := 0, locals := 120 } : Room) D A cs tt N ad g [.ref b9] (rI0 N ad fun r g' => r = cn ∧ g = g') := by
  obtain ⟨v_y1, cap_y1, ml_y1, b_y1, hv_y1, hvN_y1, hcap_y1, hcp_y1, hcn_y1, hml_y1, hby_y1, h9_y1, hgv_y1⟩ := id hB
  have hay2 : zAt ad (v_y1) (ad v_y1) := rfl
  refine z_of (by decide) (Nat.le_of_ble_eq_true rfl) ?_
  intro p e s m below meth c C hr hlk hnm
  refine z_lv (lv' := [(0, .ref b9)]) [0] rfl ?_
  refine z_aload_n C 0 dJ4_length_8abf5_0 rfl ?_
  have hBy3 : bldC cs ad g (N) (cn) ((cap_y1 : Int)) := ⟨v_y1, cap_y1, ml_y1, b_y1, by omega, by omega, by omega, by omega, by omega, by omega, hby_y1, h9_y1, hgv_y1⟩
  refine z_cSU (As := []) (rest := []) (ci := 1) C (c_bLen l D A cs tt N ad _ (by omega) _ _ hBy3 _ hb9) (lt_K hN (rfl : Nat.blt (919) 952 = true)) hb9 h9_y1 rfl q_1142 q_1138 q_348 q_1137 q_11 q_1143 (by decide) hd_yJ5_length_8abf5 (by decide) (Nat.le_of_ble_eq_true rfl) (by decide) dJ4_length_8abf5_1 rfl (kI0 fun vy4 gvy4 hvy4 => ?_)
  obtain ⟨rfl, rfl⟩ := hvy4
  exact z_iret C hr hlk dJ4_length_8abf5_4 (by decide) (by decide) ⟨_, rfl, rfl, rfl, rfl, rfl⟩

set_option maxRecDepth 100000 in
set_option maxHeartbeats 4000000 in
theorem c_sbSetLen (l : Launch) (D : va_G) (A : Nat → Prop) (cs : Nat → ClassId) (tt : Nat) (N : Nat) (ad : Nat → Nat) (g : Nat → va_E) (hN : 952 ≤ N) (cn cp : Int) (hB : bldC cs ad g N cn cp) (b9 : Nat) (hb9 : zAt ad 919 b9) : zM l yJ4_setLength_d00df cJ4_setLength_d00df 2 none ({ frames := 6, cells := 1, slots := 164, locals := 360 } : Room) D A cs tt N ad g [.ref b9, .int (zI (0))] (rV fun N' ad' g' => GR N ad g N' ad' g' ∧ bldC cs ad' g' N' (0) (0)) := by
  obtain ⟨v_y1, cap_y1, ml_y1, b_y1, hv_y1, hvN_y1, hcap_y1, hcp_y1, hcn_y1, hml_y1, hby_y1, h9_y1, hgv_y1⟩ := id hB
  have hay2 : zAt ad (v_y1) (ad v_y1) := rfl
  refine z_of (by decide) (Nat.le_of_ble_eq_true rfl) ?_
  intro p e s m below meth c C hr hlk hnm
  refine z_lv (lv' := [(0, .ref b9), (1, .int (zI (0)))]) [0, 1] rfl ?_
  refine z_aload_n C 0 dJ4_setLength_d00df_0 rfl ?_
  refine z_iload_n C 1 dJ4_setLength_d00df_1 rfl ?_
  have hBy3 : bldC cs ad g (N) (cn) ((cap_y1 : Int)) := ⟨v_y1, cap_y1, ml_y1, b_y1, by omega, by omega, by omega, by omega, by omega, by omega, hby_y1, h9_y1, hgv_y1⟩
  refine z_cSU (As := [.int (zI (0))]) (rest := []) (ci := 1) C (c_setLen l D A cs tt N ad _ (by omega) _ _ hBy3 _ hb9) (lt_K hN (rfl : Nat.blt (919) 952 = true)) hb9 h9_y1 rfl q_982 q_2122 q_348 q_983 q_11 q_984 (by decide) hd_yJ5_setLength_d00df (by decide) (Nat.le_of_ble_eq_true rfl) (by decide) dJ4_setLength_d00df_2 rfl (kV fun Nvy4 advy4 gvy4 hvy4 => ?_)
  obtain ⟨⟨hNvy4, hAvy4, hGvy4⟩, hBvy4⟩ := hvy4
  obtain ⟨v_y5, cap_y5, ml_y5, b_y5, hv_y5, hvN_y5, hcap_y5, hcp_y5, hcn_y5, hml_y5, hby_y5, h9_y5, hgv_y5⟩ := id hBvy4
  have hay6 : zAt advy4 (v_y5) (advy4 v_y5) := rfl
  have hBy7 : bldC cs advy4 gvy4 (Nvy4) (0) (0) := ⟨v_y5, cap_y5, ml_y5, b_y5, by omega, by omega, by omega, by omega, by omega, by omega, hby_y5, h9_y5, hgv_y5⟩
  have hGRy8 : GR N ad g (Nvy4) advy4 gvy4 := ⟨by omega, fun j j1 => by rw [hAvy4 _ (by omega)], fun j j1 j2 j3 => by rw [hGvy4 _ (by omega) (by omega) (by omega)]⟩
  exact z_vret C hr hlk dJ4_setLength_d00df_5 (by decide) (by decide) ⟨rfl, hGRy8, hBy7⟩

set_option maxRecDepth 100000 in
set_option maxHeartbeats 4000000 in
theorem c_bChar (l : Launch) (D : va_G) (A : Nat → Prop) (cs : Nat → ClassId) (tt : Nat) (N : Nat) (ad : Nat → Nat) (g : Nat → va_E) (hN : 952 ≤ N) (cn cp : Int) (hB : bldC cs ad g N cn cp) (b9 : Nat) (hb9 : zAt ad 919 b9) (z : Int) (hz : 0 ≤ z ∧ z < cn) : zM l yJ5_charAt_5068e cJ5_charAt_5068e 5 (some .char) ({ frames := 3, cells := 0, slots := 0, locals := 180 } : Room) D A cs tt N ad g [.ref b9, .int (zI (z))] (rI0 N ad fun r g' => (0 ≤ r ∧ r ≤ 255) ∧ g = g') := by
  obtain ⟨v_y1, cap_y1, ml_y1, b_y1, hv_y1, hvN_y1, hcap_y1, hcp_y1, hcn_y1, hml_y1, hby_y1, h9_y1, hgv_y1⟩ := id hB
  have hay2 : zAt ad (v_y1) (ad v_y1) := rfl
  refine z_of (by decide) (Nat.le_of_ble_eq_true rfl) ?_
  intro p e s m below meth c C hr hlk hnm
  refine z_lv (lv' := [(0, .ref b9), (1, .int (zI (z)))]) [0, 1] rfl ?_
  refine z_aload_n C 0 dJ5_charAt_5068e_0 rfl ?_
  refine z_get (v := .int (zI (0))) C (lt_K hN (rfl : Nat.blt (919) 952 = true)) hb9 h9_y1 rfl inA_J4 1 (by decide) q_336 rfl rfl dJ5_charAt_5068e_1 ?_
  refine z_istore_n (lv' := [(2, .int (zI (0))), (0, .ref b9), (1, .int (zI (z)))]) C dJ5_charAt_5068e_4 rfl (by decide) rfl ?_
  refine z_aload_n C 1 dJ5_charAt_5068e_5 rfl ?_
  refine z_get (v := .ref (ad v_y1)) C (lt_K hN (rfl : Nat.blt (919) 952 = true)) hb9 h9_y1 rfl inA_J4 0 (by decide) q_335 rfl rfl dJ5_charAt_5068e_6 ?_
  refine z_astore_n (lv' := [(3, .ref (ad v_y1)), (2, .int (zI (0))), (0, .ref b9), (1, .int (zI (z)))]) C dJ5_charAt_5068e_9 rfl (by decide) rfl ?_
  refine z_aload_n C 2 dJ5_charAt_5068e_10 rfl ?_
  refine z_get (v := .int (zI (cn))) C (lt_K hN (rfl : Nat.blt (919) 952 = true)) hb9 h9_y1 rfl inA_J4 3 (by decide) q_339 rfl rfl dJ5_charAt_5068e_11 ?_
  refine z_aload_n C 0 dJ5_charAt_5068e_14 rfl ?_
  refine z_alen (z := (cap_y1 : Int)) C (by omega) hay2 hgv_y1 0 rfl rfl dJ5_charAt_5068e_15 ?_
  refine z_iload_n C 1 dJ5_charAt_5068e_16 rfl ?_
  refine z_ishr (z := (cap_y1 : Int)) C dJ5_charAt_5068e_17 (shr0 _) ?_
  refine z_mmin C q_1210 q_473 q_20 q_474 (by omega) (by omega) (by decide) (Nat.le_of_ble_eq_true rfl) (by decide) (by decide) dJ5_charAt_5068e_18 ?_
  obtain ⟨xy3, exy4, hxy5⟩ := mm_min (cn) ((cap_y1 : Int))
  rw [exy4]
  refine z_istore (lv' := [(4, .int (zI (xy3))), (3, .ref (ad v_y1)), (2, .int (zI (0))), (0, .ref b9), (1, .int (zI (z)))]) C dJ5_charAt_5068e_21 (by decide) rfl ?_
  refine z_iload_n C 4 dJ5_charAt_5068e_23 rfl ?_
  refine z_iload C 0 dJ5_charAt_5068e_24 rfl ?_
  refine z_cS (As := [.int (zI (z)), .int (zI (xy3))]) (rest := []) C (c_ckS l D A cs tt N ad _ (z) (xy3) (by omega)) ms_yJ0_checkIndex_df160 q_1211 hd_yJ0_checkIndex_df160 (by decide) (Nat.le_of_ble_eq_true rfl) (by decide) dJ5_charAt_5068e_26 rfl (kV0 fun gvy6 hvy6 => ?_)
  obtain rfl := hvy6
  refine z_iload_n C 2 dJ5_charAt_5068e_29 rfl ?_
  refine z_if_ne (tgt := 42) C dJ5_charAt_5068e_30 (by decide) (by omega) (fun h => absurd h (by omega)) (fun _ => ?_)
  refine z_aload_n C 1 dJ5_charAt_5068e_33 rfl ?_
  refine z_iload_n C 4 dJ5_charAt_5068e_34 rfl ?_
  refine z_bald C (by omega) hay2 hgv_y1 ((z).toNat) (by omega) (by omega) (by omega) dJ5_charAt_5068e_35 ?_
  refine z_sipush (z := 255) C dJ5_charAt_5068e_36 (by decide) ?_
  obtain ⟨xy7, exy8, hxy9⟩ := zI_and (zI (b_y1 ((z).toNat))) (m := zI 255) 8 (by decide)
  refine z_iand (z := xy7) C dJ5_charAt_5068e_39 exy8 ?_
  refine z_i2c (z := xy7) C dJ5_charAt_5068e_40 (m16 (by omega)) ?_
  exact z_zret C hr hlk dJ5_charAt_5068e_41 (nc16 (by omega)) (by decide) (by decide) ⟨xy7, rfl, rfl, rfl, by omega, rfl⟩

set_option maxRecDepth 100000 in
set_option maxHeartbeats 4000000 in
theorem c_sbChar (l : Launch) (D : va_G) (A : Nat → Prop) (cs : Nat → ClassId) (tt : Nat) (N : Nat) (ad : Nat → Nat) (g : Nat → va_E) (hN : 952 ≤ N) (cn cp : Int) (hB : bldC cs ad g N cn cp) (b9 : Nat) (hb9 : zAt ad 919 b9) (z : Int) (hz : 0 ≤ z ∧ z < cn) : zM l yJ4_charAt_5068e cJ4_charAt_5068e 2 (some .char) ({ frames := 4, cells := 0, slots := 0, locals := 240 } : Room) D A cs tt N ad g [.ref b9, .int (zI (z))] (rI0 N ad fun r g' => (0 ≤ r ∧ r ≤ 255) ∧ g = g') := by
  obtain ⟨v_y1, cap_y1, ml_y1, b_y1, hv_y1, hvN_y1, hcap_y1, hcp_y1, hcn_y1, hml_y1, hby_y1, h9_y1, hgv_y1⟩ := id hB
  have hay2 : zAt ad (v_y1) (ad v_y1) := rfl
  refine z_of (by decide) (Nat.le_of_ble_eq_true rfl) ?_
  intro p e s m below meth c C hr hlk hnm
  refine z_lv (lv' := [(0, .ref b9), (1, .int (zI (z)))]) [0, 1] rfl ?_
  refine z_aload_n C 0 dJ4_charAt_5068e_0 rfl ?_
  refine z_iload_n C 1 dJ4_charAt_5068e_1 rfl ?_
  have hBy3 : bldC cs ad g (N) (cn) ((cap_y1 : Int)) := ⟨v_y1, cap_y1, ml_y1, b_y1, by omega, by omega, by omega, by omega, by omega, by omega, hby_y1, h9_y1, hgv_y1⟩
  refine z_cSU (As := [.int (zI (z))]) (rest := []) (ci := 1) C (c_bChar l D A cs tt N ad _ (by omega) _ _ hBy3 _ hb9 (z) (by omega)) (lt_K hN (rfl : Nat.blt (919) 952 = true)) hb9 h9_y1 rfl q_1207 q_2133 q_348 q_1208 q_11 q_1209 (by decide) hd_yJ5_charAt_5068e (by decide) (Nat.le_of_ble_eq_true rfl) (by decide) dJ4_charAt_5068e_2 rfl (kI0 fun vy4 gvy4 hvy4 => ?_)
  obtain ⟨hvy4, rfl⟩ := hvy4
  exact z_zret C hr hlk dJ4_charAt_5068e_5 (nc16 (by omega)) (by decide) (by decide) ⟨vy4, rfl, rfl, rfl, by omega, rfl⟩

