theorem okRec.grow {cs : Nat → ClassId} {ad ad' : Nat → Nat} {g g' : Nat → va_E} {N N' : Nat} {t fp im nz kz sl ho ua : Int} {st op ai fa mu tb tp : Nat → Int} {cn cp : Int} (hN : 952 ≤ N) (h : okRec cs ad g N t fp im nz kz sl ho ua st op ai fa mu tb tp) (hg : GR N ad g N' ad' g') (hB : bldC cs ad' g' N' cn cp) : okRec cs ad' g' N' t fp im nz kz sl ho ua st op ai fa mu tb tp := by
  obtain ⟨a1, a2, a3, a4, a5, a6, a7, a8, ⟨ac, a9⟩, ⟨kc, a10⟩, a11, a12, a13, a14, a15, a16⟩ := h
  obtain ⟨h1, h2, h3⟩ := hg
  obtain ⟨v, cap, ml, b, b1, b2, b3, b4, b5, b6, b7, b8, b9⟩ := hB
  have hA : ∀ j, j < 919 → ad' j = ad j := fun j hj => h2 j (by omega)
  have hG : ∀ j, j < 919 → g' j = g j := fun j hj => h3 j (by omega) (by omega) (by omega)
  refine ⟨?_, a2, a3, by rw [hG 1 (by omega)]; exact a4, a5.mv (fun j _ _ => hA j (by omega)) (fun j _ _ => hG j (by omega)), a6.mv (fun j _ _ => hA j (by omega)) (fun j _ _ => hG j (by omega)), a7, a8, ⟨ac, a9.mv (fun j _ _ => hA j (by omega)) (fun j _ _ => hG j (by omega))⟩, ⟨kc, a10.mv (fun j _ _ => hA j (by omega)) (fun j _ _ => hG j (by omega))⟩, a11.mv (fun j _ _ => hA j (by omega)) (fun j _ _ => hG j (by omega)), a12.mv2 (fun j _ _ => hA j (by omega)) (fun j _ _ => hG j (by omega)), a13.mv2 (fun j _ _ => hA j (by omega)) (fun j _ _ => hG j (by omega)), a14.mv (fun j _ _ => hA j (by omega)) (fun j _ _ => hG j (by omega)), a15.mv (fun j _ _ => hA j (by omega)) (fun j _ _ => hG j (by omega)), v, cap, ml, cn, b, b1, b2, b3, b5, ⟨b6, b7⟩, b8, b9⟩
  rw [hG 0 (by omega), a1]
  show rcC ad t fp im = rcC ad' t fp im
  unfold rcC
  rw [hA 1 (by omega), hA 2 (by omega), hA 4 (by omega), hA 11 (by omega), hA 447 (by omega), hA 883 (by omega), hA 890 (by omega), hA 900 (by omega), hA 910 (by omega), hA 917 (by omega), h2 919 (by omega)]
theorem okRec.bld {cs : Nat → ClassId} {ad : Nat → Nat} {g : Nat → va_E} {N : Nat} {t fp im nz kz sl ho ua : Int} {st op ai fa mu tb tp : Nat → Int} (h : okRec cs ad g N t fp im nz kz sl ho ua st op ai fa mu tb tp) : ∃ cn : Int, bldC cs ad g N cn 0 := by
  obtain ⟨_, _, _, _, _, _, _, _, _, _, _, _, _, _, _, v, cap, ml, cn, b, b1, b2, b3, b4, ⟨b5, b6⟩, b7, b8⟩ := h
  exact ⟨cn, v, cap, ml, b, b1, b2, b3, by omega, b4, b5, b6, b7, b8⟩

set_option maxRecDepth 100000 in
set_option maxHeartbeats 4000000 in
theorem c_bLen (l : Launch) (D : va_G) (A : Nat → Prop) (cs : Nat → ClassId) (tt : Nat) (N : Nat) (ad : Nat → Nat) (g : Nat → va_E) (hN : 952 ≤ N) (cn cp : Int) (hB : bldC cs ad g N cn cp) : zM l yJ5_length_8abf5 cJ5_length_8abf5 1 (some .int) ({ frames := 1, cells := 0, slots := 0, locals := 60 } : Room) D A cs tt N ad g [.ref (ad 919)] (rI0 N ad fun r g' => r = cn ∧ g = g') := by
  have hay1 : zAt ad (919) (ad 919) := rfl
  obtain ⟨v_y2, cap_y2, ml_y2, b_y2, hv_y2, hvN_y2, hcap_y2, hcp_y2, hcn_y2, hml_y2, hby_y2, h9_y2, hgv_y2⟩ := id hB
  have hay3 : zAt ad (v_y2) (ad v_y2) := rfl
  refine z_of (by decide) (Nat.le_of_ble_eq_true rfl) ?_
  intro p e s m below meth c C hr hlk hnm
  refine z_lv (lv' := [(0, .ref (ad 919))]) [0] rfl ?_
  refine z_aload_n C 0 dJ5_length_8abf5_0 rfl ?_
  refine z_get (v := .int (zI (cn))) C (by omega) hay1 h9_y2 rfl inA_J4 3 (by decide) q_339 rfl rfl dJ5_length_8abf5_1 ?_
  exact z_iret C hr hlk dJ5_length_8abf5_4 (by decide) (by decide) ⟨_, rfl, rfl, rfl, rfl, rfl⟩

set_option maxRecDepth 100000 in
set_option maxHeartbeats 4000000 in
theorem c_sbLen (l : Launch) (D : va_G) (A : Nat → Prop) (cs : Nat → ClassId) (tt : Nat) (N : Nat) (ad : Nat → Nat) (g : Nat → va_E) (hN : 952 ≤ N) (cn cp : Int) (hB : bldC cs ad g N cn cp) : zM l yJ4_length_8abf5 cJ4_length_8abf5 1 (some .int) ({ frames := 2, cells := 0, slots := 0, locals := 120 } : Room) D A cs tt N ad g [.ref (ad 919)] (rI0 N ad fun r g' => r = cn ∧ g = g') := by
  have hay1 : zAt ad (919) (ad 919) := rfl
  obtain ⟨v_y2, cap_y2, ml_y2, b_y2, hv_y2, hvN_y2, hcap_y2, hcp_y2, hcn_y2, hml_y2, hby_y2, h9_y2, hgv_y2⟩ := id hB
  have hay3 : zAt ad (v_y2) (ad v_y2) := rfl
  refine z_of (by decide) (Nat.le_of_ble_eq_true rfl) ?_
  intro p e s m below meth c C hr hlk hnm
  refine z_lv (lv' := [(0, .ref (ad 919))]) [0] rfl ?_
  refine z_aload_n C 0 dJ4_length_8abf5_0 rfl ?_
  have hBy4 : bldC cs ad g (N) (cn) ((cap_y2 : Int)) := ⟨v_y2, _, _, _, by omega, by omega, by omega, by omega, by omega, by omega, hby_y2, h9_y2, hgv_y2⟩
  refine z_cSU (As := []) (rest := []) (ci := 1) C (c_bLen l D A cs tt N ad _ (by omega) _ _ hBy4) (by omega) hay1 h9_y2 rfl q_1142 q_1138 q_348 q_1137 q_11 q_1143 (by decide) hd_yJ5_length_8abf5 (by decide) (Nat.le_of_ble_eq_true rfl) (by decide) dJ4_length_8abf5_1 rfl (kI0 fun vy5 gvy5 hvy5 => ?_)
  obtain ⟨rfl, rfl⟩ := hvy5
  exact z_iret C hr hlk dJ4_length_8abf5_4 (by decide) (by decide) ⟨_, rfl, rfl, rfl, rfl, rfl⟩

set_option maxRecDepth 100000 in
set_option maxHeartbeats 4000000 in
theorem c_sbSetLen (l : Launch) (D : va_G) (A : Nat → Prop) (cs : Nat → ClassId) (tt : Nat) (N : Nat) (ad : Nat → Nat) (g : Nat → va_E) (hN : 952 ≤ N) (cn cp : Int) (hB : bldC cs ad g N cn cp) : zM l yJ4_setLength_d00df cJ4_setLength_d00df 2 none ({ frames := 6, cells := 1, slots := 164, locals := 360 } : Room) D A cs tt N ad g [.ref (ad 919), .int (zI (0))] (rV fun N' ad' g' => GR N ad g N' ad' g' ∧ bldC cs ad' g' N' (0) (0)) := by
  have hay1 : zAt ad (919) (ad 919) := rfl
  obtain ⟨v_y2, cap_y2, ml_y2, b_y2, hv_y2, hvN_y2, hcap_y2, hcp_y2, hcn_y2, hml_y2, hby_y2, h9_y2, hgv_y2⟩ := id hB
  have hay3 : zAt ad (v_y2) (ad v_y2) := rfl
  refine z_of (by decide) (Nat.le_of_ble_eq_true rfl) ?_
  intro p e s m below meth c C hr hlk hnm
  refine z_lv (lv' := [(0, .ref (ad 919)), (1, .int (zI (0)))]) [0, 1] rfl ?_
  refine z_aload_n C 0 dJ4_setLength_d00df_0 rfl ?_
  refine z_iload_n C 1 dJ4_setLength_d00df_1 rfl ?_
  have hBy4 : bldC cs ad g (N) (cn) ((cap_y2 : Int)) := ⟨v_y2, _, _, _, by omega, by omega, by omega, by omega, by omega, by omega, hby_y2, h9_y2, hgv_y2⟩
  refine z_cSU (As := [.int (zI (0))]) (rest := []) (ci := 1) C (c_setLen l D A cs tt N ad _ (by omega) _ _ hBy4) (by omega) hay1 h9_y2 rfl q_982 q_2118 q_348 q_983 q_11 q_984 (by decide) hd_yJ5_setLength_d00df (by decide) (Nat.le_of_ble_eq_true rfl) (by decide) dJ4_setLength_d00df_2 rfl (kV fun Nvy5 advy5 gvy5 hvy5 => ?_)
  obtain ⟨⟨hNvy5, hAvy5, hGvy5⟩, hBvy5⟩ := hvy5
  obtain ⟨v_y6, cap_y6, ml_y6, b_y6, hv_y6, hvN_y6, hcap_y6, hcp_y6, hcn_y6, hml_y6, hby_y6, h9_y6, hgv_y6⟩ := id hBvy5
  have hay7 : zAt advy5 (v_y6) (advy5 v_y6) := rfl
  have hBy8 : bldC cs advy5 gvy5 (Nvy5) (0) (0) := ⟨v_y6, _, _, _, by omega, by omega, by omega, by omega, by omega, by omega, hby_y6, h9_y6, hgv_y6⟩
  have hGRy9 : GR N ad g (Nvy5) advy5 gvy5 := ⟨by omega, fun j j1 => by rw [hAvy5 _ (by omega)], fun j j1 j2 j3 => by rw [hGvy5 _ (by omega) (by omega) (by omega)]⟩
  exact z_vret C hr hlk dJ4_setLength_d00df_5 (by decide) (by decide) ⟨rfl, hGRy9, hBy8⟩

set_option maxRecDepth 100000 in
set_option maxHeartbeats 4000000 in
theorem c_bChar (l : Launch) (D : va_G) (A : Nat → Prop) (cs : Nat → ClassId) (tt : Nat) (N : Nat) (ad : Nat → Nat) (g : Nat → va_E) (hN : 952 ≤ N) (cn cp : Int) (hB : bldC cs ad g N cn cp) (z : Int) (hz : 0 ≤ z ∧ z < cn) : zM l yJ5_charAt_5068e cJ5_charAt_5068e 5 (some .char) ({ frames := 3, cells := 0, slots := 0, locals := 180 } : Room) D A cs tt N ad g [.ref (ad 919), .int (zI (z))] (rI0 N ad fun r g' => (0 ≤ r ∧ r ≤ 255) ∧ g = g') := by
  have hay1 : zAt ad (919) (ad 919) := rfl
  obtain ⟨v_y2, cap_y2, ml_y2, b_y2, hv_y2, hvN_y2, hcap_y2, hcp_y2, hcn_y2, hml_y2, hby_y2, h9_y2, hgv_y2⟩ := id hB
  have hay3 : zAt ad (v_y2) (ad v_y2) := rfl
  refine z_of (by decide) (Nat.le_of_ble_eq_true rfl) ?_
  intro p e s m below meth c C hr hlk hnm
  refine z_lv (lv' := [(0, .ref (ad 919)), (1, .int (zI (z)))]) [0, 1] rfl ?_
  refine z_aload_n C 0 dJ5_charAt_5068e_0 rfl ?_
  refine z_get (v := .int (zI (0))) C (by omega) hay1 h9_y2 rfl inA_J4 1 (by decide) q_336 rfl rfl dJ5_charAt_5068e_1 ?_
  refine z_istore_n (lv' := [(2, .int (zI (0))), (0, .ref (ad 919)), (1, .int (zI (z)))]) C dJ5_charAt_5068e_4 rfl (by decide) rfl ?_
  refine z_aload_n C 1 dJ5_charAt_5068e_5 rfl ?_
  refine z_get (v := .ref (ad v_y2)) C (by omega) hay1 h9_y2 rfl inA_J4 0 (by decide) q_335 rfl rfl dJ5_charAt_5068e_6 ?_
  refine z_astore_n (lv' := [(3, .ref (ad v_y2)), (2, .int (zI (0))), (0, .ref (ad 919)), (1, .int (zI (z)))]) C dJ5_charAt_5068e_9 rfl (by decide) rfl ?_
  refine z_aload_n C 2 dJ5_charAt_5068e_10 rfl ?_
  refine z_get (v := .int (zI (cn))) C (by omega) hay1 h9_y2 rfl inA_J4 3 (by decide) q_339 rfl rfl dJ5_charAt_5068e_11 ?_
  refine z_aload_n C 0 dJ5_charAt_5068e_14 rfl ?_
  refine z_alen (z := (cap_y2 : Int)) C (by omega) hay3 hgv_y2 0 rfl rfl dJ5_charAt_5068e_15 ?_
  refine z_iload_n C 1 dJ5_charAt_5068e_16 rfl ?_
  refine z_ishr (z := (cap_y2 : Int)) C dJ5_charAt_5068e_17 (shr0 _) ?_
  refine z_mmin C q_1210 q_473 q_20 q_474 (by omega) (by omega) (by decide) (Nat.le_of_ble_eq_true rfl) (by decide) (by decide) dJ5_charAt_5068e_18 ?_
  obtain ⟨xy4, exy5, hxy6⟩ := mm_min (cn) ((cap_y2 : Int))
  rw [exy5]
  refine z_istore (lv' := [(4, .int (zI (xy4))), (3, .ref (ad v_y2)), (2, .int (zI (0))), (0, .ref (ad 919)), (1, .int (zI (z)))]) C dJ5_charAt_5068e_21 (by decide) rfl ?_
  refine z_iload_n C 4 dJ5_charAt_5068e_23 rfl ?_
  refine z_iload C 0 dJ5_charAt_5068e_24 rfl ?_
  refine z_cS (As := [.int (zI (z)), .int (zI (xy4))]) (rest := []) C (c_ckS l D A cs tt N ad _ (z) (xy4) (by omega)) ms_yJ0_checkIndex_df160 q_1211 hd_yJ0_checkIndex_df160 (by decide) (Nat.le_of_ble_eq_true rfl) (by decide) dJ5_charAt_5068e_26 rfl (kV0 fun gvy7 hvy7 => ?_)
  obtain rfl := hvy7
  refine z_iload_n C 2 dJ5_charAt_5068e_29 rfl ?_
  refine z_if_ne (tgt := 42) C dJ5_charAt_5068e_30 (by decide) (by omega) (fun h => absurd h (by omega)) (fun _ => ?_)
  refine z_aload_n C 1 dJ5_charAt_5068e_33 rfl ?_
  refine z_iload_n C 4 dJ5_charAt_5068e_34 rfl ?_
  refine z_bald C (by omega) hay3 hgv_y2 ((z).toNat) (by omega) (by omega) (by omega) dJ5_charAt_5068e_35 ?_
  refine z_sipush (z := 255) C dJ5_charAt_5068e_36 (by decide) ?_
  obtain ⟨xy8, exy9, hxy10⟩ := zI_and (zI (b_y2 ((z).toNat))) (m := zI 255) 8 (by decide)
  refine z_iand (z := xy8) C dJ5_charAt_5068e_39 exy9 ?_
  refine z_i2c (z := xy8) C dJ5_charAt_5068e_40 (m16 (by omega)) ?_
  exact z_iret C hr hlk dJ5_charAt_5068e_41 (by decide) (by decide) ⟨xy8, rfl, rfl, rfl, by omega, rfl⟩

set_option maxRecDepth 100000 in
set_option maxHeartbeats 4000000 in
theorem c_sbChar (l : Launch) (D : va_G) (A : Nat → Prop) (cs : Nat → ClassId) (tt : Nat) (N : Nat) (ad : Nat → Nat) (g : Nat → va_E) (hN : 952 ≤ N) (cn cp : Int) (hB : bldC cs ad g N cn cp) (z : Int) (hz : 0 ≤ z ∧ z < cn) : zM l yJ4_charAt_5068e cJ4_charAt_5068e 2 (some .char) ({ frames := 4, cells := 0, slots := 0, locals := 240 } : Room) D A cs tt N ad g [.ref (ad 919), .int (zI (z))] (rI0 N ad fun r g' => (0 ≤ r ∧ r ≤ 255) ∧ g = g') := by
  have hay1 : zAt ad (919) (ad 919) := rfl
  obtain ⟨v_y2, cap_y2, ml_y2, b_y2, hv_y2, hvN_y2, hcap_y2, hcp_y2, hcn_y2, hml_y2, hby_y2, h9_y2, hgv_y2⟩ := id hB
  have hay3 : zAt ad (v_y2) (ad v_y2) := rfl
  refine z_of (by decide) (Nat.le_of_ble_eq_true rfl) ?_
  intro p e s m below meth c C hr hlk hnm
  refine z_lv (lv' := [(0, .ref (ad 919)), (1, .int (zI (z)))]) [0, 1] rfl ?_
  refine z_aload_n C 0 dJ4_charAt_5068e_0 rfl ?_
  refine z_iload_n C 1 dJ4_charAt_5068e_1 rfl ?_
  have hBy4 : bldC cs ad g (N) (cn) ((cap_y2 : Int)) := ⟨v_y2, _, _, _, by omega, by omega, by omega, by omega, by omega, by omega, hby_y2, h9_y2, hgv_y2⟩
  refine z_cSU (As := [.int (zI (z))]) (rest := []) (ci := 1) C (c_bChar l D A cs tt N ad _ (by omega) _ _ hBy4 (z) (by omega)) (by omega) hay1 h9_y2 rfl q_1207 q_2129 q_348 q_1208 q_11 q_1209 (by decide) hd_yJ5_charAt_5068e (by decide) (Nat.le_of_ble_eq_true rfl) (by decide) dJ4_charAt_5068e_2 rfl (kI0 fun vy5 gvy5 hvy5 => ?_)
  obtain ⟨hvy5, rfl⟩ := hvy5
  exact z_iret C hr hlk dJ4_charAt_5068e_5 (by decide) (by decide) ⟨vy5, rfl, rfl, rfl, by omega, rfl⟩

