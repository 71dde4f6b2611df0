set_option maxRecDepth 100000 in
set_option maxHeartbeats 4000000 in
theorem c_writeLine (l : Launch) (D : va_G) (A : Nat → Prop) (cs : Nat → ClassId) (tt : Nat) (N : Nat) (ad : Nat → Nat) (g : Nat → va_E) (hN : 952 ≤ N) (cn cp : Int) (hB : bldC cs ad g N cn cp) (a : Nat) (haN : a + 2 ≤ 919) (ha0 : 0 < a) (sz ro : Int) (r : Nat → Int) (hz : 0 ≤ sz ∧ sz ≤ 12) (ha : isPack cs ad g a sz ro r) (t fp im : Int) (h0 : g 0 = rcC ad t fp im) (z : Int) (hzz : 0 ≤ z ∧ z < sz) : zM l yX9_writeLine cX9_writeLine 3 none ({ frames := 8, cells := 13, slots := 2132, locals := 480 } : Room) D A cs tt N ad g [.ref (ad 0), .ref (ad a), .int (zI (z))] (rV fun N' ad' g' => GR N ad g N' ad' g' ∧ ∃ cn' : Int, bldC cs ad' g' N' cn' 0) := by
  have hay1 : zAt ad (919) (ad 919) := rfl
  obtain ⟨v_y2, cap_y2, ml_y2, b_y2, hv_y2, hvN_y2, hcap_y2, hcp_y2, hcn_y2, hml_y2, hby_y2, h9_y2, hgv_y2⟩ := id hB
  have hay3 : zAt ad (v_y2) (ad v_y2) := rfl
  have hay4 : zAt ad (a) (ad a) := rfl
  have hay5 : zAt ad (a + 1) (ad (a + 1)) := rfl
  have hay6 : zAt ad (0) (ad 0) := rfl
  refine z_of (by decide) (Nat.le_of_ble_eq_true rfl) ?_
  intro p e s m below meth c C hr hlk hnm
  refine z_lv (lv' := [(0, .ref (ad 0)), (1, .ref (ad a)), (2, .int (zI (z)))]) [0, 1, 2] rfl ?_
  refine z_aload_n C 0 dX9_writeLine_0 rfl ?_
  refine z_get (v := .ref (ad 919)) C (lt_K hN (rfl : Nat.blt (0) 952 = true)) hay6 h0 rfl inA_X9 13 (by decide) q_362 rfl rfl dX9_writeLine_1 ?_
  refine z_iconst (z := 0) C dX9_writeLine_4 rfl ?_
  have hBy7 : bldC cs ad g (N) (cn) ((cap_y2 : Int)) := ⟨v_y2, cap_y2, ml_y2, b_y2, by omega, by omega, by omega, by omega, by omega, by omega, hby_y2, h9_y2, hgv_y2⟩
  refine z_cV (As := [.int (zI (0))]) (rest := []) (ci := 1) C (c_sbSetLen l D A cs tt N ad _ (by omega) _ _ hBy7 _ hay1) (lt_K hN (rfl : Nat.blt (919) 952 = true)) hay1 h9_y2 rfl rfl mv_yJ4_setLength_d00df q_978 hd_yJ4_setLength_d00df (by decide) (Nat.le_of_ble_eq_true rfl) (by decide) dX9_writeLine_5 rfl (kV fun Nvy8 advy8 gvy8 hvy8 => ?_)
  obtain ⟨⟨hNvy8, hAvy8, hGvy8⟩, hBvy8⟩ := hvy8
  obtain ⟨v_y9, cap_y9, ml_y9, b_y9, hv_y9, hvN_y9, hcap_y9, hcp_y9, hcn_y9, hml_y9, hby_y9, h9_y9, hgv_y9⟩ := id hBvy8
  have hay10 : zAt advy8 (v_y9) (advy8 v_y9) := rfl
  refine z_aload_n C 0 dX9_writeLine_8 rfl ?_
  have hay11 : zAt advy8 (0) (ad 0) := (hAvy8 (0) (lt_K hN (rfl : Nat.blt (0) 952 = true))).trans hay6
  have hgy12 := (hGvy8 (0) (by omega) (by decide) (by decide)).trans h0
  refine z_get (v := .ref (ad 919)) C (by omega) hay11 hgy12 rfl inA_X9 13 (by decide) q_362 rfl rfl dX9_writeLine_9 ?_
  refine z_aload_n C 1 dX9_writeLine_12 rfl ?_
  have hay13 : zAt advy8 (a) (ad a) := (hAvy8 (a) (by omega)).trans hay4
  have hgy14 := (hGvy8 (a) (by omega) (by omega) (by omega)).trans ha.1
  refine z_get (v := .ref (ad (a + 1))) C (by omega) hay13 hgy14 rfl inA_X3 2 (by decide) q_164 rfl rfl dX9_writeLine_13 ?_
  refine z_bipush (z := 72) C dX9_writeLine_16 (by decide) ?_
  refine z_iload_n C 2 dX9_writeLine_18 rfl ?_
  refine z_iadd C dX9_writeLine_19 ?_
  have hay15 : zAt advy8 (a + 1) (ad (a + 1)) := (hAvy8 (a + 1) (by omega)).trans hay5
  have hgy16 := (hGvy8 (a + 1) (by omega) (by omega) (by omega)).trans ha.2
  refine z_iald C (by omega) hay15 hgy16 ((72 + z).toNat) (by omega) (by omega) (by decide) dX9_writeLine_20 ?_
  obtain ⟨xy17, exy18, hxy19⟩ := zI_of (zI (r ((72 + z).toNat)))
  rw [exy18]
  have hBy20 : bldC cs advy8 gvy8 (Nvy8) (0) ((cap_y9 : Int)) := ⟨v_y9, cap_y9, ml_y9, b_y9, by omega, by omega, by omega, by omega, by omega, by omega, hby_y9, h9_y9, hgv_y9⟩
  have hay21 : zAt advy8 (919) (ad 919) := (hAvy8 (919) (lt_K hN (rfl : Nat.blt (919) 952 = true))).trans hay1
  refine z_cV (As := [.int (zI (xy17))]) (rest := []) (ci := 1) C (c_sbI l D A cs tt Nvy8 advy8 _ (by omega) _ _ hBy20 _ hay21 (xy17) (by omega) (by omega)) (by omega) hay21 h9_y9 rfl rfl mv_yJ4_append_bf812 q_1181 hd_yJ4_append_bf812 (by decide) (Nat.le_of_ble_eq_true rfl) (by decide) dX9_writeLine_21 rfl (kR fun avy22 Nvy22 advy22 gvy22 hvy22 => ?_)
  obtain ⟨hxvy22, ⟨hNvy22, hAvy22, hGvy22⟩, cnvy22, hkvy22, hBvy22⟩ := hvy22
  rw [hxvy22]
  obtain ⟨v_y23, cap_y23, ml_y23, b_y23, hv_y23, hvN_y23, hcap_y23, hcp_y23, hcn_y23, hml_y23, hby_y23, h9_y23, hgv_y23⟩ := id hBvy22
  have hay24 : zAt advy22 (v_y23) (advy22 v_y23) := rfl
  refine z_bipush (z := 32) C dX9_writeLine_24 (by decide) ?_
  have hBy25 : bldC cs advy22 gvy22 (Nvy22) (cnvy22) ((cap_y23 : Int)) := ⟨v_y23, cap_y23, ml_y23, b_y23, by omega, by omega, by omega, by omega, by omega, by omega, hby_y23, h9_y23, hgv_y23⟩
  have hay26 : zAt advy22 (919) (ad 919) := (hAvy22 (919) (by omega)).trans hay21
  refine z_cV (As := [.int (zI (32))]) (rest := []) (ci := 1) C (c_sbC l D A cs tt Nvy22 advy22 _ (by omega) _ _ hBy25 _ hay26 (32) (by omega) (by omega)) (by omega) hay26 h9_y23 rfl rfl mv_yJ4_append_cf468 q_1182 hd_yJ4_append_cf468 (by decide) (Nat.le_of_ble_eq_true rfl) (by decide) dX9_writeLine_26 rfl (kR fun avy27 Nvy27 advy27 gvy27 hvy27 => ?_)
  obtain ⟨hxvy27, ⟨hNvy27, hAvy27, hGvy27⟩, cnvy27, hkvy27, hBvy27⟩ := hvy27
  rw [hxvy27]
  obtain ⟨v_y28, cap_y28, ml_y28, b_y28, hv_y28, hvN_y28, hcap_y28, hcp_y28, hcn_y28, hml_y28, hby_y28, h9_y28, hgv_y28⟩ := id hBvy27
  have hay29 : zAt advy27 (v_y28) (advy27 v_y28) := rfl
  refine z_pop C dX9_writeLine_29 rfl ?_
  refine z_aload_n C 0 dX9_writeLine_30 rfl ?_
  have hay30 : zAt advy22 (0) (ad 0) := (hAvy22 (0) (by omega)).trans hay11
  have hay31 : zAt advy27 (0) (ad 0) := (hAvy27 (0) (by omega)).trans hay30
  have hgy32 := (hGvy22 (0) (by omega) (by decide) (by decide)).trans hgy12
  have hgy33 := (hGvy27 (0) (by omega) (by decide) (by decide)).trans hgy32
  refine z_get (v := .ref (ad 919)) C (by omega) hay31 hgy33 rfl inA_X9 13 (by decide) q_362 rfl rfl dX9_writeLine_31 ?_
  refine z_aload_n C 1 dX9_writeLine_34 rfl ?_
  have hay34 : zAt advy22 (a) (ad a) := (hAvy22 (a) (by omega)).trans hay13
  have hay35 : zAt advy27 (a) (ad a) := (hAvy27 (a) (by omega)).trans hay34
  have hgy36 := (hGvy22 (a) (by omega) (by omega) (by omega)).trans hgy14
  have hgy37 := (hGvy27 (a) (by omega) (by omega) (by omega)).trans hgy36
  refine z_get (v := .ref (ad (a + 1))) C (by omega) hay35 hgy37 rfl inA_X3 2 (by decide) q_164 rfl rfl dX9_writeLine_35 ?_
  refine z_iconst (z := 0) C dX9_writeLine_38 rfl ?_
  refine z_iload_n C 2 dX9_writeLine_39 rfl ?_
  refine z_iadd C dX9_writeLine_40 ?_
  have hay38 : zAt advy22 (a + 1) (ad (a + 1)) := (hAvy22 (a + 1) (by omega)).trans hay15
  have hay39 : zAt advy27 (a + 1) (ad (a + 1)) := (hAvy27 (a + 1) (by omega)).trans hay38
  have hgy40 := (hGvy22 (a + 1) (by omega) (by omega) (by omega)).trans hgy16
  have hgy41 := (hGvy27 (a + 1) (by omega) (by omega) (by omega)).trans hgy40
  refine z_iald C (by omega) hay39 hgy41 ((0 + z).toNat) (by omega) (by omega) (by decide) dX9_writeLine_41 ?_
  obtain ⟨xy42, exy43, hxy44⟩ := zI_of (zI (r ((0 + z).toNat)))
  rw [exy43]
  refine z_cS (As := [.int (zI (xy42))]) (rest := [.ref (ad 919)]) C (c_kindWord l D A cs tt Nvy27 advy27 _ (xy42) (by omega)) ms_yX9_kindWord q_1195 hd_yX9_kindWord (by decide) (Nat.le_of_ble_eq_true rfl) (by decide) dX9_writeLine_42 rfl (kR0 fun avy45 gvy45 hvy45 => ?_)
  obtain ⟨⟨qvy45, hqvy45, rfl⟩, rfl⟩ := hvy45
  have hLqvy45 := SKL_len qvy45 hqvy45
  have hBy46 : bldC cs advy27 gvy27 (Nvy27) (cnvy27) ((cap_y28 : Int)) := ⟨v_y28, cap_y28, ml_y28, b_y28, by omega, by omega, by omega, by omega, by omega, by omega, hby_y28, h9_y28, hgv_y28⟩
  have hay47 : zAt advy27 (919) (ad 919) := (hAvy27 (919) (by omega)).trans hay26
  refine z_cV (As := [.ref (cs (100 + qvy45.2.2.2.1))]) (rest := []) (ci := 1) C (c_sbS l D A cs tt Nvy27 advy27 _ (by omega) _ _ hBy46 _ hay47 qvy45 hqvy45 (by omega)) (by omega) hay47 h9_y28 rfl rfl mv_yJ4_append_15ec4 q_1196 hd_yJ4_append_15ec4 (by decide) (Nat.le_of_ble_eq_true rfl) (by decide) dX9_writeLine_45 rfl (kR fun avy48 Nvy48 advy48 gvy48 hvy48 => ?_)
  obtain ⟨hxvy48, ⟨hNvy48, hAvy48, hGvy48⟩, cnvy48, hkvy48, hBvy48⟩ := hvy48
  rw [hxvy48]
  obtain ⟨v_y49, cap_y49, ml_y49, b_y49, hv_y49, hvN_y49, hcap_y49, hcp_y49, hcn_y49, hml_y49, hby_y49, h9_y49, hgv_y49⟩ := id hBvy48
  have hay50 : zAt advy48 (v_y49) (advy48 v_y49) := rfl
  refine z_pop C dX9_writeLine_48 rfl ?_
  refine z_aload_n C 0 dX9_writeLine_49 rfl ?_
  have hay51 : zAt advy48 (0) (ad 0) := (hAvy48 (0) (by omega)).trans hay31
  have hgy52 := (hGvy48 (0) (by omega) (by decide) (by decide)).trans hgy33
  refine z_get (v := .ref (ad 919)) C (by omega) hay51 hgy52 rfl inA_X9 13 (by decide) q_362 rfl rfl dX9_writeLine_50 ?_
  refine z_ldcwS C skm14 rfl rfl dX9_writeLine_53 ?_
  have hBy53 : bldC cs advy48 gvy48 (Nvy48) (cnvy48) ((cap_y49 : Int)) := ⟨v_y49, cap_y49, ml_y49, b_y49, by omega, by omega, by omega, by omega, by omega, by omega, hby_y49, h9_y49, hgv_y49⟩
  have hay54 : zAt advy48 (919) (ad 919) := (hAvy48 (919) (by omega)).trans hay47
  refine z_cV (As := [.ref (cs (100 + 14))]) (rest := []) (ci := 1) C (c_sbS l D A cs tt Nvy48 advy48 _ (by omega) _ _ hBy53 _ hay54 _ skm14 (show cnvy48 + 4 ≤ 81 by omega)) (by omega) hay54 h9_y49 rfl rfl mv_yJ4_append_15ec4 q_1196 hd_yJ4_append_15ec4 (by decide) (Nat.le_of_ble_eq_true rfl) (by decide) dX9_writeLine_56 rfl (kR fun avy55 Nvy55 advy55 gvy55 hvy55 => ?_)
  obtain ⟨hxvy55, ⟨hNvy55, hAvy55, hGvy55⟩, cnvy55, hkvy55, hBvy55⟩ := hvy55
  rw [hxvy55]
  obtain ⟨v_y56, cap_y56, ml_y56, b_y56, hv_y56, hvN_y56, hcap_y56, hcp_y56, hcn_y56, hml_y56, hby_y56, h9_y56, hgv_y56⟩ := id hBvy55
  have hay57 : zAt advy55 (v_y56) (advy55 v_y56) := rfl
  have hlvy55 : cnvy48 + 4 ≤ cnvy55 ∧ cnvy55 ≤ cnvy48 + 4 := hkvy55
  refine z_aload_n C 1 dX9_writeLine_59 rfl ?_
  have hay58 : zAt advy48 (a) (ad a) := (hAvy48 (a) (by omega)).trans hay35
  have hay59 : zAt advy55 (a) (ad a) := (hAvy55 (a) (by omega)).trans hay58
  have hgy60 := (hGvy48 (a) (by omega) (by omega) (by omega)).trans hgy37
  have hgy61 := (hGvy55 (a) (by omega) (by omega) (by omega)).trans hgy60
  refine z_get (v := .ref (ad (a + 1))) C (by omega) hay59 hgy61 rfl inA_X3 2 (by decide) q_164 rfl rfl dX9_writeLine_60 ?_
  refine z_bipush (z := 12) C dX9_writeLine_63 (by decide) ?_
  refine z_iload_n C 2 dX9_writeLine_65 rfl ?_
  refine z_iadd C dX9_writeLine_66 ?_
  have hay62 : zAt advy48 (a + 1) (ad (a + 1)) := (hAvy48 (a + 1) (by omega)).trans hay39
  have hay63 : zAt advy55 (a + 1) (ad (a + 1)) := (hAvy55 (a + 1) (by omega)).trans hay62
  have hgy64 := (hGvy48 (a + 1) (by omega) (by omega) (by omega)).trans hgy41
  have hgy65 := (hGvy55 (a + 1) (by omega) (by omega) (by omega)).trans hgy64
  refine z_iald C (by omega) hay63 hgy65 ((12 + z).toNat) (by omega) (by omega) (by decide) dX9_writeLine_67 ?_
  obtain ⟨xy66, exy67, hxy68⟩ := zI_of (zI (r ((12 + z).toNat)))
  rw [exy67]
  have hBy69 : bldC cs advy55 gvy55 (Nvy55) (cnvy55) ((cap_y56 : Int)) := ⟨v_y56, cap_y56, ml_y56, b_y56, by omega, by omega, by omega, by omega, by omega, by omega, hby_y56, h9_y56, hgv_y56⟩
  have hay70 : zAt advy55 (919) (ad 919) := (hAvy55 (919) (by omega)).trans hay54
  refine z_cV (As := [.int (zI (xy66))]) (rest := []) (ci := 1) C (c_sbI l D A cs tt Nvy55 advy55 _ (by omega) _ _ hBy69 _ hay70 (xy66) (by omega) (by omega)) (by omega) hay70 h9_y56 rfl rfl mv_yJ4_append_bf812 q_1181 hd_yJ4_append_bf812 (by decide) (Nat.le_of_ble_eq_true rfl) (by decide) dX9_writeLine_68 rfl (kR fun avy71 Nvy71 advy71 gvy71 hvy71 => ?_)
  obtain ⟨hxvy71, ⟨hNvy71, hAvy71, hGvy71⟩, cnvy71, hkvy71, hBvy71⟩ := hvy71
  rw [hxvy71]
  obtain ⟨v_y72, cap_y72, ml_y72, b_y72, hv_y72, hvN_y72, hcap_y72, hcp_y72, hcn_y72, hml_y72, hby_y72, h9_y72, hgv_y72⟩ := id hBvy71
  have hay73 : zAt advy71 (v_y72) (advy71 v_y72) := rfl
  refine z_pop C dX9_writeLine_71 rfl ?_
  refine z_aload_n C 1 dX9_writeLine_72 rfl ?_
  have hay74 : zAt advy71 (a) (ad a) := (hAvy71 (a) (by omega)).trans hay59
  have hgy75 := (hGvy71 (a) (by omega) (by omega) (by omega)).trans hgy61
  refine z_get (v := .ref (ad (a + 1))) C (by omega) hay74 hgy75 rfl inA_X3 2 (by decide) q_164 rfl rfl dX9_writeLine_73 ?_
  refine z_bipush (z := 24) C dX9_writeLine_76 (by decide) ?_
  refine z_iload_n C 2 dX9_writeLine_78 rfl ?_
  refine z_iadd C dX9_writeLine_79 ?_
  have hay76 : zAt advy71 (a + 1) (ad (a + 1)) := (hAvy71 (a + 1) (by omega)).trans hay63
  have hgy77 := (hGvy71 (a + 1) (by omega) (by omega) (by omega)).trans hgy65
  refine z_iald C (by omega) hay76 hgy77 ((24 + z).toNat) (by omega) (by omega) (by decide) dX9_writeLine_80 ?_
  obtain ⟨xy78, exy79, hxy80⟩ := zI_of (zI (r ((24 + z).toNat)))
  rw [exy79]
  refine z_if_le (tgt := 107) C dX9_writeLine_81 (by decide) (by omega) (fun hby81 => ?_) (fun hby81 => ?_)
  · refine z_aload_n C 0 dX9_writeLine_107 rfl ?_
    have hay82 : zAt advy55 (0) (ad 0) := (hAvy55 (0) (by omega)).trans hay51
    have hay83 : zAt advy71 (0) (ad 0) := (hAvy71 (0) (by omega)).trans hay82
    have hgy84 := (hGvy55 (0) (by omega) (by decide) (by decide)).trans hgy52
    have hgy85 := (hGvy71 (0) (by omega) (by decide) (by decide)).trans hgy84
    refine z_get (v := .ref (ad 919)) C (by omega) hay83 hgy85 rfl inA_X9 13 (by decide) q_362 rfl rfl dX9_writeLine_108 ?_
    refine z_ldcwS C skm16 rfl rfl dX9_writeLine_111 ?_
    have hBy86 : bldC cs advy71 gvy71 (Nvy71) (cnvy71) ((cap_y72 : Int)) := ⟨v_y72, cap_y72, ml_y72, b_y72, by omega, by omega, by omega, by omega, by omega, by omega, hby_y72, h9_y72, hgv_y72⟩
    have hay87 : zAt advy71 (919) (ad 919) := (hAvy71 (919) (by omega)).trans hay70
    refine z_cV (As := [.ref (cs (100 + 16))]) (rest := []) (ci := 1) C (c_sbS l D A cs tt Nvy71 advy71 _ (by omega) _ _ hBy86 _ hay87 _ skm16 (show cnvy71 + 4 ≤ 81 by omega)) (by omega) hay87 h9_y72 rfl rfl mv_yJ4_append_15ec4 q_1196 hd_yJ4_append_15ec4 (by decide) (Nat.le_of_ble_eq_true rfl) (by decide) dX9_writeLine_114 rfl (kR fun avy88 Nvy88 advy88 gvy88 hvy88 => ?_)
    obtain ⟨hxvy88, ⟨hNvy88, hAvy88, hGvy88⟩, cnvy88, hkvy88, hBvy88⟩ := hvy88
    rw [hxvy88]
    obtain ⟨v_y89, cap_y89, ml_y89, b_y89, hv_y89, hvN_y89, hcap_y89, hcp_y89, hcn_y89, hml_y89, hby_y89, h9_y89, hgv_y89⟩ := id hBvy88
    have hay90 : zAt advy88 (v_y89) (advy88 v_y89) := rfl
    have hlvy88 : cnvy71 + 4 ≤ cnvy88 ∧ cnvy88 ≤ cnvy71 + 4 := hkvy88
    refine z_aload_n C 1 dX9_writeLine_117 rfl ?_
    have hay91 : zAt advy88 (a) (ad a) := (hAvy88 (a) (by omega)).trans hay74
    have hgy92 := (hGvy88 (a) (by omega) (by omega) (by omega)).trans hgy75
    refine z_get (v := .ref (ad (a + 1))) C (by omega) hay91 hgy92 rfl inA_X3 2 (by decide) q_164 rfl rfl dX9_writeLine_118 ?_
    refine z_bipush (z := 36) C dX9_writeLine_121 (by decide) ?_
    refine z_iload_n C 2 dX9_writeLine_123 rfl ?_
    refine z_iadd C dX9_writeLine_124 ?_
    have hay93 : zAt advy88 (a + 1) (ad (a + 1)) := (hAvy88 (a + 1) (by omega)).trans hay76
    have hgy94 := (hGvy88 (a + 1) (by omega) (by omega) (by omega)).trans hgy77
    refine z_iald C (by omega) hay93 hgy94 ((36 + z).toNat) (by omega) (by omega) (by decide) dX9_writeLine_125 ?_
    obtain ⟨xy95, exy96, hxy97⟩ := zI_of (zI (r ((36 + z).toNat)))
    rw [exy96]
    have hBy98 : bldC cs advy88 gvy88 (Nvy88) (cnvy88) ((cap_y89 : Int)) := ⟨v_y89, cap_y89, ml_y89, b_y89, by omega, by omega, by omega, by omega, by omega, by omega, hby_y89, h9_y89, hgv_y89⟩
    have hay99 : zAt advy88 (919) (ad 919) := (hAvy88 (919) (by omega)).trans hay87
    refine z_cV (As := [.int (zI (xy95))]) (rest := []) (ci := 1) C (c_sbI l D A cs tt Nvy88 advy88 _ (by omega) _ _ hBy98 _ hay99 (xy95) (by omega) (by omega)) (by omega) hay99 h9_y89 rfl rfl mv_yJ4_append_bf812 q_1181 hd_yJ4_append_bf812 (by decide) (Nat.le_of_ble_eq_true rfl) (by decide) dX9_writeLine_126 rfl (kR fun avy100 Nvy100 advy100 gvy100 hvy100 => ?_)
    obtain ⟨hxvy100, ⟨hNvy100, hAvy100, hGvy100⟩, cnvy100, hkvy100, hBvy100⟩ := hvy100
    rw [hxvy100]
    obtain ⟨v_y101, cap_y101, ml_y101, b_y101, hv_y101, hvN_y101, hcap_y101, hcp_y101, hcn_y101, hml_y101, hby_y101, h9_y101, hgv_y101⟩ := id hBvy100
    have hay102 : zAt advy100 (v_y101) (advy100 v_y101) := rfl
    refine z_pop C dX9_writeLine_129 rfl ?_
    refine z_aload_n C 0 dX9_writeLine_130 rfl ?_
    have hay103 : zAt advy88 (0) (ad 0) := (hAvy88 (0) (by omega)).trans hay83
    have hay104 : zAt advy100 (0) (ad 0) := (hAvy100 (0) (by omega)).trans hay103
    have hgy105 := (hGvy88 (0) (by omega) (by decide) (by decide)).trans hgy85
    have hgy106 := (hGvy100 (0) (by omega) (by decide) (by decide)).trans hgy105
    refine z_get (v := .ref (ad 919)) C (by omega) hay104 hgy106 rfl inA_X9 13 (by decide) q_362 rfl rfl dX9_writeLine_131 ?_
    refine z_ldcwS C skm17 rfl rfl dX9_writeLine_134 ?_
    have hBy107 : bldC cs advy100 gvy100 (Nvy100) (cnvy100) ((cap_y101 : Int)) := ⟨v_y101, cap_y101, ml_y101, b_y101, by omega, by omega, by omega, by omega, by omega, by omega, hby_y101, h9_y101, hgv_y101⟩
    have hay108 : zAt advy100 (919) (ad 919) := (hAvy100 (919) (by omega)).trans hay99
    refine z_cV (As := [.ref (cs (100 + 17))]) (rest := []) (ci := 1) C (c_sbS l D A cs tt Nvy100 advy100 _ (by omega) _ _ hBy107 _ hay108 _ skm17 (show cnvy100 + 4 ≤ 81 by omega)) (by omega) hay108 h9_y101 rfl rfl mv_yJ4_append_15ec4 q_1196 hd_yJ4_append_15ec4 (by decide) (Nat.le_of_ble_eq_true rfl) (by decide) dX9_writeLine_137 rfl (kR fun avy109 Nvy109 advy109 gvy109 hvy109 => ?_)
    obtain ⟨hxvy109, ⟨hNvy109, hAvy109, hGvy109⟩, cnvy109, hkvy109, hBvy109⟩ := hvy109
    rw [hxvy109]
    obtain ⟨v_y110, cap_y110, ml_y110, b_y110, hv_y110, hvN_y110, hcap_y110, hcp_y110, hcn_y110, hml_y110, hby_y110, h9_y110, hgv_y110⟩ := id hBvy109
    have hay111 : zAt advy109 (v_y110) (advy109 v_y110) := rfl
    have hlvy109 : cnvy100 + 4 ≤ cnvy109 ∧ cnvy109 ≤ cnvy100 + 4 := hkvy109
    refine z_aload_n C 1 dX9_writeLine_140 rfl ?_
    have hay112 : zAt advy100 (a) (ad a) := (hAvy100 (a) (by omega)).trans hay91
    have hay113 : zAt advy109 (a) (ad a) := (hAvy109 (a) (by omega)).trans hay112
    have hgy114 := (hGvy100 (a) (by omega) (by omega) (by omega)).trans hgy92
    have hgy115 := (hGvy109 (a) (by omega) (by omega) (by omega)).trans hgy114
    refine z_get (v := .ref (ad (a + 1))) C (by omega) hay113 hgy115 rfl inA_X3 2 (by decide) q_164 rfl rfl dX9_writeLine_141 ?_
    refine z_bipush (z := 48) C dX9_writeLine_144 (by decide) ?_
    refine z_iload_n C 2 dX9_writeLine_146 rfl ?_
    refine z_iadd C dX9_writeLine_147 ?_
    have hay116 : zAt advy100 (a + 1) (ad (a + 1)) := (hAvy100 (a + 1) (by omega)).trans hay93
    have hay117 : zAt advy109 (a + 1) (ad (a + 1)) := (hAvy109 (a + 1) (by omega)).trans hay116
    have hgy118 := (hGvy100 (a + 1) (by omega) (by omega) (by omega)).trans hgy94
    have hgy119 := (hGvy109 (a + 1) (by omega) (by omega) (by omega)).trans hgy118
    refine z_iald C (by omega) hay117 hgy119 ((48 + z).toNat) (by omega) (by omega) (by decide) dX9_writeLine_148 ?_
    obtain ⟨xy120, exy121, hxy122⟩ := zI_of (zI (r ((48 + z).toNat)))
    rw [exy121]
    have hBy123 : bldC cs advy109 gvy109 (Nvy109) (cnvy109) ((cap_y110 : Int)) := ⟨v_y110, cap_y110, ml_y110, b_y110, by omega, by omega, by omega, by omega, by omega, by omega, hby_y110, h9_y110, hgv_y110⟩
    have hay124 : zAt advy109 (919) (ad 919) := (hAvy109 (919) (by omega)).trans hay108
    refine z_cV (As := [.int (zI (xy120))]) (rest := []) (ci := 1) C (c_sbI l D A cs tt Nvy109 advy109 _ (by omega) _ _ hBy123 _ hay124 (xy120) (by omega) (by omega)) (by omega) hay124 h9_y110 rfl rfl mv_yJ4_append_bf812 q_1181 hd_yJ4_append_bf812 (by decide) (Nat.le_of_ble_eq_true rfl) (by decide) dX9_writeLine_149 rfl (kR fun avy125 Nvy125 advy125 gvy125 hvy125 => ?_)
    obtain ⟨hxvy125, ⟨hNvy125, hAvy125, hGvy125⟩, cnvy125, hkvy125, hBvy125⟩ := hvy125
    rw [hxvy125]
    obtain ⟨v_y126, cap_y126, ml_y126, b_y126, hv_y126, hvN_y126, hcap_y126, hcp_y126, hcn_y126, hml_y126, hby_y126, h9_y126, hgv_y126⟩ := id hBvy125
    have hay127 : zAt advy125 (v_y126) (advy125 v_y126) := rfl
    refine z_bipush (z := 59) C dX9_writeLine_152 (by decide) ?_
    have hBy128 : bldC cs advy125 gvy125 (Nvy125) (cnvy125) ((cap_y126 : Int)) := ⟨v_y126, cap_y126, ml_y126, b_y126, by omega, by omega, by omega, by omega, by omega, by omega, hby_y126, h9_y126, hgv_y126⟩
    have hay129 : zAt advy125 (919) (ad 919) := (hAvy125 (919) (by omega)).trans hay124
    refine z_cV (As := [.int (zI (59))]) (rest := []) (ci := 1) C (c_sbC l D A cs tt Nvy125 advy125 _ (by omega) _ _ hBy128 _ hay129 (59) (by omega) (by omega)) (by omega) hay129 h9_y126 rfl rfl mv_yJ4_append_cf468 q_1182 hd_yJ4_append_cf468 (by decide) (Nat.le_of_ble_eq_true rfl) (by decide) dX9_writeLine_154 rfl (kR fun avy130 Nvy130 advy130 gvy130 hvy130 => ?_)
    obtain ⟨hxvy130, ⟨hNvy130, hAvy130, hGvy130⟩, cnvy130, hkvy130, hBvy130⟩ := hvy130
    rw [hxvy130]
    obtain ⟨v_y131, cap_y131, ml_y131, b_y131, hv_y131, hvN_y131, hcap_y131, hcp_y131, hcn_y131, hml_y131, hby_y131, h9_y131, hgv_y131⟩ := id hBvy130
    have hay132 : zAt advy130 (v_y131) (advy130 v_y131) := rfl
    refine z_pop C dX9_writeLine_157 rfl ?_
    refine z_widen (k2 := 13) (n2 := 2132) (by decide) (by decide) ?_
    have hBy133 : bldC cs advy130 gvy130 (Nvy130) (cnvy130) (0) := ⟨v_y131, cap_y131, ml_y131, b_y131, by omega, by omega, by omega, by omega, by omega, by omega, hby_y131, h9_y131, hgv_y131⟩
    have hGRy134 : GR N ad g (Nvy130) advy130 gvy130 := ⟨by omega, fun j j1 => by rw [hAvy130 _ (by omega)]; rw [hAvy125 _ (by omega)]; rw [hAvy109 _ (by omega)]; rw [hAvy100 _ (by omega)]; rw [hAvy88 _ (by omega)]; rw [hAvy71 _ (by omega)]; rw [hAvy55 _ (by omega)]; rw [hAvy48 _ (by omega)]; rw [hAvy27 _ (by omega)]; rw [hAvy22 _ (by omega)]; rw [hAvy8 _ (by omega)], fun j j1 j2 j3 => by rw [hGvy130 _ (by omega) (by omega) (by omega)]; rw [hGvy125 _ (by omega) (by omega) (by omega)]; rw [hGvy109 _ (by omega) (by omega) (by omega)]; rw [hGvy100 _ (by omega) (by omega) (by omega)]; rw [hGvy88 _ (by omega) (by omega) (by omega)]; rw [hGvy71 _ (by omega) (by omega) (by omega)]; rw [hGvy55 _ (by omega) (by omega) (by omega)]; rw [hGvy48 _ (by omega) (by omega) (by omega)]; rw [hGvy27 _ (by omega) (by omega) (by omega)]; rw [hGvy22 _ (by omega) (by omega) (by omega)]; rw [hGvy8 _ (by omega) (by omega) (by omega)]⟩
    exact z_vret C hr hlk dX9_writeLine_158 (by decide) (by decide) ⟨rfl, hGRy134, _, hBy133⟩
  · refine z_aload_n C 0 dX9_writeLine_84 rfl ?_
    have hay135 : zAt advy55 (0) (ad 0) := (hAvy55 (0) (by omega)).trans hay51
    have hay136 : zAt advy71 (0) (ad 0) := (hAvy71 (0) (by omega)).trans hay135
    have hgy137 := (hGvy55 (0) (by omega) (by decide) (by decide)).trans hgy52
    have hgy138 := (hGvy71 (0) (by omega) (by decide) (by decide)).trans hgy137
    refine z_get (v := .ref (ad 919)) C (by omega) hay136 hgy138 rfl inA_X9 13 (by decide) q_362 rfl rfl dX9_writeLine_85 ?_
    refine z_ldcwS C skm15 rfl rfl dX9_writeLine_88 ?_
    have hBy139 : bldC cs advy71 gvy71 (Nvy71) (cnvy71) ((cap_y72 : Int)) := ⟨v_y72, cap_y72, ml_y72, b_y72, by omega, by omega, by omega, by omega, by omega, by omega, hby_y72, h9_y72, hgv_y72⟩
    have hay140 : zAt advy71 (919) (ad 919) := (hAvy71 (919) (by omega)).trans hay70
    refine z_cV (As := [.ref (cs (100 + 15))]) (rest := []) (ci := 1) C (c_sbS l D A cs tt Nvy71 advy71 _ (by omega) _ _ hBy139 _ hay140 _ skm15 (show cnvy71 + 5 ≤ 81 by omega)) (by omega) hay140 h9_y72 rfl rfl mv_yJ4_append_15ec4 q_1196 hd_yJ4_append_15ec4 (by decide) (Nat.le_of_ble_eq_true rfl) (by decide) dX9_writeLine_91 rfl (kR fun avy141 Nvy141 advy141 gvy141 hvy141 => ?_)
    obtain ⟨hxvy141, ⟨hNvy141, hAvy141, hGvy141⟩, cnvy141, hkvy141, hBvy141⟩ := hvy141
    rw [hxvy141]
    obtain ⟨v_y142, cap_y142, ml_y142, b_y142, hv_y142, hvN_y142, hcap_y142, hcp_y142, hcn_y142, hml_y142, hby_y142, h9_y142, hgv_y142⟩ := id hBvy141
    have hay143 : zAt advy141 (v_y142) (advy141 v_y142) := rfl
    have hlvy141 : cnvy71 + 5 ≤ cnvy141 ∧ cnvy141 ≤ cnvy71 + 5 := hkvy141
    refine z_aload_n C 1 dX9_writeLine_94 rfl ?_
    have hay144 : zAt advy141 (a) (ad a) := (hAvy141 (a) (by omega)).trans hay74
    have hgy145 := (hGvy141 (a) (by omega) (by omega) (by omega)).trans hgy75
    refine z_get (v := .ref (ad (a + 1))) C (by omega) hay144 hgy145 rfl inA_X3 2 (by decide) q_164 rfl rfl dX9_writeLine_95 ?_
    refine z_bipush (z := 24) C dX9_writeLine_98 (by decide) ?_
    refine z_iload_n C 2 dX9_writeLine_100 rfl ?_
    refine z_iadd C dX9_writeLine_101 ?_
    have hay146 : zAt advy141 (a + 1) (ad (a + 1)) := (hAvy141 (a + 1) (by omega)).trans hay76
    have hgy147 := (hGvy141 (a + 1) (by omega) (by omega) (by omega)).trans hgy77
    refine z_iald C (by omega) hay146 hgy147 ((24 + z).toNat) (by omega) (by omega) (by decide) dX9_writeLine_102 ?_
    obtain ⟨xy148, exy149, hxy150⟩ := zI_of (zI (r ((24 + z).toNat)))
    rw [exy149]
    have hBy151 : bldC cs advy141 gvy141 (Nvy141) (cnvy141) ((cap_y142 : Int)) := ⟨v_y142, cap_y142, ml_y142, b_y142, by omega, by omega, by omega, by omega, by omega, by omega, hby_y142, h9_y142, hgv_y142⟩
    have hay152 : zAt advy141 (919) (ad 919) := (hAvy141 (919) (by omega)).trans hay140
    refine z_cV (As := [.int (zI (xy148))]) (rest := []) (ci := 1) C (c_sbI l D A cs tt Nvy141 advy141 _ (by omega) _ _ hBy151 _ hay152 (xy148) (by omega) (by omega)) (by omega) hay152 h9_y142 rfl rfl mv_yJ4_append_bf812 q_1181 hd_yJ4_append_bf812 (by decide) (Nat.le_of_ble_eq_true rfl) (by decide) dX9_writeLine_103 rfl (kR fun avy153 Nvy153 advy153 gvy153 hvy153 => ?_)
    obtain ⟨hxvy153, ⟨hNvy153, hAvy153, hGvy153⟩, cnvy153, hkvy153, hBvy153⟩ := hvy153
    rw [hxvy153]
    obtain ⟨v_y154, cap_y154, ml_y154, b_y154, hv_y154, hvN_y154, hcap_y154, hcp_y154, hcn_y154, hml_y154, hby_y154, h9_y154, hgv_y154⟩ := id hBvy153
    have hay155 : zAt advy153 (v_y154) (advy153 v_y154) := rfl
    refine z_pop C dX9_writeLine_106 rfl ?_
    refine z_aload_n C 0 dX9_writeLine_107 rfl ?_
    have hay156 : zAt advy141 (0) (ad 0) := (hAvy141 (0) (by omega)).trans hay136
    have hay157 : zAt advy153 (0) (ad 0) := (hAvy153 (0) (by omega)).trans hay156
    have hgy158 := (hGvy141 (0) (by omega) (by decide) (by decide)).trans hgy138
    have hgy159 := (hGvy153 (0) (by omega) (by decide) (by decide)).trans hgy158
    refine z_get (v := .ref (ad 919)) C (by omega) hay157 hgy159 rfl inA_X9 13 (by decide) q_362 rfl rfl dX9_writeLine_108 ?_
    refine z_ldcwS C skm16 rfl rfl dX9_writeLine_111 ?_
    have hBy160 : bldC cs advy153 gvy153 (Nvy153) (cnvy153) ((cap_y154 : Int)) := ⟨v_y154, cap_y154, ml_y154, b_y154, by omega, by omega, by omega, by omega, by omega, by omega, hby_y154, h9_y154, hgv_y154⟩
    have hay161 : zAt advy153 (919) (ad 919) := (hAvy153 (919) (by omega)).trans hay152
    refine z_cV (As := [.ref (cs (100 + 16))]) (rest := []) (ci := 1) C (c_sbS l D A cs tt Nvy153 advy153 _ (by omega) _ _ hBy160 _ hay161 _ skm16 (show cnvy153 + 4 ≤ 81 by omega)) (by omega) hay161 h9_y154 rfl rfl mv_yJ4_append_15ec4 q_1196 hd_yJ4_append_15ec4 (by decide) (Nat.le_of_ble_eq_true rfl) (by decide) dX9_writeLine_114 rfl (kR fun avy162 Nvy162 advy162 gvy162 hvy162 => ?_)
    obtain ⟨hxvy162, ⟨hNvy162, hAvy162, hGvy162⟩, cnvy162, hkvy162, hBvy162⟩ := hvy162
    rw [hxvy162]
    obtain ⟨v_y163, cap_y163, ml_y163, b_y163, hv_y163, hvN_y163, hcap_y163, hcp_y163, hcn_y163, hml_y163, hby_y163, h9_y163, hgv_y163⟩ := id hBvy162
    have hay164 : zAt advy162 (v_y163) (advy162 v_y163) := rfl
    have hlvy162 : cnvy153 + 4 ≤ cnvy162 ∧ cnvy162 ≤ cnvy153 + 4 := hkvy162
    refine z_aload_n C 1 dX9_writeLine_117 rfl ?_
    have hay165 : zAt advy153 (a) (ad a) := (hAvy153 (a) (by omega)).trans hay144
    have hay166 : zAt advy162 (a) (ad a) := (hAvy162 (a) (by omega)).trans hay165
    have hgy167 := (hGvy153 (a) (by omega) (by omega) (by omega)).trans hgy145
    have hgy168 := (hGvy162 (a) (by omega) (by omega) (by omega)).trans hgy167
    refine z_get (v := .ref (ad (a + 1))) C (by omega) hay166 hgy168 rfl inA_X3 2 (by decide) q_164 rfl rfl dX9_writeLine_118 ?_
    refine z_bipush (z := 36) C dX9_writeLine_121 (by decide) ?_
    refine z_iload_n C 2 dX9_writeLine_123 rfl ?_
    refine z_iadd C dX9_writeLine_124 ?_
    have hay169 : zAt advy153 (a + 1) (ad (a + 1)) := (hAvy153 (a + 1) (by omega)).trans hay146
    have hay170 : zAt advy162 (a + 1) (ad (a + 1)) := (hAvy162 (a + 1) (by omega)).trans hay169
    have hgy171 := (hGvy153 (a + 1) (by omega) (by omega) (by omega)).trans hgy147
    have hgy172 := (hGvy162 (a + 1) (by omega) (by omega) (by omega)).trans hgy171
    refine z_iald C (by omega) hay170 hgy172 ((36 + z).toNat) (by omega) (by omega) (by decide) dX9_writeLine_125 ?_
    obtain ⟨xy173, exy174, hxy175⟩ := zI_of (zI (r ((36 + z).toNat)))
    rw [exy174]
    have hBy176 : bldC cs advy162 gvy162 (Nvy162) (cnvy162) ((cap_y163 : Int)) := ⟨v_y163, cap_y163, ml_y163, b_y163, by omega, by omega, by omega, by omega, by omega, by omega, hby_y163, h9_y163, hgv_y163⟩
    have hay177 : zAt advy162 (919) (ad 919) := (hAvy162 (919) (by omega)).trans hay161
    refine z_cV (As := [.int (zI (xy173))]) (rest := []) (ci := 1) C (c_sbI l D A cs tt Nvy162 advy162 _ (by omega) _ _ hBy176 _ hay177 (xy173) (by omega) (by omega)) (by omega) hay177 h9_y163 rfl rfl mv_yJ4_append_bf812 q_1181 hd_yJ4_append_bf812 (by decide) (Nat.le_of_ble_eq_true rfl) (by decide) dX9_writeLine_126 rfl (kR fun avy178 Nvy178 advy178 gvy178 hvy178 => ?_)
    obtain ⟨hxvy178, ⟨hNvy178, hAvy178, hGvy178⟩, cnvy178, hkvy178, hBvy178⟩ := hvy178
    rw [hxvy178]
    obtain ⟨v_y179, cap_y179, ml_y179, b_y179, hv_y179, hvN_y179, hcap_y179, hcp_y179, hcn_y179, hml_y179, hby_y179, h9_y179, hgv_y179⟩ := id hBvy178
    have hay180 : zAt advy178 (v_y179) (advy178 v_y179) := rfl
    refine z_pop C dX9_writeLine_129 rfl ?_
    refine z_aload_n C 0 dX9_writeLine_130 rfl ?_
    have hay181 : zAt advy162 (0) (ad 0) := (hAvy162 (0) (by omega)).trans hay157
    have hay182 : zAt advy178 (0) (ad 0) := (hAvy178 (0) (by omega)).trans hay181
    have hgy183 := (hGvy162 (0) (by omega) (by decide) (by decide)).trans hgy159
    have hgy184 := (hGvy178 (0) (by omega) (by decide) (by decide)).trans hgy183
    refine z_get (v := .ref (ad 919)) C (by omega) hay182 hgy184 rfl inA_X9 13 (by decide) q_362 rfl rfl dX9_writeLine_131 ?_
    refine z_ldcwS C skm17 rfl rfl dX9_writeLine_134 ?_
    have hBy185 : bldC cs advy178 gvy178 (Nvy178) (cnvy178) ((cap_y179 : Int)) := ⟨v_y179, cap_y179, ml_y179, b_y179, by omega, by omega, by omega, by omega, by omega, by omega, hby_y179, h9_y179, hgv_y179⟩
    have hay186 : zAt advy178 (919) (ad 919) := (hAvy178 (919) (by omega)).trans hay177
    refine z_cV (As := [.ref (cs (100 + 17))]) (rest := []) (ci := 1) C (c_sbS l D A cs tt Nvy178 advy178 _ (by omega) _ _ hBy185 _ hay186 _ skm17 (show cnvy178 + 4 ≤ 81 by omega)) (by omega) hay186 h9_y179 rfl rfl mv_yJ4_append_15ec4 q_1196 hd_yJ4_append_15ec4 (by decide) (Nat.le_of_ble_eq_true rfl) (by decide) dX9_writeLine_137 rfl (kR fun avy187 Nvy187 advy187 gvy187 hvy187 => ?_)
    obtain ⟨hxvy187, ⟨hNvy187, hAvy187, hGvy187⟩, cnvy187, hkvy187, hBvy187⟩ := hvy187
    rw [hxvy187]
    obtain ⟨v_y188, cap_y188, ml_y188, b_y188, hv_y188, hvN_y188, hcap_y188, hcp_y188, hcn_y188, hml_y188, hby_y188, h9_y188, hgv_y188⟩ := id hBvy187
    have hay189 : zAt advy187 (v_y188) (advy187 v_y188) := rfl
    have hlvy187 : cnvy178 + 4 ≤ cnvy187 ∧ cnvy187 ≤ cnvy178 + 4 := hkvy187
    refine z_aload_n C 1 dX9_writeLine_140 rfl ?_
    have hay190 : zAt advy178 (a) (ad a) := (hAvy178 (a) (by omega)).trans hay166
    have hay191 : zAt advy187 (a) (ad a) := (hAvy187 (a) (by omega)).trans hay190
    have hgy192 := (hGvy178 (a) (by omega) (by omega) (by omega)).trans hgy168
    have hgy193 := (hGvy187 (a) (by omega) (by omega) (by omega)).trans hgy192
    refine z_get (v := .ref (ad (a + 1))) C (by omega) hay191 hgy193 rfl inA_X3 2 (by decide) q_164 rfl rfl dX9_writeLine_141 ?_
    refine z_bipush (z := 48) C dX9_writeLine_144 (by decide) ?_
    refine z_iload_n C 2 dX9_writeLine_146 rfl ?_
    refine z_iadd C dX9_writeLine_147 ?_
    have hay194 : zAt advy178 (a + 1) (ad (a + 1)) := (hAvy178 (a + 1) (by omega)).trans hay170
    have hay195 : zAt advy187 (a + 1) (ad (a + 1)) := (hAvy187 (a + 1) (by omega)).trans hay194
    have hgy196 := (hGvy178 (a + 1) (by omega) (by omega) (by omega)).trans hgy172
    have hgy197 := (hGvy187 (a + 1) (by omega) (by omega) (by omega)).trans hgy196
    refine z_iald C (by omega) hay195 hgy197 ((48 + z).toNat) (by omega) (by omega) (by decide) dX9_writeLine_148 ?_
    obtain ⟨xy198, exy199, hxy200⟩ := zI_of (zI (r ((48 + z).toNat)))
    rw [exy199]
    have hBy201 : bldC cs advy187 gvy187 (Nvy187) (cnvy187) ((cap_y188 : Int)) := ⟨v_y188, cap_y188, ml_y188, b_y188, by omega, by omega, by omega, by omega, by omega, by omega, hby_y188, h9_y188, hgv_y188⟩
    have hay202 : zAt advy187 (919) (ad 919) := (hAvy187 (919) (by omega)).trans hay186
    refine z_cV (As := [.int (zI (xy198))]) (rest := []) (ci := 1) C (c_sbI l D A cs tt Nvy187 advy187 _ (by omega) _ _ hBy201 _ hay202 (xy198) (by omega) (by omega)) (by omega) hay202 h9_y188 rfl rfl mv_yJ4_append_bf812 q_1181 hd_yJ4_append_bf812 (by decide) (Nat.le_of_ble_eq_true rfl) (by decide) dX9_writeLine_149 rfl (kR fun avy203 Nvy203 advy203 gvy203 hvy203 => ?_)
    obtain ⟨hxvy203, ⟨hNvy203, hAvy203, hGvy203⟩, cnvy203, hkvy203, hBvy203⟩ := hvy203
    rw [hxvy203]
    obtain ⟨v_y204, cap_y204, ml_y204, b_y204, hv_y204, hvN_y204, hcap_y204, hcp_y204, hcn_y204, hml_y204, hby_y204, h9_y204, hgv_y204⟩ := id hBvy203
    have hay205 : zAt advy203 (v_y204) (advy203 v_y204) := rfl
    refine z_bipush (z := 59) C dX9_writeLine_152 (by decide) ?_
    have hBy206 : bldC cs advy203 gvy203 (Nvy203) (cnvy203) ((cap_y204 : Int)) := ⟨v_y204, cap_y204, ml_y204, b_y204, by omega, by omega, by omega, by omega, by omega, by omega, hby_y204, h9_y204, hgv_y204⟩
    have hay207 : zAt advy203 (919) (ad 919) := (hAvy203 (919) (by omega)).trans hay202
    refine z_cV (As := [.int (zI (59))]) (rest := []) (ci := 1) C (c_sbC l D A cs tt Nvy203 advy203 _ (by omega) _ _ hBy206 _ hay207 (59) (by omega) (by omega)) (by omega) hay207 h9_y204 rfl rfl mv_yJ4_append_cf468 q_1182 hd_yJ4_append_cf468 (by decide) (Nat.le_of_ble_eq_true rfl) (by decide) dX9_writeLine_154 rfl (kR fun avy208 Nvy208 advy208 gvy208 hvy208 => ?_)
    obtain ⟨hxvy208, ⟨hNvy208, hAvy208, hGvy208⟩, cnvy208, hkvy208, hBvy208⟩ := hvy208
    rw [hxvy208]
    obtain ⟨v_y209, cap_y209, ml_y209, b_y209, hv_y209, hvN_y209, hcap_y209, hcp_y209, hcn_y209, hml_y209, hby_y209, h9_y209, hgv_y209⟩ := id hBvy208
    have hay210 : zAt advy208 (v_y209) (advy208 v_y209) := rfl
    refine z_pop C dX9_writeLine_157 rfl ?_
    have hBy211 : bldC cs advy208 gvy208 (Nvy208) (cnvy208) (0) := ⟨v_y209, cap_y209, ml_y209, b_y209, by omega, by omega, by omega, by omega, by omega, by omega, hby_y209, h9_y209, hgv_y209⟩
    have hGRy212 : GR N ad g (Nvy208) advy208 gvy208 := ⟨by omega, fun j j1 => by rw [hAvy208 _ (by omega)]; rw [hAvy203 _ (by omega)]; rw [hAvy187 _ (by omega)]; rw [hAvy178 _ (by omega)]; rw [hAvy162 _ (by omega)]; rw [hAvy153 _ (by omega)]; rw [hAvy141 _ (by omega)]; rw [hAvy71 _ (by omega)]; rw [hAvy55 _ (by omega)]; rw [hAvy48 _ (by omega)]; rw [hAvy27 _ (by omega)]; rw [hAvy22 _ (by omega)]; rw [hAvy8 _ (by omega)], fun j j1 j2 j3 => by rw [hGvy208 _ (by omega) (by omega) (by omega)]; rw [hGvy203 _ (by omega) (by omega) (by omega)]; rw [hGvy187 _ (by omega) (by omega) (by omega)]; rw [hGvy178 _ (by omega) (by omega) (by omega)]; rw [hGvy162 _ (by omega) (by omega) (by omega)]; rw [hGvy153 _ (by omega) (by omega) (by omega)]; rw [hGvy141 _ (by omega) (by omega) (by omega)]; rw [hGvy71 _ (by omega) (by omega) (by omega)]; rw [hGvy55 _ (by omega) (by omega) (by omega)]; rw [hGvy48 _ (by omega) (by omega) (by omega)]; rw [hGvy27 _ (by omega) (by omega) (by omega)]; rw [hGvy22 _ (by omega) (by omega) (by omega)]; rw [hGvy8 _ (by omega) (by omega) (by omega)]⟩
    exact z_vret C hr hlk dX9_writeLine_158 (by decide) (by decide) ⟨rfl, hGRy212, _, hBy211⟩

