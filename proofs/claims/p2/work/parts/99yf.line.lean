set_option maxRecDepth 100000 in
set_option maxHeartbeats 4000000 in
theorem c_writeLine (l : Launch) (D : va_G) (A : Nat → Prop) (cs : Nat → ClassId) (tt : Nat) (N : Nat) (ad : Nat → Nat) (g : Nat → va_E) (hN : 952 ≤ N) (cn cp : Int) (hB : bldC cs ad g N cn cp) (a : Nat) (haN : a + 2 ≤ 919) (ha0 : 0 < a) (sz ro : Int) (r : Nat → Int) (hz : 0 ≤ sz ∧ sz ≤ 12) (ha : isPack cs ad g a sz ro r) (t fp im : Int) (h0 : g 0 = rcC ad t fp im) (z : Int) (hzz : 0 ≤ z ∧ z < sz) : zM l yX9_writeLine cX9_writeLine 3 none ({ frames := 8, cells := 13, slots := 2132, locals := 480 } : Room) D A cs tt N ad g [.ref (ad 0), .ref (ad a), .int (zI (z))] (rV fun N' ad' g' => GR N ad g N' ad' g' ∧ ∃ cn' : Int, bldC cs ad' g' N' cn' 0) := by
  have hay1 : zAt ad (919) (ad 919) := rfl
  obtain ⟨v_y2, cap_y2, ml_y2, b_y2, hv_y2, hvN_y2, hcap_y2, hcp_y2, hcn_y2, hml_y2, hby_y2, h9_y2, hgv_y2⟩ := id hB
  have hay3 : zAt ad (v_y2) (ad v_y2) := rfl
  have hay4 : zAt ad (a) (ad a) := rfl
  have hay5 : zAt ad (a + 1) (ad (a + 1)) := rfl
  have hay6 : zAt ad (0) (ad 0) := rfl
  refine z_of (by decide) (Nat.le_of_ble_eq_true rfl) ?_
  intro p e s m below meth c C hr hlk hnm
  refine z_lv (lv' := [(0, .ref (ad 0)), (1, .ref (ad a)), (2, .int (zI (z)))]) [0, 1, 2] rfl ?_
  refine z_aload_n C 0 dX9_writeLine_0 rfl ?_
  refine z_get (v := .ref (ad 919)) C (by omega) hay6 h0 rfl inA_X9 13 (by decide) q_362 rfl rfl dX9_writeLine_1 ?_
  refine z_iconst (z := 0) C dX9_writeLine_4 rfl ?_
  have hBy7 : bldC cs ad g (N) (cn) ((cap_y2 : Int)) := ⟨v_y2, _, _, _, by omega, by omega, by omega, by omega, by omega, by omega, hby_y2, h9_y2, hgv_y2⟩
  refine z_cV (As := [.int (zI (0))]) (rest := []) (ci := 1) C (c_sbSetLen l D A cs tt N ad _ (by omega) _ _ hBy7) (by omega) hay1 h9_y2 rfl rfl mv_yJ4_setLength_d00df q_978 hd_yJ4_setLength_d00df (by decide) (Nat.le_of_ble_eq_true rfl) (by decide) dX9_writeLine_5 rfl (kV fun Nvy8 advy8 gvy8 hvy8 => ?_)
  obtain ⟨⟨hNvy8, hAvy8, hGvy8⟩, hBvy8⟩ := hvy8
  obtain ⟨v_y9, cap_y9, ml_y9, b_y9, hv_y9, hvN_y9, hcap_y9, hcp_y9, hcn_y9, hml_y9, hby_y9, h9_y9, hgv_y9⟩ := id hBvy8
  have hay10 : zAt advy8 (v_y9) (advy8 v_y9) := rfl
  refine z_aload_n C 0 dX9_writeLine_8 rfl ?_
  have hay11 : zAt advy8 (0) (ad 0) := (hAvy8 (0) (by omega)).trans hay6
  have hgy12 := (hGvy8 (0) (by omega) (by decide) (by decide)).trans h0
  refine z_get (v := .ref (ad 919)) C (by omega) hay11 hgy12 rfl inA_X9 13 (by decide) q_362 rfl rfl dX9_writeLine_9 ?_
  refine z_aload_n C 1 dX9_writeLine_12 rfl ?_
  have hay13 : zAt advy8 (a) (ad a) := (hAvy8 (a) (by omega)).trans hay4
  have hgy14 := (hGvy8 (a) (by omega) (by omega) (by omega)).trans ha.1
  refine z_get (v := .ref (ad (a + 1))) C (by omega) hay13 hgy14 rfl inA_X3 2 (by decide) q_164 rfl rfl dX9_writeLine_13 ?_
  refine z_bipush (z := 72) C dX9_writeLine_16 (by decide) ?_
  refine z_iload_n C 2 dX9_writeLine_18 rfl ?_
  refine z_iadd C dX9_writeLine_19 ?_
  have hay15 : zAt advy8 (a + 1) (ad (a + 1)) := (hAvy8 (a + 1) (by omega)).trans hay5
  have hgy16 := (hGvy8 (a + 1) (by omega) (by omega) (by omega)).trans ha.2
  refine z_iald C (by omega) hay15 hgy16 ((72 + z).toNat) (by omega) (by omega) (by decide) dX9_writeLine_20 ?_
  obtain ⟨xy17, exy18, hxy19⟩ := zI_of (zI (r ((72 + z).toNat)))
  rw [exy18]
  have hBy20 : bldC cs advy8 gvy8 (Nvy8) (0) ((cap_y9 : Int)) := ⟨v_y9, _, _, _, by omega, by omega, by omega, by omega, by omega, by omega, hby_y9, h9_y9, hgv_y9⟩
  have hay22 : zAt advy8 (919) (ad 919) := (hAvy8 (919) (by omega)).trans hay1
  refine z_cV (As := [.int (zI (xy17))]) (rest := []) (ci := 1) C (c_sbI l D A cs tt Nvy8 advy8 _ (by omega) _ _ hBy20 (xy17) (by omega) (by omega)) (by omega) hay22 h9_y9 rfl rfl mv_yJ4_append_bf812 q_1181 hd_yJ4_append_bf812 (by decide) (Nat.le_of_ble_eq_true rfl) (by decide) dX9_writeLine_21 rfl (kR fun avy21 Nvy21 advy21 gvy21 hvy21 => ?_)
  obtain ⟨hxvy21, ⟨hNvy21, hAvy21, hGvy21⟩, cnvy21, hkvy21, hBvy21⟩ := hvy21
  rw [hxvy21]
  obtain ⟨v_y23, cap_y23, ml_y23, b_y23, hv_y23, hvN_y23, hcap_y23, hcp_y23, hcn_y23, hml_y23, hby_y23, h9_y23, hgv_y23⟩ := id hBvy21
  have hay24 : zAt advy21 (v_y23) (advy21 v_y23) := rfl
  rw [show advy8 919 = ad 919 from hay22]
  refine z_bipush (z := 32) C dX9_writeLine_24 (by decide) ?_
  have hBy25 : bldC cs advy21 gvy21 (Nvy21) (cnvy21) ((cap_y23 : Int)) := ⟨v_y23, _, _, _, by omega, by omega, by omega, by omega, by omega, by omega, hby_y23, h9_y23, hgv_y23⟩
  have hay27 : zAt advy21 (919) (ad 919) := (hAvy21 (919) (by omega)).trans hay22
  refine z_cV (As := [.int (zI (32))]) (rest := []) (ci := 1) C (c_sbC l D A cs tt Nvy21 advy21 _ (by omega) _ _ hBy25 (32) (by omega) (by omega)) (by omega) hay27 h9_y23 rfl rfl mv_yJ4_append_cf468 q_1182 hd_yJ4_append_cf468 (by decide) (Nat.le_of_ble_eq_true rfl) (by decide) dX9_writeLine_26 rfl (kR fun avy26 Nvy26 advy26 gvy26 hvy26 => ?_)
  obtain ⟨hxvy26, ⟨hNvy26, hAvy26, hGvy26⟩, cnvy26, hkvy26, hBvy26⟩ := hvy26
  rw [hxvy26]
  obtain ⟨v_y28, cap_y28, ml_y28, b_y28, hv_y28, hvN_y28, hcap_y28, hcp_y28, hcn_y28, hml_y28, hby_y28, h9_y28, hgv_y28⟩ := id hBvy26
  have hay29 : zAt advy26 (v_y28) (advy26 v_y28) := rfl
  rw [show advy21 919 = ad 919 from hay27]
  refine z_pop C dX9_writeLine_29 rfl ?_
  refine z_aload_n C 0 dX9_writeLine_30 rfl ?_
  have hay30 : zAt advy21 (0) (ad 0) := (hAvy21 (0) (by omega)).trans hay11
  have hay31 : zAt advy26 (0) (ad 0) := (hAvy26 (0) (by omega)).trans hay30
  have hgy32 := (hGvy21 (0) (by omega) (by decide) (by decide)).trans hgy12
  have hgy33 := (hGvy26 (0) (by omega) (by decide) (by decide)).trans hgy32
  refine z_get (v := .ref (ad 919)) C (by omega) hay31 hgy33 rfl inA_X9 13 (by decide) q_362 rfl rfl dX9_writeLine_31 ?_
  refine z_aload_n C 1 dX9_writeLine_34 rfl ?_
  have hay34 : zAt advy21 (a) (ad a) := (hAvy21 (a) (by omega)).trans hay13
  have hay35 : zAt advy26 (a) (ad a) := (hAvy26 (a) (by omega)).trans hay34
  have hgy36 := (hGvy21 (a) (by omega) (by omega) (by omega)).trans hgy14
  have hgy37 := (hGvy26 (a) (by omega) (by omega) (by omega)).trans hgy36
  refine z_get (v := .ref (ad (a + 1))) C (by omega) hay35 hgy37 rfl inA_X3 2 (by decide) q_164 rfl rfl dX9_writeLine_35 ?_
  refine z_iconst (z := 0) C dX9_writeLine_38 rfl ?_
  refine z_iload_n C 2 dX9_writeLine_39 rfl ?_
  refine z_iadd C dX9_writeLine_40 ?_
  have hay38 : zAt advy21 (a + 1) (ad (a + 1)) := (hAvy21 (a + 1) (by omega)).trans hay15
  have hay39 : zAt advy26 (a + 1) (ad (a + 1)) := (hAvy26 (a + 1) (by omega)).trans hay38
  have hgy40 := (hGvy21 (a + 1) (by omega) (by omega) (by omega)).trans hgy16
  have hgy41 := (hGvy26 (a + 1) (by omega) (by omega) (by omega)).trans hgy40
  refine z_iald C (by omega) hay39 hgy41 ((0 + z).toNat) (by omega) (by omega) (by decide) dX9_writeLine_41 ?_
  obtain ⟨xy42, exy43, hxy44⟩ := zI_of (zI (r ((0 + z).toNat)))
  rw [exy43]
  refine z_cS (As := [.int (zI (xy42))]) (rest := [.ref (ad 919)]) C (c_kindWord l D A cs tt N ad _ (xy42) (by omega)) ms_yX9_kindWord q_1195 hd_yX9_kindWord (by decide) (Nat.le_of_ble_eq_true rfl) (by decide) dX9_writeLine_42 rfl (kR0 fun avy45 gvy45 hvy45 => ?_)
  obtain ⟨⟨qvy45, hqvy45, rfl⟩, rfl⟩ := hvy45
  have hLqvy45 := SKL_len qvy45 hqvy45
  have hBy46 : bldC cs advy26 gvy26 (Nvy26) (cnvy26) ((cap_y28 : Int)) := ⟨v_y28, _, _, _, by omega, by omega, by omega, by omega, by omega, by omega, hby_y28, h9_y28, hgv_y28⟩
  have hay48 : zAt advy26 (919) (ad 919) := (hAvy26 (919) (by omega)).trans hay27
  refine z_cV (As := [.ref (cs (100 + qvy45.2.2.2.1))]) (rest := []) (ci := 1) C (c_sbS l D A cs tt Nvy26 advy26 _ (by omega) _ _ hBy46 qvy45 hqvy45 (by omega)) (by omega) hay48 h9_y28 rfl rfl mv_yJ4_append_15ec4 q_1196 hd_yJ4_append_15ec4 (by decide) (Nat.le_of_ble_eq_true rfl) (by decide) dX9_writeLine_45 rfl (kR fun avy47 Nvy47 advy47 gvy47 hvy47 => ?_)
  obtain ⟨hxvy47, ⟨hNvy47, hAvy47, hGvy47⟩, cnvy47, hkvy47, hBvy47⟩ := hvy47
  rw [hxvy47]
  obtain ⟨v_y49, cap_y49, ml_y49, b_y49, hv_y49, hvN_y49, hcap_y49, hcp_y49, hcn_y49, hml_y49, hby_y49, h9_y49, hgv_y49⟩ := id hBvy47
  have hay50 : zAt advy47 (v_y49) (advy47 v_y49) := rfl
  rw [show advy26 919 = ad 919 from hay48]
  refine z_pop C dX9_writeLine_48 rfl ?_
  refine z_aload_n C 0 dX9_writeLine_49 rfl ?_
  have hay51 : zAt advy47 (0) (ad 0) := (hAvy47 (0) (by omega)).trans hay31
  have hgy52 := (hGvy47 (0) (by omega) (by decide) (by decide)).trans hgy33
  refine z_get (v := .ref (ad 919)) C (by omega) hay51 hgy52 rfl inA_X9 13 (by decide) q_362 rfl rfl dX9_writeLine_50 ?_
  refine z_ldcwS C skm14 rfl rfl dX9_writeLine_53 ?_
  have hBy53 : bldC cs advy47 gvy47 (Nvy47) (cnvy47) ((cap_y49 : Int)) := ⟨v_y49, _, _, _, by omega, by omega, by omega, by omega, by omega, by omega, hby_y49, h9_y49, hgv_y49⟩
  have hay55 : zAt advy47 (919) (ad 919) := (hAvy47 (919) (by omega)).trans hay48
  refine z_cV (As := [.ref (cs (100 + 14))]) (rest := []) (ci := 1) C (c_sbS l D A cs tt Nvy47 advy47 _ (by omega) _ _ hBy53 _ skm14 (show cnvy47 + 4 ≤ 81 by omega)) (by omega) hay55 h9_y49 rfl rfl mv_yJ4_append_15ec4 q_1196 hd_yJ4_append_15ec4 (by decide) (Nat.le_of_ble_eq_true rfl) (by decide) dX9_writeLine_56 rfl (kR fun avy54 Nvy54 advy54 gvy54 hvy54 => ?_)
  obtain ⟨hxvy54, ⟨hNvy54, hAvy54, hGvy54⟩, cnvy54, hkvy54, hBvy54⟩ := hvy54
  rw [hxvy54]
  obtain ⟨v_y56, cap_y56, ml_y56, b_y56, hv_y56, hvN_y56, hcap_y56, hcp_y56, hcn_y56, hml_y56, hby_y56, h9_y56, hgv_y56⟩ := id hBvy54
  have hay57 : zAt advy54 (v_y56) (advy54 v_y56) := rfl
  rw [show advy47 919 = ad 919 from hay55]
  have hlvy54 : cnvy47 + 4 ≤ cnvy54 ∧ cnvy54 ≤ cnvy47 + 4 := hkvy54
  refine z_aload_n C 1 dX9_writeLine_59 rfl ?_
  have hay58 : zAt advy47 (a) (ad a) := (hAvy47 (a) (by omega)).trans hay35
  have hay59 : zAt advy54 (a) (ad a) := (hAvy54 (a) (by omega)).trans hay58
  have hgy60 := (hGvy47 (a) (by omega) (by omega) (by omega)).trans hgy37
  have hgy61 := (hGvy54 (a) (by omega) (by omega) (by omega)).trans hgy60
  refine z_get (v := .ref (ad (a + 1))) C (by omega) hay59 hgy61 rfl inA_X3 2 (by decide) q_164 rfl rfl dX9_writeLine_60 ?_
  refine z_bipush (z := 12) C dX9_writeLine_63 (by decide) ?_
  refine z_iload_n C 2 dX9_writeLine_65 rfl ?_
  refine z_iadd C dX9_writeLine_66 ?_
  have hay62 : zAt advy47 (a + 1) (ad (a + 1)) := (hAvy47 (a + 1) (by omega)).trans hay39
  have hay63 : zAt advy54 (a + 1) (ad (a + 1)) := (hAvy54 (a + 1) (by omega)).trans hay62
  have hgy64 := (hGvy47 (a + 1) (by omega) (by omega) (by omega)).trans hgy41
  have hgy65 := (hGvy54 (a + 1) (by omega) (by omega) (by omega)).trans hgy64
  refine z_iald C (by omega) hay63 hgy65 ((12 + z).toNat) (by omega) (by omega) (by decide) dX9_writeLine_67 ?_
  obtain ⟨xy66, exy67, hxy68⟩ := zI_of (zI (r ((12 + z).toNat)))
  rw [exy67]
  have hBy69 : bldC cs advy54 gvy54 (Nvy54) (cnvy54) ((cap_y56 : Int)) := ⟨v_y56, _, _, _, by omega, by omega, by omega, by omega, by omega, by omega, hby_y56, h9_y56, hgv_y56⟩
  have hay71 : zAt advy54 (919) (ad 919) := (hAvy54 (919) (by omega)).trans hay55
  refine z_cV (As := [.int (zI (xy66))]) (rest := []) (ci := 1) C (c_sbI l D A cs tt Nvy54 advy54 _ (by omega) _ _ hBy69 (xy66) (by omega) (by omega)) (by omega) hay71 h9_y56 rfl rfl mv_yJ4_append_bf812 q_1181 hd_yJ4_append_bf812 (by decide) (Nat.le_of_ble_eq_true rfl) (by decide) dX9_writeLine_68 rfl (kR fun avy70 Nvy70 advy70 gvy70 hvy70 => ?_)
  obtain ⟨hxvy70, ⟨hNvy70, hAvy70, hGvy70⟩, cnvy70, hkvy70, hBvy70⟩ := hvy70
  rw [hxvy70]
  obtain ⟨v_y72, cap_y72, ml_y72, b_y72, hv_y72, hvN_y72, hcap_y72, hcp_y72, hcn_y72, hml_y72, hby_y72, h9_y72, hgv_y72⟩ := id hBvy70
  have hay73 : zAt advy70 (v_y72) (advy70 v_y72) := rfl
  rw [show advy54 919 = ad 919 from hay71]
  refine z_pop C dX9_writeLine_71 rfl ?_
  refine z_aload_n C 1 dX9_writeLine_72 rfl ?_
  have hay74 : zAt advy70 (a) (ad a) := (hAvy70 (a) (by omega)).trans hay59
  have hgy75 := (hGvy70 (a) (by omega) (by omega) (by omega)).trans hgy61
  refine z_get (v := .ref (ad (a + 1))) C (by omega) hay74 hgy75 rfl inA_X3 2 (by decide) q_164 rfl rfl dX9_writeLine_73 ?_
  refine z_bipush (z := 24) C dX9_writeLine_76 (by decide) ?_
  refine z_iload_n C 2 dX9_writeLine_78 rfl ?_
  refine z_iadd C dX9_writeLine_79 ?_
  have hay76 : zAt advy70 (a + 1) (ad (a + 1)) := (hAvy70 (a + 1) (by omega)).trans hay63
  have hgy77 := (hGvy70 (a + 1) (by omega) (by omega) (by omega)).trans hgy65
  refine z_iald C (by omega) hay76 hgy77 ((24 + z).toNat) (by omega) (by omega) (by decide) dX9_writeLine_80 ?_
  obtain ⟨xy78, exy79, hxy80⟩ := zI_of (zI (r ((24 + z).toNat)))
  rw [exy79]
  refine z_if_le (tgt := 107) C dX9_writeLine_81 (by decide) (by omega) (fun hby81 => ?_) (fun hby81 => ?_)
  · refine z_aload_n C 0 dX9_writeLine_107 rfl ?_
    have hay82 : zAt advy54 (0) (ad 0) := (hAvy54 (0) (by omega)).trans hay51
    have hay83 : zAt advy70 (0) (ad 0) := (hAvy70 (0) (by omega)).trans hay82
    have hgy84 := (hGvy54 (0) (by omega) (by decide) (by decide)).trans hgy52
    have hgy85 := (hGvy70 (0) (by omega) (by decide) (by decide)).trans hgy84
    refine z_get (v := .ref (ad 919)) C (by omega) hay83 hgy85 rfl inA_X9 13 (by decide) q_362 rfl rfl dX9_writeLine_108 ?_
    refine z_ldcwS C skm16 rfl rfl dX9_writeLine_111 ?_
    have hBy86 : bldC cs advy70 gvy70 (Nvy70) (cnvy70) ((cap_y72 : Int)) := ⟨v_y72, _, _, _, by omega, by omega, by omega, by omega, by omega, by omega, hby_y72, h9_y72, hgv_y72⟩
    have hay88 : zAt advy70 (919) (ad 919) := (hAvy70 (919) (by omega)).trans hay71
    refine z_cV (As := [.ref (cs (100 + 16))]) (rest := []) (ci := 1) C (c_sbS l D A cs tt Nvy70 advy70 _ (by omega) _ _ hBy86 _ skm16 (show cnvy70 + 4 ≤ 81 by omega)) (by omega) hay88 h9_y72 rfl rfl mv_yJ4_append_15ec4 q_1196 hd_yJ4_append_15ec4 (by decide) (Nat.le_of_ble_eq_true rfl) (by decide) dX9_writeLine_114 rfl (kR fun avy87 Nvy87 advy87 gvy87 hvy87 => ?_)
    obtain ⟨hxvy87, ⟨hNvy87, hAvy87, hGvy87⟩, cnvy87, hkvy87, hBvy87⟩ := hvy87
    rw [hxvy87]
    obtain ⟨v_y89, cap_y89, ml_y89, b_y89, hv_y89, hvN_y89, hcap_y89, hcp_y89, hcn_y89, hml_y89, hby_y89, h9_y89, hgv_y89⟩ := id hBvy87
    have hay90 : zAt advy87 (v_y89) (advy87 v_y89) := rfl
    rw [show advy70 919 = ad 919 from hay88]
    have hlvy87 : cnvy70 + 4 ≤ cnvy87 ∧ cnvy87 ≤ cnvy70 + 4 := hkvy87
    refine z_aload_n C 1 dX9_writeLine_117 rfl ?_
    have hay91 : zAt advy87 (a) (ad a) := (hAvy87 (a) (by omega)).trans hay74
    have hgy92 := (hGvy87 (a) (by omega) (by omega) (by omega)).trans hgy75
    refine z_get (v := .ref (ad (a + 1))) C (by omega) hay91 hgy92 rfl inA_X3 2 (by decide) q_164 rfl rfl dX9_writeLine_118 ?_
    refine z_bipush (z := 36) C dX9_writeLine_121 (by decide) ?_
    refine z_iload_n C 2 dX9_writeLine_123 rfl ?_
    refine z_iadd C dX9_writeLine_124 ?_
    have hay93 : zAt advy87 (a + 1) (ad (a + 1)) := (hAvy87 (a + 1) (by omega)).trans hay76
    have hgy94 := (hGvy87 (a + 1) (by omega) (by omega) (by omega)).trans hgy77
    refine z_iald C (by omega) hay93 hgy94 ((36 + z).toNat) (by omega) (by omega) (by decide) dX9_writeLine_125 ?_
    obtain ⟨xy95, exy96, hxy97⟩ := zI_of (zI (r ((36 + z).toNat)))
    rw [exy96]
    have hBy98 : bldC cs advy87 gvy87 (Nvy87) (cnvy87) ((cap_y89 : Int)) := ⟨v_y89, _, _, _, by omega, by omega, by omega, by omega, by omega, by omega, hby_y89, h9_y89, hgv_y89⟩
    have hay100 : zAt advy87 (919) (ad 919) := (hAvy87 (919) (by omega)).trans hay88
    refine z_cV (As := [.int (zI (xy95))]) (rest := []) (ci := 1) C (c_sbI l D A cs tt Nvy87 advy87 _ (by omega) _ _ hBy98 (xy95) (by omega) (by omega)) (by omega) hay100 h9_y89 rfl rfl mv_yJ4_append_bf812 q_1181 hd_yJ4_append_bf812 (by decide) (Nat.le_of_ble_eq_true rfl) (by decide) dX9_writeLine_126 rfl (kR fun avy99 Nvy99 advy99 gvy99 hvy99 => ?_)
    obtain ⟨hxvy99, ⟨hNvy99, hAvy99, hGvy99⟩, cnvy99, hkvy99, hBvy99⟩ := hvy99
    rw [hxvy99]
    obtain ⟨v_y101, cap_y101, ml_y101, b_y101, hv_y101, hvN_y101, hcap_y101, hcp_y101, hcn_y101, hml_y101, hby_y101, h9_y101, hgv_y101⟩ := id hBvy99
    have hay102 : zAt advy99 (v_y101) (advy99 v_y101) := rfl
    rw [show advy87 919 = ad 919 from hay100]
    refine z_pop C dX9_writeLine_129 rfl ?_
    refine z_aload_n C 0 dX9_writeLine_130 rfl ?_
    have hay103 : zAt advy87 (0) (ad 0) := (hAvy87 (0) (by omega)).trans hay83
    have hay104 : zAt advy99 (0) (ad 0) := (hAvy99 (0) (by omega)).trans hay103
    have hgy105 := (hGvy87 (0) (by omega) (by decide) (by decide)).trans hgy85
    have hgy106 := (hGvy99 (0) (by omega) (by decide) (by decide)).trans hgy105
    refine z_get (v := .ref (ad 919)) C (by omega) hay104 hgy106 rfl inA_X9 13 (by decide) q_362 rfl rfl dX9_writeLine_131 ?_
    refine z_ldcwS C skm17 rfl rfl dX9_writeLine_134 ?_
    have hBy107 : bldC cs advy99 gvy99 (Nvy99) (cnvy99) ((cap_y101 : Int)) := ⟨v_y101, _, _, _, by omega, by omega, by omega, by omega, by omega, by omega, hby_y101, h9_y101, hgv_y101⟩
    have hay109 : zAt advy99 (919) (ad 919) := (hAvy99 (919) (by omega)).trans hay100
    refine z_cV (As := [.ref (cs (100 + 17))]) (rest := []) (ci := 1) C (c_sbS l D A cs tt Nvy99 advy99 _ (by omega) _ _ hBy107 _ skm17 (show cnvy99 + 4 ≤ 81 by omega)) (by omega) hay109 h9_y101 rfl rfl mv_yJ4_append_15ec4 q_1196 hd_yJ4_append_15ec4 (by decide) (Nat.le_of_ble_eq_true rfl) (by decide) dX9_writeLine_137 rfl (kR fun avy108 Nvy108 advy108 gvy108 hvy108 => ?_)
    obtain ⟨hxvy108, ⟨hNvy108, hAvy108, hGvy108⟩, cnvy108, hkvy108, hBvy108⟩ := hvy108
    rw [hxvy108]
    obtain ⟨v_y110, cap_y110, ml_y110, b_y110, hv_y110, hvN_y110, hcap_y110, hcp_y110, hcn_y110, hml_y110, hby_y110, h9_y110, hgv_y110⟩ := id hBvy108
    have hay111 : zAt advy108 (v_y110) (advy108 v_y110) := rfl
    rw [show advy99 919 = ad 919 from hay109]
    have hlvy108 : cnvy99 + 4 ≤ cnvy108 ∧ cnvy108 ≤ cnvy99 + 4 := hkvy108
    refine z_aload_n C 1 dX9_writeLine_140 rfl ?_
    have hay112 : zAt advy99 (a) (ad a) := (hAvy99 (a) (by omega)).trans hay91
    have hay113 : zAt advy108 (a) (ad a) := (hAvy108 (a) (by omega)).trans hay112
    have hgy114 := (hGvy99 (a) (by omega) (by omega) (by omega)).trans hgy92
    have hgy115 := (hGvy108 (a) (by omega) (by omega) (by omega)).trans hgy114
    refine z_get (v := .ref (ad (a + 1))) C (by omega) hay113 hgy115 rfl inA_X3 2 (by decide) q_164 rfl rfl dX9_writeLine_141 ?_
    refine z_bipush (z := 48) C dX9_writeLine_144 (by decide) ?_
    refine z_iload_n C 2 dX9_writeLine_146 rfl ?_
    refine z_iadd C dX9_writeLine_147 ?_
    have hay116 : zAt advy99 (a + 1) (ad (a + 1)) := (hAvy99 (a + 1) (by omega)).trans hay93
    have hay117 : zAt advy108 (a + 1) (ad (a + 1)) := (hAvy108 (a + 1) (by omega)).trans hay116
    have hgy118 := (hGvy99 (a + 1) (by omega) (by omega) (by omega)).trans hgy94
    have hgy119 := (hGvy108 (a + 1) (by omega) (by omega) (by omega)).trans hgy118
    refine z_iald C (by omega) hay117 hgy119 ((48 + z).toNat) (by omega) (by omega) (by decide) dX9_writeLine_148 ?_
    obtain ⟨xy120, exy121, hxy122⟩ := zI_of (zI (r ((48 + z).toNat)))
    rw [exy121]
    have hBy123 : bldC cs advy108 gvy108 (Nvy108) (cnvy108) ((cap_y110 : Int)) := ⟨v_y110, _, _, _, by omega, by omega, by omega, by omega, by omega, by omega, hby_y110, h9_y110, hgv_y110⟩
    have hay125 : zAt advy108 (919) (ad 919) := (hAvy108 (919) (by omega)).trans hay109
    refine z_cV (As := [.int (zI (xy120))]) (rest := []) (ci := 1) C (c_sbI l D A cs tt Nvy108 advy108 _ (by omega) _ _ hBy123 (xy120) (by omega) (by omega)) (by omega) hay125 h9_y110 rfl rfl mv_yJ4_append_bf812 q_1181 hd_yJ4_append_bf812 (by decide) (Nat.le_of_ble_eq_true rfl) (by decide) dX9_writeLine_149 rfl (kR fun avy124 Nvy124 advy124 gvy124 hvy124 => ?_)
    obtain ⟨hxvy124, ⟨hNvy124, hAvy124, hGvy124⟩, cnvy124, hkvy124, hBvy124⟩ := hvy124
    rw [hxvy124]
    obtain ⟨v_y126, cap_y126, ml_y126, b_y126, hv_y126, hvN_y126, hcap_y126, hcp_y126, hcn_y126, hml_y126, hby_y126, h9_y126, hgv_y126⟩ := id hBvy124
    have hay127 : zAt advy124 (v_y126) (advy124 v_y126) := rfl
    rw [show advy108 919 = ad 919 from hay125]
    refine z_bipush (z := 59) C dX9_writeLine_152 (by decide) ?_
    have hBy128 : bldC cs advy124 gvy124 (Nvy124) (cnvy124) ((cap_y126 : Int)) := ⟨v_y126, _, _, _, by omega, by omega, by omega, by omega, by omega, by omega, hby_y126, h9_y126, hgv_y126⟩
    have hay130 : zAt advy124 (919) (ad 919) := (hAvy124 (919) (by omega)).trans hay125
    refine z_cV (As := [.int (zI (59))]) (rest := []) (ci := 1) C (c_sbC l D A cs tt Nvy124 advy124 _ (by omega) _ _ hBy128 (59) (by omega) (by omega)) (by omega) hay130 h9_y126 rfl rfl mv_yJ4_append_cf468 q_1182 hd_yJ4_append_cf468 (by decide) (Nat.le_of_ble_eq_true rfl) (by decide) dX9_writeLine_154 rfl (kR fun avy129 Nvy129 advy129 gvy129 hvy129 => ?_)
    obtain ⟨hxvy129, ⟨hNvy129, hAvy129, hGvy129⟩, cnvy129, hkvy129, hBvy129⟩ := hvy129
    rw [hxvy129]
    obtain ⟨v_y131, cap_y131, ml_y131, b_y131, hv_y131, hvN_y131, hcap_y131, hcp_y131, hcn_y131, hml_y131, hby_y131, h9_y131, hgv_y131⟩ := id hBvy129
    have hay132 : zAt advy129 (v_y131) (advy129 v_y131) := rfl
    rw [show advy124 919 = ad 919 from hay130]
    refine z_pop C dX9_writeLine_157 rfl ?_
    refine z_widen (k2 := 13) (n2 := 2132) (by decide) (by decide) ?_
    have hBy133 : bldC cs advy129 gvy129 (Nvy129) (cnvy129) (0) := ⟨v_y131, _, _, _, by omega, by omega, by omega, by omega, by omega, by omega, hby_y131, h9_y131, hgv_y131⟩
    have hGRy134 : GR N ad g (Nvy129) advy129 gvy129 := ⟨by omega, fun j j1 => by rw [hAvy129 _ (by omega)]; rw [hAvy124 _ (by omega)]; rw [hAvy108 _ (by omega)]; rw [hAvy99 _ (by omega)]; rw [hAvy87 _ (by omega)]; rw [hAvy70 _ (by omega)]; rw [hAvy54 _ (by omega)]; rw [hAvy47 _ (by omega)]; rw [hAvy26 _ (by omega)]; rw [hAvy21 _ (by omega)]; rw [hAvy8 _ (by omega)], fun j j1 j2 j3 => by rw [hGvy129 _ (by omega) (by omega) (by omega)]; rw [hGvy124 _ (by omega) (by omega) (by omega)]; rw [hGvy108 _ (by omega) (by omega) (by omega)]; rw [hGvy99 _ (by omega) (by omega) (by omega)]; rw [hGvy87 _ (by omega) (by omega) (by omega)]; rw [hGvy70 _ (by omega) (by omega) (by omega)]; rw [hGvy54 _ (by omega) (by omega) (by omega)]; rw [hGvy47 _ (by omega) (by omega) (by omega)]; rw [hGvy26 _ (by omega) (by omega) (by omega)]; rw [hGvy21 _ (by omega) (by omega) (by omega)]; rw [hGvy8 _ (by omega) (by omega) (by omega)]⟩
    exact z_vret C hr hlk dX9_writeLine_158 (by decide) (by decide) ⟨rfl, hGRy134, _, hBy133⟩
  · refine z_aload_n C 0 dX9_writeLine_84 rfl ?_
    have hay135 : zAt advy54 (0) (ad 0) := (hAvy54 (0) (by omega)).trans hay51
    have hay136 : zAt advy70 (0) (ad 0) := (hAvy70 (0) (by omega)).trans hay135
    have hgy137 := (hGvy54 (0) (by omega) (by decide) (by decide)).trans hgy52
    have hgy138 := (hGvy70 (0) (by omega) (by decide) (by decide)).trans hgy137
    refine z_get (v := .ref (ad 919)) C (by omega) hay136 hgy138 rfl inA_X9 13 (by decide) q_362 rfl rfl dX9_writeLine_85 ?_
    refine z_ldcwS C skm15 rfl rfl dX9_writeLine_88 ?_
    have hBy139 : bldC cs advy70 gvy70 (Nvy70) (cnvy70) ((cap_y72 : Int)) := ⟨v_y72, _, _, _, by omega, by omega, by omega, by omega, by omega, by omega, hby_y72, h9_y72, hgv_y72⟩
    have hay141 : zAt advy70 (919) (ad 919) := (hAvy70 (919) (by omega)).trans hay71
    refine z_cV (As := [.ref (cs (100 + 15))]) (rest := []) (ci := 1) C (c_sbS l D A cs tt Nvy70 advy70 _ (by omega) _ _ hBy139 _ skm15 (show cnvy70 + 5 ≤ 81 by omega)) (by omega) hay141 h9_y72 rfl rfl mv_yJ4_append_15ec4 q_1196 hd_yJ4_append_15ec4 (by decide) (Nat.le_of_ble_eq_true rfl) (by decide) dX9_writeLine_91 rfl (kR fun avy140 Nvy140 advy140 gvy140 hvy140 => ?_)
    obtain ⟨hxvy140, ⟨hNvy140, hAvy140, hGvy140⟩, cnvy140, hkvy140, hBvy140⟩ := hvy140
    rw [hxvy140]
    obtain ⟨v_y142, cap_y142, ml_y142, b_y142, hv_y142, hvN_y142, hcap_y142, hcp_y142, hcn_y142, hml_y142, hby_y142, h9_y142, hgv_y142⟩ := id hBvy140
    have hay143 : zAt advy140 (v_y142) (advy140 v_y142) := rfl
    rw [show advy70 919 = ad 919 from hay141]
    have hlvy140 : cnvy70 + 5 ≤ cnvy140 ∧ cnvy140 ≤ cnvy70 + 5 := hkvy140
    refine z_aload_n C 1 dX9_writeLine_94 rfl ?_
    have hay144 : zAt advy140 (a) (ad a) := (hAvy140 (a) (by omega)).trans hay74
    have hgy145 := (hGvy140 (a) (by omega) (by omega) (by omega)).trans hgy75
    refine z_get (v := .ref (ad (a + 1))) C (by omega) hay144 hgy145 rfl inA_X3 2 (by decide) q_164 rfl rfl dX9_writeLine_95 ?_
    refine z_bipush (z := 24) C dX9_writeLine_98 (by decide) ?_
    refine z_iload_n C 2 dX9_writeLine_100 rfl ?_
    refine z_iadd C dX9_writeLine_101 ?_
    have hay146 : zAt advy140 (a + 1) (ad (a + 1)) := (hAvy140 (a + 1) (by omega)).trans hay76
    have hgy147 := (hGvy140 (a + 1) (by omega) (by omega) (by omega)).trans hgy77
    refine z_iald C (by omega) hay146 hgy147 ((24 + z).toNat) (by omega) (by omega) (by decide) dX9_writeLine_102 ?_
    obtain ⟨xy148, exy149, hxy150⟩ := zI_of (zI (r ((24 + z).toNat)))
    rw [exy149]
    have hBy151 : bldC cs advy140 gvy140 (Nvy140) (cnvy140) ((cap_y142 : Int)) := ⟨v_y142, _, _, _, by omega, by omega, by omega, by omega, by omega, by omega, hby_y142, h9_y142, hgv_y142⟩
    have hay153 : zAt advy140 (919) (ad 919) := (hAvy140 (919) (by omega)).trans hay141
    refine z_cV (As := [.int (zI (xy148))]) (rest := []) (ci := 1) C (c_sbI l D A cs tt Nvy140 advy140 _ (by omega) _ _ hBy151 (xy148) (by omega) (by omega)) (by omega) hay153 h9_y142 rfl rfl mv_yJ4_append_bf812 q_1181 hd_yJ4_append_bf812 (by decide) (Nat.le_of_ble_eq_true rfl) (by decide) dX9_writeLine_103 rfl (kR fun avy152 Nvy152 advy152 gvy152 hvy152 => ?_)
    obtain ⟨hxvy152, ⟨hNvy152, hAvy152, hGvy152⟩, cnvy152, hkvy152, hBvy152⟩ := hvy152
    rw [hxvy152]
    obtain ⟨v_y154, cap_y154, ml_y154, b_y154, hv_y154, hvN_y154, hcap_y154, hcp_y154, hcn_y154, hml_y154, hby_y154, h9_y154, hgv_y154⟩ := id hBvy152
    have hay155 : zAt advy152 (v_y154) (advy152 v_y154) := rfl
    rw [show advy140 919 = ad 919 from hay153]
    refine z_pop C dX9_writeLine_106 rfl ?_
    refine z_aload_n C 0 dX9_writeLine_107 rfl ?_
    have hay156 : zAt advy140 (0) (ad 0) := (hAvy140 (0) (by omega)).trans hay136
    have hay157 : zAt advy152 (0) (ad 0) := (hAvy152 (0) (by omega)).trans hay156
    have hgy158 := (hGvy140 (0) (by omega) (by decide) (by decide)).trans hgy138
    have hgy159 := (hGvy152 (0) (by omega) (by decide) (by decide)).trans hgy158
    refine z_get (v := .ref (ad 919)) C (by omega) hay157 hgy159 rfl inA_X9 13 (by decide) q_362 rfl rfl dX9_writeLine_108 ?_
    refine z_ldcwS C skm16 rfl rfl dX9_writeLine_111 ?_
    have hBy160 : bldC cs advy152 gvy152 (Nvy152) (cnvy152) ((cap_y154 : Int)) := ⟨v_y154, _, _, _, by omega, by omega, by omega, by omega, by omega, by omega, hby_y154, h9_y154, hgv_y154⟩
    have hay162 : zAt advy152 (919) (ad 919) := (hAvy152 (919) (by omega)).trans hay153
    refine z_cV (As := [.ref (cs (100 + 16))]) (rest := []) (ci := 1) C (c_sbS l D A cs tt Nvy152 advy152 _ (by omega) _ _ hBy160 _ skm16 (show cnvy152 + 4 ≤ 81 by omega)) (by omega) hay162 h9_y154 rfl rfl mv_yJ4_append_15ec4 q_1196 hd_yJ4_append_15ec4 (by decide) (Nat.le_of_ble_eq_true rfl) (by decide) dX9_writeLine_114 rfl (kR fun avy161 Nvy161 advy161 gvy161 hvy161 => ?_)
    obtain ⟨hxvy161, ⟨hNvy161, hAvy161, hGvy161⟩, cnvy161, hkvy161, hBvy161⟩ := hvy161
    rw [hxvy161]
    obtain ⟨v_y163, cap_y163, ml_y163, b_y163, hv_y163, hvN_y163, hcap_y163, hcp_y163, hcn_y163, hml_y163, hby_y163, h9_y163, hgv_y163⟩ := id hBvy161
    have hay164 : zAt advy161 (v_y163) (advy161 v_y163) := rfl
    rw [show advy152 919 = ad 919 from hay162]
    have hlvy161 : cnvy152 + 4 ≤ cnvy161 ∧ cnvy161 ≤ cnvy152 + 4 := hkvy161
    refine z_aload_n C 1 dX9_writeLine_117 rfl ?_
    have hay165 : zAt advy152 (a) (ad a) := (hAvy152 (a) (by omega)).trans hay144
    have hay166 : zAt advy161 (a) (ad a) := (hAvy161 (a) (by omega)).trans hay165
    have hgy167 := (hGvy152 (a) (by omega) (by omega) (by omega)).trans hgy145
    have hgy168 := (hGvy161 (a) (by omega) (by omega) (by omega)).trans hgy167
    refine z_get (v := .ref (ad (a + 1))) C (by omega) hay166 hgy168 rfl inA_X3 2 (by decide) q_164 rfl rfl dX9_writeLine_118 ?_
    refine z_bipush (z := 36) C dX9_writeLine_121 (by decide) ?_
    refine z_iload_n C 2 dX9_writeLine_123 rfl ?_
    refine z_iadd C dX9_writeLine_124 ?_
    have hay169 : zAt advy152 (a + 1) (ad (a + 1)) := (hAvy152 (a + 1) (by omega)).trans hay146
    have hay170 : zAt advy161 (a + 1) (ad (a + 1)) := (hAvy161 (a + 1) (by omega)).trans hay169
    have hgy171 := (hGvy152 (a + 1) (by omega) (by omega) (by omega)).trans hgy147
    have hgy172 := (hGvy161 (a + 1) (by omega) (by omega) (by omega)).trans hgy171
    refine z_iald C (by omega) hay170 hgy172 ((36 + z).toNat) (by omega) (by omega) (by decide) dX9_writeLine_125 ?_
    obtain ⟨xy173, exy174, hxy175⟩ := zI_of (zI (r ((36 + z).toNat)))
    rw [exy174]
    have hBy176 : bldC cs advy161 gvy161 (Nvy161) (cnvy161) ((cap_y163 : Int)) := ⟨v_y163, _, _, _, by omega, by omega, by omega, by omega, by omega, by omega, hby_y163, h9_y163, hgv_y163⟩
    have hay178 : zAt advy161 (919) (ad 919) := (hAvy161 (919) (by omega)).trans hay162
    refine z_cV (As := [.int (zI (xy173))]) (rest := []) (ci := 1) C (c_sbI l D A cs tt Nvy161 advy161 _ (by omega) _ _ hBy176 (xy173) (by omega) (by omega)) (by omega) hay178 h9_y163 rfl rfl mv_yJ4_append_bf812 q_1181 hd_yJ4_append_bf812 (by decide) (Nat.le_of_ble_eq_true rfl) (by decide) dX9_writeLine_126 rfl (kR fun avy177 Nvy177 advy177 gvy177 hvy177 => ?_)
    obtain ⟨hxvy177, ⟨hNvy177, hAvy177, hGvy177⟩, cnvy177, hkvy177, hBvy177⟩ := hvy177
    rw [hxvy177]
    obtain ⟨v_y179, cap_y179, ml_y179, b_y179, hv_y179, hvN_y179, hcap_y179, hcp_y179, hcn_y179, hml_y179, hby_y179, h9_y179, hgv_y179⟩ := id hBvy177
    have hay180 : zAt advy177 (v_y179) (advy177 v_y179) := rfl
    rw [show advy161 919 = ad 919 from hay178]
    refine z_pop C dX9_writeLine_129 rfl ?_
    refine z_aload_n C 0 dX9_writeLine_130 rfl ?_
    have hay181 : zAt advy161 (0) (ad 0) := (hAvy161 (0) (by omega)).trans hay157
    have hay182 : zAt advy177 (0) (ad 0) := (hAvy177 (0) (by omega)).trans hay181
    have hgy183 := (hGvy161 (0) (by omega) (by decide) (by decide)).trans hgy159
    have hgy184 := (hGvy177 (0) (by omega) (by decide) (by decide)).trans hgy183
    refine z_get (v := .ref (ad 919)) C (by omega) hay182 hgy184 rfl inA_X9 13 (by decide) q_362 rfl rfl dX9_writeLine_131 ?_
    refine z_ldcwS C skm17 rfl rfl dX9_writeLine_134 ?_
    have hBy185 : bldC cs advy177 gvy177 (Nvy177) (cnvy177) ((cap_y179 : Int)) := ⟨v_y179, _, _, _, by omega, by omega, by omega, by omega, by omega, by omega, hby_y179, h9_y179, hgv_y179⟩
    have hay187 : zAt advy177 (919) (ad 919) := (hAvy177 (919) (by omega)).trans hay178
    refine z_cV (As := [.ref (cs (100 + 17))]) (rest := []) (ci := 1) C (c_sbS l D A cs tt Nvy177 advy177 _ (by omega) _ _ hBy185 _ skm17 (show cnvy177 + 4 ≤ 81 by omega)) (by omega) hay187 h9_y179 rfl rfl mv_yJ4_append_15ec4 q_1196 hd_yJ4_append_15ec4 (by decide) (Nat.le_of_ble_eq_true rfl) (by decide) dX9_writeLine_137 rfl (kR fun avy186 Nvy186 advy186 gvy186 hvy186 => ?_)
    obtain ⟨hxvy186, ⟨hNvy186, hAvy186, hGvy186⟩, cnvy186, hkvy186, hBvy186⟩ := hvy186
    rw [hxvy186]
    obtain ⟨v_y188, cap_y188, ml_y188, b_y188, hv_y188, hvN_y188, hcap_y188, hcp_y188, hcn_y188, hml_y188, hby_y188, h9_y188, hgv_y188⟩ := id hBvy186
    have hay189 : zAt advy186 (v_y188) (advy186 v_y188) := rfl
    rw [show advy177 919 = ad 919 from hay187]
    have hlvy186 : cnvy177 + 4 ≤ cnvy186 ∧ cnvy186 ≤ cnvy177 + 4 := hkvy186
    refine z_aload_n C 1 dX9_writeLine_140 rfl ?_
    have hay190 : zAt advy177 (a) (ad a) := (hAvy177 (a) (by omega)).trans hay166
    have hay191 : zAt advy186 (a) (ad a) := (hAvy186 (a) (by omega)).trans hay190
    have hgy192 := (hGvy177 (a) (by omega) (by omega) (by omega)).trans hgy168
    have hgy193 := (hGvy186 (a) (by omega) (by omega) (by omega)).trans hgy192
    refine z_get (v := .ref (ad (a + 1))) C (by omega) hay191 hgy193 rfl inA_X3 2 (by decide) q_164 rfl rfl dX9_writeLine_141 ?_
    refine z_bipush (z := 48) C dX9_writeLine_144 (by decide) ?_
    refine z_iload_n C 2 dX9_writeLine_146 rfl ?_
    refine z_iadd C dX9_writeLine_147 ?_
    have hay194 : zAt advy177 (a + 1) (ad (a + 1)) := (hAvy177 (a + 1) (by omega)).trans hay170
    have hay195 : zAt advy186 (a + 1) (ad (a + 1)) := (hAvy186 (a + 1) (by omega)).trans hay194
    have hgy196 := (hGvy177 (a + 1) (by omega) (by omega) (by omega)).trans hgy172
    have hgy197 := (hGvy186 (a + 1) (by omega) (by omega) (by omega)).trans hgy196
    refine z_iald C (by omega) hay195 hgy197 ((48 + z).toNat) (by omega) (by omega) (by decide) dX9_writeLine_148 ?_
    obtain ⟨xy198, exy199, hxy200⟩ := zI_of (zI (r ((48 + z).toNat)))
    rw [exy199]
    have hBy201 : bldC cs advy186 gvy186 (Nvy186) (cnvy186) ((cap_y188 : Int)) := ⟨v_y188, _, _, _, by omega, by omega, by omega, by omega, by omega, by omega, hby_y188, h9_y188, hgv_y188⟩
    have hay203 : zAt advy186 (919) (ad 919) := (hAvy186 (919) (by omega)).trans hay187
    refine z_cV (As := [.int (zI (xy198))]) (rest := []) (ci := 1) C (c_sbI l D A cs tt Nvy186 advy186 _ (by omega) _ _ hBy201 (xy198) (by omega) (by omega)) (by omega) hay203 h9_y188 rfl rfl mv_yJ4_append_bf812 q_1181 hd_yJ4_append_bf812 (by decide) (Nat.le_of_ble_eq_true rfl) (by decide) dX9_writeLine_149 rfl (kR fun avy202 Nvy202 advy202 gvy202 hvy202 => ?_)
    obtain ⟨hxvy202, ⟨hNvy202, hAvy202, hGvy202⟩, cnvy202, hkvy202, hBvy202⟩ := hvy202
    rw [hxvy202]
    obtain ⟨v_y204, cap_y204, ml_y204, b_y204, hv_y204, hvN_y204, hcap_y204, hcp_y204, hcn_y204, hml_y204, hby_y204, h9_y204, hgv_y204⟩ := id hBvy202
    have hay205 : zAt advy202 (v_y204) (advy202 v_y204) := rfl
    rw [show advy186 919 = ad 919 from hay203]
    refine z_bipush (z := 59) C dX9_writeLine_152 (by decide) ?_
    have hBy206 : bldC cs advy202 gvy202 (Nvy202) (cnvy202) ((cap_y204 : Int)) := ⟨v_y204, _, _, _, by omega, by omega, by omega, by omega, by omega, by omega, hby_y204, h9_y204, hgv_y204⟩
    have hay208 : zAt advy202 (919) (ad 919) := (hAvy202 (919) (by omega)).trans hay203
    refine z_cV (As := [.int (zI (59))]) (rest := []) (ci := 1) C (c_sbC l D A cs tt Nvy202 advy202 _ (by omega) _ _ hBy206 (59) (by omega) (by omega)) (by omega) hay208 h9_y204 rfl rfl mv_yJ4_append_cf468 q_1182 hd_yJ4_append_cf468 (by decide) (Nat.le_of_ble_eq_true rfl) (by decide) dX9_writeLine_154 rfl (kR fun avy207 Nvy207 advy207 gvy207 hvy207 => ?_)
    obtain ⟨hxvy207, ⟨hNvy207, hAvy207, hGvy207⟩, cnvy207, hkvy207, hBvy207⟩ := hvy207
    rw [hxvy207]
    obtain ⟨v_y209, cap_y209, ml_y209, b_y209, hv_y209, hvN_y209, hcap_y209, hcp_y209, hcn_y209, hml_y209, hby_y209, h9_y209, hgv_y209⟩ := id hBvy207
    have hay210 : zAt advy207 (v_y209) (advy207 v_y209) := rfl
    rw [show advy202 919 = ad 919 from hay208]
    refine z_pop C dX9_writeLine_157 rfl ?_
    have hBy211 : bldC cs advy207 gvy207 (Nvy207) (cnvy207) (0) := ⟨v_y209, _, _, _, by omega, by omega, by omega, by omega, by omega, by omega, hby_y209, h9_y209, hgv_y209⟩
    have hGRy212 : GR N ad g (Nvy207) advy207 gvy207 := ⟨by omega, fun j j1 => by rw [hAvy207 _ (by omega)]; rw [hAvy202 _ (by omega)]; rw [hAvy186 _ (by omega)]; rw [hAvy177 _ (by omega)]; rw [hAvy161 _ (by omega)]; rw [hAvy152 _ (by omega)]; rw [hAvy140 _ (by omega)]; rw [hAvy70 _ (by omega)]; rw [hAvy54 _ (by omega)]; rw [hAvy47 _ (by omega)]; rw [hAvy26 _ (by omega)]; rw [hAvy21 _ (by omega)]; rw [hAvy8 _ (by omega)], fun j j1 j2 j3 => by rw [hGvy207 _ (by omega) (by omega) (by omega)]; rw [hGvy202 _ (by omega) (by omega) (by omega)]; rw [hGvy186 _ (by omega) (by omega) (by omega)]; rw [hGvy177 _ (by omega) (by omega) (by omega)]; rw [hGvy161 _ (by omega) (by omega) (by omega)]; rw [hGvy152 _ (by omega) (by omega) (by omega)]; rw [hGvy140 _ (by omega) (by omega) (by omega)]; rw [hGvy70 _ (by omega) (by omega) (by omega)]; rw [hGvy54 _ (by omega) (by omega) (by omega)]; rw [hGvy47 _ (by omega) (by omega) (by omega)]; rw [hGvy26 _ (by omega) (by omega) (by omega)]; rw [hGvy21 _ (by omega) (by omega) (by omega)]; rw [hGvy8 _ (by omega) (by omega) (by omega)]⟩
    exact z_vret C hr hlk dX9_writeLine_158 (by decide) (by decide) ⟨rfl, hGRy212, _, hBy211⟩

