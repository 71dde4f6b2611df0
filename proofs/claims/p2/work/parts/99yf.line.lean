set_option maxRecDepth 100000 in
set_option maxHeartbeats 4000000 in
theorem c_writeLine (l : Launch) (D : va_G) (A : Nat → Prop) (cs : Nat → ClassId) (tt : Nat) (N : Nat) (ad : Nat → Nat) (g : Nat → va_E) (hN : 952 ≤ N) (cn cp : Int) (hB : bldC cs ad g N cn cp) (a : Nat) (haN : a + 2 ≤ 919) (ha0 : 0 < a) (sz ro : Int) (r : Nat → Int) (hz : 0 ≤ sz ∧ sz ≤ 12) (ha : isPack cs ad g a sz ro r) (hr9 : ∀ j, -2147483648 ≤ r j ∧ r j ≤ 2147483647) (t fp im : Int) (h0 : g 0 = rcC ad t fp im) (z : Int) (hzz : 0 ≤ z ∧ z < sz) : zM l yX9_writeLine cX9_writeLine 3 none ({ frames := 8, cells := 13, slots := 2132, locals := 480 } : Room) D A cs tt N ad g [.ref (ad 0), .ref (ad a), .int (zI (z))] (rV fun N' ad' g' => GR N ad g N' ad' g' ∧ ∃ cn' : Int, bldC cs ad' g' N' cn' 0) := by
  have hay1 : zAt ad (919) (ad 919) := rfl
  obtain ⟨v_y2, cap_y2, ml_y2, b_y2, hv_y2, hvN_y2, hcap_y2, hcp_y2, hcn_y2, hml_y2, hby_y2, h9_y2, hgv_y2⟩ := id hB
  have hay3 : zAt ad (v_y2) (ad v_y2) := rfl
  have hay4 : zAt ad (a) (ad a) := rfl
  have hay5 : zAt ad (a + 1) (ad (a + 1)) := rfl
  have hay6 : zAt ad (0) (ad 0) := rfl
  refine z_of (by decide) (Nat.le_of_ble_eq_true rfl) ?_
  intro p e s m below meth c C hr hlk hnm
  refine z_lv (lv' := [(0, .ref (ad 0)), (1, .ref (ad a)), (2, .int (zI (z)))]) [0, 1, 2] rfl ?_
  refine z_aload_n C 0 dX9_writeLine_0 rfl ?_
  refine z_get (v := .ref (ad 919)) C (by omega) hay6 h0 rfl inA_X9 13 (by decide) q_362 rfl rfl dX9_writeLine_1 ?_
  refine z_iconst (z := 0) C dX9_writeLine_4 rfl ?_
  have hBy7 : bldC cs ad g (N) (cn) ((cap_y2 : Int)) := ⟨v_y2, _, _, _, by omega, by omega, by omega, by omega, by omega, by omega, hby_y2, h9_y2, hgv_y2⟩
  refine z_cV (As := [.int (zI (0))]) (rest := []) (ci := 1) C (c_sbSetLen l D A cs tt N ad _ (by omega) _ _ hBy7) (by omega) hay1 h9_y2 rfl rfl mv_yJ4_setLength_d00df q_978 hd_yJ4_setLength_d00df (by decide) (Nat.le_of_ble_eq_true rfl) (by decide) dX9_writeLine_5 rfl (kV fun Nvy8 advy8 gvy8 hvy8 => ?_)
  obtain ⟨⟨hNvy8, hAvy8, hGvy8⟩, hBvy8⟩ := hvy8
  obtain ⟨v_y9, cap_y9, ml_y9, b_y9, hv_y9, hvN_y9, hcap_y9, hcp_y9, hcn_y9, hml_y9, hby_y9, h9_y9, hgv_y9⟩ := id hBvy8
  have hay10 : zAt advy8 (v_y9) (advy8 v_y9) := rfl
  refine z_aload_n C 0 dX9_writeLine_8 rfl ?_
  have hay11 : zAt advy8 (0) (ad 0) := (hAvy8 (0) (by omega)).trans hay6
  have hgy12 := (hGvy8 (0) (by omega) (by decide) (by decide)).trans h0
  refine z_get (v := .ref (ad 919)) C (by omega) hay11 hgy12 rfl inA_X9 13 (by decide) q_362 rfl rfl dX9_writeLine_9 ?_
  refine z_aload_n C 1 dX9_writeLine_12 rfl ?_
  have hay13 : zAt advy8 (a) (ad a) := (hAvy8 (a) (by omega)).trans hay4
  have hgy14 := (hGvy8 (a) (by omega) (by omega) (by omega)).trans ha.1
  refine z_get (v := .ref (ad (a + 1))) C (by omega) hay13 hgy14 rfl inA_X3 2 (by decide) q_164 rfl rfl dX9_writeLine_13 ?_
  refine z_bipush (z := 72) C dX9_writeLine_16 (by decide) ?_
  refine z_iload_n C 2 dX9_writeLine_18 rfl ?_
  refine z_iadd C dX9_writeLine_19 ?_
  have hay15 : zAt advy8 (a + 1) (ad (a + 1)) := (hAvy8 (a + 1) (by omega)).trans hay5
  have hgy16 := (hGvy8 (a + 1) (by omega) (by omega) (by omega)).trans ha.2
  refine z_iald C (by omega) hay15 hgy16 ((72 + z).toNat) (by omega) (by omega) (by decide) dX9_writeLine_20 ?_
  have hBy17 : bldC cs advy8 gvy8 (Nvy8) (0) ((cap_y9 : Int)) := ⟨v_y9, _, _, _, by omega, by omega, by omega, by omega, by omega, by omega, hby_y9, h9_y9, hgv_y9⟩
  have hay19 : zAt advy8 (919) (ad 919) := (hAvy8 (919) (by omega)).trans hay1
  refine z_cV (As := [.int (zI (r ((72 + z).toNat)))]) (rest := []) (ci := 1) C (c_sbI l D A cs tt Nvy8 advy8 _ (by omega) _ _ hBy17 (r ((72 + z).toNat)) (by omega) (by omega)) (by omega) hay19 h9_y9 rfl rfl mv_yJ4_append_bf812 q_1181 hd_yJ4_append_bf812 (by decide) (Nat.le_of_ble_eq_true rfl) (by decide) dX9_writeLine_21 rfl (kR fun avy18 Nvy18 advy18 gvy18 hvy18 => ?_)
  obtain ⟨hxvy18, ⟨hNvy18, hAvy18, hGvy18⟩, cnvy18, hkvy18, hBvy18⟩ := hvy18
  rw [hxvy18]
  obtain ⟨v_y20, cap_y20, ml_y20, b_y20, hv_y20, hvN_y20, hcap_y20, hcp_y20, hcn_y20, hml_y20, hby_y20, h9_y20, hgv_y20⟩ := id hBvy18
  have hay21 : zAt advy18 (v_y20) (advy18 v_y20) := rfl
  rw [show advy8 919 = ad 919 from hay19]
  refine z_bipush (z := 32) C dX9_writeLine_24 (by decide) ?_
  have hBy22 : bldC cs advy18 gvy18 (Nvy18) (cnvy18) ((cap_y20 : Int)) := ⟨v_y20, _, _, _, by omega, by omega, by omega, by omega, by omega, by omega, hby_y20, h9_y20, hgv_y20⟩
  have hay24 : zAt advy18 (919) (ad 919) := (hAvy18 (919) (by omega)).trans hay19
  refine z_cV (As := [.int (zI (32))]) (rest := []) (ci := 1) C (c_sbC l D A cs tt Nvy18 advy18 _ (by omega) _ _ hBy22 (32) (by omega) (by omega)) (by omega) hay24 h9_y20 rfl rfl mv_yJ4_append_cf468 q_1182 hd_yJ4_append_cf468 (by decide) (Nat.le_of_ble_eq_true rfl) (by decide) dX9_writeLine_26 rfl (kR fun avy23 Nvy23 advy23 gvy23 hvy23 => ?_)
  obtain ⟨hxvy23, ⟨hNvy23, hAvy23, hGvy23⟩, cnvy23, hkvy23, hBvy23⟩ := hvy23
  rw [hxvy23]
  obtain ⟨v_y25, cap_y25, ml_y25, b_y25, hv_y25, hvN_y25, hcap_y25, hcp_y25, hcn_y25, hml_y25, hby_y25, h9_y25, hgv_y25⟩ := id hBvy23
  have hay26 : zAt advy23 (v_y25) (advy23 v_y25) := rfl
  rw [show advy18 919 = ad 919 from hay24]
  refine z_pop C dX9_writeLine_29 rfl ?_
  refine z_aload_n C 0 dX9_writeLine_30 rfl ?_
  have hay27 : zAt advy18 (0) (ad 0) := (hAvy18 (0) (by omega)).trans hay11
  have hay28 : zAt advy23 (0) (ad 0) := (hAvy23 (0) (by omega)).trans hay27
  have hgy29 := (hGvy18 (0) (by omega) (by decide) (by decide)).trans hgy12
  have hgy30 := (hGvy23 (0) (by omega) (by decide) (by decide)).trans hgy29
  refine z_get (v := .ref (ad 919)) C (by omega) hay28 hgy30 rfl inA_X9 13 (by decide) q_362 rfl rfl dX9_writeLine_31 ?_
  refine z_aload_n C 1 dX9_writeLine_34 rfl ?_
  have hay31 : zAt advy18 (a) (ad a) := (hAvy18 (a) (by omega)).trans hay13
  have hay32 : zAt advy23 (a) (ad a) := (hAvy23 (a) (by omega)).trans hay31
  have hgy33 := (hGvy18 (a) (by omega) (by omega) (by omega)).trans hgy14
  have hgy34 := (hGvy23 (a) (by omega) (by omega) (by omega)).trans hgy33
  refine z_get (v := .ref (ad (a + 1))) C (by omega) hay32 hgy34 rfl inA_X3 2 (by decide) q_164 rfl rfl dX9_writeLine_35 ?_
  refine z_iconst (z := 0) C dX9_writeLine_38 rfl ?_
  refine z_iload_n C 2 dX9_writeLine_39 rfl ?_
  refine z_iadd C dX9_writeLine_40 ?_
  have hay35 : zAt advy18 (a + 1) (ad (a + 1)) := (hAvy18 (a + 1) (by omega)).trans hay15
  have hay36 : zAt advy23 (a + 1) (ad (a + 1)) := (hAvy23 (a + 1) (by omega)).trans hay35
  have hgy37 := (hGvy18 (a + 1) (by omega) (by omega) (by omega)).trans hgy16
  have hgy38 := (hGvy23 (a + 1) (by omega) (by omega) (by omega)).trans hgy37
  refine z_iald C (by omega) hay36 hgy38 ((0 + z).toNat) (by omega) (by omega) (by decide) dX9_writeLine_41 ?_
  obtain ⟨xy39, exy40, hxy41⟩ := zI_of (zI (r ((0 + z).toNat)))
  rw [exy40]
  refine z_cS (As := [.int (zI (xy39))]) (rest := [.ref (ad 919)]) C (c_kindWord l D A cs tt N ad _ (xy39) (by omega)) ms_yX9_kindWord q_1195 hd_yX9_kindWord (by decide) (Nat.le_of_ble_eq_true rfl) (by decide) dX9_writeLine_42 rfl (kR0 fun avy42 gvy42 hvy42 => ?_)
  obtain ⟨⟨qvy42, hqvy42, rfl⟩, rfl⟩ := hvy42
  have hLqvy42 := SKL_len qvy42 hqvy42
  have hBy43 : bldC cs advy23 gvy23 (Nvy23) (cnvy23) ((cap_y25 : Int)) := ⟨v_y25, _, _, _, by omega, by omega, by omega, by omega, by omega, by omega, hby_y25, h9_y25, hgv_y25⟩
  have hay45 : zAt advy23 (919) (ad 919) := (hAvy23 (919) (by omega)).trans hay24
  refine z_cV (As := [.ref (cs (100 + qvy42.2.2.2.1))]) (rest := []) (ci := 1) C (c_sbS l D A cs tt Nvy23 advy23 _ (by omega) _ _ hBy43 qvy42 hqvy42 (by omega)) (by omega) hay45 h9_y25 rfl rfl mv_yJ4_append_15ec4 q_1196 hd_yJ4_append_15ec4 (by decide) (Nat.le_of_ble_eq_true rfl) (by decide) dX9_writeLine_45 rfl (kR fun avy44 Nvy44 advy44 gvy44 hvy44 => ?_)
  obtain ⟨hxvy44, ⟨hNvy44, hAvy44, hGvy44⟩, cnvy44, hkvy44, hBvy44⟩ := hvy44
  rw [hxvy44]
  obtain ⟨v_y46, cap_y46, ml_y46, b_y46, hv_y46, hvN_y46, hcap_y46, hcp_y46, hcn_y46, hml_y46, hby_y46, h9_y46, hgv_y46⟩ := id hBvy44
  have hay47 : zAt advy44 (v_y46) (advy44 v_y46) := rfl
  rw [show advy23 919 = ad 919 from hay45]
  refine z_pop C dX9_writeLine_48 rfl ?_
  refine z_aload_n C 0 dX9_writeLine_49 rfl ?_
  have hay48 : zAt advy44 (0) (ad 0) := (hAvy44 (0) (by omega)).trans hay28
  have hgy49 := (hGvy44 (0) (by omega) (by decide) (by decide)).trans hgy30
  refine z_get (v := .ref (ad 919)) C (by omega) hay48 hgy49 rfl inA_X9 13 (by decide) q_362 rfl rfl dX9_writeLine_50 ?_
  refine z_ldcwS C skm14 rfl rfl dX9_writeLine_53 ?_
  have hBy50 : bldC cs advy44 gvy44 (Nvy44) (cnvy44) ((cap_y46 : Int)) := ⟨v_y46, _, _, _, by omega, by omega, by omega, by omega, by omega, by omega, hby_y46, h9_y46, hgv_y46⟩
  have hay52 : zAt advy44 (919) (ad 919) := (hAvy44 (919) (by omega)).trans hay45
  refine z_cV (As := [.ref (cs (100 + 14))]) (rest := []) (ci := 1) C (c_sbS l D A cs tt Nvy44 advy44 _ (by omega) _ _ hBy50 _ skm14 (show cnvy44 + 4 ≤ 81 by omega)) (by omega) hay52 h9_y46 rfl rfl mv_yJ4_append_15ec4 q_1196 hd_yJ4_append_15ec4 (by decide) (Nat.le_of_ble_eq_true rfl) (by decide) dX9_writeLine_56 rfl (kR fun avy51 Nvy51 advy51 gvy51 hvy51 => ?_)
  obtain ⟨hxvy51, ⟨hNvy51, hAvy51, hGvy51⟩, cnvy51, hkvy51, hBvy51⟩ := hvy51
  rw [hxvy51]
  obtain ⟨v_y53, cap_y53, ml_y53, b_y53, hv_y53, hvN_y53, hcap_y53, hcp_y53, hcn_y53, hml_y53, hby_y53, h9_y53, hgv_y53⟩ := id hBvy51
  have hay54 : zAt advy51 (v_y53) (advy51 v_y53) := rfl
  rw [show advy44 919 = ad 919 from hay52]
  have hlvy51 : cnvy44 + 4 ≤ cnvy51 ∧ cnvy51 ≤ cnvy44 + 4 := hkvy51
  refine z_aload_n C 1 dX9_writeLine_59 rfl ?_
  have hay55 : zAt advy44 (a) (ad a) := (hAvy44 (a) (by omega)).trans hay32
  have hay56 : zAt advy51 (a) (ad a) := (hAvy51 (a) (by omega)).trans hay55
  have hgy57 := (hGvy44 (a) (by omega) (by omega) (by omega)).trans hgy34
  have hgy58 := (hGvy51 (a) (by omega) (by omega) (by omega)).trans hgy57
  refine z_get (v := .ref (ad (a + 1))) C (by omega) hay56 hgy58 rfl inA_X3 2 (by decide) q_164 rfl rfl dX9_writeLine_60 ?_
  refine z_bipush (z := 12) C dX9_writeLine_63 (by decide) ?_
  refine z_iload_n C 2 dX9_writeLine_65 rfl ?_
  refine z_iadd C dX9_writeLine_66 ?_
  have hay59 : zAt advy44 (a + 1) (ad (a + 1)) := (hAvy44 (a + 1) (by omega)).trans hay36
  have hay60 : zAt advy51 (a + 1) (ad (a + 1)) := (hAvy51 (a + 1) (by omega)).trans hay59
  have hgy61 := (hGvy44 (a + 1) (by omega) (by omega) (by omega)).trans hgy38
  have hgy62 := (hGvy51 (a + 1) (by omega) (by omega) (by omega)).trans hgy61
  refine z_iald C (by omega) hay60 hgy62 ((12 + z).toNat) (by omega) (by omega) (by decide) dX9_writeLine_67 ?_
  have hBy63 : bldC cs advy51 gvy51 (Nvy51) (cnvy51) ((cap_y53 : Int)) := ⟨v_y53, _, _, _, by omega, by omega, by omega, by omega, by omega, by omega, hby_y53, h9_y53, hgv_y53⟩
  have hay65 : zAt advy51 (919) (ad 919) := (hAvy51 (919) (by omega)).trans hay52
  refine z_cV (As := [.int (zI (r ((12 + z).toNat)))]) (rest := []) (ci := 1) C (c_sbI l D A cs tt Nvy51 advy51 _ (by omega) _ _ hBy63 (r ((12 + z).toNat)) (by omega) (by omega)) (by omega) hay65 h9_y53 rfl rfl mv_yJ4_append_bf812 q_1181 hd_yJ4_append_bf812 (by decide) (Nat.le_of_ble_eq_true rfl) (by decide) dX9_writeLine_68 rfl (kR fun avy64 Nvy64 advy64 gvy64 hvy64 => ?_)
  obtain ⟨hxvy64, ⟨hNvy64, hAvy64, hGvy64⟩, cnvy64, hkvy64, hBvy64⟩ := hvy64
  rw [hxvy64]
  obtain ⟨v_y66, cap_y66, ml_y66, b_y66, hv_y66, hvN_y66, hcap_y66, hcp_y66, hcn_y66, hml_y66, hby_y66, h9_y66, hgv_y66⟩ := id hBvy64
  have hay67 : zAt advy64 (v_y66) (advy64 v_y66) := rfl
  rw [show advy51 919 = ad 919 from hay65]
  refine z_pop C dX9_writeLine_71 rfl ?_
  refine z_aload_n C 1 dX9_writeLine_72 rfl ?_
  have hay68 : zAt advy64 (a) (ad a) := (hAvy64 (a) (by omega)).trans hay56
  have hgy69 := (hGvy64 (a) (by omega) (by omega) (by omega)).trans hgy58
  refine z_get (v := .ref (ad (a + 1))) C (by omega) hay68 hgy69 rfl inA_X3 2 (by decide) q_164 rfl rfl dX9_writeLine_73 ?_
  refine z_bipush (z := 24) C dX9_writeLine_76 (by decide) ?_
  refine z_iload_n C 2 dX9_writeLine_78 rfl ?_
  refine z_iadd C dX9_writeLine_79 ?_
  have hay70 : zAt advy64 (a + 1) (ad (a + 1)) := (hAvy64 (a + 1) (by omega)).trans hay60
  have hgy71 := (hGvy64 (a + 1) (by omega) (by omega) (by omega)).trans hgy62
  refine z_iald C (by omega) hay70 hgy71 ((24 + z).toNat) (by omega) (by omega) (by decide) dX9_writeLine_80 ?_
  obtain ⟨xy72, exy73, hxy74⟩ := zI_of (zI (r ((24 + z).toNat)))
  rw [exy73]
  refine z_if_le (tgt := 107) C dX9_writeLine_81 (by decide) (by omega) (fun hby75 => ?_) (fun hby75 => ?_)
  · refine z_aload_n C 0 dX9_writeLine_107 rfl ?_
    have hay76 : zAt advy51 (0) (ad 0) := (hAvy51 (0) (by omega)).trans hay48
    have hay77 : zAt advy64 (0) (ad 0) := (hAvy64 (0) (by omega)).trans hay76
    have hgy78 := (hGvy51 (0) (by omega) (by decide) (by decide)).trans hgy49
    have hgy79 := (hGvy64 (0) (by omega) (by decide) (by decide)).trans hgy78
    refine z_get (v := .ref (ad 919)) C (by omega) hay77 hgy79 rfl inA_X9 13 (by decide) q_362 rfl rfl dX9_writeLine_108 ?_
    refine z_ldcwS C skm16 rfl rfl dX9_writeLine_111 ?_
    have hBy80 : bldC cs advy64 gvy64 (Nvy64) (cnvy64) ((cap_y66 : Int)) := ⟨v_y66, _, _, _, by omega, by omega, by omega, by omega, by omega, by omega, hby_y66, h9_y66, hgv_y66⟩
    have hay82 : zAt advy64 (919) (ad 919) := (hAvy64 (919) (by omega)).trans hay65
    refine z_cV (As := [.ref (cs (100 + 16))]) (rest := []) (ci := 1) C (c_sbS l D A cs tt Nvy64 advy64 _ (by omega) _ _ hBy80 _ skm16 (show cnvy64 + 4 ≤ 81 by omega)) (by omega) hay82 h9_y66 rfl rfl mv_yJ4_append_15ec4 q_1196 hd_yJ4_append_15ec4 (by decide) (Nat.le_of_ble_eq_true rfl) (by decide) dX9_writeLine_114 rfl (kR fun avy81 Nvy81 advy81 gvy81 hvy81 => ?_)
    obtain ⟨hxvy81, ⟨hNvy81, hAvy81, hGvy81⟩, cnvy81, hkvy81, hBvy81⟩ := hvy81
    rw [hxvy81]
    obtain ⟨v_y83, cap_y83, ml_y83, b_y83, hv_y83, hvN_y83, hcap_y83, hcp_y83, hcn_y83, hml_y83, hby_y83, h9_y83, hgv_y83⟩ := id hBvy81
    have hay84 : zAt advy81 (v_y83) (advy81 v_y83) := rfl
    rw [show advy64 919 = ad 919 from hay82]
    have hlvy81 : cnvy64 + 4 ≤ cnvy81 ∧ cnvy81 ≤ cnvy64 + 4 := hkvy81
    refine z_aload_n C 1 dX9_writeLine_117 rfl ?_
    have hay85 : zAt advy81 (a) (ad a) := (hAvy81 (a) (by omega)).trans hay68
    have hgy86 := (hGvy81 (a) (by omega) (by omega) (by omega)).trans hgy69
    refine z_get (v := .ref (ad (a + 1))) C (by omega) hay85 hgy86 rfl inA_X3 2 (by decide) q_164 rfl rfl dX9_writeLine_118 ?_
    refine z_bipush (z := 36) C dX9_writeLine_121 (by decide) ?_
    refine z_iload_n C 2 dX9_writeLine_123 rfl ?_
    refine z_iadd C dX9_writeLine_124 ?_
    have hay87 : zAt advy81 (a + 1) (ad (a + 1)) := (hAvy81 (a + 1) (by omega)).trans hay70
    have hgy88 := (hGvy81 (a + 1) (by omega) (by omega) (by omega)).trans hgy71
    refine z_iald C (by omega) hay87 hgy88 ((36 + z).toNat) (by omega) (by omega) (by decide) dX9_writeLine_125 ?_
    have hBy89 : bldC cs advy81 gvy81 (Nvy81) (cnvy81) ((cap_y83 : Int)) := ⟨v_y83, _, _, _, by omega, by omega, by omega, by omega, by omega, by omega, hby_y83, h9_y83, hgv_y83⟩
    have hay91 : zAt advy81 (919) (ad 919) := (hAvy81 (919) (by omega)).trans hay82
    refine z_cV (As := [.int (zI (r ((36 + z).toNat)))]) (rest := []) (ci := 1) C (c_sbI l D A cs tt Nvy81 advy81 _ (by omega) _ _ hBy89 (r ((36 + z).toNat)) (by omega) (by omega)) (by omega) hay91 h9_y83 rfl rfl mv_yJ4_append_bf812 q_1181 hd_yJ4_append_bf812 (by decide) (Nat.le_of_ble_eq_true rfl) (by decide) dX9_writeLine_126 rfl (kR fun avy90 Nvy90 advy90 gvy90 hvy90 => ?_)
    obtain ⟨hxvy90, ⟨hNvy90, hAvy90, hGvy90⟩, cnvy90, hkvy90, hBvy90⟩ := hvy90
    rw [hxvy90]
    obtain ⟨v_y92, cap_y92, ml_y92, b_y92, hv_y92, hvN_y92, hcap_y92, hcp_y92, hcn_y92, hml_y92, hby_y92, h9_y92, hgv_y92⟩ := id hBvy90
    have hay93 : zAt advy90 (v_y92) (advy90 v_y92) := rfl
    rw [show advy81 919 = ad 919 from hay91]
    refine z_pop C dX9_writeLine_129 rfl ?_
    refine z_aload_n C 0 dX9_writeLine_130 rfl ?_
    have hay94 : zAt advy81 (0) (ad 0) := (hAvy81 (0) (by omega)).trans hay77
    have hay95 : zAt advy90 (0) (ad 0) := (hAvy90 (0) (by omega)).trans hay94
    have hgy96 := (hGvy81 (0) (by omega) (by decide) (by decide)).trans hgy79
    have hgy97 := (hGvy90 (0) (by omega) (by decide) (by decide)).trans hgy96
    refine z_get (v := .ref (ad 919)) C (by omega) hay95 hgy97 rfl inA_X9 13 (by decide) q_362 rfl rfl dX9_writeLine_131 ?_
    refine z_ldcwS C skm17 rfl rfl dX9_writeLine_134 ?_
    have hBy98 : bldC cs advy90 gvy90 (Nvy90) (cnvy90) ((cap_y92 : Int)) := ⟨v_y92, _, _, _, by omega, by omega, by omega, by omega, by omega, by omega, hby_y92, h9_y92, hgv_y92⟩
    have hay100 : zAt advy90 (919) (ad 919) := (hAvy90 (919) (by omega)).trans hay91
    refine z_cV (As := [.ref (cs (100 + 17))]) (rest := []) (ci := 1) C (c_sbS l D A cs tt Nvy90 advy90 _ (by omega) _ _ hBy98 _ skm17 (show cnvy90 + 4 ≤ 81 by omega)) (by omega) hay100 h9_y92 rfl rfl mv_yJ4_append_15ec4 q_1196 hd_yJ4_append_15ec4 (by decide) (Nat.le_of_ble_eq_true rfl) (by decide) dX9_writeLine_137 rfl (kR fun avy99 Nvy99 advy99 gvy99 hvy99 => ?_)
    obtain ⟨hxvy99, ⟨hNvy99, hAvy99, hGvy99⟩, cnvy99, hkvy99, hBvy99⟩ := hvy99
    rw [hxvy99]
    obtain ⟨v_y101, cap_y101, ml_y101, b_y101, hv_y101, hvN_y101, hcap_y101, hcp_y101, hcn_y101, hml_y101, hby_y101, h9_y101, hgv_y101⟩ := id hBvy99
    have hay102 : zAt advy99 (v_y101) (advy99 v_y101) := rfl
    rw [show advy90 919 = ad 919 from hay100]
    have hlvy99 : cnvy90 + 4 ≤ cnvy99 ∧ cnvy99 ≤ cnvy90 + 4 := hkvy99
    refine z_aload_n C 1 dX9_writeLine_140 rfl ?_
    have hay103 : zAt advy90 (a) (ad a) := (hAvy90 (a) (by omega)).trans hay85
    have hay104 : zAt advy99 (a) (ad a) := (hAvy99 (a) (by omega)).trans hay103
    have hgy105 := (hGvy90 (a) (by omega) (by omega) (by omega)).trans hgy86
    have hgy106 := (hGvy99 (a) (by omega) (by omega) (by omega)).trans hgy105
    refine z_get (v := .ref (ad (a + 1))) C (by omega) hay104 hgy106 rfl inA_X3 2 (by decide) q_164 rfl rfl dX9_writeLine_141 ?_
    refine z_bipush (z := 48) C dX9_writeLine_144 (by decide) ?_
    refine z_iload_n C 2 dX9_writeLine_146 rfl ?_
    refine z_iadd C dX9_writeLine_147 ?_
    have hay107 : zAt advy90 (a + 1) (ad (a + 1)) := (hAvy90 (a + 1) (by omega)).trans hay87
    have hay108 : zAt advy99 (a + 1) (ad (a + 1)) := (hAvy99 (a + 1) (by omega)).trans hay107
    have hgy109 := (hGvy90 (a + 1) (by omega) (by omega) (by omega)).trans hgy88
    have hgy110 := (hGvy99 (a + 1) (by omega) (by omega) (by omega)).trans hgy109
    refine z_iald C (by omega) hay108 hgy110 ((48 + z).toNat) (by omega) (by omega) (by decide) dX9_writeLine_148 ?_
    have hBy111 : bldC cs advy99 gvy99 (Nvy99) (cnvy99) ((cap_y101 : Int)) := ⟨v_y101, _, _, _, by omega, by omega, by omega, by omega, by omega, by omega, hby_y101, h9_y101, hgv_y101⟩
    have hay113 : zAt advy99 (919) (ad 919) := (hAvy99 (919) (by omega)).trans hay100
    refine z_cV (As := [.int (zI (r ((48 + z).toNat)))]) (rest := []) (ci := 1) C (c_sbI l D A cs tt Nvy99 advy99 _ (by omega) _ _ hBy111 (r ((48 + z).toNat)) (by omega) (by omega)) (by omega) hay113 h9_y101 rfl rfl mv_yJ4_append_bf812 q_1181 hd_yJ4_append_bf812 (by decide) (Nat.le_of_ble_eq_true rfl) (by decide) dX9_writeLine_149 rfl (kR fun avy112 Nvy112 advy112 gvy112 hvy112 => ?_)
    obtain ⟨hxvy112, ⟨hNvy112, hAvy112, hGvy112⟩, cnvy112, hkvy112, hBvy112⟩ := hvy112
    rw [hxvy112]
    obtain ⟨v_y114, cap_y114, ml_y114, b_y114, hv_y114, hvN_y114, hcap_y114, hcp_y114, hcn_y114, hml_y114, hby_y114, h9_y114, hgv_y114⟩ := id hBvy112
    have hay115 : zAt advy112 (v_y114) (advy112 v_y114) := rfl
    rw [show advy99 919 = ad 919 from hay113]
    refine z_bipush (z := 59) C dX9_writeLine_152 (by decide) ?_
    have hBy116 : bldC cs advy112 gvy112 (Nvy112) (cnvy112) ((cap_y114 : Int)) := ⟨v_y114, _, _, _, by omega, by omega, by omega, by omega, by omega, by omega, hby_y114, h9_y114, hgv_y114⟩
    have hay118 : zAt advy112 (919) (ad 919) := (hAvy112 (919) (by omega)).trans hay113
    refine z_cV (As := [.int (zI (59))]) (rest := []) (ci := 1) C (c_sbC l D A cs tt Nvy112 advy112 _ (by omega) _ _ hBy116 (59) (by omega) (by omega)) (by omega) hay118 h9_y114 rfl rfl mv_yJ4_append_cf468 q_1182 hd_yJ4_append_cf468 (by decide) (Nat.le_of_ble_eq_true rfl) (by decide) dX9_writeLine_154 rfl (kR fun avy117 Nvy117 advy117 gvy117 hvy117 => ?_)
    obtain ⟨hxvy117, ⟨hNvy117, hAvy117, hGvy117⟩, cnvy117, hkvy117, hBvy117⟩ := hvy117
    rw [hxvy117]
    obtain ⟨v_y119, cap_y119, ml_y119, b_y119, hv_y119, hvN_y119, hcap_y119, hcp_y119, hcn_y119, hml_y119, hby_y119, h9_y119, hgv_y119⟩ := id hBvy117
    have hay120 : zAt advy117 (v_y119) (advy117 v_y119) := rfl
    rw [show advy112 919 = ad 919 from hay118]
    refine z_pop C dX9_writeLine_157 rfl ?_
    refine z_widen (k2 := 13) (n2 := 2132) (by decide) (by decide) ?_
    have hBy121 : bldC cs advy117 gvy117 (Nvy117) (cnvy117) (0) := ⟨v_y119, _, _, _, by omega, by omega, by omega, by omega, by omega, by omega, hby_y119, h9_y119, hgv_y119⟩
    have hGRy122 : GR N ad g (Nvy117) advy117 gvy117 := ⟨by omega, fun j j1 => by rw [hAvy117 _ (by omega)]; rw [hAvy112 _ (by omega)]; rw [hAvy99 _ (by omega)]; rw [hAvy90 _ (by omega)]; rw [hAvy81 _ (by omega)]; rw [hAvy64 _ (by omega)]; rw [hAvy51 _ (by omega)]; rw [hAvy44 _ (by omega)]; rw [hAvy23 _ (by omega)]; rw [hAvy18 _ (by omega)]; rw [hAvy8 _ (by omega)], fun j j1 j2 j3 => by rw [hGvy117 _ (by omega) (by omega) (by omega)]; rw [hGvy112 _ (by omega) (by omega) (by omega)]; rw [hGvy99 _ (by omega) (by omega) (by omega)]; rw [hGvy90 _ (by omega) (by omega) (by omega)]; rw [hGvy81 _ (by omega) (by omega) (by omega)]; rw [hGvy64 _ (by omega) (by omega) (by omega)]; rw [hGvy51 _ (by omega) (by omega) (by omega)]; rw [hGvy44 _ (by omega) (by omega) (by omega)]; rw [hGvy23 _ (by omega) (by omega) (by omega)]; rw [hGvy18 _ (by omega) (by omega) (by omega)]; rw [hGvy8 _ (by omega) (by omega) (by omega)]⟩
    exact z_vret C hr hlk dX9_writeLine_158 (by decide) (by decide) ⟨rfl, hGRy122, _, hBy121⟩
  · refine z_aload_n C 0 dX9_writeLine_84 rfl ?_
    have hay123 : zAt advy51 (0) (ad 0) := (hAvy51 (0) (by omega)).trans hay48
    have hay124 : zAt advy64 (0) (ad 0) := (hAvy64 (0) (by omega)).trans hay123
    have hgy125 := (hGvy51 (0) (by omega) (by decide) (by decide)).trans hgy49
    have hgy126 := (hGvy64 (0) (by omega) (by decide) (by decide)).trans hgy125
    refine z_get (v := .ref (ad 919)) C (by omega) hay124 hgy126 rfl inA_X9 13 (by decide) q_362 rfl rfl dX9_writeLine_85 ?_
    refine z_ldcwS C skm15 rfl rfl dX9_writeLine_88 ?_
    have hBy127 : bldC cs advy64 gvy64 (Nvy64) (cnvy64) ((cap_y66 : Int)) := ⟨v_y66, _, _, _, by omega, by omega, by omega, by omega, by omega, by omega, hby_y66, h9_y66, hgv_y66⟩
    have hay129 : zAt advy64 (919) (ad 919) := (hAvy64 (919) (by omega)).trans hay65
    refine z_cV (As := [.ref (cs (100 + 15))]) (rest := []) (ci := 1) C (c_sbS l D A cs tt Nvy64 advy64 _ (by omega) _ _ hBy127 _ skm15 (show cnvy64 + 5 ≤ 81 by omega)) (by omega) hay129 h9_y66 rfl rfl mv_yJ4_append_15ec4 q_1196 hd_yJ4_append_15ec4 (by decide) (Nat.le_of_ble_eq_true rfl) (by decide) dX9_writeLine_91 rfl (kR fun avy128 Nvy128 advy128 gvy128 hvy128 => ?_)
    obtain ⟨hxvy128, ⟨hNvy128, hAvy128, hGvy128⟩, cnvy128, hkvy128, hBvy128⟩ := hvy128
    rw [hxvy128]
    obtain ⟨v_y130, cap_y130, ml_y130, b_y130, hv_y130, hvN_y130, hcap_y130, hcp_y130, hcn_y130, hml_y130, hby_y130, h9_y130, hgv_y130⟩ := id hBvy128
    have hay131 : zAt advy128 (v_y130) (advy128 v_y130) := rfl
    rw [show advy64 919 = ad 919 from hay129]
    have hlvy128 : cnvy64 + 5 ≤ cnvy128 ∧ cnvy128 ≤ cnvy64 + 5 := hkvy128
    refine z_aload_n C 1 dX9_writeLine_94 rfl ?_
    have hay132 : zAt advy128 (a) (ad a) := (hAvy128 (a) (by omega)).trans hay68
    have hgy133 := (hGvy128 (a) (by omega) (by omega) (by omega)).trans hgy69
    refine z_get (v := .ref (ad (a + 1))) C (by omega) hay132 hgy133 rfl inA_X3 2 (by decide) q_164 rfl rfl dX9_writeLine_95 ?_
    refine z_bipush (z := 24) C dX9_writeLine_98 (by decide) ?_
    refine z_iload_n C 2 dX9_writeLine_100 rfl ?_
    refine z_iadd C dX9_writeLine_101 ?_
    have hay134 : zAt advy128 (a + 1) (ad (a + 1)) := (hAvy128 (a + 1) (by omega)).trans hay70
    have hgy135 := (hGvy128 (a + 1) (by omega) (by omega) (by omega)).trans hgy71
    refine z_iald C (by omega) hay134 hgy135 ((24 + z).toNat) (by omega) (by omega) (by decide) dX9_writeLine_102 ?_
    have hBy136 : bldC cs advy128 gvy128 (Nvy128) (cnvy128) ((cap_y130 : Int)) := ⟨v_y130, _, _, _, by omega, by omega, by omega, by omega, by omega, by omega, hby_y130, h9_y130, hgv_y130⟩
    have hay138 : zAt advy128 (919) (ad 919) := (hAvy128 (919) (by omega)).trans hay129
    refine z_cV (As := [.int (zI (r ((24 + z).toNat)))]) (rest := []) (ci := 1) C (c_sbI l D A cs tt Nvy128 advy128 _ (by omega) _ _ hBy136 (r ((24 + z).toNat)) (by omega) (by omega)) (by omega) hay138 h9_y130 rfl rfl mv_yJ4_append_bf812 q_1181 hd_yJ4_append_bf812 (by decide) (Nat.le_of_ble_eq_true rfl) (by decide) dX9_writeLine_103 rfl (kR fun avy137 Nvy137 advy137 gvy137 hvy137 => ?_)
    obtain ⟨hxvy137, ⟨hNvy137, hAvy137, hGvy137⟩, cnvy137, hkvy137, hBvy137⟩ := hvy137
    rw [hxvy137]
    obtain ⟨v_y139, cap_y139, ml_y139, b_y139, hv_y139, hvN_y139, hcap_y139, hcp_y139, hcn_y139, hml_y139, hby_y139, h9_y139, hgv_y139⟩ := id hBvy137
    have hay140 : zAt advy137 (v_y139) (advy137 v_y139) := rfl
    rw [show advy128 919 = ad 919 from hay138]
    refine z_pop C dX9_writeLine_106 rfl ?_
    refine z_aload_n C 0 dX9_writeLine_107 rfl ?_
    have hay141 : zAt advy128 (0) (ad 0) := (hAvy128 (0) (by omega)).trans hay124
    have hay142 : zAt advy137 (0) (ad 0) := (hAvy137 (0) (by omega)).trans hay141
    have hgy143 := (hGvy128 (0) (by omega) (by decide) (by decide)).trans hgy126
    have hgy144 := (hGvy137 (0) (by omega) (by decide) (by decide)).trans hgy143
    refine z_get (v := .ref (ad 919)) C (by omega) hay142 hgy144 rfl inA_X9 13 (by decide) q_362 rfl rfl dX9_writeLine_108 ?_
    refine z_ldcwS C skm16 rfl rfl dX9_writeLine_111 ?_
    have hBy145 : bldC cs advy137 gvy137 (Nvy137) (cnvy137) ((cap_y139 : Int)) := ⟨v_y139, _, _, _, by omega, by omega, by omega, by omega, by omega, by omega, hby_y139, h9_y139, hgv_y139⟩
    have hay147 : zAt advy137 (919) (ad 919) := (hAvy137 (919) (by omega)).trans hay138
    refine z_cV (As := [.ref (cs (100 + 16))]) (rest := []) (ci := 1) C (c_sbS l D A cs tt Nvy137 advy137 _ (by omega) _ _ hBy145 _ skm16 (show cnvy137 + 4 ≤ 81 by omega)) (by omega) hay147 h9_y139 rfl rfl mv_yJ4_append_15ec4 q_1196 hd_yJ4_append_15ec4 (by decide) (Nat.le_of_ble_eq_true rfl) (by decide) dX9_writeLine_114 rfl (kR fun avy146 Nvy146 advy146 gvy146 hvy146 => ?_)
    obtain ⟨hxvy146, ⟨hNvy146, hAvy146, hGvy146⟩, cnvy146, hkvy146, hBvy146⟩ := hvy146
    rw [hxvy146]
    obtain ⟨v_y148, cap_y148, ml_y148, b_y148, hv_y148, hvN_y148, hcap_y148, hcp_y148, hcn_y148, hml_y148, hby_y148, h9_y148, hgv_y148⟩ := id hBvy146
    have hay149 : zAt advy146 (v_y148) (advy146 v_y148) := rfl
    rw [show advy137 919 = ad 919 from hay147]
    have hlvy146 : cnvy137 + 4 ≤ cnvy146 ∧ cnvy146 ≤ cnvy137 + 4 := hkvy146
    refine z_aload_n C 1 dX9_writeLine_117 rfl ?_
    have hay150 : zAt advy137 (a) (ad a) := (hAvy137 (a) (by omega)).trans hay132
    have hay151 : zAt advy146 (a) (ad a) := (hAvy146 (a) (by omega)).trans hay150
    have hgy152 := (hGvy137 (a) (by omega) (by omega) (by omega)).trans hgy133
    have hgy153 := (hGvy146 (a) (by omega) (by omega) (by omega)).trans hgy152
    refine z_get (v := .ref (ad (a + 1))) C (by omega) hay151 hgy153 rfl inA_X3 2 (by decide) q_164 rfl rfl dX9_writeLine_118 ?_
    refine z_bipush (z := 36) C dX9_writeLine_121 (by decide) ?_
    refine z_iload_n C 2 dX9_writeLine_123 rfl ?_
    refine z_iadd C dX9_writeLine_124 ?_
    have hay154 : zAt advy137 (a + 1) (ad (a + 1)) := (hAvy137 (a + 1) (by omega)).trans hay134
    have hay155 : zAt advy146 (a + 1) (ad (a + 1)) := (hAvy146 (a + 1) (by omega)).trans hay154
    have hgy156 := (hGvy137 (a + 1) (by omega) (by omega) (by omega)).trans hgy135
    have hgy157 := (hGvy146 (a + 1) (by omega) (by omega) (by omega)).trans hgy156
    refine z_iald C (by omega) hay155 hgy157 ((36 + z).toNat) (by omega) (by omega) (by decide) dX9_writeLine_125 ?_
    have hBy158 : bldC cs advy146 gvy146 (Nvy146) (cnvy146) ((cap_y148 : Int)) := ⟨v_y148, _, _, _, by omega, by omega, by omega, by omega, by omega, by omega, hby_y148, h9_y148, hgv_y148⟩
    have hay160 : zAt advy146 (919) (ad 919) := (hAvy146 (919) (by omega)).trans hay147
    refine z_cV (As := [.int (zI (r ((36 + z).toNat)))]) (rest := []) (ci := 1) C (c_sbI l D A cs tt Nvy146 advy146 _ (by omega) _ _ hBy158 (r ((36 + z).toNat)) (by omega) (by omega)) (by omega) hay160 h9_y148 rfl rfl mv_yJ4_append_bf812 q_1181 hd_yJ4_append_bf812 (by decide) (Nat.le_of_ble_eq_true rfl) (by decide) dX9_writeLine_126 rfl (kR fun avy159 Nvy159 advy159 gvy159 hvy159 => ?_)
    obtain ⟨hxvy159, ⟨hNvy159, hAvy159, hGvy159⟩, cnvy159, hkvy159, hBvy159⟩ := hvy159
    rw [hxvy159]
    obtain ⟨v_y161, cap_y161, ml_y161, b_y161, hv_y161, hvN_y161, hcap_y161, hcp_y161, hcn_y161, hml_y161, hby_y161, h9_y161, hgv_y161⟩ := id hBvy159
    have hay162 : zAt advy159 (v_y161) (advy159 v_y161) := rfl
    rw [show advy146 919 = ad 919 from hay160]
    refine z_pop C dX9_writeLine_129 rfl ?_
    refine z_aload_n C 0 dX9_writeLine_130 rfl ?_
    have hay163 : zAt advy146 (0) (ad 0) := (hAvy146 (0) (by omega)).trans hay142
    have hay164 : zAt advy159 (0) (ad 0) := (hAvy159 (0) (by omega)).trans hay163
    have hgy165 := (hGvy146 (0) (by omega) (by decide) (by decide)).trans hgy144
    have hgy166 := (hGvy159 (0) (by omega) (by decide) (by decide)).trans hgy165
    refine z_get (v := .ref (ad 919)) C (by omega) hay164 hgy166 rfl inA_X9 13 (by decide) q_362 rfl rfl dX9_writeLine_131 ?_
    refine z_ldcwS C skm17 rfl rfl dX9_writeLine_134 ?_
    have hBy167 : bldC cs advy159 gvy159 (Nvy159) (cnvy159) ((cap_y161 : Int)) := ⟨v_y161, _, _, _, by omega, by omega, by omega, by omega, by omega, by omega, hby_y161, h9_y161, hgv_y161⟩
    have hay169 : zAt advy159 (919) (ad 919) := (hAvy159 (919) (by omega)).trans hay160
    refine z_cV (As := [.ref (cs (100 + 17))]) (rest := []) (ci := 1) C (c_sbS l D A cs tt Nvy159 advy159 _ (by omega) _ _ hBy167 _ skm17 (show cnvy159 + 4 ≤ 81 by omega)) (by omega) hay169 h9_y161 rfl rfl mv_yJ4_append_15ec4 q_1196 hd_yJ4_append_15ec4 (by decide) (Nat.le_of_ble_eq_true rfl) (by decide) dX9_writeLine_137 rfl (kR fun avy168 Nvy168 advy168 gvy168 hvy168 => ?_)
    obtain ⟨hxvy168, ⟨hNvy168, hAvy168, hGvy168⟩, cnvy168, hkvy168, hBvy168⟩ := hvy168
    rw [hxvy168]
    obtain ⟨v_y170, cap_y170, ml_y170, b_y170, hv_y170, hvN_y170, hcap_y170, hcp_y170, hcn_y170, hml_y170, hby_y170, h9_y170, hgv_y170⟩ := id hBvy168
    have hay171 : zAt advy168 (v_y170) (advy168 v_y170) := rfl
    rw [show advy159 919 = ad 919 from hay169]
    have hlvy168 : cnvy159 + 4 ≤ cnvy168 ∧ cnvy168 ≤ cnvy159 + 4 := hkvy168
    refine z_aload_n C 1 dX9_writeLine_140 rfl ?_
    have hay172 : zAt advy159 (a) (ad a) := (hAvy159 (a) (by omega)).trans hay151
    have hay173 : zAt advy168 (a) (ad a) := (hAvy168 (a) (by omega)).trans hay172
    have hgy174 := (hGvy159 (a) (by omega) (by omega) (by omega)).trans hgy153
    have hgy175 := (hGvy168 (a) (by omega) (by omega) (by omega)).trans hgy174
    refine z_get (v := .ref (ad (a + 1))) C (by omega) hay173 hgy175 rfl inA_X3 2 (by decide) q_164 rfl rfl dX9_writeLine_141 ?_
    refine z_bipush (z := 48) C dX9_writeLine_144 (by decide) ?_
    refine z_iload_n C 2 dX9_writeLine_146 rfl ?_
    refine z_iadd C dX9_writeLine_147 ?_
    have hay176 : zAt advy159 (a + 1) (ad (a + 1)) := (hAvy159 (a + 1) (by omega)).trans hay155
    have hay177 : zAt advy168 (a + 1) (ad (a + 1)) := (hAvy168 (a + 1) (by omega)).trans hay176
    have hgy178 := (hGvy159 (a + 1) (by omega) (by omega) (by omega)).trans hgy157
    have hgy179 := (hGvy168 (a + 1) (by omega) (by omega) (by omega)).trans hgy178
    refine z_iald C (by omega) hay177 hgy179 ((48 + z).toNat) (by omega) (by omega) (by decide) dX9_writeLine_148 ?_
    have hBy180 : bldC cs advy168 gvy168 (Nvy168) (cnvy168) ((cap_y170 : Int)) := ⟨v_y170, _, _, _, by omega, by omega, by omega, by omega, by omega, by omega, hby_y170, h9_y170, hgv_y170⟩
    have hay182 : zAt advy168 (919) (ad 919) := (hAvy168 (919) (by omega)).trans hay169
    refine z_cV (As := [.int (zI (r ((48 + z).toNat)))]) (rest := []) (ci := 1) C (c_sbI l D A cs tt Nvy168 advy168 _ (by omega) _ _ hBy180 (r ((48 + z).toNat)) (by omega) (by omega)) (by omega) hay182 h9_y170 rfl rfl mv_yJ4_append_bf812 q_1181 hd_yJ4_append_bf812 (by decide) (Nat.le_of_ble_eq_true rfl) (by decide) dX9_writeLine_149 rfl (kR fun avy181 Nvy181 advy181 gvy181 hvy181 => ?_)
    obtain ⟨hxvy181, ⟨hNvy181, hAvy181, hGvy181⟩, cnvy181, hkvy181, hBvy181⟩ := hvy181
    rw [hxvy181]
    obtain ⟨v_y183, cap_y183, ml_y183, b_y183, hv_y183, hvN_y183, hcap_y183, hcp_y183, hcn_y183, hml_y183, hby_y183, h9_y183, hgv_y183⟩ := id hBvy181
    have hay184 : zAt advy181 (v_y183) (advy181 v_y183) := rfl
    rw [show advy168 919 = ad 919 from hay182]
    refine z_bipush (z := 59) C dX9_writeLine_152 (by decide) ?_
    have hBy185 : bldC cs advy181 gvy181 (Nvy181) (cnvy181) ((cap_y183 : Int)) := ⟨v_y183, _, _, _, by omega, by omega, by omega, by omega, by omega, by omega, hby_y183, h9_y183, hgv_y183⟩
    have hay187 : zAt advy181 (919) (ad 919) := (hAvy181 (919) (by omega)).trans hay182
    refine z_cV (As := [.int (zI (59))]) (rest := []) (ci := 1) C (c_sbC l D A cs tt Nvy181 advy181 _ (by omega) _ _ hBy185 (59) (by omega) (by omega)) (by omega) hay187 h9_y183 rfl rfl mv_yJ4_append_cf468 q_1182 hd_yJ4_append_cf468 (by decide) (Nat.le_of_ble_eq_true rfl) (by decide) dX9_writeLine_154 rfl (kR fun avy186 Nvy186 advy186 gvy186 hvy186 => ?_)
    obtain ⟨hxvy186, ⟨hNvy186, hAvy186, hGvy186⟩, cnvy186, hkvy186, hBvy186⟩ := hvy186
    rw [hxvy186]
    obtain ⟨v_y188, cap_y188, ml_y188, b_y188, hv_y188, hvN_y188, hcap_y188, hcp_y188, hcn_y188, hml_y188, hby_y188, h9_y188, hgv_y188⟩ := id hBvy186
    have hay189 : zAt advy186 (v_y188) (advy186 v_y188) := rfl
    rw [show advy181 919 = ad 919 from hay187]
    refine z_pop C dX9_writeLine_157 rfl ?_
    have hBy190 : bldC cs advy186 gvy186 (Nvy186) (cnvy186) (0) := ⟨v_y188, _, _, _, by omega, by omega, by omega, by omega, by omega, by omega, hby_y188, h9_y188, hgv_y188⟩
    have hGRy191 : GR N ad g (Nvy186) advy186 gvy186 := ⟨by omega, fun j j1 => by rw [hAvy186 _ (by omega)]; rw [hAvy181 _ (by omega)]; rw [hAvy168 _ (by omega)]; rw [hAvy159 _ (by omega)]; rw [hAvy146 _ (by omega)]; rw [hAvy137 _ (by omega)]; rw [hAvy128 _ (by omega)]; rw [hAvy64 _ (by omega)]; rw [hAvy51 _ (by omega)]; rw [hAvy44 _ (by omega)]; rw [hAvy23 _ (by omega)]; rw [hAvy18 _ (by omega)]; rw [hAvy8 _ (by omega)], fun j j1 j2 j3 => by rw [hGvy186 _ (by omega) (by omega) (by omega)]; rw [hGvy181 _ (by omega) (by omega) (by omega)]; rw [hGvy168 _ (by omega) (by omega) (by omega)]; rw [hGvy159 _ (by omega) (by omega) (by omega)]; rw [hGvy146 _ (by omega) (by omega) (by omega)]; rw [hGvy137 _ (by omega) (by omega) (by omega)]; rw [hGvy128 _ (by omega) (by omega) (by omega)]; rw [hGvy64 _ (by omega) (by omega) (by omega)]; rw [hGvy51 _ (by omega) (by omega) (by omega)]; rw [hGvy44 _ (by omega) (by omega) (by omega)]; rw [hGvy23 _ (by omega) (by omega) (by omega)]; rw [hGvy18 _ (by omega) (by omega) (by omega)]; rw [hGvy8 _ (by omega) (by omega) (by omega)]⟩
    exact z_vret C hr hlk dX9_writeLine_158 (by decide) (by decide) ⟨rfl, hGRy191, _, hBy190⟩

