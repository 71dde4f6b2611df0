set_option maxRecDepth 100000 in
set_option maxHeartbeats 4000000 in
theorem c_X7_readSlope (l : Launch) (D : va_G) (A : Nat → Prop) (cs : Nat → ClassId) (tt : Nat) (N : Nat) (ad : Nat → Nat) (g : Nat → va_E) (hN : 952 ≤ N) (co : Int) (tp : Nat → Int) (hR : okRun cs ad g co tp) (hP9 : okPlan cs ad g 883) : zM l yX7_readSlope cX7_readSlope 4 none ({ frames := 6, cells := 0, slots := 0, locals := 360 } : Room) D A cs tt N ad g [.ref (ad 2), .ref (ad 883)] (rV0 N ad fun g' => (∃ co' : Int, okRun cs ad g' co' tp ∧ co ≤ co') ∧ okPlan cs ad g' 883 ∧ ∀ j, j ≠ 2 → (j < 883 ∨ 890 ≤ j) → g' j = g j) := by
  obtain ⟨pldy1, endy1, tydy1, a9dy1, bedy1, tkdy1, tddy1, hAdy1, hTdy1, hcdy1, hddy1⟩ := id hR
  have hay2 : zAt ad (2) (ad 2) := rfl
  have hay3 : zAt ad (1) (ad 1) := rfl
  have hay4 : zAt ad (883) (ad 883) := rfl
  obtain ⟨sloy5, hooy5, uaoy5, stoy5, opoy5, aioy5, faoy5, muoy5, tboy5, hsloy5, hhooy5, hpoy5⟩ := id hP9
  have hay6 : zAt ad (883 + 1) (ad (883 + 1)) := rfl
  have hay7 : zAt ad (883 + 2) (ad (883 + 2)) := rfl
  have hay8 : zAt ad (883 + 3) (ad (883 + 3)) := rfl
  have hay9 : zAt ad (883 + 4) (ad (883 + 4)) := rfl
  have hay10 : zAt ad (883 + 5) (ad (883 + 5)) := rfl
  have hay11 : zAt ad (883 + 6) (ad (883 + 6)) := rfl
  refine z_of (by decide) (Nat.le_of_ble_eq_true rfl) ?_
  intro p e s m below meth c C hr hlk hnm
  refine z_lv (lv' := [(0, .ref (ad 2)), (1, .ref (ad 883))]) [0, 1] rfl ?_
  refine z_aload_n C 1 dX7_readSlope_0 rfl ?_
  refine z_get (v := .int (zI (sloy5))) C (by omega) hay4 hpoy5.1 rfl inA_X5 0 (by decide) q_89 rfl rfl dX7_readSlope_1 ?_
  refine z_iconst (z := 4) C dX7_readSlope_4 rfl ?_
  refine z_icmp_lt (tgt := 17) C dX7_readSlope_5 (by decide) (by omega) (by omega) (fun hby12 => ?_) (fun hby12 => ?_)
  · refine z_aload_n C 0 dX7_readSlope_17 rfl ?_
    have hruny13 : okRun cs ad g (co) tp := ⟨_, _, _, _, _, _, _, by omega, by omega, hcdy1, hddy1⟩
    refine z_cV (As := []) (rest := []) (ci := 9) C (c_X7_take l D A cs tt N ad _ (by omega) _ tp hruny13) (by omega) hay2 hcdy1 rfl rfl mv_yX7_take q_813 hd_yX7_take (by decide) (Nat.le_of_ble_eq_true rfl) (by decide) dX7_readSlope_18 rfl (kV0 fun gvy14 hvy14 => ?_)
    obtain ⟨hkvy14, hfvy14⟩ := hvy14
    obtain ⟨pldy15, endy15, tydy15, a9dy15, bedy15, tkdy15, tddy15, hAdy15, hTdy15, hcdy15, hddy15⟩ := id hkvy14
    refine z_aload_n C 0 dX7_readSlope_21 rfl ?_
    refine z_iconst (z := 0) C dX7_readSlope_22 rfl ?_
    refine z_bipush (z := 90) C dX7_readSlope_23 (by decide) ?_
    have hruny16 : okRun cs ad gvy14 (co) tp := ⟨_, _, _, _, _, _, _, by omega, by omega, hcdy15, hddy15⟩
    refine z_cV (As := [.int (zI (0)), .int (zI (90))]) (rest := []) (ci := 9) C (c_X7_number l D A cs tt N ad _ (by omega) _ tp hruny16 (0) (by omega) (90) (by omega)) (by omega) hay2 hcdy15 rfl rfl mv_yX7_number q_817 hd_yX7_number (by decide) (Nat.le_of_ble_eq_true rfl) (by decide) dX7_readSlope_25 rfl (kI0 fun vy17 gvy17 hvy17 => ?_)
    obtain ⟨hrvy17, ⟨covy17, hkvy17, hnvy17⟩, hfvy17⟩ := hvy17
    obtain ⟨pldy18, endy18, tydy18, a9dy18, bedy18, tkdy18, tddy18, hAdy18, hTdy18, hcdy18, hddy18⟩ := id hkvy17
    refine z_istore_n (lv' := [(2, .int (zI (vy17))), (0, .ref (ad 2)), (1, .ref (ad 883))]) C dX7_readSlope_28 rfl (by decide) rfl ?_
    refine z_aload_n C 1 dX7_readSlope_29 rfl ?_
    refine z_iconst (z := 0) C dX7_readSlope_30 rfl ?_
    refine z_bipush (z := 20) C dX7_readSlope_31 (by decide) ?_
    have hruny19 : okRun cs ad gvy17 (covy17) tp := ⟨_, _, _, _, _, _, _, by omega, by omega, hcdy18, hddy18⟩
    refine z_cV (As := [.int (zI (0)), .int (zI (20))]) (rest := []) (ci := 9) C (c_X7_number l D A cs tt N ad _ (by omega) _ tp hruny19 (0) (by omega) (20) (by omega)) (by omega) hay2 hcdy18 rfl rfl mv_yX7_number q_817 hd_yX7_number (by decide) (Nat.le_of_ble_eq_true rfl) (by decide) dX7_readSlope_33 rfl (kI0 fun vy20 gvy20 hvy20 => ?_)
    obtain ⟨hrvy20, ⟨covy20, hkvy20, hnvy20⟩, hfvy20⟩ := hvy20
    obtain ⟨pldy21, endy21, tydy21, a9dy21, bedy21, tkdy21, tddy21, hAdy21, hTdy21, hcdy21, hddy21⟩ := id hkvy20
    refine z_istore_n (lv' := [(3, .int (zI (vy20))), (2, .int (zI (vy17))), (0, .ref (ad 2)), (1, .ref (ad 883))]) C dX7_readSlope_36 rfl (by decide) rfl ?_
    refine z_aload_n C 2 dX7_readSlope_37 rfl ?_
    have hruny22 : okRun cs ad gvy20 (covy20) tp := ⟨_, _, _, _, _, _, _, by omega, by omega, hcdy21, hddy21⟩
    refine z_cV (As := []) (rest := []) (ci := 9) C (c_X7_close l D A cs tt N ad _ (by omega) _ tp hruny22 ) (by omega) hay2 hcdy21 rfl rfl mv_yX7_close q_821 hd_yX7_close (by decide) (Nat.le_of_ble_eq_true rfl) (by decide) dX7_readSlope_38 rfl (kV0 fun gvy23 hvy23 => ?_)
    obtain ⟨⟨covy23, hkvy23, hnvy23⟩, hfvy23⟩ := hvy23
    obtain ⟨pldy24, endy24, tydy24, a9dy24, bedy24, tkdy24, tddy24, hAdy24, hTdy24, hcdy24, hddy24⟩ := id hkvy23
    refine z_aload_n C 2 dX7_readSlope_41 rfl ?_
    refine z_get (v := .int (zI (covy23))) C (by omega) hay2 hcdy24 rfl inA_X7 1 (by decide) q_45 rfl rfl dX7_readSlope_42 ?_
    refine z_if_ne (tgt := 78) C dX7_readSlope_45 (by decide) (by omega) (fun hby25 => ?_) (fun hby25 => ?_)
    · have hruny26 : okRun cs ad gvy23 (covy23) tp := ⟨_, _, _, _, _, _, _, by omega, by omega, hcdy24, hddy24⟩
      have hgy27 := (hfvy14 (883) (by decide)).trans hpoy5.1
      have hgy28 := (hfvy17 (883) (by decide)).trans hgy27
      have hgy29 := (hfvy20 (883) (by decide)).trans hgy28
      have hgy30 := (hfvy23 (883) (by decide)).trans hgy29
      have hgy31 := (hfvy14 (883 + 1) (by omega)).trans hpoy5.2.1
      have hgy32 := (hfvy17 (883 + 1) (by omega)).trans hgy31
      have hgy33 := (hfvy20 (883 + 1) (by omega)).trans hgy32
      have hgy34 := (hfvy23 (883 + 1) (by omega)).trans hgy33
      have hgy35 := (hfvy14 (883 + 2) (by omega)).trans hpoy5.2.2.1
      have hgy36 := (hfvy17 (883 + 2) (by omega)).trans hgy35
      have hgy37 := (hfvy20 (883 + 2) (by omega)).trans hgy36
      have hgy38 := (hfvy23 (883 + 2) (by omega)).trans hgy37
      have hgy39 := (hfvy14 (883 + 3) (by omega)).trans hpoy5.2.2.2.1
      have hgy40 := (hfvy17 (883 + 3) (by omega)).trans hgy39
      have hgy41 := (hfvy20 (883 + 3) (by omega)).trans hgy40
      have hgy42 := (hfvy23 (883 + 3) (by omega)).trans hgy41
      have hgy43 := (hfvy14 (883 + 4) (by omega)).trans hpoy5.2.2.2.2.1
      have hgy44 := (hfvy17 (883 + 4) (by omega)).trans hgy43
      have hgy45 := (hfvy20 (883 + 4) (by omega)).trans hgy44
      have hgy46 := (hfvy23 (883 + 4) (by omega)).trans hgy45
      have hgy47 := (hfvy14 (883 + 5) (by omega)).trans hpoy5.2.2.2.2.2.1
      have hgy48 := (hfvy17 (883 + 5) (by omega)).trans hgy47
      have hgy49 := (hfvy20 (883 + 5) (by omega)).trans hgy48
      have hgy50 := (hfvy23 (883 + 5) (by omega)).trans hgy49
      have hgy51 := (hfvy14 (883 + 6) (by omega)).trans hpoy5.2.2.2.2.2.2
      have hgy52 := (hfvy17 (883 + 6) (by omega)).trans hgy51
      have hgy53 := (hfvy20 (883 + 6) (by omega)).trans hgy52
      have hgy54 := (hfvy23 (883 + 6) (by omega)).trans hgy53
      exact z_vret C hr hlk dX7_readSlope_78 (by decide) (by decide) ⟨rfl, rfl, rfl, ⟨_, hruny26, by omega⟩, ⟨_, _, _, _, _, _, _, _, _, by omega, by omega, ⟨hgy30, hgy34, hgy38, hgy42, hgy46, hgy50, hgy54⟩⟩, fun j j1 j2 => by rw [hfvy23 _ (by omega)]; rw [hfvy20 _ (by omega)]; rw [hfvy17 _ (by omega)]; rw [hfvy14 _ (by omega)]⟩
    · refine z_aload_n C 3 dX7_readSlope_48 rfl ?_
      have hgy55 := (hfvy14 (883) (by decide)).trans hpoy5.1
      have hgy56 := (hfvy17 (883) (by decide)).trans hgy55
      have hgy57 := (hfvy20 (883) (by decide)).trans hgy56
      have hgy58 := (hfvy23 (883) (by decide)).trans hgy57
      refine z_get (v := .ref (ad (883 + 1))) C (by omega) hay4 hgy58 rfl inA_X5 3 (by decide) q_97 rfl rfl dX7_readSlope_49 ?_
      refine z_aload_n C 3 dX7_readSlope_52 rfl ?_
      refine z_get (v := .int (zI (sloy5))) C (by omega) hay4 hgy58 rfl inA_X5 0 (by decide) q_89 rfl rfl dX7_readSlope_53 ?_
      refine z_iload_n C 1 dX7_readSlope_56 rfl ?_
      have hgy59 := (hfvy14 (883 + 1) (by omega)).trans hpoy5.2.1
      have hgy60 := (hfvy17 (883 + 1) (by omega)).trans hgy59
      have hgy61 := (hfvy20 (883 + 1) (by omega)).trans hgy60
      have hgy62 := (hfvy23 (883 + 1) (by omega)).trans hgy61
      refine z_iast C (by omega) hay6 hgy62 ((sloy5).toNat) (by omega) (by omega) (by decide) dX7_readSlope_57 (fun gy63 egy64 => ?_)
      have hgy65 := up_s egy64
      refine z_aload_n C 3 dX7_readSlope_58 rfl ?_
      have hgy66 := up_n egy64 hgy58 (ne_o (i := 883) (c := 0) (d := 1) rfl)
      refine z_get (v := .ref (ad (883 + 2))) C (by omega) hay4 hgy66 rfl inA_X5 4 (by decide) q_101 rfl rfl dX7_readSlope_59 ?_
      refine z_aload_n C 3 dX7_readSlope_62 rfl ?_
      refine z_get (v := .int (zI (sloy5))) C (by omega) hay4 hgy66 rfl inA_X5 0 (by decide) q_89 rfl rfl dX7_readSlope_63 ?_
      refine z_iload_n C 0 dX7_readSlope_66 rfl ?_
      have hgy67 := (hfvy14 (883 + 2) (by omega)).trans hpoy5.2.2.1
      have hgy68 := (hfvy17 (883 + 2) (by omega)).trans hgy67
      have hgy69 := (hfvy20 (883 + 2) (by omega)).trans hgy68
      have hgy70 := (hfvy23 (883 + 2) (by omega)).trans hgy69
      have hgy71 := up_n egy64 hgy70 (ne_o (i := 883) (c := 2) (d := 1) rfl)
      refine z_iast C (by omega) hay7 hgy71 ((sloy5).toNat) (by omega) (by omega) (by decide) dX7_readSlope_67 (fun gy72 egy73 => ?_)
      have hgy74 := up_s egy73
      refine z_aload_n C 3 dX7_readSlope_68 rfl ?_
      refine z_dup C dX7_readSlope_69 rfl ?_
      have hgy75 := up_n egy73 hgy66 (ne_o (i := 883) (c := 0) (d := 2) rfl)
      refine z_get (v := .int (zI (sloy5))) C (by omega) hay4 hgy75 rfl inA_X5 0 (by decide) q_89 rfl rfl dX7_readSlope_70 ?_
      refine z_iconst (z := 1) C dX7_readSlope_73 rfl ?_
      refine z_iadd C dX7_readSlope_74 ?_
      refine z_put (fs' := [.int (zI (sloy5 + 1)), .int (zI (hooy5)), .int (zI (uaoy5)), .ref (ad (883 + 1)), .ref (ad (883 + 2)), .ref (ad (883 + 3)), .ref (ad (883 + 4)), .ref (ad (883 + 5)), .ref (ad (883 + 6))]) C (by omega) hay4 hgy75 tyX5 tyX5_ok nmX5 rfl inA_X5 0 (by decide) q_89 rfl rfl rfl rfl (Nat.le_of_ble_eq_true rfl) rfl dX7_readSlope_75 (fun gy76 egy77 => ?_)
      have hgy78 := up_s egy77
      have hgy80 := up_n egy64 hcdy24 (by omega)
      have hgy81 := up_n egy73 hgy80 (by omega)
      have hgy82 := up_n egy77 hgy81 (by decide)
      have hgy83 := up_n egy64 hddy24 (by omega)
      have hgy84 := up_n egy73 hgy83 (by omega)
      have hgy85 := up_n egy77 hgy84 (by decide)
      have hruny79 : okRun cs ad gy76 (covy23) tp := ⟨_, _, _, _, _, _, _, by omega, by omega, hgy82, hgy85⟩
      have hgy86 := up_n egy73 hgy65 (ne_o (i := 883) (c := 1) (d := 2) rfl)
      have hgy87 := up_n egy77 hgy86 (ne_o (i := 883) (c := 1) (d := 0) rfl)
      have hgy88 := up_n egy77 hgy74 (ne_o (i := 883) (c := 2) (d := 0) rfl)
      have hgy89 := (hfvy14 (883 + 3) (by omega)).trans hpoy5.2.2.2.1
      have hgy90 := (hfvy17 (883 + 3) (by omega)).trans hgy89
      have hgy91 := (hfvy20 (883 + 3) (by omega)).trans hgy90
      have hgy92 := (hfvy23 (883 + 3) (by omega)).trans hgy91
      have hgy93 := up_n egy64 hgy92 (ne_o (i := 883) (c := 3) (d := 1) rfl)
      have hgy94 := up_n egy73 hgy93 (ne_o (i := 883) (c := 3) (d := 2) rfl)
      have hgy95 := up_n egy77 hgy94 (ne_o (i := 883) (c := 3) (d := 0) rfl)
      have hgy96 := (hfvy14 (883 + 4) (by omega)).trans hpoy5.2.2.2.2.1
      have hgy97 := (hfvy17 (883 + 4) (by omega)).trans hgy96
      have hgy98 := (hfvy20 (883 + 4) (by omega)).trans hgy97
      have hgy99 := (hfvy23 (883 + 4) (by omega)).trans hgy98
      have hgy100 := up_n egy64 hgy99 (ne_o (i := 883) (c := 4) (d := 1) rfl)
      have hgy101 := up_n egy73 hgy100 (ne_o (i := 883) (c := 4) (d := 2) rfl)
      have hgy102 := up_n egy77 hgy101 (ne_o (i := 883) (c := 4) (d := 0) rfl)
      have hgy103 := (hfvy14 (883 + 5) (by omega)).trans hpoy5.2.2.2.2.2.1
      have hgy104 := (hfvy17 (883 + 5) (by omega)).trans hgy103
      have hgy105 := (hfvy20 (883 + 5) (by omega)).trans hgy104
      have hgy106 := (hfvy23 (883 + 5) (by omega)).trans hgy105
      have hgy107 := up_n egy64 hgy106 (ne_o (i := 883) (c := 5) (d := 1) rfl)
      have hgy108 := up_n egy73 hgy107 (ne_o (i := 883) (c := 5) (d := 2) rfl)
      have hgy109 := up_n egy77 hgy108 (ne_o (i := 883) (c := 5) (d := 0) rfl)
      have hgy110 := (hfvy14 (883 + 6) (by omega)).trans hpoy5.2.2.2.2.2.2
      have hgy111 := (hfvy17 (883 + 6) (by omega)).trans hgy110
      have hgy112 := (hfvy20 (883 + 6) (by omega)).trans hgy111
      have hgy113 := (hfvy23 (883 + 6) (by omega)).trans hgy112
      have hgy114 := up_n egy64 hgy113 (ne_o (i := 883) (c := 6) (d := 1) rfl)
      have hgy115 := up_n egy73 hgy114 (ne_o (i := 883) (c := 6) (d := 2) rfl)
      have hgy116 := up_n egy77 hgy115 (ne_o (i := 883) (c := 6) (d := 0) rfl)
      exact z_vret C hr hlk dX7_readSlope_78 (by decide) (by decide) ⟨rfl, rfl, rfl, ⟨_, hruny79, by omega⟩, ⟨_, _, _, _, _, _, _, _, _, by omega, by omega, ⟨hgy78, hgy87, hgy88, hgy95, hgy102, hgy109, hgy116⟩⟩, fun j j1 j2 => by rw [egy77, va_up_ne _ _ (by omega)]; rw [egy73, va_up_ne _ _ (by omega)]; rw [egy64, va_up_ne _ _ (by omega)]; rw [hfvy23 _ (by omega)]; rw [hfvy20 _ (by omega)]; rw [hfvy17 _ (by omega)]; rw [hfvy14 _ (by omega)]⟩
  · refine z_aload_n C 0 dX7_readSlope_8 rfl ?_
    refine z_iconst (z := 2) C dX7_readSlope_9 rfl ?_
    refine z_aload_n C 0 dX7_readSlope_10 rfl ?_
    refine z_get (v := .int (zI (a9dy1))) C (by omega) hay2 hcdy1 rfl inA_X7 5 (by decide) q_49 rfl rfl dX7_readSlope_11 ?_
    have hruny117 : okRun cs ad g (co) tp := ⟨_, _, _, _, _, _, _, by omega, by omega, hcdy1, hddy1⟩
    refine z_cV (As := [.int (zI (2)), .int (zI (a9dy1))]) (rest := []) (ci := 9) C (c_X7_fail l D A cs tt N ad _ (by omega) _ tp hruny117 (2) (by omega) (a9dy1) (by omega)) (by omega) hay2 hcdy1 rfl rfl mv_yX7_fail q_809 hd_yX7_fail (by decide) (Nat.le_of_ble_eq_true rfl) (by decide) dX7_readSlope_14 rfl (kV0 fun gvy118 hvy118 => ?_)
    obtain ⟨⟨covy118, hkvy118, hnvy118⟩, hfvy118⟩ := hvy118
    obtain ⟨pldy119, endy119, tydy119, a9dy119, bedy119, tkdy119, tddy119, hAdy119, hTdy119, hcdy119, hddy119⟩ := id hkvy118
    refine z_aload_n C 0 dX7_readSlope_17 rfl ?_
    have hruny120 : okRun cs ad gvy118 (covy118) tp := ⟨_, _, _, _, _, _, _, by omega, by omega, hcdy119, hddy119⟩
    refine z_cV (As := []) (rest := []) (ci := 9) C (c_X7_take l D A cs tt N ad _ (by omega) _ tp hruny120) (by omega) hay2 hcdy119 rfl rfl mv_yX7_take q_813 hd_yX7_take (by decide) (Nat.le_of_ble_eq_true rfl) (by decide) dX7_readSlope_18 rfl (kV0 fun gvy121 hvy121 => ?_)
    obtain ⟨hkvy121, hfvy121⟩ := hvy121
    obtain ⟨pldy122, endy122, tydy122, a9dy122, bedy122, tkdy122, tddy122, hAdy122, hTdy122, hcdy122, hddy122⟩ := id hkvy121
    refine z_aload_n C 0 dX7_readSlope_21 rfl ?_
    refine z_iconst (z := 0) C dX7_readSlope_22 rfl ?_
    refine z_bipush (z := 90) C dX7_readSlope_23 (by decide) ?_
    have hruny123 : okRun cs ad gvy121 (covy118) tp := ⟨_, _, _, _, _, _, _, by omega, by omega, hcdy122, hddy122⟩
    refine z_cV (As := [.int (zI (0)), .int (zI (90))]) (rest := []) (ci := 9) C (c_X7_number l D A cs tt N ad _ (by omega) _ tp hruny123 (0) (by omega) (90) (by omega)) (by omega) hay2 hcdy122 rfl rfl mv_yX7_number q_817 hd_yX7_number (by decide) (Nat.le_of_ble_eq_true rfl) (by decide) dX7_readSlope_25 rfl (kI0 fun vy124 gvy124 hvy124 => ?_)
    obtain ⟨hrvy124, ⟨covy124, hkvy124, hnvy124⟩, hfvy124⟩ := hvy124
    obtain ⟨pldy125, endy125, tydy125, a9dy125, bedy125, tkdy125, tddy125, hAdy125, hTdy125, hcdy125, hddy125⟩ := id hkvy124
    refine z_istore_n (lv' := [(2, .int (zI (vy124))), (0, .ref (ad 2)), (1, .ref (ad 883))]) C dX7_readSlope_28 rfl (by decide) rfl ?_
    refine z_aload_n C 1 dX7_readSlope_29 rfl ?_
    refine z_iconst (z := 0) C dX7_readSlope_30 rfl ?_
    refine z_bipush (z := 20) C dX7_readSlope_31 (by decide) ?_
    have hruny126 : okRun cs ad gvy124 (covy124) tp := ⟨_, _, _, _, _, _, _, by omega, by omega, hcdy125, hddy125⟩
    refine z_cV (As := [.int (zI (0)), .int (zI (20))]) (rest := []) (ci := 9) C (c_X7_number l D A cs tt N ad _ (by omega) _ tp hruny126 (0) (by omega) (20) (by omega)) (by omega) hay2 hcdy125 rfl rfl mv_yX7_number q_817 hd_yX7_number (by decide) (Nat.le_of_ble_eq_true rfl) (by decide) dX7_readSlope_33 rfl (kI0 fun vy127 gvy127 hvy127 => ?_)
    obtain ⟨hrvy127, ⟨covy127, hkvy127, hnvy127⟩, hfvy127⟩ := hvy127
    obtain ⟨pldy128, endy128, tydy128, a9dy128, bedy128, tkdy128, tddy128, hAdy128, hTdy128, hcdy128, hddy128⟩ := id hkvy127
    refine z_istore_n (lv' := [(3, .int (zI (vy127))), (2, .int (zI (vy124))), (0, .ref (ad 2)), (1, .ref (ad 883))]) C dX7_readSlope_36 rfl (by decide) rfl ?_
    refine z_aload_n C 2 dX7_readSlope_37 rfl ?_
    have hruny129 : okRun cs ad gvy127 (covy127) tp := ⟨_, _, _, _, _, _, _, by omega, by omega, hcdy128, hddy128⟩
    refine z_cV (As := []) (rest := []) (ci := 9) C (c_X7_close l D A cs tt N ad _ (by omega) _ tp hruny129 ) (by omega) hay2 hcdy128 rfl rfl mv_yX7_close q_821 hd_yX7_close (by decide) (Nat.le_of_ble_eq_true rfl) (by decide) dX7_readSlope_38 rfl (kV0 fun gvy130 hvy130 => ?_)
    obtain ⟨⟨covy130, hkvy130, hnvy130⟩, hfvy130⟩ := hvy130
    obtain ⟨pldy131, endy131, tydy131, a9dy131, bedy131, tkdy131, tddy131, hAdy131, hTdy131, hcdy131, hddy131⟩ := id hkvy130
    refine z_aload_n C 2 dX7_readSlope_41 rfl ?_
    refine z_get (v := .int (zI (covy130))) C (by omega) hay2 hcdy131 rfl inA_X7 1 (by decide) q_45 rfl rfl dX7_readSlope_42 ?_
    refine z_if_ne (tgt := 78) C dX7_readSlope_45 (by decide) (by omega) (fun hby132 => ?_) (fun hby132 => ?_)
    · have hruny133 : okRun cs ad gvy130 (covy130) tp := ⟨_, _, _, _, _, _, _, by omega, by omega, hcdy131, hddy131⟩
      have hgy134 := (hfvy118 (883) (by decide)).trans hpoy5.1
      have hgy135 := (hfvy121 (883) (by decide)).trans hgy134
      have hgy136 := (hfvy124 (883) (by decide)).trans hgy135
      have hgy137 := (hfvy127 (883) (by decide)).trans hgy136
      have hgy138 := (hfvy130 (883) (by decide)).trans hgy137
      have hgy139 := (hfvy118 (883 + 1) (by omega)).trans hpoy5.2.1
      have hgy140 := (hfvy121 (883 + 1) (by omega)).trans hgy139
      have hgy141 := (hfvy124 (883 + 1) (by omega)).trans hgy140
      have hgy142 := (hfvy127 (883 + 1) (by omega)).trans hgy141
      have hgy143 := (hfvy130 (883 + 1) (by omega)).trans hgy142
      have hgy144 := (hfvy118 (883 + 2) (by omega)).trans hpoy5.2.2.1
      have hgy145 := (hfvy121 (883 + 2) (by omega)).trans hgy144
      have hgy146 := (hfvy124 (883 + 2) (by omega)).trans hgy145
      have hgy147 := (hfvy127 (883 + 2) (by omega)).trans hgy146
      have hgy148 := (hfvy130 (883 + 2) (by omega)).trans hgy147
      have hgy149 := (hfvy118 (883 + 3) (by omega)).trans hpoy5.2.2.2.1
      have hgy150 := (hfvy121 (883 + 3) (by omega)).trans hgy149
      have hgy151 := (hfvy124 (883 + 3) (by omega)).trans hgy150
      have hgy152 := (hfvy127 (883 + 3) (by omega)).trans hgy151
      have hgy153 := (hfvy130 (883 + 3) (by omega)).trans hgy152
      have hgy154 := (hfvy118 (883 + 4) (by omega)).trans hpoy5.2.2.2.2.1
      have hgy155 := (hfvy121 (883 + 4) (by omega)).trans hgy154
      have hgy156 := (hfvy124 (883 + 4) (by omega)).trans hgy155
      have hgy157 := (hfvy127 (883 + 4) (by omega)).trans hgy156
      have hgy158 := (hfvy130 (883 + 4) (by omega)).trans hgy157
      have hgy159 := (hfvy118 (883 + 5) (by omega)).trans hpoy5.2.2.2.2.2.1
      have hgy160 := (hfvy121 (883 + 5) (by omega)).trans hgy159
      have hgy161 := (hfvy124 (883 + 5) (by omega)).trans hgy160
      have hgy162 := (hfvy127 (883 + 5) (by omega)).trans hgy161
      have hgy163 := (hfvy130 (883 + 5) (by omega)).trans hgy162
      have hgy164 := (hfvy118 (883 + 6) (by omega)).trans hpoy5.2.2.2.2.2.2
      have hgy165 := (hfvy121 (883 + 6) (by omega)).trans hgy164
      have hgy166 := (hfvy124 (883 + 6) (by omega)).trans hgy165
      have hgy167 := (hfvy127 (883 + 6) (by omega)).trans hgy166
      have hgy168 := (hfvy130 (883 + 6) (by omega)).trans hgy167
      exact z_vret C hr hlk dX7_readSlope_78 (by decide) (by decide) ⟨rfl, rfl, rfl, ⟨_, hruny133, by omega⟩, ⟨_, _, _, _, _, _, _, _, _, by omega, by omega, ⟨hgy138, hgy143, hgy148, hgy153, hgy158, hgy163, hgy168⟩⟩, fun j j1 j2 => by rw [hfvy130 _ (by omega)]; rw [hfvy127 _ (by omega)]; rw [hfvy124 _ (by omega)]; rw [hfvy121 _ (by omega)]; rw [hfvy118 _ (by omega)]⟩
    · refine z_aload_n C 3 dX7_readSlope_48 rfl ?_
      have hgy169 := (hfvy118 (883) (by decide)).trans hpoy5.1
      have hgy170 := (hfvy121 (883) (by decide)).trans hgy169
      have hgy171 := (hfvy124 (883) (by decide)).trans hgy170
      have hgy172 := (hfvy127 (883) (by decide)).trans hgy171
      have hgy173 := (hfvy130 (883) (by decide)).trans hgy172
      refine z_get (v := .ref (ad (883 + 1))) C (by omega) hay4 hgy173 rfl inA_X5 3 (by decide) q_97 rfl rfl dX7_readSlope_49 ?_
      refine z_aload_n C 3 dX7_readSlope_52 rfl ?_
      refine z_get (v := .int (zI (sloy5))) C (by omega) hay4 hgy173 rfl inA_X5 0 (by decide) q_89 rfl rfl dX7_readSlope_53 ?_
      refine z_iload_n C 1 dX7_readSlope_56 rfl ?_
      have hgy174 := (hfvy118 (883 + 1) (by omega)).trans hpoy5.2.1
      have hgy175 := (hfvy121 (883 + 1) (by omega)).trans hgy174
      have hgy176 := (hfvy124 (883 + 1) (by omega)).trans hgy175
      have hgy177 := (hfvy127 (883 + 1) (by omega)).trans hgy176
      have hgy178 := (hfvy130 (883 + 1) (by omega)).trans hgy177
      refine z_iast C (by omega) hay6 hgy178 ((sloy5).toNat) (by omega) (by omega) (by decide) dX7_readSlope_57 (fun gy179 egy180 => ?_)
      have hgy181 := up_s egy180
      refine z_aload_n C 3 dX7_readSlope_58 rfl ?_
      have hgy182 := up_n egy180 hgy173 (ne_o (i := 883) (c := 0) (d := 1) rfl)
      refine z_get (v := .ref (ad (883 + 2))) C (by omega) hay4 hgy182 rfl inA_X5 4 (by decide) q_101 rfl rfl dX7_readSlope_59 ?_
      refine z_aload_n C 3 dX7_readSlope_62 rfl ?_
      refine z_get (v := .int (zI (sloy5))) C (by omega) hay4 hgy182 rfl inA_X5 0 (by decide) q_89 rfl rfl dX7_readSlope_63 ?_
      refine z_iload_n C 0 dX7_readSlope_66 rfl ?_
      have hgy183 := (hfvy118 (883 + 2) (by omega)).trans hpoy5.2.2.1
      have hgy184 := (hfvy121 (883 + 2) (by omega)).trans hgy183
      have hgy185 := (hfvy124 (883 + 2) (by omega)).trans hgy184
      have hgy186 := (hfvy127 (883 + 2) (by omega)).trans hgy185
      have hgy187 := (hfvy130 (883 + 2) (by omega)).trans hgy186
      have hgy188 := up_n egy180 hgy187 (ne_o (i := 883) (c := 2) (d := 1) rfl)
      refine z_iast C (by omega) hay7 hgy188 ((sloy5).toNat) (by omega) (by omega) (by decide) dX7_readSlope_67 (fun gy189 egy190 => ?_)
      have hgy191 := up_s egy190
      refine z_aload_n C 3 dX7_readSlope_68 rfl ?_
      refine z_dup C dX7_readSlope_69 rfl ?_
      have hgy192 := up_n egy190 hgy182 (ne_o (i := 883) (c := 0) (d := 2) rfl)
      refine z_get (v := .int (zI (sloy5))) C (by omega) hay4 hgy192 rfl inA_X5 0 (by decide) q_89 rfl rfl dX7_readSlope_70 ?_
      refine z_iconst (z := 1) C dX7_readSlope_73 rfl ?_
      refine z_iadd C dX7_readSlope_74 ?_
      refine z_put (fs' := [.int (zI (sloy5 + 1)), .int (zI (hooy5)), .int (zI (uaoy5)), .ref (ad (883 + 1)), .ref (ad (883 + 2)), .ref (ad (883 + 3)), .ref (ad (883 + 4)), .ref (ad (883 + 5)), .ref (ad (883 + 6))]) C (by omega) hay4 hgy192 tyX5 tyX5_ok nmX5 rfl inA_X5 0 (by decide) q_89 rfl rfl rfl rfl (Nat.le_of_ble_eq_true rfl) rfl dX7_readSlope_75 (fun gy193 egy194 => ?_)
      have hgy195 := up_s egy194
      have hgy197 := up_n egy180 hcdy131 (by omega)
      have hgy198 := up_n egy190 hgy197 (by omega)
      have hgy199 := up_n egy194 hgy198 (by decide)
      have hgy200 := up_n egy180 hddy131 (by omega)
      have hgy201 := up_n egy190 hgy200 (by omega)
      have hgy202 := up_n egy194 hgy201 (by decide)
      have hruny196 : okRun cs ad gy193 (covy130) tp := ⟨_, _, _, _, _, _, _, by omega, by omega, hgy199, hgy202⟩
      have hgy203 := up_n egy190 hgy181 (ne_o (i := 883) (c := 1) (d := 2) rfl)
      have hgy204 := up_n egy194 hgy203 (ne_o (i := 883) (c := 1) (d := 0) rfl)
      have hgy205 := up_n egy194 hgy191 (ne_o (i := 883) (c := 2) (d := 0) rfl)
      have hgy206 := (hfvy118 (883 + 3) (by omega)).trans hpoy5.2.2.2.1
      have hgy207 := (hfvy121 (883 + 3) (by omega)).trans hgy206
      have hgy208 := (hfvy124 (883 + 3) (by omega)).trans hgy207
      have hgy209 := (hfvy127 (883 + 3) (by omega)).trans hgy208
      have hgy210 := (hfvy130 (883 + 3) (by omega)).trans hgy209
      have hgy211 := up_n egy180 hgy210 (ne_o (i := 883) (c := 3) (d := 1) rfl)
      have hgy212 := up_n egy190 hgy211 (ne_o (i := 883) (c := 3) (d := 2) rfl)
      have hgy213 := up_n egy194 hgy212 (ne_o (i := 883) (c := 3) (d := 0) rfl)
      have hgy214 := (hfvy118 (883 + 4) (by omega)).trans hpoy5.2.2.2.2.1
      have hgy215 := (hfvy121 (883 + 4) (by omega)).trans hgy214
      have hgy216 := (hfvy124 (883 + 4) (by omega)).trans hgy215
      have hgy217 := (hfvy127 (883 + 4) (by omega)).trans hgy216
      have hgy218 := (hfvy130 (883 + 4) (by omega)).trans hgy217
      have hgy219 := up_n egy180 hgy218 (ne_o (i := 883) (c := 4) (d := 1) rfl)
      have hgy220 := up_n egy190 hgy219 (ne_o (i := 883) (c := 4) (d := 2) rfl)
      have hgy221 := up_n egy194 hgy220 (ne_o (i := 883) (c := 4) (d := 0) rfl)
      have hgy222 := (hfvy118 (883 + 5) (by omega)).trans hpoy5.2.2.2.2.2.1
      have hgy223 := (hfvy121 (883 + 5) (by omega)).trans hgy222
      have hgy224 := (hfvy124 (883 + 5) (by omega)).trans hgy223
      have hgy225 := (hfvy127 (883 + 5) (by omega)).trans hgy224
      have hgy226 := (hfvy130 (883 + 5) (by omega)).trans hgy225
      have hgy227 := up_n egy180 hgy226 (ne_o (i := 883) (c := 5) (d := 1) rfl)
      have hgy228 := up_n egy190 hgy227 (ne_o (i := 883) (c := 5) (d := 2) rfl)
      have hgy229 := up_n egy194 hgy228 (ne_o (i := 883) (c := 5) (d := 0) rfl)
      have hgy230 := (hfvy118 (883 + 6) (by omega)).trans hpoy5.2.2.2.2.2.2
      have hgy231 := (hfvy121 (883 + 6) (by omega)).trans hgy230
      have hgy232 := (hfvy124 (883 + 6) (by omega)).trans hgy231
      have hgy233 := (hfvy127 (883 + 6) (by omega)).trans hgy232
      have hgy234 := (hfvy130 (883 + 6) (by omega)).trans hgy233
      have hgy235 := up_n egy180 hgy234 (ne_o (i := 883) (c := 6) (d := 1) rfl)
      have hgy236 := up_n egy190 hgy235 (ne_o (i := 883) (c := 6) (d := 2) rfl)
      have hgy237 := up_n egy194 hgy236 (ne_o (i := 883) (c := 6) (d := 0) rfl)
      exact z_vret C hr hlk dX7_readSlope_78 (by decide) (by decide) ⟨rfl, rfl, rfl, ⟨_, hruny196, by omega⟩, ⟨_, _, _, _, _, _, _, _, _, by omega, by omega, ⟨hgy195, hgy204, hgy205, hgy213, hgy221, hgy229, hgy237⟩⟩, fun j j1 j2 => by rw [egy194, va_up_ne _ _ (by omega)]; rw [egy190, va_up_ne _ _ (by omega)]; rw [egy180, va_up_ne _ _ (by omega)]; rw [hfvy130 _ (by omega)]; rw [hfvy127 _ (by omega)]; rw [hfvy124 _ (by omega)]; rw [hfvy121 _ (by omega)]; rw [hfvy118 _ (by omega)]⟩

set_option maxRecDepth 100000 in
set_option maxHeartbeats 4000000 in
theorem c_X7_readHour (l : Launch) (D : va_G) (A : Nat → Prop) (cs : Nat → ClassId) (tt : Nat) (N : Nat) (ad : Nat → Nat) (g : Nat → va_E) (hN : 952 ≤ N) (co : Int) (tp : Nat → Int) (hR : okRun cs ad g co tp) (hP9 : okPlan cs ad g 883) : zM l yX7_readHour cX7_readHour 6 none ({ frames := 7, cells := 0, slots := 0, locals := 420 } : Room) D A cs tt N ad g [.ref (ad 2), .ref (ad 883)] (rV0 N ad fun g' => (∃ co' : Int, okRun cs ad g' co' tp ∧ co ≤ co') ∧ okPlan cs ad g' 883 ∧ ∀ j, j ≠ 2 → (j < 883 ∨ 890 ≤ j) → g' j = g j) := by
  obtain ⟨pldy1, endy1, tydy1, a9dy1, bedy1, tkdy1, tddy1, hAdy1, hTdy1, hcdy1, hddy1⟩ := id hR
  have hay2 : zAt ad (2) (ad 2) := rfl
  have hay3 : zAt ad (1) (ad 1) := rfl
  have hay4 : zAt ad (883) (ad 883) := rfl
  obtain ⟨sloy5, hooy5, uaoy5, stoy5, opoy5, aioy5, faoy5, muoy5, tboy5, hsloy5, hhooy5, hpoy5⟩ := id hP9
  have hay6 : zAt ad (883 + 1) (ad (883 + 1)) := rfl
  have hay7 : zAt ad (883 + 2) (ad (883 + 2)) := rfl
  have hay8 : zAt ad (883 + 3) (ad (883 + 3)) := rfl
  have hay9 : zAt ad (883 + 4) (ad (883 + 4)) := rfl
  have hay10 : zAt ad (883 + 5) (ad (883 + 5)) := rfl
  have hay11 : zAt ad (883 + 6) (ad (883 + 6)) := rfl
  refine z_of (by decide) (Nat.le_of_ble_eq_true rfl) ?_
  intro p e s m below meth c C hr hlk hnm
  refine z_lv (lv' := [(0, .ref (ad 2)), (1, .ref (ad 883))]) [0, 1] rfl ?_
  refine z_aload_n C 1 dX7_readHour_0 rfl ?_
  refine z_get (v := .int (zI (hooy5))) C (by omega) hay4 hpoy5.1 rfl inA_X5 1 (by decide) q_94 rfl rfl dX7_readHour_1 ?_
  refine z_bipush (z := 24) C dX7_readHour_4 (by decide) ?_
  refine z_icmp_lt (tgt := 18) C dX7_readHour_6 (by decide) (by omega) (by omega) (fun hby12 => ?_) (fun hby12 => ?_)
  · refine z_aload_n C 0 dX7_readHour_18 rfl ?_
    have hruny13 : okRun cs ad g (co) tp := ⟨_, _, _, _, _, _, _, by omega, by omega, hcdy1, hddy1⟩
    refine z_cV (As := []) (rest := []) (ci := 9) C (c_X7_take l D A cs tt N ad _ (by omega) _ tp hruny13) (by omega) hay2 hcdy1 rfl rfl mv_yX7_take q_813 hd_yX7_take (by decide) (Nat.le_of_ble_eq_true rfl) (by decide) dX7_readHour_19 rfl (kV0 fun gvy14 hvy14 => ?_)
    obtain ⟨hkvy14, hfvy14⟩ := hvy14
    obtain ⟨pldy15, endy15, tydy15, a9dy15, bedy15, tkdy15, tddy15, hAdy15, hTdy15, hcdy15, hddy15⟩ := id hkvy14
    refine z_aload_n C 0 dX7_readHour_22 rfl ?_
    refine z_get (v := .int (zI (tydy15))) C (by omega) hay2 hcdy15 rfl inA_X7 4 (by decide) q_48 rfl rfl dX7_readHour_23 ?_
    refine z_iconst (z := 4) C dX7_readHour_26 rfl ?_
    refine z_icmp_ne (tgt := 34) C dX7_readHour_27 (by decide) (by omega) (by omega) (fun hby16 => ?_) (fun hby16 => ?_)
    · refine z_iconst (z := 0) C dX7_readHour_34 rfl ?_
      refine z_istore_n (lv' := [(2, .int (zI (0))), (0, .ref (ad 2)), (1, .ref (ad 883))]) C dX7_readHour_35 rfl (by decide) rfl ?_
      refine z_iload_n C 0 dX7_readHour_36 rfl ?_
      refine z_if_eq (tgt := 44) C dX7_readHour_37 (by decide) (by omega) (fun _ => ?_) (fun h => absurd h (by omega))
      refine z_aload_n C 1 dX7_readHour_44 rfl ?_
      refine z_iconst (z := 0) C dX7_readHour_45 rfl ?_
      refine z_iload_n C 0 dX7_readHour_46 rfl ?_
      refine z_if_eq (tgt := 56) C dX7_readHour_47 (by decide) (by omega) (fun _ => ?_) (fun h => absurd h (by omega))
      refine z_bipush (z := 100) C dX7_readHour_56 (by decide) ?_
      have hruny17 : okRun cs ad gvy14 (co) tp := ⟨_, _, _, _, _, _, _, by omega, by omega, hcdy15, hddy15⟩
      refine z_cV (As := [.int (zI (0)), .int (zI (100))]) (rest := []) (ci := 9) C (c_X7_number l D A cs tt N ad _ (by omega) _ tp hruny17 (0) (by omega) (100) (by omega)) (by omega) hay2 hcdy15 rfl rfl mv_yX7_number q_817 hd_yX7_number (by decide) (Nat.le_of_ble_eq_true rfl) (by decide) dX7_readHour_58 rfl (kI0 fun vy18 gvy18 hvy18 => ?_)
      obtain ⟨hrvy18, ⟨covy18, hkvy18, hnvy18⟩, hfvy18⟩ := hvy18
      obtain ⟨pldy19, endy19, tydy19, a9dy19, bedy19, tkdy19, tddy19, hAdy19, hTdy19, hcdy19, hddy19⟩ := id hkvy18
      refine z_istore_n (lv' := [(3, .int (zI (vy18))), (2, .int (zI (0))), (0, .ref (ad 2)), (1, .ref (ad 883))]) C dX7_readHour_61 rfl (by decide) rfl ?_
      refine z_aload_n C 2 dX7_readHour_62 rfl ?_
      have hruny20 : okRun cs ad gvy18 (covy18) tp := ⟨_, _, _, _, _, _, _, by omega, by omega, hcdy19, hddy19⟩
      refine z_cV (As := []) (rest := []) (ci := 9) C (c_X7_readFall l D A cs tt N ad _ (by omega) _ tp hruny20 ) (by omega) hay2 hcdy19 rfl rfl mv_yX7_readFall q_848 hd_yX7_readFall (by decide) (Nat.le_of_ble_eq_true rfl) (by decide) dX7_readHour_63 rfl (kI0 fun vy21 gvy21 hvy21 => ?_)
      obtain ⟨hrvy21, ⟨covy21, hkvy21, hnvy21⟩, hfvy21⟩ := hvy21
      obtain ⟨pldy22, endy22, tydy22, a9dy22, bedy22, tkdy22, tddy22, hAdy22, hTdy22, hcdy22, hddy22⟩ := id hkvy21
      refine z_istore (lv' := [(4, .int (zI (vy21))), (3, .int (zI (vy18))), (2, .int (zI (0))), (0, .ref (ad 2)), (1, .ref (ad 883))]) C dX7_readHour_66 (by decide) rfl ?_
      refine z_iload C 0 dX7_readHour_68 rfl ?_
      refine z_iconst (z := 1) C dX7_readHour_70 rfl ?_
      refine z_icmp_eq (tgt := 80) C dX7_readHour_71 (by decide) (by omega) (by omega) (fun hby23 => ?_) (fun hby23 => ?_)
      · refine z_aload_n C 3 dX7_readHour_80 rfl ?_
        refine z_iconst (z := 1) C dX7_readHour_81 rfl ?_
        refine z_bipush (z := 50) C dX7_readHour_82 (by decide) ?_
        have hruny24 : okRun cs ad gvy21 (covy21) tp := ⟨_, _, _, _, _, _, _, by omega, by omega, hcdy22, hddy22⟩
        refine z_cV (As := [.int (zI (1)), .int (zI (50))]) (rest := []) (ci := 9) C (c_X7_number l D A cs tt N ad _ (by omega) _ tp hruny24 (1) (by omega) (50) (by omega)) (by omega) hay2 hcdy22 rfl rfl mv_yX7_number q_817 hd_yX7_number (by decide) (Nat.le_of_ble_eq_true rfl) (by decide) dX7_readHour_84 rfl (kI0 fun vy25 gvy25 hvy25 => ?_)
        obtain ⟨hrvy25, ⟨covy25, hkvy25, hnvy25⟩, hfvy25⟩ := hvy25
        obtain ⟨pldy26, endy26, tydy26, a9dy26, bedy26, tkdy26, tddy26, hAdy26, hTdy26, hcdy26, hddy26⟩ := id hkvy25
        refine z_goto (tgt := 91) C dX7_readHour_87 (by decide) ?_
        refine z_istore (lv' := [(5, .int (zI (vy25))), (4, .int (zI (vy21))), (3, .int (zI (vy18))), (2, .int (zI (0))), (0, .ref (ad 2)), (1, .ref (ad 883))]) C dX7_readHour_91 (by decide) rfl ?_
        refine z_aload_n C 4 dX7_readHour_93 rfl ?_
        have hruny27 : okRun cs ad gvy25 (covy25) tp := ⟨_, _, _, _, _, _, _, by omega, by omega, hcdy26, hddy26⟩
        refine z_cV (As := []) (rest := []) (ci := 9) C (c_X7_close l D A cs tt N ad _ (by omega) _ tp hruny27 ) (by omega) hay2 hcdy26 rfl rfl mv_yX7_close q_821 hd_yX7_close (by decide) (Nat.le_of_ble_eq_true rfl) (by decide) dX7_readHour_94 rfl (kV0 fun gvy28 hvy28 => ?_)
        obtain ⟨⟨covy28, hkvy28, hnvy28⟩, hfvy28⟩ := hvy28
        obtain ⟨pldy29, endy29, tydy29, a9dy29, bedy29, tkdy29, tddy29, hAdy29, hTdy29, hcdy29, hddy29⟩ := id hkvy28
        refine z_aload_n C 4 dX7_readHour_97 rfl ?_
        refine z_get (v := .int (zI (covy28))) C (by omega) hay2 hcdy29 rfl inA_X7 1 (by decide) q_45 rfl rfl dX7_readHour_98 ?_
        refine z_if_ne (tgt := 155) C dX7_readHour_101 (by decide) (by omega) (fun hby30 => ?_) (fun hby30 => ?_)
        · have hruny31 : okRun cs ad gvy28 (covy28) tp := ⟨_, _, _, _, _, _, _, by omega, by omega, hcdy29, hddy29⟩
          have hgy32 := (hfvy14 (883) (by decide)).trans hpoy5.1
          have hgy33 := (hfvy18 (883) (by decide)).trans hgy32
          have hgy34 := (hfvy21 (883) (by decide)).trans hgy33
          have hgy35 := (hfvy25 (883) (by decide)).trans hgy34
          have hgy36 := (hfvy28 (883) (by decide)).trans hgy35
          have hgy37 := (hfvy14 (883 + 1) (by omega)).trans hpoy5.2.1
          have hgy38 := (hfvy18 (883 + 1) (by omega)).trans hgy37
          have hgy39 := (hfvy21 (883 + 1) (by omega)).trans hgy38
          have hgy40 := (hfvy25 (883 + 1) (by omega)).trans hgy39
          have hgy41 := (hfvy28 (883 + 1) (by omega)).trans hgy40
          have hgy42 := (hfvy14 (883 + 2) (by omega)).trans hpoy5.2.2.1
          have hgy43 := (hfvy18 (883 + 2) (by omega)).trans hgy42
          have hgy44 := (hfvy21 (883 + 2) (by omega)).trans hgy43
          have hgy45 := (hfvy25 (883 + 2) (by omega)).trans hgy44
          have hgy46 := (hfvy28 (883 + 2) (by omega)).trans hgy45
          have hgy47 := (hfvy14 (883 + 3) (by omega)).trans hpoy5.2.2.2.1
          have hgy48 := (hfvy18 (883 + 3) (by omega)).trans hgy47
          have hgy49 := (hfvy21 (883 + 3) (by omega)).trans hgy48
          have hgy50 := (hfvy25 (883 + 3) (by omega)).trans hgy49
          have hgy51 := (hfvy28 (883 + 3) (by omega)).trans hgy50
          have hgy52 := (hfvy14 (883 + 4) (by omega)).trans hpoy5.2.2.2.2.1
          have hgy53 := (hfvy18 (883 + 4) (by omega)).trans hgy52
          have hgy54 := (hfvy21 (883 + 4) (by omega)).trans hgy53
          have hgy55 := (hfvy25 (883 + 4) (by omega)).trans hgy54
          have hgy56 := (hfvy28 (883 + 4) (by omega)).trans hgy55
          have hgy57 := (hfvy14 (883 + 5) (by omega)).trans hpoy5.2.2.2.2.2.1
          have hgy58 := (hfvy18 (883 + 5) (by omega)).trans hgy57
          have hgy59 := (hfvy21 (883 + 5) (by omega)).trans hgy58
          have hgy60 := (hfvy25 (883 + 5) (by omega)).trans hgy59
          have hgy61 := (hfvy28 (883 + 5) (by omega)).trans hgy60
          have hgy62 := (hfvy14 (883 + 6) (by omega)).trans hpoy5.2.2.2.2.2.2
          have hgy63 := (hfvy18 (883 + 6) (by omega)).trans hgy62
          have hgy64 := (hfvy21 (883 + 6) (by omega)).trans hgy63
          have hgy65 := (hfvy25 (883 + 6) (by omega)).trans hgy64
          have hgy66 := (hfvy28 (883 + 6) (by omega)).trans hgy65
          exact z_vret C hr hlk dX7_readHour_155 (by decide) (by decide) ⟨rfl, rfl, rfl, ⟨_, hruny31, by omega⟩, ⟨_, _, _, _, _, _, _, _, _, by omega, by omega, ⟨hgy36, hgy41, hgy46, hgy51, hgy56, hgy61, hgy66⟩⟩, fun j j1 j2 => by rw [hfvy28 _ (by omega)]; rw [hfvy25 _ (by omega)]; rw [hfvy21 _ (by omega)]; rw [hfvy18 _ (by omega)]; rw [hfvy14 _ (by omega)]⟩
        · refine z_aload_n C 5 dX7_readHour_104 rfl ?_
          have hgy67 := (hfvy14 (883) (by decide)).trans hpoy5.1
          have hgy68 := (hfvy18 (883) (by decide)).trans hgy67
          have hgy69 := (hfvy21 (883) (by decide)).trans hgy68
          have hgy70 := (hfvy25 (883) (by decide)).trans hgy69
          have hgy71 := (hfvy28 (883) (by decide)).trans hgy70
          refine z_get (v := .ref (ad (883 + 3))) C (by omega) hay4 hgy71 rfl inA_X5 5 (by decide) q_106 rfl rfl dX7_readHour_105 ?_
          refine z_aload_n C 5 dX7_readHour_108 rfl ?_
          refine z_get (v := .int (zI (hooy5))) C (by omega) hay4 hgy71 rfl inA_X5 1 (by decide) q_94 rfl rfl dX7_readHour_109 ?_
          refine z_iload_n C 3 dX7_readHour_112 rfl ?_
          refine z_if_eq (tgt := 121) C dX7_readHour_113 (by decide) (by omega) (fun _ => ?_) (fun h => absurd h (by omega))
          refine z_iload_n C 2 dX7_readHour_121 rfl ?_
          have hgy72 := (hfvy14 (883 + 3) (by omega)).trans hpoy5.2.2.2.1
          have hgy73 := (hfvy18 (883 + 3) (by omega)).trans hgy72
          have hgy74 := (hfvy21 (883 + 3) (by omega)).trans hgy73
          have hgy75 := (hfvy25 (883 + 3) (by omega)).trans hgy74
          have hgy76 := (hfvy28 (883 + 3) (by omega)).trans hgy75
          refine z_iast C (by omega) hay8 hgy76 ((hooy5).toNat) (by omega) (by omega) (by decide) dX7_readHour_122 (fun gy77 egy78 => ?_)
          have hgy79 := up_s egy78
          refine z_aload_n C 5 dX7_readHour_123 rfl ?_
          have hgy80 := up_n egy78 hgy71 (ne_o (i := 883) (c := 0) (d := 3) rfl)
          refine z_get (v := .ref (ad (883 + 4))) C (by omega) hay4 hgy80 rfl inA_X5 6 (by decide) q_109 rfl rfl dX7_readHour_124 ?_
          refine z_aload_n C 5 dX7_readHour_127 rfl ?_
          refine z_get (v := .int (zI (hooy5))) C (by omega) hay4 hgy80 rfl inA_X5 1 (by decide) q_94 rfl rfl dX7_readHour_128 ?_
          refine z_iload C 1 dX7_readHour_131 rfl ?_
          have hgy81 := (hfvy14 (883 + 4) (by omega)).trans hpoy5.2.2.2.2.1
          have hgy82 := (hfvy18 (883 + 4) (by omega)).trans hgy81
          have hgy83 := (hfvy21 (883 + 4) (by omega)).trans hgy82
          have hgy84 := (hfvy25 (883 + 4) (by omega)).trans hgy83
          have hgy85 := (hfvy28 (883 + 4) (by omega)).trans hgy84
          have hgy86 := up_n egy78 hgy85 (ne_o (i := 883) (c := 4) (d := 3) rfl)
          refine z_iast C (by omega) hay9 hgy86 ((hooy5).toNat) (by omega) (by omega) (by decide) dX7_readHour_133 (fun gy87 egy88 => ?_)
          have hgy89 := up_s egy88
          refine z_aload_n C 5 dX7_readHour_134 rfl ?_
          have hgy90 := up_n egy88 hgy80 (ne_o (i := 883) (c := 0) (d := 4) rfl)
          refine z_get (v := .ref (ad (883 + 5))) C (by omega) hay4 hgy90 rfl inA_X5 7 (by decide) q_112 rfl rfl dX7_readHour_135 ?_
          refine z_aload_n C 5 dX7_readHour_138 rfl ?_
          refine z_get (v := .int (zI (hooy5))) C (by omega) hay4 hgy90 rfl inA_X5 1 (by decide) q_94 rfl rfl dX7_readHour_139 ?_
          refine z_iload C 0 dX7_readHour_142 rfl ?_
          have hgy91 := (hfvy14 (883 + 5) (by omega)).trans hpoy5.2.2.2.2.2.1
          have hgy92 := (hfvy18 (883 + 5) (by omega)).trans hgy91
          have hgy93 := (hfvy21 (883 + 5) (by omega)).trans hgy92
          have hgy94 := (hfvy25 (883 + 5) (by omega)).trans hgy93
          have hgy95 := (hfvy28 (883 + 5) (by omega)).trans hgy94
          have hgy96 := up_n egy78 hgy95 (ne_o (i := 883) (c := 5) (d := 3) rfl)
          have hgy97 := up_n egy88 hgy96 (ne_o (i := 883) (c := 5) (d := 4) rfl)
          refine z_iast C (by omega) hay10 hgy97 ((hooy5).toNat) (by omega) (by omega) (by decide) dX7_readHour_144 (fun gy98 egy99 => ?_)
          have hgy100 := up_s egy99
          refine z_aload_n C 5 dX7_readHour_145 rfl ?_
          refine z_dup C dX7_readHour_146 rfl ?_
          have hgy101 := up_n egy99 hgy90 (ne_o (i := 883) (c := 0) (d := 5) rfl)
          refine z_get (v := .int (zI (hooy5))) C (by omega) hay4 hgy101 rfl inA_X5 1 (by decide) q_94 rfl rfl dX7_readHour_147 ?_
          refine z_iconst (z := 1) C dX7_readHour_150 rfl ?_
          refine z_iadd C dX7_readHour_151 ?_
          refine z_put (fs' := [.int (zI (sloy5)), .int (zI (hooy5 + 1)), .int (zI (uaoy5)), .ref (ad (883 + 1)), .ref (ad (883 + 2)), .ref (ad (883 + 3)), .ref (ad (883 + 4)), .ref (ad (883 + 5)), .ref (ad (883 + 6))]) C (by omega) hay4 hgy101 tyX5 tyX5_ok nmX5 rfl inA_X5 1 (by decide) q_94 rfl rfl rfl rfl (Nat.le_of_ble_eq_true rfl) rfl dX7_readHour_152 (fun gy102 egy103 => ?_)
          have hgy104 := up_s egy103
          have hgy106 := up_n egy78 hcdy29 (by omega)
          have hgy107 := up_n egy88 hgy106 (by omega)
          have hgy108 := up_n egy99 hgy107 (by omega)
          have hgy109 := up_n egy103 hgy108 (by decide)
          have hgy110 := up_n egy78 hddy29 (by omega)
          have hgy111 := up_n egy88 hgy110 (by omega)
          have hgy112 := up_n egy99 hgy111 (by omega)
          have hgy113 := up_n egy103 hgy112 (by decide)
          have hruny105 : okRun cs ad gy102 (covy28) tp := ⟨_, _, _, _, _, _, _, by omega, by omega, hgy109, hgy113⟩
          have hgy114 := (hfvy14 (883 + 1) (by omega)).trans hpoy5.2.1
          have hgy115 := (hfvy18 (883 + 1) (by omega)).trans hgy114
          have hgy116 := (hfvy21 (883 + 1) (by omega)).trans hgy115
          have hgy117 := (hfvy25 (883 + 1) (by omega)).trans hgy116
          have hgy118 := (hfvy28 (883 + 1) (by omega)).trans hgy117
          have hgy119 := up_n egy78 hgy118 (ne_o (i := 883) (c := 1) (d := 3) rfl)
          have hgy120 := up_n egy88 hgy119 (ne_o (i := 883) (c := 1) (d := 4) rfl)
          have hgy121 := up_n egy99 hgy120 (ne_o (i := 883) (c := 1) (d := 5) rfl)
          have hgy122 := up_n egy103 hgy121 (ne_o (i := 883) (c := 1) (d := 0) rfl)
          have hgy123 := (hfvy14 (883 + 2) (by omega)).trans hpoy5.2.2.1
          have hgy124 := (hfvy18 (883 + 2) (by omega)).trans hgy123
          have hgy125 := (hfvy21 (883 + 2) (by omega)).trans hgy124
          have hgy126 := (hfvy25 (883 + 2) (by omega)).trans hgy125
          have hgy127 := (hfvy28 (883 + 2) (by omega)).trans hgy126
          have hgy128 := up_n egy78 hgy127 (ne_o (i := 883) (c := 2) (d := 3) rfl)
          have hgy129 := up_n egy88 hgy128 (ne_o (i := 883) (c := 2) (d := 4) rfl)
          have hgy130 := up_n egy99 hgy129 (ne_o (i := 883) (c := 2) (d := 5) rfl)
          have hgy131 := up_n egy103 hgy130 (ne_o (i := 883) (c := 2) (d := 0) rfl)
          have hgy132 := up_n egy88 hgy79 (ne_o (i := 883) (c := 3) (d := 4) rfl)
          have hgy133 := up_n egy99 hgy132 (ne_o (i := 883) (c := 3) (d := 5) rfl)
          have hgy134 := up_n egy103 hgy133 (ne_o (i := 883) (c := 3) (d := 0) rfl)
          have hgy135 := up_n egy99 hgy89 (ne_o (i := 883) (c := 4) (d := 5) rfl)
          have hgy136 := up_n egy103 hgy135 (ne_o (i := 883) (c := 4) (d := 0) rfl)
          have hgy137 := up_n egy103 hgy100 (ne_o (i := 883) (c := 5) (d := 0) rfl)
          have hgy138 := (hfvy14 (883 + 6) (by omega)).trans hpoy5.2.2.2.2.2.2
          have hgy139 := (hfvy18 (883 + 6) (by omega)).trans hgy138
          have hgy140 := (hfvy21 (883 + 6) (by omega)).trans hgy139
          have hgy141 := (hfvy25 (883 + 6) (by omega)).trans hgy140
          have hgy142 := (hfvy28 (883 + 6) (by omega)).trans hgy141
          have hgy143 := up_n egy78 hgy142 (ne_o (i := 883) (c := 6) (d := 3) rfl)
          have hgy144 := up_n egy88 hgy143 (ne_o (i := 883) (c := 6) (d := 4) rfl)
          have hgy145 := up_n egy99 hgy144 (ne_o (i := 883) (c := 6) (d := 5) rfl)
          have hgy146 := up_n egy103 hgy145 (ne_o (i := 883) (c := 6) (d := 0) rfl)
          exact z_vret C hr hlk dX7_readHour_155 (by decide) (by decide) ⟨rfl, rfl, rfl, ⟨_, hruny105, by omega⟩, ⟨_, _, _, _, _, _, _, _, _, by omega, by omega, ⟨hgy104, hgy122, hgy131, hgy134, hgy136, hgy137, hgy146⟩⟩, fun j j1 j2 => by rw [egy103, va_up_ne _ _ (by omega)]; rw [egy99, va_up_ne _ _ (by omega)]; rw [egy88, va_up_ne _ _ (by omega)]; rw [egy78, va_up_ne _ _ (by omega)]; rw [hfvy28 _ (by omega)]; rw [hfvy25 _ (by omega)]; rw [hfvy21 _ (by omega)]; rw [hfvy18 _ (by omega)]; rw [hfvy14 _ (by omega)]⟩
      · refine z_iload C 0 dX7_readHour_74 rfl ?_
        refine z_iconst (z := 2) C dX7_readHour_76 rfl ?_
        refine z_icmp_ne (tgt := 90) C dX7_readHour_77 (by decide) (by omega) (by omega) (fun hby147 => ?_) (fun hby147 => ?_)
        · refine z_iconst (z := 0) C dX7_readHour_90 rfl ?_
          refine z_istore (lv' := [(5, .int (zI (0))), (4, .int (zI (vy21))), (3, .int (zI (vy18))), (2, .int (zI (0))), (0, .ref (ad 2)), (1, .ref (ad 883))]) C dX7_readHour_91 (by decide) rfl ?_
          refine z_aload_n C 4 dX7_readHour_93 rfl ?_
          have hruny148 : okRun cs ad gvy21 (covy21) tp := ⟨_, _, _, _, _, _, _, by omega, by omega, hcdy22, hddy22⟩
          refine z_cV (As := []) (rest := []) (ci := 9) C (c_X7_close l D A cs tt N ad _ (by omega) _ tp hruny148 ) (by omega) hay2 hcdy22 rfl rfl mv_yX7_close q_821 hd_yX7_close (by decide) (Nat.le_of_ble_eq_true rfl) (by decide) dX7_readHour_94 rfl (kV0 fun gvy149 hvy149 => ?_)
          obtain ⟨⟨covy149, hkvy149, hnvy149⟩, hfvy149⟩ := hvy149
          obtain ⟨pldy150, endy150, tydy150, a9dy150, bedy150, tkdy150, tddy150, hAdy150, hTdy150, hcdy150, hddy150⟩ := id hkvy149
          refine z_aload_n C 4 dX7_readHour_97 rfl ?_
          refine z_get (v := .int (zI (covy149))) C (by omega) hay2 hcdy150 rfl inA_X7 1 (by decide) q_45 rfl rfl dX7_readHour_98 ?_
          refine z_if_ne (tgt := 155) C dX7_readHour_101 (by decide) (by omega) (fun hby151 => ?_) (fun hby151 => ?_)
          · have hruny152 : okRun cs ad gvy149 (covy149) tp := ⟨_, _, _, _, _, _, _, by omega, by omega, hcdy150, hddy150⟩
            have hgy153 := (hfvy14 (883) (by decide)).trans hpoy5.1
            have hgy154 := (hfvy18 (883) (by decide)).trans hgy153
            have hgy155 := (hfvy21 (883) (by decide)).trans hgy154
            have hgy156 := (hfvy149 (883) (by decide)).trans hgy155
            have hgy157 := (hfvy14 (883 + 1) (by omega)).trans hpoy5.2.1
            have hgy158 := (hfvy18 (883 + 1) (by omega)).trans hgy157
            have hgy159 := (hfvy21 (883 + 1) (by omega)).trans hgy158
            have hgy160 := (hfvy149 (883 + 1) (by omega)).trans hgy159
            have hgy161 := (hfvy14 (883 + 2) (by omega)).trans hpoy5.2.2.1
            have hgy162 := (hfvy18 (883 + 2) (by omega)).trans hgy161
            have hgy163 := (hfvy21 (883 + 2) (by omega)).trans hgy162
            have hgy164 := (hfvy149 (883 + 2) (by omega)).trans hgy163
            have hgy165 := (hfvy14 (883 + 3) (by omega)).trans hpoy5.2.2.2.1
            have hgy166 := (hfvy18 (883 + 3) (by omega)).trans hgy165
            have hgy167 := (hfvy21 (883 + 3) (by omega)).trans hgy166
            have hgy168 := (hfvy149 (883 + 3) (by omega)).trans hgy167
            have hgy169 := (hfvy14 (883 + 4) (by omega)).trans hpoy5.2.2.2.2.1
            have hgy170 := (hfvy18 (883 + 4) (by omega)).trans hgy169
            have hgy171 := (hfvy21 (883 + 4) (by omega)).trans hgy170
            have hgy172 := (hfvy149 (883 + 4) (by omega)).trans hgy171
            have hgy173 := (hfvy14 (883 + 5) (by omega)).trans hpoy5.2.2.2.2.2.1
            have hgy174 := (hfvy18 (883 + 5) (by omega)).trans hgy173
            have hgy175 := (hfvy21 (883 + 5) (by omega)).trans hgy174
            have hgy176 := (hfvy149 (883 + 5) (by omega)).trans hgy175
            have hgy177 := (hfvy14 (883 + 6) (by omega)).trans hpoy5.2.2.2.2.2.2
            have hgy178 := (hfvy18 (883 + 6) (by omega)).trans hgy177
            have hgy179 := (hfvy21 (883 + 6) (by omega)).trans hgy178
            have hgy180 := (hfvy149 (883 + 6) (by omega)).trans hgy179
            exact z_vret C hr hlk dX7_readHour_155 (by decide) (by decide) ⟨rfl, rfl, rfl, ⟨_, hruny152, by omega⟩, ⟨_, _, _, _, _, _, _, _, _, by omega, by omega, ⟨hgy156, hgy160, hgy164, hgy168, hgy172, hgy176, hgy180⟩⟩, fun j j1 j2 => by rw [hfvy149 _ (by omega)]; rw [hfvy21 _ (by omega)]; rw [hfvy18 _ (by omega)]; rw [hfvy14 _ (by omega)]⟩
          · refine z_aload_n C 5 dX7_readHour_104 rfl ?_
            have hgy181 := (hfvy14 (883) (by decide)).trans hpoy5.1
            have hgy182 := (hfvy18 (883) (by decide)).trans hgy181
            have hgy183 := (hfvy21 (883) (by decide)).trans hgy182
            have hgy184 := (hfvy149 (883) (by decide)).trans hgy183
            refine z_get (v := .ref (ad (883 + 3))) C (by omega) hay4 hgy184 rfl inA_X5 5 (by decide) q_106 rfl rfl dX7_readHour_105 ?_
            refine z_aload_n C 5 dX7_readHour_108 rfl ?_
            refine z_get (v := .int (zI (hooy5))) C (by omega) hay4 hgy184 rfl inA_X5 1 (by decide) q_94 rfl rfl dX7_readHour_109 ?_
            refine z_iload_n C 3 dX7_readHour_112 rfl ?_
            refine z_if_eq (tgt := 121) C dX7_readHour_113 (by decide) (by omega) (fun _ => ?_) (fun h => absurd h (by omega))
            refine z_iload_n C 2 dX7_readHour_121 rfl ?_
            have hgy185 := (hfvy14 (883 + 3) (by omega)).trans hpoy5.2.2.2.1
            have hgy186 := (hfvy18 (883 + 3) (by omega)).trans hgy185
            have hgy187 := (hfvy21 (883 + 3) (by omega)).trans hgy186
            have hgy188 := (hfvy149 (883 + 3) (by omega)).trans hgy187
            refine z_iast C (by omega) hay8 hgy188 ((hooy5).toNat) (by omega) (by omega) (by decide) dX7_readHour_122 (fun gy189 egy190 => ?_)
            have hgy191 := up_s egy190
            refine z_aload_n C 5 dX7_readHour_123 rfl ?_
            have hgy192 := up_n egy190 hgy184 (ne_o (i := 883) (c := 0) (d := 3) rfl)
            refine z_get (v := .ref (ad (883 + 4))) C (by omega) hay4 hgy192 rfl inA_X5 6 (by decide) q_109 rfl rfl dX7_readHour_124 ?_
            refine z_aload_n C 5 dX7_readHour_127 rfl ?_
            refine z_get (v := .int (zI (hooy5))) C (by omega) hay4 hgy192 rfl inA_X5 1 (by decide) q_94 rfl rfl dX7_readHour_128 ?_
            refine z_iload C 1 dX7_readHour_131 rfl ?_
            have hgy193 := (hfvy14 (883 + 4) (by omega)).trans hpoy5.2.2.2.2.1
            have hgy194 := (hfvy18 (883 + 4) (by omega)).trans hgy193
            have hgy195 := (hfvy21 (883 + 4) (by omega)).trans hgy194
            have hgy196 := (hfvy149 (883 + 4) (by omega)).trans hgy195
            have hgy197 := up_n egy190 hgy196 (ne_o (i := 883) (c := 4) (d := 3) rfl)
            refine z_iast C (by omega) hay9 hgy197 ((hooy5).toNat) (by omega) (by omega) (by decide) dX7_readHour_133 (fun gy198 egy199 => ?_)
            have hgy200 := up_s egy199
            refine z_aload_n C 5 dX7_readHour_134 rfl ?_
            have hgy201 := up_n egy199 hgy192 (ne_o (i := 883) (c := 0) (d := 4) rfl)
            refine z_get (v := .ref (ad (883 + 5))) C (by omega) hay4 hgy201 rfl inA_X5 7 (by decide) q_112 rfl rfl dX7_readHour_135 ?_
            refine z_aload_n C 5 dX7_readHour_138 rfl ?_
            refine z_get (v := .int (zI (hooy5))) C (by omega) hay4 hgy201 rfl inA_X5 1 (by decide) q_94 rfl rfl dX7_readHour_139 ?_
            refine z_iload C 0 dX7_readHour_142 rfl ?_
            have hgy202 := (hfvy14 (883 + 5) (by omega)).trans hpoy5.2.2.2.2.2.1
            have hgy203 := (hfvy18 (883 + 5) (by omega)).trans hgy202
            have hgy204 := (hfvy21 (883 + 5) (by omega)).trans hgy203
            have hgy205 := (hfvy149 (883 + 5) (by omega)).trans hgy204
            have hgy206 := up_n egy190 hgy205 (ne_o (i := 883) (c := 5) (d := 3) rfl)
            have hgy207 := up_n egy199 hgy206 (ne_o (i := 883) (c := 5) (d := 4) rfl)
            refine z_iast C (by omega) hay10 hgy207 ((hooy5).toNat) (by omega) (by omega) (by decide) dX7_readHour_144 (fun gy208 egy209 => ?_)
            have hgy210 := up_s egy209
            refine z_aload_n C 5 dX7_readHour_145 rfl ?_
            refine z_dup C dX7_readHour_146 rfl ?_
            have hgy211 := up_n egy209 hgy201 (ne_o (i := 883) (c := 0) (d := 5) rfl)
            refine z_get (v := .int (zI (hooy5))) C (by omega) hay4 hgy211 rfl inA_X5 1 (by decide) q_94 rfl rfl dX7_readHour_147 ?_
            refine z_iconst (z := 1) C dX7_readHour_150 rfl ?_
            refine z_iadd C dX7_readHour_151 ?_
            refine z_put (fs' := [.int (zI (sloy5)), .int (zI (hooy5 + 1)), .int (zI (uaoy5)), .ref (ad (883 + 1)), .ref (ad (883 + 2)), .ref (ad (883 + 3)), .ref (ad (883 + 4)), .ref (ad (883 + 5)), .ref (ad (883 + 6))]) C (by omega) hay4 hgy211 tyX5 tyX5_ok nmX5 rfl inA_X5 1 (by decide) q_94 rfl rfl rfl rfl (Nat.le_of_ble_eq_true rfl) rfl dX7_readHour_152 (fun gy212 egy213 => ?_)
            have hgy214 := up_s egy213
            have hgy216 := up_n egy190 hcdy150 (by omega)
            have hgy217 := up_n egy199 hgy216 (by omega)
            have hgy218 := up_n egy209 hgy217 (by omega)
            have hgy219 := up_n egy213 hgy218 (by decide)
            have hgy220 := up_n egy190 hddy150 (by omega)
            have hgy221 := up_n egy199 hgy220 (by omega)
            have hgy222 := up_n egy209 hgy221 (by omega)
            have hgy223 := up_n egy213 hgy222 (by decide)
            have hruny215 : okRun cs ad gy212 (covy149) tp := ⟨_, _, _, _, _, _, _, by omega, by omega, hgy219, hgy223⟩
            have hgy224 := (hfvy14 (883 + 1) (by omega)).trans hpoy5.2.1
            have hgy225 := (hfvy18 (883 + 1) (by omega)).trans hgy224
            have hgy226 := (hfvy21 (883 + 1) (by omega)).trans hgy225
            have hgy227 := (hfvy149 (883 + 1) (by omega)).trans hgy226
            have hgy228 := up_n egy190 hgy227 (ne_o (i := 883) (c := 1) (d := 3) rfl)
            have hgy229 := up_n egy199 hgy228 (ne_o (i := 883) (c := 1) (d := 4) rfl)
            have hgy230 := up_n egy209 hgy229 (ne_o (i := 883) (c := 1) (d := 5) rfl)
            have hgy231 := up_n egy213 hgy230 (ne_o (i := 883) (c := 1) (d := 0) rfl)
            have hgy232 := (hfvy14 (883 + 2) (by omega)).trans hpoy5.2.2.1
            have hgy233 := (hfvy18 (883 + 2) (by omega)).trans hgy232
            have hgy234 := (hfvy21 (883 + 2) (by omega)).trans hgy233
            have hgy235 := (hfvy149 (883 + 2) (by omega)).trans hgy234
            have hgy236 := up_n egy190 hgy235 (ne_o (i := 883) (c := 2) (d := 3) rfl)
            have hgy237 := up_n egy199 hgy236 (ne_o (i := 883) (c := 2) (d := 4) rfl)
            have hgy238 := up_n egy209 hgy237 (ne_o (i := 883) (c := 2) (d := 5) rfl)
            have hgy239 := up_n egy213 hgy238 (ne_o (i := 883) (c := 2) (d := 0) rfl)
            have hgy240 := up_n egy199 hgy191 (ne_o (i := 883) (c := 3) (d := 4) rfl)
            have hgy241 := up_n egy209 hgy240 (ne_o (i := 883) (c := 3) (d := 5) rfl)
            have hgy242 := up_n egy213 hgy241 (ne_o (i := 883) (c := 3) (d := 0) rfl)
            have hgy243 := up_n egy209 hgy200 (ne_o (i := 883) (c := 4) (d := 5) rfl)
            have hgy244 := up_n egy213 hgy243 (ne_o (i := 883) (c := 4) (d := 0) rfl)
            have hgy245 := up_n egy213 hgy210 (ne_o (i := 883) (c := 5) (d := 0) rfl)
            have hgy246 := (hfvy14 (883 + 6) (by omega)).trans hpoy5.2.2.2.2.2.2
            have hgy247 := (hfvy18 (883 + 6) (by omega)).trans hgy246
            have hgy248 := (hfvy21 (883 + 6) (by omega)).trans hgy247
            have hgy249 := (hfvy149 (883 + 6) (by omega)).trans hgy248
            have hgy250 := up_n egy190 hgy249 (ne_o (i := 883) (c := 6) (d := 3) rfl)
            have hgy251 := up_n egy199 hgy250 (ne_o (i := 883) (c := 6) (d := 4) rfl)
            have hgy252 := up_n egy209 hgy251 (ne_o (i := 883) (c := 6) (d := 5) rfl)
            have hgy253 := up_n egy213 hgy252 (ne_o (i := 883) (c := 6) (d := 0) rfl)
            exact z_vret C hr hlk dX7_readHour_155 (by decide) (by decide) ⟨rfl, rfl, rfl, ⟨_, hruny215, by omega⟩, ⟨_, _, _, _, _, _, _, _, _, by omega, by omega, ⟨hgy214, hgy231, hgy239, hgy242, hgy244, hgy245, hgy253⟩⟩, fun j j1 j2 => by rw [egy213, va_up_ne _ _ (by omega)]; rw [egy209, va_up_ne _ _ (by omega)]; rw [egy199, va_up_ne _ _ (by omega)]; rw [egy190, va_up_ne _ _ (by omega)]; rw [hfvy149 _ (by omega)]; rw [hfvy21 _ (by omega)]; rw [hfvy18 _ (by omega)]; rw [hfvy14 _ (by omega)]⟩
        · refine z_aload_n C 3 dX7_readHour_80 rfl ?_
          refine z_iconst (z := 1) C dX7_readHour_81 rfl ?_
          refine z_bipush (z := 50) C dX7_readHour_82 (by decide) ?_
          have hruny254 : okRun cs ad gvy21 (covy21) tp := ⟨_, _, _, _, _, _, _, by omega, by omega, hcdy22, hddy22⟩
          refine z_cV (As := [.int (zI (1)), .int (zI (50))]) (rest := []) (ci := 9) C (c_X7_number l D A cs tt N ad _ (by omega) _ tp hruny254 (1) (by omega) (50) (by omega)) (by omega) hay2 hcdy22 rfl rfl mv_yX7_number q_817 hd_yX7_number (by decide) (Nat.le_of_ble_eq_true rfl) (by decide) dX7_readHour_84 rfl (kI0 fun vy255 gvy255 hvy255 => ?_)
          obtain ⟨hrvy255, ⟨covy255, hkvy255, hnvy255⟩, hfvy255⟩ := hvy255
          obtain ⟨pldy256, endy256, tydy256, a9dy256, bedy256, tkdy256, tddy256, hAdy256, hTdy256, hcdy256, hddy256⟩ := id hkvy255
          refine z_goto (tgt := 91) C dX7_readHour_87 (by decide) ?_
          refine z_istore (lv' := [(5, .int (zI (vy255))), (4, .int (zI (vy21))), (3, .int (zI (vy18))), (2, .int (zI (0))), (0, .ref (ad 2)), (1, .ref (ad 883))]) C dX7_readHour_91 (by decide) rfl ?_
          refine z_aload_n C 4 dX7_readHour_93 rfl ?_
          have hruny257 : okRun cs ad gvy255 (covy255) tp := ⟨_, _, _, _, _, _, _, by omega, by omega, hcdy256, hddy256⟩
          refine z_cV (As := []) (rest := []) (ci := 9) C (c_X7_close l D A cs tt N ad _ (by omega) _ tp hruny257 ) (by omega) hay2 hcdy256 rfl rfl mv_yX7_close q_821 hd_yX7_close (by decide) (Nat.le_of_ble_eq_true rfl) (by decide) dX7_readHour_94 rfl (kV0 fun gvy258 hvy258 => ?_)
          obtain ⟨⟨covy258, hkvy258, hnvy258⟩, hfvy258⟩ := hvy258
          obtain ⟨pldy259, endy259, tydy259, a9dy259, bedy259, tkdy259, tddy259, hAdy259, hTdy259, hcdy259, hddy259⟩ := id hkvy258
          refine z_aload_n C 4 dX7_readHour_97 rfl ?_
          refine z_get (v := .int (zI (covy258))) C (by omega) hay2 hcdy259 rfl inA_X7 1 (by decide) q_45 rfl rfl dX7_readHour_98 ?_
          refine z_if_ne (tgt := 155) C dX7_readHour_101 (by decide) (by omega) (fun hby260 => ?_) (fun hby260 => ?_)
          · have hruny261 : okRun cs ad gvy258 (covy258) tp := ⟨_, _, _, _, _, _, _, by omega, by omega, hcdy259, hddy259⟩
            have hgy262 := (hfvy14 (883) (by decide)).trans hpoy5.1
            have hgy263 := (hfvy18 (883) (by decide)).trans hgy262
            have hgy264 := (hfvy21 (883) (by decide)).trans hgy263
            have hgy265 := (hfvy255 (883) (by decide)).trans hgy264
            have hgy266 := (hfvy258 (883) (by decide)).trans hgy265
            have hgy267 := (hfvy14 (883 + 1) (by omega)).trans hpoy5.2.1
            have hgy268 := (hfvy18 (883 + 1) (by omega)).trans hgy267
            have hgy269 := (hfvy21 (883 + 1) (by omega)).trans hgy268
            have hgy270 := (hfvy255 (883 + 1) (by omega)).trans hgy269
            have hgy271 := (hfvy258 (883 + 1) (by omega)).trans hgy270
            have hgy272 := (hfvy14 (883 + 2) (by omega)).trans hpoy5.2.2.1
            have hgy273 := (hfvy18 (883 + 2) (by omega)).trans hgy272
            have hgy274 := (hfvy21 (883 + 2) (by omega)).trans hgy273
            have hgy275 := (hfvy255 (883 + 2) (by omega)).trans hgy274
            have hgy276 := (hfvy258 (883 + 2) (by omega)).trans hgy275
            have hgy277 := (hfvy14 (883 + 3) (by omega)).trans hpoy5.2.2.2.1
            have hgy278 := (hfvy18 (883 + 3) (by omega)).trans hgy277
            have hgy279 := (hfvy21 (883 + 3) (by omega)).trans hgy278
            have hgy280 := (hfvy255 (883 + 3) (by omega)).trans hgy279
            have hgy281 := (hfvy258 (883 + 3) (by omega)).trans hgy280
            have hgy282 := (hfvy14 (883 + 4) (by omega)).trans hpoy5.2.2.2.2.1
            have hgy283 := (hfvy18 (883 + 4) (by omega)).trans hgy282
            have hgy284 := (hfvy21 (883 + 4) (by omega)).trans hgy283
            have hgy285 := (hfvy255 (883 + 4) (by omega)).trans hgy284
            have hgy286 := (hfvy258 (883 + 4) (by omega)).trans hgy285
            have hgy287 := (hfvy14 (883 + 5) (by omega)).trans hpoy5.2.2.2.2.2.1
            have hgy288 := (hfvy18 (883 + 5) (by omega)).trans hgy287
            have hgy289 := (hfvy21 (883 + 5) (by omega)).trans hgy288
            have hgy290 := (hfvy255 (883 + 5) (by omega)).trans hgy289
            have hgy291 := (hfvy258 (883 + 5) (by omega)).trans hgy290
            have hgy292 := (hfvy14 (883 + 6) (by omega)).trans hpoy5.2.2.2.2.2.2
            have hgy293 := (hfvy18 (883 + 6) (by omega)).trans hgy292
            have hgy294 := (hfvy21 (883 + 6) (by omega)).trans hgy293
            have hgy295 := (hfvy255 (883 + 6) (by omega)).trans hgy294
            have hgy296 := (hfvy258 (883 + 6) (by omega)).trans hgy295
            exact z_vret C hr hlk dX7_readHour_155 (by decide) (by decide) ⟨rfl, rfl, rfl, ⟨_, hruny261, by omega⟩, ⟨_, _, _, _, _, _, _, _, _, by omega, by omega, ⟨hgy266, hgy271, hgy276, hgy281, hgy286, hgy291, hgy296⟩⟩, fun j j1 j2 => by rw [hfvy258 _ (by omega)]; rw [hfvy255 _ (by omega)]; rw [hfvy21 _ (by omega)]; rw [hfvy18 _ (by omega)]; rw [hfvy14 _ (by omega)]⟩
          · refine z_aload_n C 5 dX7_readHour_104 rfl ?_
            have hgy297 := (hfvy14 (883) (by decide)).trans hpoy5.1
            have hgy298 := (hfvy18 (883) (by decide)).trans hgy297
            have hgy299 := (hfvy21 (883) (by decide)).trans hgy298
            have hgy300 := (hfvy255 (883) (by decide)).trans hgy299
            have hgy301 := (hfvy258 (883) (by decide)).trans hgy300
            refine z_get (v := .ref (ad (883 + 3))) C (by omega) hay4 hgy301 rfl inA_X5 5 (by decide) q_106 rfl rfl dX7_readHour_105 ?_
            refine z_aload_n C 5 dX7_readHour_108 rfl ?_
            refine z_get (v := .int (zI (hooy5))) C (by omega) hay4 hgy301 rfl inA_X5 1 (by decide) q_94 rfl rfl dX7_readHour_109 ?_
            refine z_iload_n C 3 dX7_readHour_112 rfl ?_
            refine z_if_eq (tgt := 121) C dX7_readHour_113 (by decide) (by omega) (fun _ => ?_) (fun h => absurd h (by omega))
            refine z_iload_n C 2 dX7_readHour_121 rfl ?_
            have hgy302 := (hfvy14 (883 + 3) (by omega)).trans hpoy5.2.2.2.1
            have hgy303 := (hfvy18 (883 + 3) (by omega)).trans hgy302
            have hgy304 := (hfvy21 (883 + 3) (by omega)).trans hgy303
            have hgy305 := (hfvy255 (883 + 3) (by omega)).trans hgy304
            have hgy306 := (hfvy258 (883 + 3) (by omega)).trans hgy305
            refine z_iast C (by omega) hay8 hgy306 ((hooy5).toNat) (by omega) (by omega) (by decide) dX7_readHour_122 (fun gy307 egy308 => ?_)
            have hgy309 := up_s egy308
            refine z_aload_n C 5 dX7_readHour_123 rfl ?_
            have hgy310 := up_n egy308 hgy301 (ne_o (i := 883) (c := 0) (d := 3) rfl)
            refine z_get (v := .ref (ad (883 + 4))) C (by omega) hay4 hgy310 rfl inA_X5 6 (by decide) q_109 rfl rfl dX7_readHour_124 ?_
            refine z_aload_n C 5 dX7_readHour_127 rfl ?_
            refine z_get (v := .int (zI (hooy5))) C (by omega) hay4 hgy310 rfl inA_X5 1 (by decide) q_94 rfl rfl dX7_readHour_128 ?_
            refine z_iload C 1 dX7_readHour_131 rfl ?_
            have hgy311 := (hfvy14 (883 + 4) (by omega)).trans hpoy5.2.2.2.2.1
            have hgy312 := (hfvy18 (883 + 4) (by omega)).trans hgy311
            have hgy313 := (hfvy21 (883 + 4) (by omega)).trans hgy312
            have hgy314 := (hfvy255 (883 + 4) (by omega)).trans hgy313
            have hgy315 := (hfvy258 (883 + 4) (by omega)).trans hgy314
            have hgy316 := up_n egy308 hgy315 (ne_o (i := 883) (c := 4) (d := 3) rfl)
            refine z_iast C (by omega) hay9 hgy316 ((hooy5).toNat) (by omega) (by omega) (by decide) dX7_readHour_133 (fun gy317 egy318 => ?_)
            have hgy319 := up_s egy318
            refine z_aload_n C 5 dX7_readHour_134 rfl ?_
            have hgy320 := up_n egy318 hgy310 (ne_o (i := 883) (c := 0) (d := 4) rfl)
            refine z_get (v := .ref (ad (883 + 5))) C (by omega) hay4 hgy320 rfl inA_X5 7 (by decide) q_112 rfl rfl dX7_readHour_135 ?_
            refine z_aload_n C 5 dX7_readHour_138 rfl ?_
            refine z_get (v := .int (zI (hooy5))) C (by omega) hay4 hgy320 rfl inA_X5 1 (by decide) q_94 rfl rfl dX7_readHour_139 ?_
            refine z_iload C 0 dX7_readHour_142 rfl ?_
            have hgy321 := (hfvy14 (883 + 5) (by omega)).trans hpoy5.2.2.2.2.2.1
            have hgy322 := (hfvy18 (883 + 5) (by omega)).trans hgy321
            have hgy323 := (hfvy21 (883 + 5) (by omega)).trans hgy322
            have hgy324 := (hfvy255 (883 + 5) (by omega)).trans hgy323
            have hgy325 := (hfvy258 (883 + 5) (by omega)).trans hgy324
            have hgy326 := up_n egy308 hgy325 (ne_o (i := 883) (c := 5) (d := 3) rfl)
            have hgy327 := up_n egy318 hgy326 (ne_o (i := 883) (c := 5) (d := 4) rfl)
            refine z_iast C (by omega) hay10 hgy327 ((hooy5).toNat) (by omega) (by omega) (by decide) dX7_readHour_144 (fun gy328 egy329 => ?_)
            have hgy330 := up_s egy329
            refine z_aload_n C 5 dX7_readHour_145 rfl ?_
            refine z_dup C dX7_readHour_146 rfl ?_
            have hgy331 := up_n egy329 hgy320 (ne_o (i := 883) (c := 0) (d := 5) rfl)
            refine z_get (v := .int (zI (hooy5))) C (by omega) hay4 hgy331 rfl inA_X5 1 (by decide) q_94 rfl rfl dX7_readHour_147 ?_
            refine z_iconst (z := 1) C dX7_readHour_150 rfl ?_
            refine z_iadd C dX7_readHour_151 ?_
            refine z_put (fs' := [.int (zI (sloy5)), .int (zI (hooy5 + 1)), .int (zI (uaoy5)), .ref (ad (883 + 1)), .ref (ad (883 + 2)), .ref (ad (883 + 3)), .ref (ad (883 + 4)), .ref (ad (883 + 5)), .ref (ad (883 + 6))]) C (by omega) hay4 hgy331 tyX5 tyX5_ok nmX5 rfl inA_X5 1 (by decide) q_94 rfl rfl rfl rfl (Nat.le_of_ble_eq_true rfl) rfl dX7_readHour_152 (fun gy332 egy333 => ?_)
            have hgy334 := up_s egy333
            have hgy336 := up_n egy308 hcdy259 (by omega)
            have hgy337 := up_n egy318 hgy336 (by omega)
            have hgy338 := up_n egy329 hgy337 (by omega)
            have hgy339 := up_n egy333 hgy338 (by decide)
            have hgy340 := up_n egy308 hddy259 (by omega)
            have hgy341 := up_n egy318 hgy340 (by omega)
            have hgy342 := up_n egy329 hgy341 (by omega)
            have hgy343 := up_n egy333 hgy342 (by decide)
            have hruny335 : okRun cs ad gy332 (covy258) tp := ⟨_, _, _, _, _, _, _, by omega, by omega, hgy339, hgy343⟩
            have hgy344 := (hfvy14 (883 + 1) (by omega)).trans hpoy5.2.1
            have hgy345 := (hfvy18 (883 + 1) (by omega)).trans hgy344
            have hgy346 := (hfvy21 (883 + 1) (by omega)).trans hgy345
            have hgy347 := (hfvy255 (883 + 1) (by omega)).trans hgy346
            have hgy348 := (hfvy258 (883 + 1) (by omega)).trans hgy347
            have hgy349 := up_n egy308 hgy348 (ne_o (i := 883) (c := 1) (d := 3) rfl)
            have hgy350 := up_n egy318 hgy349 (ne_o (i := 883) (c := 1) (d := 4) rfl)
            have hgy351 := up_n egy329 hgy350 (ne_o (i := 883) (c := 1) (d := 5) rfl)
            have hgy352 := up_n egy333 hgy351 (ne_o (i := 883) (c := 1) (d := 0) rfl)
            have hgy353 := (hfvy14 (883 + 2) (by omega)).trans hpoy5.2.2.1
            have hgy354 := (hfvy18 (883 + 2) (by omega)).trans hgy353
            have hgy355 := (hfvy21 (883 + 2) (by omega)).trans hgy354
            have hgy356 := (hfvy255 (883 + 2) (by omega)).trans hgy355
            have hgy357 := (hfvy258 (883 + 2) (by omega)).trans hgy356
            have hgy358 := up_n egy308 hgy357 (ne_o (i := 883) (c := 2) (d := 3) rfl)
            have hgy359 := up_n egy318 hgy358 (ne_o (i := 883) (c := 2) (d := 4) rfl)
            have hgy360 := up_n egy329 hgy359 (ne_o (i := 883) (c := 2) (d := 5) rfl)
            have hgy361 := up_n egy333 hgy360 (ne_o (i := 883) (c := 2) (d := 0) rfl)
            have hgy362 := up_n egy318 hgy309 (ne_o (i := 883) (c := 3) (d := 4) rfl)
            have hgy363 := up_n egy329 hgy362 (ne_o (i := 883) (c := 3) (d := 5) rfl)
            have hgy364 := up_n egy333 hgy363 (ne_o (i := 883) (c := 3) (d := 0) rfl)
            have hgy365 := up_n egy329 hgy319 (ne_o (i := 883) (c := 4) (d := 5) rfl)
            have hgy366 := up_n egy333 hgy365 (ne_o (i := 883) (c := 4) (d := 0) rfl)
            have hgy367 := up_n egy333 hgy330 (ne_o (i := 883) (c := 5) (d := 0) rfl)
            have hgy368 := (hfvy14 (883 + 6) (by omega)).trans hpoy5.2.2.2.2.2.2
            have hgy369 := (hfvy18 (883 + 6) (by omega)).trans hgy368
            have hgy370 := (hfvy21 (883 + 6) (by omega)).trans hgy369
            have hgy371 := (hfvy255 (883 + 6) (by omega)).trans hgy370
            have hgy372 := (hfvy258 (883 + 6) (by omega)).trans hgy371
            have hgy373 := up_n egy308 hgy372 (ne_o (i := 883) (c := 6) (d := 3) rfl)
            have hgy374 := up_n egy318 hgy373 (ne_o (i := 883) (c := 6) (d := 4) rfl)
            have hgy375 := up_n egy329 hgy374 (ne_o (i := 883) (c := 6) (d := 5) rfl)
            have hgy376 := up_n egy333 hgy375 (ne_o (i := 883) (c := 6) (d := 0) rfl)
            exact z_vret C hr hlk dX7_readHour_155 (by decide) (by decide) ⟨rfl, rfl, rfl, ⟨_, hruny335, by omega⟩, ⟨_, _, _, _, _, _, _, _, _, by omega, by omega, ⟨hgy334, hgy352, hgy361, hgy364, hgy366, hgy367, hgy376⟩⟩, fun j j1 j2 => by rw [egy333, va_up_ne _ _ (by omega)]; rw [egy329, va_up_ne _ _ (by omega)]; rw [egy318, va_up_ne _ _ (by omega)]; rw [egy308, va_up_ne _ _ (by omega)]; rw [hfvy258 _ (by omega)]; rw [hfvy255 _ (by omega)]; rw [hfvy21 _ (by omega)]; rw [hfvy18 _ (by omega)]; rw [hfvy14 _ (by omega)]⟩
    · refine z_iconst (z := 1) C dX7_readHour_30 rfl ?_
      refine z_goto (tgt := 35) C dX7_readHour_31 (by decide) ?_
      refine z_istore_n (lv' := [(2, .int (zI (1))), (0, .ref (ad 2)), (1, .ref (ad 883))]) C dX7_readHour_35 rfl (by decide) rfl ?_
      refine z_iload_n C 0 dX7_readHour_36 rfl ?_
      refine z_if_eq (tgt := 44) C dX7_readHour_37 (by decide) (by omega) (fun h => absurd h (by omega)) (fun _ => ?_)
      refine z_aload_n C 1 dX7_readHour_40 rfl ?_
      have hruny377 : okRun cs ad gvy14 (co) tp := ⟨_, _, _, _, _, _, _, by omega, by omega, hcdy15, hddy15⟩
      refine z_cV (As := []) (rest := []) (ci := 9) C (c_X7_take l D A cs tt N ad _ (by omega) _ tp hruny377) (by omega) hay2 hcdy15 rfl rfl mv_yX7_take q_813 hd_yX7_take (by decide) (Nat.le_of_ble_eq_true rfl) (by decide) dX7_readHour_41 rfl (kV0 fun gvy378 hvy378 => ?_)
      obtain ⟨hkvy378, hfvy378⟩ := hvy378
      obtain ⟨pldy379, endy379, tydy379, a9dy379, bedy379, tkdy379, tddy379, hAdy379, hTdy379, hcdy379, hddy379⟩ := id hkvy378
      refine z_aload_n C 1 dX7_readHour_44 rfl ?_
      refine z_iconst (z := 0) C dX7_readHour_45 rfl ?_
      refine z_iload_n C 0 dX7_readHour_46 rfl ?_
      refine z_if_eq (tgt := 56) C dX7_readHour_47 (by decide) (by omega) (fun h => absurd h (by omega)) (fun _ => ?_)
      refine z_sipush (z := 300) C dX7_readHour_50 (by decide) ?_
      refine z_goto (tgt := 58) C dX7_readHour_53 (by decide) ?_
      have hruny380 : okRun cs ad gvy378 (co) tp := ⟨_, _, _, _, _, _, _, by omega, by omega, hcdy379, hddy379⟩
      refine z_cV (As := [.int (zI (0)), .int (zI (300))]) (rest := []) (ci := 9) C (c_X7_number l D A cs tt N ad _ (by omega) _ tp hruny380 (0) (by omega) (300) (by omega)) (by omega) hay2 hcdy379 rfl rfl mv_yX7_number q_817 hd_yX7_number (by decide) (Nat.le_of_ble_eq_true rfl) (by decide) dX7_readHour_58 rfl (kI0 fun vy381 gvy381 hvy381 => ?_)
      obtain ⟨hrvy381, ⟨covy381, hkvy381, hnvy381⟩, hfvy381⟩ := hvy381
      obtain ⟨pldy382, endy382, tydy382, a9dy382, bedy382, tkdy382, tddy382, hAdy382, hTdy382, hcdy382, hddy382⟩ := id hkvy381
      refine z_istore_n (lv' := [(3, .int (zI (vy381))), (2, .int (zI (1))), (0, .ref (ad 2)), (1, .ref (ad 883))]) C dX7_readHour_61 rfl (by decide) rfl ?_
      refine z_aload_n C 2 dX7_readHour_62 rfl ?_
      have hruny383 : okRun cs ad gvy381 (covy381) tp := ⟨_, _, _, _, _, _, _, by omega, by omega, hcdy382, hddy382⟩
      refine z_cV (As := []) (rest := []) (ci := 9) C (c_X7_readFall l D A cs tt N ad _ (by omega) _ tp hruny383 ) (by omega) hay2 hcdy382 rfl rfl mv_yX7_readFall q_848 hd_yX7_readFall (by decide) (Nat.le_of_ble_eq_true rfl) (by decide) dX7_readHour_63 rfl (kI0 fun vy384 gvy384 hvy384 => ?_)
      obtain ⟨hrvy384, ⟨covy384, hkvy384, hnvy384⟩, hfvy384⟩ := hvy384
      obtain ⟨pldy385, endy385, tydy385, a9dy385, bedy385, tkdy385, tddy385, hAdy385, hTdy385, hcdy385, hddy385⟩ := id hkvy384
      refine z_istore (lv' := [(4, .int (zI (vy384))), (3, .int (zI (vy381))), (2, .int (zI (1))), (0, .ref (ad 2)), (1, .ref (ad 883))]) C dX7_readHour_66 (by decide) rfl ?_
      refine z_iload C 0 dX7_readHour_68 rfl ?_
      refine z_iconst (z := 1) C dX7_readHour_70 rfl ?_
      refine z_icmp_eq (tgt := 80) C dX7_readHour_71 (by decide) (by omega) (by omega) (fun hby386 => ?_) (fun hby386 => ?_)
      · refine z_aload_n C 3 dX7_readHour_80 rfl ?_
        refine z_iconst (z := 1) C dX7_readHour_81 rfl ?_
        refine z_bipush (z := 50) C dX7_readHour_82 (by decide) ?_
        have hruny387 : okRun cs ad gvy384 (covy384) tp := ⟨_, _, _, _, _, _, _, by omega, by omega, hcdy385, hddy385⟩
        refine z_cV (As := [.int (zI (1)), .int (zI (50))]) (rest := []) (ci := 9) C (c_X7_number l D A cs tt N ad _ (by omega) _ tp hruny387 (1) (by omega) (50) (by omega)) (by omega) hay2 hcdy385 rfl rfl mv_yX7_number q_817 hd_yX7_number (by decide) (Nat.le_of_ble_eq_true rfl) (by decide) dX7_readHour_84 rfl (kI0 fun vy388 gvy388 hvy388 => ?_)
        obtain ⟨hrvy388, ⟨covy388, hkvy388, hnvy388⟩, hfvy388⟩ := hvy388
        obtain ⟨pldy389, endy389, tydy389, a9dy389, bedy389, tkdy389, tddy389, hAdy389, hTdy389, hcdy389, hddy389⟩ := id hkvy388
        refine z_goto (tgt := 91) C dX7_readHour_87 (by decide) ?_
        refine z_istore (lv' := [(5, .int (zI (vy388))), (4, .int (zI (vy384))), (3, .int (zI (vy381))), (2, .int (zI (1))), (0, .ref (ad 2)), (1, .ref (ad 883))]) C dX7_readHour_91 (by decide) rfl ?_
        refine z_aload_n C 4 dX7_readHour_93 rfl ?_
        have hruny390 : okRun cs ad gvy388 (covy388) tp := ⟨_, _, _, _, _, _, _, by omega, by omega, hcdy389, hddy389⟩
        refine z_cV (As := []) (rest := []) (ci := 9) C (c_X7_close l D A cs tt N ad _ (by omega) _ tp hruny390 ) (by omega) hay2 hcdy389 rfl rfl mv_yX7_close q_821 hd_yX7_close (by decide) (Nat.le_of_ble_eq_true rfl) (by decide) dX7_readHour_94 rfl (kV0 fun gvy391 hvy391 => ?_)
        obtain ⟨⟨covy391, hkvy391, hnvy391⟩, hfvy391⟩ := hvy391
        obtain ⟨pldy392, endy392, tydy392, a9dy392, bedy392, tkdy392, tddy392, hAdy392, hTdy392, hcdy392, hddy392⟩ := id hkvy391
        refine z_aload_n C 4 dX7_readHour_97 rfl ?_
        refine z_get (v := .int (zI (covy391))) C (by omega) hay2 hcdy392 rfl inA_X7 1 (by decide) q_45 rfl rfl dX7_readHour_98 ?_
        refine z_if_ne (tgt := 155) C dX7_readHour_101 (by decide) (by omega) (fun hby393 => ?_) (fun hby393 => ?_)
        · have hruny394 : okRun cs ad gvy391 (covy391) tp := ⟨_, _, _, _, _, _, _, by omega, by omega, hcdy392, hddy392⟩
          have hgy395 := (hfvy14 (883) (by decide)).trans hpoy5.1
          have hgy396 := (hfvy378 (883) (by decide)).trans hgy395
          have hgy397 := (hfvy381 (883) (by decide)).trans hgy396
          have hgy398 := (hfvy384 (883) (by decide)).trans hgy397
          have hgy399 := (hfvy388 (883) (by decide)).trans hgy398
          have hgy400 := (hfvy391 (883) (by decide)).trans hgy399
          have hgy401 := (hfvy14 (883 + 1) (by omega)).trans hpoy5.2.1
          have hgy402 := (hfvy378 (883 + 1) (by omega)).trans hgy401
          have hgy403 := (hfvy381 (883 + 1) (by omega)).trans hgy402
          have hgy404 := (hfvy384 (883 + 1) (by omega)).trans hgy403
          have hgy405 := (hfvy388 (883 + 1) (by omega)).trans hgy404
          have hgy406 := (hfvy391 (883 + 1) (by omega)).trans hgy405
          have hgy407 := (hfvy14 (883 + 2) (by omega)).trans hpoy5.2.2.1
          have hgy408 := (hfvy378 (883 + 2) (by omega)).trans hgy407
          have hgy409 := (hfvy381 (883 + 2) (by omega)).trans hgy408
          have hgy410 := (hfvy384 (883 + 2) (by omega)).trans hgy409
          have hgy411 := (hfvy388 (883 + 2) (by omega)).trans hgy410
          have hgy412 := (hfvy391 (883 + 2) (by omega)).trans hgy411
          have hgy413 := (hfvy14 (883 + 3) (by omega)).trans hpoy5.2.2.2.1
          have hgy414 := (hfvy378 (883 + 3) (by omega)).trans hgy413
          have hgy415 := (hfvy381 (883 + 3) (by omega)).trans hgy414
          have hgy416 := (hfvy384 (883 + 3) (by omega)).trans hgy415
          have hgy417 := (hfvy388 (883 + 3) (by omega)).trans hgy416
          have hgy418 := (hfvy391 (883 + 3) (by omega)).trans hgy417
          have hgy419 := (hfvy14 (883 + 4) (by omega)).trans hpoy5.2.2.2.2.1
          have hgy420 := (hfvy378 (883 + 4) (by omega)).trans hgy419
          have hgy421 := (hfvy381 (883 + 4) (by omega)).trans hgy420
          have hgy422 := (hfvy384 (883 + 4) (by omega)).trans hgy421
          have hgy423 := (hfvy388 (883 + 4) (by omega)).trans hgy422
          have hgy424 := (hfvy391 (883 + 4) (by omega)).trans hgy423
          have hgy425 := (hfvy14 (883 + 5) (by omega)).trans hpoy5.2.2.2.2.2.1
          have hgy426 := (hfvy378 (883 + 5) (by omega)).trans hgy425
          have hgy427 := (hfvy381 (883 + 5) (by omega)).trans hgy426
          have hgy428 := (hfvy384 (883 + 5) (by omega)).trans hgy427
          have hgy429 := (hfvy388 (883 + 5) (by omega)).trans hgy428
          have hgy430 := (hfvy391 (883 + 5) (by omega)).trans hgy429
          have hgy431 := (hfvy14 (883 + 6) (by omega)).trans hpoy5.2.2.2.2.2.2
          have hgy432 := (hfvy378 (883 + 6) (by omega)).trans hgy431
          have hgy433 := (hfvy381 (883 + 6) (by omega)).trans hgy432
          have hgy434 := (hfvy384 (883 + 6) (by omega)).trans hgy433
          have hgy435 := (hfvy388 (883 + 6) (by omega)).trans hgy434
          have hgy436 := (hfvy391 (883 + 6) (by omega)).trans hgy435
          exact z_vret C hr hlk dX7_readHour_155 (by decide) (by decide) ⟨rfl, rfl, rfl, ⟨_, hruny394, by omega⟩, ⟨_, _, _, _, _, _, _, _, _, by omega, by omega, ⟨hgy400, hgy406, hgy412, hgy418, hgy424, hgy430, hgy436⟩⟩, fun j j1 j2 => by rw [hfvy391 _ (by omega)]; rw [hfvy388 _ (by omega)]; rw [hfvy384 _ (by omega)]; rw [hfvy381 _ (by omega)]; rw [hfvy378 _ (by omega)]; rw [hfvy14 _ (by omega)]⟩
        · refine z_aload_n C 5 dX7_readHour_104 rfl ?_
          have hgy437 := (hfvy14 (883) (by decide)).trans hpoy5.1
          have hgy438 := (hfvy378 (883) (by decide)).trans hgy437
          have hgy439 := (hfvy381 (883) (by decide)).trans hgy438
          have hgy440 := (hfvy384 (883) (by decide)).trans hgy439
          have hgy441 := (hfvy388 (883) (by decide)).trans hgy440
          have hgy442 := (hfvy391 (883) (by decide)).trans hgy441
          refine z_get (v := .ref (ad (883 + 3))) C (by omega) hay4 hgy442 rfl inA_X5 5 (by decide) q_106 rfl rfl dX7_readHour_105 ?_
          refine z_aload_n C 5 dX7_readHour_108 rfl ?_
          refine z_get (v := .int (zI (hooy5))) C (by omega) hay4 hgy442 rfl inA_X5 1 (by decide) q_94 rfl rfl dX7_readHour_109 ?_
          refine z_iload_n C 3 dX7_readHour_112 rfl ?_
          refine z_if_eq (tgt := 121) C dX7_readHour_113 (by decide) (by omega) (fun h => absurd h (by omega)) (fun _ => ?_)
          refine z_iload_n C 2 dX7_readHour_116 rfl ?_
          refine z_ineg C dX7_readHour_117 ?_
          refine z_goto (tgt := 122) C dX7_readHour_118 (by decide) ?_
          have hgy443 := (hfvy14 (883 + 3) (by omega)).trans hpoy5.2.2.2.1
          have hgy444 := (hfvy378 (883 + 3) (by omega)).trans hgy443
          have hgy445 := (hfvy381 (883 + 3) (by omega)).trans hgy444
          have hgy446 := (hfvy384 (883 + 3) (by omega)).trans hgy445
          have hgy447 := (hfvy388 (883 + 3) (by omega)).trans hgy446
          have hgy448 := (hfvy391 (883 + 3) (by omega)).trans hgy447
          refine z_iast C (by omega) hay8 hgy448 ((hooy5).toNat) (by omega) (by omega) (by decide) dX7_readHour_122 (fun gy449 egy450 => ?_)
          have hgy451 := up_s egy450
          refine z_aload_n C 5 dX7_readHour_123 rfl ?_
          have hgy452 := up_n egy450 hgy442 (ne_o (i := 883) (c := 0) (d := 3) rfl)
          refine z_get (v := .ref (ad (883 + 4))) C (by omega) hay4 hgy452 rfl inA_X5 6 (by decide) q_109 rfl rfl dX7_readHour_124 ?_
          refine z_aload_n C 5 dX7_readHour_127 rfl ?_
          refine z_get (v := .int (zI (hooy5))) C (by omega) hay4 hgy452 rfl inA_X5 1 (by decide) q_94 rfl rfl dX7_readHour_128 ?_
          refine z_iload C 1 dX7_readHour_131 rfl ?_
          have hgy453 := (hfvy14 (883 + 4) (by omega)).trans hpoy5.2.2.2.2.1
          have hgy454 := (hfvy378 (883 + 4) (by omega)).trans hgy453
          have hgy455 := (hfvy381 (883 + 4) (by omega)).trans hgy454
          have hgy456 := (hfvy384 (883 + 4) (by omega)).trans hgy455
          have hgy457 := (hfvy388 (883 + 4) (by omega)).trans hgy456
          have hgy458 := (hfvy391 (883 + 4) (by omega)).trans hgy457
          have hgy459 := up_n egy450 hgy458 (ne_o (i := 883) (c := 4) (d := 3) rfl)
          refine z_iast C (by omega) hay9 hgy459 ((hooy5).toNat) (by omega) (by omega) (by decide) dX7_readHour_133 (fun gy460 egy461 => ?_)
          have hgy462 := up_s egy461
          refine z_aload_n C 5 dX7_readHour_134 rfl ?_
          have hgy463 := up_n egy461 hgy452 (ne_o (i := 883) (c := 0) (d := 4) rfl)
          refine z_get (v := .ref (ad (883 + 5))) C (by omega) hay4 hgy463 rfl inA_X5 7 (by decide) q_112 rfl rfl dX7_readHour_135 ?_
          refine z_aload_n C 5 dX7_readHour_138 rfl ?_
          refine z_get (v := .int (zI (hooy5))) C (by omega) hay4 hgy463 rfl inA_X5 1 (by decide) q_94 rfl rfl dX7_readHour_139 ?_
          refine z_iload C 0 dX7_readHour_142 rfl ?_
          have hgy464 := (hfvy14 (883 + 5) (by omega)).trans hpoy5.2.2.2.2.2.1
          have hgy465 := (hfvy378 (883 + 5) (by omega)).trans hgy464
          have hgy466 := (hfvy381 (883 + 5) (by omega)).trans hgy465
          have hgy467 := (hfvy384 (883 + 5) (by omega)).trans hgy466
          have hgy468 := (hfvy388 (883 + 5) (by omega)).trans hgy467
          have hgy469 := (hfvy391 (883 + 5) (by omega)).trans hgy468
          have hgy470 := up_n egy450 hgy469 (ne_o (i := 883) (c := 5) (d := 3) rfl)
          have hgy471 := up_n egy461 hgy470 (ne_o (i := 883) (c := 5) (d := 4) rfl)
          refine z_iast C (by omega) hay10 hgy471 ((hooy5).toNat) (by omega) (by omega) (by decide) dX7_readHour_144 (fun gy472 egy473 => ?_)
          have hgy474 := up_s egy473
          refine z_aload_n C 5 dX7_readHour_145 rfl ?_
          refine z_dup C dX7_readHour_146 rfl ?_
          have hgy475 := up_n egy473 hgy463 (ne_o (i := 883) (c := 0) (d := 5) rfl)
          refine z_get (v := .int (zI (hooy5))) C (by omega) hay4 hgy475 rfl inA_X5 1 (by decide) q_94 rfl rfl dX7_readHour_147 ?_
          refine z_iconst (z := 1) C dX7_readHour_150 rfl ?_
          refine z_iadd C dX7_readHour_151 ?_
          refine z_put (fs' := [.int (zI (sloy5)), .int (zI (hooy5 + 1)), .int (zI (uaoy5)), .ref (ad (883 + 1)), .ref (ad (883 + 2)), .ref (ad (883 + 3)), .ref (ad (883 + 4)), .ref (ad (883 + 5)), .ref (ad (883 + 6))]) C (by omega) hay4 hgy475 tyX5 tyX5_ok nmX5 rfl inA_X5 1 (by decide) q_94 rfl rfl rfl rfl (Nat.le_of_ble_eq_true rfl) rfl dX7_readHour_152 (fun gy476 egy477 => ?_)
          have hgy478 := up_s egy477
          have hgy480 := up_n egy450 hcdy392 (by omega)
          have hgy481 := up_n egy461 hgy480 (by omega)
          have hgy482 := up_n egy473 hgy481 (by omega)
          have hgy483 := up_n egy477 hgy482 (by decide)
          have hgy484 := up_n egy450 hddy392 (by omega)
          have hgy485 := up_n egy461 hgy484 (by omega)
          have hgy486 := up_n egy473 hgy485 (by omega)
          have hgy487 := up_n egy477 hgy486 (by decide)
          have hruny479 : okRun cs ad gy476 (covy391) tp := ⟨_, _, _, _, _, _, _, by omega, by omega, hgy483, hgy487⟩
          have hgy488 := (hfvy14 (883 + 1) (by omega)).trans hpoy5.2.1
          have hgy489 := (hfvy378 (883 + 1) (by omega)).trans hgy488
          have hgy490 := (hfvy381 (883 + 1) (by omega)).trans hgy489
          have hgy491 := (hfvy384 (883 + 1) (by omega)).trans hgy490
          have hgy492 := (hfvy388 (883 + 1) (by omega)).trans hgy491
          have hgy493 := (hfvy391 (883 + 1) (by omega)).trans hgy492
          have hgy494 := up_n egy450 hgy493 (ne_o (i := 883) (c := 1) (d := 3) rfl)
          have hgy495 := up_n egy461 hgy494 (ne_o (i := 883) (c := 1) (d := 4) rfl)
          have hgy496 := up_n egy473 hgy495 (ne_o (i := 883) (c := 1) (d := 5) rfl)
          have hgy497 := up_n egy477 hgy496 (ne_o (i := 883) (c := 1) (d := 0) rfl)
          have hgy498 := (hfvy14 (883 + 2) (by omega)).trans hpoy5.2.2.1
          have hgy499 := (hfvy378 (883 + 2) (by omega)).trans hgy498
          have hgy500 := (hfvy381 (883 + 2) (by omega)).trans hgy499
          have hgy501 := (hfvy384 (883 + 2) (by omega)).trans hgy500
          have hgy502 := (hfvy388 (883 + 2) (by omega)).trans hgy501
          have hgy503 := (hfvy391 (883 + 2) (by omega)).trans hgy502
          have hgy504 := up_n egy450 hgy503 (ne_o (i := 883) (c := 2) (d := 3) rfl)
          have hgy505 := up_n egy461 hgy504 (ne_o (i := 883) (c := 2) (d := 4) rfl)
          have hgy506 := up_n egy473 hgy505 (ne_o (i := 883) (c := 2) (d := 5) rfl)
          have hgy507 := up_n egy477 hgy506 (ne_o (i := 883) (c := 2) (d := 0) rfl)
          have hgy508 := up_n egy461 hgy451 (ne_o (i := 883) (c := 3) (d := 4) rfl)
          have hgy509 := up_n egy473 hgy508 (ne_o (i := 883) (c := 3) (d := 5) rfl)
          have hgy510 := up_n egy477 hgy509 (ne_o (i := 883) (c := 3) (d := 0) rfl)
          have hgy511 := up_n egy473 hgy462 (ne_o (i := 883) (c := 4) (d := 5) rfl)
          have hgy512 := up_n egy477 hgy511 (ne_o (i := 883) (c := 4) (d := 0) rfl)
          have hgy513 := up_n egy477 hgy474 (ne_o (i := 883) (c := 5) (d := 0) rfl)
          have hgy514 := (hfvy14 (883 + 6) (by omega)).trans hpoy5.2.2.2.2.2.2
          have hgy515 := (hfvy378 (883 + 6) (by omega)).trans hgy514
          have hgy516 := (hfvy381 (883 + 6) (by omega)).trans hgy515
          have hgy517 := (hfvy384 (883 + 6) (by omega)).trans hgy516
          have hgy518 := (hfvy388 (883 + 6) (by omega)).trans hgy517
          have hgy519 := (hfvy391 (883 + 6) (by omega)).trans hgy518
          have hgy520 := up_n egy450 hgy519 (ne_o (i := 883) (c := 6) (d := 3) rfl)
          have hgy521 := up_n egy461 hgy520 (ne_o (i := 883) (c := 6) (d := 4) rfl)
          have hgy522 := up_n egy473 hgy521 (ne_o (i := 883) (c := 6) (d := 5) rfl)
          have hgy523 := up_n egy477 hgy522 (ne_o (i := 883) (c := 6) (d := 0) rfl)
          exact z_vret C hr hlk dX7_readHour_155 (by decide) (by decide) ⟨rfl, rfl, rfl, ⟨_, hruny479, by omega⟩, ⟨_, _, _, _, _, _, _, _, _, by omega, by omega, ⟨hgy478, hgy497, hgy507, hgy510, hgy512, hgy513, hgy523⟩⟩, fun j j1 j2 => by rw [egy477, va_up_ne _ _ (by omega)]; rw [egy473, va_up_ne _ _ (by omega)]; rw [egy461, va_up_ne _ _ (by omega)]; rw [egy450, va_up_ne _ _ (by omega)]; rw [hfvy391 _ (by omega)]; rw [hfvy388 _ (by omega)]; rw [hfvy384 _ (by omega)]; rw [hfvy381 _ (by omega)]; rw [hfvy378 _ (by omega)]; rw [hfvy14 _ (by omega)]⟩
      · refine z_iload C 0 dX7_readHour_74 rfl ?_
        refine z_iconst (z := 2) C dX7_readHour_76 rfl ?_
        refine z_icmp_ne (tgt := 90) C dX7_readHour_77 (by decide) (by omega) (by omega) (fun hby524 => ?_) (fun hby524 => ?_)
        · refine z_iconst (z := 0) C dX7_readHour_90 rfl ?_
          refine z_istore (lv' := [(5, .int (zI (0))), (4, .int (zI (vy384))), (3, .int (zI (vy381))), (2, .int (zI (1))), (0, .ref (ad 2)), (1, .ref (ad 883))]) C dX7_readHour_91 (by decide) rfl ?_
          refine z_aload_n C 4 dX7_readHour_93 rfl ?_
          have hruny525 : okRun cs ad gvy384 (covy384) tp := ⟨_, _, _, _, _, _, _, by omega, by omega, hcdy385, hddy385⟩
          refine z_cV (As := []) (rest := []) (ci := 9) C (c_X7_close l D A cs tt N ad _ (by omega) _ tp hruny525 ) (by omega) hay2 hcdy385 rfl rfl mv_yX7_close q_821 hd_yX7_close (by decide) (Nat.le_of_ble_eq_true rfl) (by decide) dX7_readHour_94 rfl (kV0 fun gvy526 hvy526 => ?_)
          obtain ⟨⟨covy526, hkvy526, hnvy526⟩, hfvy526⟩ := hvy526
          obtain ⟨pldy527, endy527, tydy527, a9dy527, bedy527, tkdy527, tddy527, hAdy527, hTdy527, hcdy527, hddy527⟩ := id hkvy526
          refine z_aload_n C 4 dX7_readHour_97 rfl ?_
          refine z_get (v := .int (zI (covy526))) C (by omega) hay2 hcdy527 rfl inA_X7 1 (by decide) q_45 rfl rfl dX7_readHour_98 ?_
          refine z_if_ne (tgt := 155) C dX7_readHour_101 (by decide) (by omega) (fun hby528 => ?_) (fun hby528 => ?_)
          · have hruny529 : okRun cs ad gvy526 (covy526) tp := ⟨_, _, _, _, _, _, _, by omega, by omega, hcdy527, hddy527⟩
            have hgy530 := (hfvy14 (883) (by decide)).trans hpoy5.1
            have hgy531 := (hfvy378 (883) (by decide)).trans hgy530
            have hgy532 := (hfvy381 (883) (by decide)).trans hgy531
            have hgy533 := (hfvy384 (883) (by decide)).trans hgy532
            have hgy534 := (hfvy526 (883) (by decide)).trans hgy533
            have hgy535 := (hfvy14 (883 + 1) (by omega)).trans hpoy5.2.1
            have hgy536 := (hfvy378 (883 + 1) (by omega)).trans hgy535
            have hgy537 := (hfvy381 (883 + 1) (by omega)).trans hgy536
            have hgy538 := (hfvy384 (883 + 1) (by omega)).trans hgy537
            have hgy539 := (hfvy526 (883 + 1) (by omega)).trans hgy538
            have hgy540 := (hfvy14 (883 + 2) (by omega)).trans hpoy5.2.2.1
            have hgy541 := (hfvy378 (883 + 2) (by omega)).trans hgy540
            have hgy542 := (hfvy381 (883 + 2) (by omega)).trans hgy541
            have hgy543 := (hfvy384 (883 + 2) (by omega)).trans hgy542
            have hgy544 := (hfvy526 (883 + 2) (by omega)).trans hgy543
            have hgy545 := (hfvy14 (883 + 3) (by omega)).trans hpoy5.2.2.2.1
            have hgy546 := (hfvy378 (883 + 3) (by omega)).trans hgy545
            have hgy547 := (hfvy381 (883 + 3) (by omega)).trans hgy546
            have hgy548 := (hfvy384 (883 + 3) (by omega)).trans hgy547
            have hgy549 := (hfvy526 (883 + 3) (by omega)).trans hgy548
            have hgy550 := (hfvy14 (883 + 4) (by omega)).trans hpoy5.2.2.2.2.1
            have hgy551 := (hfvy378 (883 + 4) (by omega)).trans hgy550
            have hgy552 := (hfvy381 (883 + 4) (by omega)).trans hgy551
            have hgy553 := (hfvy384 (883 + 4) (by omega)).trans hgy552
            have hgy554 := (hfvy526 (883 + 4) (by omega)).trans hgy553
            have hgy555 := (hfvy14 (883 + 5) (by omega)).trans hpoy5.2.2.2.2.2.1
            have hgy556 := (hfvy378 (883 + 5) (by omega)).trans hgy555
            have hgy557 := (hfvy381 (883 + 5) (by omega)).trans hgy556
            have hgy558 := (hfvy384 (883 + 5) (by omega)).trans hgy557
            have hgy559 := (hfvy526 (883 + 5) (by omega)).trans hgy558
            have hgy560 := (hfvy14 (883 + 6) (by omega)).trans hpoy5.2.2.2.2.2.2
            have hgy561 := (hfvy378 (883 + 6) (by omega)).trans hgy560
            have hgy562 := (hfvy381 (883 + 6) (by omega)).trans hgy561
            have hgy563 := (hfvy384 (883 + 6) (by omega)).trans hgy562
            have hgy564 := (hfvy526 (883 + 6) (by omega)).trans hgy563
            exact z_vret C hr hlk dX7_readHour_155 (by decide) (by decide) ⟨rfl, rfl, rfl, ⟨_, hruny529, by omega⟩, ⟨_, _, _, _, _, _, _, _, _, by omega, by omega, ⟨hgy534, hgy539, hgy544, hgy549, hgy554, hgy559, hgy564⟩⟩, fun j j1 j2 => by rw [hfvy526 _ (by omega)]; rw [hfvy384 _ (by omega)]; rw [hfvy381 _ (by omega)]; rw [hfvy378 _ (by omega)]; rw [hfvy14 _ (by omega)]⟩
          · refine z_aload_n C 5 dX7_readHour_104 rfl ?_
            have hgy565 := (hfvy14 (883) (by decide)).trans hpoy5.1
            have hgy566 := (hfvy378 (883) (by decide)).trans hgy565
            have hgy567 := (hfvy381 (883) (by decide)).trans hgy566
            have hgy568 := (hfvy384 (883) (by decide)).trans hgy567
            have hgy569 := (hfvy526 (883) (by decide)).trans hgy568
            refine z_get (v := .ref (ad (883 + 3))) C (by omega) hay4 hgy569 rfl inA_X5 5 (by decide) q_106 rfl rfl dX7_readHour_105 ?_
            refine z_aload_n C 5 dX7_readHour_108 rfl ?_
            refine z_get (v := .int (zI (hooy5))) C (by omega) hay4 hgy569 rfl inA_X5 1 (by decide) q_94 rfl rfl dX7_readHour_109 ?_
            refine z_iload_n C 3 dX7_readHour_112 rfl ?_
            refine z_if_eq (tgt := 121) C dX7_readHour_113 (by decide) (by omega) (fun h => absurd h (by omega)) (fun _ => ?_)
            refine z_iload_n C 2 dX7_readHour_116 rfl ?_
            refine z_ineg C dX7_readHour_117 ?_
            refine z_goto (tgt := 122) C dX7_readHour_118 (by decide) ?_
            have hgy570 := (hfvy14 (883 + 3) (by omega)).trans hpoy5.2.2.2.1
            have hgy571 := (hfvy378 (883 + 3) (by omega)).trans hgy570
            have hgy572 := (hfvy381 (883 + 3) (by omega)).trans hgy571
            have hgy573 := (hfvy384 (883 + 3) (by omega)).trans hgy572
            have hgy574 := (hfvy526 (883 + 3) (by omega)).trans hgy573
            refine z_iast C (by omega) hay8 hgy574 ((hooy5).toNat) (by omega) (by omega) (by decide) dX7_readHour_122 (fun gy575 egy576 => ?_)
            have hgy577 := up_s egy576
            refine z_aload_n C 5 dX7_readHour_123 rfl ?_
            have hgy578 := up_n egy576 hgy569 (ne_o (i := 883) (c := 0) (d := 3) rfl)
            refine z_get (v := .ref (ad (883 + 4))) C (by omega) hay4 hgy578 rfl inA_X5 6 (by decide) q_109 rfl rfl dX7_readHour_124 ?_
            refine z_aload_n C 5 dX7_readHour_127 rfl ?_
            refine z_get (v := .int (zI (hooy5))) C (by omega) hay4 hgy578 rfl inA_X5 1 (by decide) q_94 rfl rfl dX7_readHour_128 ?_
            refine z_iload C 1 dX7_readHour_131 rfl ?_
            have hgy579 := (hfvy14 (883 + 4) (by omega)).trans hpoy5.2.2.2.2.1
            have hgy580 := (hfvy378 (883 + 4) (by omega)).trans hgy579
            have hgy581 := (hfvy381 (883 + 4) (by omega)).trans hgy580
            have hgy582 := (hfvy384 (883 + 4) (by omega)).trans hgy581
            have hgy583 := (hfvy526 (883 + 4) (by omega)).trans hgy582
            have hgy584 := up_n egy576 hgy583 (ne_o (i := 883) (c := 4) (d := 3) rfl)
            refine z_iast C (by omega) hay9 hgy584 ((hooy5).toNat) (by omega) (by omega) (by decide) dX7_readHour_133 (fun gy585 egy586 => ?_)
            have hgy587 := up_s egy586
            refine z_aload_n C 5 dX7_readHour_134 rfl ?_
            have hgy588 := up_n egy586 hgy578 (ne_o (i := 883) (c := 0) (d := 4) rfl)
            refine z_get (v := .ref (ad (883 + 5))) C (by omega) hay4 hgy588 rfl inA_X5 7 (by decide) q_112 rfl rfl dX7_readHour_135 ?_
            refine z_aload_n C 5 dX7_readHour_138 rfl ?_
            refine z_get (v := .int (zI (hooy5))) C (by omega) hay4 hgy588 rfl inA_X5 1 (by decide) q_94 rfl rfl dX7_readHour_139 ?_
            refine z_iload C 0 dX7_readHour_142 rfl ?_
            have hgy589 := (hfvy14 (883 + 5) (by omega)).trans hpoy5.2.2.2.2.2.1
            have hgy590 := (hfvy378 (883 + 5) (by omega)).trans hgy589
            have hgy591 := (hfvy381 (883 + 5) (by omega)).trans hgy590
            have hgy592 := (hfvy384 (883 + 5) (by omega)).trans hgy591
            have hgy593 := (hfvy526 (883 + 5) (by omega)).trans hgy592
            have hgy594 := up_n egy576 hgy593 (ne_o (i := 883) (c := 5) (d := 3) rfl)
            have hgy595 := up_n egy586 hgy594 (ne_o (i := 883) (c := 5) (d := 4) rfl)
            refine z_iast C (by omega) hay10 hgy595 ((hooy5).toNat) (by omega) (by omega) (by decide) dX7_readHour_144 (fun gy596 egy597 => ?_)
            have hgy598 := up_s egy597
            refine z_aload_n C 5 dX7_readHour_145 rfl ?_
            refine z_dup C dX7_readHour_146 rfl ?_
            have hgy599 := up_n egy597 hgy588 (ne_o (i := 883) (c := 0) (d := 5) rfl)
            refine z_get (v := .int (zI (hooy5))) C (by omega) hay4 hgy599 rfl inA_X5 1 (by decide) q_94 rfl rfl dX7_readHour_147 ?_
            refine z_iconst (z := 1) C dX7_readHour_150 rfl ?_
            refine z_iadd C dX7_readHour_151 ?_
            refine z_put (fs' := [.int (zI (sloy5)), .int (zI (hooy5 + 1)), .int (zI (uaoy5)), .ref (ad (883 + 1)), .ref (ad (883 + 2)), .ref (ad (883 + 3)), .ref (ad (883 + 4)), .ref (ad (883 + 5)), .ref (ad (883 + 6))]) C (by omega) hay4 hgy599 tyX5 tyX5_ok nmX5 rfl inA_X5 1 (by decide) q_94 rfl rfl rfl rfl (Nat.le_of_ble_eq_true rfl) rfl dX7_readHour_152 (fun gy600 egy601 => ?_)
            have hgy602 := up_s egy601
            have hgy604 := up_n egy576 hcdy527 (by omega)
            have hgy605 := up_n egy586 hgy604 (by omega)
            have hgy606 := up_n egy597 hgy605 (by omega)
            have hgy607 := up_n egy601 hgy606 (by decide)
            have hgy608 := up_n egy576 hddy527 (by omega)
            have hgy609 := up_n egy586 hgy608 (by omega)
            have hgy610 := up_n egy597 hgy609 (by omega)
            have hgy611 := up_n egy601 hgy610 (by decide)
            have hruny603 : okRun cs ad gy600 (covy526) tp := ⟨_, _, _, _, _, _, _, by omega, by omega, hgy607, hgy611⟩
            have hgy612 := (hfvy14 (883 + 1) (by omega)).trans hpoy5.2.1
            have hgy613 := (hfvy378 (883 + 1) (by omega)).trans hgy612
            have hgy614 := (hfvy381 (883 + 1) (by omega)).trans hgy613
            have hgy615 := (hfvy384 (883 + 1) (by omega)).trans hgy614
            have hgy616 := (hfvy526 (883 + 1) (by omega)).trans hgy615
            have hgy617 := up_n egy576 hgy616 (ne_o (i := 883) (c := 1) (d := 3) rfl)
            have hgy618 := up_n egy586 hgy617 (ne_o (i := 883) (c := 1) (d := 4) rfl)
            have hgy619 := up_n egy597 hgy618 (ne_o (i := 883) (c := 1) (d := 5) rfl)
            have hgy620 := up_n egy601 hgy619 (ne_o (i := 883) (c := 1) (d := 0) rfl)
            have hgy621 := (hfvy14 (883 + 2) (by omega)).trans hpoy5.2.2.1
            have hgy622 := (hfvy378 (883 + 2) (by omega)).trans hgy621
            have hgy623 := (hfvy381 (883 + 2) (by omega)).trans hgy622
            have hgy624 := (hfvy384 (883 + 2) (by omega)).trans hgy623
            have hgy625 := (hfvy526 (883 + 2) (by omega)).trans hgy624
            have hgy626 := up_n egy576 hgy625 (ne_o (i := 883) (c := 2) (d := 3) rfl)
            have hgy627 := up_n egy586 hgy626 (ne_o (i := 883) (c := 2) (d := 4) rfl)
            have hgy628 := up_n egy597 hgy627 (ne_o (i := 883) (c := 2) (d := 5) rfl)
            have hgy629 := up_n egy601 hgy628 (ne_o (i := 883) (c := 2) (d := 0) rfl)
            have hgy630 := up_n egy586 hgy577 (ne_o (i := 883) (c := 3) (d := 4) rfl)
            have hgy631 := up_n egy597 hgy630 (ne_o (i := 883) (c := 3) (d := 5) rfl)
            have hgy632 := up_n egy601 hgy631 (ne_o (i := 883) (c := 3) (d := 0) rfl)
            have hgy633 := up_n egy597 hgy587 (ne_o (i := 883) (c := 4) (d := 5) rfl)
            have hgy634 := up_n egy601 hgy633 (ne_o (i := 883) (c := 4) (d := 0) rfl)
            have hgy635 := up_n egy601 hgy598 (ne_o (i := 883) (c := 5) (d := 0) rfl)
            have hgy636 := (hfvy14 (883 + 6) (by omega)).trans hpoy5.2.2.2.2.2.2
            have hgy637 := (hfvy378 (883 + 6) (by omega)).trans hgy636
            have hgy638 := (hfvy381 (883 + 6) (by omega)).trans hgy637
            have hgy639 := (hfvy384 (883 + 6) (by omega)).trans hgy638
            have hgy640 := (hfvy526 (883 + 6) (by omega)).trans hgy639
            have hgy641 := up_n egy576 hgy640 (ne_o (i := 883) (c := 6) (d := 3) rfl)
            have hgy642 := up_n egy586 hgy641 (ne_o (i := 883) (c := 6) (d := 4) rfl)
            have hgy643 := up_n egy597 hgy642 (ne_o (i := 883) (c := 6) (d := 5) rfl)
            have hgy644 := up_n egy601 hgy643 (ne_o (i := 883) (c := 6) (d := 0) rfl)
            exact z_vret C hr hlk dX7_readHour_155 (by decide) (by decide) ⟨rfl, rfl, rfl, ⟨_, hruny603, by omega⟩, ⟨_, _, _, _, _, _, _, _, _, by omega, by omega, ⟨hgy602, hgy620, hgy629, hgy632, hgy634, hgy635, hgy644⟩⟩, fun j j1 j2 => by rw [egy601, va_up_ne _ _ (by omega)]; rw [egy597, va_up_ne _ _ (by omega)]; rw [egy586, va_up_ne _ _ (by omega)]; rw [egy576, va_up_ne _ _ (by omega)]; rw [hfvy526 _ (by omega)]; rw [hfvy384 _ (by omega)]; rw [hfvy381 _ (by omega)]; rw [hfvy378 _ (by omega)]; rw [hfvy14 _ (by omega)]⟩
        · refine z_aload_n C 3 dX7_readHour_80 rfl ?_
          refine z_iconst (z := 1) C dX7_readHour_81 rfl ?_
          refine z_bipush (z := 50) C dX7_readHour_82 (by decide) ?_
          have hruny645 : okRun cs ad gvy384 (covy384) tp := ⟨_, _, _, _, _, _, _, by omega, by omega, hcdy385, hddy385⟩
          refine z_cV (As := [.int (zI (1)), .int (zI (50))]) (rest := []) (ci := 9) C (c_X7_number l D A cs tt N ad _ (by omega) _ tp hruny645 (1) (by omega) (50) (by omega)) (by omega) hay2 hcdy385 rfl rfl mv_yX7_number q_817 hd_yX7_number (by decide) (Nat.le_of_ble_eq_true rfl) (by decide) dX7_readHour_84 rfl (kI0 fun vy646 gvy646 hvy646 => ?_)
          obtain ⟨hrvy646, ⟨covy646, hkvy646, hnvy646⟩, hfvy646⟩ := hvy646
          obtain ⟨pldy647, endy647, tydy647, a9dy647, bedy647, tkdy647, tddy647, hAdy647, hTdy647, hcdy647, hddy647⟩ := id hkvy646
          refine z_goto (tgt := 91) C dX7_readHour_87 (by decide) ?_
          refine z_istore (lv' := [(5, .int (zI (vy646))), (4, .int (zI (vy384))), (3, .int (zI (vy381))), (2, .int (zI (1))), (0, .ref (ad 2)), (1, .ref (ad 883))]) C dX7_readHour_91 (by decide) rfl ?_
          refine z_aload_n C 4 dX7_readHour_93 rfl ?_
          have hruny648 : okRun cs ad gvy646 (covy646) tp := ⟨_, _, _, _, _, _, _, by omega, by omega, hcdy647, hddy647⟩
          refine z_cV (As := []) (rest := []) (ci := 9) C (c_X7_close l D A cs tt N ad _ (by omega) _ tp hruny648 ) (by omega) hay2 hcdy647 rfl rfl mv_yX7_close q_821 hd_yX7_close (by decide) (Nat.le_of_ble_eq_true rfl) (by decide) dX7_readHour_94 rfl (kV0 fun gvy649 hvy649 => ?_)
          obtain ⟨⟨covy649, hkvy649, hnvy649⟩, hfvy649⟩ := hvy649
          obtain ⟨pldy650, endy650, tydy650, a9dy650, bedy650, tkdy650, tddy650, hAdy650, hTdy650, hcdy650, hddy650⟩ := id hkvy649
          refine z_aload_n C 4 dX7_readHour_97 rfl ?_
          refine z_get (v := .int (zI (covy649))) C (by omega) hay2 hcdy650 rfl inA_X7 1 (by decide) q_45 rfl rfl dX7_readHour_98 ?_
          refine z_if_ne (tgt := 155) C dX7_readHour_101 (by decide) (by omega) (fun hby651 => ?_) (fun hby651 => ?_)
          · have hruny652 : okRun cs ad gvy649 (covy649) tp := ⟨_, _, _, _, _, _, _, by omega, by omega, hcdy650, hddy650⟩
            have hgy653 := (hfvy14 (883) (by decide)).trans hpoy5.1
            have hgy654 := (hfvy378 (883) (by decide)).trans hgy653
            have hgy655 := (hfvy381 (883) (by decide)).trans hgy654
            have hgy656 := (hfvy384 (883) (by decide)).trans hgy655
            have hgy657 := (hfvy646 (883) (by decide)).trans hgy656
            have hgy658 := (hfvy649 (883) (by decide)).trans hgy657
            have hgy659 := (hfvy14 (883 + 1) (by omega)).trans hpoy5.2.1
            have hgy660 := (hfvy378 (883 + 1) (by omega)).trans hgy659
            have hgy661 := (hfvy381 (883 + 1) (by omega)).trans hgy660
            have hgy662 := (hfvy384 (883 + 1) (by omega)).trans hgy661
            have hgy663 := (hfvy646 (883 + 1) (by omega)).trans hgy662
            have hgy664 := (hfvy649 (883 + 1) (by omega)).trans hgy663
            have hgy665 := (hfvy14 (883 + 2) (by omega)).trans hpoy5.2.2.1
            have hgy666 := (hfvy378 (883 + 2) (by omega)).trans hgy665
            have hgy667 := (hfvy381 (883 + 2) (by omega)).trans hgy666
            have hgy668 := (hfvy384 (883 + 2) (by omega)).trans hgy667
            have hgy669 := (hfvy646 (883 + 2) (by omega)).trans hgy668
            have hgy670 := (hfvy649 (883 + 2) (by omega)).trans hgy669
            have hgy671 := (hfvy14 (883 + 3) (by omega)).trans hpoy5.2.2.2.1
            have hgy672 := (hfvy378 (883 + 3) (by omega)).trans hgy671
            have hgy673 := (hfvy381 (883 + 3) (by omega)).trans hgy672
            have hgy674 := (hfvy384 (883 + 3) (by omega)).trans hgy673
            have hgy675 := (hfvy646 (883 + 3) (by omega)).trans hgy674
            have hgy676 := (hfvy649 (883 + 3) (by omega)).trans hgy675
            have hgy677 := (hfvy14 (883 + 4) (by omega)).trans hpoy5.2.2.2.2.1
            have hgy678 := (hfvy378 (883 + 4) (by omega)).trans hgy677
            have hgy679 := (hfvy381 (883 + 4) (by omega)).trans hgy678
            have hgy680 := (hfvy384 (883 + 4) (by omega)).trans hgy679
            have hgy681 := (hfvy646 (883 + 4) (by omega)).trans hgy680
            have hgy682 := (hfvy649 (883 + 4) (by omega)).trans hgy681
            have hgy683 := (hfvy14 (883 + 5) (by omega)).trans hpoy5.2.2.2.2.2.1
            have hgy684 := (hfvy378 (883 + 5) (by omega)).trans hgy683
            have hgy685 := (hfvy381 (883 + 5) (by omega)).trans hgy684
            have hgy686 := (hfvy384 (883 + 5) (by omega)).trans hgy685
            have hgy687 := (hfvy646 (883 + 5) (by omega)).trans hgy686
            have hgy688 := (hfvy649 (883 + 5) (by omega)).trans hgy687
            have hgy689 := (hfvy14 (883 + 6) (by omega)).trans hpoy5.2.2.2.2.2.2
            have hgy690 := (hfvy378 (883 + 6) (by omega)).trans hgy689
            have hgy691 := (hfvy381 (883 + 6) (by omega)).trans hgy690
            have hgy692 := (hfvy384 (883 + 6) (by omega)).trans hgy691
            have hgy693 := (hfvy646 (883 + 6) (by omega)).trans hgy692
            have hgy694 := (hfvy649 (883 + 6) (by omega)).trans hgy693
            exact z_vret C hr hlk dX7_readHour_155 (by decide) (by decide) ⟨rfl, rfl, rfl, ⟨_, hruny652, by omega⟩, ⟨_, _, _, _, _, _, _, _, _, by omega, by omega, ⟨hgy658, hgy664, hgy670, hgy676, hgy682, hgy688, hgy694⟩⟩, fun j j1 j2 => by rw [hfvy649 _ (by omega)]; rw [hfvy646 _ (by omega)]; rw [hfvy384 _ (by omega)]; rw [hfvy381 _ (by omega)]; rw [hfvy378 _ (by omega)]; rw [hfvy14 _ (by omega)]⟩
          · refine z_aload_n C 5 dX7_readHour_104 rfl ?_
            have hgy695 := (hfvy14 (883) (by decide)).trans hpoy5.1
            have hgy696 := (hfvy378 (883) (by decide)).trans hgy695
            have hgy697 := (hfvy381 (883) (by decide)).trans hgy696
            have hgy698 := (hfvy384 (883) (by decide)).trans hgy697
            have hgy699 := (hfvy646 (883) (by decide)).trans hgy698
            have hgy700 := (hfvy649 (883) (by decide)).trans hgy699
            refine z_get (v := .ref (ad (883 + 3))) C (by omega) hay4 hgy700 rfl inA_X5 5 (by decide) q_106 rfl rfl dX7_readHour_105 ?_
            refine z_aload_n C 5 dX7_readHour_108 rfl ?_
            refine z_get (v := .int (zI (hooy5))) C (by omega) hay4 hgy700 rfl inA_X5 1 (by decide) q_94 rfl rfl dX7_readHour_109 ?_
            refine z_iload_n C 3 dX7_readHour_112 rfl ?_
            refine z_if_eq (tgt := 121) C dX7_readHour_113 (by decide) (by omega) (fun h => absurd h (by omega)) (fun _ => ?_)
            refine z_iload_n C 2 dX7_readHour_116 rfl ?_
            refine z_ineg C dX7_readHour_117 ?_
            refine z_goto (tgt := 122) C dX7_readHour_118 (by decide) ?_
            have hgy701 := (hfvy14 (883 + 3) (by omega)).trans hpoy5.2.2.2.1
            have hgy702 := (hfvy378 (883 + 3) (by omega)).trans hgy701
            have hgy703 := (hfvy381 (883 + 3) (by omega)).trans hgy702
            have hgy704 := (hfvy384 (883 + 3) (by omega)).trans hgy703
            have hgy705 := (hfvy646 (883 + 3) (by omega)).trans hgy704
            have hgy706 := (hfvy649 (883 + 3) (by omega)).trans hgy705
            refine z_iast C (by omega) hay8 hgy706 ((hooy5).toNat) (by omega) (by omega) (by decide) dX7_readHour_122 (fun gy707 egy708 => ?_)
            have hgy709 := up_s egy708
            refine z_aload_n C 5 dX7_readHour_123 rfl ?_
            have hgy710 := up_n egy708 hgy700 (ne_o (i := 883) (c := 0) (d := 3) rfl)
            refine z_get (v := .ref (ad (883 + 4))) C (by omega) hay4 hgy710 rfl inA_X5 6 (by decide) q_109 rfl rfl dX7_readHour_124 ?_
            refine z_aload_n C 5 dX7_readHour_127 rfl ?_
            refine z_get (v := .int (zI (hooy5))) C (by omega) hay4 hgy710 rfl inA_X5 1 (by decide) q_94 rfl rfl dX7_readHour_128 ?_
            refine z_iload C 1 dX7_readHour_131 rfl ?_
            have hgy711 := (hfvy14 (883 + 4) (by omega)).trans hpoy5.2.2.2.2.1
            have hgy712 := (hfvy378 (883 + 4) (by omega)).trans hgy711
            have hgy713 := (hfvy381 (883 + 4) (by omega)).trans hgy712
            have hgy714 := (hfvy384 (883 + 4) (by omega)).trans hgy713
            have hgy715 := (hfvy646 (883 + 4) (by omega)).trans hgy714
            have hgy716 := (hfvy649 (883 + 4) (by omega)).trans hgy715
            have hgy717 := up_n egy708 hgy716 (ne_o (i := 883) (c := 4) (d := 3) rfl)
            refine z_iast C (by omega) hay9 hgy717 ((hooy5).toNat) (by omega) (by omega) (by decide) dX7_readHour_133 (fun gy718 egy719 => ?_)
            have hgy720 := up_s egy719
            refine z_aload_n C 5 dX7_readHour_134 rfl ?_
            have hgy721 := up_n egy719 hgy710 (ne_o (i := 883) (c := 0) (d := 4) rfl)
            refine z_get (v := .ref (ad (883 + 5))) C (by omega) hay4 hgy721 rfl inA_X5 7 (by decide) q_112 rfl rfl dX7_readHour_135 ?_
            refine z_aload_n C 5 dX7_readHour_138 rfl ?_
            refine z_get (v := .int (zI (hooy5))) C (by omega) hay4 hgy721 rfl inA_X5 1 (by decide) q_94 rfl rfl dX7_readHour_139 ?_
            refine z_iload C 0 dX7_readHour_142 rfl ?_
            have hgy722 := (hfvy14 (883 + 5) (by omega)).trans hpoy5.2.2.2.2.2.1
            have hgy723 := (hfvy378 (883 + 5) (by omega)).trans hgy722
            have hgy724 := (hfvy381 (883 + 5) (by omega)).trans hgy723
            have hgy725 := (hfvy384 (883 + 5) (by omega)).trans hgy724
            have hgy726 := (hfvy646 (883 + 5) (by omega)).trans hgy725
            have hgy727 := (hfvy649 (883 + 5) (by omega)).trans hgy726
            have hgy728 := up_n egy708 hgy727 (ne_o (i := 883) (c := 5) (d := 3) rfl)
            have hgy729 := up_n egy719 hgy728 (ne_o (i := 883) (c := 5) (d := 4) rfl)
            refine z_iast C (by omega) hay10 hgy729 ((hooy5).toNat) (by omega) (by omega) (by decide) dX7_readHour_144 (fun gy730 egy731 => ?_)
            have hgy732 := up_s egy731
            refine z_aload_n C 5 dX7_readHour_145 rfl ?_
            refine z_dup C dX7_readHour_146 rfl ?_
            have hgy733 := up_n egy731 hgy721 (ne_o (i := 883) (c := 0) (d := 5) rfl)
            refine z_get (v := .int (zI (hooy5))) C (by omega) hay4 hgy733 rfl inA_X5 1 (by decide) q_94 rfl rfl dX7_readHour_147 ?_
            refine z_iconst (z := 1) C dX7_readHour_150 rfl ?_
            refine z_iadd C dX7_readHour_151 ?_
            refine z_put (fs' := [.int (zI (sloy5)), .int (zI (hooy5 + 1)), .int (zI (uaoy5)), .ref (ad (883 + 1)), .ref (ad (883 + 2)), .ref (ad (883 + 3)), .ref (ad (883 + 4)), .ref (ad (883 + 5)), .ref (ad (883 + 6))]) C (by omega) hay4 hgy733 tyX5 tyX5_ok nmX5 rfl inA_X5 1 (by decide) q_94 rfl rfl rfl rfl (Nat.le_of_ble_eq_true rfl) rfl dX7_readHour_152 (fun gy734 egy735 => ?_)
            have hgy736 := up_s egy735
            have hgy738 := up_n egy708 hcdy650 (by omega)
            have hgy739 := up_n egy719 hgy738 (by omega)
            have hgy740 := up_n egy731 hgy739 (by omega)
            have hgy741 := up_n egy735 hgy740 (by decide)
            have hgy742 := up_n egy708 hddy650 (by omega)
            have hgy743 := up_n egy719 hgy742 (by omega)
            have hgy744 := up_n egy731 hgy743 (by omega)
            have hgy745 := up_n egy735 hgy744 (by decide)
            have hruny737 : okRun cs ad gy734 (covy649) tp := ⟨_, _, _, _, _, _, _, by omega, by omega, hgy741, hgy745⟩
            have hgy746 := (hfvy14 (883 + 1) (by omega)).trans hpoy5.2.1
            have hgy747 := (hfvy378 (883 + 1) (by omega)).trans hgy746
            have hgy748 := (hfvy381 (883 + 1) (by omega)).trans hgy747
            have hgy749 := (hfvy384 (883 + 1) (by omega)).trans hgy748
            have hgy750 := (hfvy646 (883 + 1) (by omega)).trans hgy749
            have hgy751 := (hfvy649 (883 + 1) (by omega)).trans hgy750
            have hgy752 := up_n egy708 hgy751 (ne_o (i := 883) (c := 1) (d := 3) rfl)
            have hgy753 := up_n egy719 hgy752 (ne_o (i := 883) (c := 1) (d := 4) rfl)
            have hgy754 := up_n egy731 hgy753 (ne_o (i := 883) (c := 1) (d := 5) rfl)
            have hgy755 := up_n egy735 hgy754 (ne_o (i := 883) (c := 1) (d := 0) rfl)
            have hgy756 := (hfvy14 (883 + 2) (by omega)).trans hpoy5.2.2.1
            have hgy757 := (hfvy378 (883 + 2) (by omega)).trans hgy756
            have hgy758 := (hfvy381 (883 + 2) (by omega)).trans hgy757
            have hgy759 := (hfvy384 (883 + 2) (by omega)).trans hgy758
            have hgy760 := (hfvy646 (883 + 2) (by omega)).trans hgy759
            have hgy761 := (hfvy649 (883 + 2) (by omega)).trans hgy760
            have hgy762 := up_n egy708 hgy761 (ne_o (i := 883) (c := 2) (d := 3) rfl)
            have hgy763 := up_n egy719 hgy762 (ne_o (i := 883) (c := 2) (d := 4) rfl)
            have hgy764 := up_n egy731 hgy763 (ne_o (i := 883) (c := 2) (d := 5) rfl)
            have hgy765 := up_n egy735 hgy764 (ne_o (i := 883) (c := 2) (d := 0) rfl)
            have hgy766 := up_n egy719 hgy709 (ne_o (i := 883) (c := 3) (d := 4) rfl)
            have hgy767 := up_n egy731 hgy766 (ne_o (i := 883) (c := 3) (d := 5) rfl)
            have hgy768 := up_n egy735 hgy767 (ne_o (i := 883) (c := 3) (d := 0) rfl)
            have hgy769 := up_n egy731 hgy720 (ne_o (i := 883) (c := 4) (d := 5) rfl)
            have hgy770 := up_n egy735 hgy769 (ne_o (i := 883) (c := 4) (d := 0) rfl)
            have hgy771 := up_n egy735 hgy732 (ne_o (i := 883) (c := 5) (d := 0) rfl)
            have hgy772 := (hfvy14 (883 + 6) (by omega)).trans hpoy5.2.2.2.2.2.2
            have hgy773 := (hfvy378 (883 + 6) (by omega)).trans hgy772
            have hgy774 := (hfvy381 (883 + 6) (by omega)).trans hgy773
            have hgy775 := (hfvy384 (883 + 6) (by omega)).trans hgy774
            have hgy776 := (hfvy646 (883 + 6) (by omega)).trans hgy775
            have hgy777 := (hfvy649 (883 + 6) (by omega)).trans hgy776
            have hgy778 := up_n egy708 hgy777 (ne_o (i := 883) (c := 6) (d := 3) rfl)
            have hgy779 := up_n egy719 hgy778 (ne_o (i := 883) (c := 6) (d := 4) rfl)
            have hgy780 := up_n egy731 hgy779 (ne_o (i := 883) (c := 6) (d := 5) rfl)
            have hgy781 := up_n egy735 hgy780 (ne_o (i := 883) (c := 6) (d := 0) rfl)
            exact z_vret C hr hlk dX7_readHour_155 (by decide) (by decide) ⟨rfl, rfl, rfl, ⟨_, hruny737, by omega⟩, ⟨_, _, _, _, _, _, _, _, _, by omega, by omega, ⟨hgy736, hgy755, hgy765, hgy768, hgy770, hgy771, hgy781⟩⟩, fun j j1 j2 => by rw [egy735, va_up_ne _ _ (by omega)]; rw [egy731, va_up_ne _ _ (by omega)]; rw [egy719, va_up_ne _ _ (by omega)]; rw [egy708, va_up_ne _ _ (by omega)]; rw [hfvy649 _ (by omega)]; rw [hfvy646 _ (by omega)]; rw [hfvy384 _ (by omega)]; rw [hfvy381 _ (by omega)]; rw [hfvy378 _ (by omega)]; rw [hfvy14 _ (by omega)]⟩
  · refine z_aload_n C 0 dX7_readHour_9 rfl ?_
    refine z_iconst (z := 2) C dX7_readHour_10 rfl ?_
    refine z_aload_n C 0 dX7_readHour_11 rfl ?_
    refine z_get (v := .int (zI (a9dy1))) C (by omega) hay2 hcdy1 rfl inA_X7 5 (by decide) q_49 rfl rfl dX7_readHour_12 ?_
    have hruny782 : okRun cs ad g (co) tp := ⟨_, _, _, _, _, _, _, by omega, by omega, hcdy1, hddy1⟩
    refine z_cV (As := [.int (zI (2)), .int (zI (a9dy1))]) (rest := []) (ci := 9) C (c_X7_fail l D A cs tt N ad _ (by omega) _ tp hruny782 (2) (by omega) (a9dy1) (by omega)) (by omega) hay2 hcdy1 rfl rfl mv_yX7_fail q_809 hd_yX7_fail (by decide) (Nat.le_of_ble_eq_true rfl) (by decide) dX7_readHour_15 rfl (kV0 fun gvy783 hvy783 => ?_)
    obtain ⟨⟨covy783, hkvy783, hnvy783⟩, hfvy783⟩ := hvy783
    obtain ⟨pldy784, endy784, tydy784, a9dy784, bedy784, tkdy784, tddy784, hAdy784, hTdy784, hcdy784, hddy784⟩ := id hkvy783
    refine z_aload_n C 0 dX7_readHour_18 rfl ?_
    have hruny785 : okRun cs ad gvy783 (covy783) tp := ⟨_, _, _, _, _, _, _, by omega, by omega, hcdy784, hddy784⟩
    refine z_cV (As := []) (rest := []) (ci := 9) C (c_X7_take l D A cs tt N ad _ (by omega) _ tp hruny785) (by omega) hay2 hcdy784 rfl rfl mv_yX7_take q_813 hd_yX7_take (by decide) (Nat.le_of_ble_eq_true rfl) (by decide) dX7_readHour_19 rfl (kV0 fun gvy786 hvy786 => ?_)
    obtain ⟨hkvy786, hfvy786⟩ := hvy786
    obtain ⟨pldy787, endy787, tydy787, a9dy787, bedy787, tkdy787, tddy787, hAdy787, hTdy787, hcdy787, hddy787⟩ := id hkvy786
    refine z_aload_n C 0 dX7_readHour_22 rfl ?_
    refine z_get (v := .int (zI (tydy787))) C (by omega) hay2 hcdy787 rfl inA_X7 4 (by decide) q_48 rfl rfl dX7_readHour_23 ?_
    refine z_iconst (z := 4) C dX7_readHour_26 rfl ?_
    refine z_icmp_ne (tgt := 34) C dX7_readHour_27 (by decide) (by omega) (by omega) (fun hby788 => ?_) (fun hby788 => ?_)
    · refine z_iconst (z := 0) C dX7_readHour_34 rfl ?_
      refine z_istore_n (lv' := [(2, .int (zI (0))), (0, .ref (ad 2)), (1, .ref (ad 883))]) C dX7_readHour_35 rfl (by decide) rfl ?_
      refine z_iload_n C 0 dX7_readHour_36 rfl ?_
      refine z_if_eq (tgt := 44) C dX7_readHour_37 (by decide) (by omega) (fun _ => ?_) (fun h => absurd h (by omega))
      refine z_aload_n C 1 dX7_readHour_44 rfl ?_
      refine z_iconst (z := 0) C dX7_readHour_45 rfl ?_
      refine z_iload_n C 0 dX7_readHour_46 rfl ?_
      refine z_if_eq (tgt := 56) C dX7_readHour_47 (by decide) (by omega) (fun _ => ?_) (fun h => absurd h (by omega))
      refine z_bipush (z := 100) C dX7_readHour_56 (by decide) ?_
      have hruny789 : okRun cs ad gvy786 (covy783) tp := ⟨_, _, _, _, _, _, _, by omega, by omega, hcdy787, hddy787⟩
      refine z_cV (As := [.int (zI (0)), .int (zI (100))]) (rest := []) (ci := 9) C (c_X7_number l D A cs tt N ad _ (by omega) _ tp hruny789 (0) (by omega) (100) (by omega)) (by omega) hay2 hcdy787 rfl rfl mv_yX7_number q_817 hd_yX7_number (by decide) (Nat.le_of_ble_eq_true rfl) (by decide) dX7_readHour_58 rfl (kI0 fun vy790 gvy790 hvy790 => ?_)
      obtain ⟨hrvy790, ⟨covy790, hkvy790, hnvy790⟩, hfvy790⟩ := hvy790
      obtain ⟨pldy791, endy791, tydy791, a9dy791, bedy791, tkdy791, tddy791, hAdy791, hTdy791, hcdy791, hddy791⟩ := id hkvy790
      refine z_istore_n (lv' := [(3, .int (zI (vy790))), (2, .int (zI (0))), (0, .ref (ad 2)), (1, .ref (ad 883))]) C dX7_readHour_61 rfl (by decide) rfl ?_
      refine z_aload_n C 2 dX7_readHour_62 rfl ?_
      have hruny792 : okRun cs ad gvy790 (covy790) tp := ⟨_, _, _, _, _, _, _, by omega, by omega, hcdy791, hddy791⟩
      refine z_cV (As := []) (rest := []) (ci := 9) C (c_X7_readFall l D A cs tt N ad _ (by omega) _ tp hruny792 ) (by omega) hay2 hcdy791 rfl rfl mv_yX7_readFall q_848 hd_yX7_readFall (by decide) (Nat.le_of_ble_eq_true rfl) (by decide) dX7_readHour_63 rfl (kI0 fun vy793 gvy793 hvy793 => ?_)
      obtain ⟨hrvy793, ⟨covy793, hkvy793, hnvy793⟩, hfvy793⟩ := hvy793
      obtain ⟨pldy794, endy794, tydy794, a9dy794, bedy794, tkdy794, tddy794, hAdy794, hTdy794, hcdy794, hddy794⟩ := id hkvy793
      refine z_istore (lv' := [(4, .int (zI (vy793))), (3, .int (zI (vy790))), (2, .int (zI (0))), (0, .ref (ad 2)), (1, .ref (ad 883))]) C dX7_readHour_66 (by decide) rfl ?_
      refine z_iload C 0 dX7_readHour_68 rfl ?_
      refine z_iconst (z := 1) C dX7_readHour_70 rfl ?_
      refine z_icmp_eq (tgt := 80) C dX7_readHour_71 (by decide) (by omega) (by omega) (fun hby795 => ?_) (fun hby795 => ?_)
      · refine z_aload_n C 3 dX7_readHour_80 rfl ?_
        refine z_iconst (z := 1) C dX7_readHour_81 rfl ?_
        refine z_bipush (z := 50) C dX7_readHour_82 (by decide) ?_
        have hruny796 : okRun cs ad gvy793 (covy793) tp := ⟨_, _, _, _, _, _, _, by omega, by omega, hcdy794, hddy794⟩
        refine z_cV (As := [.int (zI (1)), .int (zI (50))]) (rest := []) (ci := 9) C (c_X7_number l D A cs tt N ad _ (by omega) _ tp hruny796 (1) (by omega) (50) (by omega)) (by omega) hay2 hcdy794 rfl rfl mv_yX7_number q_817 hd_yX7_number (by decide) (Nat.le_of_ble_eq_true rfl) (by decide) dX7_readHour_84 rfl (kI0 fun vy797 gvy797 hvy797 => ?_)
        obtain ⟨hrvy797, ⟨covy797, hkvy797, hnvy797⟩, hfvy797⟩ := hvy797
        obtain ⟨pldy798, endy798, tydy798, a9dy798, bedy798, tkdy798, tddy798, hAdy798, hTdy798, hcdy798, hddy798⟩ := id hkvy797
        refine z_goto (tgt := 91) C dX7_readHour_87 (by decide) ?_
        refine z_istore (lv' := [(5, .int (zI (vy797))), (4, .int (zI (vy793))), (3, .int (zI (vy790))), (2, .int (zI (0))), (0, .ref (ad 2)), (1, .ref (ad 883))]) C dX7_readHour_91 (by decide) rfl ?_
        refine z_aload_n C 4 dX7_readHour_93 rfl ?_
        have hruny799 : okRun cs ad gvy797 (covy797) tp := ⟨_, _, _, _, _, _, _, by omega, by omega, hcdy798, hddy798⟩
        refine z_cV (As := []) (rest := []) (ci := 9) C (c_X7_close l D A cs tt N ad _ (by omega) _ tp hruny799 ) (by omega) hay2 hcdy798 rfl rfl mv_yX7_close q_821 hd_yX7_close (by decide) (Nat.le_of_ble_eq_true rfl) (by decide) dX7_readHour_94 rfl (kV0 fun gvy800 hvy800 => ?_)
        obtain ⟨⟨covy800, hkvy800, hnvy800⟩, hfvy800⟩ := hvy800
        obtain ⟨pldy801, endy801, tydy801, a9dy801, bedy801, tkdy801, tddy801, hAdy801, hTdy801, hcdy801, hddy801⟩ := id hkvy800
        refine z_aload_n C 4 dX7_readHour_97 rfl ?_
        refine z_get (v := .int (zI (covy800))) C (by omega) hay2 hcdy801 rfl inA_X7 1 (by decide) q_45 rfl rfl dX7_readHour_98 ?_
        refine z_if_ne (tgt := 155) C dX7_readHour_101 (by decide) (by omega) (fun hby802 => ?_) (fun hby802 => ?_)
        · have hruny803 : okRun cs ad gvy800 (covy800) tp := ⟨_, _, _, _, _, _, _, by omega, by omega, hcdy801, hddy801⟩
          have hgy804 := (hfvy783 (883) (by decide)).trans hpoy5.1
          have hgy805 := (hfvy786 (883) (by decide)).trans hgy804
          have hgy806 := (hfvy790 (883) (by decide)).trans hgy805
          have hgy807 := (hfvy793 (883) (by decide)).trans hgy806
          have hgy808 := (hfvy797 (883) (by decide)).trans hgy807
          have hgy809 := (hfvy800 (883) (by decide)).trans hgy808
          have hgy810 := (hfvy783 (883 + 1) (by omega)).trans hpoy5.2.1
          have hgy811 := (hfvy786 (883 + 1) (by omega)).trans hgy810
          have hgy812 := (hfvy790 (883 + 1) (by omega)).trans hgy811
          have hgy813 := (hfvy793 (883 + 1) (by omega)).trans hgy812
          have hgy814 := (hfvy797 (883 + 1) (by omega)).trans hgy813
          have hgy815 := (hfvy800 (883 + 1) (by omega)).trans hgy814
          have hgy816 := (hfvy783 (883 + 2) (by omega)).trans hpoy5.2.2.1
          have hgy817 := (hfvy786 (883 + 2) (by omega)).trans hgy816
          have hgy818 := (hfvy790 (883 + 2) (by omega)).trans hgy817
          have hgy819 := (hfvy793 (883 + 2) (by omega)).trans hgy818
          have hgy820 := (hfvy797 (883 + 2) (by omega)).trans hgy819
          have hgy821 := (hfvy800 (883 + 2) (by omega)).trans hgy820
          have hgy822 := (hfvy783 (883 + 3) (by omega)).trans hpoy5.2.2.2.1
          have hgy823 := (hfvy786 (883 + 3) (by omega)).trans hgy822
          have hgy824 := (hfvy790 (883 + 3) (by omega)).trans hgy823
          have hgy825 := (hfvy793 (883 + 3) (by omega)).trans hgy824
          have hgy826 := (hfvy797 (883 + 3) (by omega)).trans hgy825
          have hgy827 := (hfvy800 (883 + 3) (by omega)).trans hgy826
          have hgy828 := (hfvy783 (883 + 4) (by omega)).trans hpoy5.2.2.2.2.1
          have hgy829 := (hfvy786 (883 + 4) (by omega)).trans hgy828
          have hgy830 := (hfvy790 (883 + 4) (by omega)).trans hgy829
          have hgy831 := (hfvy793 (883 + 4) (by omega)).trans hgy830
          have hgy832 := (hfvy797 (883 + 4) (by omega)).trans hgy831
          have hgy833 := (hfvy800 (883 + 4) (by omega)).trans hgy832
          have hgy834 := (hfvy783 (883 + 5) (by omega)).trans hpoy5.2.2.2.2.2.1
          have hgy835 := (hfvy786 (883 + 5) (by omega)).trans hgy834
          have hgy836 := (hfvy790 (883 + 5) (by omega)).trans hgy835
          have hgy837 := (hfvy793 (883 + 5) (by omega)).trans hgy836
          have hgy838 := (hfvy797 (883 + 5) (by omega)).trans hgy837
          have hgy839 := (hfvy800 (883 + 5) (by omega)).trans hgy838
          have hgy840 := (hfvy783 (883 + 6) (by omega)).trans hpoy5.2.2.2.2.2.2
          have hgy841 := (hfvy786 (883 + 6) (by omega)).trans hgy840
          have hgy842 := (hfvy790 (883 + 6) (by omega)).trans hgy841
          have hgy843 := (hfvy793 (883 + 6) (by omega)).trans hgy842
          have hgy844 := (hfvy797 (883 + 6) (by omega)).trans hgy843
          have hgy845 := (hfvy800 (883 + 6) (by omega)).trans hgy844
          exact z_vret C hr hlk dX7_readHour_155 (by decide) (by decide) ⟨rfl, rfl, rfl, ⟨_, hruny803, by omega⟩, ⟨_, _, _, _, _, _, _, _, _, by omega, by omega, ⟨hgy809, hgy815, hgy821, hgy827, hgy833, hgy839, hgy845⟩⟩, fun j j1 j2 => by rw [hfvy800 _ (by omega)]; rw [hfvy797 _ (by omega)]; rw [hfvy793 _ (by omega)]; rw [hfvy790 _ (by omega)]; rw [hfvy786 _ (by omega)]; rw [hfvy783 _ (by omega)]⟩
        · refine z_aload_n C 5 dX7_readHour_104 rfl ?_
          have hgy846 := (hfvy783 (883) (by decide)).trans hpoy5.1
          have hgy847 := (hfvy786 (883) (by decide)).trans hgy846
          have hgy848 := (hfvy790 (883) (by decide)).trans hgy847
          have hgy849 := (hfvy793 (883) (by decide)).trans hgy848
          have hgy850 := (hfvy797 (883) (by decide)).trans hgy849
          have hgy851 := (hfvy800 (883) (by decide)).trans hgy850
          refine z_get (v := .ref (ad (883 + 3))) C (by omega) hay4 hgy851 rfl inA_X5 5 (by decide) q_106 rfl rfl dX7_readHour_105 ?_
          refine z_aload_n C 5 dX7_readHour_108 rfl ?_
          refine z_get (v := .int (zI (hooy5))) C (by omega) hay4 hgy851 rfl inA_X5 1 (by decide) q_94 rfl rfl dX7_readHour_109 ?_
          refine z_iload_n C 3 dX7_readHour_112 rfl ?_
          refine z_if_eq (tgt := 121) C dX7_readHour_113 (by decide) (by omega) (fun _ => ?_) (fun h => absurd h (by omega))
          refine z_iload_n C 2 dX7_readHour_121 rfl ?_
          have hgy852 := (hfvy783 (883 + 3) (by omega)).trans hpoy5.2.2.2.1
          have hgy853 := (hfvy786 (883 + 3) (by omega)).trans hgy852
          have hgy854 := (hfvy790 (883 + 3) (by omega)).trans hgy853
          have hgy855 := (hfvy793 (883 + 3) (by omega)).trans hgy854
          have hgy856 := (hfvy797 (883 + 3) (by omega)).trans hgy855
          have hgy857 := (hfvy800 (883 + 3) (by omega)).trans hgy856
          refine z_iast C (by omega) hay8 hgy857 ((hooy5).toNat) (by omega) (by omega) (by decide) dX7_readHour_122 (fun gy858 egy859 => ?_)
          have hgy860 := up_s egy859
          refine z_aload_n C 5 dX7_readHour_123 rfl ?_
          have hgy861 := up_n egy859 hgy851 (ne_o (i := 883) (c := 0) (d := 3) rfl)
          refine z_get (v := .ref (ad (883 + 4))) C (by omega) hay4 hgy861 rfl inA_X5 6 (by decide) q_109 rfl rfl dX7_readHour_124 ?_
          refine z_aload_n C 5 dX7_readHour_127 rfl ?_
          refine z_get (v := .int (zI (hooy5))) C (by omega) hay4 hgy861 rfl inA_X5 1 (by decide) q_94 rfl rfl dX7_readHour_128 ?_
          refine z_iload C 1 dX7_readHour_131 rfl ?_
          have hgy862 := (hfvy783 (883 + 4) (by omega)).trans hpoy5.2.2.2.2.1
          have hgy863 := (hfvy786 (883 + 4) (by omega)).trans hgy862
          have hgy864 := (hfvy790 (883 + 4) (by omega)).trans hgy863
          have hgy865 := (hfvy793 (883 + 4) (by omega)).trans hgy864
          have hgy866 := (hfvy797 (883 + 4) (by omega)).trans hgy865
          have hgy867 := (hfvy800 (883 + 4) (by omega)).trans hgy866
          have hgy868 := up_n egy859 hgy867 (ne_o (i := 883) (c := 4) (d := 3) rfl)
          refine z_iast C (by omega) hay9 hgy868 ((hooy5).toNat) (by omega) (by omega) (by decide) dX7_readHour_133 (fun gy869 egy870 => ?_)
          have hgy871 := up_s egy870
          refine z_aload_n C 5 dX7_readHour_134 rfl ?_
          have hgy872 := up_n egy870 hgy861 (ne_o (i := 883) (c := 0) (d := 4) rfl)
          refine z_get (v := .ref (ad (883 + 5))) C (by omega) hay4 hgy872 rfl inA_X5 7 (by decide) q_112 rfl rfl dX7_readHour_135 ?_
          refine z_aload_n C 5 dX7_readHour_138 rfl ?_
          refine z_get (v := .int (zI (hooy5))) C (by omega) hay4 hgy872 rfl inA_X5 1 (by decide) q_94 rfl rfl dX7_readHour_139 ?_
          refine z_iload C 0 dX7_readHour_142 rfl ?_
          have hgy873 := (hfvy783 (883 + 5) (by omega)).trans hpoy5.2.2.2.2.2.1
          have hgy874 := (hfvy786 (883 + 5) (by omega)).trans hgy873
          have hgy875 := (hfvy790 (883 + 5) (by omega)).trans hgy874
          have hgy876 := (hfvy793 (883 + 5) (by omega)).trans hgy875
          have hgy877 := (hfvy797 (883 + 5) (by omega)).trans hgy876
          have hgy878 := (hfvy800 (883 + 5) (by omega)).trans hgy877
          have hgy879 := up_n egy859 hgy878 (ne_o (i := 883) (c := 5) (d := 3) rfl)
          have hgy880 := up_n egy870 hgy879 (ne_o (i := 883) (c := 5) (d := 4) rfl)
          refine z_iast C (by omega) hay10 hgy880 ((hooy5).toNat) (by omega) (by omega) (by decide) dX7_readHour_144 (fun gy881 egy882 => ?_)
          have hgy883 := up_s egy882
          refine z_aload_n C 5 dX7_readHour_145 rfl ?_
          refine z_dup C dX7_readHour_146 rfl ?_
          have hgy884 := up_n egy882 hgy872 (ne_o (i := 883) (c := 0) (d := 5) rfl)
          refine z_get (v := .int (zI (hooy5))) C (by omega) hay4 hgy884 rfl inA_X5 1 (by decide) q_94 rfl rfl dX7_readHour_147 ?_
          refine z_iconst (z := 1) C dX7_readHour_150 rfl ?_
          refine z_iadd C dX7_readHour_151 ?_
          refine z_put (fs' := [.int (zI (sloy5)), .int (zI (hooy5 + 1)), .int (zI (uaoy5)), .ref (ad (883 + 1)), .ref (ad (883 + 2)), .ref (ad (883 + 3)), .ref (ad (883 + 4)), .ref (ad (883 + 5)), .ref (ad (883 + 6))]) C (by omega) hay4 hgy884 tyX5 tyX5_ok nmX5 rfl inA_X5 1 (by decide) q_94 rfl rfl rfl rfl (Nat.le_of_ble_eq_true rfl) rfl dX7_readHour_152 (fun gy885 egy886 => ?_)
          have hgy887 := up_s egy886
          have hgy889 := up_n egy859 hcdy801 (by omega)
          have hgy890 := up_n egy870 hgy889 (by omega)
          have hgy891 := up_n egy882 hgy890 (by omega)
          have hgy892 := up_n egy886 hgy891 (by decide)
          have hgy893 := up_n egy859 hddy801 (by omega)
          have hgy894 := up_n egy870 hgy893 (by omega)
          have hgy895 := up_n egy882 hgy894 (by omega)
          have hgy896 := up_n egy886 hgy895 (by decide)
          have hruny888 : okRun cs ad gy885 (covy800) tp := ⟨_, _, _, _, _, _, _, by omega, by omega, hgy892, hgy896⟩
          have hgy897 := (hfvy783 (883 + 1) (by omega)).trans hpoy5.2.1
          have hgy898 := (hfvy786 (883 + 1) (by omega)).trans hgy897
          have hgy899 := (hfvy790 (883 + 1) (by omega)).trans hgy898
          have hgy900 := (hfvy793 (883 + 1) (by omega)).trans hgy899
          have hgy901 := (hfvy797 (883 + 1) (by omega)).trans hgy900
          have hgy902 := (hfvy800 (883 + 1) (by omega)).trans hgy901
          have hgy903 := up_n egy859 hgy902 (ne_o (i := 883) (c := 1) (d := 3) rfl)
          have hgy904 := up_n egy870 hgy903 (ne_o (i := 883) (c := 1) (d := 4) rfl)
          have hgy905 := up_n egy882 hgy904 (ne_o (i := 883) (c := 1) (d := 5) rfl)
          have hgy906 := up_n egy886 hgy905 (ne_o (i := 883) (c := 1) (d := 0) rfl)
          have hgy907 := (hfvy783 (883 + 2) (by omega)).trans hpoy5.2.2.1
          have hgy908 := (hfvy786 (883 + 2) (by omega)).trans hgy907
          have hgy909 := (hfvy790 (883 + 2) (by omega)).trans hgy908
          have hgy910 := (hfvy793 (883 + 2) (by omega)).trans hgy909
          have hgy911 := (hfvy797 (883 + 2) (by omega)).trans hgy910
          have hgy912 := (hfvy800 (883 + 2) (by omega)).trans hgy911
          have hgy913 := up_n egy859 hgy912 (ne_o (i := 883) (c := 2) (d := 3) rfl)
          have hgy914 := up_n egy870 hgy913 (ne_o (i := 883) (c := 2) (d := 4) rfl)
          have hgy915 := up_n egy882 hgy914 (ne_o (i := 883) (c := 2) (d := 5) rfl)
          have hgy916 := up_n egy886 hgy915 (ne_o (i := 883) (c := 2) (d := 0) rfl)
          have hgy917 := up_n egy870 hgy860 (ne_o (i := 883) (c := 3) (d := 4) rfl)
          have hgy918 := up_n egy882 hgy917 (ne_o (i := 883) (c := 3) (d := 5) rfl)
          have hgy919 := up_n egy886 hgy918 (ne_o (i := 883) (c := 3) (d := 0) rfl)
          have hgy920 := up_n egy882 hgy871 (ne_o (i := 883) (c := 4) (d := 5) rfl)
          have hgy921 := up_n egy886 hgy920 (ne_o (i := 883) (c := 4) (d := 0) rfl)
          have hgy922 := up_n egy886 hgy883 (ne_o (i := 883) (c := 5) (d := 0) rfl)
          have hgy923 := (hfvy783 (883 + 6) (by omega)).trans hpoy5.2.2.2.2.2.2
          have hgy924 := (hfvy786 (883 + 6) (by omega)).trans hgy923
          have hgy925 := (hfvy790 (883 + 6) (by omega)).trans hgy924
          have hgy926 := (hfvy793 (883 + 6) (by omega)).trans hgy925
          have hgy927 := (hfvy797 (883 + 6) (by omega)).trans hgy926
          have hgy928 := (hfvy800 (883 + 6) (by omega)).trans hgy927
          have hgy929 := up_n egy859 hgy928 (ne_o (i := 883) (c := 6) (d := 3) rfl)
          have hgy930 := up_n egy870 hgy929 (ne_o (i := 883) (c := 6) (d := 4) rfl)
          have hgy931 := up_n egy882 hgy930 (ne_o (i := 883) (c := 6) (d := 5) rfl)
          have hgy932 := up_n egy886 hgy931 (ne_o (i := 883) (c := 6) (d := 0) rfl)
          exact z_vret C hr hlk dX7_readHour_155 (by decide) (by decide) ⟨rfl, rfl, rfl, ⟨_, hruny888, by omega⟩, ⟨_, _, _, _, _, _, _, _, _, by omega, by omega, ⟨hgy887, hgy906, hgy916, hgy919, hgy921, hgy922, hgy932⟩⟩, fun j j1 j2 => by rw [egy886, va_up_ne _ _ (by omega)]; rw [egy882, va_up_ne _ _ (by omega)]; rw [egy870, va_up_ne _ _ (by omega)]; rw [egy859, va_up_ne _ _ (by omega)]; rw [hfvy800 _ (by omega)]; rw [hfvy797 _ (by omega)]; rw [hfvy793 _ (by omega)]; rw [hfvy790 _ (by omega)]; rw [hfvy786 _ (by omega)]; rw [hfvy783 _ (by omega)]⟩
      · refine z_iload C 0 dX7_readHour_74 rfl ?_
        refine z_iconst (z := 2) C dX7_readHour_76 rfl ?_
        refine z_icmp_ne (tgt := 90) C dX7_readHour_77 (by decide) (by omega) (by omega) (fun hby933 => ?_) (fun hby933 => ?_)
        · refine z_iconst (z := 0) C dX7_readHour_90 rfl ?_
          refine z_istore (lv' := [(5, .int (zI (0))), (4, .int (zI (vy793))), (3, .int (zI (vy790))), (2, .int (zI (0))), (0, .ref (ad 2)), (1, .ref (ad 883))]) C dX7_readHour_91 (by decide) rfl ?_
          refine z_aload_n C 4 dX7_readHour_93 rfl ?_
          have hruny934 : okRun cs ad gvy793 (covy793) tp := ⟨_, _, _, _, _, _, _, by omega, by omega, hcdy794, hddy794⟩
          refine z_cV (As := []) (rest := []) (ci := 9) C (c_X7_close l D A cs tt N ad _ (by omega) _ tp hruny934 ) (by omega) hay2 hcdy794 rfl rfl mv_yX7_close q_821 hd_yX7_close (by decide) (Nat.le_of_ble_eq_true rfl) (by decide) dX7_readHour_94 rfl (kV0 fun gvy935 hvy935 => ?_)
          obtain ⟨⟨covy935, hkvy935, hnvy935⟩, hfvy935⟩ := hvy935
          obtain ⟨pldy936, endy936, tydy936, a9dy936, bedy936, tkdy936, tddy936, hAdy936, hTdy936, hcdy936, hddy936⟩ := id hkvy935
          refine z_aload_n C 4 dX7_readHour_97 rfl ?_
          refine z_get (v := .int (zI (covy935))) C (by omega) hay2 hcdy936 rfl inA_X7 1 (by decide) q_45 rfl rfl dX7_readHour_98 ?_
          refine z_if_ne (tgt := 155) C dX7_readHour_101 (by decide) (by omega) (fun hby937 => ?_) (fun hby937 => ?_)
          · have hruny938 : okRun cs ad gvy935 (covy935) tp := ⟨_, _, _, _, _, _, _, by omega, by omega, hcdy936, hddy936⟩
            have hgy939 := (hfvy783 (883) (by decide)).trans hpoy5.1
            have hgy940 := (hfvy786 (883) (by decide)).trans hgy939
            have hgy941 := (hfvy790 (883) (by decide)).trans hgy940
            have hgy942 := (hfvy793 (883) (by decide)).trans hgy941
            have hgy943 := (hfvy935 (883) (by decide)).trans hgy942
            have hgy944 := (hfvy783 (883 + 1) (by omega)).trans hpoy5.2.1
            have hgy945 := (hfvy786 (883 + 1) (by omega)).trans hgy944
            have hgy946 := (hfvy790 (883 + 1) (by omega)).trans hgy945
            have hgy947 := (hfvy793 (883 + 1) (by omega)).trans hgy946
            have hgy948 := (hfvy935 (883 + 1) (by omega)).trans hgy947
            have hgy949 := (hfvy783 (883 + 2) (by omega)).trans hpoy5.2.2.1
            have hgy950 := (hfvy786 (883 + 2) (by omega)).trans hgy949
            have hgy951 := (hfvy790 (883 + 2) (by omega)).trans hgy950
            have hgy952 := (hfvy793 (883 + 2) (by omega)).trans hgy951
            have hgy953 := (hfvy935 (883 + 2) (by omega)).trans hgy952
            have hgy954 := (hfvy783 (883 + 3) (by omega)).trans hpoy5.2.2.2.1
            have hgy955 := (hfvy786 (883 + 3) (by omega)).trans hgy954
            have hgy956 := (hfvy790 (883 + 3) (by omega)).trans hgy955
            have hgy957 := (hfvy793 (883 + 3) (by omega)).trans hgy956
            have hgy958 := (hfvy935 (883 + 3) (by omega)).trans hgy957
            have hgy959 := (hfvy783 (883 + 4) (by omega)).trans hpoy5.2.2.2.2.1
            have hgy960 := (hfvy786 (883 + 4) (by omega)).trans hgy959
            have hgy961 := (hfvy790 (883 + 4) (by omega)).trans hgy960
            have hgy962 := (hfvy793 (883 + 4) (by omega)).trans hgy961
            have hgy963 := (hfvy935 (883 + 4) (by omega)).trans hgy962
            have hgy964 := (hfvy783 (883 + 5) (by omega)).trans hpoy5.2.2.2.2.2.1
            have hgy965 := (hfvy786 (883 + 5) (by omega)).trans hgy964
            have hgy966 := (hfvy790 (883 + 5) (by omega)).trans hgy965
            have hgy967 := (hfvy793 (883 + 5) (by omega)).trans hgy966
            have hgy968 := (hfvy935 (883 + 5) (by omega)).trans hgy967
            have hgy969 := (hfvy783 (883 + 6) (by omega)).trans hpoy5.2.2.2.2.2.2
            have hgy970 := (hfvy786 (883 + 6) (by omega)).trans hgy969
            have hgy971 := (hfvy790 (883 + 6) (by omega)).trans hgy970
            have hgy972 := (hfvy793 (883 + 6) (by omega)).trans hgy971
            have hgy973 := (hfvy935 (883 + 6) (by omega)).trans hgy972
            exact z_vret C hr hlk dX7_readHour_155 (by decide) (by decide) ⟨rfl, rfl, rfl, ⟨_, hruny938, by omega⟩, ⟨_, _, _, _, _, _, _, _, _, by omega, by omega, ⟨hgy943, hgy948, hgy953, hgy958, hgy963, hgy968, hgy973⟩⟩, fun j j1 j2 => by rw [hfvy935 _ (by omega)]; rw [hfvy793 _ (by omega)]; rw [hfvy790 _ (by omega)]; rw [hfvy786 _ (by omega)]; rw [hfvy783 _ (by omega)]⟩
          · refine z_aload_n C 5 dX7_readHour_104 rfl ?_
            have hgy974 := (hfvy783 (883) (by decide)).trans hpoy5.1
            have hgy975 := (hfvy786 (883) (by decide)).trans hgy974
            have hgy976 := (hfvy790 (883) (by decide)).trans hgy975
            have hgy977 := (hfvy793 (883) (by decide)).trans hgy976
            have hgy978 := (hfvy935 (883) (by decide)).trans hgy977
            refine z_get (v := .ref (ad (883 + 3))) C (by omega) hay4 hgy978 rfl inA_X5 5 (by decide) q_106 rfl rfl dX7_readHour_105 ?_
            refine z_aload_n C 5 dX7_readHour_108 rfl ?_
            refine z_get (v := .int (zI (hooy5))) C (by omega) hay4 hgy978 rfl inA_X5 1 (by decide) q_94 rfl rfl dX7_readHour_109 ?_
            refine z_iload_n C 3 dX7_readHour_112 rfl ?_
            refine z_if_eq (tgt := 121) C dX7_readHour_113 (by decide) (by omega) (fun _ => ?_) (fun h => absurd h (by omega))
            refine z_iload_n C 2 dX7_readHour_121 rfl ?_
            have hgy979 := (hfvy783 (883 + 3) (by omega)).trans hpoy5.2.2.2.1
            have hgy980 := (hfvy786 (883 + 3) (by omega)).trans hgy979
            have hgy981 := (hfvy790 (883 + 3) (by omega)).trans hgy980
            have hgy982 := (hfvy793 (883 + 3) (by omega)).trans hgy981
            have hgy983 := (hfvy935 (883 + 3) (by omega)).trans hgy982
            refine z_iast C (by omega) hay8 hgy983 ((hooy5).toNat) (by omega) (by omega) (by decide) dX7_readHour_122 (fun gy984 egy985 => ?_)
            have hgy986 := up_s egy985
            refine z_aload_n C 5 dX7_readHour_123 rfl ?_
            have hgy987 := up_n egy985 hgy978 (ne_o (i := 883) (c := 0) (d := 3) rfl)
            refine z_get (v := .ref (ad (883 + 4))) C (by omega) hay4 hgy987 rfl inA_X5 6 (by decide) q_109 rfl rfl dX7_readHour_124 ?_
            refine z_aload_n C 5 dX7_readHour_127 rfl ?_
            refine z_get (v := .int (zI (hooy5))) C (by omega) hay4 hgy987 rfl inA_X5 1 (by decide) q_94 rfl rfl dX7_readHour_128 ?_
            refine z_iload C 1 dX7_readHour_131 rfl ?_
            have hgy988 := (hfvy783 (883 + 4) (by omega)).trans hpoy5.2.2.2.2.1
            have hgy989 := (hfvy786 (883 + 4) (by omega)).trans hgy988
            have hgy990 := (hfvy790 (883 + 4) (by omega)).trans hgy989
            have hgy991 := (hfvy793 (883 + 4) (by omega)).trans hgy990
            have hgy992 := (hfvy935 (883 + 4) (by omega)).trans hgy991
            have hgy993 := up_n egy985 hgy992 (ne_o (i := 883) (c := 4) (d := 3) rfl)
            refine z_iast C (by omega) hay9 hgy993 ((hooy5).toNat) (by omega) (by omega) (by decide) dX7_readHour_133 (fun gy994 egy995 => ?_)
            have hgy996 := up_s egy995
            refine z_aload_n C 5 dX7_readHour_134 rfl ?_
            have hgy997 := up_n egy995 hgy987 (ne_o (i := 883) (c := 0) (d := 4) rfl)
            refine z_get (v := .ref (ad (883 + 5))) C (by omega) hay4 hgy997 rfl inA_X5 7 (by decide) q_112 rfl rfl dX7_readHour_135 ?_
            refine z_aload_n C 5 dX7_readHour_138 rfl ?_
            refine z_get (v := .int (zI (hooy5))) C (by omega) hay4 hgy997 rfl inA_X5 1 (by decide) q_94 rfl rfl dX7_readHour_139 ?_
            refine z_iload C 0 dX7_readHour_142 rfl ?_
            have hgy998 := (hfvy783 (883 + 5) (by omega)).trans hpoy5.2.2.2.2.2.1
            have hgy999 := (hfvy786 (883 + 5) (by omega)).trans hgy998
            have hgy1000 := (hfvy790 (883 + 5) (by omega)).trans hgy999
            have hgy1001 := (hfvy793 (883 + 5) (by omega)).trans hgy1000
            have hgy1002 := (hfvy935 (883 + 5) (by omega)).trans hgy1001
            have hgy1003 := up_n egy985 hgy1002 (ne_o (i := 883) (c := 5) (d := 3) rfl)
            have hgy1004 := up_n egy995 hgy1003 (ne_o (i := 883) (c := 5) (d := 4) rfl)
            refine z_iast C (by omega) hay10 hgy1004 ((hooy5).toNat) (by omega) (by omega) (by decide) dX7_readHour_144 (fun gy1005 egy1006 => ?_)
            have hgy1007 := up_s egy1006
            refine z_aload_n C 5 dX7_readHour_145 rfl ?_
            refine z_dup C dX7_readHour_146 rfl ?_
            have hgy1008 := up_n egy1006 hgy997 (ne_o (i := 883) (c := 0) (d := 5) rfl)
            refine z_get (v := .int (zI (hooy5))) C (by omega) hay4 hgy1008 rfl inA_X5 1 (by decide) q_94 rfl rfl dX7_readHour_147 ?_
            refine z_iconst (z := 1) C dX7_readHour_150 rfl ?_
            refine z_iadd C dX7_readHour_151 ?_
            refine z_put (fs' := [.int (zI (sloy5)), .int (zI (hooy5 + 1)), .int (zI (uaoy5)), .ref (ad (883 + 1)), .ref (ad (883 + 2)), .ref (ad (883 + 3)), .ref (ad (883 + 4)), .ref (ad (883 + 5)), .ref (ad (883 + 6))]) C (by omega) hay4 hgy1008 tyX5 tyX5_ok nmX5 rfl inA_X5 1 (by decide) q_94 rfl rfl rfl rfl (Nat.le_of_ble_eq_true rfl) rfl dX7_readHour_152 (fun gy1009 egy1010 => ?_)
            have hgy1011 := up_s egy1010
            have hgy1013 := up_n egy985 hcdy936 (by omega)
            have hgy1014 := up_n egy995 hgy1013 (by omega)
            have hgy1015 := up_n egy1006 hgy1014 (by omega)
            have hgy1016 := up_n egy1010 hgy1015 (by decide)
            have hgy1017 := up_n egy985 hddy936 (by omega)
            have hgy1018 := up_n egy995 hgy1017 (by omega)
            have hgy1019 := up_n egy1006 hgy1018 (by omega)
            have hgy1020 := up_n egy1010 hgy1019 (by decide)
            have hruny1012 : okRun cs ad gy1009 (covy935) tp := ⟨_, _, _, _, _, _, _, by omega, by omega, hgy1016, hgy1020⟩
            have hgy1021 := (hfvy783 (883 + 1) (by omega)).trans hpoy5.2.1
            have hgy1022 := (hfvy786 (883 + 1) (by omega)).trans hgy1021
            have hgy1023 := (hfvy790 (883 + 1) (by omega)).trans hgy1022
            have hgy1024 := (hfvy793 (883 + 1) (by omega)).trans hgy1023
            have hgy1025 := (hfvy935 (883 + 1) (by omega)).trans hgy1024
            have hgy1026 := up_n egy985 hgy1025 (ne_o (i := 883) (c := 1) (d := 3) rfl)
            have hgy1027 := up_n egy995 hgy1026 (ne_o (i := 883) (c := 1) (d := 4) rfl)
            have hgy1028 := up_n egy1006 hgy1027 (ne_o (i := 883) (c := 1) (d := 5) rfl)
            have hgy1029 := up_n egy1010 hgy1028 (ne_o (i := 883) (c := 1) (d := 0) rfl)
            have hgy1030 := (hfvy783 (883 + 2) (by omega)).trans hpoy5.2.2.1
            have hgy1031 := (hfvy786 (883 + 2) (by omega)).trans hgy1030
            have hgy1032 := (hfvy790 (883 + 2) (by omega)).trans hgy1031
            have hgy1033 := (hfvy793 (883 + 2) (by omega)).trans hgy1032
            have hgy1034 := (hfvy935 (883 + 2) (by omega)).trans hgy1033
            have hgy1035 := up_n egy985 hgy1034 (ne_o (i := 883) (c := 2) (d := 3) rfl)
            have hgy1036 := up_n egy995 hgy1035 (ne_o (i := 883) (c := 2) (d := 4) rfl)
            have hgy1037 := up_n egy1006 hgy1036 (ne_o (i := 883) (c := 2) (d := 5) rfl)
            have hgy1038 := up_n egy1010 hgy1037 (ne_o (i := 883) (c := 2) (d := 0) rfl)
            have hgy1039 := up_n egy995 hgy986 (ne_o (i := 883) (c := 3) (d := 4) rfl)
            have hgy1040 := up_n egy1006 hgy1039 (ne_o (i := 883) (c := 3) (d := 5) rfl)
            have hgy1041 := up_n egy1010 hgy1040 (ne_o (i := 883) (c := 3) (d := 0) rfl)
            have hgy1042 := up_n egy1006 hgy996 (ne_o (i := 883) (c := 4) (d := 5) rfl)
            have hgy1043 := up_n egy1010 hgy1042 (ne_o (i := 883) (c := 4) (d := 0) rfl)
            have hgy1044 := up_n egy1010 hgy1007 (ne_o (i := 883) (c := 5) (d := 0) rfl)
            have hgy1045 := (hfvy783 (883 + 6) (by omega)).trans hpoy5.2.2.2.2.2.2
            have hgy1046 := (hfvy786 (883 + 6) (by omega)).trans hgy1045
            have hgy1047 := (hfvy790 (883 + 6) (by omega)).trans hgy1046
            have hgy1048 := (hfvy793 (883 + 6) (by omega)).trans hgy1047
            have hgy1049 := (hfvy935 (883 + 6) (by omega)).trans hgy1048
            have hgy1050 := up_n egy985 hgy1049 (ne_o (i := 883) (c := 6) (d := 3) rfl)
            have hgy1051 := up_n egy995 hgy1050 (ne_o (i := 883) (c := 6) (d := 4) rfl)
            have hgy1052 := up_n egy1006 hgy1051 (ne_o (i := 883) (c := 6) (d := 5) rfl)
            have hgy1053 := up_n egy1010 hgy1052 (ne_o (i := 883) (c := 6) (d := 0) rfl)
            exact z_vret C hr hlk dX7_readHour_155 (by decide) (by decide) ⟨rfl, rfl, rfl, ⟨_, hruny1012, by omega⟩, ⟨_, _, _, _, _, _, _, _, _, by omega, by omega, ⟨hgy1011, hgy1029, hgy1038, hgy1041, hgy1043, hgy1044, hgy1053⟩⟩, fun j j1 j2 => by rw [egy1010, va_up_ne _ _ (by omega)]; rw [egy1006, va_up_ne _ _ (by omega)]; rw [egy995, va_up_ne _ _ (by omega)]; rw [egy985, va_up_ne _ _ (by omega)]; rw [hfvy935 _ (by omega)]; rw [hfvy793 _ (by omega)]; rw [hfvy790 _ (by omega)]; rw [hfvy786 _ (by omega)]; rw [hfvy783 _ (by omega)]⟩
        · refine z_aload_n C 3 dX7_readHour_80 rfl ?_
          refine z_iconst (z := 1) C dX7_readHour_81 rfl ?_
          refine z_bipush (z := 50) C dX7_readHour_82 (by decide) ?_
          have hruny1054 : okRun cs ad gvy793 (covy793) tp := ⟨_, _, _, _, _, _, _, by omega, by omega, hcdy794, hddy794⟩
          refine z_cV (As := [.int (zI (1)), .int (zI (50))]) (rest := []) (ci := 9) C (c_X7_number l D A cs tt N ad _ (by omega) _ tp hruny1054 (1) (by omega) (50) (by omega)) (by omega) hay2 hcdy794 rfl rfl mv_yX7_number q_817 hd_yX7_number (by decide) (Nat.le_of_ble_eq_true rfl) (by decide) dX7_readHour_84 rfl (kI0 fun vy1055 gvy1055 hvy1055 => ?_)
          obtain ⟨hrvy1055, ⟨covy1055, hkvy1055, hnvy1055⟩, hfvy1055⟩ := hvy1055
          obtain ⟨pldy1056, endy1056, tydy1056, a9dy1056, bedy1056, tkdy1056, tddy1056, hAdy1056, hTdy1056, hcdy1056, hddy1056⟩ := id hkvy1055
          refine z_goto (tgt := 91) C dX7_readHour_87 (by decide) ?_
          refine z_istore (lv' := [(5, .int (zI (vy1055))), (4, .int (zI (vy793))), (3, .int (zI (vy790))), (2, .int (zI (0))), (0, .ref (ad 2)), (1, .ref (ad 883))]) C dX7_readHour_91 (by decide) rfl ?_
          refine z_aload_n C 4 dX7_readHour_93 rfl ?_
          have hruny1057 : okRun cs ad gvy1055 (covy1055) tp := ⟨_, _, _, _, _, _, _, by omega, by omega, hcdy1056, hddy1056⟩
          refine z_cV (As := []) (rest := []) (ci := 9) C (c_X7_close l D A cs tt N ad _ (by omega) _ tp hruny1057 ) (by omega) hay2 hcdy1056 rfl rfl mv_yX7_close q_821 hd_yX7_close (by decide) (Nat.le_of_ble_eq_true rfl) (by decide) dX7_readHour_94 rfl (kV0 fun gvy1058 hvy1058 => ?_)
          obtain ⟨⟨covy1058, hkvy1058, hnvy1058⟩, hfvy1058⟩ := hvy1058
          obtain ⟨pldy1059, endy1059, tydy1059, a9dy1059, bedy1059, tkdy1059, tddy1059, hAdy1059, hTdy1059, hcdy1059, hddy1059⟩ := id hkvy1058
          refine z_aload_n C 4 dX7_readHour_97 rfl ?_
          refine z_get (v := .int (zI (covy1058))) C (by omega) hay2 hcdy1059 rfl inA_X7 1 (by decide) q_45 rfl rfl dX7_readHour_98 ?_
          refine z_if_ne (tgt := 155) C dX7_readHour_101 (by decide) (by omega) (fun hby1060 => ?_) (fun hby1060 => ?_)
          · have hruny1061 : okRun cs ad gvy1058 (covy1058) tp := ⟨_, _, _, _, _, _, _, by omega, by omega, hcdy1059, hddy1059⟩
            have hgy1062 := (hfvy783 (883) (by decide)).trans hpoy5.1
            have hgy1063 := (hfvy786 (883) (by decide)).trans hgy1062
            have hgy1064 := (hfvy790 (883) (by decide)).trans hgy1063
            have hgy1065 := (hfvy793 (883) (by decide)).trans hgy1064
            have hgy1066 := (hfvy1055 (883) (by decide)).trans hgy1065
            have hgy1067 := (hfvy1058 (883) (by decide)).trans hgy1066
            have hgy1068 := (hfvy783 (883 + 1) (by omega)).trans hpoy5.2.1
            have hgy1069 := (hfvy786 (883 + 1) (by omega)).trans hgy1068
            have hgy1070 := (hfvy790 (883 + 1) (by omega)).trans hgy1069
            have hgy1071 := (hfvy793 (883 + 1) (by omega)).trans hgy1070
            have hgy1072 := (hfvy1055 (883 + 1) (by omega)).trans hgy1071
            have hgy1073 := (hfvy1058 (883 + 1) (by omega)).trans hgy1072
            have hgy1074 := (hfvy783 (883 + 2) (by omega)).trans hpoy5.2.2.1
            have hgy1075 := (hfvy786 (883 + 2) (by omega)).trans hgy1074
            have hgy1076 := (hfvy790 (883 + 2) (by omega)).trans hgy1075
            have hgy1077 := (hfvy793 (883 + 2) (by omega)).trans hgy1076
            have hgy1078 := (hfvy1055 (883 + 2) (by omega)).trans hgy1077
            have hgy1079 := (hfvy1058 (883 + 2) (by omega)).trans hgy1078
            have hgy1080 := (hfvy783 (883 + 3) (by omega)).trans hpoy5.2.2.2.1
            have hgy1081 := (hfvy786 (883 + 3) (by omega)).trans hgy1080
            have hgy1082 := (hfvy790 (883 + 3) (by omega)).trans hgy1081
            have hgy1083 := (hfvy793 (883 + 3) (by omega)).trans hgy1082
            have hgy1084 := (hfvy1055 (883 + 3) (by omega)).trans hgy1083
            have hgy1085 := (hfvy1058 (883 + 3) (by omega)).trans hgy1084
            have hgy1086 := (hfvy783 (883 + 4) (by omega)).trans hpoy5.2.2.2.2.1
            have hgy1087 := (hfvy786 (883 + 4) (by omega)).trans hgy1086
            have hgy1088 := (hfvy790 (883 + 4) (by omega)).trans hgy1087
            have hgy1089 := (hfvy793 (883 + 4) (by omega)).trans hgy1088
            have hgy1090 := (hfvy1055 (883 + 4) (by omega)).trans hgy1089
            have hgy1091 := (hfvy1058 (883 + 4) (by omega)).trans hgy1090
            have hgy1092 := (hfvy783 (883 + 5) (by omega)).trans hpoy5.2.2.2.2.2.1
            have hgy1093 := (hfvy786 (883 + 5) (by omega)).trans hgy1092
            have hgy1094 := (hfvy790 (883 + 5) (by omega)).trans hgy1093
            have hgy1095 := (hfvy793 (883 + 5) (by omega)).trans hgy1094
            have hgy1096 := (hfvy1055 (883 + 5) (by omega)).trans hgy1095
            have hgy1097 := (hfvy1058 (883 + 5) (by omega)).trans hgy1096
            have hgy1098 := (hfvy783 (883 + 6) (by omega)).trans hpoy5.2.2.2.2.2.2
            have hgy1099 := (hfvy786 (883 + 6) (by omega)).trans hgy1098
            have hgy1100 := (hfvy790 (883 + 6) (by omega)).trans hgy1099
            have hgy1101 := (hfvy793 (883 + 6) (by omega)).trans hgy1100
            have hgy1102 := (hfvy1055 (883 + 6) (by omega)).trans hgy1101
            have hgy1103 := (hfvy1058 (883 + 6) (by omega)).trans hgy1102
            exact z_vret C hr hlk dX7_readHour_155 (by decide) (by decide) ⟨rfl, rfl, rfl, ⟨_, hruny1061, by omega⟩, ⟨_, _, _, _, _, _, _, _, _, by omega, by omega, ⟨hgy1067, hgy1073, hgy1079, hgy1085, hgy1091, hgy1097, hgy1103⟩⟩, fun j j1 j2 => by rw [hfvy1058 _ (by omega)]; rw [hfvy1055 _ (by omega)]; rw [hfvy793 _ (by omega)]; rw [hfvy790 _ (by omega)]; rw [hfvy786 _ (by omega)]; rw [hfvy783 _ (by omega)]⟩
          · refine z_aload_n C 5 dX7_readHour_104 rfl ?_
            have hgy1104 := (hfvy783 (883) (by decide)).trans hpoy5.1
            have hgy1105 := (hfvy786 (883) (by decide)).trans hgy1104
            have hgy1106 := (hfvy790 (883) (by decide)).trans hgy1105
            have hgy1107 := (hfvy793 (883) (by decide)).trans hgy1106
            have hgy1108 := (hfvy1055 (883) (by decide)).trans hgy1107
            have hgy1109 := (hfvy1058 (883) (by decide)).trans hgy1108
            refine z_get (v := .ref (ad (883 + 3))) C (by omega) hay4 hgy1109 rfl inA_X5 5 (by decide) q_106 rfl rfl dX7_readHour_105 ?_
            refine z_aload_n C 5 dX7_readHour_108 rfl ?_
            refine z_get (v := .int (zI (hooy5))) C (by omega) hay4 hgy1109 rfl inA_X5 1 (by decide) q_94 rfl rfl dX7_readHour_109 ?_
            refine z_iload_n C 3 dX7_readHour_112 rfl ?_
            refine z_if_eq (tgt := 121) C dX7_readHour_113 (by decide) (by omega) (fun _ => ?_) (fun h => absurd h (by omega))
            refine z_iload_n C 2 dX7_readHour_121 rfl ?_
            have hgy1110 := (hfvy783 (883 + 3) (by omega)).trans hpoy5.2.2.2.1
            have hgy1111 := (hfvy786 (883 + 3) (by omega)).trans hgy1110
            have hgy1112 := (hfvy790 (883 + 3) (by omega)).trans hgy1111
            have hgy1113 := (hfvy793 (883 + 3) (by omega)).trans hgy1112
            have hgy1114 := (hfvy1055 (883 + 3) (by omega)).trans hgy1113
            have hgy1115 := (hfvy1058 (883 + 3) (by omega)).trans hgy1114
            refine z_iast C (by omega) hay8 hgy1115 ((hooy5).toNat) (by omega) (by omega) (by decide) dX7_readHour_122 (fun gy1116 egy1117 => ?_)
            have hgy1118 := up_s egy1117
            refine z_aload_n C 5 dX7_readHour_123 rfl ?_
            have hgy1119 := up_n egy1117 hgy1109 (ne_o (i := 883) (c := 0) (d := 3) rfl)
            refine z_get (v := .ref (ad (883 + 4))) C (by omega) hay4 hgy1119 rfl inA_X5 6 (by decide) q_109 rfl rfl dX7_readHour_124 ?_
            refine z_aload_n C 5 dX7_readHour_127 rfl ?_
            refine z_get (v := .int (zI (hooy5))) C (by omega) hay4 hgy1119 rfl inA_X5 1 (by decide) q_94 rfl rfl dX7_readHour_128 ?_
            refine z_iload C 1 dX7_readHour_131 rfl ?_
            have hgy1120 := (hfvy783 (883 + 4) (by omega)).trans hpoy5.2.2.2.2.1
            have hgy1121 := (hfvy786 (883 + 4) (by omega)).trans hgy1120
            have hgy1122 := (hfvy790 (883 + 4) (by omega)).trans hgy1121
            have hgy1123 := (hfvy793 (883 + 4) (by omega)).trans hgy1122
            have hgy1124 := (hfvy1055 (883 + 4) (by omega)).trans hgy1123
            have hgy1125 := (hfvy1058 (883 + 4) (by omega)).trans hgy1124
            have hgy1126 := up_n egy1117 hgy1125 (ne_o (i := 883) (c := 4) (d := 3) rfl)
            refine z_iast C (by omega) hay9 hgy1126 ((hooy5).toNat) (by omega) (by omega) (by decide) dX7_readHour_133 (fun gy1127 egy1128 => ?_)
            have hgy1129 := up_s egy1128
            refine z_aload_n C 5 dX7_readHour_134 rfl ?_
            have hgy1130 := up_n egy1128 hgy1119 (ne_o (i := 883) (c := 0) (d := 4) rfl)
            refine z_get (v := .ref (ad (883 + 5))) C (by omega) hay4 hgy1130 rfl inA_X5 7 (by decide) q_112 rfl rfl dX7_readHour_135 ?_
            refine z_aload_n C 5 dX7_readHour_138 rfl ?_
            refine z_get (v := .int (zI (hooy5))) C (by omega) hay4 hgy1130 rfl inA_X5 1 (by decide) q_94 rfl rfl dX7_readHour_139 ?_
            refine z_iload C 0 dX7_readHour_142 rfl ?_
            have hgy1131 := (hfvy783 (883 + 5) (by omega)).trans hpoy5.2.2.2.2.2.1
            have hgy1132 := (hfvy786 (883 + 5) (by omega)).trans hgy1131
            have hgy1133 := (hfvy790 (883 + 5) (by omega)).trans hgy1132
            have hgy1134 := (hfvy793 (883 + 5) (by omega)).trans hgy1133
            have hgy1135 := (hfvy1055 (883 + 5) (by omega)).trans hgy1134
            have hgy1136 := (hfvy1058 (883 + 5) (by omega)).trans hgy1135
            have hgy1137 := up_n egy1117 hgy1136 (ne_o (i := 883) (c := 5) (d := 3) rfl)
            have hgy1138 := up_n egy1128 hgy1137 (ne_o (i := 883) (c := 5) (d := 4) rfl)
            refine z_iast C (by omega) hay10 hgy1138 ((hooy5).toNat) (by omega) (by omega) (by decide) dX7_readHour_144 (fun gy1139 egy1140 => ?_)
            have hgy1141 := up_s egy1140
            refine z_aload_n C 5 dX7_readHour_145 rfl ?_
            refine z_dup C dX7_readHour_146 rfl ?_
            have hgy1142 := up_n egy1140 hgy1130 (ne_o (i := 883) (c := 0) (d := 5) rfl)
            refine z_get (v := .int (zI (hooy5))) C (by omega) hay4 hgy1142 rfl inA_X5 1 (by decide) q_94 rfl rfl dX7_readHour_147 ?_
            refine z_iconst (z := 1) C dX7_readHour_150 rfl ?_
            refine z_iadd C dX7_readHour_151 ?_
            refine z_put (fs' := [.int (zI (sloy5)), .int (zI (hooy5 + 1)), .int (zI (uaoy5)), .ref (ad (883 + 1)), .ref (ad (883 + 2)), .ref (ad (883 + 3)), .ref (ad (883 + 4)), .ref (ad (883 + 5)), .ref (ad (883 + 6))]) C (by omega) hay4 hgy1142 tyX5 tyX5_ok nmX5 rfl inA_X5 1 (by decide) q_94 rfl rfl rfl rfl (Nat.le_of_ble_eq_true rfl) rfl dX7_readHour_152 (fun gy1143 egy1144 => ?_)
            have hgy1145 := up_s egy1144
            have hgy1147 := up_n egy1117 hcdy1059 (by omega)
            have hgy1148 := up_n egy1128 hgy1147 (by omega)
            have hgy1149 := up_n egy1140 hgy1148 (by omega)
            have hgy1150 := up_n egy1144 hgy1149 (by decide)
            have hgy1151 := up_n egy1117 hddy1059 (by omega)
            have hgy1152 := up_n egy1128 hgy1151 (by omega)
            have hgy1153 := up_n egy1140 hgy1152 (by omega)
            have hgy1154 := up_n egy1144 hgy1153 (by decide)
            have hruny1146 : okRun cs ad gy1143 (covy1058) tp := ⟨_, _, _, _, _, _, _, by omega, by omega, hgy1150, hgy1154⟩
            have hgy1155 := (hfvy783 (883 + 1) (by omega)).trans hpoy5.2.1
            have hgy1156 := (hfvy786 (883 + 1) (by omega)).trans hgy1155
            have hgy1157 := (hfvy790 (883 + 1) (by omega)).trans hgy1156
            have hgy1158 := (hfvy793 (883 + 1) (by omega)).trans hgy1157
            have hgy1159 := (hfvy1055 (883 + 1) (by omega)).trans hgy1158
            have hgy1160 := (hfvy1058 (883 + 1) (by omega)).trans hgy1159
            have hgy1161 := up_n egy1117 hgy1160 (ne_o (i := 883) (c := 1) (d := 3) rfl)
            have hgy1162 := up_n egy1128 hgy1161 (ne_o (i := 883) (c := 1) (d := 4) rfl)
            have hgy1163 := up_n egy1140 hgy1162 (ne_o (i := 883) (c := 1) (d := 5) rfl)
            have hgy1164 := up_n egy1144 hgy1163 (ne_o (i := 883) (c := 1) (d := 0) rfl)
            have hgy1165 := (hfvy783 (883 + 2) (by omega)).trans hpoy5.2.2.1
            have hgy1166 := (hfvy786 (883 + 2) (by omega)).trans hgy1165
            have hgy1167 := (hfvy790 (883 + 2) (by omega)).trans hgy1166
            have hgy1168 := (hfvy793 (883 + 2) (by omega)).trans hgy1167
            have hgy1169 := (hfvy1055 (883 + 2) (by omega)).trans hgy1168
            have hgy1170 := (hfvy1058 (883 + 2) (by omega)).trans hgy1169
            have hgy1171 := up_n egy1117 hgy1170 (ne_o (i := 883) (c := 2) (d := 3) rfl)
            have hgy1172 := up_n egy1128 hgy1171 (ne_o (i := 883) (c := 2) (d := 4) rfl)
            have hgy1173 := up_n egy1140 hgy1172 (ne_o (i := 883) (c := 2) (d := 5) rfl)
            have hgy1174 := up_n egy1144 hgy1173 (ne_o (i := 883) (c := 2) (d := 0) rfl)
            have hgy1175 := up_n egy1128 hgy1118 (ne_o (i := 883) (c := 3) (d := 4) rfl)
            have hgy1176 := up_n egy1140 hgy1175 (ne_o (i := 883) (c := 3) (d := 5) rfl)
            have hgy1177 := up_n egy1144 hgy1176 (ne_o (i := 883) (c := 3) (d := 0) rfl)
            have hgy1178 := up_n egy1140 hgy1129 (ne_o (i := 883) (c := 4) (d := 5) rfl)
            have hgy1179 := up_n egy1144 hgy1178 (ne_o (i := 883) (c := 4) (d := 0) rfl)
            have hgy1180 := up_n egy1144 hgy1141 (ne_o (i := 883) (c := 5) (d := 0) rfl)
            have hgy1181 := (hfvy783 (883 + 6) (by omega)).trans hpoy5.2.2.2.2.2.2
            have hgy1182 := (hfvy786 (883 + 6) (by omega)).trans hgy1181
            have hgy1183 := (hfvy790 (883 + 6) (by omega)).trans hgy1182
            have hgy1184 := (hfvy793 (883 + 6) (by omega)).trans hgy1183
            have hgy1185 := (hfvy1055 (883 + 6) (by omega)).trans hgy1184
            have hgy1186 := (hfvy1058 (883 + 6) (by omega)).trans hgy1185
            have hgy1187 := up_n egy1117 hgy1186 (ne_o (i := 883) (c := 6) (d := 3) rfl)
            have hgy1188 := up_n egy1128 hgy1187 (ne_o (i := 883) (c := 6) (d := 4) rfl)
            have hgy1189 := up_n egy1140 hgy1188 (ne_o (i := 883) (c := 6) (d := 5) rfl)
            have hgy1190 := up_n egy1144 hgy1189 (ne_o (i := 883) (c := 6) (d := 0) rfl)
            exact z_vret C hr hlk dX7_readHour_155 (by decide) (by decide) ⟨rfl, rfl, rfl, ⟨_, hruny1146, by omega⟩, ⟨_, _, _, _, _, _, _, _, _, by omega, by omega, ⟨hgy1145, hgy1164, hgy1174, hgy1177, hgy1179, hgy1180, hgy1190⟩⟩, fun j j1 j2 => by rw [egy1144, va_up_ne _ _ (by omega)]; rw [egy1140, va_up_ne _ _ (by omega)]; rw [egy1128, va_up_ne _ _ (by omega)]; rw [egy1117, va_up_ne _ _ (by omega)]; rw [hfvy1058 _ (by omega)]; rw [hfvy1055 _ (by omega)]; rw [hfvy793 _ (by omega)]; rw [hfvy790 _ (by omega)]; rw [hfvy786 _ (by omega)]; rw [hfvy783 _ (by omega)]⟩
    · refine z_iconst (z := 1) C dX7_readHour_30 rfl ?_
      refine z_goto (tgt := 35) C dX7_readHour_31 (by decide) ?_
      refine z_istore_n (lv' := [(2, .int (zI (1))), (0, .ref (ad 2)), (1, .ref (ad 883))]) C dX7_readHour_35 rfl (by decide) rfl ?_
      refine z_iload_n C 0 dX7_readHour_36 rfl ?_
      refine z_if_eq (tgt := 44) C dX7_readHour_37 (by decide) (by omega) (fun h => absurd h (by omega)) (fun _ => ?_)
      refine z_aload_n C 1 dX7_readHour_40 rfl ?_
      have hruny1191 : okRun cs ad gvy786 (covy783) tp := ⟨_, _, _, _, _, _, _, by omega, by omega, hcdy787, hddy787⟩
      refine z_cV (As := []) (rest := []) (ci := 9) C (c_X7_take l D A cs tt N ad _ (by omega) _ tp hruny1191) (by omega) hay2 hcdy787 rfl rfl mv_yX7_take q_813 hd_yX7_take (by decide) (Nat.le_of_ble_eq_true rfl) (by decide) dX7_readHour_41 rfl (kV0 fun gvy1192 hvy1192 => ?_)
      obtain ⟨hkvy1192, hfvy1192⟩ := hvy1192
      obtain ⟨pldy1193, endy1193, tydy1193, a9dy1193, bedy1193, tkdy1193, tddy1193, hAdy1193, hTdy1193, hcdy1193, hddy1193⟩ := id hkvy1192
      refine z_aload_n C 1 dX7_readHour_44 rfl ?_
      refine z_iconst (z := 0) C dX7_readHour_45 rfl ?_
      refine z_iload_n C 0 dX7_readHour_46 rfl ?_
      refine z_if_eq (tgt := 56) C dX7_readHour_47 (by decide) (by omega) (fun h => absurd h (by omega)) (fun _ => ?_)
      refine z_sipush (z := 300) C dX7_readHour_50 (by decide) ?_
      refine z_goto (tgt := 58) C dX7_readHour_53 (by decide) ?_
      have hruny1194 : okRun cs ad gvy1192 (covy783) tp := ⟨_, _, _, _, _, _, _, by omega, by omega, hcdy1193, hddy1193⟩
      refine z_cV (As := [.int (zI (0)), .int (zI (300))]) (rest := []) (ci := 9) C (c_X7_number l D A cs tt N ad _ (by omega) _ tp hruny1194 (0) (by omega) (300) (by omega)) (by omega) hay2 hcdy1193 rfl rfl mv_yX7_number q_817 hd_yX7_number (by decide) (Nat.le_of_ble_eq_true rfl) (by decide) dX7_readHour_58 rfl (kI0 fun vy1195 gvy1195 hvy1195 => ?_)
      obtain ⟨hrvy1195, ⟨covy1195, hkvy1195, hnvy1195⟩, hfvy1195⟩ := hvy1195
      obtain ⟨pldy1196, endy1196, tydy1196, a9dy1196, bedy1196, tkdy1196, tddy1196, hAdy1196, hTdy1196, hcdy1196, hddy1196⟩ := id hkvy1195
      refine z_istore_n (lv' := [(3, .int (zI (vy1195))), (2, .int (zI (1))), (0, .ref (ad 2)), (1, .ref (ad 883))]) C dX7_readHour_61 rfl (by decide) rfl ?_
      refine z_aload_n C 2 dX7_readHour_62 rfl ?_
      have hruny1197 : okRun cs ad gvy1195 (covy1195) tp := ⟨_, _, _, _, _, _, _, by omega, by omega, hcdy1196, hddy1196⟩
      refine z_cV (As := []) (rest := []) (ci := 9) C (c_X7_readFall l D A cs tt N ad _ (by omega) _ tp hruny1197 ) (by omega) hay2 hcdy1196 rfl rfl mv_yX7_readFall q_848 hd_yX7_readFall (by decide) (Nat.le_of_ble_eq_true rfl) (by decide) dX7_readHour_63 rfl (kI0 fun vy1198 gvy1198 hvy1198 => ?_)
      obtain ⟨hrvy1198, ⟨covy1198, hkvy1198, hnvy1198⟩, hfvy1198⟩ := hvy1198
      obtain ⟨pldy1199, endy1199, tydy1199, a9dy1199, bedy1199, tkdy1199, tddy1199, hAdy1199, hTdy1199, hcdy1199, hddy1199⟩ := id hkvy1198
      refine z_istore (lv' := [(4, .int (zI (vy1198))), (3, .int (zI (vy1195))), (2, .int (zI (1))), (0, .ref (ad 2)), (1, .ref (ad 883))]) C dX7_readHour_66 (by decide) rfl ?_
      refine z_iload C 0 dX7_readHour_68 rfl ?_
      refine z_iconst (z := 1) C dX7_readHour_70 rfl ?_
      refine z_icmp_eq (tgt := 80) C dX7_readHour_71 (by decide) (by omega) (by omega) (fun hby1200 => ?_) (fun hby1200 => ?_)
      · refine z_aload_n C 3 dX7_readHour_80 rfl ?_
        refine z_iconst (z := 1) C dX7_readHour_81 rfl ?_
        refine z_bipush (z := 50) C dX7_readHour_82 (by decide) ?_
        have hruny1201 : okRun cs ad gvy1198 (covy1198) tp := ⟨_, _, _, _, _, _, _, by omega, by omega, hcdy1199, hddy1199⟩
        refine z_cV (As := [.int (zI (1)), .int (zI (50))]) (rest := []) (ci := 9) C (c_X7_number l D A cs tt N ad _ (by omega) _ tp hruny1201 (1) (by omega) (50) (by omega)) (by omega) hay2 hcdy1199 rfl rfl mv_yX7_number q_817 hd_yX7_number (by decide) (Nat.le_of_ble_eq_true rfl) (by decide) dX7_readHour_84 rfl (kI0 fun vy1202 gvy1202 hvy1202 => ?_)
        obtain ⟨hrvy1202, ⟨covy1202, hkvy1202, hnvy1202⟩, hfvy1202⟩ := hvy1202
        obtain ⟨pldy1203, endy1203, tydy1203, a9dy1203, bedy1203, tkdy1203, tddy1203, hAdy1203, hTdy1203, hcdy1203, hddy1203⟩ := id hkvy1202
        refine z_goto (tgt := 91) C dX7_readHour_87 (by decide) ?_
        refine z_istore (lv' := [(5, .int (zI (vy1202))), (4, .int (zI (vy1198))), (3, .int (zI (vy1195))), (2, .int (zI (1))), (0, .ref (ad 2)), (1, .ref (ad 883))]) C dX7_readHour_91 (by decide) rfl ?_
        refine z_aload_n C 4 dX7_readHour_93 rfl ?_
        have hruny1204 : okRun cs ad gvy1202 (covy1202) tp := ⟨_, _, _, _, _, _, _, by omega, by omega, hcdy1203, hddy1203⟩
        refine z_cV (As := []) (rest := []) (ci := 9) C (c_X7_close l D A cs tt N ad _ (by omega) _ tp hruny1204 ) (by omega) hay2 hcdy1203 rfl rfl mv_yX7_close q_821 hd_yX7_close (by decide) (Nat.le_of_ble_eq_true rfl) (by decide) dX7_readHour_94 rfl (kV0 fun gvy1205 hvy1205 => ?_)
        obtain ⟨⟨covy1205, hkvy1205, hnvy1205⟩, hfvy1205⟩ := hvy1205
        obtain ⟨pldy1206, endy1206, tydy1206, a9dy1206, bedy1206, tkdy1206, tddy1206, hAdy1206, hTdy1206, hcdy1206, hddy1206⟩ := id hkvy1205
        refine z_aload_n C 4 dX7_readHour_97 rfl ?_
        refine z_get (v := .int (zI (covy1205))) C (by omega) hay2 hcdy1206 rfl inA_X7 1 (by decide) q_45 rfl rfl dX7_readHour_98 ?_
        refine z_if_ne (tgt := 155) C dX7_readHour_101 (by decide) (by omega) (fun hby1207 => ?_) (fun hby1207 => ?_)
        · have hruny1208 : okRun cs ad gvy1205 (covy1205) tp := ⟨_, _, _, _, _, _, _, by omega, by omega, hcdy1206, hddy1206⟩
          have hgy1209 := (hfvy783 (883) (by decide)).trans hpoy5.1
          have hgy1210 := (hfvy786 (883) (by decide)).trans hgy1209
          have hgy1211 := (hfvy1192 (883) (by decide)).trans hgy1210
          have hgy1212 := (hfvy1195 (883) (by decide)).trans hgy1211
          have hgy1213 := (hfvy1198 (883) (by decide)).trans hgy1212
          have hgy1214 := (hfvy1202 (883) (by decide)).trans hgy1213
          have hgy1215 := (hfvy1205 (883) (by decide)).trans hgy1214
          have hgy1216 := (hfvy783 (883 + 1) (by omega)).trans hpoy5.2.1
          have hgy1217 := (hfvy786 (883 + 1) (by omega)).trans hgy1216
          have hgy1218 := (hfvy1192 (883 + 1) (by omega)).trans hgy1217
          have hgy1219 := (hfvy1195 (883 + 1) (by omega)).trans hgy1218
          have hgy1220 := (hfvy1198 (883 + 1) (by omega)).trans hgy1219
          have hgy1221 := (hfvy1202 (883 + 1) (by omega)).trans hgy1220
          have hgy1222 := (hfvy1205 (883 + 1) (by omega)).trans hgy1221
          have hgy1223 := (hfvy783 (883 + 2) (by omega)).trans hpoy5.2.2.1
          have hgy1224 := (hfvy786 (883 + 2) (by omega)).trans hgy1223
          have hgy1225 := (hfvy1192 (883 + 2) (by omega)).trans hgy1224
          have hgy1226 := (hfvy1195 (883 + 2) (by omega)).trans hgy1225
          have hgy1227 := (hfvy1198 (883 + 2) (by omega)).trans hgy1226
          have hgy1228 := (hfvy1202 (883 + 2) (by omega)).trans hgy1227
          have hgy1229 := (hfvy1205 (883 + 2) (by omega)).trans hgy1228
          have hgy1230 := (hfvy783 (883 + 3) (by omega)).trans hpoy5.2.2.2.1
          have hgy1231 := (hfvy786 (883 + 3) (by omega)).trans hgy1230
          have hgy1232 := (hfvy1192 (883 + 3) (by omega)).trans hgy1231
          have hgy1233 := (hfvy1195 (883 + 3) (by omega)).trans hgy1232
          have hgy1234 := (hfvy1198 (883 + 3) (by omega)).trans hgy1233
          have hgy1235 := (hfvy1202 (883 + 3) (by omega)).trans hgy1234
          have hgy1236 := (hfvy1205 (883 + 3) (by omega)).trans hgy1235
          have hgy1237 := (hfvy783 (883 + 4) (by omega)).trans hpoy5.2.2.2.2.1
          have hgy1238 := (hfvy786 (883 + 4) (by omega)).trans hgy1237
          have hgy1239 := (hfvy1192 (883 + 4) (by omega)).trans hgy1238
          have hgy1240 := (hfvy1195 (883 + 4) (by omega)).trans hgy1239
          have hgy1241 := (hfvy1198 (883 + 4) (by omega)).trans hgy1240
          have hgy1242 := (hfvy1202 (883 + 4) (by omega)).trans hgy1241
          have hgy1243 := (hfvy1205 (883 + 4) (by omega)).trans hgy1242
          have hgy1244 := (hfvy783 (883 + 5) (by omega)).trans hpoy5.2.2.2.2.2.1
          have hgy1245 := (hfvy786 (883 + 5) (by omega)).trans hgy1244
          have hgy1246 := (hfvy1192 (883 + 5) (by omega)).trans hgy1245
          have hgy1247 := (hfvy1195 (883 + 5) (by omega)).trans hgy1246
          have hgy1248 := (hfvy1198 (883 + 5) (by omega)).trans hgy1247
          have hgy1249 := (hfvy1202 (883 + 5) (by omega)).trans hgy1248
          have hgy1250 := (hfvy1205 (883 + 5) (by omega)).trans hgy1249
          have hgy1251 := (hfvy783 (883 + 6) (by omega)).trans hpoy5.2.2.2.2.2.2
          have hgy1252 := (hfvy786 (883 + 6) (by omega)).trans hgy1251
          have hgy1253 := (hfvy1192 (883 + 6) (by omega)).trans hgy1252
          have hgy1254 := (hfvy1195 (883 + 6) (by omega)).trans hgy1253
          have hgy1255 := (hfvy1198 (883 + 6) (by omega)).trans hgy1254
          have hgy1256 := (hfvy1202 (883 + 6) (by omega)).trans hgy1255
          have hgy1257 := (hfvy1205 (883 + 6) (by omega)).trans hgy1256
          exact z_vret C hr hlk dX7_readHour_155 (by decide) (by decide) ⟨rfl, rfl, rfl, ⟨_, hruny1208, by omega⟩, ⟨_, _, _, _, _, _, _, _, _, by omega, by omega, ⟨hgy1215, hgy1222, hgy1229, hgy1236, hgy1243, hgy1250, hgy1257⟩⟩, fun j j1 j2 => by rw [hfvy1205 _ (by omega)]; rw [hfvy1202 _ (by omega)]; rw [hfvy1198 _ (by omega)]; rw [hfvy1195 _ (by omega)]; rw [hfvy1192 _ (by omega)]; rw [hfvy786 _ (by omega)]; rw [hfvy783 _ (by omega)]⟩
        · refine z_aload_n C 5 dX7_readHour_104 rfl ?_
          have hgy1258 := (hfvy783 (883) (by decide)).trans hpoy5.1
          have hgy1259 := (hfvy786 (883) (by decide)).trans hgy1258
          have hgy1260 := (hfvy1192 (883) (by decide)).trans hgy1259
          have hgy1261 := (hfvy1195 (883) (by decide)).trans hgy1260
          have hgy1262 := (hfvy1198 (883) (by decide)).trans hgy1261
          have hgy1263 := (hfvy1202 (883) (by decide)).trans hgy1262
          have hgy1264 := (hfvy1205 (883) (by decide)).trans hgy1263
          refine z_get (v := .ref (ad (883 + 3))) C (by omega) hay4 hgy1264 rfl inA_X5 5 (by decide) q_106 rfl rfl dX7_readHour_105 ?_
          refine z_aload_n C 5 dX7_readHour_108 rfl ?_
          refine z_get (v := .int (zI (hooy5))) C (by omega) hay4 hgy1264 rfl inA_X5 1 (by decide) q_94 rfl rfl dX7_readHour_109 ?_
          refine z_iload_n C 3 dX7_readHour_112 rfl ?_
          refine z_if_eq (tgt := 121) C dX7_readHour_113 (by decide) (by omega) (fun h => absurd h (by omega)) (fun _ => ?_)
          refine z_iload_n C 2 dX7_readHour_116 rfl ?_
          refine z_ineg C dX7_readHour_117 ?_
          refine z_goto (tgt := 122) C dX7_readHour_118 (by decide) ?_
          have hgy1265 := (hfvy783 (883 + 3) (by omega)).trans hpoy5.2.2.2.1
          have hgy1266 := (hfvy786 (883 + 3) (by omega)).trans hgy1265
          have hgy1267 := (hfvy1192 (883 + 3) (by omega)).trans hgy1266
          have hgy1268 := (hfvy1195 (883 + 3) (by omega)).trans hgy1267
          have hgy1269 := (hfvy1198 (883 + 3) (by omega)).trans hgy1268
          have hgy1270 := (hfvy1202 (883 + 3) (by omega)).trans hgy1269
          have hgy1271 := (hfvy1205 (883 + 3) (by omega)).trans hgy1270
          refine z_iast C (by omega) hay8 hgy1271 ((hooy5).toNat) (by omega) (by omega) (by decide) dX7_readHour_122 (fun gy1272 egy1273 => ?_)
          have hgy1274 := up_s egy1273
          refine z_aload_n C 5 dX7_readHour_123 rfl ?_
          have hgy1275 := up_n egy1273 hgy1264 (ne_o (i := 883) (c := 0) (d := 3) rfl)
          refine z_get (v := .ref (ad (883 + 4))) C (by omega) hay4 hgy1275 rfl inA_X5 6 (by decide) q_109 rfl rfl dX7_readHour_124 ?_
          refine z_aload_n C 5 dX7_readHour_127 rfl ?_
          refine z_get (v := .int (zI (hooy5))) C (by omega) hay4 hgy1275 rfl inA_X5 1 (by decide) q_94 rfl rfl dX7_readHour_128 ?_
          refine z_iload C 1 dX7_readHour_131 rfl ?_
          have hgy1276 := (hfvy783 (883 + 4) (by omega)).trans hpoy5.2.2.2.2.1
          have hgy1277 := (hfvy786 (883 + 4) (by omega)).trans hgy1276
          have hgy1278 := (hfvy1192 (883 + 4) (by omega)).trans hgy1277
          have hgy1279 := (hfvy1195 (883 + 4) (by omega)).trans hgy1278
          have hgy1280 := (hfvy1198 (883 + 4) (by omega)).trans hgy1279
          have hgy1281 := (hfvy1202 (883 + 4) (by omega)).trans hgy1280
          have hgy1282 := (hfvy1205 (883 + 4) (by omega)).trans hgy1281
          have hgy1283 := up_n egy1273 hgy1282 (ne_o (i := 883) (c := 4) (d := 3) rfl)
          refine z_iast C (by omega) hay9 hgy1283 ((hooy5).toNat) (by omega) (by omega) (by decide) dX7_readHour_133 (fun gy1284 egy1285 => ?_)
          have hgy1286 := up_s egy1285
          refine z_aload_n C 5 dX7_readHour_134 rfl ?_
          have hgy1287 := up_n egy1285 hgy1275 (ne_o (i := 883) (c := 0) (d := 4) rfl)
          refine z_get (v := .ref (ad (883 + 5))) C (by omega) hay4 hgy1287 rfl inA_X5 7 (by decide) q_112 rfl rfl dX7_readHour_135 ?_
          refine z_aload_n C 5 dX7_readHour_138 rfl ?_
          refine z_get (v := .int (zI (hooy5))) C (by omega) hay4 hgy1287 rfl inA_X5 1 (by decide) q_94 rfl rfl dX7_readHour_139 ?_
          refine z_iload C 0 dX7_readHour_142 rfl ?_
          have hgy1288 := (hfvy783 (883 + 5) (by omega)).trans hpoy5.2.2.2.2.2.1
          have hgy1289 := (hfvy786 (883 + 5) (by omega)).trans hgy1288
          have hgy1290 := (hfvy1192 (883 + 5) (by omega)).trans hgy1289
          have hgy1291 := (hfvy1195 (883 + 5) (by omega)).trans hgy1290
          have hgy1292 := (hfvy1198 (883 + 5) (by omega)).trans hgy1291
          have hgy1293 := (hfvy1202 (883 + 5) (by omega)).trans hgy1292
          have hgy1294 := (hfvy1205 (883 + 5) (by omega)).trans hgy1293
          have hgy1295 := up_n egy1273 hgy1294 (ne_o (i := 883) (c := 5) (d := 3) rfl)
          have hgy1296 := up_n egy1285 hgy1295 (ne_o (i := 883) (c := 5) (d := 4) rfl)
          refine z_iast C (by omega) hay10 hgy1296 ((hooy5).toNat) (by omega) (by omega) (by decide) dX7_readHour_144 (fun gy1297 egy1298 => ?_)
          have hgy1299 := up_s egy1298
          refine z_aload_n C 5 dX7_readHour_145 rfl ?_
          refine z_dup C dX7_readHour_146 rfl ?_
          have hgy1300 := up_n egy1298 hgy1287 (ne_o (i := 883) (c := 0) (d := 5) rfl)
          refine z_get (v := .int (zI (hooy5))) C (by omega) hay4 hgy1300 rfl inA_X5 1 (by decide) q_94 rfl rfl dX7_readHour_147 ?_
          refine z_iconst (z := 1) C dX7_readHour_150 rfl ?_
          refine z_iadd C dX7_readHour_151 ?_
          refine z_put (fs' := [.int (zI (sloy5)), .int (zI (hooy5 + 1)), .int (zI (uaoy5)), .ref (ad (883 + 1)), .ref (ad (883 + 2)), .ref (ad (883 + 3)), .ref (ad (883 + 4)), .ref (ad (883 + 5)), .ref (ad (883 + 6))]) C (by omega) hay4 hgy1300 tyX5 tyX5_ok nmX5 rfl inA_X5 1 (by decide) q_94 rfl rfl rfl rfl (Nat.le_of_ble_eq_true rfl) rfl dX7_readHour_152 (fun gy1301 egy1302 => ?_)
          have hgy1303 := up_s egy1302
          have hgy1305 := up_n egy1273 hcdy1206 (by omega)
          have hgy1306 := up_n egy1285 hgy1305 (by omega)
          have hgy1307 := up_n egy1298 hgy1306 (by omega)
          have hgy1308 := up_n egy1302 hgy1307 (by decide)
          have hgy1309 := up_n egy1273 hddy1206 (by omega)
          have hgy1310 := up_n egy1285 hgy1309 (by omega)
          have hgy1311 := up_n egy1298 hgy1310 (by omega)
          have hgy1312 := up_n egy1302 hgy1311 (by decide)
          have hruny1304 : okRun cs ad gy1301 (covy1205) tp := ⟨_, _, _, _, _, _, _, by omega, by omega, hgy1308, hgy1312⟩
          have hgy1313 := (hfvy783 (883 + 1) (by omega)).trans hpoy5.2.1
          have hgy1314 := (hfvy786 (883 + 1) (by omega)).trans hgy1313
          have hgy1315 := (hfvy1192 (883 + 1) (by omega)).trans hgy1314
          have hgy1316 := (hfvy1195 (883 + 1) (by omega)).trans hgy1315
          have hgy1317 := (hfvy1198 (883 + 1) (by omega)).trans hgy1316
          have hgy1318 := (hfvy1202 (883 + 1) (by omega)).trans hgy1317
          have hgy1319 := (hfvy1205 (883 + 1) (by omega)).trans hgy1318
          have hgy1320 := up_n egy1273 hgy1319 (ne_o (i := 883) (c := 1) (d := 3) rfl)
          have hgy1321 := up_n egy1285 hgy1320 (ne_o (i := 883) (c := 1) (d := 4) rfl)
          have hgy1322 := up_n egy1298 hgy1321 (ne_o (i := 883) (c := 1) (d := 5) rfl)
          have hgy1323 := up_n egy1302 hgy1322 (ne_o (i := 883) (c := 1) (d := 0) rfl)
          have hgy1324 := (hfvy783 (883 + 2) (by omega)).trans hpoy5.2.2.1
          have hgy1325 := (hfvy786 (883 + 2) (by omega)).trans hgy1324
          have hgy1326 := (hfvy1192 (883 + 2) (by omega)).trans hgy1325
          have hgy1327 := (hfvy1195 (883 + 2) (by omega)).trans hgy1326
          have hgy1328 := (hfvy1198 (883 + 2) (by omega)).trans hgy1327
          have hgy1329 := (hfvy1202 (883 + 2) (by omega)).trans hgy1328
          have hgy1330 := (hfvy1205 (883 + 2) (by omega)).trans hgy1329
          have hgy1331 := up_n egy1273 hgy1330 (ne_o (i := 883) (c := 2) (d := 3) rfl)
          have hgy1332 := up_n egy1285 hgy1331 (ne_o (i := 883) (c := 2) (d := 4) rfl)
          have hgy1333 := up_n egy1298 hgy1332 (ne_o (i := 883) (c := 2) (d := 5) rfl)
          have hgy1334 := up_n egy1302 hgy1333 (ne_o (i := 883) (c := 2) (d := 0) rfl)
          have hgy1335 := up_n egy1285 hgy1274 (ne_o (i := 883) (c := 3) (d := 4) rfl)
          have hgy1336 := up_n egy1298 hgy1335 (ne_o (i := 883) (c := 3) (d := 5) rfl)
          have hgy1337 := up_n egy1302 hgy1336 (ne_o (i := 883) (c := 3) (d := 0) rfl)
          have hgy1338 := up_n egy1298 hgy1286 (ne_o (i := 883) (c := 4) (d := 5) rfl)
          have hgy1339 := up_n egy1302 hgy1338 (ne_o (i := 883) (c := 4) (d := 0) rfl)
          have hgy1340 := up_n egy1302 hgy1299 (ne_o (i := 883) (c := 5) (d := 0) rfl)
          have hgy1341 := (hfvy783 (883 + 6) (by omega)).trans hpoy5.2.2.2.2.2.2
          have hgy1342 := (hfvy786 (883 + 6) (by omega)).trans hgy1341
          have hgy1343 := (hfvy1192 (883 + 6) (by omega)).trans hgy1342
          have hgy1344 := (hfvy1195 (883 + 6) (by omega)).trans hgy1343
          have hgy1345 := (hfvy1198 (883 + 6) (by omega)).trans hgy1344
          have hgy1346 := (hfvy1202 (883 + 6) (by omega)).trans hgy1345
          have hgy1347 := (hfvy1205 (883 + 6) (by omega)).trans hgy1346
          have hgy1348 := up_n egy1273 hgy1347 (ne_o (i := 883) (c := 6) (d := 3) rfl)
          have hgy1349 := up_n egy1285 hgy1348 (ne_o (i := 883) (c := 6) (d := 4) rfl)
          have hgy1350 := up_n egy1298 hgy1349 (ne_o (i := 883) (c := 6) (d := 5) rfl)
          have hgy1351 := up_n egy1302 hgy1350 (ne_o (i := 883) (c := 6) (d := 0) rfl)
          exact z_vret C hr hlk dX7_readHour_155 (by decide) (by decide) ⟨rfl, rfl, rfl, ⟨_, hruny1304, by omega⟩, ⟨_, _, _, _, _, _, _, _, _, by omega, by omega, ⟨hgy1303, hgy1323, hgy1334, hgy1337, hgy1339, hgy1340, hgy1351⟩⟩, fun j j1 j2 => by rw [egy1302, va_up_ne _ _ (by omega)]; rw [egy1298, va_up_ne _ _ (by omega)]; rw [egy1285, va_up_ne _ _ (by omega)]; rw [egy1273, va_up_ne _ _ (by omega)]; rw [hfvy1205 _ (by omega)]; rw [hfvy1202 _ (by omega)]; rw [hfvy1198 _ (by omega)]; rw [hfvy1195 _ (by omega)]; rw [hfvy1192 _ (by omega)]; rw [hfvy786 _ (by omega)]; rw [hfvy783 _ (by omega)]⟩
      · refine z_iload C 0 dX7_readHour_74 rfl ?_
        refine z_iconst (z := 2) C dX7_readHour_76 rfl ?_
        refine z_icmp_ne (tgt := 90) C dX7_readHour_77 (by decide) (by omega) (by omega) (fun hby1352 => ?_) (fun hby1352 => ?_)
        · refine z_iconst (z := 0) C dX7_readHour_90 rfl ?_
          refine z_istore (lv' := [(5, .int (zI (0))), (4, .int (zI (vy1198))), (3, .int (zI (vy1195))), (2, .int (zI (1))), (0, .ref (ad 2)), (1, .ref (ad 883))]) C dX7_readHour_91 (by decide) rfl ?_
          refine z_aload_n C 4 dX7_readHour_93 rfl ?_
          have hruny1353 : okRun cs ad gvy1198 (covy1198) tp := ⟨_, _, _, _, _, _, _, by omega, by omega, hcdy1199, hddy1199⟩
          refine z_cV (As := []) (rest := []) (ci := 9) C (c_X7_close l D A cs tt N ad _ (by omega) _ tp hruny1353 ) (by omega) hay2 hcdy1199 rfl rfl mv_yX7_close q_821 hd_yX7_close (by decide) (Nat.le_of_ble_eq_true rfl) (by decide) dX7_readHour_94 rfl (kV0 fun gvy1354 hvy1354 => ?_)
          obtain ⟨⟨covy1354, hkvy1354, hnvy1354⟩, hfvy1354⟩ := hvy1354
          obtain ⟨pldy1355, endy1355, tydy1355, a9dy1355, bedy1355, tkdy1355, tddy1355, hAdy1355, hTdy1355, hcdy1355, hddy1355⟩ := id hkvy1354
          refine z_aload_n C 4 dX7_readHour_97 rfl ?_
          refine z_get (v := .int (zI (covy1354))) C (by omega) hay2 hcdy1355 rfl inA_X7 1 (by decide) q_45 rfl rfl dX7_readHour_98 ?_
          refine z_if_ne (tgt := 155) C dX7_readHour_101 (by decide) (by omega) (fun hby1356 => ?_) (fun hby1356 => ?_)
          · have hruny1357 : okRun cs ad gvy1354 (covy1354) tp := ⟨_, _, _, _, _, _, _, by omega, by omega, hcdy1355, hddy1355⟩
            have hgy1358 := (hfvy783 (883) (by decide)).trans hpoy5.1
            have hgy1359 := (hfvy786 (883) (by decide)).trans hgy1358
            have hgy1360 := (hfvy1192 (883) (by decide)).trans hgy1359
            have hgy1361 := (hfvy1195 (883) (by decide)).trans hgy1360
            have hgy1362 := (hfvy1198 (883) (by decide)).trans hgy1361
            have hgy1363 := (hfvy1354 (883) (by decide)).trans hgy1362
            have hgy1364 := (hfvy783 (883 + 1) (by omega)).trans hpoy5.2.1
            have hgy1365 := (hfvy786 (883 + 1) (by omega)).trans hgy1364
            have hgy1366 := (hfvy1192 (883 + 1) (by omega)).trans hgy1365
            have hgy1367 := (hfvy1195 (883 + 1) (by omega)).trans hgy1366
            have hgy1368 := (hfvy1198 (883 + 1) (by omega)).trans hgy1367
            have hgy1369 := (hfvy1354 (883 + 1) (by omega)).trans hgy1368
            have hgy1370 := (hfvy783 (883 + 2) (by omega)).trans hpoy5.2.2.1
            have hgy1371 := (hfvy786 (883 + 2) (by omega)).trans hgy1370
            have hgy1372 := (hfvy1192 (883 + 2) (by omega)).trans hgy1371
            have hgy1373 := (hfvy1195 (883 + 2) (by omega)).trans hgy1372
            have hgy1374 := (hfvy1198 (883 + 2) (by omega)).trans hgy1373
            have hgy1375 := (hfvy1354 (883 + 2) (by omega)).trans hgy1374
            have hgy1376 := (hfvy783 (883 + 3) (by omega)).trans hpoy5.2.2.2.1
            have hgy1377 := (hfvy786 (883 + 3) (by omega)).trans hgy1376
            have hgy1378 := (hfvy1192 (883 + 3) (by omega)).trans hgy1377
            have hgy1379 := (hfvy1195 (883 + 3) (by omega)).trans hgy1378
            have hgy1380 := (hfvy1198 (883 + 3) (by omega)).trans hgy1379
            have hgy1381 := (hfvy1354 (883 + 3) (by omega)).trans hgy1380
            have hgy1382 := (hfvy783 (883 + 4) (by omega)).trans hpoy5.2.2.2.2.1
            have hgy1383 := (hfvy786 (883 + 4) (by omega)).trans hgy1382
            have hgy1384 := (hfvy1192 (883 + 4) (by omega)).trans hgy1383
            have hgy1385 := (hfvy1195 (883 + 4) (by omega)).trans hgy1384
            have hgy1386 := (hfvy1198 (883 + 4) (by omega)).trans hgy1385
            have hgy1387 := (hfvy1354 (883 + 4) (by omega)).trans hgy1386
            have hgy1388 := (hfvy783 (883 + 5) (by omega)).trans hpoy5.2.2.2.2.2.1
            have hgy1389 := (hfvy786 (883 + 5) (by omega)).trans hgy1388
            have hgy1390 := (hfvy1192 (883 + 5) (by omega)).trans hgy1389
            have hgy1391 := (hfvy1195 (883 + 5) (by omega)).trans hgy1390
            have hgy1392 := (hfvy1198 (883 + 5) (by omega)).trans hgy1391
            have hgy1393 := (hfvy1354 (883 + 5) (by omega)).trans hgy1392
            have hgy1394 := (hfvy783 (883 + 6) (by omega)).trans hpoy5.2.2.2.2.2.2
            have hgy1395 := (hfvy786 (883 + 6) (by omega)).trans hgy1394
            have hgy1396 := (hfvy1192 (883 + 6) (by omega)).trans hgy1395
            have hgy1397 := (hfvy1195 (883 + 6) (by omega)).trans hgy1396
            have hgy1398 := (hfvy1198 (883 + 6) (by omega)).trans hgy1397
            have hgy1399 := (hfvy1354 (883 + 6) (by omega)).trans hgy1398
            exact z_vret C hr hlk dX7_readHour_155 (by decide) (by decide) ⟨rfl, rfl, rfl, ⟨_, hruny1357, by omega⟩, ⟨_, _, _, _, _, _, _, _, _, by omega, by omega, ⟨hgy1363, hgy1369, hgy1375, hgy1381, hgy1387, hgy1393, hgy1399⟩⟩, fun j j1 j2 => by rw [hfvy1354 _ (by omega)]; rw [hfvy1198 _ (by omega)]; rw [hfvy1195 _ (by omega)]; rw [hfvy1192 _ (by omega)]; rw [hfvy786 _ (by omega)]; rw [hfvy783 _ (by omega)]⟩
          · refine z_aload_n C 5 dX7_readHour_104 rfl ?_
            have hgy1400 := (hfvy783 (883) (by decide)).trans hpoy5.1
            have hgy1401 := (hfvy786 (883) (by decide)).trans hgy1400
            have hgy1402 := (hfvy1192 (883) (by decide)).trans hgy1401
            have hgy1403 := (hfvy1195 (883) (by decide)).trans hgy1402
            have hgy1404 := (hfvy1198 (883) (by decide)).trans hgy1403
            have hgy1405 := (hfvy1354 (883) (by decide)).trans hgy1404
            refine z_get (v := .ref (ad (883 + 3))) C (by omega) hay4 hgy1405 rfl inA_X5 5 (by decide) q_106 rfl rfl dX7_readHour_105 ?_
            refine z_aload_n C 5 dX7_readHour_108 rfl ?_
            refine z_get (v := .int (zI (hooy5))) C (by omega) hay4 hgy1405 rfl inA_X5 1 (by decide) q_94 rfl rfl dX7_readHour_109 ?_
            refine z_iload_n C 3 dX7_readHour_112 rfl ?_
            refine z_if_eq (tgt := 121) C dX7_readHour_113 (by decide) (by omega) (fun h => absurd h (by omega)) (fun _ => ?_)
            refine z_iload_n C 2 dX7_readHour_116 rfl ?_
            refine z_ineg C dX7_readHour_117 ?_
            refine z_goto (tgt := 122) C dX7_readHour_118 (by decide) ?_
            have hgy1406 := (hfvy783 (883 + 3) (by omega)).trans hpoy5.2.2.2.1
            have hgy1407 := (hfvy786 (883 + 3) (by omega)).trans hgy1406
            have hgy1408 := (hfvy1192 (883 + 3) (by omega)).trans hgy1407
            have hgy1409 := (hfvy1195 (883 + 3) (by omega)).trans hgy1408
            have hgy1410 := (hfvy1198 (883 + 3) (by omega)).trans hgy1409
            have hgy1411 := (hfvy1354 (883 + 3) (by omega)).trans hgy1410
            refine z_iast C (by omega) hay8 hgy1411 ((hooy5).toNat) (by omega) (by omega) (by decide) dX7_readHour_122 (fun gy1412 egy1413 => ?_)
            have hgy1414 := up_s egy1413
            refine z_aload_n C 5 dX7_readHour_123 rfl ?_
            have hgy1415 := up_n egy1413 hgy1405 (ne_o (i := 883) (c := 0) (d := 3) rfl)
            refine z_get (v := .ref (ad (883 + 4))) C (by omega) hay4 hgy1415 rfl inA_X5 6 (by decide) q_109 rfl rfl dX7_readHour_124 ?_
            refine z_aload_n C 5 dX7_readHour_127 rfl ?_
            refine z_get (v := .int (zI (hooy5))) C (by omega) hay4 hgy1415 rfl inA_X5 1 (by decide) q_94 rfl rfl dX7_readHour_128 ?_
            refine z_iload C 1 dX7_readHour_131 rfl ?_
            have hgy1416 := (hfvy783 (883 + 4) (by omega)).trans hpoy5.2.2.2.2.1
            have hgy1417 := (hfvy786 (883 + 4) (by omega)).trans hgy1416
            have hgy1418 := (hfvy1192 (883 + 4) (by omega)).trans hgy1417
            have hgy1419 := (hfvy1195 (883 + 4) (by omega)).trans hgy1418
            have hgy1420 := (hfvy1198 (883 + 4) (by omega)).trans hgy1419
            have hgy1421 := (hfvy1354 (883 + 4) (by omega)).trans hgy1420
            have hgy1422 := up_n egy1413 hgy1421 (ne_o (i := 883) (c := 4) (d := 3) rfl)
            refine z_iast C (by omega) hay9 hgy1422 ((hooy5).toNat) (by omega) (by omega) (by decide) dX7_readHour_133 (fun gy1423 egy1424 => ?_)
            have hgy1425 := up_s egy1424
            refine z_aload_n C 5 dX7_readHour_134 rfl ?_
            have hgy1426 := up_n egy1424 hgy1415 (ne_o (i := 883) (c := 0) (d := 4) rfl)
            refine z_get (v := .ref (ad (883 + 5))) C (by omega) hay4 hgy1426 rfl inA_X5 7 (by decide) q_112 rfl rfl dX7_readHour_135 ?_
            refine z_aload_n C 5 dX7_readHour_138 rfl ?_
            refine z_get (v := .int (zI (hooy5))) C (by omega) hay4 hgy1426 rfl inA_X5 1 (by decide) q_94 rfl rfl dX7_readHour_139 ?_
            refine z_iload C 0 dX7_readHour_142 rfl ?_
            have hgy1427 := (hfvy783 (883 + 5) (by omega)).trans hpoy5.2.2.2.2.2.1
            have hgy1428 := (hfvy786 (883 + 5) (by omega)).trans hgy1427
            have hgy1429 := (hfvy1192 (883 + 5) (by omega)).trans hgy1428
            have hgy1430 := (hfvy1195 (883 + 5) (by omega)).trans hgy1429
            have hgy1431 := (hfvy1198 (883 + 5) (by omega)).trans hgy1430
            have hgy1432 := (hfvy1354 (883 + 5) (by omega)).trans hgy1431
            have hgy1433 := up_n egy1413 hgy1432 (ne_o (i := 883) (c := 5) (d := 3) rfl)
            have hgy1434 := up_n egy1424 hgy1433 (ne_o (i := 883) (c := 5) (d := 4) rfl)
            refine z_iast C (by omega) hay10 hgy1434 ((hooy5).toNat) (by omega) (by omega) (by decide) dX7_readHour_144 (fun gy1435 egy1436 => ?_)
            have hgy1437 := up_s egy1436
            refine z_aload_n C 5 dX7_readHour_145 rfl ?_
            refine z_dup C dX7_readHour_146 rfl ?_
            have hgy1438 := up_n egy1436 hgy1426 (ne_o (i := 883) (c := 0) (d := 5) rfl)
            refine z_get (v := .int (zI (hooy5))) C (by omega) hay4 hgy1438 rfl inA_X5 1 (by decide) q_94 rfl rfl dX7_readHour_147 ?_
            refine z_iconst (z := 1) C dX7_readHour_150 rfl ?_
            refine z_iadd C dX7_readHour_151 ?_
            refine z_put (fs' := [.int (zI (sloy5)), .int (zI (hooy5 + 1)), .int (zI (uaoy5)), .ref (ad (883 + 1)), .ref (ad (883 + 2)), .ref (ad (883 + 3)), .ref (ad (883 + 4)), .ref (ad (883 + 5)), .ref (ad (883 + 6))]) C (by omega) hay4 hgy1438 tyX5 tyX5_ok nmX5 rfl inA_X5 1 (by decide) q_94 rfl rfl rfl rfl (Nat.le_of_ble_eq_true rfl) rfl dX7_readHour_152 (fun gy1439 egy1440 => ?_)
            have hgy1441 := up_s egy1440
            have hgy1443 := up_n egy1413 hcdy1355 (by omega)
            have hgy1444 := up_n egy1424 hgy1443 (by omega)
            have hgy1445 := up_n egy1436 hgy1444 (by omega)
            have hgy1446 := up_n egy1440 hgy1445 (by decide)
            have hgy1447 := up_n egy1413 hddy1355 (by omega)
            have hgy1448 := up_n egy1424 hgy1447 (by omega)
            have hgy1449 := up_n egy1436 hgy1448 (by omega)
            have hgy1450 := up_n egy1440 hgy1449 (by decide)
            have hruny1442 : okRun cs ad gy1439 (covy1354) tp := ⟨_, _, _, _, _, _, _, by omega, by omega, hgy1446, hgy1450⟩
            have hgy1451 := (hfvy783 (883 + 1) (by omega)).trans hpoy5.2.1
            have hgy1452 := (hfvy786 (883 + 1) (by omega)).trans hgy1451
            have hgy1453 := (hfvy1192 (883 + 1) (by omega)).trans hgy1452
            have hgy1454 := (hfvy1195 (883 + 1) (by omega)).trans hgy1453
            have hgy1455 := (hfvy1198 (883 + 1) (by omega)).trans hgy1454
            have hgy1456 := (hfvy1354 (883 + 1) (by omega)).trans hgy1455
            have hgy1457 := up_n egy1413 hgy1456 (ne_o (i := 883) (c := 1) (d := 3) rfl)
            have hgy1458 := up_n egy1424 hgy1457 (ne_o (i := 883) (c := 1) (d := 4) rfl)
            have hgy1459 := up_n egy1436 hgy1458 (ne_o (i := 883) (c := 1) (d := 5) rfl)
            have hgy1460 := up_n egy1440 hgy1459 (ne_o (i := 883) (c := 1) (d := 0) rfl)
            have hgy1461 := (hfvy783 (883 + 2) (by omega)).trans hpoy5.2.2.1
            have hgy1462 := (hfvy786 (883 + 2) (by omega)).trans hgy1461
            have hgy1463 := (hfvy1192 (883 + 2) (by omega)).trans hgy1462
            have hgy1464 := (hfvy1195 (883 + 2) (by omega)).trans hgy1463
            have hgy1465 := (hfvy1198 (883 + 2) (by omega)).trans hgy1464
            have hgy1466 := (hfvy1354 (883 + 2) (by omega)).trans hgy1465
            have hgy1467 := up_n egy1413 hgy1466 (ne_o (i := 883) (c := 2) (d := 3) rfl)
            have hgy1468 := up_n egy1424 hgy1467 (ne_o (i := 883) (c := 2) (d := 4) rfl)
            have hgy1469 := up_n egy1436 hgy1468 (ne_o (i := 883) (c := 2) (d := 5) rfl)
            have hgy1470 := up_n egy1440 hgy1469 (ne_o (i := 883) (c := 2) (d := 0) rfl)
            have hgy1471 := up_n egy1424 hgy1414 (ne_o (i := 883) (c := 3) (d := 4) rfl)
            have hgy1472 := up_n egy1436 hgy1471 (ne_o (i := 883) (c := 3) (d := 5) rfl)
            have hgy1473 := up_n egy1440 hgy1472 (ne_o (i := 883) (c := 3) (d := 0) rfl)
            have hgy1474 := up_n egy1436 hgy1425 (ne_o (i := 883) (c := 4) (d := 5) rfl)
            have hgy1475 := up_n egy1440 hgy1474 (ne_o (i := 883) (c := 4) (d := 0) rfl)
            have hgy1476 := up_n egy1440 hgy1437 (ne_o (i := 883) (c := 5) (d := 0) rfl)
            have hgy1477 := (hfvy783 (883 + 6) (by omega)).trans hpoy5.2.2.2.2.2.2
            have hgy1478 := (hfvy786 (883 + 6) (by omega)).trans hgy1477
            have hgy1479 := (hfvy1192 (883 + 6) (by omega)).trans hgy1478
            have hgy1480 := (hfvy1195 (883 + 6) (by omega)).trans hgy1479
            have hgy1481 := (hfvy1198 (883 + 6) (by omega)).trans hgy1480
            have hgy1482 := (hfvy1354 (883 + 6) (by omega)).trans hgy1481
            have hgy1483 := up_n egy1413 hgy1482 (ne_o (i := 883) (c := 6) (d := 3) rfl)
            have hgy1484 := up_n egy1424 hgy1483 (ne_o (i := 883) (c := 6) (d := 4) rfl)
            have hgy1485 := up_n egy1436 hgy1484 (ne_o (i := 883) (c := 6) (d := 5) rfl)
            have hgy1486 := up_n egy1440 hgy1485 (ne_o (i := 883) (c := 6) (d := 0) rfl)
            exact z_vret C hr hlk dX7_readHour_155 (by decide) (by decide) ⟨rfl, rfl, rfl, ⟨_, hruny1442, by omega⟩, ⟨_, _, _, _, _, _, _, _, _, by omega, by omega, ⟨hgy1441, hgy1460, hgy1470, hgy1473, hgy1475, hgy1476, hgy1486⟩⟩, fun j j1 j2 => by rw [egy1440, va_up_ne _ _ (by omega)]; rw [egy1436, va_up_ne _ _ (by omega)]; rw [egy1424, va_up_ne _ _ (by omega)]; rw [egy1413, va_up_ne _ _ (by omega)]; rw [hfvy1354 _ (by omega)]; rw [hfvy1198 _ (by omega)]; rw [hfvy1195 _ (by omega)]; rw [hfvy1192 _ (by omega)]; rw [hfvy786 _ (by omega)]; rw [hfvy783 _ (by omega)]⟩
        · refine z_aload_n C 3 dX7_readHour_80 rfl ?_
          refine z_iconst (z := 1) C dX7_readHour_81 rfl ?_
          refine z_bipush (z := 50) C dX7_readHour_82 (by decide) ?_
          have hruny1487 : okRun cs ad gvy1198 (covy1198) tp := ⟨_, _, _, _, _, _, _, by omega, by omega, hcdy1199, hddy1199⟩
          refine z_cV (As := [.int (zI (1)), .int (zI (50))]) (rest := []) (ci := 9) C (c_X7_number l D A cs tt N ad _ (by omega) _ tp hruny1487 (1) (by omega) (50) (by omega)) (by omega) hay2 hcdy1199 rfl rfl mv_yX7_number q_817 hd_yX7_number (by decide) (Nat.le_of_ble_eq_true rfl) (by decide) dX7_readHour_84 rfl (kI0 fun vy1488 gvy1488 hvy1488 => ?_)
          obtain ⟨hrvy1488, ⟨covy1488, hkvy1488, hnvy1488⟩, hfvy1488⟩ := hvy1488
          obtain ⟨pldy1489, endy1489, tydy1489, a9dy1489, bedy1489, tkdy1489, tddy1489, hAdy1489, hTdy1489, hcdy1489, hddy1489⟩ := id hkvy1488
          refine z_goto (tgt := 91) C dX7_readHour_87 (by decide) ?_
          refine z_istore (lv' := [(5, .int (zI (vy1488))), (4, .int (zI (vy1198))), (3, .int (zI (vy1195))), (2, .int (zI (1))), (0, .ref (ad 2)), (1, .ref (ad 883))]) C dX7_readHour_91 (by decide) rfl ?_
          refine z_aload_n C 4 dX7_readHour_93 rfl ?_
          have hruny1490 : okRun cs ad gvy1488 (covy1488) tp := ⟨_, _, _, _, _, _, _, by omega, by omega, hcdy1489, hddy1489⟩
          refine z_cV (As := []) (rest := []) (ci := 9) C (c_X7_close l D A cs tt N ad _ (by omega) _ tp hruny1490 ) (by omega) hay2 hcdy1489 rfl rfl mv_yX7_close q_821 hd_yX7_close (by decide) (Nat.le_of_ble_eq_true rfl) (by decide) dX7_readHour_94 rfl (kV0 fun gvy1491 hvy1491 => ?_)
          obtain ⟨⟨covy1491, hkvy1491, hnvy1491⟩, hfvy1491⟩ := hvy1491
          obtain ⟨pldy1492, endy1492, tydy1492, a9dy1492, bedy1492, tkdy1492, tddy1492, hAdy1492, hTdy1492, hcdy1492, hddy1492⟩ := id hkvy1491
          refine z_aload_n C 4 dX7_readHour_97 rfl ?_
          refine z_get (v := .int (zI (covy1491))) C (by omega) hay2 hcdy1492 rfl inA_X7 1 (by decide) q_45 rfl rfl dX7_readHour_98 ?_
          refine z_if_ne (tgt := 155) C dX7_readHour_101 (by decide) (by omega) (fun hby1493 => ?_) (fun hby1493 => ?_)
          · have hruny1494 : okRun cs ad gvy1491 (covy1491) tp := ⟨_, _, _, _, _, _, _, by omega, by omega, hcdy1492, hddy1492⟩
            have hgy1495 := (hfvy783 (883) (by decide)).trans hpoy5.1
            have hgy1496 := (hfvy786 (883) (by decide)).trans hgy1495
            have hgy1497 := (hfvy1192 (883) (by decide)).trans hgy1496
            have hgy1498 := (hfvy1195 (883) (by decide)).trans hgy1497
            have hgy1499 := (hfvy1198 (883) (by decide)).trans hgy1498
            have hgy1500 := (hfvy1488 (883) (by decide)).trans hgy1499
            have hgy1501 := (hfvy1491 (883) (by decide)).trans hgy1500
            have hgy1502 := (hfvy783 (883 + 1) (by omega)).trans hpoy5.2.1
            have hgy1503 := (hfvy786 (883 + 1) (by omega)).trans hgy1502
            have hgy1504 := (hfvy1192 (883 + 1) (by omega)).trans hgy1503
            have hgy1505 := (hfvy1195 (883 + 1) (by omega)).trans hgy1504
            have hgy1506 := (hfvy1198 (883 + 1) (by omega)).trans hgy1505
            have hgy1507 := (hfvy1488 (883 + 1) (by omega)).trans hgy1506
            have hgy1508 := (hfvy1491 (883 + 1) (by omega)).trans hgy1507
            have hgy1509 := (hfvy783 (883 + 2) (by omega)).trans hpoy5.2.2.1
            have hgy1510 := (hfvy786 (883 + 2) (by omega)).trans hgy1509
            have hgy1511 := (hfvy1192 (883 + 2) (by omega)).trans hgy1510
            have hgy1512 := (hfvy1195 (883 + 2) (by omega)).trans hgy1511
            have hgy1513 := (hfvy1198 (883 + 2) (by omega)).trans hgy1512
            have hgy1514 := (hfvy1488 (883 + 2) (by omega)).trans hgy1513
            have hgy1515 := (hfvy1491 (883 + 2) (by omega)).trans hgy1514
            have hgy1516 := (hfvy783 (883 + 3) (by omega)).trans hpoy5.2.2.2.1
            have hgy1517 := (hfvy786 (883 + 3) (by omega)).trans hgy1516
            have hgy1518 := (hfvy1192 (883 + 3) (by omega)).trans hgy1517
            have hgy1519 := (hfvy1195 (883 + 3) (by omega)).trans hgy1518
            have hgy1520 := (hfvy1198 (883 + 3) (by omega)).trans hgy1519
            have hgy1521 := (hfvy1488 (883 + 3) (by omega)).trans hgy1520
            have hgy1522 := (hfvy1491 (883 + 3) (by omega)).trans hgy1521
            have hgy1523 := (hfvy783 (883 + 4) (by omega)).trans hpoy5.2.2.2.2.1
            have hgy1524 := (hfvy786 (883 + 4) (by omega)).trans hgy1523
            have hgy1525 := (hfvy1192 (883 + 4) (by omega)).trans hgy1524
            have hgy1526 := (hfvy1195 (883 + 4) (by omega)).trans hgy1525
            have hgy1527 := (hfvy1198 (883 + 4) (by omega)).trans hgy1526
            have hgy1528 := (hfvy1488 (883 + 4) (by omega)).trans hgy1527
            have hgy1529 := (hfvy1491 (883 + 4) (by omega)).trans hgy1528
            have hgy1530 := (hfvy783 (883 + 5) (by omega)).trans hpoy5.2.2.2.2.2.1
            have hgy1531 := (hfvy786 (883 + 5) (by omega)).trans hgy1530
            have hgy1532 := (hfvy1192 (883 + 5) (by omega)).trans hgy1531
            have hgy1533 := (hfvy1195 (883 + 5) (by omega)).trans hgy1532
            have hgy1534 := (hfvy1198 (883 + 5) (by omega)).trans hgy1533
            have hgy1535 := (hfvy1488 (883 + 5) (by omega)).trans hgy1534
            have hgy1536 := (hfvy1491 (883 + 5) (by omega)).trans hgy1535
            have hgy1537 := (hfvy783 (883 + 6) (by omega)).trans hpoy5.2.2.2.2.2.2
            have hgy1538 := (hfvy786 (883 + 6) (by omega)).trans hgy1537
            have hgy1539 := (hfvy1192 (883 + 6) (by omega)).trans hgy1538
            have hgy1540 := (hfvy1195 (883 + 6) (by omega)).trans hgy1539
            have hgy1541 := (hfvy1198 (883 + 6) (by omega)).trans hgy1540
            have hgy1542 := (hfvy1488 (883 + 6) (by omega)).trans hgy1541
            have hgy1543 := (hfvy1491 (883 + 6) (by omega)).trans hgy1542
            exact z_vret C hr hlk dX7_readHour_155 (by decide) (by decide) ⟨rfl, rfl, rfl, ⟨_, hruny1494, by omega⟩, ⟨_, _, _, _, _, _, _, _, _, by omega, by omega, ⟨hgy1501, hgy1508, hgy1515, hgy1522, hgy1529, hgy1536, hgy1543⟩⟩, fun j j1 j2 => by rw [hfvy1491 _ (by omega)]; rw [hfvy1488 _ (by omega)]; rw [hfvy1198 _ (by omega)]; rw [hfvy1195 _ (by omega)]; rw [hfvy1192 _ (by omega)]; rw [hfvy786 _ (by omega)]; rw [hfvy783 _ (by omega)]⟩
          · refine z_aload_n C 5 dX7_readHour_104 rfl ?_
            have hgy1544 := (hfvy783 (883) (by decide)).trans hpoy5.1
            have hgy1545 := (hfvy786 (883) (by decide)).trans hgy1544
            have hgy1546 := (hfvy1192 (883) (by decide)).trans hgy1545
            have hgy1547 := (hfvy1195 (883) (by decide)).trans hgy1546
            have hgy1548 := (hfvy1198 (883) (by decide)).trans hgy1547
            have hgy1549 := (hfvy1488 (883) (by decide)).trans hgy1548
            have hgy1550 := (hfvy1491 (883) (by decide)).trans hgy1549
            refine z_get (v := .ref (ad (883 + 3))) C (by omega) hay4 hgy1550 rfl inA_X5 5 (by decide) q_106 rfl rfl dX7_readHour_105 ?_
            refine z_aload_n C 5 dX7_readHour_108 rfl ?_
            refine z_get (v := .int (zI (hooy5))) C (by omega) hay4 hgy1550 rfl inA_X5 1 (by decide) q_94 rfl rfl dX7_readHour_109 ?_
            refine z_iload_n C 3 dX7_readHour_112 rfl ?_
            refine z_if_eq (tgt := 121) C dX7_readHour_113 (by decide) (by omega) (fun h => absurd h (by omega)) (fun _ => ?_)
            refine z_iload_n C 2 dX7_readHour_116 rfl ?_
            refine z_ineg C dX7_readHour_117 ?_
            refine z_goto (tgt := 122) C dX7_readHour_118 (by decide) ?_
            have hgy1551 := (hfvy783 (883 + 3) (by omega)).trans hpoy5.2.2.2.1
            have hgy1552 := (hfvy786 (883 + 3) (by omega)).trans hgy1551
            have hgy1553 := (hfvy1192 (883 + 3) (by omega)).trans hgy1552
            have hgy1554 := (hfvy1195 (883 + 3) (by omega)).trans hgy1553
            have hgy1555 := (hfvy1198 (883 + 3) (by omega)).trans hgy1554
            have hgy1556 := (hfvy1488 (883 + 3) (by omega)).trans hgy1555
            have hgy1557 := (hfvy1491 (883 + 3) (by omega)).trans hgy1556
            refine z_iast C (by omega) hay8 hgy1557 ((hooy5).toNat) (by omega) (by omega) (by decide) dX7_readHour_122 (fun gy1558 egy1559 => ?_)
            have hgy1560 := up_s egy1559
            refine z_aload_n C 5 dX7_readHour_123 rfl ?_
            have hgy1561 := up_n egy1559 hgy1550 (ne_o (i := 883) (c := 0) (d := 3) rfl)
            refine z_get (v := .ref (ad (883 + 4))) C (by omega) hay4 hgy1561 rfl inA_X5 6 (by decide) q_109 rfl rfl dX7_readHour_124 ?_
            refine z_aload_n C 5 dX7_readHour_127 rfl ?_
            refine z_get (v := .int (zI (hooy5))) C (by omega) hay4 hgy1561 rfl inA_X5 1 (by decide) q_94 rfl rfl dX7_readHour_128 ?_
            refine z_iload C 1 dX7_readHour_131 rfl ?_
            have hgy1562 := (hfvy783 (883 + 4) (by omega)).trans hpoy5.2.2.2.2.1
            have hgy1563 := (hfvy786 (883 + 4) (by omega)).trans hgy1562
            have hgy1564 := (hfvy1192 (883 + 4) (by omega)).trans hgy1563
            have hgy1565 := (hfvy1195 (883 + 4) (by omega)).trans hgy1564
            have hgy1566 := (hfvy1198 (883 + 4) (by omega)).trans hgy1565
            have hgy1567 := (hfvy1488 (883 + 4) (by omega)).trans hgy1566
            have hgy1568 := (hfvy1491 (883 + 4) (by omega)).trans hgy1567
            have hgy1569 := up_n egy1559 hgy1568 (ne_o (i := 883) (c := 4) (d := 3) rfl)
            refine z_iast C (by omega) hay9 hgy1569 ((hooy5).toNat) (by omega) (by omega) (by decide) dX7_readHour_133 (fun gy1570 egy1571 => ?_)
            have hgy1572 := up_s egy1571
            refine z_aload_n C 5 dX7_readHour_134 rfl ?_
            have hgy1573 := up_n egy1571 hgy1561 (ne_o (i := 883) (c := 0) (d := 4) rfl)
            refine z_get (v := .ref (ad (883 + 5))) C (by omega) hay4 hgy1573 rfl inA_X5 7 (by decide) q_112 rfl rfl dX7_readHour_135 ?_
            refine z_aload_n C 5 dX7_readHour_138 rfl ?_
            refine z_get (v := .int (zI (hooy5))) C (by omega) hay4 hgy1573 rfl inA_X5 1 (by decide) q_94 rfl rfl dX7_readHour_139 ?_
            refine z_iload C 0 dX7_readHour_142 rfl ?_
            have hgy1574 := (hfvy783 (883 + 5) (by omega)).trans hpoy5.2.2.2.2.2.1
            have hgy1575 := (hfvy786 (883 + 5) (by omega)).trans hgy1574
            have hgy1576 := (hfvy1192 (883 + 5) (by omega)).trans hgy1575
            have hgy1577 := (hfvy1195 (883 + 5) (by omega)).trans hgy1576
            have hgy1578 := (hfvy1198 (883 + 5) (by omega)).trans hgy1577
            have hgy1579 := (hfvy1488 (883 + 5) (by omega)).trans hgy1578
            have hgy1580 := (hfvy1491 (883 + 5) (by omega)).trans hgy1579
            have hgy1581 := up_n egy1559 hgy1580 (ne_o (i := 883) (c := 5) (d := 3) rfl)
            have hgy1582 := up_n egy1571 hgy1581 (ne_o (i := 883) (c := 5) (d := 4) rfl)
            refine z_iast C (by omega) hay10 hgy1582 ((hooy5).toNat) (by omega) (by omega) (by decide) dX7_readHour_144 (fun gy1583 egy1584 => ?_)
            have hgy1585 := up_s egy1584
            refine z_aload_n C 5 dX7_readHour_145 rfl ?_
            refine z_dup C dX7_readHour_146 rfl ?_
            have hgy1586 := up_n egy1584 hgy1573 (ne_o (i := 883) (c := 0) (d := 5) rfl)
            refine z_get (v := .int (zI (hooy5))) C (by omega) hay4 hgy1586 rfl inA_X5 1 (by decide) q_94 rfl rfl dX7_readHour_147 ?_
            refine z_iconst (z := 1) C dX7_readHour_150 rfl ?_
            refine z_iadd C dX7_readHour_151 ?_
            refine z_put (fs' := [.int (zI (sloy5)), .int (zI (hooy5 + 1)), .int (zI (uaoy5)), .ref (ad (883 + 1)), .ref (ad (883 + 2)), .ref (ad (883 + 3)), .ref (ad (883 + 4)), .ref (ad (883 + 5)), .ref (ad (883 + 6))]) C (by omega) hay4 hgy1586 tyX5 tyX5_ok nmX5 rfl inA_X5 1 (by decide) q_94 rfl rfl rfl rfl (Nat.le_of_ble_eq_true rfl) rfl dX7_readHour_152 (fun gy1587 egy1588 => ?_)
            have hgy1589 := up_s egy1588
            have hgy1591 := up_n egy1559 hcdy1492 (by omega)
            have hgy1592 := up_n egy1571 hgy1591 (by omega)
            have hgy1593 := up_n egy1584 hgy1592 (by omega)
            have hgy1594 := up_n egy1588 hgy1593 (by decide)
            have hgy1595 := up_n egy1559 hddy1492 (by omega)
            have hgy1596 := up_n egy1571 hgy1595 (by omega)
            have hgy1597 := up_n egy1584 hgy1596 (by omega)
            have hgy1598 := up_n egy1588 hgy1597 (by decide)
            have hruny1590 : okRun cs ad gy1587 (covy1491) tp := ⟨_, _, _, _, _, _, _, by omega, by omega, hgy1594, hgy1598⟩
            have hgy1599 := (hfvy783 (883 + 1) (by omega)).trans hpoy5.2.1
            have hgy1600 := (hfvy786 (883 + 1) (by omega)).trans hgy1599
            have hgy1601 := (hfvy1192 (883 + 1) (by omega)).trans hgy1600
            have hgy1602 := (hfvy1195 (883 + 1) (by omega)).trans hgy1601
            have hgy1603 := (hfvy1198 (883 + 1) (by omega)).trans hgy1602
            have hgy1604 := (hfvy1488 (883 + 1) (by omega)).trans hgy1603
            have hgy1605 := (hfvy1491 (883 + 1) (by omega)).trans hgy1604
            have hgy1606 := up_n egy1559 hgy1605 (ne_o (i := 883) (c := 1) (d := 3) rfl)
            have hgy1607 := up_n egy1571 hgy1606 (ne_o (i := 883) (c := 1) (d := 4) rfl)
            have hgy1608 := up_n egy1584 hgy1607 (ne_o (i := 883) (c := 1) (d := 5) rfl)
            have hgy1609 := up_n egy1588 hgy1608 (ne_o (i := 883) (c := 1) (d := 0) rfl)
            have hgy1610 := (hfvy783 (883 + 2) (by omega)).trans hpoy5.2.2.1
            have hgy1611 := (hfvy786 (883 + 2) (by omega)).trans hgy1610
            have hgy1612 := (hfvy1192 (883 + 2) (by omega)).trans hgy1611
            have hgy1613 := (hfvy1195 (883 + 2) (by omega)).trans hgy1612
            have hgy1614 := (hfvy1198 (883 + 2) (by omega)).trans hgy1613
            have hgy1615 := (hfvy1488 (883 + 2) (by omega)).trans hgy1614
            have hgy1616 := (hfvy1491 (883 + 2) (by omega)).trans hgy1615
            have hgy1617 := up_n egy1559 hgy1616 (ne_o (i := 883) (c := 2) (d := 3) rfl)
            have hgy1618 := up_n egy1571 hgy1617 (ne_o (i := 883) (c := 2) (d := 4) rfl)
            have hgy1619 := up_n egy1584 hgy1618 (ne_o (i := 883) (c := 2) (d := 5) rfl)
            have hgy1620 := up_n egy1588 hgy1619 (ne_o (i := 883) (c := 2) (d := 0) rfl)
            have hgy1621 := up_n egy1571 hgy1560 (ne_o (i := 883) (c := 3) (d := 4) rfl)
            have hgy1622 := up_n egy1584 hgy1621 (ne_o (i := 883) (c := 3) (d := 5) rfl)
            have hgy1623 := up_n egy1588 hgy1622 (ne_o (i := 883) (c := 3) (d := 0) rfl)
            have hgy1624 := up_n egy1584 hgy1572 (ne_o (i := 883) (c := 4) (d := 5) rfl)
            have hgy1625 := up_n egy1588 hgy1624 (ne_o (i := 883) (c := 4) (d := 0) rfl)
            have hgy1626 := up_n egy1588 hgy1585 (ne_o (i := 883) (c := 5) (d := 0) rfl)
            have hgy1627 := (hfvy783 (883 + 6) (by omega)).trans hpoy5.2.2.2.2.2.2
            have hgy1628 := (hfvy786 (883 + 6) (by omega)).trans hgy1627
            have hgy1629 := (hfvy1192 (883 + 6) (by omega)).trans hgy1628
            have hgy1630 := (hfvy1195 (883 + 6) (by omega)).trans hgy1629
            have hgy1631 := (hfvy1198 (883 + 6) (by omega)).trans hgy1630
            have hgy1632 := (hfvy1488 (883 + 6) (by omega)).trans hgy1631
            have hgy1633 := (hfvy1491 (883 + 6) (by omega)).trans hgy1632
            have hgy1634 := up_n egy1559 hgy1633 (ne_o (i := 883) (c := 6) (d := 3) rfl)
            have hgy1635 := up_n egy1571 hgy1634 (ne_o (i := 883) (c := 6) (d := 4) rfl)
            have hgy1636 := up_n egy1584 hgy1635 (ne_o (i := 883) (c := 6) (d := 5) rfl)
            have hgy1637 := up_n egy1588 hgy1636 (ne_o (i := 883) (c := 6) (d := 0) rfl)
            exact z_vret C hr hlk dX7_readHour_155 (by decide) (by decide) ⟨rfl, rfl, rfl, ⟨_, hruny1590, by omega⟩, ⟨_, _, _, _, _, _, _, _, _, by omega, by omega, ⟨hgy1589, hgy1609, hgy1620, hgy1623, hgy1625, hgy1626, hgy1637⟩⟩, fun j j1 j2 => by rw [egy1588, va_up_ne _ _ (by omega)]; rw [egy1584, va_up_ne _ _ (by omega)]; rw [egy1571, va_up_ne _ _ (by omega)]; rw [egy1559, va_up_ne _ _ (by omega)]; rw [hfvy1491 _ (by omega)]; rw [hfvy1488 _ (by omega)]; rw [hfvy1198 _ (by omega)]; rw [hfvy1195 _ (by omega)]; rw [hfvy1192 _ (by omega)]; rw [hfvy786 _ (by omega)]; rw [hfvy783 _ (by omega)]⟩

set_option maxRecDepth 100000 in
set_option maxHeartbeats 4000000 in
theorem c_X7_readTable (l : Launch) (D : va_G) (A : Nat → Prop) (cs : Nat → ClassId) (tt : Nat) (N : Nat) (ad : Nat → Nat) (g : Nat → va_E) (hN : 952 ≤ N) (co : Int) (tp : Nat → Int) (hR : okRun cs ad g co tp) (hP9 : okPlan cs ad g 883) (z : Int) (hz : 0 ≤ z ∧ z ≤ 10) (z1 : Int) (hz1 : 0 ≤ z1 ∧ z1 ≤ 1) (z2 : Int) (hz2 : 0 ≤ z2 ∧ z2 ≤ 9999) : zM l yX7_readTable cX7_readTable 7 none ({ frames := 7, cells := 0, slots := 0, locals := 420 } : Room) D A cs tt N ad g [.ref (ad 2), .ref (ad 883), .int (zI (z)), .int (zI (z1)), .int (zI (z2))] (rV0 N ad fun g' => (∃ co' : Int, okRun cs ad g' co' tp ∧ co ≤ co') ∧ okPlan cs ad g' 883 ∧ ∀ j, j ≠ 2 → (j < 883 ∨ 890 ≤ j) → g' j = g j) := by
  obtain ⟨pldy1, endy1, tydy1, a9dy1, bedy1, tkdy1, tddy1, hAdy1, hTdy1, hcdy1, hddy1⟩ := id hR
  have hay2 : zAt ad (2) (ad 2) := rfl
  have hay3 : zAt ad (1) (ad 1) := rfl
  have hay4 : zAt ad (883) (ad 883) := rfl
  obtain ⟨sloy5, hooy5, uaoy5, stoy5, opoy5, aioy5, faoy5, muoy5, tboy5, hsloy5, hhooy5, hpoy5⟩ := id hP9
  have hay6 : zAt ad (883 + 1) (ad (883 + 1)) := rfl
  have hay7 : zAt ad (883 + 2) (ad (883 + 2)) := rfl
  have hay8 : zAt ad (883 + 3) (ad (883 + 3)) := rfl
  have hay9 : zAt ad (883 + 4) (ad (883 + 4)) := rfl
  have hay10 : zAt ad (883 + 5) (ad (883 + 5)) := rfl
  have hay11 : zAt ad (883 + 6) (ad (883 + 6)) := rfl
  refine z_of (by decide) (Nat.le_of_ble_eq_true rfl) ?_
  intro p e s m below meth c C hr hlk hnm
  refine z_lv (lv' := [(0, .ref (ad 2)), (1, .ref (ad 883)), (2, .int (zI (z))), (3, .int (zI (z1))), (4, .int (zI (z2)))]) [0, 1, 2, 3, 4] rfl ?_
  refine z_aload_n C 0 dX7_readTable_0 rfl ?_
  have hruny12 : okRun cs ad g (co) tp := ⟨_, _, _, _, _, _, _, by omega, by omega, hcdy1, hddy1⟩
  refine z_cV (As := []) (rest := []) (ci := 9) C (c_X7_take l D A cs tt N ad _ (by omega) _ tp hruny12) (by omega) hay2 hcdy1 rfl rfl mv_yX7_take q_813 hd_yX7_take (by decide) (Nat.le_of_ble_eq_true rfl) (by decide) dX7_readTable_1 rfl (kV0 fun gvy13 hvy13 => ?_)
  obtain ⟨hkvy13, hfvy13⟩ := hvy13
  obtain ⟨pldy14, endy14, tydy14, a9dy14, bedy14, tkdy14, tddy14, hAdy14, hTdy14, hcdy14, hddy14⟩ := id hkvy13
  refine z_iload_n C 2 dX7_readTable_4 rfl ?_
  refine z_aload_n C 0 dX7_readTable_5 rfl ?_
  have hruny15 : okRun cs ad gvy13 (co) tp := ⟨_, _, _, _, _, _, _, by omega, by omega, hcdy14, hddy14⟩
  refine z_cV (As := []) (rest := [.int (zI (z))]) (ci := 9) C (c_X7_kind l D A cs tt N ad _ (by omega) _ tp hruny15 ) (by omega) hay2 hcdy14 rfl rfl mv_yX7_kind q_830 hd_yX7_kind (by decide) (Nat.le_of_ble_eq_true rfl) (by decide) dX7_readTable_6 rfl (kI0 fun vy16 gvy16 hvy16 => ?_)
  obtain ⟨hrvy16, ⟨covy16, hkvy16, hnvy16⟩, hfvy16⟩ := hvy16
  obtain ⟨pldy17, endy17, tydy17, a9dy17, bedy17, tkdy17, tddy17, hAdy17, hTdy17, hcdy17, hddy17⟩ := id hkvy16
  refine z_iadd C dX7_readTable_9 ?_
  refine z_istore (lv' := [(5, .int (zI (z + vy16))), (0, .ref (ad 2)), (1, .ref (ad 883)), (2, .int (zI (z))), (3, .int (zI (z1))), (4, .int (zI (z2)))]) C dX7_readTable_10 (by decide) rfl ?_
  refine z_aload_n C 1 dX7_readTable_12 rfl ?_
  refine z_get (v := .int (zI (tddy17))) C (by omega) hay2 hcdy17 rfl inA_X7 8 (by decide) q_52 rfl rfl dX7_readTable_13 ?_
  refine z_iload C 0 dX7_readTable_16 rfl ?_
  obtain ⟨xy18, exy19, hxy20⟩ := zI_of (zI (tddy17) >>> (zI (z + vy16) &&& 31))
  refine z_ishr (z := xy18) C dX7_readTable_18 exy19 ?_
  refine z_iconst (z := 1) C dX7_readTable_19 rfl ?_
  obtain ⟨xy21, exy22, hxy23⟩ := zI_and (zI (xy18)) (m := zI 1) 1 (by decide)
  refine z_iand (z := xy21) C dX7_readTable_20 exy22 ?_
  refine z_iconst (z := 1) C dX7_readTable_21 rfl ?_
  refine z_icmp_ne (tgt := 34) C dX7_readTable_22 (by decide) (by omega) (by omega) (fun hby24 => ?_) (fun hby24 => ?_)
  · refine z_aload_n C 1 dX7_readTable_34 rfl ?_
    refine z_iload_n C 4 dX7_readTable_35 rfl ?_
    refine z_iload C 5 dX7_readTable_36 rfl ?_
    have hruny25 : okRun cs ad gvy16 (covy16) tp := ⟨_, _, _, _, _, _, _, by omega, by omega, hcdy17, hddy17⟩
    refine z_cV (As := [.int (zI (z1)), .int (zI (z2))]) (rest := []) (ci := 9) C (c_X7_number l D A cs tt N ad _ (by omega) _ tp hruny25 (z1) (by omega) (z2) (by omega)) (by omega) hay2 hcdy17 rfl rfl mv_yX7_number q_817 hd_yX7_number (by decide) (Nat.le_of_ble_eq_true rfl) (by decide) dX7_readTable_38 rfl (kI0 fun vy26 gvy26 hvy26 => ?_)
    obtain ⟨hrvy26, ⟨covy26, hkvy26, hnvy26⟩, hfvy26⟩ := hvy26
    obtain ⟨pldy27, endy27, tydy27, a9dy27, bedy27, tkdy27, tddy27, hAdy27, hTdy27, hcdy27, hddy27⟩ := id hkvy26
    refine z_istore (lv' := [(6, .int (zI (vy26))), (5, .int (zI (z + vy16))), (0, .ref (ad 2)), (1, .ref (ad 883)), (2, .int (zI (z))), (3, .int (zI (z1))), (4, .int (zI (z2)))]) C dX7_readTable_41 (by decide) rfl ?_
    refine z_aload_n C 2 dX7_readTable_43 rfl ?_
    have hruny28 : okRun cs ad gvy26 (covy26) tp := ⟨_, _, _, _, _, _, _, by omega, by omega, hcdy27, hddy27⟩
    refine z_cV (As := []) (rest := []) (ci := 9) C (c_X7_close l D A cs tt N ad _ (by omega) _ tp hruny28 ) (by omega) hay2 hcdy27 rfl rfl mv_yX7_close q_821 hd_yX7_close (by decide) (Nat.le_of_ble_eq_true rfl) (by decide) dX7_readTable_44 rfl (kV0 fun gvy29 hvy29 => ?_)
    obtain ⟨⟨covy29, hkvy29, hnvy29⟩, hfvy29⟩ := hvy29
    obtain ⟨pldy30, endy30, tydy30, a9dy30, bedy30, tkdy30, tddy30, hAdy30, hTdy30, hcdy30, hddy30⟩ := id hkvy29
    refine z_aload_n C 2 dX7_readTable_47 rfl ?_
    refine z_get (v := .int (zI (covy29))) C (by omega) hay2 hcdy30 rfl inA_X7 1 (by decide) q_45 rfl rfl dX7_readTable_48 ?_
    refine z_if_ne (tgt := 76) C dX7_readTable_51 (by decide) (by omega) (fun hby31 => ?_) (fun hby31 => ?_)
    · have hruny32 : okRun cs ad gvy29 (covy29) tp := ⟨_, _, _, _, _, _, _, by omega, by omega, hcdy30, hddy30⟩
      have hgy33 := (hfvy13 (883) (by decide)).trans hpoy5.1
      have hgy34 := (hfvy16 (883) (by decide)).trans hgy33
      have hgy35 := (hfvy26 (883) (by decide)).trans hgy34
      have hgy36 := (hfvy29 (883) (by decide)).trans hgy35
      have hgy37 := (hfvy13 (883 + 1) (by omega)).trans hpoy5.2.1
      have hgy38 := (hfvy16 (883 + 1) (by omega)).trans hgy37
      have hgy39 := (hfvy26 (883 + 1) (by omega)).trans hgy38
      have hgy40 := (hfvy29 (883 + 1) (by omega)).trans hgy39
      have hgy41 := (hfvy13 (883 + 2) (by omega)).trans hpoy5.2.2.1
      have hgy42 := (hfvy16 (883 + 2) (by omega)).trans hgy41
      have hgy43 := (hfvy26 (883 + 2) (by omega)).trans hgy42
      have hgy44 := (hfvy29 (883 + 2) (by omega)).trans hgy43
      have hgy45 := (hfvy13 (883 + 3) (by omega)).trans hpoy5.2.2.2.1
      have hgy46 := (hfvy16 (883 + 3) (by omega)).trans hgy45
      have hgy47 := (hfvy26 (883 + 3) (by omega)).trans hgy46
      have hgy48 := (hfvy29 (883 + 3) (by omega)).trans hgy47
      have hgy49 := (hfvy13 (883 + 4) (by omega)).trans hpoy5.2.2.2.2.1
      have hgy50 := (hfvy16 (883 + 4) (by omega)).trans hgy49
      have hgy51 := (hfvy26 (883 + 4) (by omega)).trans hgy50
      have hgy52 := (hfvy29 (883 + 4) (by omega)).trans hgy51
      have hgy53 := (hfvy13 (883 + 5) (by omega)).trans hpoy5.2.2.2.2.2.1
      have hgy54 := (hfvy16 (883 + 5) (by omega)).trans hgy53
      have hgy55 := (hfvy26 (883 + 5) (by omega)).trans hgy54
      have hgy56 := (hfvy29 (883 + 5) (by omega)).trans hgy55
      have hgy57 := (hfvy13 (883 + 6) (by omega)).trans hpoy5.2.2.2.2.2.2
      have hgy58 := (hfvy16 (883 + 6) (by omega)).trans hgy57
      have hgy59 := (hfvy26 (883 + 6) (by omega)).trans hgy58
      have hgy60 := (hfvy29 (883 + 6) (by omega)).trans hgy59
      exact z_vret C hr hlk dX7_readTable_76 (by decide) (by decide) ⟨rfl, rfl, rfl, ⟨_, hruny32, by omega⟩, ⟨_, _, _, _, _, _, _, _, _, by omega, by omega, ⟨hgy36, hgy40, hgy44, hgy48, hgy52, hgy56, hgy60⟩⟩, fun j j1 j2 => by rw [hfvy29 _ (by omega)]; rw [hfvy26 _ (by omega)]; rw [hfvy16 _ (by omega)]; rw [hfvy13 _ (by omega)]⟩
    · refine z_aload_n C 2 dX7_readTable_54 rfl ?_
      refine z_dup C dX7_readTable_55 rfl ?_
      refine z_get (v := .int (zI (tddy30))) C (by omega) hay2 hcdy30 rfl inA_X7 8 (by decide) q_52 rfl rfl dX7_readTable_56 ?_
      refine z_iconst (z := 1) C dX7_readTable_59 rfl ?_
      refine z_iload C 1 dX7_readTable_60 rfl ?_
      obtain ⟨xy61, exy62, hxy63⟩ := zI_of (zI (1) <<< (zI (z + vy16) &&& 31))
      refine z_ishl (z := xy61) C dX7_readTable_62 exy62 ?_
      obtain ⟨xy64, exy65, hxy66⟩ := zI_of (zI (tddy30) ||| zI (xy61))
      refine z_ior (z := xy64) C dX7_readTable_63 exy65 ?_
      refine z_put (fs' := [.int (zI (pldy30)), .int (zI (covy29)), .ref (ad 1), .int (zI (endy30)), .int (zI (tydy30)), .int (zI (a9dy30)), .int (zI (bedy30)), .int (zI (tkdy30)), .int (zI (xy64))]) C (by omega) hay2 hcdy30 tyX7 tyX7_ok nmX7 rfl inA_X7 8 (by decide) q_52 rfl rfl rfl rfl (Nat.le_of_ble_eq_true rfl) rfl dX7_readTable_64 (fun gy67 egy68 => ?_)
      have hgy69 := up_s egy68
      refine z_aload_n C 3 dX7_readTable_67 rfl ?_
      have hgy70 := (hfvy13 (883) (by decide)).trans hpoy5.1
      have hgy71 := (hfvy16 (883) (by decide)).trans hgy70
      have hgy72 := (hfvy26 (883) (by decide)).trans hgy71
      have hgy73 := (hfvy29 (883) (by decide)).trans hgy72
      have hgy74 := up_n egy68 hgy73 (by decide)
      refine z_get (v := .ref (ad (883 + 6))) C (by omega) hay4 hgy74 rfl inA_X5 8 (by decide) q_114 rfl rfl dX7_readTable_68 ?_
      refine z_iload C 1 dX7_readTable_71 rfl ?_
      refine z_iload C 0 dX7_readTable_73 rfl ?_
      have hgy75 := (hfvy13 (883 + 6) (by omega)).trans hpoy5.2.2.2.2.2.2
      have hgy76 := (hfvy16 (883 + 6) (by omega)).trans hgy75
      have hgy77 := (hfvy26 (883 + 6) (by omega)).trans hgy76
      have hgy78 := (hfvy29 (883 + 6) (by omega)).trans hgy77
      have hgy79 := up_n egy68 hgy78 (by omega)
      refine z_iast C (by omega) hay11 hgy79 ((z + vy16).toNat) (by omega) (by omega) (by decide) dX7_readTable_75 (fun gy80 egy81 => ?_)
      have hgy82 := up_s egy81
      have hgy84 := up_n egy81 hgy69 (by omega)
      have hgy85 := up_n egy68 hddy30 (by decide)
      have hgy86 := up_n egy81 hgy85 (by omega)
      have hruny83 : okRun cs ad gy80 (covy29) tp := ⟨_, _, _, _, _, _, _, by omega, by omega, hgy84, hgy86⟩
      have hgy87 := up_n egy81 hgy74 (ne_o (i := 883) (c := 0) (d := 6) rfl)
      have hgy88 := (hfvy13 (883 + 1) (by omega)).trans hpoy5.2.1
      have hgy89 := (hfvy16 (883 + 1) (by omega)).trans hgy88
      have hgy90 := (hfvy26 (883 + 1) (by omega)).trans hgy89
      have hgy91 := (hfvy29 (883 + 1) (by omega)).trans hgy90
      have hgy92 := up_n egy68 hgy91 (by omega)
      have hgy93 := up_n egy81 hgy92 (ne_o (i := 883) (c := 1) (d := 6) rfl)
      have hgy94 := (hfvy13 (883 + 2) (by omega)).trans hpoy5.2.2.1
      have hgy95 := (hfvy16 (883 + 2) (by omega)).trans hgy94
      have hgy96 := (hfvy26 (883 + 2) (by omega)).trans hgy95
      have hgy97 := (hfvy29 (883 + 2) (by omega)).trans hgy96
      have hgy98 := up_n egy68 hgy97 (by omega)
      have hgy99 := up_n egy81 hgy98 (ne_o (i := 883) (c := 2) (d := 6) rfl)
      have hgy100 := (hfvy13 (883 + 3) (by omega)).trans hpoy5.2.2.2.1
      have hgy101 := (hfvy16 (883 + 3) (by omega)).trans hgy100
      have hgy102 := (hfvy26 (883 + 3) (by omega)).trans hgy101
      have hgy103 := (hfvy29 (883 + 3) (by omega)).trans hgy102
      have hgy104 := up_n egy68 hgy103 (by omega)
      have hgy105 := up_n egy81 hgy104 (ne_o (i := 883) (c := 3) (d := 6) rfl)
      have hgy106 := (hfvy13 (883 + 4) (by omega)).trans hpoy5.2.2.2.2.1
      have hgy107 := (hfvy16 (883 + 4) (by omega)).trans hgy106
      have hgy108 := (hfvy26 (883 + 4) (by omega)).trans hgy107
      have hgy109 := (hfvy29 (883 + 4) (by omega)).trans hgy108
      have hgy110 := up_n egy68 hgy109 (by omega)
      have hgy111 := up_n egy81 hgy110 (ne_o (i := 883) (c := 4) (d := 6) rfl)
      have hgy112 := (hfvy13 (883 + 5) (by omega)).trans hpoy5.2.2.2.2.2.1
      have hgy113 := (hfvy16 (883 + 5) (by omega)).trans hgy112
      have hgy114 := (hfvy26 (883 + 5) (by omega)).trans hgy113
      have hgy115 := (hfvy29 (883 + 5) (by omega)).trans hgy114
      have hgy116 := up_n egy68 hgy115 (by omega)
      have hgy117 := up_n egy81 hgy116 (ne_o (i := 883) (c := 5) (d := 6) rfl)
      exact z_vret C hr hlk dX7_readTable_76 (by decide) (by decide) ⟨rfl, rfl, rfl, ⟨_, hruny83, by omega⟩, ⟨_, _, _, _, _, _, _, _, _, by omega, by omega, ⟨hgy87, hgy93, hgy99, hgy105, hgy111, hgy117, hgy82⟩⟩, fun j j1 j2 => by rw [egy81, va_up_ne _ _ (by omega)]; rw [egy68, va_up_ne _ _ (by omega)]; rw [hfvy29 _ (by omega)]; rw [hfvy26 _ (by omega)]; rw [hfvy16 _ (by omega)]; rw [hfvy13 _ (by omega)]⟩
  · refine z_aload_n C 1 dX7_readTable_25 rfl ?_
    refine z_iconst (z := 4) C dX7_readTable_26 rfl ?_
    refine z_aload_n C 1 dX7_readTable_27 rfl ?_
    refine z_get (v := .int (zI (tkdy17))) C (by omega) hay2 hcdy17 rfl inA_X7 7 (by decide) q_51 rfl rfl dX7_readTable_28 ?_
    obtain ⟨xy118, exy119, hxy120⟩ := zI_of (zI (tkdy17))
    rw [exy119]
    have hruny121 : okRun cs ad gvy16 (covy16) tp := ⟨_, _, _, _, _, _, _, by omega, by omega, hcdy17, hddy17⟩
    refine z_cV (As := [.int (zI (4)), .int (zI (xy118))]) (rest := []) (ci := 9) C (c_X7_fail l D A cs tt N ad _ (by omega) _ tp hruny121 (4) (by omega) (xy118) (by omega)) (by omega) hay2 hcdy17 rfl rfl mv_yX7_fail q_809 hd_yX7_fail (by decide) (Nat.le_of_ble_eq_true rfl) (by decide) dX7_readTable_31 rfl (kV0 fun gvy122 hvy122 => ?_)
    obtain ⟨⟨covy122, hkvy122, hnvy122⟩, hfvy122⟩ := hvy122
    obtain ⟨pldy123, endy123, tydy123, a9dy123, bedy123, tkdy123, tddy123, hAdy123, hTdy123, hcdy123, hddy123⟩ := id hkvy122
    refine z_aload_n C 1 dX7_readTable_34 rfl ?_
    refine z_iload_n C 4 dX7_readTable_35 rfl ?_
    refine z_iload C 5 dX7_readTable_36 rfl ?_
    have hruny124 : okRun cs ad gvy122 (covy122) tp := ⟨_, _, _, _, _, _, _, by omega, by omega, hcdy123, hddy123⟩
    refine z_cV (As := [.int (zI (z1)), .int (zI (z2))]) (rest := []) (ci := 9) C (c_X7_number l D A cs tt N ad _ (by omega) _ tp hruny124 (z1) (by omega) (z2) (by omega)) (by omega) hay2 hcdy123 rfl rfl mv_yX7_number q_817 hd_yX7_number (by decide) (Nat.le_of_ble_eq_true rfl) (by decide) dX7_readTable_38 rfl (kI0 fun vy125 gvy125 hvy125 => ?_)
    obtain ⟨hrvy125, ⟨covy125, hkvy125, hnvy125⟩, hfvy125⟩ := hvy125
    obtain ⟨pldy126, endy126, tydy126, a9dy126, bedy126, tkdy126, tddy126, hAdy126, hTdy126, hcdy126, hddy126⟩ := id hkvy125
    refine z_istore (lv' := [(6, .int (zI (vy125))), (5, .int (zI (z + vy16))), (0, .ref (ad 2)), (1, .ref (ad 883)), (2, .int (zI (z))), (3, .int (zI (z1))), (4, .int (zI (z2)))]) C dX7_readTable_41 (by decide) rfl ?_
    refine z_aload_n C 2 dX7_readTable_43 rfl ?_
    have hruny127 : okRun cs ad gvy125 (covy125) tp := ⟨_, _, _, _, _, _, _, by omega, by omega, hcdy126, hddy126⟩
    refine z_cV (As := []) (rest := []) (ci := 9) C (c_X7_close l D A cs tt N ad _ (by omega) _ tp hruny127 ) (by omega) hay2 hcdy126 rfl rfl mv_yX7_close q_821 hd_yX7_close (by decide) (Nat.le_of_ble_eq_true rfl) (by decide) dX7_readTable_44 rfl (kV0 fun gvy128 hvy128 => ?_)
    obtain ⟨⟨covy128, hkvy128, hnvy128⟩, hfvy128⟩ := hvy128
    obtain ⟨pldy129, endy129, tydy129, a9dy129, bedy129, tkdy129, tddy129, hAdy129, hTdy129, hcdy129, hddy129⟩ := id hkvy128
    refine z_aload_n C 2 dX7_readTable_47 rfl ?_
    refine z_get (v := .int (zI (covy128))) C (by omega) hay2 hcdy129 rfl inA_X7 1 (by decide) q_45 rfl rfl dX7_readTable_48 ?_
    refine z_if_ne (tgt := 76) C dX7_readTable_51 (by decide) (by omega) (fun hby130 => ?_) (fun hby130 => ?_)
    · have hruny131 : okRun cs ad gvy128 (covy128) tp := ⟨_, _, _, _, _, _, _, by omega, by omega, hcdy129, hddy129⟩
      have hgy132 := (hfvy13 (883) (by decide)).trans hpoy5.1
      have hgy133 := (hfvy16 (883) (by decide)).trans hgy132
      have hgy134 := (hfvy122 (883) (by decide)).trans hgy133
      have hgy135 := (hfvy125 (883) (by decide)).trans hgy134
      have hgy136 := (hfvy128 (883) (by decide)).trans hgy135
      have hgy137 := (hfvy13 (883 + 1) (by omega)).trans hpoy5.2.1
      have hgy138 := (hfvy16 (883 + 1) (by omega)).trans hgy137
      have hgy139 := (hfvy122 (883 + 1) (by omega)).trans hgy138
      have hgy140 := (hfvy125 (883 + 1) (by omega)).trans hgy139
      have hgy141 := (hfvy128 (883 + 1) (by omega)).trans hgy140
      have hgy142 := (hfvy13 (883 + 2) (by omega)).trans hpoy5.2.2.1
      have hgy143 := (hfvy16 (883 + 2) (by omega)).trans hgy142
      have hgy144 := (hfvy122 (883 + 2) (by omega)).trans hgy143
      have hgy145 := (hfvy125 (883 + 2) (by omega)).trans hgy144
      have hgy146 := (hfvy128 (883 + 2) (by omega)).trans hgy145
      have hgy147 := (hfvy13 (883 + 3) (by omega)).trans hpoy5.2.2.2.1
      have hgy148 := (hfvy16 (883 + 3) (by omega)).trans hgy147
      have hgy149 := (hfvy122 (883 + 3) (by omega)).trans hgy148
      have hgy150 := (hfvy125 (883 + 3) (by omega)).trans hgy149
      have hgy151 := (hfvy128 (883 + 3) (by omega)).trans hgy150
      have hgy152 := (hfvy13 (883 + 4) (by omega)).trans hpoy5.2.2.2.2.1
      have hgy153 := (hfvy16 (883 + 4) (by omega)).trans hgy152
      have hgy154 := (hfvy122 (883 + 4) (by omega)).trans hgy153
      have hgy155 := (hfvy125 (883 + 4) (by omega)).trans hgy154
      have hgy156 := (hfvy128 (883 + 4) (by omega)).trans hgy155
      have hgy157 := (hfvy13 (883 + 5) (by omega)).trans hpoy5.2.2.2.2.2.1
      have hgy158 := (hfvy16 (883 + 5) (by omega)).trans hgy157
      have hgy159 := (hfvy122 (883 + 5) (by omega)).trans hgy158
      have hgy160 := (hfvy125 (883 + 5) (by omega)).trans hgy159
      have hgy161 := (hfvy128 (883 + 5) (by omega)).trans hgy160
      have hgy162 := (hfvy13 (883 + 6) (by omega)).trans hpoy5.2.2.2.2.2.2
      have hgy163 := (hfvy16 (883 + 6) (by omega)).trans hgy162
      have hgy164 := (hfvy122 (883 + 6) (by omega)).trans hgy163
      have hgy165 := (hfvy125 (883 + 6) (by omega)).trans hgy164
      have hgy166 := (hfvy128 (883 + 6) (by omega)).trans hgy165
      exact z_vret C hr hlk dX7_readTable_76 (by decide) (by decide) ⟨rfl, rfl, rfl, ⟨_, hruny131, by omega⟩, ⟨_, _, _, _, _, _, _, _, _, by omega, by omega, ⟨hgy136, hgy141, hgy146, hgy151, hgy156, hgy161, hgy166⟩⟩, fun j j1 j2 => by rw [hfvy128 _ (by omega)]; rw [hfvy125 _ (by omega)]; rw [hfvy122 _ (by omega)]; rw [hfvy16 _ (by omega)]; rw [hfvy13 _ (by omega)]⟩
    · refine z_aload_n C 2 dX7_readTable_54 rfl ?_
      refine z_dup C dX7_readTable_55 rfl ?_
      refine z_get (v := .int (zI (tddy129))) C (by omega) hay2 hcdy129 rfl inA_X7 8 (by decide) q_52 rfl rfl dX7_readTable_56 ?_
      refine z_iconst (z := 1) C dX7_readTable_59 rfl ?_
      refine z_iload C 1 dX7_readTable_60 rfl ?_
      obtain ⟨xy167, exy168, hxy169⟩ := zI_of (zI (1) <<< (zI (z + vy16) &&& 31))
      refine z_ishl (z := xy167) C dX7_readTable_62 exy168 ?_
      obtain ⟨xy170, exy171, hxy172⟩ := zI_of (zI (tddy129) ||| zI (xy167))
      refine z_ior (z := xy170) C dX7_readTable_63 exy171 ?_
      refine z_put (fs' := [.int (zI (pldy129)), .int (zI (covy128)), .ref (ad 1), .int (zI (endy129)), .int (zI (tydy129)), .int (zI (a9dy129)), .int (zI (bedy129)), .int (zI (tkdy129)), .int (zI (xy170))]) C (by omega) hay2 hcdy129 tyX7 tyX7_ok nmX7 rfl inA_X7 8 (by decide) q_52 rfl rfl rfl rfl (Nat.le_of_ble_eq_true rfl) rfl dX7_readTable_64 (fun gy173 egy174 => ?_)
      have hgy175 := up_s egy174
      refine z_aload_n C 3 dX7_readTable_67 rfl ?_
      have hgy176 := (hfvy13 (883) (by decide)).trans hpoy5.1
      have hgy177 := (hfvy16 (883) (by decide)).trans hgy176
      have hgy178 := (hfvy122 (883) (by decide)).trans hgy177
      have hgy179 := (hfvy125 (883) (by decide)).trans hgy178
      have hgy180 := (hfvy128 (883) (by decide)).trans hgy179
      have hgy181 := up_n egy174 hgy180 (by decide)
      refine z_get (v := .ref (ad (883 + 6))) C (by omega) hay4 hgy181 rfl inA_X5 8 (by decide) q_114 rfl rfl dX7_readTable_68 ?_
      refine z_iload C 1 dX7_readTable_71 rfl ?_
      refine z_iload C 0 dX7_readTable_73 rfl ?_
      have hgy182 := (hfvy13 (883 + 6) (by omega)).trans hpoy5.2.2.2.2.2.2
      have hgy183 := (hfvy16 (883 + 6) (by omega)).trans hgy182
      have hgy184 := (hfvy122 (883 + 6) (by omega)).trans hgy183
      have hgy185 := (hfvy125 (883 + 6) (by omega)).trans hgy184
      have hgy186 := (hfvy128 (883 + 6) (by omega)).trans hgy185
      have hgy187 := up_n egy174 hgy186 (by omega)
      refine z_iast C (by omega) hay11 hgy187 ((z + vy16).toNat) (by omega) (by omega) (by decide) dX7_readTable_75 (fun gy188 egy189 => ?_)
      have hgy190 := up_s egy189
      have hgy192 := up_n egy189 hgy175 (by omega)
      have hgy193 := up_n egy174 hddy129 (by decide)
      have hgy194 := up_n egy189 hgy193 (by omega)
      have hruny191 : okRun cs ad gy188 (covy128) tp := ⟨_, _, _, _, _, _, _, by omega, by omega, hgy192, hgy194⟩
      have hgy195 := up_n egy189 hgy181 (ne_o (i := 883) (c := 0) (d := 6) rfl)
      have hgy196 := (hfvy13 (883 + 1) (by omega)).trans hpoy5.2.1
      have hgy197 := (hfvy16 (883 + 1) (by omega)).trans hgy196
      have hgy198 := (hfvy122 (883 + 1) (by omega)).trans hgy197
      have hgy199 := (hfvy125 (883 + 1) (by omega)).trans hgy198
      have hgy200 := (hfvy128 (883 + 1) (by omega)).trans hgy199
      have hgy201 := up_n egy174 hgy200 (by omega)
      have hgy202 := up_n egy189 hgy201 (ne_o (i := 883) (c := 1) (d := 6) rfl)
      have hgy203 := (hfvy13 (883 + 2) (by omega)).trans hpoy5.2.2.1
      have hgy204 := (hfvy16 (883 + 2) (by omega)).trans hgy203
      have hgy205 := (hfvy122 (883 + 2) (by omega)).trans hgy204
      have hgy206 := (hfvy125 (883 + 2) (by omega)).trans hgy205
      have hgy207 := (hfvy128 (883 + 2) (by omega)).trans hgy206
      have hgy208 := up_n egy174 hgy207 (by omega)
      have hgy209 := up_n egy189 hgy208 (ne_o (i := 883) (c := 2) (d := 6) rfl)
      have hgy210 := (hfvy13 (883 + 3) (by omega)).trans hpoy5.2.2.2.1
      have hgy211 := (hfvy16 (883 + 3) (by omega)).trans hgy210
      have hgy212 := (hfvy122 (883 + 3) (by omega)).trans hgy211
      have hgy213 := (hfvy125 (883 + 3) (by omega)).trans hgy212
      have hgy214 := (hfvy128 (883 + 3) (by omega)).trans hgy213
      have hgy215 := up_n egy174 hgy214 (by omega)
      have hgy216 := up_n egy189 hgy215 (ne_o (i := 883) (c := 3) (d := 6) rfl)
      have hgy217 := (hfvy13 (883 + 4) (by omega)).trans hpoy5.2.2.2.2.1
      have hgy218 := (hfvy16 (883 + 4) (by omega)).trans hgy217
      have hgy219 := (hfvy122 (883 + 4) (by omega)).trans hgy218
      have hgy220 := (hfvy125 (883 + 4) (by omega)).trans hgy219
      have hgy221 := (hfvy128 (883 + 4) (by omega)).trans hgy220
      have hgy222 := up_n egy174 hgy221 (by omega)
      have hgy223 := up_n egy189 hgy222 (ne_o (i := 883) (c := 4) (d := 6) rfl)
      have hgy224 := (hfvy13 (883 + 5) (by omega)).trans hpoy5.2.2.2.2.2.1
      have hgy225 := (hfvy16 (883 + 5) (by omega)).trans hgy224
      have hgy226 := (hfvy122 (883 + 5) (by omega)).trans hgy225
      have hgy227 := (hfvy125 (883 + 5) (by omega)).trans hgy226
      have hgy228 := (hfvy128 (883 + 5) (by omega)).trans hgy227
      have hgy229 := up_n egy174 hgy228 (by omega)
      have hgy230 := up_n egy189 hgy229 (ne_o (i := 883) (c := 5) (d := 6) rfl)
      exact z_vret C hr hlk dX7_readTable_76 (by decide) (by decide) ⟨rfl, rfl, rfl, ⟨_, hruny191, by omega⟩, ⟨_, _, _, _, _, _, _, _, _, by omega, by omega, ⟨hgy195, hgy202, hgy209, hgy216, hgy223, hgy230, hgy190⟩⟩, fun j j1 j2 => by rw [egy189, va_up_ne _ _ (by omega)]; rw [egy174, va_up_ne _ _ (by omega)]; rw [hfvy128 _ (by omega)]; rw [hfvy125 _ (by omega)]; rw [hfvy122 _ (by omega)]; rw [hfvy16 _ (by omega)]; rw [hfvy13 _ (by omega)]⟩

set_option maxRecDepth 100000 in
set_option maxHeartbeats 4000000 in
theorem c_X7_readLayer (l : Launch) (D : va_G) (A : Nat → Prop) (cs : Nat → ClassId) (tt : Nat) (N : Nat) (ad : Nat → Nat) (g : Nat → va_E) (hN : 952 ≤ N) (co : Int) (tp : Nat → Int) (hR : okRun cs ad g co tp) (hP9 : okPlan cs ad g 883) (hW9 : okWorld cs ad g 890) : zM l yX7_readLayer cX7_readLayer 9 none ({ frames := 7, cells := 0, slots := 0, locals := 420 } : Room) D A cs tt N ad g [.ref (ad 2), .ref (ad 883), .ref (ad 890)] (rV0 N ad fun g' => (∃ co' : Int, okRun cs ad g' co' tp ∧ co ≤ co') ∧ okPlan cs ad g' 883 ∧ okWorld cs ad g' 890 ∧ ∀ j, j ≠ 2 → (j < 883 ∨ 900 ≤ j) → g' j = g j) := by
  obtain ⟨pldy1, endy1, tydy1, a9dy1, bedy1, tkdy1, tddy1, hAdy1, hTdy1, hcdy1, hddy1⟩ := id hR
  have hay2 : zAt ad (2) (ad 2) := rfl
  have hay3 : zAt ad (1) (ad 1) := rfl
  have hay4 : zAt ad (883) (ad 883) := rfl
  obtain ⟨sloy5, hooy5, uaoy5, stoy5, opoy5, aioy5, faoy5, muoy5, tboy5, hsloy5, hhooy5, hpoy5⟩ := id hP9
  have hay6 : zAt ad (883 + 1) (ad (883 + 1)) := rfl
  have hay7 : zAt ad (883 + 2) (ad (883 + 2)) := rfl
  have hay8 : zAt ad (883 + 3) (ad (883 + 3)) := rfl
  have hay9 : zAt ad (883 + 4) (ad (883 + 4)) := rfl
  have hay10 : zAt ad (883 + 5) (ad (883 + 5)) := rfl
  have hay11 : zAt ad (883 + 6) (ad (883 + 6)) := rfl
  have hay12 : zAt ad (890) (ad 890) := rfl
  obtain ⟨thcy13, zhcy13, ohcy13, rhcy13, hzhcy13, hthcy13, hwhcy13⟩ := id hW9
  obtain ⟨uy14t, uy14z, uy14o, uy14r, uy14z4, uy14t5, uy141, ⟨uy14u, uy142, uy143⟩, uy144⟩ := id hW9
  have hay15 : zAt ad (890) (ad 890) := rfl
  have hay16 : zAt ad (890 + 1) (ad (890 + 1)) := rfl
  refine z_of (by decide) (Nat.le_of_ble_eq_true rfl) ?_
  intro p e s m below meth c C hr hlk hnm
  refine z_lv (lv' := [(0, .ref (ad 2)), (1, .ref (ad 883)), (2, .ref (ad 890))]) [0, 1, 2] rfl ?_
  refine z_aload_n C 0 dX7_readLayer_0 rfl ?_
  have hruny17 : okRun cs ad g (co) tp := ⟨_, _, _, _, _, _, _, by omega, by omega, hcdy1, hddy1⟩
  refine z_cV (As := []) (rest := []) (ci := 9) C (c_X7_take l D A cs tt N ad _ (by omega) _ tp hruny17) (by omega) hay2 hcdy1 rfl rfl mv_yX7_take q_813 hd_yX7_take (by decide) (Nat.le_of_ble_eq_true rfl) (by decide) dX7_readLayer_1 rfl (kV0 fun gvy18 hvy18 => ?_)
  obtain ⟨hkvy18, hfvy18⟩ := hvy18
  obtain ⟨pldy19, endy19, tydy19, a9dy19, bedy19, tkdy19, tddy19, hAdy19, hTdy19, hcdy19, hddy19⟩ := id hkvy18
  refine z_aload_n C 0 dX7_readLayer_4 rfl ?_
  refine z_iconst (z := 0) C dX7_readLayer_5 rfl ?_
  refine z_iconst (z := 3) C dX7_readLayer_6 rfl ?_
  have hruny20 : okRun cs ad gvy18 (co) tp := ⟨_, _, _, _, _, _, _, by omega, by omega, hcdy19, hddy19⟩
  refine z_cV (As := [.int (zI (0)), .int (zI (3))]) (rest := []) (ci := 9) C (c_X7_number l D A cs tt N ad _ (by omega) _ tp hruny20 (0) (by omega) (3) (by omega)) (by omega) hay2 hcdy19 rfl rfl mv_yX7_number q_817 hd_yX7_number (by decide) (Nat.le_of_ble_eq_true rfl) (by decide) dX7_readLayer_7 rfl (kI0 fun vy21 gvy21 hvy21 => ?_)
  obtain ⟨hrvy21, ⟨covy21, hkvy21, hnvy21⟩, hfvy21⟩ := hvy21
  obtain ⟨pldy22, endy22, tydy22, a9dy22, bedy22, tkdy22, tddy22, hAdy22, hTdy22, hcdy22, hddy22⟩ := id hkvy21
  refine z_istore_n (lv' := [(3, .int (zI (vy21))), (0, .ref (ad 2)), (1, .ref (ad 883)), (2, .ref (ad 890))]) C dX7_readLayer_10 rfl (by decide) rfl ?_
  refine z_iload_n C 0 dX7_readLayer_11 rfl ?_
  refine z_aload_n C 2 dX7_readLayer_12 rfl ?_
  have hgy23 := (hfvy18 (883) (by decide)).trans hpoy5.1
  have hgy24 := (hfvy21 (883) (by decide)).trans hgy23
  refine z_get (v := .int (zI (sloy5))) C (by omega) hay4 hgy24 rfl inA_X5 0 (by decide) q_89 rfl rfl dX7_readLayer_13 ?_
  refine z_icmp_lt (tgt := 31) C dX7_readLayer_16 (by decide) (by omega) (by omega) (fun hby25 => ?_) (fun hby25 => ?_)
  · refine z_aload_n C 3 dX7_readLayer_31 rfl ?_
    have hgy26 := (hfvy18 (890) (by decide)).trans uy141
    have hgy27 := (hfvy21 (890) (by decide)).trans hgy26
    refine z_get (v := .ref (ad (890 + 1))) C (by omega) hay15 hgy27 rfl inA_X8 6 (by decide) q_189 rfl rfl dX7_readLayer_32 ?_
    refine z_iload_n C 0 dX7_readLayer_35 rfl ?_
    have hgy28 := (hfvy18 (890 + 1) (by omega)).trans uy142
    have hgy29 := (hfvy21 (890 + 1) (by omega)).trans hgy28
    refine z_aald C (by omega) hay16 hgy29 3 rfl ((vy21).toNat) (by omega) (by omega) (by decide) (uy143 (vy21).toNat (by omega)) dX7_readLayer_36 ?_
    have hay30 : zAt ad (890 + 2 + 2 * (vy21).toNat) (ad (890 + 2 + 2 * (vy21).toNat)) := rfl
    have hay31 : zAt ad (890 + 2 + 2 * (vy21).toNat + 1) (ad (890 + 2 + 2 * (vy21).toNat + 1)) := rfl
    have hpy32 := uy144 (vy21).toNat (by omega)
    have hqy33 := uy14z4 (vy21).toNat (by omega)
    have hgy34 := (hfvy18 (890 + 2 + 2 * (vy21).toNat) (by omega)).trans hpy32.1
    have hgy35 := (hfvy21 (890 + 2 + 2 * (vy21).toNat) (by omega)).trans hgy34
    refine z_get (v := .int (zI (uy14z (vy21).toNat))) C (by omega) hay30 hgy35 rfl inA_X3 0 (by decide) q_157 rfl rfl dX7_readLayer_37 ?_
    refine z_bipush (z := 12) C dX7_readLayer_40 (by decide) ?_
    refine z_icmp_lt (tgt := 54) C dX7_readLayer_42 (by decide) (by omega) (by omega) (fun hby36 => ?_) (fun hby36 => ?_)
    · refine z_aload_n C 1 dX7_readLayer_54 rfl ?_
      have hruny37 : okRun cs ad gvy21 (covy21) tp := ⟨_, _, _, _, _, _, _, by omega, by omega, hcdy22, hddy22⟩
      refine z_cV (As := []) (rest := []) (ci := 9) C (c_X7_kind l D A cs tt N ad _ (by omega) _ tp hruny37 ) (by omega) hay2 hcdy22 rfl rfl mv_yX7_kind q_830 hd_yX7_kind (by decide) (Nat.le_of_ble_eq_true rfl) (by decide) dX7_readLayer_55 rfl (kI0 fun vy38 gvy38 hvy38 => ?_)
      obtain ⟨hrvy38, ⟨covy38, hkvy38, hnvy38⟩, hfvy38⟩ := hvy38
      obtain ⟨pldy39, endy39, tydy39, a9dy39, bedy39, tkdy39, tddy39, hAdy39, hTdy39, hcdy39, hddy39⟩ := id hkvy38
      refine z_istore (lv' := [(4, .int (zI (vy38))), (3, .int (zI (vy21))), (0, .ref (ad 2)), (1, .ref (ad 883)), (2, .ref (ad 890))]) C dX7_readLayer_58 (by decide) rfl ?_
      refine z_aload_n C 2 dX7_readLayer_60 rfl ?_
      refine z_iconst (z := 1) C dX7_readLayer_61 rfl ?_
      refine z_bipush (z := 99) C dX7_readLayer_62 (by decide) ?_
      have hruny40 : okRun cs ad gvy38 (covy38) tp := ⟨_, _, _, _, _, _, _, by omega, by omega, hcdy39, hddy39⟩
      refine z_cV (As := [.int (zI (1)), .int (zI (99))]) (rest := []) (ci := 9) C (c_X7_number l D A cs tt N ad _ (by omega) _ tp hruny40 (1) (by omega) (99) (by omega)) (by omega) hay2 hcdy39 rfl rfl mv_yX7_number q_817 hd_yX7_number (by decide) (Nat.le_of_ble_eq_true rfl) (by decide) dX7_readLayer_64 rfl (kI0 fun vy41 gvy41 hvy41 => ?_)
      obtain ⟨hrvy41, ⟨covy41, hkvy41, hnvy41⟩, hfvy41⟩ := hvy41
      obtain ⟨pldy42, endy42, tydy42, a9dy42, bedy42, tkdy42, tddy42, hAdy42, hTdy42, hcdy42, hddy42⟩ := id hkvy41
      refine z_istore (lv' := [(5, .int (zI (vy41))), (4, .int (zI (vy38))), (3, .int (zI (vy21))), (0, .ref (ad 2)), (1, .ref (ad 883)), (2, .ref (ad 890))]) C dX7_readLayer_67 (by decide) rfl ?_
      refine z_aload_n C 3 dX7_readLayer_69 rfl ?_
      refine z_iconst (z := 0) C dX7_readLayer_70 rfl ?_
      refine z_bipush (z := 99) C dX7_readLayer_71 (by decide) ?_
      have hruny43 : okRun cs ad gvy41 (covy41) tp := ⟨_, _, _, _, _, _, _, by omega, by omega, hcdy42, hddy42⟩
      refine z_cV (As := [.int (zI (0)), .int (zI (99))]) (rest := []) (ci := 9) C (c_X7_number l D A cs tt N ad _ (by omega) _ tp hruny43 (0) (by omega) (99) (by omega)) (by omega) hay2 hcdy42 rfl rfl mv_yX7_number q_817 hd_yX7_number (by decide) (Nat.le_of_ble_eq_true rfl) (by decide) dX7_readLayer_73 rfl (kI0 fun vy44 gvy44 hvy44 => ?_)
      obtain ⟨hrvy44, ⟨covy44, hkvy44, hnvy44⟩, hfvy44⟩ := hvy44
      obtain ⟨pldy45, endy45, tydy45, a9dy45, bedy45, tkdy45, tddy45, hAdy45, hTdy45, hcdy45, hddy45⟩ := id hkvy44
      refine z_istore (lv' := [(6, .int (zI (vy44))), (5, .int (zI (vy41))), (4, .int (zI (vy38))), (3, .int (zI (vy21))), (0, .ref (ad 2)), (1, .ref (ad 883)), (2, .ref (ad 890))]) C dX7_readLayer_76 (by decide) rfl ?_
      refine z_aload_n C 4 dX7_readLayer_78 rfl ?_
      refine z_iconst (z := 1) C dX7_readLayer_79 rfl ?_
      refine z_sipush (z := 999) C dX7_readLayer_80 (by decide) ?_
      have hruny46 : okRun cs ad gvy44 (covy44) tp := ⟨_, _, _, _, _, _, _, by omega, by omega, hcdy45, hddy45⟩
      refine z_cV (As := [.int (zI (1)), .int (zI (999))]) (rest := []) (ci := 9) C (c_X7_number l D A cs tt N ad _ (by omega) _ tp hruny46 (1) (by omega) (999) (by omega)) (by omega) hay2 hcdy45 rfl rfl mv_yX7_number q_817 hd_yX7_number (by decide) (Nat.le_of_ble_eq_true rfl) (by decide) dX7_readLayer_83 rfl (kI0 fun vy47 gvy47 hvy47 => ?_)
      obtain ⟨hrvy47, ⟨covy47, hkvy47, hnvy47⟩, hfvy47⟩ := hvy47
      obtain ⟨pldy48, endy48, tydy48, a9dy48, bedy48, tkdy48, tddy48, hAdy48, hTdy48, hcdy48, hddy48⟩ := id hkvy47
      refine z_istore (lv' := [(7, .int (zI (vy47))), (6, .int (zI (vy44))), (5, .int (zI (vy41))), (4, .int (zI (vy38))), (3, .int (zI (vy21))), (0, .ref (ad 2)), (1, .ref (ad 883)), (2, .ref (ad 890))]) C dX7_readLayer_86 (by decide) rfl ?_
      refine z_iload C 0 dX7_readLayer_88 rfl ?_
      refine z_iload C 2 dX7_readLayer_90 rfl ?_
      refine z_iload C 1 dX7_readLayer_92 rfl ?_
      refine z_iadd C dX7_readLayer_94 ?_
      refine z_icmp_ge (tgt := 107) C dX7_readLayer_95 (by decide) (by omega) (by omega) (fun hby49 => ?_) (fun hby49 => ?_)
      · refine z_aload_n C 5 dX7_readLayer_107 rfl ?_
        refine z_iconst (z := 0) C dX7_readLayer_108 rfl ?_
        refine z_sipush (z := 300) C dX7_readLayer_109 (by decide) ?_
        have hruny50 : okRun cs ad gvy47 (covy47) tp := ⟨_, _, _, _, _, _, _, by omega, by omega, hcdy48, hddy48⟩
        refine z_cV (As := [.int (zI (0)), .int (zI (300))]) (rest := []) (ci := 9) C (c_X7_number l D A cs tt N ad _ (by omega) _ tp hruny50 (0) (by omega) (300) (by omega)) (by omega) hay2 hcdy48 rfl rfl mv_yX7_number q_817 hd_yX7_number (by decide) (Nat.le_of_ble_eq_true rfl) (by decide) dX7_readLayer_112 rfl (kI0 fun vy51 gvy51 hvy51 => ?_)
        obtain ⟨hrvy51, ⟨covy51, hkvy51, hnvy51⟩, hfvy51⟩ := hvy51
        obtain ⟨pldy52, endy52, tydy52, a9dy52, bedy52, tkdy52, tddy52, hAdy52, hTdy52, hcdy52, hddy52⟩ := id hkvy51
        refine z_istore (lv' := [(8, .int (zI (vy51))), (7, .int (zI (vy47))), (6, .int (zI (vy44))), (5, .int (zI (vy41))), (4, .int (zI (vy38))), (3, .int (zI (vy21))), (0, .ref (ad 2)), (1, .ref (ad 883)), (2, .ref (ad 890))]) C dX7_readLayer_115 (by decide) rfl ?_
        refine z_aload_n C 6 dX7_readLayer_117 rfl ?_
        have hruny53 : okRun cs ad gvy51 (covy51) tp := ⟨_, _, _, _, _, _, _, by omega, by omega, hcdy52, hddy52⟩
        refine z_cV (As := []) (rest := []) (ci := 9) C (c_X7_close l D A cs tt N ad _ (by omega) _ tp hruny53 ) (by omega) hay2 hcdy52 rfl rfl mv_yX7_close q_821 hd_yX7_close (by decide) (Nat.le_of_ble_eq_true rfl) (by decide) dX7_readLayer_118 rfl (kV0 fun gvy54 hvy54 => ?_)
        obtain ⟨⟨covy54, hkvy54, hnvy54⟩, hfvy54⟩ := hvy54
        obtain ⟨pldy55, endy55, tydy55, a9dy55, bedy55, tkdy55, tddy55, hAdy55, hTdy55, hcdy55, hddy55⟩ := id hkvy54
        refine z_aload_n C 6 dX7_readLayer_121 rfl ?_
        refine z_get (v := .int (zI (covy54))) C (by omega) hay2 hcdy55 rfl inA_X7 1 (by decide) q_45 rfl rfl dX7_readLayer_122 ?_
        refine z_if_ne (tgt := 162) C dX7_readLayer_125 (by decide) (by omega) (fun hby56 => ?_) (fun hby56 => ?_)
        · have hruny57 : okRun cs ad gvy54 (covy54) tp := ⟨_, _, _, _, _, _, _, by omega, by omega, hcdy55, hddy55⟩
          have hgy58 := (hfvy38 (883) (by decide)).trans hgy24
          have hgy59 := (hfvy41 (883) (by decide)).trans hgy58
          have hgy60 := (hfvy44 (883) (by decide)).trans hgy59
          have hgy61 := (hfvy47 (883) (by decide)).trans hgy60
          have hgy62 := (hfvy51 (883) (by decide)).trans hgy61
          have hgy63 := (hfvy54 (883) (by decide)).trans hgy62
          have hgy64 := (hfvy18 (883 + 1) (by omega)).trans hpoy5.2.1
          have hgy65 := (hfvy21 (883 + 1) (by omega)).trans hgy64
          have hgy66 := (hfvy38 (883 + 1) (by omega)).trans hgy65
          have hgy67 := (hfvy41 (883 + 1) (by omega)).trans hgy66
          have hgy68 := (hfvy44 (883 + 1) (by omega)).trans hgy67
          have hgy69 := (hfvy47 (883 + 1) (by omega)).trans hgy68
          have hgy70 := (hfvy51 (883 + 1) (by omega)).trans hgy69
          have hgy71 := (hfvy54 (883 + 1) (by omega)).trans hgy70
          have hgy72 := (hfvy18 (883 + 2) (by omega)).trans hpoy5.2.2.1
          have hgy73 := (hfvy21 (883 + 2) (by omega)).trans hgy72
          have hgy74 := (hfvy38 (883 + 2) (by omega)).trans hgy73
          have hgy75 := (hfvy41 (883 + 2) (by omega)).trans hgy74
          have hgy76 := (hfvy44 (883 + 2) (by omega)).trans hgy75
          have hgy77 := (hfvy47 (883 + 2) (by omega)).trans hgy76
          have hgy78 := (hfvy51 (883 + 2) (by omega)).trans hgy77
          have hgy79 := (hfvy54 (883 + 2) (by omega)).trans hgy78
          have hgy80 := (hfvy18 (883 + 3) (by omega)).trans hpoy5.2.2.2.1
          have hgy81 := (hfvy21 (883 + 3) (by omega)).trans hgy80
          have hgy82 := (hfvy38 (883 + 3) (by omega)).trans hgy81
          have hgy83 := (hfvy41 (883 + 3) (by omega)).trans hgy82
          have hgy84 := (hfvy44 (883 + 3) (by omega)).trans hgy83
          have hgy85 := (hfvy47 (883 + 3) (by omega)).trans hgy84
          have hgy86 := (hfvy51 (883 + 3) (by omega)).trans hgy85
          have hgy87 := (hfvy54 (883 + 3) (by omega)).trans hgy86
          have hgy88 := (hfvy18 (883 + 4) (by omega)).trans hpoy5.2.2.2.2.1
          have hgy89 := (hfvy21 (883 + 4) (by omega)).trans hgy88
          have hgy90 := (hfvy38 (883 + 4) (by omega)).trans hgy89
          have hgy91 := (hfvy41 (883 + 4) (by omega)).trans hgy90
          have hgy92 := (hfvy44 (883 + 4) (by omega)).trans hgy91
          have hgy93 := (hfvy47 (883 + 4) (by omega)).trans hgy92
          have hgy94 := (hfvy51 (883 + 4) (by omega)).trans hgy93
          have hgy95 := (hfvy54 (883 + 4) (by omega)).trans hgy94
          have hgy96 := (hfvy18 (883 + 5) (by omega)).trans hpoy5.2.2.2.2.2.1
          have hgy97 := (hfvy21 (883 + 5) (by omega)).trans hgy96
          have hgy98 := (hfvy38 (883 + 5) (by omega)).trans hgy97
          have hgy99 := (hfvy41 (883 + 5) (by omega)).trans hgy98
          have hgy100 := (hfvy44 (883 + 5) (by omega)).trans hgy99
          have hgy101 := (hfvy47 (883 + 5) (by omega)).trans hgy100
          have hgy102 := (hfvy51 (883 + 5) (by omega)).trans hgy101
          have hgy103 := (hfvy54 (883 + 5) (by omega)).trans hgy102
          have hgy104 := (hfvy18 (883 + 6) (by omega)).trans hpoy5.2.2.2.2.2.2
          have hgy105 := (hfvy21 (883 + 6) (by omega)).trans hgy104
          have hgy106 := (hfvy38 (883 + 6) (by omega)).trans hgy105
          have hgy107 := (hfvy41 (883 + 6) (by omega)).trans hgy106
          have hgy108 := (hfvy44 (883 + 6) (by omega)).trans hgy107
          have hgy109 := (hfvy47 (883 + 6) (by omega)).trans hgy108
          have hgy110 := (hfvy51 (883 + 6) (by omega)).trans hgy109
          have hgy111 := (hfvy54 (883 + 6) (by omega)).trans hgy110
          have hoky112 : okWorld cs ad gvy54 (890) := okWorld.mv (fun j j1 j2 => by rw [hfvy54 _ (by omega)]; rw [hfvy51 _ (by omega)]; rw [hfvy47 _ (by omega)]; rw [hfvy44 _ (by omega)]; rw [hfvy41 _ (by omega)]; rw [hfvy38 _ (by omega)]; rw [hfvy21 _ (by omega)]; rw [hfvy18 _ (by omega)]) hW9
          exact z_vret C hr hlk dX7_readLayer_162 (by decide) (by decide) ⟨rfl, rfl, rfl, ⟨_, hruny57, by omega⟩, ⟨_, _, _, _, _, _, _, _, _, by omega, by omega, ⟨hgy63, hgy71, hgy79, hgy87, hgy95, hgy103, hgy111⟩⟩, hoky112, fun j j1 j2 => by rw [hfvy54 _ (by omega)]; rw [hfvy51 _ (by omega)]; rw [hfvy47 _ (by omega)]; rw [hfvy44 _ (by omega)]; rw [hfvy41 _ (by omega)]; rw [hfvy38 _ (by omega)]; rw [hfvy21 _ (by omega)]; rw [hfvy18 _ (by omega)]⟩
        · refine z_aload_n C 8 dX7_readLayer_128 rfl ?_
          have hgy113 := (hfvy38 (890) (by decide)).trans hgy27
          have hgy114 := (hfvy41 (890) (by decide)).trans hgy113
          have hgy115 := (hfvy44 (890) (by decide)).trans hgy114
          have hgy116 := (hfvy47 (890) (by decide)).trans hgy115
          have hgy117 := (hfvy51 (890) (by decide)).trans hgy116
          have hgy118 := (hfvy54 (890) (by decide)).trans hgy117
          refine z_get (v := .ref (ad (890 + 1))) C (by omega) hay15 hgy118 rfl inA_X8 6 (by decide) q_189 rfl rfl dX7_readLayer_129 ?_
          refine z_iload_n C 5 dX7_readLayer_132 rfl ?_
          have hgy119 := (hfvy38 (890 + 1) (by omega)).trans hgy29
          have hgy120 := (hfvy41 (890 + 1) (by omega)).trans hgy119
          have hgy121 := (hfvy44 (890 + 1) (by omega)).trans hgy120
          have hgy122 := (hfvy47 (890 + 1) (by omega)).trans hgy121
          have hgy123 := (hfvy51 (890 + 1) (by omega)).trans hgy122
          have hgy124 := (hfvy54 (890 + 1) (by omega)).trans hgy123
          refine z_aald C (by omega) hay16 hgy124 3 rfl ((vy21).toNat) (by omega) (by omega) (by decide) (uy143 (vy21).toNat (by omega)) dX7_readLayer_133 ?_
          refine z_iload C 4 dX7_readLayer_134 rfl ?_
          refine z_iload C 3 dX7_readLayer_136 rfl ?_
          refine z_iload C 2 dX7_readLayer_138 rfl ?_
          refine z_iload C 1 dX7_readLayer_140 rfl ?_
          refine z_iload C 0 dX7_readLayer_142 rfl ?_
          refine z_ineg C dX7_readLayer_144 ?_
          refine z_aload_n C 8 dX7_readLayer_145 rfl ?_
          refine z_get (v := .int (zI (uy14t 1))) C (by omega) hay15 hgy118 rfl inA_X8 1 (by decide) q_178 rfl rfl dX7_readLayer_146 ?_
          have hoky125 : okWorld cs ad gvy54 (890) := okWorld.mv (fun j j1 j2 => by rw [hfvy54 _ (by omega)]; rw [hfvy51 _ (by omega)]; rw [hfvy47 _ (by omega)]; rw [hfvy44 _ (by omega)]; rw [hfvy41 _ (by omega)]; rw [hfvy38 _ (by omega)]; rw [hfvy21 _ (by omega)]; rw [hfvy18 _ (by omega)]) hW9
          obtain ⟨xy126, exy127, hxy128⟩ := zI_of (zI (uy14t 1))
          rw [exy127]
          have hgy130 := (hfvy38 (890 + 2 + 2 * (vy21).toNat) (by omega)).trans hgy35
          have hgy131 := (hfvy41 (890 + 2 + 2 * (vy21).toNat) (by omega)).trans hgy130
          have hgy132 := (hfvy44 (890 + 2 + 2 * (vy21).toNat) (by omega)).trans hgy131
          have hgy133 := (hfvy47 (890 + 2 + 2 * (vy21).toNat) (by omega)).trans hgy132
          have hgy134 := (hfvy51 (890 + 2 + 2 * (vy21).toNat) (by omega)).trans hgy133
          have hgy135 := (hfvy54 (890 + 2 + 2 * (vy21).toNat) (by omega)).trans hgy134
          have hgy136 := (hfvy18 (890 + 2 + 2 * (vy21).toNat + 1) (by omega)).trans hpy32.2
          have hgy137 := (hfvy21 (890 + 2 + 2 * (vy21).toNat + 1) (by omega)).trans hgy136
          have hgy138 := (hfvy38 (890 + 2 + 2 * (vy21).toNat + 1) (by omega)).trans hgy137
          have hgy139 := (hfvy41 (890 + 2 + 2 * (vy21).toNat + 1) (by omega)).trans hgy138
          have hgy140 := (hfvy44 (890 + 2 + 2 * (vy21).toNat + 1) (by omega)).trans hgy139
          have hgy141 := (hfvy47 (890 + 2 + 2 * (vy21).toNat + 1) (by omega)).trans hgy140
          have hgy142 := (hfvy51 (890 + 2 + 2 * (vy21).toNat + 1) (by omega)).trans hgy141
          have hgy143 := (hfvy54 (890 + 2 + 2 * (vy21).toNat + 1) (by omega)).trans hgy142
          refine z_cV (As := [.int (zI (vy38)), .int (zI (vy41)), .int (zI (vy44)), .int (zI (vy47)), .int (zI (-(vy51))), .int (zI (xy126))]) (rest := []) (ci := 5) C (c_X3_add l D A cs tt N ad _ (890 + 2 + 2 * (vy21).toNat) (by omega) _ _ _ (by omega) ⟨hgy135, hgy143⟩  (vy38) (by omega) (vy41) (by omega) (vy44) (by omega) (vy47) (by omega) (-(vy51)) (by omega) (xy126) (by omega)) (by omega) hay30 hgy135 rfl rfl mv_yX3_add q_842 hd_yX3_add (by decide) (Nat.le_of_ble_eq_true rfl) (by decide) dX7_readLayer_149 rfl (kV0 fun gvy129 hvy129 => ?_)
          obtain ⟨⟨svy129, ovy129, rvy129, hsvy129, hpvy129⟩, hfvy129⟩ := hvy129
          refine z_aload_n C 8 dX7_readLayer_152 rfl ?_
          refine z_dup C dX7_readLayer_153 rfl ?_
          have hgy144 := (hfvy129 (890) (by omega) (by omega)).trans hgy118
          refine z_get (v := .int (zI (uy14t 1))) C (by omega) hay15 hgy144 rfl inA_X8 1 (by decide) q_178 rfl rfl dX7_readLayer_154 ?_
          refine z_iconst (z := 1) C dX7_readLayer_157 rfl ?_
          refine z_iadd C dX7_readLayer_158 ?_
          refine z_put (fs' := [.int (zI (uy14t 0)), .int (zI ((uy14t 1) + 1)), .int (zI (uy14t 2)), .int (zI (uy14t 3)), .int (zI (uy14t 4)), .int (zI (uy14t 5)), .ref (ad (890 + 1))]) C (by omega) hay15 hgy144 tyX8 tyX8_ok nmX8 rfl inA_X8 1 (by decide) q_178 rfl rfl rfl rfl (Nat.le_of_ble_eq_true rfl) rfl dX7_readLayer_159 (fun gy145 egy146 => ?_)
          have hgy147 := up_s egy146
          have hgy149 := (hfvy129 (2) (by omega) (by omega)).trans hcdy55
          have hgy150 := up_n egy146 hgy149 (by decide)
          have hgy151 := (hfvy129 (1) (by omega) (by omega)).trans hddy55
          have hgy152 := up_n egy146 hgy151 (by decide)
          have hruny148 : okRun cs ad gy145 (covy54) tp := ⟨_, _, _, _, _, _, _, by omega, by omega, hgy150, hgy152⟩
          have hgy153 := (hfvy38 (883) (by decide)).trans hgy24
          have hgy154 := (hfvy41 (883) (by decide)).trans hgy153
          have hgy155 := (hfvy44 (883) (by decide)).trans hgy154
          have hgy156 := (hfvy47 (883) (by decide)).trans hgy155
          have hgy157 := (hfvy51 (883) (by decide)).trans hgy156
          have hgy158 := (hfvy54 (883) (by decide)).trans hgy157
          have hgy159 := (hfvy129 (883) (by omega) (by omega)).trans hgy158
          have hgy160 := up_n egy146 hgy159 (by decide)
          have hgy161 := (hfvy18 (883 + 1) (by omega)).trans hpoy5.2.1
          have hgy162 := (hfvy21 (883 + 1) (by omega)).trans hgy161
          have hgy163 := (hfvy38 (883 + 1) (by omega)).trans hgy162
          have hgy164 := (hfvy41 (883 + 1) (by omega)).trans hgy163
          have hgy165 := (hfvy44 (883 + 1) (by omega)).trans hgy164
          have hgy166 := (hfvy47 (883 + 1) (by omega)).trans hgy165
          have hgy167 := (hfvy51 (883 + 1) (by omega)).trans hgy166
          have hgy168 := (hfvy54 (883 + 1) (by omega)).trans hgy167
          have hgy169 := (hfvy129 (883 + 1) (by omega) (by omega)).trans hgy168
          have hgy170 := up_n egy146 hgy169 (by omega)
          have hgy171 := (hfvy18 (883 + 2) (by omega)).trans hpoy5.2.2.1
          have hgy172 := (hfvy21 (883 + 2) (by omega)).trans hgy171
          have hgy173 := (hfvy38 (883 + 2) (by omega)).trans hgy172
          have hgy174 := (hfvy41 (883 + 2) (by omega)).trans hgy173
          have hgy175 := (hfvy44 (883 + 2) (by omega)).trans hgy174
          have hgy176 := (hfvy47 (883 + 2) (by omega)).trans hgy175
          have hgy177 := (hfvy51 (883 + 2) (by omega)).trans hgy176
          have hgy178 := (hfvy54 (883 + 2) (by omega)).trans hgy177
          have hgy179 := (hfvy129 (883 + 2) (by omega) (by omega)).trans hgy178
          have hgy180 := up_n egy146 hgy179 (by omega)
          have hgy181 := (hfvy18 (883 + 3) (by omega)).trans hpoy5.2.2.2.1
          have hgy182 := (hfvy21 (883 + 3) (by omega)).trans hgy181
          have hgy183 := (hfvy38 (883 + 3) (by omega)).trans hgy182
          have hgy184 := (hfvy41 (883 + 3) (by omega)).trans hgy183
          have hgy185 := (hfvy44 (883 + 3) (by omega)).trans hgy184
          have hgy186 := (hfvy47 (883 + 3) (by omega)).trans hgy185
          have hgy187 := (hfvy51 (883 + 3) (by omega)).trans hgy186
          have hgy188 := (hfvy54 (883 + 3) (by omega)).trans hgy187
          have hgy189 := (hfvy129 (883 + 3) (by omega) (by omega)).trans hgy188
          have hgy190 := up_n egy146 hgy189 (by omega)
          have hgy191 := (hfvy18 (883 + 4) (by omega)).trans hpoy5.2.2.2.2.1
          have hgy192 := (hfvy21 (883 + 4) (by omega)).trans hgy191
          have hgy193 := (hfvy38 (883 + 4) (by omega)).trans hgy192
          have hgy194 := (hfvy41 (883 + 4) (by omega)).trans hgy193
          have hgy195 := (hfvy44 (883 + 4) (by omega)).trans hgy194
          have hgy196 := (hfvy47 (883 + 4) (by omega)).trans hgy195
          have hgy197 := (hfvy51 (883 + 4) (by omega)).trans hgy196
          have hgy198 := (hfvy54 (883 + 4) (by omega)).trans hgy197
          have hgy199 := (hfvy129 (883 + 4) (by omega) (by omega)).trans hgy198
          have hgy200 := up_n egy146 hgy199 (by omega)
          have hgy201 := (hfvy18 (883 + 5) (by omega)).trans hpoy5.2.2.2.2.2.1
          have hgy202 := (hfvy21 (883 + 5) (by omega)).trans hgy201
          have hgy203 := (hfvy38 (883 + 5) (by omega)).trans hgy202
          have hgy204 := (hfvy41 (883 + 5) (by omega)).trans hgy203
          have hgy205 := (hfvy44 (883 + 5) (by omega)).trans hgy204
          have hgy206 := (hfvy47 (883 + 5) (by omega)).trans hgy205
          have hgy207 := (hfvy51 (883 + 5) (by omega)).trans hgy206
          have hgy208 := (hfvy54 (883 + 5) (by omega)).trans hgy207
          have hgy209 := (hfvy129 (883 + 5) (by omega) (by omega)).trans hgy208
          have hgy210 := up_n egy146 hgy209 (by omega)
          have hgy211 := (hfvy18 (883 + 6) (by omega)).trans hpoy5.2.2.2.2.2.2
          have hgy212 := (hfvy21 (883 + 6) (by omega)).trans hgy211
          have hgy213 := (hfvy38 (883 + 6) (by omega)).trans hgy212
          have hgy214 := (hfvy41 (883 + 6) (by omega)).trans hgy213
          have hgy215 := (hfvy44 (883 + 6) (by omega)).trans hgy214
          have hgy216 := (hfvy47 (883 + 6) (by omega)).trans hgy215
          have hgy217 := (hfvy51 (883 + 6) (by omega)).trans hgy216
          have hgy218 := (hfvy54 (883 + 6) (by omega)).trans hgy217
          have hgy219 := (hfvy129 (883 + 6) (by omega) (by omega)).trans hgy218
          have hgy220 := up_n egy146 hgy219 (by omega)
          have hgy221 := up_n egy146 hpvy129.1 (by omega)
          have hgy222 := up_n egy146 hpvy129.2 (by omega)
          have hGp : okPack cs ad gy145 (890 + 2 + 2 * (vy21).toNat) := ⟨_, _, _, by omega, hgy221, hgy222⟩
          have hGq : okWorld cs ad gy145 890 := okWorld.two (by omega) hoky125 (fun j j1 j2 j3 => by rw [egy146, va_up_ne _ _ (by omega)]; rw [hfvy129 _ (by omega) (by omega)]) hGp (by omega) hgy147
          exact z_vret C hr hlk dX7_readLayer_162 (by decide) (by decide) ⟨rfl, rfl, rfl, ⟨_, hruny148, by omega⟩, ⟨_, _, _, _, _, _, _, _, _, by omega, by omega, ⟨hgy160, hgy170, hgy180, hgy190, hgy200, hgy210, hgy220⟩⟩, hGq, fun j j1 j2 => by rw [egy146, va_up_ne _ _ (by omega)]; rw [hfvy129 _ (by omega) (by omega)]; rw [hfvy54 _ (by omega)]; rw [hfvy51 _ (by omega)]; rw [hfvy47 _ (by omega)]; rw [hfvy44 _ (by omega)]; rw [hfvy41 _ (by omega)]; rw [hfvy38 _ (by omega)]; rw [hfvy21 _ (by omega)]; rw [hfvy18 _ (by omega)]⟩
      · refine z_aload_n C 5 dX7_readLayer_98 rfl ?_
        refine z_iconst (z := 5) C dX7_readLayer_99 rfl ?_
        refine z_aload_n C 5 dX7_readLayer_100 rfl ?_
        refine z_get (v := .int (zI (tkdy48))) C (by omega) hay2 hcdy48 rfl inA_X7 7 (by decide) q_51 rfl rfl dX7_readLayer_101 ?_
        obtain ⟨xy223, exy224, hxy225⟩ := zI_of (zI (tkdy48))
        rw [exy224]
        have hruny226 : okRun cs ad gvy47 (covy47) tp := ⟨_, _, _, _, _, _, _, by omega, by omega, hcdy48, hddy48⟩
        refine z_cV (As := [.int (zI (5)), .int (zI (xy223))]) (rest := []) (ci := 9) C (c_X7_fail l D A cs tt N ad _ (by omega) _ tp hruny226 (5) (by omega) (xy223) (by omega)) (by omega) hay2 hcdy48 rfl rfl mv_yX7_fail q_809 hd_yX7_fail (by decide) (Nat.le_of_ble_eq_true rfl) (by decide) dX7_readLayer_104 rfl (kV0 fun gvy227 hvy227 => ?_)
        obtain ⟨⟨covy227, hkvy227, hnvy227⟩, hfvy227⟩ := hvy227
        obtain ⟨pldy228, endy228, tydy228, a9dy228, bedy228, tkdy228, tddy228, hAdy228, hTdy228, hcdy228, hddy228⟩ := id hkvy227
        refine z_aload_n C 5 dX7_readLayer_107 rfl ?_
        refine z_iconst (z := 0) C dX7_readLayer_108 rfl ?_
        refine z_sipush (z := 300) C dX7_readLayer_109 (by decide) ?_
        have hruny229 : okRun cs ad gvy227 (covy227) tp := ⟨_, _, _, _, _, _, _, by omega, by omega, hcdy228, hddy228⟩
        refine z_cV (As := [.int (zI (0)), .int (zI (300))]) (rest := []) (ci := 9) C (c_X7_number l D A cs tt N ad _ (by omega) _ tp hruny229 (0) (by omega) (300) (by omega)) (by omega) hay2 hcdy228 rfl rfl mv_yX7_number q_817 hd_yX7_number (by decide) (Nat.le_of_ble_eq_true rfl) (by decide) dX7_readLayer_112 rfl (kI0 fun vy230 gvy230 hvy230 => ?_)
        obtain ⟨hrvy230, ⟨covy230, hkvy230, hnvy230⟩, hfvy230⟩ := hvy230
        obtain ⟨pldy231, endy231, tydy231, a9dy231, bedy231, tkdy231, tddy231, hAdy231, hTdy231, hcdy231, hddy231⟩ := id hkvy230
        refine z_istore (lv' := [(8, .int (zI (vy230))), (7, .int (zI (vy47))), (6, .int (zI (vy44))), (5, .int (zI (vy41))), (4, .int (zI (vy38))), (3, .int (zI (vy21))), (0, .ref (ad 2)), (1, .ref (ad 883)), (2, .ref (ad 890))]) C dX7_readLayer_115 (by decide) rfl ?_
        refine z_aload_n C 6 dX7_readLayer_117 rfl ?_
        have hruny232 : okRun cs ad gvy230 (covy230) tp := ⟨_, _, _, _, _, _, _, by omega, by omega, hcdy231, hddy231⟩
        refine z_cV (As := []) (rest := []) (ci := 9) C (c_X7_close l D A cs tt N ad _ (by omega) _ tp hruny232 ) (by omega) hay2 hcdy231 rfl rfl mv_yX7_close q_821 hd_yX7_close (by decide) (Nat.le_of_ble_eq_true rfl) (by decide) dX7_readLayer_118 rfl (kV0 fun gvy233 hvy233 => ?_)
        obtain ⟨⟨covy233, hkvy233, hnvy233⟩, hfvy233⟩ := hvy233
        obtain ⟨pldy234, endy234, tydy234, a9dy234, bedy234, tkdy234, tddy234, hAdy234, hTdy234, hcdy234, hddy234⟩ := id hkvy233
        refine z_aload_n C 6 dX7_readLayer_121 rfl ?_
        refine z_get (v := .int (zI (covy233))) C (by omega) hay2 hcdy234 rfl inA_X7 1 (by decide) q_45 rfl rfl dX7_readLayer_122 ?_
        refine z_if_ne (tgt := 162) C dX7_readLayer_125 (by decide) (by omega) (fun hby235 => ?_) (fun hby235 => ?_)
        · have hruny236 : okRun cs ad gvy233 (covy233) tp := ⟨_, _, _, _, _, _, _, by omega, by omega, hcdy234, hddy234⟩
          have hgy237 := (hfvy38 (883) (by decide)).trans hgy24
          have hgy238 := (hfvy41 (883) (by decide)).trans hgy237
          have hgy239 := (hfvy44 (883) (by decide)).trans hgy238
          have hgy240 := (hfvy47 (883) (by decide)).trans hgy239
          have hgy241 := (hfvy227 (883) (by decide)).trans hgy240
          have hgy242 := (hfvy230 (883) (by decide)).trans hgy241
          have hgy243 := (hfvy233 (883) (by decide)).trans hgy242
          have hgy244 := (hfvy18 (883 + 1) (by omega)).trans hpoy5.2.1
          have hgy245 := (hfvy21 (883 + 1) (by omega)).trans hgy244
          have hgy246 := (hfvy38 (883 + 1) (by omega)).trans hgy245
          have hgy247 := (hfvy41 (883 + 1) (by omega)).trans hgy246
          have hgy248 := (hfvy44 (883 + 1) (by omega)).trans hgy247
          have hgy249 := (hfvy47 (883 + 1) (by omega)).trans hgy248
          have hgy250 := (hfvy227 (883 + 1) (by omega)).trans hgy249
          have hgy251 := (hfvy230 (883 + 1) (by omega)).trans hgy250
          have hgy252 := (hfvy233 (883 + 1) (by omega)).trans hgy251
          have hgy253 := (hfvy18 (883 + 2) (by omega)).trans hpoy5.2.2.1
          have hgy254 := (hfvy21 (883 + 2) (by omega)).trans hgy253
          have hgy255 := (hfvy38 (883 + 2) (by omega)).trans hgy254
          have hgy256 := (hfvy41 (883 + 2) (by omega)).trans hgy255
          have hgy257 := (hfvy44 (883 + 2) (by omega)).trans hgy256
          have hgy258 := (hfvy47 (883 + 2) (by omega)).trans hgy257
          have hgy259 := (hfvy227 (883 + 2) (by omega)).trans hgy258
          have hgy260 := (hfvy230 (883 + 2) (by omega)).trans hgy259
          have hgy261 := (hfvy233 (883 + 2) (by omega)).trans hgy260
          have hgy262 := (hfvy18 (883 + 3) (by omega)).trans hpoy5.2.2.2.1
          have hgy263 := (hfvy21 (883 + 3) (by omega)).trans hgy262
          have hgy264 := (hfvy38 (883 + 3) (by omega)).trans hgy263
          have hgy265 := (hfvy41 (883 + 3) (by omega)).trans hgy264
          have hgy266 := (hfvy44 (883 + 3) (by omega)).trans hgy265
          have hgy267 := (hfvy47 (883 + 3) (by omega)).trans hgy266
          have hgy268 := (hfvy227 (883 + 3) (by omega)).trans hgy267
          have hgy269 := (hfvy230 (883 + 3) (by omega)).trans hgy268
          have hgy270 := (hfvy233 (883 + 3) (by omega)).trans hgy269
          have hgy271 := (hfvy18 (883 + 4) (by omega)).trans hpoy5.2.2.2.2.1
          have hgy272 := (hfvy21 (883 + 4) (by omega)).trans hgy271
          have hgy273 := (hfvy38 (883 + 4) (by omega)).trans hgy272
          have hgy274 := (hfvy41 (883 + 4) (by omega)).trans hgy273
          have hgy275 := (hfvy44 (883 + 4) (by omega)).trans hgy274
          have hgy276 := (hfvy47 (883 + 4) (by omega)).trans hgy275
          have hgy277 := (hfvy227 (883 + 4) (by omega)).trans hgy276
          have hgy278 := (hfvy230 (883 + 4) (by omega)).trans hgy277
          have hgy279 := (hfvy233 (883 + 4) (by omega)).trans hgy278
          have hgy280 := (hfvy18 (883 + 5) (by omega)).trans hpoy5.2.2.2.2.2.1
          have hgy281 := (hfvy21 (883 + 5) (by omega)).trans hgy280
          have hgy282 := (hfvy38 (883 + 5) (by omega)).trans hgy281
          have hgy283 := (hfvy41 (883 + 5) (by omega)).trans hgy282
          have hgy284 := (hfvy44 (883 + 5) (by omega)).trans hgy283
          have hgy285 := (hfvy47 (883 + 5) (by omega)).trans hgy284
          have hgy286 := (hfvy227 (883 + 5) (by omega)).trans hgy285
          have hgy287 := (hfvy230 (883 + 5) (by omega)).trans hgy286
          have hgy288 := (hfvy233 (883 + 5) (by omega)).trans hgy287
          have hgy289 := (hfvy18 (883 + 6) (by omega)).trans hpoy5.2.2.2.2.2.2
          have hgy290 := (hfvy21 (883 + 6) (by omega)).trans hgy289
          have hgy291 := (hfvy38 (883 + 6) (by omega)).trans hgy290
          have hgy292 := (hfvy41 (883 + 6) (by omega)).trans hgy291
          have hgy293 := (hfvy44 (883 + 6) (by omega)).trans hgy292
          have hgy294 := (hfvy47 (883 + 6) (by omega)).trans hgy293
          have hgy295 := (hfvy227 (883 + 6) (by omega)).trans hgy294
          have hgy296 := (hfvy230 (883 + 6) (by omega)).trans hgy295
          have hgy297 := (hfvy233 (883 + 6) (by omega)).trans hgy296
          have hoky298 : okWorld cs ad gvy233 (890) := okWorld.mv (fun j j1 j2 => by rw [hfvy233 _ (by omega)]; rw [hfvy230 _ (by omega)]; rw [hfvy227 _ (by omega)]; rw [hfvy47 _ (by omega)]; rw [hfvy44 _ (by omega)]; rw [hfvy41 _ (by omega)]; rw [hfvy38 _ (by omega)]; rw [hfvy21 _ (by omega)]; rw [hfvy18 _ (by omega)]) hW9
          exact z_vret C hr hlk dX7_readLayer_162 (by decide) (by decide) ⟨rfl, rfl, rfl, ⟨_, hruny236, by omega⟩, ⟨_, _, _, _, _, _, _, _, _, by omega, by omega, ⟨hgy243, hgy252, hgy261, hgy270, hgy279, hgy288, hgy297⟩⟩, hoky298, fun j j1 j2 => by rw [hfvy233 _ (by omega)]; rw [hfvy230 _ (by omega)]; rw [hfvy227 _ (by omega)]; rw [hfvy47 _ (by omega)]; rw [hfvy44 _ (by omega)]; rw [hfvy41 _ (by omega)]; rw [hfvy38 _ (by omega)]; rw [hfvy21 _ (by omega)]; rw [hfvy18 _ (by omega)]⟩
        · refine z_aload_n C 8 dX7_readLayer_128 rfl ?_
          have hgy299 := (hfvy38 (890) (by decide)).trans hgy27
          have hgy300 := (hfvy41 (890) (by decide)).trans hgy299
          have hgy301 := (hfvy44 (890) (by decide)).trans hgy300
          have hgy302 := (hfvy47 (890) (by decide)).trans hgy301
          have hgy303 := (hfvy227 (890) (by decide)).trans hgy302
          have hgy304 := (hfvy230 (890) (by decide)).trans hgy303
          have hgy305 := (hfvy233 (890) (by decide)).trans hgy304
          refine z_get (v := .ref (ad (890 + 1))) C (by omega) hay15 hgy305 rfl inA_X8 6 (by decide) q_189 rfl rfl dX7_readLayer_129 ?_
          refine z_iload_n C 5 dX7_readLayer_132 rfl ?_
          have hgy306 := (hfvy38 (890 + 1) (by omega)).trans hgy29
          have hgy307 := (hfvy41 (890 + 1) (by omega)).trans hgy306
          have hgy308 := (hfvy44 (890 + 1) (by omega)).trans hgy307
          have hgy309 := (hfvy47 (890 + 1) (by omega)).trans hgy308
          have hgy310 := (hfvy227 (890 + 1) (by omega)).trans hgy309
          have hgy311 := (hfvy230 (890 + 1) (by omega)).trans hgy310
          have hgy312 := (hfvy233 (890 + 1) (by omega)).trans hgy311
          refine z_aald C (by omega) hay16 hgy312 3 rfl ((vy21).toNat) (by omega) (by omega) (by decide) (uy143 (vy21).toNat (by omega)) dX7_readLayer_133 ?_
          refine z_iload C 4 dX7_readLayer_134 rfl ?_
          refine z_iload C 3 dX7_readLayer_136 rfl ?_
          refine z_iload C 2 dX7_readLayer_138 rfl ?_
          refine z_iload C 1 dX7_readLayer_140 rfl ?_
          refine z_iload C 0 dX7_readLayer_142 rfl ?_
          refine z_ineg C dX7_readLayer_144 ?_
          refine z_aload_n C 8 dX7_readLayer_145 rfl ?_
          refine z_get (v := .int (zI (uy14t 1))) C (by omega) hay15 hgy305 rfl inA_X8 1 (by decide) q_178 rfl rfl dX7_readLayer_146 ?_
          have hoky313 : okWorld cs ad gvy233 (890) := okWorld.mv (fun j j1 j2 => by rw [hfvy233 _ (by omega)]; rw [hfvy230 _ (by omega)]; rw [hfvy227 _ (by omega)]; rw [hfvy47 _ (by omega)]; rw [hfvy44 _ (by omega)]; rw [hfvy41 _ (by omega)]; rw [hfvy38 _ (by omega)]; rw [hfvy21 _ (by omega)]; rw [hfvy18 _ (by omega)]) hW9
          obtain ⟨xy314, exy315, hxy316⟩ := zI_of (zI (uy14t 1))
          rw [exy315]
          have hgy318 := (hfvy38 (890 + 2 + 2 * (vy21).toNat) (by omega)).trans hgy35
          have hgy319 := (hfvy41 (890 + 2 + 2 * (vy21).toNat) (by omega)).trans hgy318
          have hgy320 := (hfvy44 (890 + 2 + 2 * (vy21).toNat) (by omega)).trans hgy319
          have hgy321 := (hfvy47 (890 + 2 + 2 * (vy21).toNat) (by omega)).trans hgy320
          have hgy322 := (hfvy227 (890 + 2 + 2 * (vy21).toNat) (by omega)).trans hgy321
          have hgy323 := (hfvy230 (890 + 2 + 2 * (vy21).toNat) (by omega)).trans hgy322
          have hgy324 := (hfvy233 (890 + 2 + 2 * (vy21).toNat) (by omega)).trans hgy323
          have hgy325 := (hfvy18 (890 + 2 + 2 * (vy21).toNat + 1) (by omega)).trans hpy32.2
          have hgy326 := (hfvy21 (890 + 2 + 2 * (vy21).toNat + 1) (by omega)).trans hgy325
          have hgy327 := (hfvy38 (890 + 2 + 2 * (vy21).toNat + 1) (by omega)).trans hgy326
          have hgy328 := (hfvy41 (890 + 2 + 2 * (vy21).toNat + 1) (by omega)).trans hgy327
          have hgy329 := (hfvy44 (890 + 2 + 2 * (vy21).toNat + 1) (by omega)).trans hgy328
          have hgy330 := (hfvy47 (890 + 2 + 2 * (vy21).toNat + 1) (by omega)).trans hgy329
          have hgy331 := (hfvy227 (890 + 2 + 2 * (vy21).toNat + 1) (by omega)).trans hgy330
          have hgy332 := (hfvy230 (890 + 2 + 2 * (vy21).toNat + 1) (by omega)).trans hgy331
          have hgy333 := (hfvy233 (890 + 2 + 2 * (vy21).toNat + 1) (by omega)).trans hgy332
          refine z_cV (As := [.int (zI (vy38)), .int (zI (vy41)), .int (zI (vy44)), .int (zI (vy47)), .int (zI (-(vy230))), .int (zI (xy314))]) (rest := []) (ci := 5) C (c_X3_add l D A cs tt N ad _ (890 + 2 + 2 * (vy21).toNat) (by omega) _ _ _ (by omega) ⟨hgy324, hgy333⟩  (vy38) (by omega) (vy41) (by omega) (vy44) (by omega) (vy47) (by omega) (-(vy230)) (by omega) (xy314) (by omega)) (by omega) hay30 hgy324 rfl rfl mv_yX3_add q_842 hd_yX3_add (by decide) (Nat.le_of_ble_eq_true rfl) (by decide) dX7_readLayer_149 rfl (kV0 fun gvy317 hvy317 => ?_)
          obtain ⟨⟨svy317, ovy317, rvy317, hsvy317, hpvy317⟩, hfvy317⟩ := hvy317
          refine z_aload_n C 8 dX7_readLayer_152 rfl ?_
          refine z_dup C dX7_readLayer_153 rfl ?_
          have hgy334 := (hfvy317 (890) (by omega) (by omega)).trans hgy305
          refine z_get (v := .int (zI (uy14t 1))) C (by omega) hay15 hgy334 rfl inA_X8 1 (by decide) q_178 rfl rfl dX7_readLayer_154 ?_
          refine z_iconst (z := 1) C dX7_readLayer_157 rfl ?_
          refine z_iadd C dX7_readLayer_158 ?_
          refine z_put (fs' := [.int (zI (uy14t 0)), .int (zI ((uy14t 1) + 1)), .int (zI (uy14t 2)), .int (zI (uy14t 3)), .int (zI (uy14t 4)), .int (zI (uy14t 5)), .ref (ad (890 + 1))]) C (by omega) hay15 hgy334 tyX8 tyX8_ok nmX8 rfl inA_X8 1 (by decide) q_178 rfl rfl rfl rfl (Nat.le_of_ble_eq_true rfl) rfl dX7_readLayer_159 (fun gy335 egy336 => ?_)
          have hgy337 := up_s egy336
          have hgy339 := (hfvy317 (2) (by omega) (by omega)).trans hcdy234
          have hgy340 := up_n egy336 hgy339 (by decide)
          have hgy341 := (hfvy317 (1) (by omega) (by omega)).trans hddy234
          have hgy342 := up_n egy336 hgy341 (by decide)
          have hruny338 : okRun cs ad gy335 (covy233) tp := ⟨_, _, _, _, _, _, _, by omega, by omega, hgy340, hgy342⟩
          have hgy343 := (hfvy38 (883) (by decide)).trans hgy24
          have hgy344 := (hfvy41 (883) (by decide)).trans hgy343
          have hgy345 := (hfvy44 (883) (by decide)).trans hgy344
          have hgy346 := (hfvy47 (883) (by decide)).trans hgy345
          have hgy347 := (hfvy227 (883) (by decide)).trans hgy346
          have hgy348 := (hfvy230 (883) (by decide)).trans hgy347
          have hgy349 := (hfvy233 (883) (by decide)).trans hgy348
          have hgy350 := (hfvy317 (883) (by omega) (by omega)).trans hgy349
          have hgy351 := up_n egy336 hgy350 (by decide)
          have hgy352 := (hfvy18 (883 + 1) (by omega)).trans hpoy5.2.1
          have hgy353 := (hfvy21 (883 + 1) (by omega)).trans hgy352
          have hgy354 := (hfvy38 (883 + 1) (by omega)).trans hgy353
          have hgy355 := (hfvy41 (883 + 1) (by omega)).trans hgy354
          have hgy356 := (hfvy44 (883 + 1) (by omega)).trans hgy355
          have hgy357 := (hfvy47 (883 + 1) (by omega)).trans hgy356
          have hgy358 := (hfvy227 (883 + 1) (by omega)).trans hgy357
          have hgy359 := (hfvy230 (883 + 1) (by omega)).trans hgy358
          have hgy360 := (hfvy233 (883 + 1) (by omega)).trans hgy359
          have hgy361 := (hfvy317 (883 + 1) (by omega) (by omega)).trans hgy360
          have hgy362 := up_n egy336 hgy361 (by omega)
          have hgy363 := (hfvy18 (883 + 2) (by omega)).trans hpoy5.2.2.1
          have hgy364 := (hfvy21 (883 + 2) (by omega)).trans hgy363
          have hgy365 := (hfvy38 (883 + 2) (by omega)).trans hgy364
          have hgy366 := (hfvy41 (883 + 2) (by omega)).trans hgy365
          have hgy367 := (hfvy44 (883 + 2) (by omega)).trans hgy366
          have hgy368 := (hfvy47 (883 + 2) (by omega)).trans hgy367
          have hgy369 := (hfvy227 (883 + 2) (by omega)).trans hgy368
          have hgy370 := (hfvy230 (883 + 2) (by omega)).trans hgy369
          have hgy371 := (hfvy233 (883 + 2) (by omega)).trans hgy370
          have hgy372 := (hfvy317 (883 + 2) (by omega) (by omega)).trans hgy371
          have hgy373 := up_n egy336 hgy372 (by omega)
          have hgy374 := (hfvy18 (883 + 3) (by omega)).trans hpoy5.2.2.2.1
          have hgy375 := (hfvy21 (883 + 3) (by omega)).trans hgy374
          have hgy376 := (hfvy38 (883 + 3) (by omega)).trans hgy375
          have hgy377 := (hfvy41 (883 + 3) (by omega)).trans hgy376
          have hgy378 := (hfvy44 (883 + 3) (by omega)).trans hgy377
          have hgy379 := (hfvy47 (883 + 3) (by omega)).trans hgy378
          have hgy380 := (hfvy227 (883 + 3) (by omega)).trans hgy379
          have hgy381 := (hfvy230 (883 + 3) (by omega)).trans hgy380
          have hgy382 := (hfvy233 (883 + 3) (by omega)).trans hgy381
          have hgy383 := (hfvy317 (883 + 3) (by omega) (by omega)).trans hgy382
          have hgy384 := up_n egy336 hgy383 (by omega)
          have hgy385 := (hfvy18 (883 + 4) (by omega)).trans hpoy5.2.2.2.2.1
          have hgy386 := (hfvy21 (883 + 4) (by omega)).trans hgy385
          have hgy387 := (hfvy38 (883 + 4) (by omega)).trans hgy386
          have hgy388 := (hfvy41 (883 + 4) (by omega)).trans hgy387
          have hgy389 := (hfvy44 (883 + 4) (by omega)).trans hgy388
          have hgy390 := (hfvy47 (883 + 4) (by omega)).trans hgy389
          have hgy391 := (hfvy227 (883 + 4) (by omega)).trans hgy390
          have hgy392 := (hfvy230 (883 + 4) (by omega)).trans hgy391
          have hgy393 := (hfvy233 (883 + 4) (by omega)).trans hgy392
          have hgy394 := (hfvy317 (883 + 4) (by omega) (by omega)).trans hgy393
          have hgy395 := up_n egy336 hgy394 (by omega)
          have hgy396 := (hfvy18 (883 + 5) (by omega)).trans hpoy5.2.2.2.2.2.1
          have hgy397 := (hfvy21 (883 + 5) (by omega)).trans hgy396
          have hgy398 := (hfvy38 (883 + 5) (by omega)).trans hgy397
          have hgy399 := (hfvy41 (883 + 5) (by omega)).trans hgy398
          have hgy400 := (hfvy44 (883 + 5) (by omega)).trans hgy399
          have hgy401 := (hfvy47 (883 + 5) (by omega)).trans hgy400
          have hgy402 := (hfvy227 (883 + 5) (by omega)).trans hgy401
          have hgy403 := (hfvy230 (883 + 5) (by omega)).trans hgy402
          have hgy404 := (hfvy233 (883 + 5) (by omega)).trans hgy403
          have hgy405 := (hfvy317 (883 + 5) (by omega) (by omega)).trans hgy404
          have hgy406 := up_n egy336 hgy405 (by omega)
          have hgy407 := (hfvy18 (883 + 6) (by omega)).trans hpoy5.2.2.2.2.2.2
          have hgy408 := (hfvy21 (883 + 6) (by omega)).trans hgy407
          have hgy409 := (hfvy38 (883 + 6) (by omega)).trans hgy408
          have hgy410 := (hfvy41 (883 + 6) (by omega)).trans hgy409
          have hgy411 := (hfvy44 (883 + 6) (by omega)).trans hgy410
          have hgy412 := (hfvy47 (883 + 6) (by omega)).trans hgy411
          have hgy413 := (hfvy227 (883 + 6) (by omega)).trans hgy412
          have hgy414 := (hfvy230 (883 + 6) (by omega)).trans hgy413
          have hgy415 := (hfvy233 (883 + 6) (by omega)).trans hgy414
          have hgy416 := (hfvy317 (883 + 6) (by omega) (by omega)).trans hgy415
          have hgy417 := up_n egy336 hgy416 (by omega)
          have hgy418 := up_n egy336 hpvy317.1 (by omega)
          have hgy419 := up_n egy336 hpvy317.2 (by omega)
          have hGp : okPack cs ad gy335 (890 + 2 + 2 * (vy21).toNat) := ⟨_, _, _, by omega, hgy418, hgy419⟩
          have hGq : okWorld cs ad gy335 890 := okWorld.two (by omega) hoky313 (fun j j1 j2 j3 => by rw [egy336, va_up_ne _ _ (by omega)]; rw [hfvy317 _ (by omega) (by omega)]) hGp (by omega) hgy337
          exact z_vret C hr hlk dX7_readLayer_162 (by decide) (by decide) ⟨rfl, rfl, rfl, ⟨_, hruny338, by omega⟩, ⟨_, _, _, _, _, _, _, _, _, by omega, by omega, ⟨hgy351, hgy362, hgy373, hgy384, hgy395, hgy406, hgy417⟩⟩, hGq, fun j j1 j2 => by rw [egy336, va_up_ne _ _ (by omega)]; rw [hfvy317 _ (by omega) (by omega)]; rw [hfvy233 _ (by omega)]; rw [hfvy230 _ (by omega)]; rw [hfvy227 _ (by omega)]; rw [hfvy47 _ (by omega)]; rw [hfvy44 _ (by omega)]; rw [hfvy41 _ (by omega)]; rw [hfvy38 _ (by omega)]; rw [hfvy21 _ (by omega)]; rw [hfvy18 _ (by omega)]⟩
    · refine z_aload_n C 1 dX7_readLayer_45 rfl ?_
      refine z_iconst (z := 2) C dX7_readLayer_46 rfl ?_
      refine z_aload_n C 1 dX7_readLayer_47 rfl ?_
      refine z_get (v := .int (zI (tkdy22))) C (by omega) hay2 hcdy22 rfl inA_X7 7 (by decide) q_51 rfl rfl dX7_readLayer_48 ?_
      obtain ⟨xy420, exy421, hxy422⟩ := zI_of (zI (tkdy22))
      rw [exy421]
      have hruny423 : okRun cs ad gvy21 (covy21) tp := ⟨_, _, _, _, _, _, _, by omega, by omega, hcdy22, hddy22⟩
      refine z_cV (As := [.int (zI (2)), .int (zI (xy420))]) (rest := []) (ci := 9) C (c_X7_fail l D A cs tt N ad _ (by omega) _ tp hruny423 (2) (by omega) (xy420) (by omega)) (by omega) hay2 hcdy22 rfl rfl mv_yX7_fail q_809 hd_yX7_fail (by decide) (Nat.le_of_ble_eq_true rfl) (by decide) dX7_readLayer_51 rfl (kV0 fun gvy424 hvy424 => ?_)
      obtain ⟨⟨covy424, hkvy424, hnvy424⟩, hfvy424⟩ := hvy424
      obtain ⟨pldy425, endy425, tydy425, a9dy425, bedy425, tkdy425, tddy425, hAdy425, hTdy425, hcdy425, hddy425⟩ := id hkvy424
      refine z_aload_n C 1 dX7_readLayer_54 rfl ?_
      have hruny426 : okRun cs ad gvy424 (covy424) tp := ⟨_, _, _, _, _, _, _, by omega, by omega, hcdy425, hddy425⟩
      refine z_cV (As := []) (rest := []) (ci := 9) C (c_X7_kind l D A cs tt N ad _ (by omega) _ tp hruny426 ) (by omega) hay2 hcdy425 rfl rfl mv_yX7_kind q_830 hd_yX7_kind (by decide) (Nat.le_of_ble_eq_true rfl) (by decide) dX7_readLayer_55 rfl (kI0 fun vy427 gvy427 hvy427 => ?_)
      obtain ⟨hrvy427, ⟨covy427, hkvy427, hnvy427⟩, hfvy427⟩ := hvy427
      obtain ⟨pldy428, endy428, tydy428, a9dy428, bedy428, tkdy428, tddy428, hAdy428, hTdy428, hcdy428, hddy428⟩ := id hkvy427
      refine z_istore (lv' := [(4, .int (zI (vy427))), (3, .int (zI (vy21))), (0, .ref (ad 2)), (1, .ref (ad 883)), (2, .ref (ad 890))]) C dX7_readLayer_58 (by decide) rfl ?_
      refine z_aload_n C 2 dX7_readLayer_60 rfl ?_
      refine z_iconst (z := 1) C dX7_readLayer_61 rfl ?_
      refine z_bipush (z := 99) C dX7_readLayer_62 (by decide) ?_
      have hruny429 : okRun cs ad gvy427 (covy427) tp := ⟨_, _, _, _, _, _, _, by omega, by omega, hcdy428, hddy428⟩
      refine z_cV (As := [.int (zI (1)), .int (zI (99))]) (rest := []) (ci := 9) C (c_X7_number l D A cs tt N ad _ (by omega) _ tp hruny429 (1) (by omega) (99) (by omega)) (by omega) hay2 hcdy428 rfl rfl mv_yX7_number q_817 hd_yX7_number (by decide) (Nat.le_of_ble_eq_true rfl) (by decide) dX7_readLayer_64 rfl (kI0 fun vy430 gvy430 hvy430 => ?_)
      obtain ⟨hrvy430, ⟨covy430, hkvy430, hnvy430⟩, hfvy430⟩ := hvy430
      obtain ⟨pldy431, endy431, tydy431, a9dy431, bedy431, tkdy431, tddy431, hAdy431, hTdy431, hcdy431, hddy431⟩ := id hkvy430
      refine z_istore (lv' := [(5, .int (zI (vy430))), (4, .int (zI (vy427))), (3, .int (zI (vy21))), (0, .ref (ad 2)), (1, .ref (ad 883)), (2, .ref (ad 890))]) C dX7_readLayer_67 (by decide) rfl ?_
      refine z_aload_n C 3 dX7_readLayer_69 rfl ?_
      refine z_iconst (z := 0) C dX7_readLayer_70 rfl ?_
      refine z_bipush (z := 99) C dX7_readLayer_71 (by decide) ?_
      have hruny432 : okRun cs ad gvy430 (covy430) tp := ⟨_, _, _, _, _, _, _, by omega, by omega, hcdy431, hddy431⟩
      refine z_cV (As := [.int (zI (0)), .int (zI (99))]) (rest := []) (ci := 9) C (c_X7_number l D A cs tt N ad _ (by omega) _ tp hruny432 (0) (by omega) (99) (by omega)) (by omega) hay2 hcdy431 rfl rfl mv_yX7_number q_817 hd_yX7_number (by decide) (Nat.le_of_ble_eq_true rfl) (by decide) dX7_readLayer_73 rfl (kI0 fun vy433 gvy433 hvy433 => ?_)
      obtain ⟨hrvy433, ⟨covy433, hkvy433, hnvy433⟩, hfvy433⟩ := hvy433
      obtain ⟨pldy434, endy434, tydy434, a9dy434, bedy434, tkdy434, tddy434, hAdy434, hTdy434, hcdy434, hddy434⟩ := id hkvy433
      refine z_istore (lv' := [(6, .int (zI (vy433))), (5, .int (zI (vy430))), (4, .int (zI (vy427))), (3, .int (zI (vy21))), (0, .ref (ad 2)), (1, .ref (ad 883)), (2, .ref (ad 890))]) C dX7_readLayer_76 (by decide) rfl ?_
      refine z_aload_n C 4 dX7_readLayer_78 rfl ?_
      refine z_iconst (z := 1) C dX7_readLayer_79 rfl ?_
      refine z_sipush (z := 999) C dX7_readLayer_80 (by decide) ?_
      have hruny435 : okRun cs ad gvy433 (covy433) tp := ⟨_, _, _, _, _, _, _, by omega, by omega, hcdy434, hddy434⟩
      refine z_cV (As := [.int (zI (1)), .int (zI (999))]) (rest := []) (ci := 9) C (c_X7_number l D A cs tt N ad _ (by omega) _ tp hruny435 (1) (by omega) (999) (by omega)) (by omega) hay2 hcdy434 rfl rfl mv_yX7_number q_817 hd_yX7_number (by decide) (Nat.le_of_ble_eq_true rfl) (by decide) dX7_readLayer_83 rfl (kI0 fun vy436 gvy436 hvy436 => ?_)
      obtain ⟨hrvy436, ⟨covy436, hkvy436, hnvy436⟩, hfvy436⟩ := hvy436
      obtain ⟨pldy437, endy437, tydy437, a9dy437, bedy437, tkdy437, tddy437, hAdy437, hTdy437, hcdy437, hddy437⟩ := id hkvy436
      refine z_istore (lv' := [(7, .int (zI (vy436))), (6, .int (zI (vy433))), (5, .int (zI (vy430))), (4, .int (zI (vy427))), (3, .int (zI (vy21))), (0, .ref (ad 2)), (1, .ref (ad 883)), (2, .ref (ad 890))]) C dX7_readLayer_86 (by decide) rfl ?_
      refine z_iload C 0 dX7_readLayer_88 rfl ?_
      refine z_iload C 2 dX7_readLayer_90 rfl ?_
      refine z_iload C 1 dX7_readLayer_92 rfl ?_
      refine z_iadd C dX7_readLayer_94 ?_
      refine z_icmp_ge (tgt := 107) C dX7_readLayer_95 (by decide) (by omega) (by omega) (fun hby438 => ?_) (fun hby438 => ?_)
      · refine z_aload_n C 5 dX7_readLayer_107 rfl ?_
        refine z_iconst (z := 0) C dX7_readLayer_108 rfl ?_
        refine z_sipush (z := 300) C dX7_readLayer_109 (by decide) ?_
        have hruny439 : okRun cs ad gvy436 (covy436) tp := ⟨_, _, _, _, _, _, _, by omega, by omega, hcdy437, hddy437⟩
        refine z_cV (As := [.int (zI (0)), .int (zI (300))]) (rest := []) (ci := 9) C (c_X7_number l D A cs tt N ad _ (by omega) _ tp hruny439 (0) (by omega) (300) (by omega)) (by omega) hay2 hcdy437 rfl rfl mv_yX7_number q_817 hd_yX7_number (by decide) (Nat.le_of_ble_eq_true rfl) (by decide) dX7_readLayer_112 rfl (kI0 fun vy440 gvy440 hvy440 => ?_)
        obtain ⟨hrvy440, ⟨covy440, hkvy440, hnvy440⟩, hfvy440⟩ := hvy440
        obtain ⟨pldy441, endy441, tydy441, a9dy441, bedy441, tkdy441, tddy441, hAdy441, hTdy441, hcdy441, hddy441⟩ := id hkvy440
        refine z_istore (lv' := [(8, .int (zI (vy440))), (7, .int (zI (vy436))), (6, .int (zI (vy433))), (5, .int (zI (vy430))), (4, .int (zI (vy427))), (3, .int (zI (vy21))), (0, .ref (ad 2)), (1, .ref (ad 883)), (2, .ref (ad 890))]) C dX7_readLayer_115 (by decide) rfl ?_
        refine z_aload_n C 6 dX7_readLayer_117 rfl ?_
        have hruny442 : okRun cs ad gvy440 (covy440) tp := ⟨_, _, _, _, _, _, _, by omega, by omega, hcdy441, hddy441⟩
        refine z_cV (As := []) (rest := []) (ci := 9) C (c_X7_close l D A cs tt N ad _ (by omega) _ tp hruny442 ) (by omega) hay2 hcdy441 rfl rfl mv_yX7_close q_821 hd_yX7_close (by decide) (Nat.le_of_ble_eq_true rfl) (by decide) dX7_readLayer_118 rfl (kV0 fun gvy443 hvy443 => ?_)
        obtain ⟨⟨covy443, hkvy443, hnvy443⟩, hfvy443⟩ := hvy443
        obtain ⟨pldy444, endy444, tydy444, a9dy444, bedy444, tkdy444, tddy444, hAdy444, hTdy444, hcdy444, hddy444⟩ := id hkvy443
        refine z_aload_n C 6 dX7_readLayer_121 rfl ?_
        refine z_get (v := .int (zI (covy443))) C (by omega) hay2 hcdy444 rfl inA_X7 1 (by decide) q_45 rfl rfl dX7_readLayer_122 ?_
        refine z_if_ne (tgt := 162) C dX7_readLayer_125 (by decide) (by omega) (fun hby445 => ?_) (fun hby445 => ?_)
        · have hruny446 : okRun cs ad gvy443 (covy443) tp := ⟨_, _, _, _, _, _, _, by omega, by omega, hcdy444, hddy444⟩
          have hgy447 := (hfvy424 (883) (by decide)).trans hgy24
          have hgy448 := (hfvy427 (883) (by decide)).trans hgy447
          have hgy449 := (hfvy430 (883) (by decide)).trans hgy448
          have hgy450 := (hfvy433 (883) (by decide)).trans hgy449
          have hgy451 := (hfvy436 (883) (by decide)).trans hgy450
          have hgy452 := (hfvy440 (883) (by decide)).trans hgy451
          have hgy453 := (hfvy443 (883) (by decide)).trans hgy452
          have hgy454 := (hfvy18 (883 + 1) (by omega)).trans hpoy5.2.1
          have hgy455 := (hfvy21 (883 + 1) (by omega)).trans hgy454
          have hgy456 := (hfvy424 (883 + 1) (by omega)).trans hgy455
          have hgy457 := (hfvy427 (883 + 1) (by omega)).trans hgy456
          have hgy458 := (hfvy430 (883 + 1) (by omega)).trans hgy457
          have hgy459 := (hfvy433 (883 + 1) (by omega)).trans hgy458
          have hgy460 := (hfvy436 (883 + 1) (by omega)).trans hgy459
          have hgy461 := (hfvy440 (883 + 1) (by omega)).trans hgy460
          have hgy462 := (hfvy443 (883 + 1) (by omega)).trans hgy461
          have hgy463 := (hfvy18 (883 + 2) (by omega)).trans hpoy5.2.2.1
          have hgy464 := (hfvy21 (883 + 2) (by omega)).trans hgy463
          have hgy465 := (hfvy424 (883 + 2) (by omega)).trans hgy464
          have hgy466 := (hfvy427 (883 + 2) (by omega)).trans hgy465
          have hgy467 := (hfvy430 (883 + 2) (by omega)).trans hgy466
          have hgy468 := (hfvy433 (883 + 2) (by omega)).trans hgy467
          have hgy469 := (hfvy436 (883 + 2) (by omega)).trans hgy468
          have hgy470 := (hfvy440 (883 + 2) (by omega)).trans hgy469
          have hgy471 := (hfvy443 (883 + 2) (by omega)).trans hgy470
          have hgy472 := (hfvy18 (883 + 3) (by omega)).trans hpoy5.2.2.2.1
          have hgy473 := (hfvy21 (883 + 3) (by omega)).trans hgy472
          have hgy474 := (hfvy424 (883 + 3) (by omega)).trans hgy473
          have hgy475 := (hfvy427 (883 + 3) (by omega)).trans hgy474
          have hgy476 := (hfvy430 (883 + 3) (by omega)).trans hgy475
          have hgy477 := (hfvy433 (883 + 3) (by omega)).trans hgy476
          have hgy478 := (hfvy436 (883 + 3) (by omega)).trans hgy477
          have hgy479 := (hfvy440 (883 + 3) (by omega)).trans hgy478
          have hgy480 := (hfvy443 (883 + 3) (by omega)).trans hgy479
          have hgy481 := (hfvy18 (883 + 4) (by omega)).trans hpoy5.2.2.2.2.1
          have hgy482 := (hfvy21 (883 + 4) (by omega)).trans hgy481
          have hgy483 := (hfvy424 (883 + 4) (by omega)).trans hgy482
          have hgy484 := (hfvy427 (883 + 4) (by omega)).trans hgy483
          have hgy485 := (hfvy430 (883 + 4) (by omega)).trans hgy484
          have hgy486 := (hfvy433 (883 + 4) (by omega)).trans hgy485
          have hgy487 := (hfvy436 (883 + 4) (by omega)).trans hgy486
          have hgy488 := (hfvy440 (883 + 4) (by omega)).trans hgy487
          have hgy489 := (hfvy443 (883 + 4) (by omega)).trans hgy488
          have hgy490 := (hfvy18 (883 + 5) (by omega)).trans hpoy5.2.2.2.2.2.1
          have hgy491 := (hfvy21 (883 + 5) (by omega)).trans hgy490
          have hgy492 := (hfvy424 (883 + 5) (by omega)).trans hgy491
          have hgy493 := (hfvy427 (883 + 5) (by omega)).trans hgy492
          have hgy494 := (hfvy430 (883 + 5) (by omega)).trans hgy493
          have hgy495 := (hfvy433 (883 + 5) (by omega)).trans hgy494
          have hgy496 := (hfvy436 (883 + 5) (by omega)).trans hgy495
          have hgy497 := (hfvy440 (883 + 5) (by omega)).trans hgy496
          have hgy498 := (hfvy443 (883 + 5) (by omega)).trans hgy497
          have hgy499 := (hfvy18 (883 + 6) (by omega)).trans hpoy5.2.2.2.2.2.2
          have hgy500 := (hfvy21 (883 + 6) (by omega)).trans hgy499
          have hgy501 := (hfvy424 (883 + 6) (by omega)).trans hgy500
          have hgy502 := (hfvy427 (883 + 6) (by omega)).trans hgy501
          have hgy503 := (hfvy430 (883 + 6) (by omega)).trans hgy502
          have hgy504 := (hfvy433 (883 + 6) (by omega)).trans hgy503
          have hgy505 := (hfvy436 (883 + 6) (by omega)).trans hgy504
          have hgy506 := (hfvy440 (883 + 6) (by omega)).trans hgy505
          have hgy507 := (hfvy443 (883 + 6) (by omega)).trans hgy506
          have hoky508 : okWorld cs ad gvy443 (890) := okWorld.mv (fun j j1 j2 => by rw [hfvy443 _ (by omega)]; rw [hfvy440 _ (by omega)]; rw [hfvy436 _ (by omega)]; rw [hfvy433 _ (by omega)]; rw [hfvy430 _ (by omega)]; rw [hfvy427 _ (by omega)]; rw [hfvy424 _ (by omega)]; rw [hfvy21 _ (by omega)]; rw [hfvy18 _ (by omega)]) hW9
          exact z_vret C hr hlk dX7_readLayer_162 (by decide) (by decide) ⟨rfl, rfl, rfl, ⟨_, hruny446, by omega⟩, ⟨_, _, _, _, _, _, _, _, _, by omega, by omega, ⟨hgy453, hgy462, hgy471, hgy480, hgy489, hgy498, hgy507⟩⟩, hoky508, fun j j1 j2 => by rw [hfvy443 _ (by omega)]; rw [hfvy440 _ (by omega)]; rw [hfvy436 _ (by omega)]; rw [hfvy433 _ (by omega)]; rw [hfvy430 _ (by omega)]; rw [hfvy427 _ (by omega)]; rw [hfvy424 _ (by omega)]; rw [hfvy21 _ (by omega)]; rw [hfvy18 _ (by omega)]⟩
        · refine z_aload_n C 8 dX7_readLayer_128 rfl ?_
          have hgy509 := (hfvy424 (890) (by decide)).trans hgy27
          have hgy510 := (hfvy427 (890) (by decide)).trans hgy509
          have hgy511 := (hfvy430 (890) (by decide)).trans hgy510
          have hgy512 := (hfvy433 (890) (by decide)).trans hgy511
          have hgy513 := (hfvy436 (890) (by decide)).trans hgy512
          have hgy514 := (hfvy440 (890) (by decide)).trans hgy513
          have hgy515 := (hfvy443 (890) (by decide)).trans hgy514
          refine z_get (v := .ref (ad (890 + 1))) C (by omega) hay15 hgy515 rfl inA_X8 6 (by decide) q_189 rfl rfl dX7_readLayer_129 ?_
          refine z_iload_n C 5 dX7_readLayer_132 rfl ?_
          have hgy516 := (hfvy424 (890 + 1) (by omega)).trans hgy29
          have hgy517 := (hfvy427 (890 + 1) (by omega)).trans hgy516
          have hgy518 := (hfvy430 (890 + 1) (by omega)).trans hgy517
          have hgy519 := (hfvy433 (890 + 1) (by omega)).trans hgy518
          have hgy520 := (hfvy436 (890 + 1) (by omega)).trans hgy519
          have hgy521 := (hfvy440 (890 + 1) (by omega)).trans hgy520
          have hgy522 := (hfvy443 (890 + 1) (by omega)).trans hgy521
          refine z_aald C (by omega) hay16 hgy522 3 rfl ((vy21).toNat) (by omega) (by omega) (by decide) (uy143 (vy21).toNat (by omega)) dX7_readLayer_133 ?_
          refine z_iload C 4 dX7_readLayer_134 rfl ?_
          refine z_iload C 3 dX7_readLayer_136 rfl ?_
          refine z_iload C 2 dX7_readLayer_138 rfl ?_
          refine z_iload C 1 dX7_readLayer_140 rfl ?_
          refine z_iload C 0 dX7_readLayer_142 rfl ?_
          refine z_ineg C dX7_readLayer_144 ?_
          refine z_aload_n C 8 dX7_readLayer_145 rfl ?_
          refine z_get (v := .int (zI (uy14t 1))) C (by omega) hay15 hgy515 rfl inA_X8 1 (by decide) q_178 rfl rfl dX7_readLayer_146 ?_
          have hoky523 : okWorld cs ad gvy443 (890) := okWorld.mv (fun j j1 j2 => by rw [hfvy443 _ (by omega)]; rw [hfvy440 _ (by omega)]; rw [hfvy436 _ (by omega)]; rw [hfvy433 _ (by omega)]; rw [hfvy430 _ (by omega)]; rw [hfvy427 _ (by omega)]; rw [hfvy424 _ (by omega)]; rw [hfvy21 _ (by omega)]; rw [hfvy18 _ (by omega)]) hW9
          obtain ⟨xy524, exy525, hxy526⟩ := zI_of (zI (uy14t 1))
          rw [exy525]
          have hgy528 := (hfvy424 (890 + 2 + 2 * (vy21).toNat) (by omega)).trans hgy35
          have hgy529 := (hfvy427 (890 + 2 + 2 * (vy21).toNat) (by omega)).trans hgy528
          have hgy530 := (hfvy430 (890 + 2 + 2 * (vy21).toNat) (by omega)).trans hgy529
          have hgy531 := (hfvy433 (890 + 2 + 2 * (vy21).toNat) (by omega)).trans hgy530
          have hgy532 := (hfvy436 (890 + 2 + 2 * (vy21).toNat) (by omega)).trans hgy531
          have hgy533 := (hfvy440 (890 + 2 + 2 * (vy21).toNat) (by omega)).trans hgy532
          have hgy534 := (hfvy443 (890 + 2 + 2 * (vy21).toNat) (by omega)).trans hgy533
          have hgy535 := (hfvy18 (890 + 2 + 2 * (vy21).toNat + 1) (by omega)).trans hpy32.2
          have hgy536 := (hfvy21 (890 + 2 + 2 * (vy21).toNat + 1) (by omega)).trans hgy535
          have hgy537 := (hfvy424 (890 + 2 + 2 * (vy21).toNat + 1) (by omega)).trans hgy536
          have hgy538 := (hfvy427 (890 + 2 + 2 * (vy21).toNat + 1) (by omega)).trans hgy537
          have hgy539 := (hfvy430 (890 + 2 + 2 * (vy21).toNat + 1) (by omega)).trans hgy538
          have hgy540 := (hfvy433 (890 + 2 + 2 * (vy21).toNat + 1) (by omega)).trans hgy539
          have hgy541 := (hfvy436 (890 + 2 + 2 * (vy21).toNat + 1) (by omega)).trans hgy540
          have hgy542 := (hfvy440 (890 + 2 + 2 * (vy21).toNat + 1) (by omega)).trans hgy541
          have hgy543 := (hfvy443 (890 + 2 + 2 * (vy21).toNat + 1) (by omega)).trans hgy542
          refine z_cV (As := [.int (zI (vy427)), .int (zI (vy430)), .int (zI (vy433)), .int (zI (vy436)), .int (zI (-(vy440))), .int (zI (xy524))]) (rest := []) (ci := 5) C (c_X3_add l D A cs tt N ad _ (890 + 2 + 2 * (vy21).toNat) (by omega) _ _ _ (by omega) ⟨hgy534, hgy543⟩  (vy427) (by omega) (vy430) (by omega) (vy433) (by omega) (vy436) (by omega) (-(vy440)) (by omega) (xy524) (by omega)) (by omega) hay30 hgy534 rfl rfl mv_yX3_add q_842 hd_yX3_add (by decide) (Nat.le_of_ble_eq_true rfl) (by decide) dX7_readLayer_149 rfl (kV0 fun gvy527 hvy527 => ?_)
          obtain ⟨⟨svy527, ovy527, rvy527, hsvy527, hpvy527⟩, hfvy527⟩ := hvy527
          refine z_aload_n C 8 dX7_readLayer_152 rfl ?_
          refine z_dup C dX7_readLayer_153 rfl ?_
          have hgy544 := (hfvy527 (890) (by omega) (by omega)).trans hgy515
          refine z_get (v := .int (zI (uy14t 1))) C (by omega) hay15 hgy544 rfl inA_X8 1 (by decide) q_178 rfl rfl dX7_readLayer_154 ?_
          refine z_iconst (z := 1) C dX7_readLayer_157 rfl ?_
          refine z_iadd C dX7_readLayer_158 ?_
          refine z_put (fs' := [.int (zI (uy14t 0)), .int (zI ((uy14t 1) + 1)), .int (zI (uy14t 2)), .int (zI (uy14t 3)), .int (zI (uy14t 4)), .int (zI (uy14t 5)), .ref (ad (890 + 1))]) C (by omega) hay15 hgy544 tyX8 tyX8_ok nmX8 rfl inA_X8 1 (by decide) q_178 rfl rfl rfl rfl (Nat.le_of_ble_eq_true rfl) rfl dX7_readLayer_159 (fun gy545 egy546 => ?_)
          have hgy547 := up_s egy546
          have hgy549 := (hfvy527 (2) (by omega) (by omega)).trans hcdy444
          have hgy550 := up_n egy546 hgy549 (by decide)
          have hgy551 := (hfvy527 (1) (by omega) (by omega)).trans hddy444
          have hgy552 := up_n egy546 hgy551 (by decide)
          have hruny548 : okRun cs ad gy545 (covy443) tp := ⟨_, _, _, _, _, _, _, by omega, by omega, hgy550, hgy552⟩
          have hgy553 := (hfvy424 (883) (by decide)).trans hgy24
          have hgy554 := (hfvy427 (883) (by decide)).trans hgy553
          have hgy555 := (hfvy430 (883) (by decide)).trans hgy554
          have hgy556 := (hfvy433 (883) (by decide)).trans hgy555
          have hgy557 := (hfvy436 (883) (by decide)).trans hgy556
          have hgy558 := (hfvy440 (883) (by decide)).trans hgy557
          have hgy559 := (hfvy443 (883) (by decide)).trans hgy558
          have hgy560 := (hfvy527 (883) (by omega) (by omega)).trans hgy559
          have hgy561 := up_n egy546 hgy560 (by decide)
          have hgy562 := (hfvy18 (883 + 1) (by omega)).trans hpoy5.2.1
          have hgy563 := (hfvy21 (883 + 1) (by omega)).trans hgy562
          have hgy564 := (hfvy424 (883 + 1) (by omega)).trans hgy563
          have hgy565 := (hfvy427 (883 + 1) (by omega)).trans hgy564
          have hgy566 := (hfvy430 (883 + 1) (by omega)).trans hgy565
          have hgy567 := (hfvy433 (883 + 1) (by omega)).trans hgy566
          have hgy568 := (hfvy436 (883 + 1) (by omega)).trans hgy567
          have hgy569 := (hfvy440 (883 + 1) (by omega)).trans hgy568
          have hgy570 := (hfvy443 (883 + 1) (by omega)).trans hgy569
          have hgy571 := (hfvy527 (883 + 1) (by omega) (by omega)).trans hgy570
          have hgy572 := up_n egy546 hgy571 (by omega)
          have hgy573 := (hfvy18 (883 + 2) (by omega)).trans hpoy5.2.2.1
          have hgy574 := (hfvy21 (883 + 2) (by omega)).trans hgy573
          have hgy575 := (hfvy424 (883 + 2) (by omega)).trans hgy574
          have hgy576 := (hfvy427 (883 + 2) (by omega)).trans hgy575
          have hgy577 := (hfvy430 (883 + 2) (by omega)).trans hgy576
          have hgy578 := (hfvy433 (883 + 2) (by omega)).trans hgy577
          have hgy579 := (hfvy436 (883 + 2) (by omega)).trans hgy578
          have hgy580 := (hfvy440 (883 + 2) (by omega)).trans hgy579
          have hgy581 := (hfvy443 (883 + 2) (by omega)).trans hgy580
          have hgy582 := (hfvy527 (883 + 2) (by omega) (by omega)).trans hgy581
          have hgy583 := up_n egy546 hgy582 (by omega)
          have hgy584 := (hfvy18 (883 + 3) (by omega)).trans hpoy5.2.2.2.1
          have hgy585 := (hfvy21 (883 + 3) (by omega)).trans hgy584
          have hgy586 := (hfvy424 (883 + 3) (by omega)).trans hgy585
          have hgy587 := (hfvy427 (883 + 3) (by omega)).trans hgy586
          have hgy588 := (hfvy430 (883 + 3) (by omega)).trans hgy587
          have hgy589 := (hfvy433 (883 + 3) (by omega)).trans hgy588
          have hgy590 := (hfvy436 (883 + 3) (by omega)).trans hgy589
          have hgy591 := (hfvy440 (883 + 3) (by omega)).trans hgy590
          have hgy592 := (hfvy443 (883 + 3) (by omega)).trans hgy591
          have hgy593 := (hfvy527 (883 + 3) (by omega) (by omega)).trans hgy592
          have hgy594 := up_n egy546 hgy593 (by omega)
          have hgy595 := (hfvy18 (883 + 4) (by omega)).trans hpoy5.2.2.2.2.1
          have hgy596 := (hfvy21 (883 + 4) (by omega)).trans hgy595
          have hgy597 := (hfvy424 (883 + 4) (by omega)).trans hgy596
          have hgy598 := (hfvy427 (883 + 4) (by omega)).trans hgy597
          have hgy599 := (hfvy430 (883 + 4) (by omega)).trans hgy598
          have hgy600 := (hfvy433 (883 + 4) (by omega)).trans hgy599
          have hgy601 := (hfvy436 (883 + 4) (by omega)).trans hgy600
          have hgy602 := (hfvy440 (883 + 4) (by omega)).trans hgy601
          have hgy603 := (hfvy443 (883 + 4) (by omega)).trans hgy602
          have hgy604 := (hfvy527 (883 + 4) (by omega) (by omega)).trans hgy603
          have hgy605 := up_n egy546 hgy604 (by omega)
          have hgy606 := (hfvy18 (883 + 5) (by omega)).trans hpoy5.2.2.2.2.2.1
          have hgy607 := (hfvy21 (883 + 5) (by omega)).trans hgy606
          have hgy608 := (hfvy424 (883 + 5) (by omega)).trans hgy607
          have hgy609 := (hfvy427 (883 + 5) (by omega)).trans hgy608
          have hgy610 := (hfvy430 (883 + 5) (by omega)).trans hgy609
          have hgy611 := (hfvy433 (883 + 5) (by omega)).trans hgy610
          have hgy612 := (hfvy436 (883 + 5) (by omega)).trans hgy611
          have hgy613 := (hfvy440 (883 + 5) (by omega)).trans hgy612
          have hgy614 := (hfvy443 (883 + 5) (by omega)).trans hgy613
          have hgy615 := (hfvy527 (883 + 5) (by omega) (by omega)).trans hgy614
          have hgy616 := up_n egy546 hgy615 (by omega)
          have hgy617 := (hfvy18 (883 + 6) (by omega)).trans hpoy5.2.2.2.2.2.2
          have hgy618 := (hfvy21 (883 + 6) (by omega)).trans hgy617
          have hgy619 := (hfvy424 (883 + 6) (by omega)).trans hgy618
          have hgy620 := (hfvy427 (883 + 6) (by omega)).trans hgy619
          have hgy621 := (hfvy430 (883 + 6) (by omega)).trans hgy620
          have hgy622 := (hfvy433 (883 + 6) (by omega)).trans hgy621
          have hgy623 := (hfvy436 (883 + 6) (by omega)).trans hgy622
          have hgy624 := (hfvy440 (883 + 6) (by omega)).trans hgy623
          have hgy625 := (hfvy443 (883 + 6) (by omega)).trans hgy624
          have hgy626 := (hfvy527 (883 + 6) (by omega) (by omega)).trans hgy625
          have hgy627 := up_n egy546 hgy626 (by omega)
          have hgy628 := up_n egy546 hpvy527.1 (by omega)
          have hgy629 := up_n egy546 hpvy527.2 (by omega)
          have hGp : okPack cs ad gy545 (890 + 2 + 2 * (vy21).toNat) := ⟨_, _, _, by omega, hgy628, hgy629⟩
          have hGq : okWorld cs ad gy545 890 := okWorld.two (by omega) hoky523 (fun j j1 j2 j3 => by rw [egy546, va_up_ne _ _ (by omega)]; rw [hfvy527 _ (by omega) (by omega)]) hGp (by omega) hgy547
          exact z_vret C hr hlk dX7_readLayer_162 (by decide) (by decide) ⟨rfl, rfl, rfl, ⟨_, hruny548, by omega⟩, ⟨_, _, _, _, _, _, _, _, _, by omega, by omega, ⟨hgy561, hgy572, hgy583, hgy594, hgy605, hgy616, hgy627⟩⟩, hGq, fun j j1 j2 => by rw [egy546, va_up_ne _ _ (by omega)]; rw [hfvy527 _ (by omega) (by omega)]; rw [hfvy443 _ (by omega)]; rw [hfvy440 _ (by omega)]; rw [hfvy436 _ (by omega)]; rw [hfvy433 _ (by omega)]; rw [hfvy430 _ (by omega)]; rw [hfvy427 _ (by omega)]; rw [hfvy424 _ (by omega)]; rw [hfvy21 _ (by omega)]; rw [hfvy18 _ (by omega)]⟩
      · refine z_aload_n C 5 dX7_readLayer_98 rfl ?_
        refine z_iconst (z := 5) C dX7_readLayer_99 rfl ?_
        refine z_aload_n C 5 dX7_readLayer_100 rfl ?_
        refine z_get (v := .int (zI (tkdy437))) C (by omega) hay2 hcdy437 rfl inA_X7 7 (by decide) q_51 rfl rfl dX7_readLayer_101 ?_
        obtain ⟨xy630, exy631, hxy632⟩ := zI_of (zI (tkdy437))
        rw [exy631]
        have hruny633 : okRun cs ad gvy436 (covy436) tp := ⟨_, _, _, _, _, _, _, by omega, by omega, hcdy437, hddy437⟩
        refine z_cV (As := [.int (zI (5)), .int (zI (xy630))]) (rest := []) (ci := 9) C (c_X7_fail l D A cs tt N ad _ (by omega) _ tp hruny633 (5) (by omega) (xy630) (by omega)) (by omega) hay2 hcdy437 rfl rfl mv_yX7_fail q_809 hd_yX7_fail (by decide) (Nat.le_of_ble_eq_true rfl) (by decide) dX7_readLayer_104 rfl (kV0 fun gvy634 hvy634 => ?_)
        obtain ⟨⟨covy634, hkvy634, hnvy634⟩, hfvy634⟩ := hvy634
        obtain ⟨pldy635, endy635, tydy635, a9dy635, bedy635, tkdy635, tddy635, hAdy635, hTdy635, hcdy635, hddy635⟩ := id hkvy634
        refine z_aload_n C 5 dX7_readLayer_107 rfl ?_
        refine z_iconst (z := 0) C dX7_readLayer_108 rfl ?_
        refine z_sipush (z := 300) C dX7_readLayer_109 (by decide) ?_
        have hruny636 : okRun cs ad gvy634 (covy634) tp := ⟨_, _, _, _, _, _, _, by omega, by omega, hcdy635, hddy635⟩
        refine z_cV (As := [.int (zI (0)), .int (zI (300))]) (rest := []) (ci := 9) C (c_X7_number l D A cs tt N ad _ (by omega) _ tp hruny636 (0) (by omega) (300) (by omega)) (by omega) hay2 hcdy635 rfl rfl mv_yX7_number q_817 hd_yX7_number (by decide) (Nat.le_of_ble_eq_true rfl) (by decide) dX7_readLayer_112 rfl (kI0 fun vy637 gvy637 hvy637 => ?_)
        obtain ⟨hrvy637, ⟨covy637, hkvy637, hnvy637⟩, hfvy637⟩ := hvy637
        obtain ⟨pldy638, endy638, tydy638, a9dy638, bedy638, tkdy638, tddy638, hAdy638, hTdy638, hcdy638, hddy638⟩ := id hkvy637
        refine z_istore (lv' := [(8, .int (zI (vy637))), (7, .int (zI (vy436))), (6, .int (zI (vy433))), (5, .int (zI (vy430))), (4, .int (zI (vy427))), (3, .int (zI (vy21))), (0, .ref (ad 2)), (1, .ref (ad 883)), (2, .ref (ad 890))]) C dX7_readLayer_115 (by decide) rfl ?_
        refine z_aload_n C 6 dX7_readLayer_117 rfl ?_
        have hruny639 : okRun cs ad gvy637 (covy637) tp := ⟨_, _, _, _, _, _, _, by omega, by omega, hcdy638, hddy638⟩
        refine z_cV (As := []) (rest := []) (ci := 9) C (c_X7_close l D A cs tt N ad _ (by omega) _ tp hruny639 ) (by omega) hay2 hcdy638 rfl rfl mv_yX7_close q_821 hd_yX7_close (by decide) (Nat.le_of_ble_eq_true rfl) (by decide) dX7_readLayer_118 rfl (kV0 fun gvy640 hvy640 => ?_)
        obtain ⟨⟨covy640, hkvy640, hnvy640⟩, hfvy640⟩ := hvy640
        obtain ⟨pldy641, endy641, tydy641, a9dy641, bedy641, tkdy641, tddy641, hAdy641, hTdy641, hcdy641, hddy641⟩ := id hkvy640
        refine z_aload_n C 6 dX7_readLayer_121 rfl ?_
        refine z_get (v := .int (zI (covy640))) C (by omega) hay2 hcdy641 rfl inA_X7 1 (by decide) q_45 rfl rfl dX7_readLayer_122 ?_
        refine z_if_ne (tgt := 162) C dX7_readLayer_125 (by decide) (by omega) (fun hby642 => ?_) (fun hby642 => ?_)
        · have hruny643 : okRun cs ad gvy640 (covy640) tp := ⟨_, _, _, _, _, _, _, by omega, by omega, hcdy641, hddy641⟩
          have hgy644 := (hfvy424 (883) (by decide)).trans hgy24
          have hgy645 := (hfvy427 (883) (by decide)).trans hgy644
          have hgy646 := (hfvy430 (883) (by decide)).trans hgy645
          have hgy647 := (hfvy433 (883) (by decide)).trans hgy646
          have hgy648 := (hfvy436 (883) (by decide)).trans hgy647
          have hgy649 := (hfvy634 (883) (by decide)).trans hgy648
          have hgy650 := (hfvy637 (883) (by decide)).trans hgy649
          have hgy651 := (hfvy640 (883) (by decide)).trans hgy650
          have hgy652 := (hfvy18 (883 + 1) (by omega)).trans hpoy5.2.1
          have hgy653 := (hfvy21 (883 + 1) (by omega)).trans hgy652
          have hgy654 := (hfvy424 (883 + 1) (by omega)).trans hgy653
          have hgy655 := (hfvy427 (883 + 1) (by omega)).trans hgy654
          have hgy656 := (hfvy430 (883 + 1) (by omega)).trans hgy655
          have hgy657 := (hfvy433 (883 + 1) (by omega)).trans hgy656
          have hgy658 := (hfvy436 (883 + 1) (by omega)).trans hgy657
          have hgy659 := (hfvy634 (883 + 1) (by omega)).trans hgy658
          have hgy660 := (hfvy637 (883 + 1) (by omega)).trans hgy659
          have hgy661 := (hfvy640 (883 + 1) (by omega)).trans hgy660
          have hgy662 := (hfvy18 (883 + 2) (by omega)).trans hpoy5.2.2.1
          have hgy663 := (hfvy21 (883 + 2) (by omega)).trans hgy662
          have hgy664 := (hfvy424 (883 + 2) (by omega)).trans hgy663
          have hgy665 := (hfvy427 (883 + 2) (by omega)).trans hgy664
          have hgy666 := (hfvy430 (883 + 2) (by omega)).trans hgy665
          have hgy667 := (hfvy433 (883 + 2) (by omega)).trans hgy666
          have hgy668 := (hfvy436 (883 + 2) (by omega)).trans hgy667
          have hgy669 := (hfvy634 (883 + 2) (by omega)).trans hgy668
          have hgy670 := (hfvy637 (883 + 2) (by omega)).trans hgy669
          have hgy671 := (hfvy640 (883 + 2) (by omega)).trans hgy670
          have hgy672 := (hfvy18 (883 + 3) (by omega)).trans hpoy5.2.2.2.1
          have hgy673 := (hfvy21 (883 + 3) (by omega)).trans hgy672
          have hgy674 := (hfvy424 (883 + 3) (by omega)).trans hgy673
          have hgy675 := (hfvy427 (883 + 3) (by omega)).trans hgy674
          have hgy676 := (hfvy430 (883 + 3) (by omega)).trans hgy675
          have hgy677 := (hfvy433 (883 + 3) (by omega)).trans hgy676
          have hgy678 := (hfvy436 (883 + 3) (by omega)).trans hgy677
          have hgy679 := (hfvy634 (883 + 3) (by omega)).trans hgy678
          have hgy680 := (hfvy637 (883 + 3) (by omega)).trans hgy679
          have hgy681 := (hfvy640 (883 + 3) (by omega)).trans hgy680
          have hgy682 := (hfvy18 (883 + 4) (by omega)).trans hpoy5.2.2.2.2.1
          have hgy683 := (hfvy21 (883 + 4) (by omega)).trans hgy682
          have hgy684 := (hfvy424 (883 + 4) (by omega)).trans hgy683
          have hgy685 := (hfvy427 (883 + 4) (by omega)).trans hgy684
          have hgy686 := (hfvy430 (883 + 4) (by omega)).trans hgy685
          have hgy687 := (hfvy433 (883 + 4) (by omega)).trans hgy686
          have hgy688 := (hfvy436 (883 + 4) (by omega)).trans hgy687
          have hgy689 := (hfvy634 (883 + 4) (by omega)).trans hgy688
          have hgy690 := (hfvy637 (883 + 4) (by omega)).trans hgy689
          have hgy691 := (hfvy640 (883 + 4) (by omega)).trans hgy690
          have hgy692 := (hfvy18 (883 + 5) (by omega)).trans hpoy5.2.2.2.2.2.1
          have hgy693 := (hfvy21 (883 + 5) (by omega)).trans hgy692
          have hgy694 := (hfvy424 (883 + 5) (by omega)).trans hgy693
          have hgy695 := (hfvy427 (883 + 5) (by omega)).trans hgy694
          have hgy696 := (hfvy430 (883 + 5) (by omega)).trans hgy695
          have hgy697 := (hfvy433 (883 + 5) (by omega)).trans hgy696
          have hgy698 := (hfvy436 (883 + 5) (by omega)).trans hgy697
          have hgy699 := (hfvy634 (883 + 5) (by omega)).trans hgy698
          have hgy700 := (hfvy637 (883 + 5) (by omega)).trans hgy699
          have hgy701 := (hfvy640 (883 + 5) (by omega)).trans hgy700
          have hgy702 := (hfvy18 (883 + 6) (by omega)).trans hpoy5.2.2.2.2.2.2
          have hgy703 := (hfvy21 (883 + 6) (by omega)).trans hgy702
          have hgy704 := (hfvy424 (883 + 6) (by omega)).trans hgy703
          have hgy705 := (hfvy427 (883 + 6) (by omega)).trans hgy704
          have hgy706 := (hfvy430 (883 + 6) (by omega)).trans hgy705
          have hgy707 := (hfvy433 (883 + 6) (by omega)).trans hgy706
          have hgy708 := (hfvy436 (883 + 6) (by omega)).trans hgy707
          have hgy709 := (hfvy634 (883 + 6) (by omega)).trans hgy708
          have hgy710 := (hfvy637 (883 + 6) (by omega)).trans hgy709
          have hgy711 := (hfvy640 (883 + 6) (by omega)).trans hgy710
          have hoky712 : okWorld cs ad gvy640 (890) := okWorld.mv (fun j j1 j2 => by rw [hfvy640 _ (by omega)]; rw [hfvy637 _ (by omega)]; rw [hfvy634 _ (by omega)]; rw [hfvy436 _ (by omega)]; rw [hfvy433 _ (by omega)]; rw [hfvy430 _ (by omega)]; rw [hfvy427 _ (by omega)]; rw [hfvy424 _ (by omega)]; rw [hfvy21 _ (by omega)]; rw [hfvy18 _ (by omega)]) hW9
          exact z_vret C hr hlk dX7_readLayer_162 (by decide) (by decide) ⟨rfl, rfl, rfl, ⟨_, hruny643, by omega⟩, ⟨_, _, _, _, _, _, _, _, _, by omega, by omega, ⟨hgy651, hgy661, hgy671, hgy681, hgy691, hgy701, hgy711⟩⟩, hoky712, fun j j1 j2 => by rw [hfvy640 _ (by omega)]; rw [hfvy637 _ (by omega)]; rw [hfvy634 _ (by omega)]; rw [hfvy436 _ (by omega)]; rw [hfvy433 _ (by omega)]; rw [hfvy430 _ (by omega)]; rw [hfvy427 _ (by omega)]; rw [hfvy424 _ (by omega)]; rw [hfvy21 _ (by omega)]; rw [hfvy18 _ (by omega)]⟩
        · refine z_aload_n C 8 dX7_readLayer_128 rfl ?_
          have hgy713 := (hfvy424 (890) (by decide)).trans hgy27
          have hgy714 := (hfvy427 (890) (by decide)).trans hgy713
          have hgy715 := (hfvy430 (890) (by decide)).trans hgy714
          have hgy716 := (hfvy433 (890) (by decide)).trans hgy715
          have hgy717 := (hfvy436 (890) (by decide)).trans hgy716
          have hgy718 := (hfvy634 (890) (by decide)).trans hgy717
          have hgy719 := (hfvy637 (890) (by decide)).trans hgy718
          have hgy720 := (hfvy640 (890) (by decide)).trans hgy719
          refine z_get (v := .ref (ad (890 + 1))) C (by omega) hay15 hgy720 rfl inA_X8 6 (by decide) q_189 rfl rfl dX7_readLayer_129 ?_
          refine z_iload_n C 5 dX7_readLayer_132 rfl ?_
          have hgy721 := (hfvy424 (890 + 1) (by omega)).trans hgy29
          have hgy722 := (hfvy427 (890 + 1) (by omega)).trans hgy721
          have hgy723 := (hfvy430 (890 + 1) (by omega)).trans hgy722
          have hgy724 := (hfvy433 (890 + 1) (by omega)).trans hgy723
          have hgy725 := (hfvy436 (890 + 1) (by omega)).trans hgy724
          have hgy726 := (hfvy634 (890 + 1) (by omega)).trans hgy725
          have hgy727 := (hfvy637 (890 + 1) (by omega)).trans hgy726
          have hgy728 := (hfvy640 (890 + 1) (by omega)).trans hgy727
          refine z_aald C (by omega) hay16 hgy728 3 rfl ((vy21).toNat) (by omega) (by omega) (by decide) (uy143 (vy21).toNat (by omega)) dX7_readLayer_133 ?_
          refine z_iload C 4 dX7_readLayer_134 rfl ?_
          refine z_iload C 3 dX7_readLayer_136 rfl ?_
          refine z_iload C 2 dX7_readLayer_138 rfl ?_
          refine z_iload C 1 dX7_readLayer_140 rfl ?_
          refine z_iload C 0 dX7_readLayer_142 rfl ?_
          refine z_ineg C dX7_readLayer_144 ?_
          refine z_aload_n C 8 dX7_readLayer_145 rfl ?_
          refine z_get (v := .int (zI (uy14t 1))) C (by omega) hay15 hgy720 rfl inA_X8 1 (by decide) q_178 rfl rfl dX7_readLayer_146 ?_
          have hoky729 : okWorld cs ad gvy640 (890) := okWorld.mv (fun j j1 j2 => by rw [hfvy640 _ (by omega)]; rw [hfvy637 _ (by omega)]; rw [hfvy634 _ (by omega)]; rw [hfvy436 _ (by omega)]; rw [hfvy433 _ (by omega)]; rw [hfvy430 _ (by omega)]; rw [hfvy427 _ (by omega)]; rw [hfvy424 _ (by omega)]; rw [hfvy21 _ (by omega)]; rw [hfvy18 _ (by omega)]) hW9
          obtain ⟨xy730, exy731, hxy732⟩ := zI_of (zI (uy14t 1))
          rw [exy731]
          have hgy734 := (hfvy424 (890 + 2 + 2 * (vy21).toNat) (by omega)).trans hgy35
          have hgy735 := (hfvy427 (890 + 2 + 2 * (vy21).toNat) (by omega)).trans hgy734
          have hgy736 := (hfvy430 (890 + 2 + 2 * (vy21).toNat) (by omega)).trans hgy735
          have hgy737 := (hfvy433 (890 + 2 + 2 * (vy21).toNat) (by omega)).trans hgy736
          have hgy738 := (hfvy436 (890 + 2 + 2 * (vy21).toNat) (by omega)).trans hgy737
          have hgy739 := (hfvy634 (890 + 2 + 2 * (vy21).toNat) (by omega)).trans hgy738
          have hgy740 := (hfvy637 (890 + 2 + 2 * (vy21).toNat) (by omega)).trans hgy739
          have hgy741 := (hfvy640 (890 + 2 + 2 * (vy21).toNat) (by omega)).trans hgy740
          have hgy742 := (hfvy18 (890 + 2 + 2 * (vy21).toNat + 1) (by omega)).trans hpy32.2
          have hgy743 := (hfvy21 (890 + 2 + 2 * (vy21).toNat + 1) (by omega)).trans hgy742
          have hgy744 := (hfvy424 (890 + 2 + 2 * (vy21).toNat + 1) (by omega)).trans hgy743
          have hgy745 := (hfvy427 (890 + 2 + 2 * (vy21).toNat + 1) (by omega)).trans hgy744
          have hgy746 := (hfvy430 (890 + 2 + 2 * (vy21).toNat + 1) (by omega)).trans hgy745
          have hgy747 := (hfvy433 (890 + 2 + 2 * (vy21).toNat + 1) (by omega)).trans hgy746
          have hgy748 := (hfvy436 (890 + 2 + 2 * (vy21).toNat + 1) (by omega)).trans hgy747
          have hgy749 := (hfvy634 (890 + 2 + 2 * (vy21).toNat + 1) (by omega)).trans hgy748
          have hgy750 := (hfvy637 (890 + 2 + 2 * (vy21).toNat + 1) (by omega)).trans hgy749
          have hgy751 := (hfvy640 (890 + 2 + 2 * (vy21).toNat + 1) (by omega)).trans hgy750
          refine z_cV (As := [.int (zI (vy427)), .int (zI (vy430)), .int (zI (vy433)), .int (zI (vy436)), .int (zI (-(vy637))), .int (zI (xy730))]) (rest := []) (ci := 5) C (c_X3_add l D A cs tt N ad _ (890 + 2 + 2 * (vy21).toNat) (by omega) _ _ _ (by omega) ⟨hgy741, hgy751⟩  (vy427) (by omega) (vy430) (by omega) (vy433) (by omega) (vy436) (by omega) (-(vy637)) (by omega) (xy730) (by omega)) (by omega) hay30 hgy741 rfl rfl mv_yX3_add q_842 hd_yX3_add (by decide) (Nat.le_of_ble_eq_true rfl) (by decide) dX7_readLayer_149 rfl (kV0 fun gvy733 hvy733 => ?_)
          obtain ⟨⟨svy733, ovy733, rvy733, hsvy733, hpvy733⟩, hfvy733⟩ := hvy733
          refine z_aload_n C 8 dX7_readLayer_152 rfl ?_
          refine z_dup C dX7_readLayer_153 rfl ?_
          have hgy752 := (hfvy733 (890) (by omega) (by omega)).trans hgy720
          refine z_get (v := .int (zI (uy14t 1))) C (by omega) hay15 hgy752 rfl inA_X8 1 (by decide) q_178 rfl rfl dX7_readLayer_154 ?_
          refine z_iconst (z := 1) C dX7_readLayer_157 rfl ?_
          refine z_iadd C dX7_readLayer_158 ?_
          refine z_put (fs' := [.int (zI (uy14t 0)), .int (zI ((uy14t 1) + 1)), .int (zI (uy14t 2)), .int (zI (uy14t 3)), .int (zI (uy14t 4)), .int (zI (uy14t 5)), .ref (ad (890 + 1))]) C (by omega) hay15 hgy752 tyX8 tyX8_ok nmX8 rfl inA_X8 1 (by decide) q_178 rfl rfl rfl rfl (Nat.le_of_ble_eq_true rfl) rfl dX7_readLayer_159 (fun gy753 egy754 => ?_)
          have hgy755 := up_s egy754
          have hgy757 := (hfvy733 (2) (by omega) (by omega)).trans hcdy641
          have hgy758 := up_n egy754 hgy757 (by decide)
          have hgy759 := (hfvy733 (1) (by omega) (by omega)).trans hddy641
          have hgy760 := up_n egy754 hgy759 (by decide)
          have hruny756 : okRun cs ad gy753 (covy640) tp := ⟨_, _, _, _, _, _, _, by omega, by omega, hgy758, hgy760⟩
          have hgy761 := (hfvy424 (883) (by decide)).trans hgy24
          have hgy762 := (hfvy427 (883) (by decide)).trans hgy761
          have hgy763 := (hfvy430 (883) (by decide)).trans hgy762
          have hgy764 := (hfvy433 (883) (by decide)).trans hgy763
          have hgy765 := (hfvy436 (883) (by decide)).trans hgy764
          have hgy766 := (hfvy634 (883) (by decide)).trans hgy765
          have hgy767 := (hfvy637 (883) (by decide)).trans hgy766
          have hgy768 := (hfvy640 (883) (by decide)).trans hgy767
          have hgy769 := (hfvy733 (883) (by omega) (by omega)).trans hgy768
          have hgy770 := up_n egy754 hgy769 (by decide)
          have hgy771 := (hfvy18 (883 + 1) (by omega)).trans hpoy5.2.1
          have hgy772 := (hfvy21 (883 + 1) (by omega)).trans hgy771
          have hgy773 := (hfvy424 (883 + 1) (by omega)).trans hgy772
          have hgy774 := (hfvy427 (883 + 1) (by omega)).trans hgy773
          have hgy775 := (hfvy430 (883 + 1) (by omega)).trans hgy774
          have hgy776 := (hfvy433 (883 + 1) (by omega)).trans hgy775
          have hgy777 := (hfvy436 (883 + 1) (by omega)).trans hgy776
          have hgy778 := (hfvy634 (883 + 1) (by omega)).trans hgy777
          have hgy779 := (hfvy637 (883 + 1) (by omega)).trans hgy778
          have hgy780 := (hfvy640 (883 + 1) (by omega)).trans hgy779
          have hgy781 := (hfvy733 (883 + 1) (by omega) (by omega)).trans hgy780
          have hgy782 := up_n egy754 hgy781 (by omega)
          have hgy783 := (hfvy18 (883 + 2) (by omega)).trans hpoy5.2.2.1
          have hgy784 := (hfvy21 (883 + 2) (by omega)).trans hgy783
          have hgy785 := (hfvy424 (883 + 2) (by omega)).trans hgy784
          have hgy786 := (hfvy427 (883 + 2) (by omega)).trans hgy785
          have hgy787 := (hfvy430 (883 + 2) (by omega)).trans hgy786
          have hgy788 := (hfvy433 (883 + 2) (by omega)).trans hgy787
          have hgy789 := (hfvy436 (883 + 2) (by omega)).trans hgy788
          have hgy790 := (hfvy634 (883 + 2) (by omega)).trans hgy789
          have hgy791 := (hfvy637 (883 + 2) (by omega)).trans hgy790
          have hgy792 := (hfvy640 (883 + 2) (by omega)).trans hgy791
          have hgy793 := (hfvy733 (883 + 2) (by omega) (by omega)).trans hgy792
          have hgy794 := up_n egy754 hgy793 (by omega)
          have hgy795 := (hfvy18 (883 + 3) (by omega)).trans hpoy5.2.2.2.1
          have hgy796 := (hfvy21 (883 + 3) (by omega)).trans hgy795
          have hgy797 := (hfvy424 (883 + 3) (by omega)).trans hgy796
          have hgy798 := (hfvy427 (883 + 3) (by omega)).trans hgy797
          have hgy799 := (hfvy430 (883 + 3) (by omega)).trans hgy798
          have hgy800 := (hfvy433 (883 + 3) (by omega)).trans hgy799
          have hgy801 := (hfvy436 (883 + 3) (by omega)).trans hgy800
          have hgy802 := (hfvy634 (883 + 3) (by omega)).trans hgy801
          have hgy803 := (hfvy637 (883 + 3) (by omega)).trans hgy802
          have hgy804 := (hfvy640 (883 + 3) (by omega)).trans hgy803
          have hgy805 := (hfvy733 (883 + 3) (by omega) (by omega)).trans hgy804
          have hgy806 := up_n egy754 hgy805 (by omega)
          have hgy807 := (hfvy18 (883 + 4) (by omega)).trans hpoy5.2.2.2.2.1
          have hgy808 := (hfvy21 (883 + 4) (by omega)).trans hgy807
          have hgy809 := (hfvy424 (883 + 4) (by omega)).trans hgy808
          have hgy810 := (hfvy427 (883 + 4) (by omega)).trans hgy809
          have hgy811 := (hfvy430 (883 + 4) (by omega)).trans hgy810
          have hgy812 := (hfvy433 (883 + 4) (by omega)).trans hgy811
          have hgy813 := (hfvy436 (883 + 4) (by omega)).trans hgy812
          have hgy814 := (hfvy634 (883 + 4) (by omega)).trans hgy813
          have hgy815 := (hfvy637 (883 + 4) (by omega)).trans hgy814
          have hgy816 := (hfvy640 (883 + 4) (by omega)).trans hgy815
          have hgy817 := (hfvy733 (883 + 4) (by omega) (by omega)).trans hgy816
          have hgy818 := up_n egy754 hgy817 (by omega)
          have hgy819 := (hfvy18 (883 + 5) (by omega)).trans hpoy5.2.2.2.2.2.1
          have hgy820 := (hfvy21 (883 + 5) (by omega)).trans hgy819
          have hgy821 := (hfvy424 (883 + 5) (by omega)).trans hgy820
          have hgy822 := (hfvy427 (883 + 5) (by omega)).trans hgy821
          have hgy823 := (hfvy430 (883 + 5) (by omega)).trans hgy822
          have hgy824 := (hfvy433 (883 + 5) (by omega)).trans hgy823
          have hgy825 := (hfvy436 (883 + 5) (by omega)).trans hgy824
          have hgy826 := (hfvy634 (883 + 5) (by omega)).trans hgy825
          have hgy827 := (hfvy637 (883 + 5) (by omega)).trans hgy826
          have hgy828 := (hfvy640 (883 + 5) (by omega)).trans hgy827
          have hgy829 := (hfvy733 (883 + 5) (by omega) (by omega)).trans hgy828
          have hgy830 := up_n egy754 hgy829 (by omega)
          have hgy831 := (hfvy18 (883 + 6) (by omega)).trans hpoy5.2.2.2.2.2.2
          have hgy832 := (hfvy21 (883 + 6) (by omega)).trans hgy831
          have hgy833 := (hfvy424 (883 + 6) (by omega)).trans hgy832
          have hgy834 := (hfvy427 (883 + 6) (by omega)).trans hgy833
          have hgy835 := (hfvy430 (883 + 6) (by omega)).trans hgy834
          have hgy836 := (hfvy433 (883 + 6) (by omega)).trans hgy835
          have hgy837 := (hfvy436 (883 + 6) (by omega)).trans hgy836
          have hgy838 := (hfvy634 (883 + 6) (by omega)).trans hgy837
          have hgy839 := (hfvy637 (883 + 6) (by omega)).trans hgy838
          have hgy840 := (hfvy640 (883 + 6) (by omega)).trans hgy839
          have hgy841 := (hfvy733 (883 + 6) (by omega) (by omega)).trans hgy840
          have hgy842 := up_n egy754 hgy841 (by omega)
          have hgy843 := up_n egy754 hpvy733.1 (by omega)
          have hgy844 := up_n egy754 hpvy733.2 (by omega)
          have hGp : okPack cs ad gy753 (890 + 2 + 2 * (vy21).toNat) := ⟨_, _, _, by omega, hgy843, hgy844⟩
          have hGq : okWorld cs ad gy753 890 := okWorld.two (by omega) hoky729 (fun j j1 j2 j3 => by rw [egy754, va_up_ne _ _ (by omega)]; rw [hfvy733 _ (by omega) (by omega)]) hGp (by omega) hgy755
          exact z_vret C hr hlk dX7_readLayer_162 (by decide) (by decide) ⟨rfl, rfl, rfl, ⟨_, hruny756, by omega⟩, ⟨_, _, _, _, _, _, _, _, _, by omega, by omega, ⟨hgy770, hgy782, hgy794, hgy806, hgy818, hgy830, hgy842⟩⟩, hGq, fun j j1 j2 => by rw [egy754, va_up_ne _ _ (by omega)]; rw [hfvy733 _ (by omega) (by omega)]; rw [hfvy640 _ (by omega)]; rw [hfvy637 _ (by omega)]; rw [hfvy634 _ (by omega)]; rw [hfvy436 _ (by omega)]; rw [hfvy433 _ (by omega)]; rw [hfvy430 _ (by omega)]; rw [hfvy427 _ (by omega)]; rw [hfvy424 _ (by omega)]; rw [hfvy21 _ (by omega)]; rw [hfvy18 _ (by omega)]⟩
  · refine z_aload_n C 1 dX7_readLayer_19 rfl ?_
    refine z_iconst (z := 3) C dX7_readLayer_20 rfl ?_
    refine z_aload_n C 1 dX7_readLayer_21 rfl ?_
    refine z_get (v := .int (zI (tkdy22))) C (by omega) hay2 hcdy22 rfl inA_X7 7 (by decide) q_51 rfl rfl dX7_readLayer_22 ?_
    obtain ⟨xy845, exy846, hxy847⟩ := zI_of (zI (tkdy22))
    rw [exy846]
    have hruny848 : okRun cs ad gvy21 (covy21) tp := ⟨_, _, _, _, _, _, _, by omega, by omega, hcdy22, hddy22⟩
    refine z_cV (As := [.int (zI (3)), .int (zI (xy845))]) (rest := []) (ci := 9) C (c_X7_fail l D A cs tt N ad _ (by omega) _ tp hruny848 (3) (by omega) (xy845) (by omega)) (by omega) hay2 hcdy22 rfl rfl mv_yX7_fail q_809 hd_yX7_fail (by decide) (Nat.le_of_ble_eq_true rfl) (by decide) dX7_readLayer_25 rfl (kV0 fun gvy849 hvy849 => ?_)
    obtain ⟨⟨covy849, hkvy849, hnvy849⟩, hfvy849⟩ := hvy849
    obtain ⟨pldy850, endy850, tydy850, a9dy850, bedy850, tkdy850, tddy850, hAdy850, hTdy850, hcdy850, hddy850⟩ := id hkvy849
    refine z_goto (tgt := 54) C dX7_readLayer_28 (by decide) ?_
    refine z_aload_n C 1 dX7_readLayer_54 rfl ?_
    have hruny851 : okRun cs ad gvy849 (covy849) tp := ⟨_, _, _, _, _, _, _, by omega, by omega, hcdy850, hddy850⟩
    refine z_cV (As := []) (rest := []) (ci := 9) C (c_X7_kind l D A cs tt N ad _ (by omega) _ tp hruny851 ) (by omega) hay2 hcdy850 rfl rfl mv_yX7_kind q_830 hd_yX7_kind (by decide) (Nat.le_of_ble_eq_true rfl) (by decide) dX7_readLayer_55 rfl (kI0 fun vy852 gvy852 hvy852 => ?_)
    obtain ⟨hrvy852, ⟨covy852, hkvy852, hnvy852⟩, hfvy852⟩ := hvy852
    obtain ⟨pldy853, endy853, tydy853, a9dy853, bedy853, tkdy853, tddy853, hAdy853, hTdy853, hcdy853, hddy853⟩ := id hkvy852
    refine z_istore (lv' := [(4, .int (zI (vy852))), (3, .int (zI (vy21))), (0, .ref (ad 2)), (1, .ref (ad 883)), (2, .ref (ad 890))]) C dX7_readLayer_58 (by decide) rfl ?_
    refine z_aload_n C 2 dX7_readLayer_60 rfl ?_
    refine z_iconst (z := 1) C dX7_readLayer_61 rfl ?_
    refine z_bipush (z := 99) C dX7_readLayer_62 (by decide) ?_
    have hruny854 : okRun cs ad gvy852 (covy852) tp := ⟨_, _, _, _, _, _, _, by omega, by omega, hcdy853, hddy853⟩
    refine z_cV (As := [.int (zI (1)), .int (zI (99))]) (rest := []) (ci := 9) C (c_X7_number l D A cs tt N ad _ (by omega) _ tp hruny854 (1) (by omega) (99) (by omega)) (by omega) hay2 hcdy853 rfl rfl mv_yX7_number q_817 hd_yX7_number (by decide) (Nat.le_of_ble_eq_true rfl) (by decide) dX7_readLayer_64 rfl (kI0 fun vy855 gvy855 hvy855 => ?_)
    obtain ⟨hrvy855, ⟨covy855, hkvy855, hnvy855⟩, hfvy855⟩ := hvy855
    obtain ⟨pldy856, endy856, tydy856, a9dy856, bedy856, tkdy856, tddy856, hAdy856, hTdy856, hcdy856, hddy856⟩ := id hkvy855
    refine z_istore (lv' := [(5, .int (zI (vy855))), (4, .int (zI (vy852))), (3, .int (zI (vy21))), (0, .ref (ad 2)), (1, .ref (ad 883)), (2, .ref (ad 890))]) C dX7_readLayer_67 (by decide) rfl ?_
    refine z_aload_n C 3 dX7_readLayer_69 rfl ?_
    refine z_iconst (z := 0) C dX7_readLayer_70 rfl ?_
    refine z_bipush (z := 99) C dX7_readLayer_71 (by decide) ?_
    have hruny857 : okRun cs ad gvy855 (covy855) tp := ⟨_, _, _, _, _, _, _, by omega, by omega, hcdy856, hddy856⟩
    refine z_cV (As := [.int (zI (0)), .int (zI (99))]) (rest := []) (ci := 9) C (c_X7_number l D A cs tt N ad _ (by omega) _ tp hruny857 (0) (by omega) (99) (by omega)) (by omega) hay2 hcdy856 rfl rfl mv_yX7_number q_817 hd_yX7_number (by decide) (Nat.le_of_ble_eq_true rfl) (by decide) dX7_readLayer_73 rfl (kI0 fun vy858 gvy858 hvy858 => ?_)
    obtain ⟨hrvy858, ⟨covy858, hkvy858, hnvy858⟩, hfvy858⟩ := hvy858
    obtain ⟨pldy859, endy859, tydy859, a9dy859, bedy859, tkdy859, tddy859, hAdy859, hTdy859, hcdy859, hddy859⟩ := id hkvy858
    refine z_istore (lv' := [(6, .int (zI (vy858))), (5, .int (zI (vy855))), (4, .int (zI (vy852))), (3, .int (zI (vy21))), (0, .ref (ad 2)), (1, .ref (ad 883)), (2, .ref (ad 890))]) C dX7_readLayer_76 (by decide) rfl ?_
    refine z_aload_n C 4 dX7_readLayer_78 rfl ?_
    refine z_iconst (z := 1) C dX7_readLayer_79 rfl ?_
    refine z_sipush (z := 999) C dX7_readLayer_80 (by decide) ?_
    have hruny860 : okRun cs ad gvy858 (covy858) tp := ⟨_, _, _, _, _, _, _, by omega, by omega, hcdy859, hddy859⟩
    refine z_cV (As := [.int (zI (1)), .int (zI (999))]) (rest := []) (ci := 9) C (c_X7_number l D A cs tt N ad _ (by omega) _ tp hruny860 (1) (by omega) (999) (by omega)) (by omega) hay2 hcdy859 rfl rfl mv_yX7_number q_817 hd_yX7_number (by decide) (Nat.le_of_ble_eq_true rfl) (by decide) dX7_readLayer_83 rfl (kI0 fun vy861 gvy861 hvy861 => ?_)
    obtain ⟨hrvy861, ⟨covy861, hkvy861, hnvy861⟩, hfvy861⟩ := hvy861
    obtain ⟨pldy862, endy862, tydy862, a9dy862, bedy862, tkdy862, tddy862, hAdy862, hTdy862, hcdy862, hddy862⟩ := id hkvy861
    refine z_istore (lv' := [(7, .int (zI (vy861))), (6, .int (zI (vy858))), (5, .int (zI (vy855))), (4, .int (zI (vy852))), (3, .int (zI (vy21))), (0, .ref (ad 2)), (1, .ref (ad 883)), (2, .ref (ad 890))]) C dX7_readLayer_86 (by decide) rfl ?_
    refine z_iload C 0 dX7_readLayer_88 rfl ?_
    refine z_iload C 2 dX7_readLayer_90 rfl ?_
    refine z_iload C 1 dX7_readLayer_92 rfl ?_
    refine z_iadd C dX7_readLayer_94 ?_
    refine z_icmp_ge (tgt := 107) C dX7_readLayer_95 (by decide) (by omega) (by omega) (fun hby863 => ?_) (fun hby863 => ?_)
    · refine z_aload_n C 5 dX7_readLayer_107 rfl ?_
      refine z_iconst (z := 0) C dX7_readLayer_108 rfl ?_
      refine z_sipush (z := 300) C dX7_readLayer_109 (by decide) ?_
      have hruny864 : okRun cs ad gvy861 (covy861) tp := ⟨_, _, _, _, _, _, _, by omega, by omega, hcdy862, hddy862⟩
      refine z_cV (As := [.int (zI (0)), .int (zI (300))]) (rest := []) (ci := 9) C (c_X7_number l D A cs tt N ad _ (by omega) _ tp hruny864 (0) (by omega) (300) (by omega)) (by omega) hay2 hcdy862 rfl rfl mv_yX7_number q_817 hd_yX7_number (by decide) (Nat.le_of_ble_eq_true rfl) (by decide) dX7_readLayer_112 rfl (kI0 fun vy865 gvy865 hvy865 => ?_)
      obtain ⟨hrvy865, ⟨covy865, hkvy865, hnvy865⟩, hfvy865⟩ := hvy865
      obtain ⟨pldy866, endy866, tydy866, a9dy866, bedy866, tkdy866, tddy866, hAdy866, hTdy866, hcdy866, hddy866⟩ := id hkvy865
      refine z_istore (lv' := [(8, .int (zI (vy865))), (7, .int (zI (vy861))), (6, .int (zI (vy858))), (5, .int (zI (vy855))), (4, .int (zI (vy852))), (3, .int (zI (vy21))), (0, .ref (ad 2)), (1, .ref (ad 883)), (2, .ref (ad 890))]) C dX7_readLayer_115 (by decide) rfl ?_
      refine z_aload_n C 6 dX7_readLayer_117 rfl ?_
      have hruny867 : okRun cs ad gvy865 (covy865) tp := ⟨_, _, _, _, _, _, _, by omega, by omega, hcdy866, hddy866⟩
      refine z_cV (As := []) (rest := []) (ci := 9) C (c_X7_close l D A cs tt N ad _ (by omega) _ tp hruny867 ) (by omega) hay2 hcdy866 rfl rfl mv_yX7_close q_821 hd_yX7_close (by decide) (Nat.le_of_ble_eq_true rfl) (by decide) dX7_readLayer_118 rfl (kV0 fun gvy868 hvy868 => ?_)
      obtain ⟨⟨covy868, hkvy868, hnvy868⟩, hfvy868⟩ := hvy868
      obtain ⟨pldy869, endy869, tydy869, a9dy869, bedy869, tkdy869, tddy869, hAdy869, hTdy869, hcdy869, hddy869⟩ := id hkvy868
      refine z_aload_n C 6 dX7_readLayer_121 rfl ?_
      refine z_get (v := .int (zI (covy868))) C (by omega) hay2 hcdy869 rfl inA_X7 1 (by decide) q_45 rfl rfl dX7_readLayer_122 ?_
      refine z_if_ne (tgt := 162) C dX7_readLayer_125 (by decide) (by omega) (fun hby870 => ?_) (fun hby870 => ?_)
      · have hruny871 : okRun cs ad gvy868 (covy868) tp := ⟨_, _, _, _, _, _, _, by omega, by omega, hcdy869, hddy869⟩
        have hgy872 := (hfvy849 (883) (by decide)).trans hgy24
        have hgy873 := (hfvy852 (883) (by decide)).trans hgy872
        have hgy874 := (hfvy855 (883) (by decide)).trans hgy873
        have hgy875 := (hfvy858 (883) (by decide)).trans hgy874
        have hgy876 := (hfvy861 (883) (by decide)).trans hgy875
        have hgy877 := (hfvy865 (883) (by decide)).trans hgy876
        have hgy878 := (hfvy868 (883) (by decide)).trans hgy877
        have hgy879 := (hfvy18 (883 + 1) (by omega)).trans hpoy5.2.1
        have hgy880 := (hfvy21 (883 + 1) (by omega)).trans hgy879
        have hgy881 := (hfvy849 (883 + 1) (by omega)).trans hgy880
        have hgy882 := (hfvy852 (883 + 1) (by omega)).trans hgy881
        have hgy883 := (hfvy855 (883 + 1) (by omega)).trans hgy882
        have hgy884 := (hfvy858 (883 + 1) (by omega)).trans hgy883
        have hgy885 := (hfvy861 (883 + 1) (by omega)).trans hgy884
        have hgy886 := (hfvy865 (883 + 1) (by omega)).trans hgy885
        have hgy887 := (hfvy868 (883 + 1) (by omega)).trans hgy886
        have hgy888 := (hfvy18 (883 + 2) (by omega)).trans hpoy5.2.2.1
        have hgy889 := (hfvy21 (883 + 2) (by omega)).trans hgy888
        have hgy890 := (hfvy849 (883 + 2) (by omega)).trans hgy889
        have hgy891 := (hfvy852 (883 + 2) (by omega)).trans hgy890
        have hgy892 := (hfvy855 (883 + 2) (by omega)).trans hgy891
        have hgy893 := (hfvy858 (883 + 2) (by omega)).trans hgy892
        have hgy894 := (hfvy861 (883 + 2) (by omega)).trans hgy893
        have hgy895 := (hfvy865 (883 + 2) (by omega)).trans hgy894
        have hgy896 := (hfvy868 (883 + 2) (by omega)).trans hgy895
        have hgy897 := (hfvy18 (883 + 3) (by omega)).trans hpoy5.2.2.2.1
        have hgy898 := (hfvy21 (883 + 3) (by omega)).trans hgy897
        have hgy899 := (hfvy849 (883 + 3) (by omega)).trans hgy898
        have hgy900 := (hfvy852 (883 + 3) (by omega)).trans hgy899
        have hgy901 := (hfvy855 (883 + 3) (by omega)).trans hgy900
        have hgy902 := (hfvy858 (883 + 3) (by omega)).trans hgy901
        have hgy903 := (hfvy861 (883 + 3) (by omega)).trans hgy902
        have hgy904 := (hfvy865 (883 + 3) (by omega)).trans hgy903
        have hgy905 := (hfvy868 (883 + 3) (by omega)).trans hgy904
        have hgy906 := (hfvy18 (883 + 4) (by omega)).trans hpoy5.2.2.2.2.1
        have hgy907 := (hfvy21 (883 + 4) (by omega)).trans hgy906
        have hgy908 := (hfvy849 (883 + 4) (by omega)).trans hgy907
        have hgy909 := (hfvy852 (883 + 4) (by omega)).trans hgy908
        have hgy910 := (hfvy855 (883 + 4) (by omega)).trans hgy909
        have hgy911 := (hfvy858 (883 + 4) (by omega)).trans hgy910
        have hgy912 := (hfvy861 (883 + 4) (by omega)).trans hgy911
        have hgy913 := (hfvy865 (883 + 4) (by omega)).trans hgy912
        have hgy914 := (hfvy868 (883 + 4) (by omega)).trans hgy913
        have hgy915 := (hfvy18 (883 + 5) (by omega)).trans hpoy5.2.2.2.2.2.1
        have hgy916 := (hfvy21 (883 + 5) (by omega)).trans hgy915
        have hgy917 := (hfvy849 (883 + 5) (by omega)).trans hgy916
        have hgy918 := (hfvy852 (883 + 5) (by omega)).trans hgy917
        have hgy919 := (hfvy855 (883 + 5) (by omega)).trans hgy918
        have hgy920 := (hfvy858 (883 + 5) (by omega)).trans hgy919
        have hgy921 := (hfvy861 (883 + 5) (by omega)).trans hgy920
        have hgy922 := (hfvy865 (883 + 5) (by omega)).trans hgy921
        have hgy923 := (hfvy868 (883 + 5) (by omega)).trans hgy922
        have hgy924 := (hfvy18 (883 + 6) (by omega)).trans hpoy5.2.2.2.2.2.2
        have hgy925 := (hfvy21 (883 + 6) (by omega)).trans hgy924
        have hgy926 := (hfvy849 (883 + 6) (by omega)).trans hgy925
        have hgy927 := (hfvy852 (883 + 6) (by omega)).trans hgy926
        have hgy928 := (hfvy855 (883 + 6) (by omega)).trans hgy927
        have hgy929 := (hfvy858 (883 + 6) (by omega)).trans hgy928
        have hgy930 := (hfvy861 (883 + 6) (by omega)).trans hgy929
        have hgy931 := (hfvy865 (883 + 6) (by omega)).trans hgy930
        have hgy932 := (hfvy868 (883 + 6) (by omega)).trans hgy931
        have hoky933 : okWorld cs ad gvy868 (890) := okWorld.mv (fun j j1 j2 => by rw [hfvy868 _ (by omega)]; rw [hfvy865 _ (by omega)]; rw [hfvy861 _ (by omega)]; rw [hfvy858 _ (by omega)]; rw [hfvy855 _ (by omega)]; rw [hfvy852 _ (by omega)]; rw [hfvy849 _ (by omega)]; rw [hfvy21 _ (by omega)]; rw [hfvy18 _ (by omega)]) hW9
        exact z_vret C hr hlk dX7_readLayer_162 (by decide) (by decide) ⟨rfl, rfl, rfl, ⟨_, hruny871, by omega⟩, ⟨_, _, _, _, _, _, _, _, _, by omega, by omega, ⟨hgy878, hgy887, hgy896, hgy905, hgy914, hgy923, hgy932⟩⟩, hoky933, fun j j1 j2 => by rw [hfvy868 _ (by omega)]; rw [hfvy865 _ (by omega)]; rw [hfvy861 _ (by omega)]; rw [hfvy858 _ (by omega)]; rw [hfvy855 _ (by omega)]; rw [hfvy852 _ (by omega)]; rw [hfvy849 _ (by omega)]; rw [hfvy21 _ (by omega)]; rw [hfvy18 _ (by omega)]⟩
      · refine z_aload_n C 8 dX7_readLayer_128 rfl ?_
        have hgy934 := (hfvy18 (890) (by decide)).trans uy141
        have hgy935 := (hfvy21 (890) (by decide)).trans hgy934
        have hgy936 := (hfvy849 (890) (by decide)).trans hgy935
        have hgy937 := (hfvy852 (890) (by decide)).trans hgy936
        have hgy938 := (hfvy855 (890) (by decide)).trans hgy937
        have hgy939 := (hfvy858 (890) (by decide)).trans hgy938
        have hgy940 := (hfvy861 (890) (by decide)).trans hgy939
        have hgy941 := (hfvy865 (890) (by decide)).trans hgy940
        have hgy942 := (hfvy868 (890) (by decide)).trans hgy941
        refine z_get (v := .ref (ad (890 + 1))) C (by omega) hay15 hgy942 rfl inA_X8 6 (by decide) q_189 rfl rfl dX7_readLayer_129 ?_
        refine z_iload_n C 5 dX7_readLayer_132 rfl ?_
        have hgy943 := (hfvy18 (890 + 1) (by omega)).trans uy142
        have hgy944 := (hfvy21 (890 + 1) (by omega)).trans hgy943
        have hgy945 := (hfvy849 (890 + 1) (by omega)).trans hgy944
        have hgy946 := (hfvy852 (890 + 1) (by omega)).trans hgy945
        have hgy947 := (hfvy855 (890 + 1) (by omega)).trans hgy946
        have hgy948 := (hfvy858 (890 + 1) (by omega)).trans hgy947
        have hgy949 := (hfvy861 (890 + 1) (by omega)).trans hgy948
        have hgy950 := (hfvy865 (890 + 1) (by omega)).trans hgy949
        have hgy951 := (hfvy868 (890 + 1) (by omega)).trans hgy950
        refine z_aald C (by omega) hay16 hgy951 3 rfl ((vy21).toNat) (by omega) (by omega) (by decide) (uy143 (vy21).toNat (by omega)) dX7_readLayer_133 ?_
        have hay952 : zAt ad (890 + 2 + 2 * (vy21).toNat) (ad (890 + 2 + 2 * (vy21).toNat)) := rfl
        have hay953 : zAt ad (890 + 2 + 2 * (vy21).toNat + 1) (ad (890 + 2 + 2 * (vy21).toNat + 1)) := rfl
        have hpy954 := uy144 (vy21).toNat (by omega)
        have hqy955 := uy14z4 (vy21).toNat (by omega)
        refine z_iload C 4 dX7_readLayer_134 rfl ?_
        refine z_iload C 3 dX7_readLayer_136 rfl ?_
        refine z_iload C 2 dX7_readLayer_138 rfl ?_
        refine z_iload C 1 dX7_readLayer_140 rfl ?_
        refine z_iload C 0 dX7_readLayer_142 rfl ?_
        refine z_ineg C dX7_readLayer_144 ?_
        refine z_aload_n C 8 dX7_readLayer_145 rfl ?_
        refine z_get (v := .int (zI (uy14t 1))) C (by omega) hay15 hgy942 rfl inA_X8 1 (by decide) q_178 rfl rfl dX7_readLayer_146 ?_
        have hoky956 : okWorld cs ad gvy868 (890) := okWorld.mv (fun j j1 j2 => by rw [hfvy868 _ (by omega)]; rw [hfvy865 _ (by omega)]; rw [hfvy861 _ (by omega)]; rw [hfvy858 _ (by omega)]; rw [hfvy855 _ (by omega)]; rw [hfvy852 _ (by omega)]; rw [hfvy849 _ (by omega)]; rw [hfvy21 _ (by omega)]; rw [hfvy18 _ (by omega)]) hW9
        obtain ⟨xy957, exy958, hxy959⟩ := zI_of (zI (uy14t 1))
        rw [exy958]
        have hgy961 := (hfvy18 (890 + 2 + 2 * (vy21).toNat) (by omega)).trans hpy954.1
        have hgy962 := (hfvy21 (890 + 2 + 2 * (vy21).toNat) (by omega)).trans hgy961
        have hgy963 := (hfvy849 (890 + 2 + 2 * (vy21).toNat) (by omega)).trans hgy962
        have hgy964 := (hfvy852 (890 + 2 + 2 * (vy21).toNat) (by omega)).trans hgy963
        have hgy965 := (hfvy855 (890 + 2 + 2 * (vy21).toNat) (by omega)).trans hgy964
        have hgy966 := (hfvy858 (890 + 2 + 2 * (vy21).toNat) (by omega)).trans hgy965
        have hgy967 := (hfvy861 (890 + 2 + 2 * (vy21).toNat) (by omega)).trans hgy966
        have hgy968 := (hfvy865 (890 + 2 + 2 * (vy21).toNat) (by omega)).trans hgy967
        have hgy969 := (hfvy868 (890 + 2 + 2 * (vy21).toNat) (by omega)).trans hgy968
        have hgy970 := (hfvy18 (890 + 2 + 2 * (vy21).toNat + 1) (by omega)).trans hpy954.2
        have hgy971 := (hfvy21 (890 + 2 + 2 * (vy21).toNat + 1) (by omega)).trans hgy970
        have hgy972 := (hfvy849 (890 + 2 + 2 * (vy21).toNat + 1) (by omega)).trans hgy971
        have hgy973 := (hfvy852 (890 + 2 + 2 * (vy21).toNat + 1) (by omega)).trans hgy972
        have hgy974 := (hfvy855 (890 + 2 + 2 * (vy21).toNat + 1) (by omega)).trans hgy973
        have hgy975 := (hfvy858 (890 + 2 + 2 * (vy21).toNat + 1) (by omega)).trans hgy974
        have hgy976 := (hfvy861 (890 + 2 + 2 * (vy21).toNat + 1) (by omega)).trans hgy975
        have hgy977 := (hfvy865 (890 + 2 + 2 * (vy21).toNat + 1) (by omega)).trans hgy976
        have hgy978 := (hfvy868 (890 + 2 + 2 * (vy21).toNat + 1) (by omega)).trans hgy977
        refine z_cV (As := [.int (zI (vy852)), .int (zI (vy855)), .int (zI (vy858)), .int (zI (vy861)), .int (zI (-(vy865))), .int (zI (xy957))]) (rest := []) (ci := 5) C (c_X3_add l D A cs tt N ad _ (890 + 2 + 2 * (vy21).toNat) (by omega) _ _ _ (by omega) ⟨hgy969, hgy978⟩  (vy852) (by omega) (vy855) (by omega) (vy858) (by omega) (vy861) (by omega) (-(vy865)) (by omega) (xy957) (by omega)) (by omega) hay952 hgy969 rfl rfl mv_yX3_add q_842 hd_yX3_add (by decide) (Nat.le_of_ble_eq_true rfl) (by decide) dX7_readLayer_149 rfl (kV0 fun gvy960 hvy960 => ?_)
        obtain ⟨⟨svy960, ovy960, rvy960, hsvy960, hpvy960⟩, hfvy960⟩ := hvy960
        refine z_aload_n C 8 dX7_readLayer_152 rfl ?_
        refine z_dup C dX7_readLayer_153 rfl ?_
        have hgy979 := (hfvy960 (890) (by omega) (by omega)).trans hgy942
        refine z_get (v := .int (zI (uy14t 1))) C (by omega) hay15 hgy979 rfl inA_X8 1 (by decide) q_178 rfl rfl dX7_readLayer_154 ?_
        refine z_iconst (z := 1) C dX7_readLayer_157 rfl ?_
        refine z_iadd C dX7_readLayer_158 ?_
        refine z_put (fs' := [.int (zI (uy14t 0)), .int (zI ((uy14t 1) + 1)), .int (zI (uy14t 2)), .int (zI (uy14t 3)), .int (zI (uy14t 4)), .int (zI (uy14t 5)), .ref (ad (890 + 1))]) C (by omega) hay15 hgy979 tyX8 tyX8_ok nmX8 rfl inA_X8 1 (by decide) q_178 rfl rfl rfl rfl (Nat.le_of_ble_eq_true rfl) rfl dX7_readLayer_159 (fun gy980 egy981 => ?_)
        have hgy982 := up_s egy981
        have hgy984 := (hfvy960 (2) (by omega) (by omega)).trans hcdy869
        have hgy985 := up_n egy981 hgy984 (by decide)
        have hgy986 := (hfvy960 (1) (by omega) (by omega)).trans hddy869
        have hgy987 := up_n egy981 hgy986 (by decide)
        have hruny983 : okRun cs ad gy980 (covy868) tp := ⟨_, _, _, _, _, _, _, by omega, by omega, hgy985, hgy987⟩
        have hgy988 := (hfvy849 (883) (by decide)).trans hgy24
        have hgy989 := (hfvy852 (883) (by decide)).trans hgy988
        have hgy990 := (hfvy855 (883) (by decide)).trans hgy989
        have hgy991 := (hfvy858 (883) (by decide)).trans hgy990
        have hgy992 := (hfvy861 (883) (by decide)).trans hgy991
        have hgy993 := (hfvy865 (883) (by decide)).trans hgy992
        have hgy994 := (hfvy868 (883) (by decide)).trans hgy993
        have hgy995 := (hfvy960 (883) (by omega) (by omega)).trans hgy994
        have hgy996 := up_n egy981 hgy995 (by decide)
        have hgy997 := (hfvy18 (883 + 1) (by omega)).trans hpoy5.2.1
        have hgy998 := (hfvy21 (883 + 1) (by omega)).trans hgy997
        have hgy999 := (hfvy849 (883 + 1) (by omega)).trans hgy998
        have hgy1000 := (hfvy852 (883 + 1) (by omega)).trans hgy999
        have hgy1001 := (hfvy855 (883 + 1) (by omega)).trans hgy1000
        have hgy1002 := (hfvy858 (883 + 1) (by omega)).trans hgy1001
        have hgy1003 := (hfvy861 (883 + 1) (by omega)).trans hgy1002
        have hgy1004 := (hfvy865 (883 + 1) (by omega)).trans hgy1003
        have hgy1005 := (hfvy868 (883 + 1) (by omega)).trans hgy1004
        have hgy1006 := (hfvy960 (883 + 1) (by omega) (by omega)).trans hgy1005
        have hgy1007 := up_n egy981 hgy1006 (by omega)
        have hgy1008 := (hfvy18 (883 + 2) (by omega)).trans hpoy5.2.2.1
        have hgy1009 := (hfvy21 (883 + 2) (by omega)).trans hgy1008
        have hgy1010 := (hfvy849 (883 + 2) (by omega)).trans hgy1009
        have hgy1011 := (hfvy852 (883 + 2) (by omega)).trans hgy1010
        have hgy1012 := (hfvy855 (883 + 2) (by omega)).trans hgy1011
        have hgy1013 := (hfvy858 (883 + 2) (by omega)).trans hgy1012
        have hgy1014 := (hfvy861 (883 + 2) (by omega)).trans hgy1013
        have hgy1015 := (hfvy865 (883 + 2) (by omega)).trans hgy1014
        have hgy1016 := (hfvy868 (883 + 2) (by omega)).trans hgy1015
        have hgy1017 := (hfvy960 (883 + 2) (by omega) (by omega)).trans hgy1016
        have hgy1018 := up_n egy981 hgy1017 (by omega)
        have hgy1019 := (hfvy18 (883 + 3) (by omega)).trans hpoy5.2.2.2.1
        have hgy1020 := (hfvy21 (883 + 3) (by omega)).trans hgy1019
        have hgy1021 := (hfvy849 (883 + 3) (by omega)).trans hgy1020
        have hgy1022 := (hfvy852 (883 + 3) (by omega)).trans hgy1021
        have hgy1023 := (hfvy855 (883 + 3) (by omega)).trans hgy1022
        have hgy1024 := (hfvy858 (883 + 3) (by omega)).trans hgy1023
        have hgy1025 := (hfvy861 (883 + 3) (by omega)).trans hgy1024
        have hgy1026 := (hfvy865 (883 + 3) (by omega)).trans hgy1025
        have hgy1027 := (hfvy868 (883 + 3) (by omega)).trans hgy1026
        have hgy1028 := (hfvy960 (883 + 3) (by omega) (by omega)).trans hgy1027
        have hgy1029 := up_n egy981 hgy1028 (by omega)
        have hgy1030 := (hfvy18 (883 + 4) (by omega)).trans hpoy5.2.2.2.2.1
        have hgy1031 := (hfvy21 (883 + 4) (by omega)).trans hgy1030
        have hgy1032 := (hfvy849 (883 + 4) (by omega)).trans hgy1031
        have hgy1033 := (hfvy852 (883 + 4) (by omega)).trans hgy1032
        have hgy1034 := (hfvy855 (883 + 4) (by omega)).trans hgy1033
        have hgy1035 := (hfvy858 (883 + 4) (by omega)).trans hgy1034
        have hgy1036 := (hfvy861 (883 + 4) (by omega)).trans hgy1035
        have hgy1037 := (hfvy865 (883 + 4) (by omega)).trans hgy1036
        have hgy1038 := (hfvy868 (883 + 4) (by omega)).trans hgy1037
        have hgy1039 := (hfvy960 (883 + 4) (by omega) (by omega)).trans hgy1038
        have hgy1040 := up_n egy981 hgy1039 (by omega)
        have hgy1041 := (hfvy18 (883 + 5) (by omega)).trans hpoy5.2.2.2.2.2.1
        have hgy1042 := (hfvy21 (883 + 5) (by omega)).trans hgy1041
        have hgy1043 := (hfvy849 (883 + 5) (by omega)).trans hgy1042
        have hgy1044 := (hfvy852 (883 + 5) (by omega)).trans hgy1043
        have hgy1045 := (hfvy855 (883 + 5) (by omega)).trans hgy1044
        have hgy1046 := (hfvy858 (883 + 5) (by omega)).trans hgy1045
        have hgy1047 := (hfvy861 (883 + 5) (by omega)).trans hgy1046
        have hgy1048 := (hfvy865 (883 + 5) (by omega)).trans hgy1047
        have hgy1049 := (hfvy868 (883 + 5) (by omega)).trans hgy1048
        have hgy1050 := (hfvy960 (883 + 5) (by omega) (by omega)).trans hgy1049
        have hgy1051 := up_n egy981 hgy1050 (by omega)
        have hgy1052 := (hfvy18 (883 + 6) (by omega)).trans hpoy5.2.2.2.2.2.2
        have hgy1053 := (hfvy21 (883 + 6) (by omega)).trans hgy1052
        have hgy1054 := (hfvy849 (883 + 6) (by omega)).trans hgy1053
        have hgy1055 := (hfvy852 (883 + 6) (by omega)).trans hgy1054
        have hgy1056 := (hfvy855 (883 + 6) (by omega)).trans hgy1055
        have hgy1057 := (hfvy858 (883 + 6) (by omega)).trans hgy1056
        have hgy1058 := (hfvy861 (883 + 6) (by omega)).trans hgy1057
        have hgy1059 := (hfvy865 (883 + 6) (by omega)).trans hgy1058
        have hgy1060 := (hfvy868 (883 + 6) (by omega)).trans hgy1059
        have hgy1061 := (hfvy960 (883 + 6) (by omega) (by omega)).trans hgy1060
        have hgy1062 := up_n egy981 hgy1061 (by omega)
        have hgy1063 := up_n egy981 hpvy960.1 (by omega)
        have hgy1064 := up_n egy981 hpvy960.2 (by omega)
        have hGp : okPack cs ad gy980 (890 + 2 + 2 * (vy21).toNat) := ⟨_, _, _, by omega, hgy1063, hgy1064⟩
        have hGq : okWorld cs ad gy980 890 := okWorld.two (by omega) hoky956 (fun j j1 j2 j3 => by rw [egy981, va_up_ne _ _ (by omega)]; rw [hfvy960 _ (by omega) (by omega)]) hGp (by omega) hgy982
        exact z_vret C hr hlk dX7_readLayer_162 (by decide) (by decide) ⟨rfl, rfl, rfl, ⟨_, hruny983, by omega⟩, ⟨_, _, _, _, _, _, _, _, _, by omega, by omega, ⟨hgy996, hgy1007, hgy1018, hgy1029, hgy1040, hgy1051, hgy1062⟩⟩, hGq, fun j j1 j2 => by rw [egy981, va_up_ne _ _ (by omega)]; rw [hfvy960 _ (by omega) (by omega)]; rw [hfvy868 _ (by omega)]; rw [hfvy865 _ (by omega)]; rw [hfvy861 _ (by omega)]; rw [hfvy858 _ (by omega)]; rw [hfvy855 _ (by omega)]; rw [hfvy852 _ (by omega)]; rw [hfvy849 _ (by omega)]; rw [hfvy21 _ (by omega)]; rw [hfvy18 _ (by omega)]⟩
    · refine z_aload_n C 5 dX7_readLayer_98 rfl ?_
      refine z_iconst (z := 5) C dX7_readLayer_99 rfl ?_
      refine z_aload_n C 5 dX7_readLayer_100 rfl ?_
      refine z_get (v := .int (zI (tkdy862))) C (by omega) hay2 hcdy862 rfl inA_X7 7 (by decide) q_51 rfl rfl dX7_readLayer_101 ?_
      obtain ⟨xy1065, exy1066, hxy1067⟩ := zI_of (zI (tkdy862))
      rw [exy1066]
      have hruny1068 : okRun cs ad gvy861 (covy861) tp := ⟨_, _, _, _, _, _, _, by omega, by omega, hcdy862, hddy862⟩
      refine z_cV (As := [.int (zI (5)), .int (zI (xy1065))]) (rest := []) (ci := 9) C (c_X7_fail l D A cs tt N ad _ (by omega) _ tp hruny1068 (5) (by omega) (xy1065) (by omega)) (by omega) hay2 hcdy862 rfl rfl mv_yX7_fail q_809 hd_yX7_fail (by decide) (Nat.le_of_ble_eq_true rfl) (by decide) dX7_readLayer_104 rfl (kV0 fun gvy1069 hvy1069 => ?_)
      obtain ⟨⟨covy1069, hkvy1069, hnvy1069⟩, hfvy1069⟩ := hvy1069
      obtain ⟨pldy1070, endy1070, tydy1070, a9dy1070, bedy1070, tkdy1070, tddy1070, hAdy1070, hTdy1070, hcdy1070, hddy1070⟩ := id hkvy1069
      refine z_aload_n C 5 dX7_readLayer_107 rfl ?_
      refine z_iconst (z := 0) C dX7_readLayer_108 rfl ?_
      refine z_sipush (z := 300) C dX7_readLayer_109 (by decide) ?_
      have hruny1071 : okRun cs ad gvy1069 (covy1069) tp := ⟨_, _, _, _, _, _, _, by omega, by omega, hcdy1070, hddy1070⟩
      refine z_cV (As := [.int (zI (0)), .int (zI (300))]) (rest := []) (ci := 9) C (c_X7_number l D A cs tt N ad _ (by omega) _ tp hruny1071 (0) (by omega) (300) (by omega)) (by omega) hay2 hcdy1070 rfl rfl mv_yX7_number q_817 hd_yX7_number (by decide) (Nat.le_of_ble_eq_true rfl) (by decide) dX7_readLayer_112 rfl (kI0 fun vy1072 gvy1072 hvy1072 => ?_)
      obtain ⟨hrvy1072, ⟨covy1072, hkvy1072, hnvy1072⟩, hfvy1072⟩ := hvy1072
      obtain ⟨pldy1073, endy1073, tydy1073, a9dy1073, bedy1073, tkdy1073, tddy1073, hAdy1073, hTdy1073, hcdy1073, hddy1073⟩ := id hkvy1072
      refine z_istore (lv' := [(8, .int (zI (vy1072))), (7, .int (zI (vy861))), (6, .int (zI (vy858))), (5, .int (zI (vy855))), (4, .int (zI (vy852))), (3, .int (zI (vy21))), (0, .ref (ad 2)), (1, .ref (ad 883)), (2, .ref (ad 890))]) C dX7_readLayer_115 (by decide) rfl ?_
      refine z_aload_n C 6 dX7_readLayer_117 rfl ?_
      have hruny1074 : okRun cs ad gvy1072 (covy1072) tp := ⟨_, _, _, _, _, _, _, by omega, by omega, hcdy1073, hddy1073⟩
      refine z_cV (As := []) (rest := []) (ci := 9) C (c_X7_close l D A cs tt N ad _ (by omega) _ tp hruny1074 ) (by omega) hay2 hcdy1073 rfl rfl mv_yX7_close q_821 hd_yX7_close (by decide) (Nat.le_of_ble_eq_true rfl) (by decide) dX7_readLayer_118 rfl (kV0 fun gvy1075 hvy1075 => ?_)
      obtain ⟨⟨covy1075, hkvy1075, hnvy1075⟩, hfvy1075⟩ := hvy1075
      obtain ⟨pldy1076, endy1076, tydy1076, a9dy1076, bedy1076, tkdy1076, tddy1076, hAdy1076, hTdy1076, hcdy1076, hddy1076⟩ := id hkvy1075
      refine z_aload_n C 6 dX7_readLayer_121 rfl ?_
      refine z_get (v := .int (zI (covy1075))) C (by omega) hay2 hcdy1076 rfl inA_X7 1 (by decide) q_45 rfl rfl dX7_readLayer_122 ?_
      refine z_if_ne (tgt := 162) C dX7_readLayer_125 (by decide) (by omega) (fun hby1077 => ?_) (fun hby1077 => ?_)
      · have hruny1078 : okRun cs ad gvy1075 (covy1075) tp := ⟨_, _, _, _, _, _, _, by omega, by omega, hcdy1076, hddy1076⟩
        have hgy1079 := (hfvy849 (883) (by decide)).trans hgy24
        have hgy1080 := (hfvy852 (883) (by decide)).trans hgy1079
        have hgy1081 := (hfvy855 (883) (by decide)).trans hgy1080
        have hgy1082 := (hfvy858 (883) (by decide)).trans hgy1081
        have hgy1083 := (hfvy861 (883) (by decide)).trans hgy1082
        have hgy1084 := (hfvy1069 (883) (by decide)).trans hgy1083
        have hgy1085 := (hfvy1072 (883) (by decide)).trans hgy1084
        have hgy1086 := (hfvy1075 (883) (by decide)).trans hgy1085
        have hgy1087 := (hfvy18 (883 + 1) (by omega)).trans hpoy5.2.1
        have hgy1088 := (hfvy21 (883 + 1) (by omega)).trans hgy1087
        have hgy1089 := (hfvy849 (883 + 1) (by omega)).trans hgy1088
        have hgy1090 := (hfvy852 (883 + 1) (by omega)).trans hgy1089
        have hgy1091 := (hfvy855 (883 + 1) (by omega)).trans hgy1090
        have hgy1092 := (hfvy858 (883 + 1) (by omega)).trans hgy1091
        have hgy1093 := (hfvy861 (883 + 1) (by omega)).trans hgy1092
        have hgy1094 := (hfvy1069 (883 + 1) (by omega)).trans hgy1093
        have hgy1095 := (hfvy1072 (883 + 1) (by omega)).trans hgy1094
        have hgy1096 := (hfvy1075 (883 + 1) (by omega)).trans hgy1095
        have hgy1097 := (hfvy18 (883 + 2) (by omega)).trans hpoy5.2.2.1
        have hgy1098 := (hfvy21 (883 + 2) (by omega)).trans hgy1097
        have hgy1099 := (hfvy849 (883 + 2) (by omega)).trans hgy1098
        have hgy1100 := (hfvy852 (883 + 2) (by omega)).trans hgy1099
        have hgy1101 := (hfvy855 (883 + 2) (by omega)).trans hgy1100
        have hgy1102 := (hfvy858 (883 + 2) (by omega)).trans hgy1101
        have hgy1103 := (hfvy861 (883 + 2) (by omega)).trans hgy1102
        have hgy1104 := (hfvy1069 (883 + 2) (by omega)).trans hgy1103
        have hgy1105 := (hfvy1072 (883 + 2) (by omega)).trans hgy1104
        have hgy1106 := (hfvy1075 (883 + 2) (by omega)).trans hgy1105
        have hgy1107 := (hfvy18 (883 + 3) (by omega)).trans hpoy5.2.2.2.1
        have hgy1108 := (hfvy21 (883 + 3) (by omega)).trans hgy1107
        have hgy1109 := (hfvy849 (883 + 3) (by omega)).trans hgy1108
        have hgy1110 := (hfvy852 (883 + 3) (by omega)).trans hgy1109
        have hgy1111 := (hfvy855 (883 + 3) (by omega)).trans hgy1110
        have hgy1112 := (hfvy858 (883 + 3) (by omega)).trans hgy1111
        have hgy1113 := (hfvy861 (883 + 3) (by omega)).trans hgy1112
        have hgy1114 := (hfvy1069 (883 + 3) (by omega)).trans hgy1113
        have hgy1115 := (hfvy1072 (883 + 3) (by omega)).trans hgy1114
        have hgy1116 := (hfvy1075 (883 + 3) (by omega)).trans hgy1115
        have hgy1117 := (hfvy18 (883 + 4) (by omega)).trans hpoy5.2.2.2.2.1
        have hgy1118 := (hfvy21 (883 + 4) (by omega)).trans hgy1117
        have hgy1119 := (hfvy849 (883 + 4) (by omega)).trans hgy1118
        have hgy1120 := (hfvy852 (883 + 4) (by omega)).trans hgy1119
        have hgy1121 := (hfvy855 (883 + 4) (by omega)).trans hgy1120
        have hgy1122 := (hfvy858 (883 + 4) (by omega)).trans hgy1121
        have hgy1123 := (hfvy861 (883 + 4) (by omega)).trans hgy1122
        have hgy1124 := (hfvy1069 (883 + 4) (by omega)).trans hgy1123
        have hgy1125 := (hfvy1072 (883 + 4) (by omega)).trans hgy1124
        have hgy1126 := (hfvy1075 (883 + 4) (by omega)).trans hgy1125
        have hgy1127 := (hfvy18 (883 + 5) (by omega)).trans hpoy5.2.2.2.2.2.1
        have hgy1128 := (hfvy21 (883 + 5) (by omega)).trans hgy1127
        have hgy1129 := (hfvy849 (883 + 5) (by omega)).trans hgy1128
        have hgy1130 := (hfvy852 (883 + 5) (by omega)).trans hgy1129
        have hgy1131 := (hfvy855 (883 + 5) (by omega)).trans hgy1130
        have hgy1132 := (hfvy858 (883 + 5) (by omega)).trans hgy1131
        have hgy1133 := (hfvy861 (883 + 5) (by omega)).trans hgy1132
        have hgy1134 := (hfvy1069 (883 + 5) (by omega)).trans hgy1133
        have hgy1135 := (hfvy1072 (883 + 5) (by omega)).trans hgy1134
        have hgy1136 := (hfvy1075 (883 + 5) (by omega)).trans hgy1135
        have hgy1137 := (hfvy18 (883 + 6) (by omega)).trans hpoy5.2.2.2.2.2.2
        have hgy1138 := (hfvy21 (883 + 6) (by omega)).trans hgy1137
        have hgy1139 := (hfvy849 (883 + 6) (by omega)).trans hgy1138
        have hgy1140 := (hfvy852 (883 + 6) (by omega)).trans hgy1139
        have hgy1141 := (hfvy855 (883 + 6) (by omega)).trans hgy1140
        have hgy1142 := (hfvy858 (883 + 6) (by omega)).trans hgy1141
        have hgy1143 := (hfvy861 (883 + 6) (by omega)).trans hgy1142
        have hgy1144 := (hfvy1069 (883 + 6) (by omega)).trans hgy1143
        have hgy1145 := (hfvy1072 (883 + 6) (by omega)).trans hgy1144
        have hgy1146 := (hfvy1075 (883 + 6) (by omega)).trans hgy1145
        have hoky1147 : okWorld cs ad gvy1075 (890) := okWorld.mv (fun j j1 j2 => by rw [hfvy1075 _ (by omega)]; rw [hfvy1072 _ (by omega)]; rw [hfvy1069 _ (by omega)]; rw [hfvy861 _ (by omega)]; rw [hfvy858 _ (by omega)]; rw [hfvy855 _ (by omega)]; rw [hfvy852 _ (by omega)]; rw [hfvy849 _ (by omega)]; rw [hfvy21 _ (by omega)]; rw [hfvy18 _ (by omega)]) hW9
        exact z_vret C hr hlk dX7_readLayer_162 (by decide) (by decide) ⟨rfl, rfl, rfl, ⟨_, hruny1078, by omega⟩, ⟨_, _, _, _, _, _, _, _, _, by omega, by omega, ⟨hgy1086, hgy1096, hgy1106, hgy1116, hgy1126, hgy1136, hgy1146⟩⟩, hoky1147, fun j j1 j2 => by rw [hfvy1075 _ (by omega)]; rw [hfvy1072 _ (by omega)]; rw [hfvy1069 _ (by omega)]; rw [hfvy861 _ (by omega)]; rw [hfvy858 _ (by omega)]; rw [hfvy855 _ (by omega)]; rw [hfvy852 _ (by omega)]; rw [hfvy849 _ (by omega)]; rw [hfvy21 _ (by omega)]; rw [hfvy18 _ (by omega)]⟩
      · refine z_aload_n C 8 dX7_readLayer_128 rfl ?_
        have hgy1148 := (hfvy18 (890) (by decide)).trans uy141
        have hgy1149 := (hfvy21 (890) (by decide)).trans hgy1148
        have hgy1150 := (hfvy849 (890) (by decide)).trans hgy1149
        have hgy1151 := (hfvy852 (890) (by decide)).trans hgy1150
        have hgy1152 := (hfvy855 (890) (by decide)).trans hgy1151
        have hgy1153 := (hfvy858 (890) (by decide)).trans hgy1152
        have hgy1154 := (hfvy861 (890) (by decide)).trans hgy1153
        have hgy1155 := (hfvy1069 (890) (by decide)).trans hgy1154
        have hgy1156 := (hfvy1072 (890) (by decide)).trans hgy1155
        have hgy1157 := (hfvy1075 (890) (by decide)).trans hgy1156
        refine z_get (v := .ref (ad (890 + 1))) C (by omega) hay15 hgy1157 rfl inA_X8 6 (by decide) q_189 rfl rfl dX7_readLayer_129 ?_
        refine z_iload_n C 5 dX7_readLayer_132 rfl ?_
        have hgy1158 := (hfvy18 (890 + 1) (by omega)).trans uy142
        have hgy1159 := (hfvy21 (890 + 1) (by omega)).trans hgy1158
        have hgy1160 := (hfvy849 (890 + 1) (by omega)).trans hgy1159
        have hgy1161 := (hfvy852 (890 + 1) (by omega)).trans hgy1160
        have hgy1162 := (hfvy855 (890 + 1) (by omega)).trans hgy1161
        have hgy1163 := (hfvy858 (890 + 1) (by omega)).trans hgy1162
        have hgy1164 := (hfvy861 (890 + 1) (by omega)).trans hgy1163
        have hgy1165 := (hfvy1069 (890 + 1) (by omega)).trans hgy1164
        have hgy1166 := (hfvy1072 (890 + 1) (by omega)).trans hgy1165
        have hgy1167 := (hfvy1075 (890 + 1) (by omega)).trans hgy1166
        refine z_aald C (by omega) hay16 hgy1167 3 rfl ((vy21).toNat) (by omega) (by omega) (by decide) (uy143 (vy21).toNat (by omega)) dX7_readLayer_133 ?_
        have hay1168 : zAt ad (890 + 2 + 2 * (vy21).toNat) (ad (890 + 2 + 2 * (vy21).toNat)) := rfl
        have hay1169 : zAt ad (890 + 2 + 2 * (vy21).toNat + 1) (ad (890 + 2 + 2 * (vy21).toNat + 1)) := rfl
        have hpy1170 := uy144 (vy21).toNat (by omega)
        have hqy1171 := uy14z4 (vy21).toNat (by omega)
        refine z_iload C 4 dX7_readLayer_134 rfl ?_
        refine z_iload C 3 dX7_readLayer_136 rfl ?_
        refine z_iload C 2 dX7_readLayer_138 rfl ?_
        refine z_iload C 1 dX7_readLayer_140 rfl ?_
        refine z_iload C 0 dX7_readLayer_142 rfl ?_
        refine z_ineg C dX7_readLayer_144 ?_
        refine z_aload_n C 8 dX7_readLayer_145 rfl ?_
        refine z_get (v := .int (zI (uy14t 1))) C (by omega) hay15 hgy1157 rfl inA_X8 1 (by decide) q_178 rfl rfl dX7_readLayer_146 ?_
        have hoky1172 : okWorld cs ad gvy1075 (890) := okWorld.mv (fun j j1 j2 => by rw [hfvy1075 _ (by omega)]; rw [hfvy1072 _ (by omega)]; rw [hfvy1069 _ (by omega)]; rw [hfvy861 _ (by omega)]; rw [hfvy858 _ (by omega)]; rw [hfvy855 _ (by omega)]; rw [hfvy852 _ (by omega)]; rw [hfvy849 _ (by omega)]; rw [hfvy21 _ (by omega)]; rw [hfvy18 _ (by omega)]) hW9
        obtain ⟨xy1173, exy1174, hxy1175⟩ := zI_of (zI (uy14t 1))
        rw [exy1174]
        have hgy1177 := (hfvy18 (890 + 2 + 2 * (vy21).toNat) (by omega)).trans hpy1170.1
        have hgy1178 := (hfvy21 (890 + 2 + 2 * (vy21).toNat) (by omega)).trans hgy1177
        have hgy1179 := (hfvy849 (890 + 2 + 2 * (vy21).toNat) (by omega)).trans hgy1178
        have hgy1180 := (hfvy852 (890 + 2 + 2 * (vy21).toNat) (by omega)).trans hgy1179
        have hgy1181 := (hfvy855 (890 + 2 + 2 * (vy21).toNat) (by omega)).trans hgy1180
        have hgy1182 := (hfvy858 (890 + 2 + 2 * (vy21).toNat) (by omega)).trans hgy1181
        have hgy1183 := (hfvy861 (890 + 2 + 2 * (vy21).toNat) (by omega)).trans hgy1182
        have hgy1184 := (hfvy1069 (890 + 2 + 2 * (vy21).toNat) (by omega)).trans hgy1183
        have hgy1185 := (hfvy1072 (890 + 2 + 2 * (vy21).toNat) (by omega)).trans hgy1184
        have hgy1186 := (hfvy1075 (890 + 2 + 2 * (vy21).toNat) (by omega)).trans hgy1185
        have hgy1187 := (hfvy18 (890 + 2 + 2 * (vy21).toNat + 1) (by omega)).trans hpy1170.2
        have hgy1188 := (hfvy21 (890 + 2 + 2 * (vy21).toNat + 1) (by omega)).trans hgy1187
        have hgy1189 := (hfvy849 (890 + 2 + 2 * (vy21).toNat + 1) (by omega)).trans hgy1188
        have hgy1190 := (hfvy852 (890 + 2 + 2 * (vy21).toNat + 1) (by omega)).trans hgy1189
        have hgy1191 := (hfvy855 (890 + 2 + 2 * (vy21).toNat + 1) (by omega)).trans hgy1190
        have hgy1192 := (hfvy858 (890 + 2 + 2 * (vy21).toNat + 1) (by omega)).trans hgy1191
        have hgy1193 := (hfvy861 (890 + 2 + 2 * (vy21).toNat + 1) (by omega)).trans hgy1192
        have hgy1194 := (hfvy1069 (890 + 2 + 2 * (vy21).toNat + 1) (by omega)).trans hgy1193
        have hgy1195 := (hfvy1072 (890 + 2 + 2 * (vy21).toNat + 1) (by omega)).trans hgy1194
        have hgy1196 := (hfvy1075 (890 + 2 + 2 * (vy21).toNat + 1) (by omega)).trans hgy1195
        refine z_cV (As := [.int (zI (vy852)), .int (zI (vy855)), .int (zI (vy858)), .int (zI (vy861)), .int (zI (-(vy1072))), .int (zI (xy1173))]) (rest := []) (ci := 5) C (c_X3_add l D A cs tt N ad _ (890 + 2 + 2 * (vy21).toNat) (by omega) _ _ _ (by omega) ⟨hgy1186, hgy1196⟩  (vy852) (by omega) (vy855) (by omega) (vy858) (by omega) (vy861) (by omega) (-(vy1072)) (by omega) (xy1173) (by omega)) (by omega) hay1168 hgy1186 rfl rfl mv_yX3_add q_842 hd_yX3_add (by decide) (Nat.le_of_ble_eq_true rfl) (by decide) dX7_readLayer_149 rfl (kV0 fun gvy1176 hvy1176 => ?_)
        obtain ⟨⟨svy1176, ovy1176, rvy1176, hsvy1176, hpvy1176⟩, hfvy1176⟩ := hvy1176
        refine z_aload_n C 8 dX7_readLayer_152 rfl ?_
        refine z_dup C dX7_readLayer_153 rfl ?_
        have hgy1197 := (hfvy1176 (890) (by omega) (by omega)).trans hgy1157
        refine z_get (v := .int (zI (uy14t 1))) C (by omega) hay15 hgy1197 rfl inA_X8 1 (by decide) q_178 rfl rfl dX7_readLayer_154 ?_
        refine z_iconst (z := 1) C dX7_readLayer_157 rfl ?_
        refine z_iadd C dX7_readLayer_158 ?_
        refine z_put (fs' := [.int (zI (uy14t 0)), .int (zI ((uy14t 1) + 1)), .int (zI (uy14t 2)), .int (zI (uy14t 3)), .int (zI (uy14t 4)), .int (zI (uy14t 5)), .ref (ad (890 + 1))]) C (by omega) hay15 hgy1197 tyX8 tyX8_ok nmX8 rfl inA_X8 1 (by decide) q_178 rfl rfl rfl rfl (Nat.le_of_ble_eq_true rfl) rfl dX7_readLayer_159 (fun gy1198 egy1199 => ?_)
        have hgy1200 := up_s egy1199
        have hgy1202 := (hfvy1176 (2) (by omega) (by omega)).trans hcdy1076
        have hgy1203 := up_n egy1199 hgy1202 (by decide)
        have hgy1204 := (hfvy1176 (1) (by omega) (by omega)).trans hddy1076
        have hgy1205 := up_n egy1199 hgy1204 (by decide)
        have hruny1201 : okRun cs ad gy1198 (covy1075) tp := ⟨_, _, _, _, _, _, _, by omega, by omega, hgy1203, hgy1205⟩
        have hgy1206 := (hfvy849 (883) (by decide)).trans hgy24
        have hgy1207 := (hfvy852 (883) (by decide)).trans hgy1206
        have hgy1208 := (hfvy855 (883) (by decide)).trans hgy1207
        have hgy1209 := (hfvy858 (883) (by decide)).trans hgy1208
        have hgy1210 := (hfvy861 (883) (by decide)).trans hgy1209
        have hgy1211 := (hfvy1069 (883) (by decide)).trans hgy1210
        have hgy1212 := (hfvy1072 (883) (by decide)).trans hgy1211
        have hgy1213 := (hfvy1075 (883) (by decide)).trans hgy1212
        have hgy1214 := (hfvy1176 (883) (by omega) (by omega)).trans hgy1213
        have hgy1215 := up_n egy1199 hgy1214 (by decide)
        have hgy1216 := (hfvy18 (883 + 1) (by omega)).trans hpoy5.2.1
        have hgy1217 := (hfvy21 (883 + 1) (by omega)).trans hgy1216
        have hgy1218 := (hfvy849 (883 + 1) (by omega)).trans hgy1217
        have hgy1219 := (hfvy852 (883 + 1) (by omega)).trans hgy1218
        have hgy1220 := (hfvy855 (883 + 1) (by omega)).trans hgy1219
        have hgy1221 := (hfvy858 (883 + 1) (by omega)).trans hgy1220
        have hgy1222 := (hfvy861 (883 + 1) (by omega)).trans hgy1221
        have hgy1223 := (hfvy1069 (883 + 1) (by omega)).trans hgy1222
        have hgy1224 := (hfvy1072 (883 + 1) (by omega)).trans hgy1223
        have hgy1225 := (hfvy1075 (883 + 1) (by omega)).trans hgy1224
        have hgy1226 := (hfvy1176 (883 + 1) (by omega) (by omega)).trans hgy1225
        have hgy1227 := up_n egy1199 hgy1226 (by omega)
        have hgy1228 := (hfvy18 (883 + 2) (by omega)).trans hpoy5.2.2.1
        have hgy1229 := (hfvy21 (883 + 2) (by omega)).trans hgy1228
        have hgy1230 := (hfvy849 (883 + 2) (by omega)).trans hgy1229
        have hgy1231 := (hfvy852 (883 + 2) (by omega)).trans hgy1230
        have hgy1232 := (hfvy855 (883 + 2) (by omega)).trans hgy1231
        have hgy1233 := (hfvy858 (883 + 2) (by omega)).trans hgy1232
        have hgy1234 := (hfvy861 (883 + 2) (by omega)).trans hgy1233
        have hgy1235 := (hfvy1069 (883 + 2) (by omega)).trans hgy1234
        have hgy1236 := (hfvy1072 (883 + 2) (by omega)).trans hgy1235
        have hgy1237 := (hfvy1075 (883 + 2) (by omega)).trans hgy1236
        have hgy1238 := (hfvy1176 (883 + 2) (by omega) (by omega)).trans hgy1237
        have hgy1239 := up_n egy1199 hgy1238 (by omega)
        have hgy1240 := (hfvy18 (883 + 3) (by omega)).trans hpoy5.2.2.2.1
        have hgy1241 := (hfvy21 (883 + 3) (by omega)).trans hgy1240
        have hgy1242 := (hfvy849 (883 + 3) (by omega)).trans hgy1241
        have hgy1243 := (hfvy852 (883 + 3) (by omega)).trans hgy1242
        have hgy1244 := (hfvy855 (883 + 3) (by omega)).trans hgy1243
        have hgy1245 := (hfvy858 (883 + 3) (by omega)).trans hgy1244
        have hgy1246 := (hfvy861 (883 + 3) (by omega)).trans hgy1245
        have hgy1247 := (hfvy1069 (883 + 3) (by omega)).trans hgy1246
        have hgy1248 := (hfvy1072 (883 + 3) (by omega)).trans hgy1247
        have hgy1249 := (hfvy1075 (883 + 3) (by omega)).trans hgy1248
        have hgy1250 := (hfvy1176 (883 + 3) (by omega) (by omega)).trans hgy1249
        have hgy1251 := up_n egy1199 hgy1250 (by omega)
        have hgy1252 := (hfvy18 (883 + 4) (by omega)).trans hpoy5.2.2.2.2.1
        have hgy1253 := (hfvy21 (883 + 4) (by omega)).trans hgy1252
        have hgy1254 := (hfvy849 (883 + 4) (by omega)).trans hgy1253
        have hgy1255 := (hfvy852 (883 + 4) (by omega)).trans hgy1254
        have hgy1256 := (hfvy855 (883 + 4) (by omega)).trans hgy1255
        have hgy1257 := (hfvy858 (883 + 4) (by omega)).trans hgy1256
        have hgy1258 := (hfvy861 (883 + 4) (by omega)).trans hgy1257
        have hgy1259 := (hfvy1069 (883 + 4) (by omega)).trans hgy1258
        have hgy1260 := (hfvy1072 (883 + 4) (by omega)).trans hgy1259
        have hgy1261 := (hfvy1075 (883 + 4) (by omega)).trans hgy1260
        have hgy1262 := (hfvy1176 (883 + 4) (by omega) (by omega)).trans hgy1261
        have hgy1263 := up_n egy1199 hgy1262 (by omega)
        have hgy1264 := (hfvy18 (883 + 5) (by omega)).trans hpoy5.2.2.2.2.2.1
        have hgy1265 := (hfvy21 (883 + 5) (by omega)).trans hgy1264
        have hgy1266 := (hfvy849 (883 + 5) (by omega)).trans hgy1265
        have hgy1267 := (hfvy852 (883 + 5) (by omega)).trans hgy1266
        have hgy1268 := (hfvy855 (883 + 5) (by omega)).trans hgy1267
        have hgy1269 := (hfvy858 (883 + 5) (by omega)).trans hgy1268
        have hgy1270 := (hfvy861 (883 + 5) (by omega)).trans hgy1269
        have hgy1271 := (hfvy1069 (883 + 5) (by omega)).trans hgy1270
        have hgy1272 := (hfvy1072 (883 + 5) (by omega)).trans hgy1271
        have hgy1273 := (hfvy1075 (883 + 5) (by omega)).trans hgy1272
        have hgy1274 := (hfvy1176 (883 + 5) (by omega) (by omega)).trans hgy1273
        have hgy1275 := up_n egy1199 hgy1274 (by omega)
        have hgy1276 := (hfvy18 (883 + 6) (by omega)).trans hpoy5.2.2.2.2.2.2
        have hgy1277 := (hfvy21 (883 + 6) (by omega)).trans hgy1276
        have hgy1278 := (hfvy849 (883 + 6) (by omega)).trans hgy1277
        have hgy1279 := (hfvy852 (883 + 6) (by omega)).trans hgy1278
        have hgy1280 := (hfvy855 (883 + 6) (by omega)).trans hgy1279
        have hgy1281 := (hfvy858 (883 + 6) (by omega)).trans hgy1280
        have hgy1282 := (hfvy861 (883 + 6) (by omega)).trans hgy1281
        have hgy1283 := (hfvy1069 (883 + 6) (by omega)).trans hgy1282
        have hgy1284 := (hfvy1072 (883 + 6) (by omega)).trans hgy1283
        have hgy1285 := (hfvy1075 (883 + 6) (by omega)).trans hgy1284
        have hgy1286 := (hfvy1176 (883 + 6) (by omega) (by omega)).trans hgy1285
        have hgy1287 := up_n egy1199 hgy1286 (by omega)
        have hgy1288 := up_n egy1199 hpvy1176.1 (by omega)
        have hgy1289 := up_n egy1199 hpvy1176.2 (by omega)
        have hGp : okPack cs ad gy1198 (890 + 2 + 2 * (vy21).toNat) := ⟨_, _, _, by omega, hgy1288, hgy1289⟩
        have hGq : okWorld cs ad gy1198 890 := okWorld.two (by omega) hoky1172 (fun j j1 j2 j3 => by rw [egy1199, va_up_ne _ _ (by omega)]; rw [hfvy1176 _ (by omega) (by omega)]) hGp (by omega) hgy1200
        exact z_vret C hr hlk dX7_readLayer_162 (by decide) (by decide) ⟨rfl, rfl, rfl, ⟨_, hruny1201, by omega⟩, ⟨_, _, _, _, _, _, _, _, _, by omega, by omega, ⟨hgy1215, hgy1227, hgy1239, hgy1251, hgy1263, hgy1275, hgy1287⟩⟩, hGq, fun j j1 j2 => by rw [egy1199, va_up_ne _ _ (by omega)]; rw [hfvy1176 _ (by omega) (by omega)]; rw [hfvy1075 _ (by omega)]; rw [hfvy1072 _ (by omega)]; rw [hfvy1069 _ (by omega)]; rw [hfvy861 _ (by omega)]; rw [hfvy858 _ (by omega)]; rw [hfvy855 _ (by omega)]; rw [hfvy852 _ (by omega)]; rw [hfvy849 _ (by omega)]; rw [hfvy21 _ (by omega)]; rw [hfvy18 _ (by omega)]⟩

set_option maxRecDepth 100000 in
set_option maxHeartbeats 4000000 in
theorem c_X7_readClause (l : Launch) (D : va_G) (A : Nat → Prop) (cs : Nat → ClassId) (tt : Nat) (N : Nat) (ad : Nat → Nat) (g : Nat → va_E) (hN : 952 ≤ N) (co : Int) (tp : Nat → Int) (hR : okRun cs ad g co tp) (hP9 : okPlan cs ad g 883) (hW9 : okWorld cs ad g 890) : zM l yX7_readClause cX7_readClause 3 none ({ frames := 8, cells := 0, slots := 0, locals := 480 } : Room) D A cs tt N ad g [.ref (ad 2), .ref (ad 883), .ref (ad 890)] (rV0 N ad fun g' => (∃ co' : Int, okRun cs ad g' co' tp ∧ co ≤ co') ∧ okPlan cs ad g' 883 ∧ okWorld cs ad g' 890 ∧ ∀ j, j ≠ 2 → (j < 883 ∨ 900 ≤ j) → g' j = g j) := by
  obtain ⟨pldy1, endy1, tydy1, a9dy1, bedy1, tkdy1, tddy1, hAdy1, hTdy1, hcdy1, hddy1⟩ := id hR
  have hay2 : zAt ad (2) (ad 2) := rfl
  have hay3 : zAt ad (1) (ad 1) := rfl
  have hay4 : zAt ad (883) (ad 883) := rfl
  have hay5 : zAt ad (890) (ad 890) := rfl
  refine z_of (by decide) (Nat.le_of_ble_eq_true rfl) ?_
  intro p e s m below meth c C hr hlk hnm
  refine z_lv (lv' := [(0, .ref (ad 2)), (1, .ref (ad 883)), (2, .ref (ad 890))]) [0, 1, 2] rfl ?_
  refine z_aload_n C 0 dX7_readClause_0 rfl ?_
  refine z_ldcS C skm0 rfl rfl dX7_readClause_1 ?_
  have hruny6 : okRun cs ad g (co) tp := ⟨_, _, _, _, _, _, _, by omega, by omega, hcdy1, hddy1⟩
  refine z_cV (As := [.ref (cs (100 + 0))]) (rest := []) (ci := 9) C (c_X7_is l D A cs tt N ad _ (by omega) _ tp hruny6 _ skm0) (by omega) hay2 hcdy1 rfl rfl mv_yX7_is q_754 hd_yX7_is (by decide) (Nat.le_of_ble_eq_true rfl) (by decide) dX7_readClause_3 rfl (kI0 fun vy7 gvy7 hvy7 => ?_)
  obtain ⟨hvy7, rfl⟩ := hvy7
  refine z_if_eq (tgt := 17) C dX7_readClause_6 (by decide) (by omega) (fun hby8 => ?_) (fun hby8 => ?_)
  · refine z_aload_n C 0 dX7_readClause_17 rfl ?_
    refine z_ldcS C skm1 rfl rfl dX7_readClause_18 ?_
    have hruny9 : okRun cs ad g (co) tp := ⟨_, _, _, _, _, _, _, by omega, by omega, hcdy1, hddy1⟩
    refine z_cV (As := [.ref (cs (100 + 1))]) (rest := []) (ci := 9) C (c_X7_is l D A cs tt N ad _ (by omega) _ tp hruny9 _ skm1) (by omega) hay2 hcdy1 rfl rfl mv_yX7_is q_754 hd_yX7_is (by decide) (Nat.le_of_ble_eq_true rfl) (by decide) dX7_readClause_20 rfl (kI0 fun vy10 gvy10 hvy10 => ?_)
    obtain ⟨hvy10, rfl⟩ := hvy10
    refine z_if_eq (tgt := 35) C dX7_readClause_23 (by decide) (by omega) (fun hby11 => ?_) (fun hby11 => ?_)
    · refine z_aload_n C 0 dX7_readClause_35 rfl ?_
      refine z_ldcS C skm7 rfl rfl dX7_readClause_36 ?_
      have hruny12 : okRun cs ad g (co) tp := ⟨_, _, _, _, _, _, _, by omega, by omega, hcdy1, hddy1⟩
      refine z_cV (As := [.ref (cs (100 + 7))]) (rest := []) (ci := 9) C (c_X7_is l D A cs tt N ad _ (by omega) _ tp hruny12 _ skm7) (by omega) hay2 hcdy1 rfl rfl mv_yX7_is q_754 hd_yX7_is (by decide) (Nat.le_of_ble_eq_true rfl) (by decide) dX7_readClause_38 rfl (kI0 fun vy13 gvy13 hvy13 => ?_)
      obtain ⟨hvy13, rfl⟩ := hvy13
      refine z_if_eq (tgt := 52) C dX7_readClause_41 (by decide) (by omega) (fun hby14 => ?_) (fun hby14 => ?_)
      · refine z_aload_n C 0 dX7_readClause_52 rfl ?_
        refine z_ldcS C skm11 rfl rfl dX7_readClause_53 ?_
        have hruny15 : okRun cs ad g (co) tp := ⟨_, _, _, _, _, _, _, by omega, by omega, hcdy1, hddy1⟩
        refine z_cV (As := [.ref (cs (100 + 11))]) (rest := []) (ci := 9) C (c_X7_is l D A cs tt N ad _ (by omega) _ tp hruny15 _ skm11) (by omega) hay2 hcdy1 rfl rfl mv_yX7_is q_754 hd_yX7_is (by decide) (Nat.le_of_ble_eq_true rfl) (by decide) dX7_readClause_55 rfl (kI0 fun vy16 gvy16 hvy16 => ?_)
        obtain ⟨hvy16, rfl⟩ := hvy16
        refine z_if_eq (tgt := 73) C dX7_readClause_58 (by decide) (by omega) (fun hby17 => ?_) (fun hby17 => ?_)
        · refine z_aload_n C 0 dX7_readClause_73 rfl ?_
          refine z_ldcS C skm12 rfl rfl dX7_readClause_74 ?_
          have hruny18 : okRun cs ad g (co) tp := ⟨_, _, _, _, _, _, _, by omega, by omega, hcdy1, hddy1⟩
          refine z_cV (As := [.ref (cs (100 + 12))]) (rest := []) (ci := 9) C (c_X7_is l D A cs tt N ad _ (by omega) _ tp hruny18 _ skm12) (by omega) hay2 hcdy1 rfl rfl mv_yX7_is q_754 hd_yX7_is (by decide) (Nat.le_of_ble_eq_true rfl) (by decide) dX7_readClause_76 rfl (kI0 fun vy19 gvy19 hvy19 => ?_)
          obtain ⟨hvy19, rfl⟩ := hvy19
          refine z_if_eq (tgt := 94) C dX7_readClause_79 (by decide) (by omega) (fun hby20 => ?_) (fun hby20 => ?_)
          · refine z_aload_n C 0 dX7_readClause_94 rfl ?_
            refine z_ldcS C skm13 rfl rfl dX7_readClause_95 ?_
            have hruny21 : okRun cs ad g (co) tp := ⟨_, _, _, _, _, _, _, by omega, by omega, hcdy1, hddy1⟩
            refine z_cV (As := [.ref (cs (100 + 13))]) (rest := []) (ci := 9) C (c_X7_is l D A cs tt N ad _ (by omega) _ tp hruny21 _ skm13) (by omega) hay2 hcdy1 rfl rfl mv_yX7_is q_754 hd_yX7_is (by decide) (Nat.le_of_ble_eq_true rfl) (by decide) dX7_readClause_97 rfl (kI0 fun vy22 gvy22 hvy22 => ?_)
            obtain ⟨hvy22, rfl⟩ := hvy22
            refine z_if_eq (tgt := 117) C dX7_readClause_100 (by decide) (by omega) (fun hby23 => ?_) (fun hby23 => ?_)
            · refine z_aload_n C 0 dX7_readClause_117 rfl ?_
              refine z_iconst (z := 1) C dX7_readClause_118 rfl ?_
              refine z_aload_n C 0 dX7_readClause_119 rfl ?_
              refine z_get (v := .int (zI (a9dy1))) C (by omega) hay2 hcdy1 rfl inA_X7 5 (by decide) q_49 rfl rfl dX7_readClause_120 ?_
              have hruny24 : okRun cs ad g (co) tp := ⟨_, _, _, _, _, _, _, by omega, by omega, hcdy1, hddy1⟩
              refine z_cV (As := [.int (zI (1)), .int (zI (a9dy1))]) (rest := []) (ci := 9) C (c_X7_fail l D A cs tt N ad _ (by omega) _ tp hruny24 (1) (by omega) (a9dy1) (by omega)) (by omega) hay2 hcdy1 rfl rfl mv_yX7_fail q_809 hd_yX7_fail (by decide) (Nat.le_of_ble_eq_true rfl) (by decide) dX7_readClause_123 rfl (kV0 fun gvy25 hvy25 => ?_)
              obtain ⟨⟨covy25, hkvy25, hnvy25⟩, hfvy25⟩ := hvy25
              obtain ⟨pldy26, endy26, tydy26, a9dy26, bedy26, tkdy26, tddy26, hAdy26, hTdy26, hcdy26, hddy26⟩ := id hkvy25
              have hruny27 : okRun cs ad gvy25 (covy25) tp := ⟨_, _, _, _, _, _, _, by omega, by omega, hcdy26, hddy26⟩
              have hpy28 := okPlan.mv (ad' := ad) (g' := gvy25) (fun j h1 h2 => by rfl) (fun j h1 h2 => by rw [hfvy25 _ (by omega)]) hP9
              have hoky29 : okWorld cs ad gvy25 (890) := okWorld.mv (fun j j1 j2 => by rw [hfvy25 _ (by omega)]) hW9
              exact z_vret C hr hlk dX7_readClause_126 (by decide) (by decide) ⟨rfl, rfl, rfl, ⟨_, hruny27, by omega⟩, hpy28, hoky29, fun j j1 j2 => by rw [hfvy25 _ (by omega)]⟩
            · refine z_aload_n C 0 dX7_readClause_103 rfl ?_
              refine z_aload_n C 1 dX7_readClause_104 rfl ?_
              refine z_bipush (z := 10) C dX7_readClause_105 (by decide) ?_
              refine z_iconst (z := 1) C dX7_readClause_107 rfl ?_
              refine z_sipush (z := 9999) C dX7_readClause_108 (by decide) ?_
              have hruny30 : okRun cs ad g (co) tp := ⟨_, _, _, _, _, _, _, by omega, by omega, hcdy1, hddy1⟩
              refine z_cV (As := [.ref (ad 883), .int (zI (10)), .int (zI (1)), .int (zI (9999))]) (rest := []) (ci := 9) C (c_X7_readTable l D A cs tt N ad _ (by omega) _ tp hruny30 hP9  (10) (by omega) (1) (by omega) (9999) (by omega)) (by omega) hay2 hcdy1 rfl rfl mv_yX7_readTable q_856 hd_yX7_readTable (by decide) (Nat.le_of_ble_eq_true rfl) (by decide) dX7_readClause_111 rfl (kV0 fun gvy31 hvy31 => ?_)
              obtain ⟨⟨covy31, hkvy31, hnvy31⟩, hpvy31, hfvy31⟩ := hvy31
              obtain ⟨pldy32, endy32, tydy32, a9dy32, bedy32, tkdy32, tddy32, hAdy32, hTdy32, hcdy32, hddy32⟩ := id hkvy31
              refine z_goto (tgt := 126) C dX7_readClause_114 (by decide) ?_
              have hruny33 : okRun cs ad gvy31 (covy31) tp := ⟨_, _, _, _, _, _, _, by omega, by omega, hcdy32, hddy32⟩
              have hoky34 : okWorld cs ad gvy31 (890) := okWorld.mv (fun j j1 j2 => by rw [hfvy31 _ (by omega) (by omega)]) hW9
              exact z_vret C hr hlk dX7_readClause_126 (by decide) (by decide) ⟨rfl, rfl, rfl, ⟨_, hruny33, by omega⟩, hpvy31, hoky34, fun j j1 j2 => by rw [hfvy31 _ (by omega) (by omega)]⟩
          · refine z_aload_n C 0 dX7_readClause_82 rfl ?_
            refine z_aload_n C 1 dX7_readClause_83 rfl ?_
            refine z_iconst (z := 5) C dX7_readClause_84 rfl ?_
            refine z_iconst (z := 0) C dX7_readClause_85 rfl ?_
            refine z_bipush (z := 99) C dX7_readClause_86 (by decide) ?_
            have hruny35 : okRun cs ad g (co) tp := ⟨_, _, _, _, _, _, _, by omega, by omega, hcdy1, hddy1⟩
            refine z_cV (As := [.ref (ad 883), .int (zI (5)), .int (zI (0)), .int (zI (99))]) (rest := []) (ci := 9) C (c_X7_readTable l D A cs tt N ad _ (by omega) _ tp hruny35 hP9  (5) (by omega) (0) (by omega) (99) (by omega)) (by omega) hay2 hcdy1 rfl rfl mv_yX7_readTable q_856 hd_yX7_readTable (by decide) (Nat.le_of_ble_eq_true rfl) (by decide) dX7_readClause_88 rfl (kV0 fun gvy36 hvy36 => ?_)
            obtain ⟨⟨covy36, hkvy36, hnvy36⟩, hpvy36, hfvy36⟩ := hvy36
            obtain ⟨pldy37, endy37, tydy37, a9dy37, bedy37, tkdy37, tddy37, hAdy37, hTdy37, hcdy37, hddy37⟩ := id hkvy36
            refine z_goto (tgt := 126) C dX7_readClause_91 (by decide) ?_
            have hruny38 : okRun cs ad gvy36 (covy36) tp := ⟨_, _, _, _, _, _, _, by omega, by omega, hcdy37, hddy37⟩
            have hoky39 : okWorld cs ad gvy36 (890) := okWorld.mv (fun j j1 j2 => by rw [hfvy36 _ (by omega) (by omega)]) hW9
            exact z_vret C hr hlk dX7_readClause_126 (by decide) (by decide) ⟨rfl, rfl, rfl, ⟨_, hruny38, by omega⟩, hpvy36, hoky39, fun j j1 j2 => by rw [hfvy36 _ (by omega) (by omega)]⟩
        · refine z_aload_n C 0 dX7_readClause_61 rfl ?_
          refine z_aload_n C 1 dX7_readClause_62 rfl ?_
          refine z_iconst (z := 0) C dX7_readClause_63 rfl ?_
          refine z_iconst (z := 0) C dX7_readClause_64 rfl ?_
          refine z_bipush (z := 99) C dX7_readClause_65 (by decide) ?_
          have hruny40 : okRun cs ad g (co) tp := ⟨_, _, _, _, _, _, _, by omega, by omega, hcdy1, hddy1⟩
          refine z_cV (As := [.ref (ad 883), .int (zI (0)), .int (zI (0)), .int (zI (99))]) (rest := []) (ci := 9) C (c_X7_readTable l D A cs tt N ad _ (by omega) _ tp hruny40 hP9  (0) (by omega) (0) (by omega) (99) (by omega)) (by omega) hay2 hcdy1 rfl rfl mv_yX7_readTable q_856 hd_yX7_readTable (by decide) (Nat.le_of_ble_eq_true rfl) (by decide) dX7_readClause_67 rfl (kV0 fun gvy41 hvy41 => ?_)
          obtain ⟨⟨covy41, hkvy41, hnvy41⟩, hpvy41, hfvy41⟩ := hvy41
          obtain ⟨pldy42, endy42, tydy42, a9dy42, bedy42, tkdy42, tddy42, hAdy42, hTdy42, hcdy42, hddy42⟩ := id hkvy41
          refine z_goto (tgt := 126) C dX7_readClause_70 (by decide) ?_
          have hruny43 : okRun cs ad gvy41 (covy41) tp := ⟨_, _, _, _, _, _, _, by omega, by omega, hcdy42, hddy42⟩
          have hoky44 : okWorld cs ad gvy41 (890) := okWorld.mv (fun j j1 j2 => by rw [hfvy41 _ (by omega) (by omega)]) hW9
          exact z_vret C hr hlk dX7_readClause_126 (by decide) (by decide) ⟨rfl, rfl, rfl, ⟨_, hruny43, by omega⟩, hpvy41, hoky44, fun j j1 j2 => by rw [hfvy41 _ (by omega) (by omega)]⟩
      · refine z_aload_n C 0 dX7_readClause_44 rfl ?_
        refine z_aload_n C 1 dX7_readClause_45 rfl ?_
        have hruny45 : okRun cs ad g (co) tp := ⟨_, _, _, _, _, _, _, by omega, by omega, hcdy1, hddy1⟩
        refine z_cV (As := [.ref (ad 883)]) (rest := []) (ci := 9) C (c_X7_readHour l D A cs tt N ad _ (by omega) _ tp hruny45 hP9  ) (by omega) hay2 hcdy1 rfl rfl mv_yX7_readHour q_844 hd_yX7_readHour (by decide) (Nat.le_of_ble_eq_true rfl) (by decide) dX7_readClause_46 rfl (kV0 fun gvy46 hvy46 => ?_)
        obtain ⟨⟨covy46, hkvy46, hnvy46⟩, hpvy46, hfvy46⟩ := hvy46
        obtain ⟨pldy47, endy47, tydy47, a9dy47, bedy47, tkdy47, tddy47, hAdy47, hTdy47, hcdy47, hddy47⟩ := id hkvy46
        refine z_goto (tgt := 126) C dX7_readClause_49 (by decide) ?_
        have hruny48 : okRun cs ad gvy46 (covy46) tp := ⟨_, _, _, _, _, _, _, by omega, by omega, hcdy47, hddy47⟩
        have hoky49 : okWorld cs ad gvy46 (890) := okWorld.mv (fun j j1 j2 => by rw [hfvy46 _ (by omega) (by omega)]) hW9
        exact z_vret C hr hlk dX7_readClause_126 (by decide) (by decide) ⟨rfl, rfl, rfl, ⟨_, hruny48, by omega⟩, hpvy46, hoky49, fun j j1 j2 => by rw [hfvy46 _ (by omega) (by omega)]⟩
    · refine z_aload_n C 0 dX7_readClause_26 rfl ?_
      refine z_aload_n C 1 dX7_readClause_27 rfl ?_
      refine z_aload_n C 2 dX7_readClause_28 rfl ?_
      have hruny50 : okRun cs ad g (co) tp := ⟨_, _, _, _, _, _, _, by omega, by omega, hcdy1, hddy1⟩
      refine z_cV (As := [.ref (ad 883), .ref (ad 890)]) (rest := []) (ci := 9) C (c_X7_readLayer l D A cs tt N ad _ (by omega) _ tp hruny50 hP9 hW9 ) (by omega) hay2 hcdy1 rfl rfl mv_yX7_readLayer q_826 hd_yX7_readLayer (by decide) (Nat.le_of_ble_eq_true rfl) (by decide) dX7_readClause_29 rfl (kV0 fun gvy51 hvy51 => ?_)
      obtain ⟨⟨covy51, hkvy51, hnvy51⟩, hpvy51, hwvy51, hfvy51⟩ := hvy51
      obtain ⟨pldy52, endy52, tydy52, a9dy52, bedy52, tkdy52, tddy52, hAdy52, hTdy52, hcdy52, hddy52⟩ := id hkvy51
      refine z_goto (tgt := 126) C dX7_readClause_32 (by decide) ?_
      have hruny53 : okRun cs ad gvy51 (covy51) tp := ⟨_, _, _, _, _, _, _, by omega, by omega, hcdy52, hddy52⟩
      exact z_vret C hr hlk dX7_readClause_126 (by decide) (by decide) ⟨rfl, rfl, rfl, ⟨_, hruny53, by omega⟩, hpvy51, hwvy51, fun j j1 j2 => by rw [hfvy51 _ (by omega) (by omega)]⟩
  · refine z_aload_n C 0 dX7_readClause_9 rfl ?_
    refine z_aload_n C 1 dX7_readClause_10 rfl ?_
    have hruny54 : okRun cs ad g (co) tp := ⟨_, _, _, _, _, _, _, by omega, by omega, hcdy1, hddy1⟩
    refine z_cV (As := [.ref (ad 883)]) (rest := []) (ci := 9) C (c_X7_readSlope l D A cs tt N ad _ (by omega) _ tp hruny54 hP9  ) (by omega) hay2 hcdy1 rfl rfl mv_yX7_readSlope q_805 hd_yX7_readSlope (by decide) (Nat.le_of_ble_eq_true rfl) (by decide) dX7_readClause_11 rfl (kV0 fun gvy55 hvy55 => ?_)
    obtain ⟨⟨covy55, hkvy55, hnvy55⟩, hpvy55, hfvy55⟩ := hvy55
    obtain ⟨pldy56, endy56, tydy56, a9dy56, bedy56, tkdy56, tddy56, hAdy56, hTdy56, hcdy56, hddy56⟩ := id hkvy55
    refine z_goto (tgt := 126) C dX7_readClause_14 (by decide) ?_
    have hruny57 : okRun cs ad gvy55 (covy55) tp := ⟨_, _, _, _, _, _, _, by omega, by omega, hcdy56, hddy56⟩
    have hoky58 : okWorld cs ad gvy55 (890) := okWorld.mv (fun j j1 j2 => by rw [hfvy55 _ (by omega) (by omega)]) hW9
    exact z_vret C hr hlk dX7_readClause_126 (by decide) (by decide) ⟨rfl, rfl, rfl, ⟨_, hruny57, by omega⟩, hpvy55, hoky58, fun j j1 j2 => by rw [hfvy55 _ (by omega) (by omega)]⟩

