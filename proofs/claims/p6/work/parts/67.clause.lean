set_option maxRecDepth 100000 in
set_option maxHeartbeats 4000000 in
theorem c_X7_readSlope (l : Launch) (D : va_G) (A : Nat → Prop) (cs : Nat → ClassId) (tt : Nat) (N : Nat) (ad : Nat → Nat) (g : Nat → va_E) (hN : 952 ≤ N) (co : Int) (tp : Nat → Int) (hR : okRun cs ad g co tp) (hP9 : okPlan cs ad g 883) : zM l yX7_readSlope cX7_readSlope 4 none ({ frames := 6, cells := 0, slots := 0, locals := 360 } : Room) D A cs tt N ad g [.ref (ad 2), .ref (ad 883)] (rV0 N ad fun g' => (∃ co' : Int, okRun cs ad g' co' tp ∧ co ≤ co') ∧ okPlan cs ad g' 883 ∧ ∀ j, j ≠ 2 → (j < 883 ∨ 890 ≤ j) → g' j = g j) := by
  obtain ⟨pldy1, endy1, tydy1, a9dy1, bedy1, tkdy1, tddy1, hAdy1, hTdy1, hcdy1, hddy1⟩ := id hR
  have hay2 : zAt ad (2) (ad 2) := rfl
  have hay3 : zAt ad (1) (ad 1) := rfl
  have hay4 : zAt ad (883) (ad 883) := rfl
  obtain ⟨sloy5, hooy5, uaoy5, stoy5, opoy5, aioy5, faoy5, muoy5, tboy5, hsloy5, hhooy5, hpoy5⟩ := id hP9
  have hay6 : zAt ad (883 + 1) (ad (883 + 1)) := rfl
  have hay7 : zAt ad (883 + 2) (ad (883 + 2)) := rfl
  have hay8 : zAt ad (883 + 3) (ad (883 + 3)) := rfl
  have hay9 : zAt ad (883 + 4) (ad (883 + 4)) := rfl
  have hay10 : zAt ad (883 + 5) (ad (883 + 5)) := rfl
  have hay11 : zAt ad (883 + 6) (ad (883 + 6)) := rfl
  refine z_of (by decide) (Nat.le_of_ble_eq_true rfl) ?_
  intro p e s m below meth c C hr hlk hnm
  refine z_lv (lv' := [(0, .ref (ad 2)), (1, .ref (ad 883))]) [0, 1] rfl ?_
  refine z_aload_n C 1 dX7_readSlope_0 rfl ?_
  refine z_get (v := .int (zI (sloy5))) C (lt_K hN (rfl : Nat.blt (883) 952 = true)) hay4 hpoy5.1 rfl inA_X5 0 (by decide) q_89 rfl rfl dX7_readSlope_1 ?_
  refine z_iconst (z := 4) C dX7_readSlope_4 rfl ?_
  refine z_icmp_lt (tgt := 17) C dX7_readSlope_5 (by decide) (by omega) (by omega) (fun hby12 => ?_) (fun hby12 => ?_)
  · refine z_aload_n C 0 dX7_readSlope_17 rfl ?_
    have hruny13 : okRun cs ad g (co) tp := ⟨_, _, _, _, _, _, _, by omega, by omega, hcdy1, hddy1⟩
    refine z_cV (As := []) (rest := []) (ci := 9) C (c_X7_take l D A cs tt N ad _ (by omega) _ tp hruny13) (lt_K hN (rfl : Nat.blt (2) 952 = true)) hay2 hcdy1 rfl rfl mv_yX7_take q_813 hd_yX7_take (by decide) (Nat.le_of_ble_eq_true rfl) (by decide) dX7_readSlope_18 rfl (kV0 fun gvy14 hvy14 => ?_)
    obtain ⟨hkvy14, hfvy14⟩ := hvy14
    obtain ⟨pldy15, endy15, tydy15, a9dy15, bedy15, tkdy15, tddy15, hAdy15, hTdy15, hcdy15, hddy15⟩ := id hkvy14
    refine z_aload_n C 0 dX7_readSlope_21 rfl ?_
    refine z_iconst (z := 0) C dX7_readSlope_22 rfl ?_
    refine z_bipush (z := 90) C dX7_readSlope_23 (by decide) ?_
    have hruny16 : okRun cs ad gvy14 (co) tp := ⟨_, _, _, _, _, _, _, by omega, by omega, hcdy15, hddy15⟩
    refine z_cV (As := [.int (zI (0)), .int (zI (90))]) (rest := []) (ci := 9) C (c_X7_number l D A cs tt N ad _ (by omega) _ tp hruny16 (0) (by omega) (90) (by omega)) (lt_K hN (rfl : Nat.blt (2) 952 = true)) hay2 hcdy15 rfl rfl mv_yX7_number q_817 hd_yX7_number (by decide) (Nat.le_of_ble_eq_true rfl) (by decide) dX7_readSlope_25 rfl (kI0 fun vy17 gvy17 hvy17 => ?_)
    obtain ⟨hrvy17, ⟨covy17, hkvy17, hnvy17⟩, hfvy17⟩ := hvy17
    obtain ⟨pldy18, endy18, tydy18, a9dy18, bedy18, tkdy18, tddy18, hAdy18, hTdy18, hcdy18, hddy18⟩ := id hkvy17
    refine z_istore_n (lv' := [(2, .int (zI (vy17))), (0, .ref (ad 2)), (1, .ref (ad 883))]) C dX7_readSlope_28 rfl (by decide) rfl ?_
    refine z_aload_n C 1 dX7_readSlope_29 rfl ?_
    refine z_iconst (z := 0) C dX7_readSlope_30 rfl ?_
    refine z_bipush (z := 20) C dX7_readSlope_31 (by decide) ?_
    have hruny19 : okRun cs ad gvy17 (covy17) tp := ⟨_, _, _, _, _, _, _, by omega, by omega, hcdy18, hddy18⟩
    refine z_cV (As := [.int (zI (0)), .int (zI (20))]) (rest := []) (ci := 9) C (c_X7_number l D A cs tt N ad _ (by omega) _ tp hruny19 (0) (by omega) (20) (by omega)) (lt_K hN (rfl : Nat.blt (2) 952 = true)) hay2 hcdy18 rfl rfl mv_yX7_number q_817 hd_yX7_number (by decide) (Nat.le_of_ble_eq_true rfl) (by decide) dX7_readSlope_33 rfl (kI0 fun vy20 gvy20 hvy20 => ?_)
    obtain ⟨hrvy20, ⟨covy20, hkvy20, hnvy20⟩, hfvy20⟩ := hvy20
    obtain ⟨pldy21, endy21, tydy21, a9dy21, bedy21, tkdy21, tddy21, hAdy21, hTdy21, hcdy21, hddy21⟩ := id hkvy20
    refine z_istore_n (lv' := [(3, .int (zI (vy20))), (2, .int (zI (vy17))), (0, .ref (ad 2)), (1, .ref (ad 883))]) C dX7_readSlope_36 rfl (by decide) rfl ?_
    refine z_aload_n C 2 dX7_readSlope_37 rfl ?_
    have hruny22 : okRun cs ad gvy20 (covy20) tp := ⟨_, _, _, _, _, _, _, by omega, by omega, hcdy21, hddy21⟩
    refine z_cV (As := []) (rest := []) (ci := 9) C (c_X7_close l D A cs tt N ad _ (by omega) _ tp hruny22 ) (lt_K hN (rfl : Nat.blt (2) 952 = true)) hay2 hcdy21 rfl rfl mv_yX7_close q_821 hd_yX7_close (by decide) (Nat.le_of_ble_eq_true rfl) (by decide) dX7_readSlope_38 rfl (kV0 fun gvy23 hvy23 => ?_)
    obtain ⟨⟨covy23, hkvy23, hnvy23⟩, hfvy23⟩ := hvy23
    obtain ⟨pldy24, endy24, tydy24, a9dy24, bedy24, tkdy24, tddy24, hAdy24, hTdy24, hcdy24, hddy24⟩ := id hkvy23
    refine z_aload_n C 2 dX7_readSlope_41 rfl ?_
    refine z_get (v := .int (zI (covy23))) C (lt_K hN (rfl : Nat.blt (2) 952 = true)) hay2 hcdy24 rfl inA_X7 1 (by decide) q_45 rfl rfl dX7_readSlope_42 ?_
    refine z_if_ne (tgt := 78) C dX7_readSlope_45 (by decide) (by omega) (fun hby25 => ?_) (fun hby25 => ?_)
    · have hruny26 : okRun cs ad gvy23 (covy23) tp := ⟨_, _, _, _, _, _, _, by omega, by omega, hcdy24, hddy24⟩
      have hgy27 := (hfvy14 (883) (by decide)).trans hpoy5.1
      have hgy28 := (hfvy17 (883) (by decide)).trans hgy27
      have hgy29 := (hfvy20 (883) (by decide)).trans hgy28
      have hgy30 := (hfvy23 (883) (by decide)).trans hgy29
      have hgy31 := (hfvy14 (883 + 1) (by omega)).trans hpoy5.2.1
      have hgy32 := (hfvy17 (883 + 1) (by omega)).trans hgy31
      have hgy33 := (hfvy20 (883 + 1) (by omega)).trans hgy32
      have hgy34 := (hfvy23 (883 + 1) (by omega)).trans hgy33
      have hgy35 := (hfvy14 (883 + 2) (by omega)).trans hpoy5.2.2.1
      have hgy36 := (hfvy17 (883 + 2) (by omega)).trans hgy35
      have hgy37 := (hfvy20 (883 + 2) (by omega)).trans hgy36
      have hgy38 := (hfvy23 (883 + 2) (by omega)).trans hgy37
      have hgy39 := (hfvy14 (883 + 3) (by omega)).trans hpoy5.2.2.2.1
      have hgy40 := (hfvy17 (883 + 3) (by omega)).trans hgy39
      have hgy41 := (hfvy20 (883 + 3) (by omega)).trans hgy40
      have hgy42 := (hfvy23 (883 + 3) (by omega)).trans hgy41
      have hgy43 := (hfvy14 (883 + 4) (by omega)).trans hpoy5.2.2.2.2.1
      have hgy44 := (hfvy17 (883 + 4) (by omega)).trans hgy43
      have hgy45 := (hfvy20 (883 + 4) (by omega)).trans hgy44
      have hgy46 := (hfvy23 (883 + 4) (by omega)).trans hgy45
      have hgy47 := (hfvy14 (883 + 5) (by omega)).trans hpoy5.2.2.2.2.2.1
      have hgy48 := (hfvy17 (883 + 5) (by omega)).trans hgy47
      have hgy49 := (hfvy20 (883 + 5) (by omega)).trans hgy48
      have hgy50 := (hfvy23 (883 + 5) (by omega)).trans hgy49
      have hgy51 := (hfvy14 (883 + 6) (by omega)).trans hpoy5.2.2.2.2.2.2
      have hgy52 := (hfvy17 (883 + 6) (by omega)).trans hgy51
      have hgy53 := (hfvy20 (883 + 6) (by omega)).trans hgy52
      have hgy54 := (hfvy23 (883 + 6) (by omega)).trans hgy53
      exact z_vret C hr hlk dX7_readSlope_78 (by decide) (by decide) ⟨rfl, rfl, rfl, ⟨_, hruny26, by omega⟩, ⟨_, _, _, _, _, _, _, _, _, by omega, by omega, ⟨hgy30, hgy34, hgy38, hgy42, hgy46, hgy50, hgy54⟩⟩, fun j j1 j2 => by rw [hfvy23 _ (by omega)]; rw [hfvy20 _ (by omega)]; rw [hfvy17 _ (by omega)]; rw [hfvy14 _ (by omega)]⟩
    · refine z_aload_n C 3 dX7_readSlope_48 rfl ?_
      have hgy55 := (hfvy14 (883) (by decide)).trans hpoy5.1
      have hgy56 := (hfvy17 (883) (by decide)).trans hgy55
      have hgy57 := (hfvy20 (883) (by decide)).trans hgy56
      have hgy58 := (hfvy23 (883) (by decide)).trans hgy57
      refine z_get (v := .ref (ad (883 + 1))) C (lt_K hN (rfl : Nat.blt (883) 952 = true)) hay4 hgy58 rfl inA_X5 3 (by decide) q_97 rfl rfl dX7_readSlope_49 ?_
      refine z_aload_n C 3 dX7_readSlope_52 rfl ?_
      refine z_get (v := .int (zI (sloy5))) C (lt_K hN (rfl : Nat.blt (883) 952 = true)) hay4 hgy58 rfl inA_X5 0 (by decide) q_89 rfl rfl dX7_readSlope_53 ?_
      refine z_iload_n C 1 dX7_readSlope_56 rfl ?_
      have hgy59 := (hfvy14 (883 + 1) (by omega)).trans hpoy5.2.1
      have hgy60 := (hfvy17 (883 + 1) (by omega)).trans hgy59
      have hgy61 := (hfvy20 (883 + 1) (by omega)).trans hgy60
      have hgy62 := (hfvy23 (883 + 1) (by omega)).trans hgy61
      refine z_iast C (lt_K hN (rfl : Nat.blt (883 + 1) 952 = true)) hay6 hgy62 ((sloy5).toNat) (by omega) (by omega) (by decide) dX7_readSlope_57 (fun gy63 egy64 => ?_)
      have hgy65 := up_s egy64
      refine z_aload_n C 3 dX7_readSlope_58 rfl ?_
      have hgy66 := up_n egy64 hgy58 (ne_o (i := 883) (c := 0) (d := 1) rfl)
      refine z_get (v := .ref (ad (883 + 2))) C (lt_K hN (rfl : Nat.blt (883) 952 = true)) hay4 hgy66 rfl inA_X5 4 (by decide) q_101 rfl rfl dX7_readSlope_59 ?_
      refine z_aload_n C 3 dX7_readSlope_62 rfl ?_
      refine z_get (v := .int (zI (sloy5))) C (lt_K hN (rfl : Nat.blt (883) 952 = true)) hay4 hgy66 rfl inA_X5 0 (by decide) q_89 rfl rfl dX7_readSlope_63 ?_
      refine z_iload_n C 0 dX7_readSlope_66 rfl ?_
      have hgy67 := (hfvy14 (883 + 2) (by omega)).trans hpoy5.2.2.1
      have hgy68 := (hfvy17 (883 + 2) (by omega)).trans hgy67
      have hgy69 := (hfvy20 (883 + 2) (by omega)).trans hgy68
      have hgy70 := (hfvy23 (883 + 2) (by omega)).trans hgy69
      have hgy71 := up_n egy64 hgy70 (ne_o (i := 883) (c := 2) (d := 1) rfl)
      refine z_iast C (lt_K hN (rfl : Nat.blt (883 + 2) 952 = true)) hay7 hgy71 ((sloy5).toNat) (by omega) (by omega) (by decide) dX7_readSlope_67 (fun gy72 egy73 => ?_)
      have hgy74 := up_s egy73
      refine z_aload_n C 3 dX7_readSlope_68 rfl ?_
      refine z_dup C dX7_readSlope_69 rfl ?_
      have hgy75 := up_n egy73 hgy66 (ne_o (i := 883) (c := 0) (d := 2) rfl)
      refine z_get (v := .int (zI (sloy5))) C (lt_K hN (rfl : Nat.blt (883) 952 = true)) hay4 hgy75 rfl inA_X5 0 (by decide) q_89 rfl rfl dX7_readSlope_70 ?_
      refine z_iconst (z := 1) C dX7_readSlope_73 rfl ?_
      refine z_iadd C dX7_readSlope_74 ?_
      refine z_put (fs' := [.int (zI (sloy5 + 1)), .int (zI (hooy5)), .int (zI (uaoy5)), .ref (ad (883 + 1)), .ref (ad (883 + 2)), .ref (ad (883 + 3)), .ref (ad (883 + 4)), .ref (ad (883 + 5)), .ref (ad (883 + 6))]) C (lt_K hN (rfl : Nat.blt (883) 952 = true)) hay4 hgy75 tyX5 tyX5_ok nmX5 rfl inA_X5 0 (by decide) q_89 rfl rfl rfl rfl (Nat.le_of_ble_eq_true rfl) rfl dX7_readSlope_75 (fun gy76 egy77 => ?_)
      have hgy78 := up_s egy77
      have hgy80 := up_n egy64 hcdy24 (by omega)
      have hgy81 := up_n egy73 hgy80 (by omega)
      have hgy82 := up_n egy77 hgy81 (by decide)
      have hgy83 := up_n egy64 hddy24 (by omega)
      have hgy84 := up_n egy73 hgy83 (by omega)
      have hgy85 := up_n egy77 hgy84 (by decide)
      have hruny79 : okRun cs ad gy76 (covy23) tp := ⟨_, _, _, _, _, _, _, by omega, by omega, hgy82, hgy85⟩
      have hgy86 := up_n egy73 hgy65 (ne_o (i := 883) (c := 1) (d := 2) rfl)
      have hgy87 := up_n egy77 hgy86 (ne_o (i := 883) (c := 1) (d := 0) rfl)
      have hgy88 := up_n egy77 hgy74 (ne_o (i := 883) (c := 2) (d := 0) rfl)
      have hgy89 := (hfvy14 (883 + 3) (by omega)).trans hpoy5.2.2.2.1
      have hgy90 := (hfvy17 (883 + 3) (by omega)).trans hgy89
      have hgy91 := (hfvy20 (883 + 3) (by omega)).trans hgy90
      have hgy92 := (hfvy23 (883 + 3) (by omega)).trans hgy91
      have hgy93 := up_n egy64 hgy92 (ne_o (i := 883) (c := 3) (d := 1) rfl)
      have hgy94 := up_n egy73 hgy93 (ne_o (i := 883) (c := 3) (d := 2) rfl)
      have hgy95 := up_n egy77 hgy94 (ne_o (i := 883) (c := 3) (d := 0) rfl)
      have hgy96 := (hfvy14 (883 + 4) (by omega)).trans hpoy5.2.2.2.2.1
      have hgy97 := (hfvy17 (883 + 4) (by omega)).trans hgy96
      have hgy98 := (hfvy20 (883 + 4) (by omega)).trans hgy97
      have hgy99 := (hfvy23 (883 + 4) (by omega)).trans hgy98
      have hgy100 := up_n egy64 hgy99 (ne_o (i := 883) (c := 4) (d := 1) rfl)
      have hgy101 := up_n egy73 hgy100 (ne_o (i := 883) (c := 4) (d := 2) rfl)
      have hgy102 := up_n egy77 hgy101 (ne_o (i := 883) (c := 4) (d := 0) rfl)
      have hgy103 := (hfvy14 (883 + 5) (by omega)).trans hpoy5.2.2.2.2.2.1
      have hgy104 := (hfvy17 (883 + 5) (by omega)).trans hgy103
      have hgy105 := (hfvy20 (883 + 5) (by omega)).trans hgy104
      have hgy106 := (hfvy23 (883 + 5) (by omega)).trans hgy105
      have hgy107 := up_n egy64 hgy106 (ne_o (i := 883) (c := 5) (d := 1) rfl)
      have hgy108 := up_n egy73 hgy107 (ne_o (i := 883) (c := 5) (d := 2) rfl)
      have hgy109 := up_n egy77 hgy108 (ne_o (i := 883) (c := 5) (d := 0) rfl)
      have hgy110 := (hfvy14 (883 + 6) (by omega)).trans hpoy5.2.2.2.2.2.2
      have hgy111 := (hfvy17 (883 + 6) (by omega)).trans hgy110
      have hgy112 := (hfvy20 (883 + 6) (by omega)).trans hgy111
      have hgy113 := (hfvy23 (883 + 6) (by omega)).trans hgy112
      have hgy114 := up_n egy64 hgy113 (ne_o (i := 883) (c := 6) (d := 1) rfl)
      have hgy115 := up_n egy73 hgy114 (ne_o (i := 883) (c := 6) (d := 2) rfl)
      have hgy116 := up_n egy77 hgy115 (ne_o (i := 883) (c := 6) (d := 0) rfl)
      exact z_vret C hr hlk dX7_readSlope_78 (by decide) (by decide) ⟨rfl, rfl, rfl, ⟨_, hruny79, by omega⟩, ⟨_, _, _, _, _, _, _, _, _, by omega, by omega, ⟨hgy78, hgy87, hgy88, hgy95, hgy102, hgy109, hgy116⟩⟩, fun j j1 j2 => by rw [egy77, va_up_ne _ _ (by omega)]; rw [egy73, va_up_ne _ _ (by omega)]; rw [egy64, va_up_ne _ _ (by omega)]; rw [hfvy23 _ (by omega)]; rw [hfvy20 _ (by omega)]; rw [hfvy17 _ (by omega)]; rw [hfvy14 _ (by omega)]⟩
  · refine z_aload_n C 0 dX7_readSlope_8 rfl ?_
    refine z_iconst (z := 2) C dX7_readSlope_9 rfl ?_
    refine z_aload_n C 0 dX7_readSlope_10 rfl ?_
    refine z_get (v := .int (zI (a9dy1))) C (lt_K hN (rfl : Nat.blt (2) 952 = true)) hay2 hcdy1 rfl inA_X7 5 (by decide) q_49 rfl rfl dX7_readSlope_11 ?_
    have hruny117 : okRun cs ad g (co) tp := ⟨_, _, _, _, _, _, _, by omega, by omega, hcdy1, hddy1⟩
    refine z_cV (As := [.int (zI (2)), .int (zI (a9dy1))]) (rest := []) (ci := 9) C (c_X7_fail l D A cs tt N ad _ (by omega) _ tp hruny117 (2) (by omega) (a9dy1) (by omega)) (lt_K hN (rfl : Nat.blt (2) 952 = true)) hay2 hcdy1 rfl rfl mv_yX7_fail q_809 hd_yX7_fail (by decide) (Nat.le_of_ble_eq_true rfl) (by decide) dX7_readSlope_14 rfl (kV0 fun gvy118 hvy118 => ?_)
    obtain ⟨⟨covy118, hkvy118, hnvy118⟩, hfvy118⟩ := hvy118
    obtain ⟨pldy119, endy119, tydy119, a9dy119, bedy119, tkdy119, tddy119, hAdy119, hTdy119, hcdy119, hddy119⟩ := id hkvy118
    refine z_aload_n C 0 dX7_readSlope_17 rfl ?_
    have hruny120 : okRun cs ad gvy118 (covy118) tp := ⟨_, _, _, _, _, _, _, by omega, by omega, hcdy119, hddy119⟩
    refine z_cV (As := []) (rest := []) (ci := 9) C (c_X7_take l D A cs tt N ad _ (by omega) _ tp hruny120) (lt_K hN (rfl : Nat.blt (2) 952 = true)) hay2 hcdy119 rfl rfl mv_yX7_take q_813 hd_yX7_take (by decide) (Nat.le_of_ble_eq_true rfl) (by decide) dX7_readSlope_18 rfl (kV0 fun gvy121 hvy121 => ?_)
    obtain ⟨hkvy121, hfvy121⟩ := hvy121
    obtain ⟨pldy122, endy122, tydy122, a9dy122, bedy122, tkdy122, tddy122, hAdy122, hTdy122, hcdy122, hddy122⟩ := id hkvy121
    refine z_aload_n C 0 dX7_readSlope_21 rfl ?_
    refine z_iconst (z := 0) C dX7_readSlope_22 rfl ?_
    refine z_bipush (z := 90) C dX7_readSlope_23 (by decide) ?_
    have hruny123 : okRun cs ad gvy121 (covy118) tp := ⟨_, _, _, _, _, _, _, by omega, by omega, hcdy122, hddy122⟩
    refine z_cV (As := [.int (zI (0)), .int (zI (90))]) (rest := []) (ci := 9) C (c_X7_number l D A cs tt N ad _ (by omega) _ tp hruny123 (0) (by omega) (90) (by omega)) (lt_K hN (rfl : Nat.blt (2) 952 = true)) hay2 hcdy122 rfl rfl mv_yX7_number q_817 hd_yX7_number (by decide) (Nat.le_of_ble_eq_true rfl) (by decide) dX7_readSlope_25 rfl (kI0 fun vy124 gvy124 hvy124 => ?_)
    obtain ⟨hrvy124, ⟨covy124, hkvy124, hnvy124⟩, hfvy124⟩ := hvy124
    obtain ⟨pldy125, endy125, tydy125, a9dy125, bedy125, tkdy125, tddy125, hAdy125, hTdy125, hcdy125, hddy125⟩ := id hkvy124
    refine z_istore_n (lv' := [(2, .int (zI (vy124))), (0, .ref (ad 2)), (1, .ref (ad 883))]) C dX7_readSlope_28 rfl (by decide) rfl ?_
    refine z_aload_n C 1 dX7_readSlope_29 rfl ?_
    refine z_iconst (z := 0) C dX7_readSlope_30 rfl ?_
    refine z_bipush (z := 20) C dX7_readSlope_31 (by decide) ?_
    have hruny126 : okRun cs ad gvy124 (covy124) tp := ⟨_, _, _, _, _, _, _, by omega, by omega, hcdy125, hddy125⟩
    refine z_cV (As := [.int (zI (0)), .int (zI (20))]) (rest := []) (ci := 9) C (c_X7_number l D A cs tt N ad _ (by omega) _ tp hruny126 (0) (by omega) (20) (by omega)) (lt_K hN (rfl : Nat.blt (2) 952 = true)) hay2 hcdy125 rfl rfl mv_yX7_number q_817 hd_yX7_number (by decide) (Nat.le_of_ble_eq_true rfl) (by decide) dX7_readSlope_33 rfl (kI0 fun vy127 gvy127 hvy127 => ?_)
    obtain ⟨hrvy127, ⟨covy127, hkvy127, hnvy127⟩, hfvy127⟩ := hvy127
    obtain ⟨pldy128, endy128, tydy128, a9dy128, bedy128, tkdy128, tddy128, hAdy128, hTdy128, hcdy128, hddy128⟩ := id hkvy127
    refine z_istore_n (lv' := [(3, .int (zI (vy127))), (2, .int (zI (vy124))), (0, .ref (ad 2)), (1, .ref (ad 883))]) C dX7_readSlope_36 rfl (by decide) rfl ?_
    refine z_aload_n C 2 dX7_readSlope_37 rfl ?_
    have hruny129 : okRun cs ad gvy127 (covy127) tp := ⟨_, _, _, _, _, _, _, by omega, by omega, hcdy128, hddy128⟩
    refine z_cV (As := []) (rest := []) (ci := 9) C (c_X7_close l D A cs tt N ad _ (by omega) _ tp hruny129 ) (lt_K hN (rfl : Nat.blt (2) 952 = true)) hay2 hcdy128 rfl rfl mv_yX7_close q_821 hd_yX7_close (by decide) (Nat.le_of_ble_eq_true rfl) (by decide) dX7_readSlope_38 rfl (kV0 fun gvy130 hvy130 => ?_)
    obtain ⟨⟨covy130, hkvy130, hnvy130⟩, hfvy130⟩ := hvy130
    obtain ⟨pldy131, endy131, tydy131, a9dy131, bedy131, tkdy131, tddy131, hAdy131, hTdy131, hcdy131, hddy131⟩ := id hkvy130
    refine z_aload_n C 2 dX7_readSlope_41 rfl ?_
    refine z_get (v := .int (zI (covy130))) C (lt_K hN (rfl : Nat.blt (2) 952 = true)) hay2 hcdy131 rfl inA_X7 1 (by decide) q_45 rfl rfl dX7_readSlope_42 ?_
    refine z_if_ne (tgt := 78) C dX7_readSlope_45 (by decide) (by omega) (fun hby132 => ?_) (fun hby132 => ?_)
    · have hruny133 : okRun cs ad gvy130 (covy130) tp := ⟨_, _, _, _, _, _, _, by omega, by omega, hcdy131, hddy131⟩
      have hgy134 := (hfvy118 (883) (by decide)).trans hpoy5.1
      have hgy135 := (hfvy121 (883) (by decide)).trans hgy134
      have hgy136 := (hfvy124 (883) (by decide)).trans hgy135
      have hgy137 := (hfvy127 (883) (by decide)).trans hgy136
      have hgy138 := (hfvy130 (883) (by decide)).trans hgy137
      have hgy139 := (hfvy118 (883 + 1) (by omega)).trans hpoy5.2.1
      have hgy140 := (hfvy121 (883 + 1) (by omega)).trans hgy139
      have hgy141 := (hfvy124 (883 + 1) (by omega)).trans hgy140
      have hgy142 := (hfvy127 (883 + 1) (by omega)).trans hgy141
      have hgy143 := (hfvy130 (883 + 1) (by omega)).trans hgy142
      have hgy144 := (hfvy118 (883 + 2) (by omega)).trans hpoy5.2.2.1
      have hgy145 := (hfvy121 (883 + 2) (by omega)).trans hgy144
      have hgy146 := (hfvy124 (883 + 2) (by omega)).trans hgy145
      have hgy147 := (hfvy127 (883 + 2) (by omega)).trans hgy146
      have hgy148 := (hfvy130 (883 + 2) (by omega)).trans hgy147
      have hgy149 := (hfvy118 (883 + 3) (by omega)).trans hpoy5.2.2.2.1
      have hgy150 := (hfvy121 (883 + 3) (by omega)).trans hgy149
      have hgy151 := (hfvy124 (883 + 3) (by omega)).trans hgy150
      have hgy152 := (hfvy127 (883 + 3) (by omega)).trans hgy151
      have hgy153 := (hfvy130 (883 + 3) (by omega)).trans hgy152
      have hgy154 := (hfvy118 (883 + 4) (by omega)).trans hpoy5.2.2.2.2.1
      have hgy155 := (hfvy121 (883 + 4) (by omega)).trans hgy154
      have hgy156 := (hfvy124 (883 + 4) (by omega)).trans hgy155
      have hgy157 := (hfvy127 (883 + 4) (by omega)).trans hgy156
      have hgy158 := (hfvy130 (883 + 4) (by omega)).trans hgy157
      have hgy159 := (hfvy118 (883 + 5) (by omega)).trans hpoy5.2.2.2.2.2.1
      have hgy160 := (hfvy121 (883 + 5) (by omega)).trans hgy159
      have hgy161 := (hfvy124 (883 + 5) (by omega)).trans hgy160
      have hgy162 := (hfvy127 (883 + 5) (by omega)).trans hgy161
      have hgy163 := (hfvy130 (883 + 5) (by omega)).trans hgy162
      have hgy164 := (hfvy118 (883 + 6) (by omega)).trans hpoy5.2.2.2.2.2.2
      have hgy165 := (hfvy121 (883 + 6) (by omega)).trans hgy164
      have hgy166 := (hfvy124 (883 + 6) (by omega)).trans hgy165
      have hgy167 := (hfvy127 (883 + 6) (by omega)).trans hgy166
      have hgy168 := (hfvy130 (883 + 6) (by omega)).trans hgy167
      exact z_vret C hr hlk dX7_readSlope_78 (by decide) (by decide) ⟨rfl, rfl, rfl, ⟨_, hruny133, by omega⟩, ⟨_, _, _, _, _, _, _, _, _, by omega, by omega, ⟨hgy138, hgy143, hgy148, hgy153, hgy158, hgy163, hgy168⟩⟩, fun j j1 j2 => by rw [hfvy130 _ (by omega)]; rw [hfvy127 _ (by omega)]; rw [hfvy124 _ (by omega)]; rw [hfvy121 _ (by omega)]; rw [hfvy118 _ (by omega)]⟩
    · refine z_aload_n C 3 dX7_readSlope_48 rfl ?_
      have hgy169 := (hfvy118 (883) (by decide)).trans hpoy5.1
      have hgy170 := (hfvy121 (883) (by decide)).trans hgy169
      have hgy171 := (hfvy124 (883) (by decide)).trans hgy170
      have hgy172 := (hfvy127 (883) (by decide)).trans hgy171
      have hgy173 := (hfvy130 (883) (by decide)).trans hgy172
      refine z_get (v := .ref (ad (883 + 1))) C (lt_K hN (rfl : Nat.blt (883) 952 = true)) hay4 hgy173 rfl inA_X5 3 (by decide) q_97 rfl rfl dX7_readSlope_49 ?_
      refine z_aload_n C 3 dX7_readSlope_52 rfl ?_
      refine z_get (v := .int (zI (sloy5))) C (lt_K hN (rfl : Nat.blt (883) 952 = true)) hay4 hgy173 rfl inA_X5 0 (by decide) q_89 rfl rfl dX7_readSlope_53 ?_
      refine z_iload_n C 1 dX7_readSlope_56 rfl ?_
      have hgy174 := (hfvy118 (883 + 1) (by omega)).trans hpoy5.2.1
      have hgy175 := (hfvy121 (883 + 1) (by omega)).trans hgy174
      have hgy176 := (hfvy124 (883 + 1) (by omega)).trans hgy175
      have hgy177 := (hfvy127 (883 + 1) (by omega)).trans hgy176
      have hgy178 := (hfvy130 (883 + 1) (by omega)).trans hgy177
      refine z_iast C (lt_K hN (rfl : Nat.blt (883 + 1) 952 = true)) hay6 hgy178 ((sloy5).toNat) (by omega) (by omega) (by decide) dX7_readSlope_57 (fun gy179 egy180 => ?_)
      have hgy181 := up_s egy180
      refine z_aload_n C 3 dX7_readSlope_58 rfl ?_
      have hgy182 := up_n egy180 hgy173 (ne_o (i := 883) (c := 0) (d := 1) rfl)
      refine z_get (v := .ref (ad (883 + 2))) C (lt_K hN (rfl : Nat.blt (883) 952 = true)) hay4 hgy182 rfl inA_X5 4 (by decide) q_101 rfl rfl dX7_readSlope_59 ?_
      refine z_aload_n C 3 dX7_readSlope_62 rfl ?_
      refine z_get (v := .int (zI (sloy5))) C (lt_K hN (rfl : Nat.blt (883) 952 = true)) hay4 hgy182 rfl inA_X5 0 (by decide) q_89 rfl rfl dX7_readSlope_63 ?_
      refine z_iload_n C 0 dX7_readSlope_66 rfl ?_
      have hgy183 := (hfvy118 (883 + 2) (by omega)).trans hpoy5.2.2.1
      have hgy184 := (hfvy121 (883 + 2) (by omega)).trans hgy183
      have hgy185 := (hfvy124 (883 + 2) (by omega)).trans hgy184
      have hgy186 := (hfvy127 (883 + 2) (by omega)).trans hgy185
      have hgy187 := (hfvy130 (883 + 2) (by omega)).trans hgy186
      have hgy188 := up_n egy180 hgy187 (ne_o (i := 883) (c := 2) (d := 1) rfl)
      refine z_iast C (lt_K hN (rfl : Nat.blt (883 + 2) 952 = true)) hay7 hgy188 ((sloy5).toNat) (by omega) (by omega) (by decide) dX7_readSlope_67 (fun gy189 egy190 => ?_)
      have hgy191 := up_s egy190
      refine z_aload_n C 3 dX7_readSlope_68 rfl ?_
      refine z_dup C dX7_readSlope_69 rfl ?_
      have hgy192 := up_n egy190 hgy182 (ne_o (i := 883) (c := 0) (d := 2) rfl)
      refine z_get (v := .int (zI (sloy5))) C (lt_K hN (rfl : Nat.blt (883) 952 = true)) hay4 hgy192 rfl inA_X5 0 (by decide) q_89 rfl rfl dX7_readSlope_70 ?_
      refine z_iconst (z := 1) C dX7_readSlope_73 rfl ?_
      refine z_iadd C dX7_readSlope_74 ?_
      refine z_put (fs' := [.int (zI (sloy5 + 1)), .int (zI (hooy5)), .int (zI (uaoy5)), .ref (ad (883 + 1)), .ref (ad (883 + 2)), .ref (ad (883 + 3)), .ref (ad (883 + 4)), .ref (ad (883 + 5)), .ref (ad (883 + 6))]) C (lt_K hN (rfl : Nat.blt (883) 952 = true)) hay4 hgy192 tyX5 tyX5_ok nmX5 rfl inA_X5 0 (by decide) q_89 rfl rfl rfl rfl (Nat.le_of_ble_eq_true rfl) rfl dX7_readSlope_75 (fun gy193 egy194 => ?_)
      have hgy195 := up_s egy194
      have hgy197 := up_n egy180 hcdy131 (by omega)
      have hgy198 := up_n egy190 hgy197 (by omega)
      have hgy199 := up_n egy194 hgy198 (by decide)
      have hgy200 := up_n egy180 hddy131 (by omega)
      have hgy201 := up_n egy190 hgy200 (by omega)
      have hgy202 := up_n egy194 hgy201 (by decide)
      have hruny196 : okRun cs ad gy193 (covy130) tp := ⟨_, _, _, _, _, _, _, by omega, by omega, hgy199, hgy202⟩
      have hgy203 := up_n egy190 hgy181 (ne_o (i := 883) (c := 1) (d := 2) rfl)
      have hgy204 := up_n egy194 hgy203 (ne_o (i := 883) (c := 1) (d := 0) rfl)
      have hgy205 := up_n egy194 hgy191 (ne_o (i := 883) (c := 2) (d := 0) rfl)
      have hgy206 := (hfvy118 (883 + 3) (by omega)).trans hpoy5.2.2.2.1
      have hgy207 := (hfvy121 (883 + 3) (by omega)).trans hgy206
      have hgy208 := (hfvy124 (883 + 3) (by omega)).trans hgy207
      have hgy209 := (hfvy127 (883 + 3) (by omega)).trans hgy208
      have hgy210 := (hfvy130 (883 + 3) (by omega)).trans hgy209
      have hgy211 := up_n egy180 hgy210 (ne_o (i := 883) (c := 3) (d := 1) rfl)
      have hgy212 := up_n egy190 hgy211 (ne_o (i := 883) (c := 3) (d := 2) rfl)
      have hgy213 := up_n egy194 hgy212 (ne_o (i := 883) (c := 3) (d := 0) rfl)
      have hgy214 := (hfvy118 (883 + 4) (by omega)).trans hpoy5.2.2.2.2.1
      have hgy215 := (hfvy121 (883 + 4) (by omega)).trans hgy214
      have hgy216 := (hfvy124 (883 + 4) (by omega)).trans hgy215
      have hgy217 := (hfvy127 (883 + 4) (by omega)).trans hgy216
      have hgy218 := (hfvy130 (883 + 4) (by omega)).trans hgy217
      have hgy219 := up_n egy180 hgy218 (ne_o (i := 883) (c := 4) (d := 1) rfl)
      have hgy220 := up_n egy190 hgy219 (ne_o (i := 883) (c := 4) (d := 2) rfl)
      have hgy221 := up_n egy194 hgy220 (ne_o (i := 883) (c := 4) (d := 0) rfl)
      have hgy222 := (hfvy118 (883 + 5) (by omega)).trans hpoy5.2.2.2.2.2.1
      have hgy223 := (hfvy121 (883 + 5) (by omega)).trans hgy222
      have hgy224 := (hfvy124 (883 + 5) (by omega)).trans hgy223
      have hgy225 := (hfvy127 (883 + 5) (by omega)).trans hgy224
      have hgy226 := (hfvy130 (883 + 5) (by omega)).trans hgy225
      have hgy227 := up_n egy180 hgy226 (ne_o (i := 883) (c := 5) (d := 1) rfl)
      have hgy228 := up_n egy190 hgy227 (ne_o (i := 883) (c := 5) (d := 2) rfl)
      have hgy229 := up_n egy194 hgy228 (ne_o (i := 883) (c := 5) (d := 0) rfl)
      have hgy230 := (hfvy118 (883 + 6) (by omega)).trans hpoy5.2.2.2.2.2.2
      have hgy231 := (hfvy121 (883 + 6) (by omega)).trans hgy230
      have hgy232 := (hfvy124 (883 + 6) (by omega)).trans hgy231
      have hgy233 := (hfvy127 (883 + 6) (by omega)).trans hgy232
      have hgy234 := (hfvy130 (883 + 6) (by omega)).trans hgy233
      have hgy235 := up_n egy180 hgy234 (ne_o (i := 883) (c := 6) (d := 1) rfl)
      have hgy236 := up_n egy190 hgy235 (ne_o (i := 883) (c := 6) (d := 2) rfl)
      have hgy237 := up_n egy194 hgy236 (ne_o (i := 883) (c := 6) (d := 0) rfl)
      exact z_vret C hr hlk dX7_readSlope_78 (by decide) (by decide) ⟨rfl, rfl, rfl, ⟨_, hruny196, by omega⟩, ⟨_, _, _, _, _, _, _, _, _, by omega, by omega, ⟨hgy195, hgy204, hgy205, hgy213, hgy221, hgy229, hgy237⟩⟩, fun j j1 j2 => by rw [egy194, va_up_ne _ _ (by omega)]; rw [egy190, va_up_ne _ _ (by omega)]; rw [egy180, va_up_ne _ _ (by omega)]; rw [hfvy130 _ (by omega)]; rw [hfvy127 _ (by omega)]; rw [hfvy124 _ (by omega)]; rw [hfvy121 _ (by omega)]; rw [hfvy118 _ (by omega)]⟩

set_option maxRecDepth 100000 in
set_option maxHeartbeats 4000000 in
theorem c_X7_readHour (l : Launch) (D : va_G) (A : Nat → Prop) (cs : Nat → ClassId) (tt : Nat) (N : Nat) (ad : Nat → Nat) (g : Nat → va_E) (hN : 952 ≤ N) (co : Int) (tp : Nat → Int) (hR : okRun cs ad g co tp) (hP9 : okPlan cs ad g 883) : zM l yX7_readHour cX7_readHour 6 none ({ frames := 7, cells := 0, slots := 0, locals := 420 } : Room) D A cs tt N ad g [.ref (ad 2), .ref (ad 883)] (rV0 N ad fun g' => (∃ co' : Int, okRun cs ad g' co' tp ∧ co ≤ co') ∧ okPlan cs ad g' 883 ∧ ∀ j, j ≠ 2 → (j < 883 ∨ 890 ≤ j) → g' j = g j) := by
  obtain ⟨pldy1, endy1, tydy1, a9dy1, bedy1, tkdy1, tddy1, hAdy1, hTdy1, hcdy1, hddy1⟩ := id hR
  have hay2 : zAt ad (2) (ad 2) := rfl
  have hay3 : zAt ad (1) (ad 1) := rfl
  have hay4 : zAt ad (883) (ad 883) := rfl
  obtain ⟨sloy5, hooy5, uaoy5, stoy5, opoy5, aioy5, faoy5, muoy5, tboy5, hsloy5, hhooy5, hpoy5⟩ := id hP9
  have hay6 : zAt ad (883 + 1) (ad (883 + 1)) := rfl
  have hay7 : zAt ad (883 + 2) (ad (883 + 2)) := rfl
  have hay8 : zAt ad (883 + 3) (ad (883 + 3)) := rfl
  have hay9 : zAt ad (883 + 4) (ad (883 + 4)) := rfl
  have hay10 : zAt ad (883 + 5) (ad (883 + 5)) := rfl
  have hay11 : zAt ad (883 + 6) (ad (883 + 6)) := rfl
  refine z_of (by decide) (Nat.le_of_ble_eq_true rfl) ?_
  intro p e s m below meth c C hr hlk hnm
  refine z_lv (lv' := [(0, .ref (ad 2)), (1, .ref (ad 883))]) [0, 1] rfl ?_
  have s93 : ∀ (v2 : Int) (v3 : Int) (v4 : Int) (v5 : Int) (c1 : Int) (g1 : Nat → va_E), okRun cs ad g1 c1 tp → co ≤ c1 → (∀ j, j ≠ 2 → g1 j = g j) → (1 ≤ c1 ∨ hooy5 < 24) → (0 ≤ v2 ∧ v2 ≤ 1) → (0 ≤ v3 ∧ v3 ≤ 300) → (0 ≤ v4 ∧ v4 ≤ 3) → (0 ≤ v5 ∧ v5 ≤ 50) → zV p l e ({ frames := 7, cells := 0, slots := 0, locals := 420 } : Room) s m ([.ref (ad 2), .ref (ad 883)] : List Value).toArray below meth c (MQ below (zPost D A (rV0 N ad fun g' => (∃ co' : Int, okRun cs ad g' co' tp ∧ co ≤ co') ∧ okPlan cs ad g' 883 ∧ ∀ j, j ≠ 2 → (j < 883 ∨ 890 ≤ j) → g' j = g j)) ([.ref (ad 2), .ref (ad 883)] : List Value).toArray s ({ frames := 7, cells := 0, slots := 0, locals := 420 } : Room).cells ({ frames := 7, cells := 0, slots := 0, locals := 420 } : Room).slots A) D A 6 (N) ad g1 (0) (0) 93 [(0, .ref (ad 2)), (1, .ref (ad 883)), (2, .int (zI (v2))), (3, .int (zI (v3))), (4, .int (zI (v4))), (5, .int (zI (v5)))] [] := by
    intro v2 v3 v4 v5 c1 g1 f1 f2 f3 f4 hv2 hv3 hv4 hv5
    obtain ⟨pldy12, endy12, tydy12, a9dy12, bedy12, tkdy12, tddy12, hAdy12, hTdy12, hcdy12, hddy12⟩ := id f1
    refine z_aload_n C 0 dX7_readHour_93 rfl ?_
    have hruny13 : okRun cs ad g1 (c1) tp := ⟨_, _, _, _, _, _, _, by omega, by omega, hcdy12, hddy12⟩
    refine z_cV (As := []) (rest := []) (ci := 9) C (c_X7_close l D A cs tt N ad _ (by omega) _ tp hruny13 ) (by omega) hay2 hcdy12 rfl rfl mv_yX7_close q_821 hd_yX7_close (by decide) (Nat.le_of_ble_eq_true rfl) (by decide) dX7_readHour_94 rfl (kV0 fun gvy14 hvy14 => ?_)
    obtain ⟨⟨covy14, hkvy14, hnvy14⟩, hfvy14⟩ := hvy14
    obtain ⟨pldy15, endy15, tydy15, a9dy15, bedy15, tkdy15, tddy15, hAdy15, hTdy15, hcdy15, hddy15⟩ := id hkvy14
    refine z_aload_n C 0 dX7_readHour_97 rfl ?_
    refine z_get (v := .int (zI (covy14))) C (by omega) hay2 hcdy15 rfl inA_X7 1 (by decide) q_45 rfl rfl dX7_readHour_98 ?_
    refine z_if_ne (tgt := 155) C dX7_readHour_101 (by decide) (by omega) (fun hby16 => ?_) (fun hby16 => ?_)
    · have hruny17 : okRun cs ad gvy14 (covy14) tp := ⟨_, _, _, _, _, _, _, by omega, by omega, hcdy15, hddy15⟩
      have hgy18 := (hfvy14 (883) (by decide)).trans ((f3 _ (by omega)).trans hpoy5.1)
      have hgy19 := (hfvy14 (883 + 1) (by omega)).trans ((f3 _ (by omega)).trans hpoy5.2.1)
      have hgy20 := (hfvy14 (883 + 2) (by omega)).trans ((f3 _ (by omega)).trans hpoy5.2.2.1)
      have hgy21 := (hfvy14 (883 + 3) (by omega)).trans ((f3 _ (by omega)).trans hpoy5.2.2.2.1)
      have hgy22 := (hfvy14 (883 + 4) (by omega)).trans ((f3 _ (by omega)).trans hpoy5.2.2.2.2.1)
      have hgy23 := (hfvy14 (883 + 5) (by omega)).trans ((f3 _ (by omega)).trans hpoy5.2.2.2.2.2.1)
      have hgy24 := (hfvy14 (883 + 6) (by omega)).trans ((f3 _ (by omega)).trans hpoy5.2.2.2.2.2.2)
      exact z_vret C hr hlk dX7_readHour_155 (by decide) (by decide) ⟨rfl, rfl, rfl, ⟨_, hruny17, by omega⟩, ⟨_, _, _, _, _, _, _, _, _, by omega, by omega, ⟨hgy18, hgy19, hgy20, hgy21, hgy22, hgy23, hgy24⟩⟩, fun j j1 j2 => by rw [hfvy14 _ (by omega)]; exact f3 j j1⟩
    · refine z_aload_n C 1 dX7_readHour_104 rfl ?_
      have hgy25 := (hfvy14 (883) (by decide)).trans ((f3 _ (by omega)).trans hpoy5.1)
      refine z_get (v := .ref (ad (883 + 3))) C (by omega) hay4 hgy25 rfl inA_X5 5 (by decide) q_106 rfl rfl dX7_readHour_105 ?_
      refine z_aload_n C 1 dX7_readHour_108 rfl ?_
      refine z_get (v := .int (zI (hooy5))) C (by omega) hay4 hgy25 rfl inA_X5 1 (by decide) q_94 rfl rfl dX7_readHour_109 ?_
      refine z_iload_n C 2 dX7_readHour_112 rfl ?_
      refine z_if_eq (tgt := 121) C dX7_readHour_113 (by decide) (by omega) (fun hby26 => ?_) (fun hby26 => ?_)
      · refine z_iload_n C 3 dX7_readHour_121 rfl ?_
        have hgy27 := (hfvy14 (883 + 3) (by omega)).trans ((f3 _ (by omega)).trans hpoy5.2.2.2.1)
        refine z_iast C (by omega) hay8 hgy27 ((hooy5).toNat) (by omega) (by omega) (by decide) dX7_readHour_122 (fun gy28 egy29 => ?_)
        have hgy30 := up_s egy29
        refine z_aload_n C 1 dX7_readHour_123 rfl ?_
        have hgy31 := up_n egy29 hgy25 (ne_o (i := 883) (c := 0) (d := 3) rfl)
        refine z_get (v := .ref (ad (883 + 4))) C (by omega) hay4 hgy31 rfl inA_X5 6 (by decide) q_109 rfl rfl dX7_readHour_124 ?_
        refine z_aload_n C 1 dX7_readHour_127 rfl ?_
        refine z_get (v := .int (zI (hooy5))) C (by omega) hay4 hgy31 rfl inA_X5 1 (by decide) q_94 rfl rfl dX7_readHour_128 ?_
        refine z_iload C 4 dX7_readHour_131 rfl ?_
        have hgy32 := (hfvy14 (883 + 4) (by omega)).trans ((f3 _ (by omega)).trans hpoy5.2.2.2.2.1)
        have hgy33 := up_n egy29 hgy32 (ne_o (i := 883) (c := 4) (d := 3) rfl)
        refine z_iast C (by omega) hay9 hgy33 ((hooy5).toNat) (by omega) (by omega) (by decide) dX7_readHour_133 (fun gy34 egy35 => ?_)
        have hgy36 := up_s egy35
        refine z_aload_n C 1 dX7_readHour_134 rfl ?_
        have hgy37 := up_n egy35 hgy31 (ne_o (i := 883) (c := 0) (d := 4) rfl)
        refine z_get (v := .ref (ad (883 + 5))) C (by omega) hay4 hgy37 rfl inA_X5 7 (by decide) q_112 rfl rfl dX7_readHour_135 ?_
        refine z_aload_n C 1 dX7_readHour_138 rfl ?_
        refine z_get (v := .int (zI (hooy5))) C (by omega) hay4 hgy37 rfl inA_X5 1 (by decide) q_94 rfl rfl dX7_readHour_139 ?_
        refine z_iload C 5 dX7_readHour_142 rfl ?_
        have hgy38 := (hfvy14 (883 + 5) (by omega)).trans ((f3 _ (by omega)).trans hpoy5.2.2.2.2.2.1)
        have hgy39 := up_n egy29 hgy38 (ne_o (i := 883) (c := 5) (d := 3) rfl)
        have hgy40 := up_n egy35 hgy39 (ne_o (i := 883) (c := 5) (d := 4) rfl)
        refine z_iast C (by omega) hay10 hgy40 ((hooy5).toNat) (by omega) (by omega) (by decide) dX7_readHour_144 (fun gy41 egy42 => ?_)
        have hgy43 := up_s egy42
        refine z_aload_n C 1 dX7_readHour_145 rfl ?_
        refine z_dup C dX7_readHour_146 rfl ?_
        have hgy44 := up_n egy42 hgy37 (ne_o (i := 883) (c := 0) (d := 5) rfl)
        refine z_get (v := .int (zI (hooy5))) C (by omega) hay4 hgy44 rfl inA_X5 1 (by decide) q_94 rfl rfl dX7_readHour_147 ?_
        refine z_iconst (z := 1) C dX7_readHour_150 rfl ?_
        refine z_iadd C dX7_readHour_151 ?_
        refine z_put (fs' := [.int (zI (sloy5)), .int (zI (hooy5 + 1)), .int (zI (uaoy5)), .ref (ad (883 + 1)), .ref (ad (883 + 2)), .ref (ad (883 + 3)), .ref (ad (883 + 4)), .ref (ad (883 + 5)), .ref (ad (883 + 6))]) C (by omega) hay4 hgy44 tyX5 tyX5_ok nmX5 rfl inA_X5 1 (by decide) q_94 rfl rfl rfl rfl (Nat.le_of_ble_eq_true rfl) rfl dX7_readHour_152 (fun gy45 egy46 => ?_)
        have hgy47 := up_s egy46
        have hgy49 := up_n egy29 hcdy15 (by omega)
        have hgy50 := up_n egy35 hgy49 (by omega)
        have hgy51 := up_n egy42 hgy50 (by omega)
        have hgy52 := up_n egy46 hgy51 (by decide)
        have hgy53 := up_n egy29 hddy15 (by omega)
        have hgy54 := up_n egy35 hgy53 (by omega)
        have hgy55 := up_n egy42 hgy54 (by omega)
        have hgy56 := up_n egy46 hgy55 (by decide)
        have hruny48 : okRun cs ad gy45 (covy14) tp := ⟨_, _, _, _, _, _, _, by omega, by omega, hgy52, hgy56⟩
        have hgy57 := (hfvy14 (883 + 1) (by omega)).trans ((f3 _ (by omega)).trans hpoy5.2.1)
        have hgy58 := up_n egy29 hgy57 (ne_o (i := 883) (c := 1) (d := 3) rfl)
        have hgy59 := up_n egy35 hgy58 (ne_o (i := 883) (c := 1) (d := 4) rfl)
        have hgy60 := up_n egy42 hgy59 (ne_o (i := 883) (c := 1) (d := 5) rfl)
        have hgy61 := up_n egy46 hgy60 (ne_o (i := 883) (c := 1) (d := 0) rfl)
        have hgy62 := (hfvy14 (883 + 2) (by omega)).trans ((f3 _ (by omega)).trans hpoy5.2.2.1)
        have hgy63 := up_n egy29 hgy62 (ne_o (i := 883) (c := 2) (d := 3) rfl)
        have hgy64 := up_n egy35 hgy63 (ne_o (i := 883) (c := 2) (d := 4) rfl)
        have hgy65 := up_n egy42 hgy64 (ne_o (i := 883) (c := 2) (d := 5) rfl)
        have hgy66 := up_n egy46 hgy65 (ne_o (i := 883) (c := 2) (d := 0) rfl)
        have hgy67 := up_n egy35 hgy30 (ne_o (i := 883) (c := 3) (d := 4) rfl)
        have hgy68 := up_n egy42 hgy67 (ne_o (i := 883) (c := 3) (d := 5) rfl)
        have hgy69 := up_n egy46 hgy68 (ne_o (i := 883) (c := 3) (d := 0) rfl)
        have hgy70 := up_n egy42 hgy36 (ne_o (i := 883) (c := 4) (d := 5) rfl)
        have hgy71 := up_n egy46 hgy70 (ne_o (i := 883) (c := 4) (d := 0) rfl)
        have hgy72 := up_n egy46 hgy43 (ne_o (i := 883) (c := 5) (d := 0) rfl)
        have hgy73 := (hfvy14 (883 + 6) (by omega)).trans ((f3 _ (by omega)).trans hpoy5.2.2.2.2.2.2)
        have hgy74 := up_n egy29 hgy73 (ne_o (i := 883) (c := 6) (d := 3) rfl)
        have hgy75 := up_n egy35 hgy74 (ne_o (i := 883) (c := 6) (d := 4) rfl)
        have hgy76 := up_n egy42 hgy75 (ne_o (i := 883) (c := 6) (d := 5) rfl)
        have hgy77 := up_n egy46 hgy76 (ne_o (i := 883) (c := 6) (d := 0) rfl)
        exact z_vret C hr hlk dX7_readHour_155 (by decide) (by decide) ⟨rfl, rfl, rfl, ⟨_, hruny48, by omega⟩, ⟨_, _, _, _, _, _, _, _, _, by omega, by omega, ⟨hgy47, hgy61, hgy66, hgy69, hgy71, hgy72, hgy77⟩⟩, fun j j1 j2 => by rw [egy46, va_up_ne _ _ (by omega)]; rw [egy42, va_up_ne _ _ (by omega)]; rw [egy35, va_up_ne _ _ (by omega)]; rw [egy29, va_up_ne _ _ (by omega)]; rw [hfvy14 _ (by omega)]; exact f3 j j1⟩
      · refine z_iload_n C 3 dX7_readHour_116 rfl ?_
        refine z_ineg C dX7_readHour_117 ?_
        refine z_goto (tgt := 122) C dX7_readHour_118 (by decide) ?_
        have hgy78 := (hfvy14 (883 + 3) (by omega)).trans ((f3 _ (by omega)).trans hpoy5.2.2.2.1)
        refine z_iast C (by omega) hay8 hgy78 ((hooy5).toNat) (by omega) (by omega) (by decide) dX7_readHour_122 (fun gy79 egy80 => ?_)
        have hgy81 := up_s egy80
        refine z_aload_n C 1 dX7_readHour_123 rfl ?_
        have hgy82 := up_n egy80 hgy25 (ne_o (i := 883) (c := 0) (d := 3) rfl)
        refine z_get (v := .ref (ad (883 + 4))) C (by omega) hay4 hgy82 rfl inA_X5 6 (by decide) q_109 rfl rfl dX7_readHour_124 ?_
        refine z_aload_n C 1 dX7_readHour_127 rfl ?_
        refine z_get (v := .int (zI (hooy5))) C (by omega) hay4 hgy82 rfl inA_X5 1 (by decide) q_94 rfl rfl dX7_readHour_128 ?_
        refine z_iload C 4 dX7_readHour_131 rfl ?_
        have hgy83 := (hfvy14 (883 + 4) (by omega)).trans ((f3 _ (by omega)).trans hpoy5.2.2.2.2.1)
        have hgy84 := up_n egy80 hgy83 (ne_o (i := 883) (c := 4) (d := 3) rfl)
        refine z_iast C (by omega) hay9 hgy84 ((hooy5).toNat) (by omega) (by omega) (by decide) dX7_readHour_133 (fun gy85 egy86 => ?_)
        have hgy87 := up_s egy86
        refine z_aload_n C 1 dX7_readHour_134 rfl ?_
        have hgy88 := up_n egy86 hgy82 (ne_o (i := 883) (c := 0) (d := 4) rfl)
        refine z_get (v := .ref (ad (883 + 5))) C (by omega) hay4 hgy88 rfl inA_X5 7 (by decide) q_112 rfl rfl dX7_readHour_135 ?_
        refine z_aload_n C 1 dX7_readHour_138 rfl ?_
        refine z_get (v := .int (zI (hooy5))) C (by omega) hay4 hgy88 rfl inA_X5 1 (by decide) q_94 rfl rfl dX7_readHour_139 ?_
        refine z_iload C 5 dX7_readHour_142 rfl ?_
        have hgy89 := (hfvy14 (883 + 5) (by omega)).trans ((f3 _ (by omega)).trans hpoy5.2.2.2.2.2.1)
        have hgy90 := up_n egy80 hgy89 (ne_o (i := 883) (c := 5) (d := 3) rfl)
        have hgy91 := up_n egy86 hgy90 (ne_o (i := 883) (c := 5) (d := 4) rfl)
        refine z_iast C (by omega) hay10 hgy91 ((hooy5).toNat) (by omega) (by omega) (by decide) dX7_readHour_144 (fun gy92 egy93 => ?_)
        have hgy94 := up_s egy93
        refine z_aload_n C 1 dX7_readHour_145 rfl ?_
        refine z_dup C dX7_readHour_146 rfl ?_
        have hgy95 := up_n egy93 hgy88 (ne_o (i := 883) (c := 0) (d := 5) rfl)
        refine z_get (v := .int (zI (hooy5))) C (by omega) hay4 hgy95 rfl inA_X5 1 (by decide) q_94 rfl rfl dX7_readHour_147 ?_
        refine z_iconst (z := 1) C dX7_readHour_150 rfl ?_
        refine z_iadd C dX7_readHour_151 ?_
        refine z_put (fs' := [.int (zI (sloy5)), .int (zI (hooy5 + 1)), .int (zI (uaoy5)), .ref (ad (883 + 1)), .ref (ad (883 + 2)), .ref (ad (883 + 3)), .ref (ad (883 + 4)), .ref (ad (883 + 5)), .ref (ad (883 + 6))]) C (by omega) hay4 hgy95 tyX5 tyX5_ok nmX5 rfl inA_X5 1 (by decide) q_94 rfl rfl rfl rfl (Nat.le_of_ble_eq_true rfl) rfl dX7_readHour_152 (fun gy96 egy97 => ?_)
        have hgy98 := up_s egy97
        have hgy100 := up_n egy80 hcdy15 (by omega)
        have hgy101 := up_n egy86 hgy100 (by omega)
        have hgy102 := up_n egy93 hgy101 (by omega)
        have hgy103 := up_n egy97 hgy102 (by decide)
        have hgy104 := up_n egy80 hddy15 (by omega)
        have hgy105 := up_n egy86 hgy104 (by omega)
        have hgy106 := up_n egy93 hgy105 (by omega)
        have hgy107 := up_n egy97 hgy106 (by decide)
        have hruny99 : okRun cs ad gy96 (covy14) tp := ⟨_, _, _, _, _, _, _, by omega, by omega, hgy103, hgy107⟩
        have hgy108 := (hfvy14 (883 + 1) (by omega)).trans ((f3 _ (by omega)).trans hpoy5.2.1)
        have hgy109 := up_n egy80 hgy108 (ne_o (i := 883) (c := 1) (d := 3) rfl)
        have hgy110 := up_n egy86 hgy109 (ne_o (i := 883) (c := 1) (d := 4) rfl)
        have hgy111 := up_n egy93 hgy110 (ne_o (i := 883) (c := 1) (d := 5) rfl)
        have hgy112 := up_n egy97 hgy111 (ne_o (i := 883) (c := 1) (d := 0) rfl)
        have hgy113 := (hfvy14 (883 + 2) (by omega)).trans ((f3 _ (by omega)).trans hpoy5.2.2.1)
        have hgy114 := up_n egy80 hgy113 (ne_o (i := 883) (c := 2) (d := 3) rfl)
        have hgy115 := up_n egy86 hgy114 (ne_o (i := 883) (c := 2) (d := 4) rfl)
        have hgy116 := up_n egy93 hgy115 (ne_o (i := 883) (c := 2) (d := 5) rfl)
        have hgy117 := up_n egy97 hgy116 (ne_o (i := 883) (c := 2) (d := 0) rfl)
        have hgy118 := up_n egy86 hgy81 (ne_o (i := 883) (c := 3) (d := 4) rfl)
        have hgy119 := up_n egy93 hgy118 (ne_o (i := 883) (c := 3) (d := 5) rfl)
        have hgy120 := up_n egy97 hgy119 (ne_o (i := 883) (c := 3) (d := 0) rfl)
        have hgy121 := up_n egy93 hgy87 (ne_o (i := 883) (c := 4) (d := 5) rfl)
        have hgy122 := up_n egy97 hgy121 (ne_o (i := 883) (c := 4) (d := 0) rfl)
        have hgy123 := up_n egy97 hgy94 (ne_o (i := 883) (c := 5) (d := 0) rfl)
        have hgy124 := (hfvy14 (883 + 6) (by omega)).trans ((f3 _ (by omega)).trans hpoy5.2.2.2.2.2.2)
        have hgy125 := up_n egy80 hgy124 (ne_o (i := 883) (c := 6) (d := 3) rfl)
        have hgy126 := up_n egy86 hgy125 (ne_o (i := 883) (c := 6) (d := 4) rfl)
        have hgy127 := up_n egy93 hgy126 (ne_o (i := 883) (c := 6) (d := 5) rfl)
        have hgy128 := up_n egy97 hgy127 (ne_o (i := 883) (c := 6) (d := 0) rfl)
        exact z_vret C hr hlk dX7_readHour_155 (by decide) (by decide) ⟨rfl, rfl, rfl, ⟨_, hruny99, by omega⟩, ⟨_, _, _, _, _, _, _, _, _, by omega, by omega, ⟨hgy98, hgy112, hgy117, hgy120, hgy122, hgy123, hgy128⟩⟩, fun j j1 j2 => by rw [egy97, va_up_ne _ _ (by omega)]; rw [egy93, va_up_ne _ _ (by omega)]; rw [egy86, va_up_ne _ _ (by omega)]; rw [egy80, va_up_ne _ _ (by omega)]; rw [hfvy14 _ (by omega)]; exact f3 j j1⟩
  have s62 : ∀ (v2 : Int) (v3 : Int) (c1 : Int) (g1 : Nat → va_E), okRun cs ad g1 c1 tp → co ≤ c1 → (∀ j, j ≠ 2 → g1 j = g j) → (1 ≤ c1 ∨ hooy5 < 24) → (0 ≤ v2 ∧ v2 ≤ 1) → (0 ≤ v3 ∧ v3 ≤ 300) → zV p l e ({ frames := 7, cells := 0, slots := 0, locals := 420 } : Room) s m ([.ref (ad 2), .ref (ad 883)] : List Value).toArray below meth c (MQ below (zPost D A (rV0 N ad fun g' => (∃ co' : Int, okRun cs ad g' co' tp ∧ co ≤ co') ∧ okPlan cs ad g' 883 ∧ ∀ j, j ≠ 2 → (j < 883 ∨ 890 ≤ j) → g' j = g j)) ([.ref (ad 2), .ref (ad 883)] : List Value).toArray s ({ frames := 7, cells := 0, slots := 0, locals := 420 } : Room).cells ({ frames := 7, cells := 0, slots := 0, locals := 420 } : Room).slots A) D A 6 (N) ad g1 (0) (0) 62 [(0, .ref (ad 2)), (1, .ref (ad 883)), (2, .int (zI (v2))), (3, .int (zI (v3)))] [] := by
    intro v2 v3 c1 g1 f1 f2 f3 f4 hv2 hv3
    obtain ⟨pldy129, endy129, tydy129, a9dy129, bedy129, tkdy129, tddy129, hAdy129, hTdy129, hcdy129, hddy129⟩ := id f1
    refine z_aload_n C 0 dX7_readHour_62 rfl ?_
    have hruny130 : okRun cs ad g1 (c1) tp := ⟨_, _, _, _, _, _, _, by omega, by omega, hcdy129, hddy129⟩
    refine z_cV (As := []) (rest := []) (ci := 9) C (c_X7_readFall l D A cs tt N ad _ (by omega) _ tp hruny130 ) (by omega) hay2 hcdy129 rfl rfl mv_yX7_readFall q_848 hd_yX7_readFall (by decide) (Nat.le_of_ble_eq_true rfl) (by decide) dX7_readHour_63 rfl (kI0 fun vy131 gvy131 hvy131 => ?_)
    obtain ⟨hrvy131, ⟨covy131, hkvy131, hnvy131⟩, hfvy131⟩ := hvy131
    obtain ⟨pldy132, endy132, tydy132, a9dy132, bedy132, tkdy132, tddy132, hAdy132, hTdy132, hcdy132, hddy132⟩ := id hkvy131
    refine z_istore (lv' := [(4, .int (zI (vy131))), (0, .ref (ad 2)), (1, .ref (ad 883)), (2, .int (zI (v2))), (3, .int (zI (v3)))]) C dX7_readHour_66 (by decide) rfl ?_
    refine z_iload C 0 dX7_readHour_68 rfl ?_
    refine z_iconst (z := 1) C dX7_readHour_70 rfl ?_
    refine z_icmp_eq (tgt := 80) C dX7_readHour_71 (by decide) (by omega) (by omega) (fun hby133 => ?_) (fun hby133 => ?_)
    · refine z_aload_n C 1 dX7_readHour_80 rfl ?_
      refine z_iconst (z := 1) C dX7_readHour_81 rfl ?_
      refine z_bipush (z := 50) C dX7_readHour_82 (by decide) ?_
      have hruny134 : okRun cs ad gvy131 (covy131) tp := ⟨_, _, _, _, _, _, _, by omega, by omega, hcdy132, hddy132⟩
      refine z_cV (As := [.int (zI (1)), .int (zI (50))]) (rest := []) (ci := 9) C (c_X7_number l D A cs tt N ad _ (by omega) _ tp hruny134 (1) (by omega) (50) (by omega)) (by omega) hay2 hcdy132 rfl rfl mv_yX7_number q_817 hd_yX7_number (by decide) (Nat.le_of_ble_eq_true rfl) (by decide) dX7_readHour_84 rfl (kI0 fun vy135 gvy135 hvy135 => ?_)
      obtain ⟨hrvy135, ⟨covy135, hkvy135, hnvy135⟩, hfvy135⟩ := hvy135
      obtain ⟨pldy136, endy136, tydy136, a9dy136, bedy136, tkdy136, tddy136, hAdy136, hTdy136, hcdy136, hddy136⟩ := id hkvy135
      refine z_goto (tgt := 91) C dX7_readHour_87 (by decide) ?_
      refine z_istore (lv' := [(5, .int (zI (vy135))), (4, .int (zI (vy131))), (0, .ref (ad 2)), (1, .ref (ad 883)), (2, .int (zI (v2))), (3, .int (zI (v3)))]) C dX7_readHour_91 (by decide) rfl ?_
      have hruny137 : okRun cs ad gvy135 (covy135) tp := ⟨_, _, _, _, _, _, _, by omega, by omega, hcdy136, hddy136⟩
      refine z_lv (lv' := [(0, .ref (ad 2)), (1, .ref (ad 883)), (2, .int (zI (v2))), (3, .int (zI (v3))), (4, .int (zI (vy131))), (5, .int (zI (vy135)))]) [2, 3, 4, 5, 1, 0] rfl ?_
      exact s93 (v2) (v3) (vy131) (vy135) (covy135) gvy135 hruny137 (by omega) (fun j j1 => by rw [hfvy135 _ (by omega)]; rw [hfvy131 _ (by omega)]; exact f3 j j1) (by omega) (by omega) (by omega) (by omega) (by omega)
    · refine z_iload C 0 dX7_readHour_74 rfl ?_
      refine z_iconst (z := 2) C dX7_readHour_76 rfl ?_
      refine z_icmp_ne (tgt := 90) C dX7_readHour_77 (by decide) (by omega) (by omega) (fun hby138 => ?_) (fun hby138 => ?_)
      · refine z_iconst (z := 0) C dX7_readHour_90 rfl ?_
        refine z_istore (lv' := [(5, .int (zI (0))), (4, .int (zI (vy131))), (0, .ref (ad 2)), (1, .ref (ad 883)), (2, .int (zI (v2))), (3, .int (zI (v3)))]) C dX7_readHour_91 (by decide) rfl ?_
        have hruny139 : okRun cs ad gvy131 (covy131) tp := ⟨_, _, _, _, _, _, _, by omega, by omega, hcdy132, hddy132⟩
        refine z_lv (lv' := [(0, .ref (ad 2)), (1, .ref (ad 883)), (2, .int (zI (v2))), (3, .int (zI (v3))), (4, .int (zI (vy131))), (5, .int (zI (0)))]) [2, 3, 4, 5, 1, 0] rfl ?_
        exact s93 (v2) (v3) (vy131) (0) (covy131) gvy131 hruny139 (by omega) (fun j j1 => by rw [hfvy131 _ (by omega)]; exact f3 j j1) (by omega) (by omega) (by omega) (by omega) (by omega)
      · refine z_aload_n C 1 dX7_readHour_80 rfl ?_
        refine z_iconst (z := 1) C dX7_readHour_81 rfl ?_
        refine z_bipush (z := 50) C dX7_readHour_82 (by decide) ?_
        have hruny140 : okRun cs ad gvy131 (covy131) tp := ⟨_, _, _, _, _, _, _, by omega, by omega, hcdy132, hddy132⟩
        refine z_cV (As := [.int (zI (1)), .int (zI (50))]) (rest := []) (ci := 9) C (c_X7_number l D A cs tt N ad _ (by omega) _ tp hruny140 (1) (by omega) (50) (by omega)) (by omega) hay2 hcdy132 rfl rfl mv_yX7_number q_817 hd_yX7_number (by decide) (Nat.le_of_ble_eq_true rfl) (by decide) dX7_readHour_84 rfl (kI0 fun vy141 gvy141 hvy141 => ?_)
        obtain ⟨hrvy141, ⟨covy141, hkvy141, hnvy141⟩, hfvy141⟩ := hvy141
        obtain ⟨pldy142, endy142, tydy142, a9dy142, bedy142, tkdy142, tddy142, hAdy142, hTdy142, hcdy142, hddy142⟩ := id hkvy141
        refine z_goto (tgt := 91) C dX7_readHour_87 (by decide) ?_
        refine z_istore (lv' := [(5, .int (zI (vy141))), (4, .int (zI (vy131))), (0, .ref (ad 2)), (1, .ref (ad 883)), (2, .int (zI (v2))), (3, .int (zI (v3)))]) C dX7_readHour_91 (by decide) rfl ?_
        have hruny143 : okRun cs ad gvy141 (covy141) tp := ⟨_, _, _, _, _, _, _, by omega, by omega, hcdy142, hddy142⟩
        refine z_lv (lv' := [(0, .ref (ad 2)), (1, .ref (ad 883)), (2, .int (zI (v2))), (3, .int (zI (v3))), (4, .int (zI (vy131))), (5, .int (zI (vy141)))]) [2, 3, 4, 5, 1, 0] rfl ?_
        exact s93 (v2) (v3) (vy131) (vy141) (covy141) gvy141 hruny143 (by omega) (fun j j1 => by rw [hfvy141 _ (by omega)]; rw [hfvy131 _ (by omega)]; exact f3 j j1) (by omega) (by omega) (by omega) (by omega) (by omega)
  have s44 : ∀ (v2 : Int) (c1 : Int) (g1 : Nat → va_E), okRun cs ad g1 c1 tp → co ≤ c1 → (∀ j, j ≠ 2 → g1 j = g j) → (1 ≤ c1 ∨ hooy5 < 24) → (0 ≤ v2 ∧ v2 ≤ 1) → zV p l e ({ frames := 7, cells := 0, slots := 0, locals := 420 } : Room) s m ([.ref (ad 2), .ref (ad 883)] : List Value).toArray below meth c (MQ below (zPost D A (rV0 N ad fun g' => (∃ co' : Int, okRun cs ad g' co' tp ∧ co ≤ co') ∧ okPlan cs ad g' 883 ∧ ∀ j, j ≠ 2 → (j < 883 ∨ 890 ≤ j) → g' j = g j)) ([.ref (ad 2), .ref (ad 883)] : List Value).toArray s ({ frames := 7, cells := 0, slots := 0, locals := 420 } : Room).cells ({ frames := 7, cells := 0, slots := 0, locals := 420 } : Room).slots A) D A 6 (N) ad g1 (0) (0) 44 [(0, .ref (ad 2)), (1, .ref (ad 883)), (2, .int (zI (v2)))] [] := by
    intro v2 c1 g1 f1 f2 f3 f4 hv2
    obtain ⟨pldy144, endy144, tydy144, a9dy144, bedy144, tkdy144, tddy144, hAdy144, hTdy144, hcdy144, hddy144⟩ := id f1
    refine z_aload_n C 0 dX7_readHour_44 rfl ?_
    refine z_iconst (z := 0) C dX7_readHour_45 rfl ?_
    refine z_iload_n C 2 dX7_readHour_46 rfl ?_
    refine z_if_eq (tgt := 56) C dX7_readHour_47 (by decide) (by omega) (fun hby145 => ?_) (fun hby145 => ?_)
    · refine z_bipush (z := 100) C dX7_readHour_56 (by decide) ?_
      have hruny146 : okRun cs ad g1 (c1) tp := ⟨_, _, _, _, _, _, _, by omega, by omega, hcdy144, hddy144⟩
      refine z_cV (As := [.int (zI (0)), .int (zI (100))]) (rest := []) (ci := 9) C (c_X7_number l D A cs tt N ad _ (by omega) _ tp hruny146 (0) (by omega) (100) (by omega)) (by omega) hay2 hcdy144 rfl rfl mv_yX7_number q_817 hd_yX7_number (by decide) (Nat.le_of_ble_eq_true rfl) (by decide) dX7_readHour_58 rfl (kI0 fun vy147 gvy147 hvy147 => ?_)
      obtain ⟨hrvy147, ⟨covy147, hkvy147, hnvy147⟩, hfvy147⟩ := hvy147
      obtain ⟨pldy148, endy148, tydy148, a9dy148, bedy148, tkdy148, tddy148, hAdy148, hTdy148, hcdy148, hddy148⟩ := id hkvy147
      refine z_istore_n (lv' := [(3, .int (zI (vy147))), (0, .ref (ad 2)), (1, .ref (ad 883)), (2, .int (zI (v2)))]) C dX7_readHour_61 rfl (by decide) rfl ?_
      have hruny149 : okRun cs ad gvy147 (covy147) tp := ⟨_, _, _, _, _, _, _, by omega, by omega, hcdy148, hddy148⟩
      refine z_lv (lv' := [(0, .ref (ad 2)), (1, .ref (ad 883)), (2, .int (zI (v2))), (3, .int (zI (vy147)))]) [1, 2, 3, 0] rfl ?_
      exact s62 (v2) (vy147) (covy147) gvy147 hruny149 (by omega) (fun j j1 => by rw [hfvy147 _ (by omega)]; exact f3 j j1) (by omega) (by omega) (by omega)
    · refine z_sipush (z := 300) C dX7_readHour_50 (by decide) ?_
      refine z_goto (tgt := 58) C dX7_readHour_53 (by decide) ?_
      have hruny150 : okRun cs ad g1 (c1) tp := ⟨_, _, _, _, _, _, _, by omega, by omega, hcdy144, hddy144⟩
      refine z_cV (As := [.int (zI (0)), .int (zI (300))]) (rest := []) (ci := 9) C (c_X7_number l D A cs tt N ad _ (by omega) _ tp hruny150 (0) (by omega) (300) (by omega)) (by omega) hay2 hcdy144 rfl rfl mv_yX7_number q_817 hd_yX7_number (by decide) (Nat.le_of_ble_eq_true rfl) (by decide) dX7_readHour_58 rfl (kI0 fun vy151 gvy151 hvy151 => ?_)
      obtain ⟨hrvy151, ⟨covy151, hkvy151, hnvy151⟩, hfvy151⟩ := hvy151
      obtain ⟨pldy152, endy152, tydy152, a9dy152, bedy152, tkdy152, tddy152, hAdy152, hTdy152, hcdy152, hddy152⟩ := id hkvy151
      refine z_istore_n (lv' := [(3, .int (zI (vy151))), (0, .ref (ad 2)), (1, .ref (ad 883)), (2, .int (zI (v2)))]) C dX7_readHour_61 rfl (by decide) rfl ?_
      have hruny153 : okRun cs ad gvy151 (covy151) tp := ⟨_, _, _, _, _, _, _, by omega, by omega, hcdy152, hddy152⟩
      refine z_lv (lv' := [(0, .ref (ad 2)), (1, .ref (ad 883)), (2, .int (zI (v2))), (3, .int (zI (vy151)))]) [1, 2, 3, 0] rfl ?_
      exact s62 (v2) (vy151) (covy151) gvy151 hruny153 (by omega) (fun j j1 => by rw [hfvy151 _ (by omega)]; exact f3 j j1) (by omega) (by omega) (by omega)
  have s18 : ∀  (c1 : Int) (g1 : Nat → va_E), okRun cs ad g1 c1 tp → co ≤ c1 → (∀ j, j ≠ 2 → g1 j = g j) → (1 ≤ c1 ∨ hooy5 < 24) → zV p l e ({ frames := 7, cells := 0, slots := 0, locals := 420 } : Room) s m ([.ref (ad 2), .ref (ad 883)] : List Value).toArray below meth c (MQ below (zPost D A (rV0 N ad fun g' => (∃ co' : Int, okRun cs ad g' co' tp ∧ co ≤ co') ∧ okPlan cs ad g' 883 ∧ ∀ j, j ≠ 2 → (j < 883 ∨ 890 ≤ j) → g' j = g j)) ([.ref (ad 2), .ref (ad 883)] : List Value).toArray s ({ frames := 7, cells := 0, slots := 0, locals := 420 } : Room).cells ({ frames := 7, cells := 0, slots := 0, locals := 420 } : Room).slots A) D A 6 (N) ad g1 (0) (0) 18 [(0, .ref (ad 2)), (1, .ref (ad 883))] [] := by
    intro  c1 g1 f1 f2 f3 f4 
    obtain ⟨pldy154, endy154, tydy154, a9dy154, bedy154, tkdy154, tddy154, hAdy154, hTdy154, hcdy154, hddy154⟩ := id f1
    refine z_aload_n C 0 dX7_readHour_18 rfl ?_
    have hruny155 : okRun cs ad g1 (c1) tp := ⟨_, _, _, _, _, _, _, by omega, by omega, hcdy154, hddy154⟩
    refine z_cV (As := []) (rest := []) (ci := 9) C (c_X7_take l D A cs tt N ad _ (by omega) _ tp hruny155) (by omega) hay2 hcdy154 rfl rfl mv_yX7_take q_813 hd_yX7_take (by decide) (Nat.le_of_ble_eq_true rfl) (by decide) dX7_readHour_19 rfl (kV0 fun gvy156 hvy156 => ?_)
    obtain ⟨hkvy156, hfvy156⟩ := hvy156
    obtain ⟨pldy157, endy157, tydy157, a9dy157, bedy157, tkdy157, tddy157, hAdy157, hTdy157, hcdy157, hddy157⟩ := id hkvy156
    refine z_aload_n C 0 dX7_readHour_22 rfl ?_
    refine z_get (v := .int (zI (tydy157))) C (by omega) hay2 hcdy157 rfl inA_X7 4 (by decide) q_48 rfl rfl dX7_readHour_23 ?_
    refine z_iconst (z := 4) C dX7_readHour_26 rfl ?_
    refine z_icmp_ne (tgt := 34) C dX7_readHour_27 (by decide) (by omega) (by omega) (fun hby158 => ?_) (fun hby158 => ?_)
    · refine z_iconst (z := 0) C dX7_readHour_34 rfl ?_
      refine z_istore_n (lv' := [(2, .int (zI (0))), (0, .ref (ad 2)), (1, .ref (ad 883))]) C dX7_readHour_35 rfl (by decide) rfl ?_
      refine z_iload_n C 0 dX7_readHour_36 rfl ?_
      refine z_if_eq (tgt := 44) C dX7_readHour_37 (by decide) (by omega) (fun _ => ?_) (fun h => absurd h (by omega))
      have hruny159 : okRun cs ad gvy156 (c1) tp := ⟨_, _, _, _, _, _, _, by omega, by omega, hcdy157, hddy157⟩
      refine z_lv (lv' := [(0, .ref (ad 2)), (1, .ref (ad 883)), (2, .int (zI (0)))]) [1, 2, 0] rfl ?_
      exact s44 (0) (c1) gvy156 hruny159 (by omega) (fun j j1 => by rw [hfvy156 _ (by omega)]; exact f3 j j1) (by omega) (by omega)
    · refine z_iconst (z := 1) C dX7_readHour_30 rfl ?_
      refine z_goto (tgt := 35) C dX7_readHour_31 (by decide) ?_
      refine z_istore_n (lv' := [(2, .int (zI (1))), (0, .ref (ad 2)), (1, .ref (ad 883))]) C dX7_readHour_35 rfl (by decide) rfl ?_
      refine z_iload_n C 0 dX7_readHour_36 rfl ?_
      refine z_if_eq (tgt := 44) C dX7_readHour_37 (by decide) (by omega) (fun h => absurd h (by omega)) (fun _ => ?_)
      refine z_aload_n C 1 dX7_readHour_40 rfl ?_
      have hruny160 : okRun cs ad gvy156 (c1) tp := ⟨_, _, _, _, _, _, _, by omega, by omega, hcdy157, hddy157⟩
      refine z_cV (As := []) (rest := []) (ci := 9) C (c_X7_take l D A cs tt N ad _ (by omega) _ tp hruny160) (by omega) hay2 hcdy157 rfl rfl mv_yX7_take q_813 hd_yX7_take (by decide) (Nat.le_of_ble_eq_true rfl) (by decide) dX7_readHour_41 rfl (kV0 fun gvy161 hvy161 => ?_)
      obtain ⟨hkvy161, hfvy161⟩ := hvy161
      obtain ⟨pldy162, endy162, tydy162, a9dy162, bedy162, tkdy162, tddy162, hAdy162, hTdy162, hcdy162, hddy162⟩ := id hkvy161
      have hruny163 : okRun cs ad gvy161 (c1) tp := ⟨_, _, _, _, _, _, _, by omega, by omega, hcdy162, hddy162⟩
      refine z_lv (lv' := [(0, .ref (ad 2)), (1, .ref (ad 883)), (2, .int (zI (1)))]) [1, 2, 0] rfl ?_
      exact s44 (1) (c1) gvy161 hruny163 (by omega) (fun j j1 => by rw [hfvy161 _ (by omega)]; rw [hfvy156 _ (by omega)]; exact f3 j j1) (by omega) (by omega)
  refine z_aload_n C 1 dX7_readHour_0 rfl ?_
  refine z_get (v := .int (zI (hooy5))) C (lt_K hN (rfl : Nat.blt (883) 952 = true)) hay4 hpoy5.1 rfl inA_X5 1 (by decide) q_94 rfl rfl dX7_readHour_1 ?_
  refine z_bipush (z := 24) C dX7_readHour_4 (by decide) ?_
  refine z_icmp_lt (tgt := 18) C dX7_readHour_6 (by decide) (by omega) (by omega) (fun hby164 => ?_) (fun hby164 => ?_)
  · have hruny165 : okRun cs ad g (co) tp := ⟨_, _, _, _, _, _, _, by omega, by omega, hcdy1, hddy1⟩
    refine z_lv (lv' := [(0, .ref (ad 2)), (1, .ref (ad 883))]) [0, 1] rfl ?_
    exact s18  (co) g hruny165 (by omega) (fun j j1 => by rfl) (by omega)
  · refine z_aload_n C 0 dX7_readHour_9 rfl ?_
    refine z_iconst (z := 2) C dX7_readHour_10 rfl ?_
    refine z_aload_n C 0 dX7_readHour_11 rfl ?_
    refine z_get (v := .int (zI (a9dy1))) C (lt_K hN (rfl : Nat.blt (2) 952 = true)) hay2 hcdy1 rfl inA_X7 5 (by decide) q_49 rfl rfl dX7_readHour_12 ?_
    have hruny166 : okRun cs ad g (co) tp := ⟨_, _, _, _, _, _, _, by omega, by omega, hcdy1, hddy1⟩
    refine z_cV (As := [.int (zI (2)), .int (zI (a9dy1))]) (rest := []) (ci := 9) C (c_X7_fail l D A cs tt N ad _ (by omega) _ tp hruny166 (2) (by omega) (a9dy1) (by omega)) (lt_K hN (rfl : Nat.blt (2) 952 = true)) hay2 hcdy1 rfl rfl mv_yX7_fail q_809 hd_yX7_fail (by decide) (Nat.le_of_ble_eq_true rfl) (by decide) dX7_readHour_15 rfl (kV0 fun gvy167 hvy167 => ?_)
    obtain ⟨⟨covy167, hkvy167, hnvy167⟩, hfvy167⟩ := hvy167
    obtain ⟨pldy168, endy168, tydy168, a9dy168, bedy168, tkdy168, tddy168, hAdy168, hTdy168, hcdy168, hddy168⟩ := id hkvy167
    have hruny169 : okRun cs ad gvy167 (covy167) tp := ⟨_, _, _, _, _, _, _, by omega, by omega, hcdy168, hddy168⟩
    refine z_lv (lv' := [(0, .ref (ad 2)), (1, .ref (ad 883))]) [0, 1] rfl ?_
    exact s18  (covy167) gvy167 hruny169 (by omega) (fun j j1 => by rw [hfvy167 _ (by omega)]) (by omega)

set_option maxRecDepth 100000 in
set_option maxHeartbeats 4000000 in
theorem c_X7_readTable (l : Launch) (D : va_G) (A : Nat → Prop) (cs : Nat → ClassId) (tt : Nat) (N : Nat) (ad : Nat → Nat) (g : Nat → va_E) (hN : 952 ≤ N) (co : Int) (tp : Nat → Int) (hR : okRun cs ad g co tp) (hP9 : okPlan cs ad g 883) (z : Int) (hz : 0 ≤ z ∧ z ≤ 10) (z1 : Int) (hz1 : 0 ≤ z1 ∧ z1 ≤ 1) (z2 : Int) (hz2 : 0 ≤ z2 ∧ z2 ≤ 9999) : zM l yX7_readTable cX7_readTable 7 none ({ frames := 7, cells := 0, slots := 0, locals := 420 } : Room) D A cs tt N ad g [.ref (ad 2), .ref (ad 883), .int (zI (z)), .int (zI (z1)), .int (zI (z2))] (rV0 N ad fun g' => (∃ co' : Int, okRun cs ad g' co' tp ∧ co ≤ co') ∧ okPlan cs ad g' 883 ∧ ∀ j, j ≠ 2 → (j < 883 ∨ 890 ≤ j) → g' j = g j) := by
  obtain ⟨pldy1, endy1, tydy1, a9dy1, bedy1, tkdy1, tddy1, hAdy1, hTdy1, hcdy1, hddy1⟩ := id hR
  have hay2 : zAt ad (2) (ad 2) := rfl
  have hay3 : zAt ad (1) (ad 1) := rfl
  have hay4 : zAt ad (883) (ad 883) := rfl
  obtain ⟨sloy5, hooy5, uaoy5, stoy5, opoy5, aioy5, faoy5, muoy5, tboy5, hsloy5, hhooy5, hpoy5⟩ := id hP9
  have hay6 : zAt ad (883 + 1) (ad (883 + 1)) := rfl
  have hay7 : zAt ad (883 + 2) (ad (883 + 2)) := rfl
  have hay8 : zAt ad (883 + 3) (ad (883 + 3)) := rfl
  have hay9 : zAt ad (883 + 4) (ad (883 + 4)) := rfl
  have hay10 : zAt ad (883 + 5) (ad (883 + 5)) := rfl
  have hay11 : zAt ad (883 + 6) (ad (883 + 6)) := rfl
  refine z_of (by decide) (Nat.le_of_ble_eq_true rfl) ?_
  intro p e s m below meth c C hr hlk hnm
  refine z_lv (lv' := [(0, .ref (ad 2)), (1, .ref (ad 883)), (2, .int (zI (z))), (3, .int (zI (z1))), (4, .int (zI (z2)))]) [0, 1, 2, 3, 4] rfl ?_
  refine z_aload_n C 0 dX7_readTable_0 rfl ?_
  have hruny12 : okRun cs ad g (co) tp := ⟨_, _, _, _, _, _, _, by omega, by omega, hcdy1, hddy1⟩
  refine z_cV (As := []) (rest := []) (ci := 9) C (c_X7_take l D A cs tt N ad _ (by omega) _ tp hruny12) (lt_K hN (rfl : Nat.blt (2) 952 = true)) hay2 hcdy1 rfl rfl mv_yX7_take q_813 hd_yX7_take (by decide) (Nat.le_of_ble_eq_true rfl) (by decide) dX7_readTable_1 rfl (kV0 fun gvy13 hvy13 => ?_)
  obtain ⟨hkvy13, hfvy13⟩ := hvy13
  obtain ⟨pldy14, endy14, tydy14, a9dy14, bedy14, tkdy14, tddy14, hAdy14, hTdy14, hcdy14, hddy14⟩ := id hkvy13
  refine z_iload_n C 2 dX7_readTable_4 rfl ?_
  refine z_aload_n C 0 dX7_readTable_5 rfl ?_
  have hruny15 : okRun cs ad gvy13 (co) tp := ⟨_, _, _, _, _, _, _, by omega, by omega, hcdy14, hddy14⟩
  refine z_cV (As := []) (rest := [.int (zI (z))]) (ci := 9) C (c_X7_kind l D A cs tt N ad _ (by omega) _ tp hruny15 ) (lt_K hN (rfl : Nat.blt (2) 952 = true)) hay2 hcdy14 rfl rfl mv_yX7_kind q_830 hd_yX7_kind (by decide) (Nat.le_of_ble_eq_true rfl) (by decide) dX7_readTable_6 rfl (kI0 fun vy16 gvy16 hvy16 => ?_)
  obtain ⟨hrvy16, ⟨covy16, hkvy16, hnvy16⟩, hfvy16⟩ := hvy16
  obtain ⟨pldy17, endy17, tydy17, a9dy17, bedy17, tkdy17, tddy17, hAdy17, hTdy17, hcdy17, hddy17⟩ := id hkvy16
  refine z_iadd C dX7_readTable_9 ?_
  refine z_istore (lv' := [(5, .int (zI (z + vy16))), (0, .ref (ad 2)), (1, .ref (ad 883)), (2, .int (zI (z))), (3, .int (zI (z1))), (4, .int (zI (z2)))]) C dX7_readTable_10 (by decide) rfl ?_
  refine z_aload_n C 1 dX7_readTable_12 rfl ?_
  refine z_get (v := .int (zI (tddy17))) C (lt_K hN (rfl : Nat.blt (2) 952 = true)) hay2 hcdy17 rfl inA_X7 8 (by decide) q_52 rfl rfl dX7_readTable_13 ?_
  refine z_iload C 0 dX7_readTable_16 rfl ?_
  obtain ⟨xy18, exy19, hxy20⟩ := zI_of (zI (tddy17) >>> (zI (z + vy16) &&& 31))
  refine z_ishr (z := xy18) C dX7_readTable_18 exy19 ?_
  refine z_iconst (z := 1) C dX7_readTable_19 rfl ?_
  obtain ⟨xy21, exy22, hxy23⟩ := zI_and (zI (xy18)) (m := zI 1) 1 (by decide)
  refine z_iand (z := xy21) C dX7_readTable_20 exy22 ?_
  refine z_iconst (z := 1) C dX7_readTable_21 rfl ?_
  refine z_icmp_ne (tgt := 34) C dX7_readTable_22 (by decide) (by omega) (by omega) (fun hby24 => ?_) (fun hby24 => ?_)
  · refine z_aload_n C 1 dX7_readTable_34 rfl ?_
    refine z_iload_n C 4 dX7_readTable_35 rfl ?_
    refine z_iload C 5 dX7_readTable_36 rfl ?_
    have hruny25 : okRun cs ad gvy16 (covy16) tp := ⟨_, _, _, _, _, _, _, by omega, by omega, hcdy17, hddy17⟩
    refine z_cV (As := [.int (zI (z1)), .int (zI (z2))]) (rest := []) (ci := 9) C (c_X7_number l D A cs tt N ad _ (by omega) _ tp hruny25 (z1) (by omega) (z2) (by omega)) (lt_K hN (rfl : Nat.blt (2) 952 = true)) hay2 hcdy17 rfl rfl mv_yX7_number q_817 hd_yX7_number (by decide) (Nat.le_of_ble_eq_true rfl) (by decide) dX7_readTable_38 rfl (kI0 fun vy26 gvy26 hvy26 => ?_)
    obtain ⟨hrvy26, ⟨covy26, hkvy26, hnvy26⟩, hfvy26⟩ := hvy26
    obtain ⟨pldy27, endy27, tydy27, a9dy27, bedy27, tkdy27, tddy27, hAdy27, hTdy27, hcdy27, hddy27⟩ := id hkvy26
    refine z_istore (lv' := [(6, .int (zI (vy26))), (5, .int (zI (z + vy16))), (0, .ref (ad 2)), (1, .ref (ad 883)), (2, .int (zI (z))), (3, .int (zI (z1))), (4, .int (zI (z2)))]) C dX7_readTable_41 (by decide) rfl ?_
    refine z_aload_n C 2 dX7_readTable_43 rfl ?_
    have hruny28 : okRun cs ad gvy26 (covy26) tp := ⟨_, _, _, _, _, _, _, by omega, by omega, hcdy27, hddy27⟩
    refine z_cV (As := []) (rest := []) (ci := 9) C (c_X7_close l D A cs tt N ad _ (by omega) _ tp hruny28 ) (lt_K hN (rfl : Nat.blt (2) 952 = true)) hay2 hcdy27 rfl rfl mv_yX7_close q_821 hd_yX7_close (by decide) (Nat.le_of_ble_eq_true rfl) (by decide) dX7_readTable_44 rfl (kV0 fun gvy29 hvy29 => ?_)
    obtain ⟨⟨covy29, hkvy29, hnvy29⟩, hfvy29⟩ := hvy29
    obtain ⟨pldy30, endy30, tydy30, a9dy30, bedy30, tkdy30, tddy30, hAdy30, hTdy30, hcdy30, hddy30⟩ := id hkvy29
    refine z_aload_n C 2 dX7_readTable_47 rfl ?_
    refine z_get (v := .int (zI (covy29))) C (lt_K hN (rfl : Nat.blt (2) 952 = true)) hay2 hcdy30 rfl inA_X7 1 (by decide) q_45 rfl rfl dX7_readTable_48 ?_
    refine z_if_ne (tgt := 76) C dX7_readTable_51 (by decide) (by omega) (fun hby31 => ?_) (fun hby31 => ?_)
    · have hruny32 : okRun cs ad gvy29 (covy29) tp := ⟨_, _, _, _, _, _, _, by omega, by omega, hcdy30, hddy30⟩
      have hgy33 := (hfvy13 (883) (by decide)).trans hpoy5.1
      have hgy34 := (hfvy16 (883) (by decide)).trans hgy33
      have hgy35 := (hfvy26 (883) (by decide)).trans hgy34
      have hgy36 := (hfvy29 (883) (by decide)).trans hgy35
      have hgy37 := (hfvy13 (883 + 1) (by omega)).trans hpoy5.2.1
      have hgy38 := (hfvy16 (883 + 1) (by omega)).trans hgy37
      have hgy39 := (hfvy26 (883 + 1) (by omega)).trans hgy38
      have hgy40 := (hfvy29 (883 + 1) (by omega)).trans hgy39
      have hgy41 := (hfvy13 (883 + 2) (by omega)).trans hpoy5.2.2.1
      have hgy42 := (hfvy16 (883 + 2) (by omega)).trans hgy41
      have hgy43 := (hfvy26 (883 + 2) (by omega)).trans hgy42
      have hgy44 := (hfvy29 (883 + 2) (by omega)).trans hgy43
      have hgy45 := (hfvy13 (883 + 3) (by omega)).trans hpoy5.2.2.2.1
      have hgy46 := (hfvy16 (883 + 3) (by omega)).trans hgy45
      have hgy47 := (hfvy26 (883 + 3) (by omega)).trans hgy46
      have hgy48 := (hfvy29 (883 + 3) (by omega)).trans hgy47
      have hgy49 := (hfvy13 (883 + 4) (by omega)).trans hpoy5.2.2.2.2.1
      have hgy50 := (hfvy16 (883 + 4) (by omega)).trans hgy49
      have hgy51 := (hfvy26 (883 + 4) (by omega)).trans hgy50
      have hgy52 := (hfvy29 (883 + 4) (by omega)).trans hgy51
      have hgy53 := (hfvy13 (883 + 5) (by omega)).trans hpoy5.2.2.2.2.2.1
      have hgy54 := (hfvy16 (883 + 5) (by omega)).trans hgy53
      have hgy55 := (hfvy26 (883 + 5) (by omega)).trans hgy54
      have hgy56 := (hfvy29 (883 + 5) (by omega)).trans hgy55
      have hgy57 := (hfvy13 (883 + 6) (by omega)).trans hpoy5.2.2.2.2.2.2
      have hgy58 := (hfvy16 (883 + 6) (by omega)).trans hgy57
      have hgy59 := (hfvy26 (883 + 6) (by omega)).trans hgy58
      have hgy60 := (hfvy29 (883 + 6) (by omega)).trans hgy59
      exact z_vret C hr hlk dX7_readTable_76 (by decide) (by decide) ⟨rfl, rfl, rfl, ⟨_, hruny32, by omega⟩, ⟨_, _, _, _, _, _, _, _, _, by omega, by omega, ⟨hgy36, hgy40, hgy44, hgy48, hgy52, hgy56, hgy60⟩⟩, fun j j1 j2 => by rw [hfvy29 _ (by omega)]; rw [hfvy26 _ (by omega)]; rw [hfvy16 _ (by omega)]; rw [hfvy13 _ (by omega)]⟩
    · refine z_aload_n C 2 dX7_readTable_54 rfl ?_
      refine z_dup C dX7_readTable_55 rfl ?_
      refine z_get (v := .int (zI (tddy30))) C (lt_K hN (rfl : Nat.blt (2) 952 = true)) hay2 hcdy30 rfl inA_X7 8 (by decide) q_52 rfl rfl dX7_readTable_56 ?_
      refine z_iconst (z := 1) C dX7_readTable_59 rfl ?_
      refine z_iload C 1 dX7_readTable_60 rfl ?_
      obtain ⟨xy61, exy62, hxy63⟩ := zI_of (zI (1) <<< (zI (z + vy16) &&& 31))
      refine z_ishl (z := xy61) C dX7_readTable_62 exy62 ?_
      obtain ⟨xy64, exy65, hxy66⟩ := zI_of (zI (tddy30) ||| zI (xy61))
      refine z_ior (z := xy64) C dX7_readTable_63 exy65 ?_
      refine z_put (fs' := [.int (zI (pldy30)), .int (zI (covy29)), .ref (ad 1), .int (zI (endy30)), .int (zI (tydy30)), .int (zI (a9dy30)), .int (zI (bedy30)), .int (zI (tkdy30)), .int (zI (xy64))]) C (lt_K hN (rfl : Nat.blt (2) 952 = true)) hay2 hcdy30 tyX7 tyX7_ok nmX7 rfl inA_X7 8 (by decide) q_52 rfl rfl rfl rfl (Nat.le_of_ble_eq_true rfl) rfl dX7_readTable_64 (fun gy67 egy68 => ?_)
      have hgy69 := up_s egy68
      refine z_aload_n C 3 dX7_readTable_67 rfl ?_
      have hgy70 := (hfvy13 (883) (by decide)).trans hpoy5.1
      have hgy71 := (hfvy16 (883) (by decide)).trans hgy70
      have hgy72 := (hfvy26 (883) (by decide)).trans hgy71
      have hgy73 := (hfvy29 (883) (by decide)).trans hgy72
      have hgy74 := up_n egy68 hgy73 (by decide)
      refine z_get (v := .ref (ad (883 + 6))) C (lt_K hN (rfl : Nat.blt (883) 952 = true)) hay4 hgy74 rfl inA_X5 8 (by decide) q_114 rfl rfl dX7_readTable_68 ?_
      refine z_iload C 1 dX7_readTable_71 rfl ?_
      refine z_iload C 0 dX7_readTable_73 rfl ?_
      have hgy75 := (hfvy13 (883 + 6) (by omega)).trans hpoy5.2.2.2.2.2.2
      have hgy76 := (hfvy16 (883 + 6) (by omega)).trans hgy75
      have hgy77 := (hfvy26 (883 + 6) (by omega)).trans hgy76
      have hgy78 := (hfvy29 (883 + 6) (by omega)).trans hgy77
      have hgy79 := up_n egy68 hgy78 (by omega)
      refine z_iast C (lt_K hN (rfl : Nat.blt (883 + 6) 952 = true)) hay11 hgy79 ((z + vy16).toNat) (by omega) (by omega) (by decide) dX7_readTable_75 (fun gy80 egy81 => ?_)
      have hgy82 := up_s egy81
      have hgy84 := up_n egy81 hgy69 (by omega)
      have hgy85 := up_n egy68 hddy30 (by decide)
      have hgy86 := up_n egy81 hgy85 (by omega)
      have hruny83 : okRun cs ad gy80 (covy29) tp := ⟨_, _, _, _, _, _, _, by omega, by omega, hgy84, hgy86⟩
      have hgy87 := up_n egy81 hgy74 (ne_o (i := 883) (c := 0) (d := 6) rfl)
      have hgy88 := (hfvy13 (883 + 1) (by omega)).trans hpoy5.2.1
      have hgy89 := (hfvy16 (883 + 1) (by omega)).trans hgy88
      have hgy90 := (hfvy26 (883 + 1) (by omega)).trans hgy89
      have hgy91 := (hfvy29 (883 + 1) (by omega)).trans hgy90
      have hgy92 := up_n egy68 hgy91 (by omega)
      have hgy93 := up_n egy81 hgy92 (ne_o (i := 883) (c := 1) (d := 6) rfl)
      have hgy94 := (hfvy13 (883 + 2) (by omega)).trans hpoy5.2.2.1
      have hgy95 := (hfvy16 (883 + 2) (by omega)).trans hgy94
      have hgy96 := (hfvy26 (883 + 2) (by omega)).trans hgy95
      have hgy97 := (hfvy29 (883 + 2) (by omega)).trans hgy96
      have hgy98 := up_n egy68 hgy97 (by omega)
      have hgy99 := up_n egy81 hgy98 (ne_o (i := 883) (c := 2) (d := 6) rfl)
      have hgy100 := (hfvy13 (883 + 3) (by omega)).trans hpoy5.2.2.2.1
      have hgy101 := (hfvy16 (883 + 3) (by omega)).trans hgy100
      have hgy102 := (hfvy26 (883 + 3) (by omega)).trans hgy101
      have hgy103 := (hfvy29 (883 + 3) (by omega)).trans hgy102
      have hgy104 := up_n egy68 hgy103 (by omega)
      have hgy105 := up_n egy81 hgy104 (ne_o (i := 883) (c := 3) (d := 6) rfl)
      have hgy106 := (hfvy13 (883 + 4) (by omega)).trans hpoy5.2.2.2.2.1
      have hgy107 := (hfvy16 (883 + 4) (by omega)).trans hgy106
      have hgy108 := (hfvy26 (883 + 4) (by omega)).trans hgy107
      have hgy109 := (hfvy29 (883 + 4) (by omega)).trans hgy108
      have hgy110 := up_n egy68 hgy109 (by omega)
      have hgy111 := up_n egy81 hgy110 (ne_o (i := 883) (c := 4) (d := 6) rfl)
      have hgy112 := (hfvy13 (883 + 5) (by omega)).trans hpoy5.2.2.2.2.2.1
      have hgy113 := (hfvy16 (883 + 5) (by omega)).trans hgy112
      have hgy114 := (hfvy26 (883 + 5) (by omega)).trans hgy113
      have hgy115 := (hfvy29 (883 + 5) (by omega)).trans hgy114
      have hgy116 := up_n egy68 hgy115 (by omega)
      have hgy117 := up_n egy81 hgy116 (ne_o (i := 883) (c := 5) (d := 6) rfl)
      exact z_vret C hr hlk dX7_readTable_76 (by decide) (by decide) ⟨rfl, rfl, rfl, ⟨_, hruny83, by omega⟩, ⟨_, _, _, _, _, _, _, _, _, by omega, by omega, ⟨hgy87, hgy93, hgy99, hgy105, hgy111, hgy117, hgy82⟩⟩, fun j j1 j2 => by rw [egy81, va_up_ne _ _ (by omega)]; rw [egy68, va_up_ne _ _ (by omega)]; rw [hfvy29 _ (by omega)]; rw [hfvy26 _ (by omega)]; rw [hfvy16 _ (by omega)]; rw [hfvy13 _ (by omega)]⟩
  · refine z_aload_n C 1 dX7_readTable_25 rfl ?_
    refine z_iconst (z := 4) C dX7_readTable_26 rfl ?_
    refine z_aload_n C 1 dX7_readTable_27 rfl ?_
    refine z_get (v := .int (zI (tkdy17))) C (lt_K hN (rfl : Nat.blt (2) 952 = true)) hay2 hcdy17 rfl inA_X7 7 (by decide) q_51 rfl rfl dX7_readTable_28 ?_
    obtain ⟨xy118, exy119, hxy120⟩ := zI_of (zI (tkdy17))
    rw [exy119]
    have hruny121 : okRun cs ad gvy16 (covy16) tp := ⟨_, _, _, _, _, _, _, by omega, by omega, hcdy17, hddy17⟩
    refine z_cV (As := [.int (zI (4)), .int (zI (xy118))]) (rest := []) (ci := 9) C (c_X7_fail l D A cs tt N ad _ (by omega) _ tp hruny121 (4) (by omega) (xy118) (by omega)) (lt_K hN (rfl : Nat.blt (2) 952 = true)) hay2 hcdy17 rfl rfl mv_yX7_fail q_809 hd_yX7_fail (by decide) (Nat.le_of_ble_eq_true rfl) (by decide) dX7_readTable_31 rfl (kV0 fun gvy122 hvy122 => ?_)
    obtain ⟨⟨covy122, hkvy122, hnvy122⟩, hfvy122⟩ := hvy122
    obtain ⟨pldy123, endy123, tydy123, a9dy123, bedy123, tkdy123, tddy123, hAdy123, hTdy123, hcdy123, hddy123⟩ := id hkvy122
    refine z_aload_n C 1 dX7_readTable_34 rfl ?_
    refine z_iload_n C 4 dX7_readTable_35 rfl ?_
    refine z_iload C 5 dX7_readTable_36 rfl ?_
    have hruny124 : okRun cs ad gvy122 (covy122) tp := ⟨_, _, _, _, _, _, _, by omega, by omega, hcdy123, hddy123⟩
    refine z_cV (As := [.int (zI (z1)), .int (zI (z2))]) (rest := []) (ci := 9) C (c_X7_number l D A cs tt N ad _ (by omega) _ tp hruny124 (z1) (by omega) (z2) (by omega)) (lt_K hN (rfl : Nat.blt (2) 952 = true)) hay2 hcdy123 rfl rfl mv_yX7_number q_817 hd_yX7_number (by decide) (Nat.le_of_ble_eq_true rfl) (by decide) dX7_readTable_38 rfl (kI0 fun vy125 gvy125 hvy125 => ?_)
    obtain ⟨hrvy125, ⟨covy125, hkvy125, hnvy125⟩, hfvy125⟩ := hvy125
    obtain ⟨pldy126, endy126, tydy126, a9dy126, bedy126, tkdy126, tddy126, hAdy126, hTdy126, hcdy126, hddy126⟩ := id hkvy125
    refine z_istore (lv' := [(6, .int (zI (vy125))), (5, .int (zI (z + vy16))), (0, .ref (ad 2)), (1, .ref (ad 883)), (2, .int (zI (z))), (3, .int (zI (z1))), (4, .int (zI (z2)))]) C dX7_readTable_41 (by decide) rfl ?_
    refine z_aload_n C 2 dX7_readTable_43 rfl ?_
    have hruny127 : okRun cs ad gvy125 (covy125) tp := ⟨_, _, _, _, _, _, _, by omega, by omega, hcdy126, hddy126⟩
    refine z_cV (As := []) (rest := []) (ci := 9) C (c_X7_close l D A cs tt N ad _ (by omega) _ tp hruny127 ) (lt_K hN (rfl : Nat.blt (2) 952 = true)) hay2 hcdy126 rfl rfl mv_yX7_close q_821 hd_yX7_close (by decide) (Nat.le_of_ble_eq_true rfl) (by decide) dX7_readTable_44 rfl (kV0 fun gvy128 hvy128 => ?_)
    obtain ⟨⟨covy128, hkvy128, hnvy128⟩, hfvy128⟩ := hvy128
    obtain ⟨pldy129, endy129, tydy129, a9dy129, bedy129, tkdy129, tddy129, hAdy129, hTdy129, hcdy129, hddy129⟩ := id hkvy128
    refine z_aload_n C 2 dX7_readTable_47 rfl ?_
    refine z_get (v := .int (zI (covy128))) C (lt_K hN (rfl : Nat.blt (2) 952 = true)) hay2 hcdy129 rfl inA_X7 1 (by decide) q_45 rfl rfl dX7_readTable_48 ?_
    refine z_if_ne (tgt := 76) C dX7_readTable_51 (by decide) (by omega) (fun hby130 => ?_) (fun hby130 => ?_)
    · have hruny131 : okRun cs ad gvy128 (covy128) tp := ⟨_, _, _, _, _, _, _, by omega, by omega, hcdy129, hddy129⟩
      have hgy132 := (hfvy13 (883) (by decide)).trans hpoy5.1
      have hgy133 := (hfvy16 (883) (by decide)).trans hgy132
      have hgy134 := (hfvy122 (883) (by decide)).trans hgy133
      have hgy135 := (hfvy125 (883) (by decide)).trans hgy134
      have hgy136 := (hfvy128 (883) (by decide)).trans hgy135
      have hgy137 := (hfvy13 (883 + 1) (by omega)).trans hpoy5.2.1
      have hgy138 := (hfvy16 (883 + 1) (by omega)).trans hgy137
      have hgy139 := (hfvy122 (883 + 1) (by omega)).trans hgy138
      have hgy140 := (hfvy125 (883 + 1) (by omega)).trans hgy139
      have hgy141 := (hfvy128 (883 + 1) (by omega)).trans hgy140
      have hgy142 := (hfvy13 (883 + 2) (by omega)).trans hpoy5.2.2.1
      have hgy143 := (hfvy16 (883 + 2) (by omega)).trans hgy142
      have hgy144 := (hfvy122 (883 + 2) (by omega)).trans hgy143
      have hgy145 := (hfvy125 (883 + 2) (by omega)).trans hgy144
      have hgy146 := (hfvy128 (883 + 2) (by omega)).trans hgy145
      have hgy147 := (hfvy13 (883 + 3) (by omega)).trans hpoy5.2.2.2.1
      have hgy148 := (hfvy16 (883 + 3) (by omega)).trans hgy147
      have hgy149 := (hfvy122 (883 + 3) (by omega)).trans hgy148
      have hgy150 := (hfvy125 (883 + 3) (by omega)).trans hgy149
      have hgy151 := (hfvy128 (883 + 3) (by omega)).trans hgy150
      have hgy152 := (hfvy13 (883 + 4) (by omega)).trans hpoy5.2.2.2.2.1
      have hgy153 := (hfvy16 (883 + 4) (by omega)).trans hgy152
      have hgy154 := (hfvy122 (883 + 4) (by omega)).trans hgy153
      have hgy155 := (hfvy125 (883 + 4) (by omega)).trans hgy154
      have hgy156 := (hfvy128 (883 + 4) (by omega)).trans hgy155
      have hgy157 := (hfvy13 (883 + 5) (by omega)).trans hpoy5.2.2.2.2.2.1
      have hgy158 := (hfvy16 (883 + 5) (by omega)).trans hgy157
      have hgy159 := (hfvy122 (883 + 5) (by omega)).trans hgy158
      have hgy160 := (hfvy125 (883 + 5) (by omega)).trans hgy159
      have hgy161 := (hfvy128 (883 + 5) (by omega)).trans hgy160
      have hgy162 := (hfvy13 (883 + 6) (by omega)).trans hpoy5.2.2.2.2.2.2
      have hgy163 := (hfvy16 (883 + 6) (by omega)).trans hgy162
      have hgy164 := (hfvy122 (883 + 6) (by omega)).trans hgy163
      have hgy165 := (hfvy125 (883 + 6) (by omega)).trans hgy164
      have hgy166 := (hfvy128 (883 + 6) (by omega)).trans hgy165
      exact z_vret C hr hlk dX7_readTable_76 (by decide) (by decide) ⟨rfl, rfl, rfl, ⟨_, hruny131, by omega⟩, ⟨_, _, _, _, _, _, _, _, _, by omega, by omega, ⟨hgy136, hgy141, hgy146, hgy151, hgy156, hgy161, hgy166⟩⟩, fun j j1 j2 => by rw [hfvy128 _ (by omega)]; rw [hfvy125 _ (by omega)]; rw [hfvy122 _ (by omega)]; rw [hfvy16 _ (by omega)]; rw [hfvy13 _ (by omega)]⟩
    · refine z_aload_n C 2 dX7_readTable_54 rfl ?_
      refine z_dup C dX7_readTable_55 rfl ?_
      refine z_get (v := .int (zI (tddy129))) C (lt_K hN (rfl : Nat.blt (2) 952 = true)) hay2 hcdy129 rfl inA_X7 8 (by decide) q_52 rfl rfl dX7_readTable_56 ?_
      refine z_iconst (z := 1) C dX7_readTable_59 rfl ?_
      refine z_iload C 1 dX7_readTable_60 rfl ?_
      obtain ⟨xy167, exy168, hxy169⟩ := zI_of (zI (1) <<< (zI (z + vy16) &&& 31))
      refine z_ishl (z := xy167) C dX7_readTable_62 exy168 ?_
      obtain ⟨xy170, exy171, hxy172⟩ := zI_of (zI (tddy129) ||| zI (xy167))
      refine z_ior (z := xy170) C dX7_readTable_63 exy171 ?_
      refine z_put (fs' := [.int (zI (pldy129)), .int (zI (covy128)), .ref (ad 1), .int (zI (endy129)), .int (zI (tydy129)), .int (zI (a9dy129)), .int (zI (bedy129)), .int (zI (tkdy129)), .int (zI (xy170))]) C (lt_K hN (rfl : Nat.blt (2) 952 = true)) hay2 hcdy129 tyX7 tyX7_ok nmX7 rfl inA_X7 8 (by decide) q_52 rfl rfl rfl rfl (Nat.le_of_ble_eq_true rfl) rfl dX7_readTable_64 (fun gy173 egy174 => ?_)
      have hgy175 := up_s egy174
      refine z_aload_n C 3 dX7_readTable_67 rfl ?_
      have hgy176 := (hfvy13 (883) (by decide)).trans hpoy5.1
      have hgy177 := (hfvy16 (883) (by decide)).trans hgy176
      have hgy178 := (hfvy122 (883) (by decide)).trans hgy177
      have hgy179 := (hfvy125 (883) (by decide)).trans hgy178
      have hgy180 := (hfvy128 (883) (by decide)).trans hgy179
      have hgy181 := up_n egy174 hgy180 (by decide)
      refine z_get (v := .ref (ad (883 + 6))) C (lt_K hN (rfl : Nat.blt (883) 952 = true)) hay4 hgy181 rfl inA_X5 8 (by decide) q_114 rfl rfl dX7_readTable_68 ?_
      refine z_iload C 1 dX7_readTable_71 rfl ?_
      refine z_iload C 0 dX7_readTable_73 rfl ?_
      have hgy182 := (hfvy13 (883 + 6) (by omega)).trans hpoy5.2.2.2.2.2.2
      have hgy183 := (hfvy16 (883 + 6) (by omega)).trans hgy182
      have hgy184 := (hfvy122 (883 + 6) (by omega)).trans hgy183
      have hgy185 := (hfvy125 (883 + 6) (by omega)).trans hgy184
      have hgy186 := (hfvy128 (883 + 6) (by omega)).trans hgy185
      have hgy187 := up_n egy174 hgy186 (by omega)
      refine z_iast C (lt_K hN (rfl : Nat.blt (883 + 6) 952 = true)) hay11 hgy187 ((z + vy16).toNat) (by omega) (by omega) (by decide) dX7_readTable_75 (fun gy188 egy189 => ?_)
      have hgy190 := up_s egy189
      have hgy192 := up_n egy189 hgy175 (by omega)
      have hgy193 := up_n egy174 hddy129 (by decide)
      have hgy194 := up_n egy189 hgy193 (by omega)
      have hruny191 : okRun cs ad gy188 (covy128) tp := ⟨_, _, _, _, _, _, _, by omega, by omega, hgy192, hgy194⟩
      have hgy195 := up_n egy189 hgy181 (ne_o (i := 883) (c := 0) (d := 6) rfl)
      have hgy196 := (hfvy13 (883 + 1) (by omega)).trans hpoy5.2.1
      have hgy197 := (hfvy16 (883 + 1) (by omega)).trans hgy196
      have hgy198 := (hfvy122 (883 + 1) (by omega)).trans hgy197
      have hgy199 := (hfvy125 (883 + 1) (by omega)).trans hgy198
      have hgy200 := (hfvy128 (883 + 1) (by omega)).trans hgy199
      have hgy201 := up_n egy174 hgy200 (by omega)
      have hgy202 := up_n egy189 hgy201 (ne_o (i := 883) (c := 1) (d := 6) rfl)
      have hgy203 := (hfvy13 (883 + 2) (by omega)).trans hpoy5.2.2.1
      have hgy204 := (hfvy16 (883 + 2) (by omega)).trans hgy203
      have hgy205 := (hfvy122 (883 + 2) (by omega)).trans hgy204
      have hgy206 := (hfvy125 (883 + 2) (by omega)).trans hgy205
      have hgy207 := (hfvy128 (883 + 2) (by omega)).trans hgy206
      have hgy208 := up_n egy174 hgy207 (by omega)
      have hgy209 := up_n egy189 hgy208 (ne_o (i := 883) (c := 2) (d := 6) rfl)
      have hgy210 := (hfvy13 (883 + 3) (by omega)).trans hpoy5.2.2.2.1
      have hgy211 := (hfvy16 (883 + 3) (by omega)).trans hgy210
      have hgy212 := (hfvy122 (883 + 3) (by omega)).trans hgy211
      have hgy213 := (hfvy125 (883 + 3) (by omega)).trans hgy212
      have hgy214 := (hfvy128 (883 + 3) (by omega)).trans hgy213
      have hgy215 := up_n egy174 hgy214 (by omega)
      have hgy216 := up_n egy189 hgy215 (ne_o (i := 883) (c := 3) (d := 6) rfl)
      have hgy217 := (hfvy13 (883 + 4) (by omega)).trans hpoy5.2.2.2.2.1
      have hgy218 := (hfvy16 (883 + 4) (by omega)).trans hgy217
      have hgy219 := (hfvy122 (883 + 4) (by omega)).trans hgy218
      have hgy220 := (hfvy125 (883 + 4) (by omega)).trans hgy219
      have hgy221 := (hfvy128 (883 + 4) (by omega)).trans hgy220
      have hgy222 := up_n egy174 hgy221 (by omega)
      have hgy223 := up_n egy189 hgy222 (ne_o (i := 883) (c := 4) (d := 6) rfl)
      have hgy224 := (hfvy13 (883 + 5) (by omega)).trans hpoy5.2.2.2.2.2.1
      have hgy225 := (hfvy16 (883 + 5) (by omega)).trans hgy224
      have hgy226 := (hfvy122 (883 + 5) (by omega)).trans hgy225
      have hgy227 := (hfvy125 (883 + 5) (by omega)).trans hgy226
      have hgy228 := (hfvy128 (883 + 5) (by omega)).trans hgy227
      have hgy229 := up_n egy174 hgy228 (by omega)
      have hgy230 := up_n egy189 hgy229 (ne_o (i := 883) (c := 5) (d := 6) rfl)
      exact z_vret C hr hlk dX7_readTable_76 (by decide) (by decide) ⟨rfl, rfl, rfl, ⟨_, hruny191, by omega⟩, ⟨_, _, _, _, _, _, _, _, _, by omega, by omega, ⟨hgy195, hgy202, hgy209, hgy216, hgy223, hgy230, hgy190⟩⟩, fun j j1 j2 => by rw [egy189, va_up_ne _ _ (by omega)]; rw [egy174, va_up_ne _ _ (by omega)]; rw [hfvy128 _ (by omega)]; rw [hfvy125 _ (by omega)]; rw [hfvy122 _ (by omega)]; rw [hfvy16 _ (by omega)]; rw [hfvy13 _ (by omega)]⟩

set_option maxRecDepth 100000 in
set_option maxHeartbeats 4000000 in
theorem c_X7_readLayer (l : Launch) (D : va_G) (A : Nat → Prop) (cs : Nat → ClassId) (tt : Nat) (N : Nat) (ad : Nat → Nat) (g : Nat → va_E) (hN : 952 ≤ N) (co : Int) (tp : Nat → Int) (hR : okRun cs ad g co tp) (hP9 : okPlan cs ad g 883) (hW9 : okWorld cs ad g 890) : zM l yX7_readLayer cX7_readLayer 9 none ({ frames := 7, cells := 0, slots := 0, locals := 420 } : Room) D A cs tt N ad g [.ref (ad 2), .ref (ad 883), .ref (ad 890)] (rV0 N ad fun g' => (∃ co' : Int, okRun cs ad g' co' tp ∧ co ≤ co') ∧ okPlan cs ad g' 883 ∧ okWorld cs ad g' 890 ∧ ∀ j, j ≠ 2 → (j < 883 ∨ 900 ≤ j) → g' j = g j) := by
  obtain ⟨pldy1, endy1, tydy1, a9dy1, bedy1, tkdy1, tddy1, hAdy1, hTdy1, hcdy1, hddy1⟩ := id hR
  have hay2 : zAt ad (2) (ad 2) := rfl
  have hay3 : zAt ad (1) (ad 1) := rfl
  have hay4 : zAt ad (883) (ad 883) := rfl
  obtain ⟨sloy5, hooy5, uaoy5, stoy5, opoy5, aioy5, faoy5, muoy5, tboy5, hsloy5, hhooy5, hpoy5⟩ := id hP9
  have hay6 : zAt ad (883 + 1) (ad (883 + 1)) := rfl
  have hay7 : zAt ad (883 + 2) (ad (883 + 2)) := rfl
  have hay8 : zAt ad (883 + 3) (ad (883 + 3)) := rfl
  have hay9 : zAt ad (883 + 4) (ad (883 + 4)) := rfl
  have hay10 : zAt ad (883 + 5) (ad (883 + 5)) := rfl
  have hay11 : zAt ad (883 + 6) (ad (883 + 6)) := rfl
  have hay12 : zAt ad (890) (ad 890) := rfl
  obtain ⟨thcy13, zhcy13, ohcy13, rhcy13, hzhcy13, hthcy13, hwhcy13⟩ := id hW9
  obtain ⟨uy14t, uy14z, uy14o, uy14r, uy14z4, uy14t5, uy141, ⟨uy14u, uy142, uy143⟩, uy144⟩ := id hW9
  have hay15 : zAt ad (890) (ad 890) := rfl
  have hay16 : zAt ad (890 + 1) (ad (890 + 1)) := rfl
  refine z_of (by decide) (Nat.le_of_ble_eq_true rfl) ?_
  intro p e s m below meth c C hr hlk hnm
  refine z_lv (lv' := [(0, .ref (ad 2)), (1, .ref (ad 883)), (2, .ref (ad 890))]) [0, 1, 2] rfl ?_
  have s107 : ∀ (v3 : Int) (v4 : Int) (v5 : Int) (v6 : Int) (v7 : Int) (c1 : Int) (g1 : Nat → va_E), okRun cs ad g1 c1 tp → co ≤ c1 → (∀ j, j ≠ 2 → g1 j = g j) → (co ≤ c1) → (0 ≤ v3 ∧ v3 ≤ 3) → (0 ≤ v4 ∧ v4 ≤ 4) → (0 ≤ v5 ∧ v5 ≤ 99) → (0 ≤ v6 ∧ v6 ≤ 99) → (0 ≤ v7 ∧ v7 ≤ 999) → zV p l e ({ frames := 7, cells := 0, slots := 0, locals := 420 } : Room) s m ([.ref (ad 2), .ref (ad 883), .ref (ad 890)] : List Value).toArray below meth c (MQ below (zPost D A (rV0 N ad fun g' => (∃ co' : Int, okRun cs ad g' co' tp ∧ co ≤ co') ∧ okPlan cs ad g' 883 ∧ okWorld cs ad g' 890 ∧ ∀ j, j ≠ 2 → (j < 883 ∨ 900 ≤ j) → g' j = g j)) ([.ref (ad 2), .ref (ad 883), .ref (ad 890)] : List Value).toArray s ({ frames := 7, cells := 0, slots := 0, locals := 420 } : Room).cells ({ frames := 7, cells := 0, slots := 0, locals := 420 } : Room).slots A) D A 9 (N) ad g1 (0) (0) 107 [(0, .ref (ad 2)), (1, .ref (ad 883)), (2, .ref (ad 890)), (3, .int (zI (v3))), (4, .int (zI (v4))), (5, .int (zI (v5))), (6, .int (zI (v6))), (7, .int (zI (v7)))] [] := by
    intro v3 v4 v5 v6 v7 c1 g1 f1 f2 f3 f4 hv3 hv4 hv5 hv6 hv7
    have hW1 : okWorld cs ad g1 890 := okWorld.mv (fun j j1 j2 => f3 j (by omega)) hW9
    obtain ⟨thcy17, zhcy17, ohcy17, rhcy17, hzhcy17, hthcy17, hwhcy17⟩ := id hW1
    obtain ⟨uy18t, uy18z, uy18o, uy18r, uy18z4, uy18t5, uy181, ⟨uy18u, uy182, uy183⟩, uy184⟩ := id hW1
    have hay19 : zAt ad (890) (ad 890) := rfl
    have hay20 : zAt ad (890 + 1) (ad (890 + 1)) := rfl
    obtain ⟨pldy21, endy21, tydy21, a9dy21, bedy21, tkdy21, tddy21, hAdy21, hTdy21, hcdy21, hddy21⟩ := id f1
    refine z_aload_n C 0 dX7_readLayer_107 rfl ?_
    refine z_iconst (z := 0) C dX7_readLayer_108 rfl ?_
    refine z_sipush (z := 300) C dX7_readLayer_109 (by decide) ?_
    have hruny22 : okRun cs ad g1 (c1) tp := ⟨_, _, _, _, _, _, _, by omega, by omega, hcdy21, hddy21⟩
    refine z_cV (As := [.int (zI (0)), .int (zI (300))]) (rest := []) (ci := 9) C (c_X7_number l D A cs tt N ad _ (by omega) _ tp hruny22 (0) (by omega) (300) (by omega)) (by omega) hay2 hcdy21 rfl rfl mv_yX7_number q_817 hd_yX7_number (by decide) (Nat.le_of_ble_eq_true rfl) (by decide) dX7_readLayer_112 rfl (kI0 fun vy23 gvy23 hvy23 => ?_)
    obtain ⟨hrvy23, ⟨covy23, hkvy23, hnvy23⟩, hfvy23⟩ := hvy23
    obtain ⟨pldy24, endy24, tydy24, a9dy24, bedy24, tkdy24, tddy24, hAdy24, hTdy24, hcdy24, hddy24⟩ := id hkvy23
    refine z_istore (lv' := [(8, .int (zI (vy23))), (0, .ref (ad 2)), (1, .ref (ad 883)), (2, .ref (ad 890)), (3, .int (zI (v3))), (4, .int (zI (v4))), (5, .int (zI (v5))), (6, .int (zI (v6))), (7, .int (zI (v7)))]) C dX7_readLayer_115 (by decide) rfl ?_
    refine z_aload_n C 1 dX7_readLayer_117 rfl ?_
    have hruny25 : okRun cs ad gvy23 (covy23) tp := ⟨_, _, _, _, _, _, _, by omega, by omega, hcdy24, hddy24⟩
    refine z_cV (As := []) (rest := []) (ci := 9) C (c_X7_close l D A cs tt N ad _ (by omega) _ tp hruny25 ) (by omega) hay2 hcdy24 rfl rfl mv_yX7_close q_821 hd_yX7_close (by decide) (Nat.le_of_ble_eq_true rfl) (by decide) dX7_readLayer_118 rfl (kV0 fun gvy26 hvy26 => ?_)
    obtain ⟨⟨covy26, hkvy26, hnvy26⟩, hfvy26⟩ := hvy26
    obtain ⟨pldy27, endy27, tydy27, a9dy27, bedy27, tkdy27, tddy27, hAdy27, hTdy27, hcdy27, hddy27⟩ := id hkvy26
    refine z_aload_n C 1 dX7_readLayer_121 rfl ?_
    refine z_get (v := .int (zI (covy26))) C (by omega) hay2 hcdy27 rfl inA_X7 1 (by decide) q_45 rfl rfl dX7_readLayer_122 ?_
    refine z_if_ne (tgt := 162) C dX7_readLayer_125 (by decide) (by omega) (fun hby28 => ?_) (fun hby28 => ?_)
    · have hruny29 : okRun cs ad gvy26 (covy26) tp := ⟨_, _, _, _, _, _, _, by omega, by omega, hcdy27, hddy27⟩
      have hgy30 := (hfvy23 (883) (by decide)).trans ((f3 _ (by omega)).trans hpoy5.1)
      have hgy31 := (hfvy26 (883) (by decide)).trans hgy30
      have hgy32 := (hfvy23 (883 + 1) (by omega)).trans ((f3 _ (by omega)).trans hpoy5.2.1)
      have hgy33 := (hfvy26 (883 + 1) (by omega)).trans hgy32
      have hgy34 := (hfvy23 (883 + 2) (by omega)).trans ((f3 _ (by omega)).trans hpoy5.2.2.1)
      have hgy35 := (hfvy26 (883 + 2) (by omega)).trans hgy34
      have hgy36 := (hfvy23 (883 + 3) (by omega)).trans ((f3 _ (by omega)).trans hpoy5.2.2.2.1)
      have hgy37 := (hfvy26 (883 + 3) (by omega)).trans hgy36
      have hgy38 := (hfvy23 (883 + 4) (by omega)).trans ((f3 _ (by omega)).trans hpoy5.2.2.2.2.1)
      have hgy39 := (hfvy26 (883 + 4) (by omega)).trans hgy38
      have hgy40 := (hfvy23 (883 + 5) (by omega)).trans ((f3 _ (by omega)).trans hpoy5.2.2.2.2.2.1)
      have hgy41 := (hfvy26 (883 + 5) (by omega)).trans hgy40
      have hgy42 := (hfvy23 (883 + 6) (by omega)).trans ((f3 _ (by omega)).trans hpoy5.2.2.2.2.2.2)
      have hgy43 := (hfvy26 (883 + 6) (by omega)).trans hgy42
      have hoky44 : okWorld cs ad gvy26 (890) := okWorld.mv (fun j j1 j2 => by rw [hfvy26 _ (by omega)]; rw [hfvy23 _ (by omega)]) hW1
      exact z_vret C hr hlk dX7_readLayer_162 (by decide) (by decide) ⟨rfl, rfl, rfl, ⟨_, hruny29, by omega⟩, ⟨_, _, _, _, _, _, _, _, _, by omega, by omega, ⟨hgy31, hgy33, hgy35, hgy37, hgy39, hgy41, hgy43⟩⟩, hoky44, fun j j1 j2 => by rw [hfvy26 _ (by omega)]; rw [hfvy23 _ (by omega)]; exact f3 j j1⟩
    · refine z_aload_n C 3 dX7_readLayer_128 rfl ?_
      have hgy45 := (hfvy23 (890) (by decide)).trans uy181
      have hgy46 := (hfvy26 (890) (by decide)).trans hgy45
      refine z_get (v := .ref (ad (890 + 1))) C (by omega) hay19 hgy46 rfl inA_X8 6 (by decide) q_189 rfl rfl dX7_readLayer_129 ?_
      refine z_iload_n C 4 dX7_readLayer_132 rfl ?_
      have hgy47 := (hfvy23 (890 + 1) (by omega)).trans uy182
      have hgy48 := (hfvy26 (890 + 1) (by omega)).trans hgy47
      refine z_aald C (by omega) hay20 hgy48 3 rfl ((v3).toNat) (by omega) (by omega) (by decide) (uy183 (v3).toNat (by omega)) dX7_readLayer_133 ?_
      have hay49 : zAt ad (890 + 2 + 2 * (v3).toNat) (ad (890 + 2 + 2 * (v3).toNat)) := rfl
      have hay50 : zAt ad (890 + 2 + 2 * (v3).toNat + 1) (ad (890 + 2 + 2 * (v3).toNat + 1)) := rfl
      have hpy51 := uy184 (v3).toNat (by omega)
      have hqy52 := uy18z4 (v3).toNat (by omega)
      refine z_iload C 5 dX7_readLayer_134 rfl ?_
      refine z_iload C 6 dX7_readLayer_136 rfl ?_
      refine z_iload C 7 dX7_readLayer_138 rfl ?_
      refine z_iload C 8 dX7_readLayer_140 rfl ?_
      refine z_iload C 0 dX7_readLayer_142 rfl ?_
      refine z_ineg C dX7_readLayer_144 ?_
      refine z_aload_n C 3 dX7_readLayer_145 rfl ?_
      refine z_get (v := .int (zI (uy18t 1))) C (by omega) hay19 hgy46 rfl inA_X8 1 (by decide) q_178 rfl rfl dX7_readLayer_146 ?_
      have hoky53 : okWorld cs ad gvy26 (890) := okWorld.mv (fun j j1 j2 => by rw [hfvy26 _ (by omega)]; rw [hfvy23 _ (by omega)]) hW1
      obtain ⟨xy54, exy55, hxy56⟩ := zI_of (zI (uy18t 1))
      rw [exy55]
      have hgy58 := (hfvy23 (890 + 2 + 2 * (v3).toNat) (by omega)).trans hpy51.1
      have hgy59 := (hfvy26 (890 + 2 + 2 * (v3).toNat) (by omega)).trans hgy58
      have hgy60 := (hfvy23 (890 + 2 + 2 * (v3).toNat + 1) (by omega)).trans hpy51.2
      have hgy61 := (hfvy26 (890 + 2 + 2 * (v3).toNat + 1) (by omega)).trans hgy60
      refine z_cV (As := [.int (zI (v4)), .int (zI (v5)), .int (zI (v6)), .int (zI (v7)), .int (zI (-(vy23))), .int (zI (xy54))]) (rest := []) (ci := 5) C (c_X3_add l D A cs tt N ad _ (890 + 2 + 2 * (v3).toNat) (by omega) _ _ _ (by omega) ⟨hgy59, hgy61⟩  (v4) (by omega) (v5) (by omega) (v6) (by omega) (v7) (by omega) (-(vy23)) (by omega) (xy54) (by omega)) (by omega) hay49 hgy59 rfl rfl mv_yX3_add q_842 hd_yX3_add (by decide) (Nat.le_of_ble_eq_true rfl) (by decide) dX7_readLayer_149 rfl (kV0 fun gvy57 hvy57 => ?_)
      obtain ⟨⟨svy57, ovy57, rvy57, hsvy57, hpvy57⟩, hfvy57⟩ := hvy57
      refine z_aload_n C 3 dX7_readLayer_152 rfl ?_
      refine z_dup C dX7_readLayer_153 rfl ?_
      have hgy62 := (hfvy57 (890) (by omega) (by omega)).trans hgy46
      refine z_get (v := .int (zI (uy18t 1))) C (by omega) hay19 hgy62 rfl inA_X8 1 (by decide) q_178 rfl rfl dX7_readLayer_154 ?_
      refine z_iconst (z := 1) C dX7_readLayer_157 rfl ?_
      refine z_iadd C dX7_readLayer_158 ?_
      refine z_put (fs' := [.int (zI (uy18t 0)), .int (zI ((uy18t 1) + 1)), .int (zI (uy18t 2)), .int (zI (uy18t 3)), .int (zI (uy18t 4)), .int (zI (uy18t 5)), .ref (ad (890 + 1))]) C (by omega) hay19 hgy62 tyX8 tyX8_ok nmX8 rfl inA_X8 1 (by decide) q_178 rfl rfl rfl rfl (Nat.le_of_ble_eq_true rfl) rfl dX7_readLayer_159 (fun gy63 egy64 => ?_)
      have hgy65 := up_s egy64
      have hgy67 := (hfvy57 (2) (by omega) (by omega)).trans hcdy27
      have hgy68 := up_n egy64 hgy67 (by decide)
      have hgy69 := (hfvy57 (1) (by omega) (by omega)).trans hddy27
      have hgy70 := up_n egy64 hgy69 (by decide)
      have hruny66 : okRun cs ad gy63 (covy26) tp := ⟨_, _, _, _, _, _, _, by omega, by omega, hgy68, hgy70⟩
      have hgy71 := (hfvy23 (883) (by decide)).trans ((f3 _ (by omega)).trans hpoy5.1)
      have hgy72 := (hfvy26 (883) (by decide)).trans hgy71
      have hgy73 := (hfvy57 (883) (by omega) (by omega)).trans hgy72
      have hgy74 := up_n egy64 hgy73 (by decide)
      have hgy75 := (hfvy23 (883 + 1) (by omega)).trans ((f3 _ (by omega)).trans hpoy5.2.1)
      have hgy76 := (hfvy26 (883 + 1) (by omega)).trans hgy75
      have hgy77 := (hfvy57 (883 + 1) (by omega) (by omega)).trans hgy76
      have hgy78 := up_n egy64 hgy77 (by omega)
      have hgy79 := (hfvy23 (883 + 2) (by omega)).trans ((f3 _ (by omega)).trans hpoy5.2.2.1)
      have hgy80 := (hfvy26 (883 + 2) (by omega)).trans hgy79
      have hgy81 := (hfvy57 (883 + 2) (by omega) (by omega)).trans hgy80
      have hgy82 := up_n egy64 hgy81 (by omega)
      have hgy83 := (hfvy23 (883 + 3) (by omega)).trans ((f3 _ (by omega)).trans hpoy5.2.2.2.1)
      have hgy84 := (hfvy26 (883 + 3) (by omega)).trans hgy83
      have hgy85 := (hfvy57 (883 + 3) (by omega) (by omega)).trans hgy84
      have hgy86 := up_n egy64 hgy85 (by omega)
      have hgy87 := (hfvy23 (883 + 4) (by omega)).trans ((f3 _ (by omega)).trans hpoy5.2.2.2.2.1)
      have hgy88 := (hfvy26 (883 + 4) (by omega)).trans hgy87
      have hgy89 := (hfvy57 (883 + 4) (by omega) (by omega)).trans hgy88
      have hgy90 := up_n egy64 hgy89 (by omega)
      have hgy91 := (hfvy23 (883 + 5) (by omega)).trans ((f3 _ (by omega)).trans hpoy5.2.2.2.2.2.1)
      have hgy92 := (hfvy26 (883 + 5) (by omega)).trans hgy91
      have hgy93 := (hfvy57 (883 + 5) (by omega) (by omega)).trans hgy92
      have hgy94 := up_n egy64 hgy93 (by omega)
      have hgy95 := (hfvy23 (883 + 6) (by omega)).trans ((f3 _ (by omega)).trans hpoy5.2.2.2.2.2.2)
      have hgy96 := (hfvy26 (883 + 6) (by omega)).trans hgy95
      have hgy97 := (hfvy57 (883 + 6) (by omega) (by omega)).trans hgy96
      have hgy98 := up_n egy64 hgy97 (by omega)
      have hgy99 := up_n egy64 hpvy57.1 (by omega)
      have hgy100 := up_n egy64 hpvy57.2 (by omega)
      have hGp : okPack cs ad gy63 (890 + 2 + 2 * (v3).toNat) := ⟨_, _, _, by omega, hgy99, hgy100⟩
      have hGq : okWorld cs ad gy63 890 := okWorld.two (by omega) hoky53 (fun j j1 j2 j3 => by rw [egy64, va_up_ne _ _ (by omega)]; rw [hfvy57 _ (by omega) (by omega)]) hGp (by omega) hgy65
      exact z_vret C hr hlk dX7_readLayer_162 (by decide) (by decide) ⟨rfl, rfl, rfl, ⟨_, hruny66, by omega⟩, ⟨_, _, _, _, _, _, _, _, _, by omega, by omega, ⟨hgy74, hgy78, hgy82, hgy86, hgy90, hgy94, hgy98⟩⟩, hGq, fun j j1 j2 => by rw [egy64, va_up_ne _ _ (by omega)]; rw [hfvy57 _ (by omega) (by omega)]; rw [hfvy26 _ (by omega)]; rw [hfvy23 _ (by omega)]; exact f3 j j1⟩
  have s54 : ∀ (v3 : Int) (c1 : Int) (g1 : Nat → va_E), okRun cs ad g1 c1 tp → co ≤ c1 → (∀ j, j ≠ 2 → g1 j = g j) → (co ≤ c1) → (0 ≤ v3 ∧ v3 ≤ 3) → zV p l e ({ frames := 7, cells := 0, slots := 0, locals := 420 } : Room) s m ([.ref (ad 2), .ref (ad 883), .ref (ad 890)] : List Value).toArray below meth c (MQ below (zPost D A (rV0 N ad fun g' => (∃ co' : Int, okRun cs ad g' co' tp ∧ co ≤ co') ∧ okPlan cs ad g' 883 ∧ okWorld cs ad g' 890 ∧ ∀ j, j ≠ 2 → (j < 883 ∨ 900 ≤ j) → g' j = g j)) ([.ref (ad 2), .ref (ad 883), .ref (ad 890)] : List Value).toArray s ({ frames := 7, cells := 0, slots := 0, locals := 420 } : Room).cells ({ frames := 7, cells := 0, slots := 0, locals := 420 } : Room).slots A) D A 9 (N) ad g1 (0) (0) 54 [(0, .ref (ad 2)), (1, .ref (ad 883)), (2, .ref (ad 890)), (3, .int (zI (v3)))] [] := by
    intro v3 c1 g1 f1 f2 f3 f4 hv3
    have hW1 : okWorld cs ad g1 890 := okWorld.mv (fun j j1 j2 => f3 j (by omega)) hW9
    obtain ⟨thcy101, zhcy101, ohcy101, rhcy101, hzhcy101, hthcy101, hwhcy101⟩ := id hW1
    obtain ⟨uy102t, uy102z, uy102o, uy102r, uy102z4, uy102t5, uy1021, ⟨uy102u, uy1022, uy1023⟩, uy1024⟩ := id hW1
    have hay103 : zAt ad (890) (ad 890) := rfl
    have hay104 : zAt ad (890 + 1) (ad (890 + 1)) := rfl
    obtain ⟨pldy105, endy105, tydy105, a9dy105, bedy105, tkdy105, tddy105, hAdy105, hTdy105, hcdy105, hddy105⟩ := id f1
    refine z_aload_n C 0 dX7_readLayer_54 rfl ?_
    have hruny106 : okRun cs ad g1 (c1) tp := ⟨_, _, _, _, _, _, _, by omega, by omega, hcdy105, hddy105⟩
    refine z_cV (As := []) (rest := []) (ci := 9) C (c_X7_kind l D A cs tt N ad _ (by omega) _ tp hruny106 ) (by omega) hay2 hcdy105 rfl rfl mv_yX7_kind q_830 hd_yX7_kind (by decide) (Nat.le_of_ble_eq_true rfl) (by decide) dX7_readLayer_55 rfl (kI0 fun vy107 gvy107 hvy107 => ?_)
    obtain ⟨hrvy107, ⟨covy107, hkvy107, hnvy107⟩, hfvy107⟩ := hvy107
    obtain ⟨pldy108, endy108, tydy108, a9dy108, bedy108, tkdy108, tddy108, hAdy108, hTdy108, hcdy108, hddy108⟩ := id hkvy107
    refine z_istore (lv' := [(4, .int (zI (vy107))), (0, .ref (ad 2)), (1, .ref (ad 883)), (2, .ref (ad 890)), (3, .int (zI (v3)))]) C dX7_readLayer_58 (by decide) rfl ?_
    refine z_aload_n C 1 dX7_readLayer_60 rfl ?_
    refine z_iconst (z := 1) C dX7_readLayer_61 rfl ?_
    refine z_bipush (z := 99) C dX7_readLayer_62 (by decide) ?_
    have hruny109 : okRun cs ad gvy107 (covy107) tp := ⟨_, _, _, _, _, _, _, by omega, by omega, hcdy108, hddy108⟩
    refine z_cV (As := [.int (zI (1)), .int (zI (99))]) (rest := []) (ci := 9) C (c_X7_number l D A cs tt N ad _ (by omega) _ tp hruny109 (1) (by omega) (99) (by omega)) (by omega) hay2 hcdy108 rfl rfl mv_yX7_number q_817 hd_yX7_number (by decide) (Nat.le_of_ble_eq_true rfl) (by decide) dX7_readLayer_64 rfl (kI0 fun vy110 gvy110 hvy110 => ?_)
    obtain ⟨hrvy110, ⟨covy110, hkvy110, hnvy110⟩, hfvy110⟩ := hvy110
    obtain ⟨pldy111, endy111, tydy111, a9dy111, bedy111, tkdy111, tddy111, hAdy111, hTdy111, hcdy111, hddy111⟩ := id hkvy110
    refine z_istore (lv' := [(5, .int (zI (vy110))), (4, .int (zI (vy107))), (0, .ref (ad 2)), (1, .ref (ad 883)), (2, .ref (ad 890)), (3, .int (zI (v3)))]) C dX7_readLayer_67 (by decide) rfl ?_
    refine z_aload_n C 2 dX7_readLayer_69 rfl ?_
    refine z_iconst (z := 0) C dX7_readLayer_70 rfl ?_
    refine z_bipush (z := 99) C dX7_readLayer_71 (by decide) ?_
    have hruny112 : okRun cs ad gvy110 (covy110) tp := ⟨_, _, _, _, _, _, _, by omega, by omega, hcdy111, hddy111⟩
    refine z_cV (As := [.int (zI (0)), .int (zI (99))]) (rest := []) (ci := 9) C (c_X7_number l D A cs tt N ad _ (by omega) _ tp hruny112 (0) (by omega) (99) (by omega)) (by omega) hay2 hcdy111 rfl rfl mv_yX7_number q_817 hd_yX7_number (by decide) (Nat.le_of_ble_eq_true rfl) (by decide) dX7_readLayer_73 rfl (kI0 fun vy113 gvy113 hvy113 => ?_)
    obtain ⟨hrvy113, ⟨covy113, hkvy113, hnvy113⟩, hfvy113⟩ := hvy113
    obtain ⟨pldy114, endy114, tydy114, a9dy114, bedy114, tkdy114, tddy114, hAdy114, hTdy114, hcdy114, hddy114⟩ := id hkvy113
    refine z_istore (lv' := [(6, .int (zI (vy113))), (5, .int (zI (vy110))), (4, .int (zI (vy107))), (0, .ref (ad 2)), (1, .ref (ad 883)), (2, .ref (ad 890)), (3, .int (zI (v3)))]) C dX7_readLayer_76 (by decide) rfl ?_
    refine z_aload_n C 3 dX7_readLayer_78 rfl ?_
    refine z_iconst (z := 1) C dX7_readLayer_79 rfl ?_
    refine z_sipush (z := 999) C dX7_readLayer_80 (by decide) ?_
    have hruny115 : okRun cs ad gvy113 (covy113) tp := ⟨_, _, _, _, _, _, _, by omega, by omega, hcdy114, hddy114⟩
    refine z_cV (As := [.int (zI (1)), .int (zI (999))]) (rest := []) (ci := 9) C (c_X7_number l D A cs tt N ad _ (by omega) _ tp hruny115 (1) (by omega) (999) (by omega)) (by omega) hay2 hcdy114 rfl rfl mv_yX7_number q_817 hd_yX7_number (by decide) (Nat.le_of_ble_eq_true rfl) (by decide) dX7_readLayer_83 rfl (kI0 fun vy116 gvy116 hvy116 => ?_)
    obtain ⟨hrvy116, ⟨covy116, hkvy116, hnvy116⟩, hfvy116⟩ := hvy116
    obtain ⟨pldy117, endy117, tydy117, a9dy117, bedy117, tkdy117, tddy117, hAdy117, hTdy117, hcdy117, hddy117⟩ := id hkvy116
    refine z_istore (lv' := [(7, .int (zI (vy116))), (6, .int (zI (vy113))), (5, .int (zI (vy110))), (4, .int (zI (vy107))), (0, .ref (ad 2)), (1, .ref (ad 883)), (2, .ref (ad 890)), (3, .int (zI (v3)))]) C dX7_readLayer_86 (by decide) rfl ?_
    refine z_iload C 0 dX7_readLayer_88 rfl ?_
    refine z_iload C 2 dX7_readLayer_90 rfl ?_
    refine z_iload C 1 dX7_readLayer_92 rfl ?_
    refine z_iadd C dX7_readLayer_94 ?_
    refine z_icmp_ge (tgt := 107) C dX7_readLayer_95 (by decide) (by omega) (by omega) (fun hby118 => ?_) (fun hby118 => ?_)
    · have hruny119 : okRun cs ad gvy116 (covy116) tp := ⟨_, _, _, _, _, _, _, by omega, by omega, hcdy117, hddy117⟩
      refine z_lv (lv' := [(0, .ref (ad 2)), (1, .ref (ad 883)), (2, .ref (ad 890)), (3, .int (zI (v3))), (4, .int (zI (vy107))), (5, .int (zI (vy110))), (6, .int (zI (vy113))), (7, .int (zI (vy116)))]) [4, 5, 6, 7, 3, 2, 1, 0] rfl ?_
      exact s107 (v3) (vy107) (vy110) (vy113) (vy116) (covy116) gvy116 hruny119 (by omega) (fun j j1 => by rw [hfvy116 _ (by omega)]; rw [hfvy113 _ (by omega)]; rw [hfvy110 _ (by omega)]; rw [hfvy107 _ (by omega)]; exact f3 j j1) (by omega) (by omega) (by omega) (by omega) (by omega) (by omega)
    · refine z_aload_n C 4 dX7_readLayer_98 rfl ?_
      refine z_iconst (z := 5) C dX7_readLayer_99 rfl ?_
      refine z_aload_n C 4 dX7_readLayer_100 rfl ?_
      refine z_get (v := .int (zI (tkdy117))) C (by omega) hay2 hcdy117 rfl inA_X7 7 (by decide) q_51 rfl rfl dX7_readLayer_101 ?_
      obtain ⟨xy120, exy121, hxy122⟩ := zI_of (zI (tkdy117))
      rw [exy121]
      have hruny123 : okRun cs ad gvy116 (covy116) tp := ⟨_, _, _, _, _, _, _, by omega, by omega, hcdy117, hddy117⟩
      refine z_cV (As := [.int (zI (5)), .int (zI (xy120))]) (rest := []) (ci := 9) C (c_X7_fail l D A cs tt N ad _ (by omega) _ tp hruny123 (5) (by omega) (xy120) (by omega)) (by omega) hay2 hcdy117 rfl rfl mv_yX7_fail q_809 hd_yX7_fail (by decide) (Nat.le_of_ble_eq_true rfl) (by decide) dX7_readLayer_104 rfl (kV0 fun gvy124 hvy124 => ?_)
      obtain ⟨⟨covy124, hkvy124, hnvy124⟩, hfvy124⟩ := hvy124
      obtain ⟨pldy125, endy125, tydy125, a9dy125, bedy125, tkdy125, tddy125, hAdy125, hTdy125, hcdy125, hddy125⟩ := id hkvy124
      have hruny126 : okRun cs ad gvy124 (covy124) tp := ⟨_, _, _, _, _, _, _, by omega, by omega, hcdy125, hddy125⟩
      refine z_lv (lv' := [(0, .ref (ad 2)), (1, .ref (ad 883)), (2, .ref (ad 890)), (3, .int (zI (v3))), (4, .int (zI (vy107))), (5, .int (zI (vy110))), (6, .int (zI (vy113))), (7, .int (zI (vy116)))]) [4, 5, 6, 7, 3, 2, 1, 0] rfl ?_
      exact s107 (v3) (vy107) (vy110) (vy113) (vy116) (covy124) gvy124 hruny126 (by omega) (fun j j1 => by rw [hfvy124 _ (by omega)]; rw [hfvy116 _ (by omega)]; rw [hfvy113 _ (by omega)]; rw [hfvy110 _ (by omega)]; rw [hfvy107 _ (by omega)]; exact f3 j j1) (by omega) (by omega) (by omega) (by omega) (by omega) (by omega)
  refine z_aload_n C 0 dX7_readLayer_0 rfl ?_
  have hruny127 : okRun cs ad g (co) tp := ⟨_, _, _, _, _, _, _, by omega, by omega, hcdy1, hddy1⟩
  refine z_cV (As := []) (rest := []) (ci := 9) C (c_X7_take l D A cs tt N ad _ (by omega) _ tp hruny127) (lt_K hN (rfl : Nat.blt (2) 952 = true)) hay2 hcdy1 rfl rfl mv_yX7_take q_813 hd_yX7_take (by decide) (Nat.le_of_ble_eq_true rfl) (by decide) dX7_readLayer_1 rfl (kV0 fun gvy128 hvy128 => ?_)
  obtain ⟨hkvy128, hfvy128⟩ := hvy128
  obtain ⟨pldy129, endy129, tydy129, a9dy129, bedy129, tkdy129, tddy129, hAdy129, hTdy129, hcdy129, hddy129⟩ := id hkvy128
  refine z_aload_n C 0 dX7_readLayer_4 rfl ?_
  refine z_iconst (z := 0) C dX7_readLayer_5 rfl ?_
  refine z_iconst (z := 3) C dX7_readLayer_6 rfl ?_
  have hruny130 : okRun cs ad gvy128 (co) tp := ⟨_, _, _, _, _, _, _, by omega, by omega, hcdy129, hddy129⟩
  refine z_cV (As := [.int (zI (0)), .int (zI (3))]) (rest := []) (ci := 9) C (c_X7_number l D A cs tt N ad _ (by omega) _ tp hruny130 (0) (by omega) (3) (by omega)) (lt_K hN (rfl : Nat.blt (2) 952 = true)) hay2 hcdy129 rfl rfl mv_yX7_number q_817 hd_yX7_number (by decide) (Nat.le_of_ble_eq_true rfl) (by decide) dX7_readLayer_7 rfl (kI0 fun vy131 gvy131 hvy131 => ?_)
  obtain ⟨hrvy131, ⟨covy131, hkvy131, hnvy131⟩, hfvy131⟩ := hvy131
  obtain ⟨pldy132, endy132, tydy132, a9dy132, bedy132, tkdy132, tddy132, hAdy132, hTdy132, hcdy132, hddy132⟩ := id hkvy131
  refine z_istore_n (lv' := [(3, .int (zI (vy131))), (0, .ref (ad 2)), (1, .ref (ad 883)), (2, .ref (ad 890))]) C dX7_readLayer_10 rfl (by decide) rfl ?_
  refine z_iload_n C 0 dX7_readLayer_11 rfl ?_
  refine z_aload_n C 2 dX7_readLayer_12 rfl ?_
  have hgy133 := (hfvy128 (883) (by decide)).trans hpoy5.1
  have hgy134 := (hfvy131 (883) (by decide)).trans hgy133
  refine z_get (v := .int (zI (sloy5))) C (lt_K hN (rfl : Nat.blt (883) 952 = true)) hay4 hgy134 rfl inA_X5 0 (by decide) q_89 rfl rfl dX7_readLayer_13 ?_
  refine z_icmp_lt (tgt := 31) C dX7_readLayer_16 (by decide) (by omega) (by omega) (fun hby135 => ?_) (fun hby135 => ?_)
  · refine z_aload_n C 3 dX7_readLayer_31 rfl ?_
    have hgy136 := (hfvy128 (890) (by decide)).trans uy141
    have hgy137 := (hfvy131 (890) (by decide)).trans hgy136
    refine z_get (v := .ref (ad (890 + 1))) C (lt_K hN (rfl : Nat.blt (890) 952 = true)) hay15 hgy137 rfl inA_X8 6 (by decide) q_189 rfl rfl dX7_readLayer_32 ?_
    refine z_iload_n C 0 dX7_readLayer_35 rfl ?_
    have hgy138 := (hfvy128 (890 + 1) (by omega)).trans uy142
    have hgy139 := (hfvy131 (890 + 1) (by omega)).trans hgy138
    refine z_aald C (lt_K hN (rfl : Nat.blt (890 + 1) 952 = true)) hay16 hgy139 3 rfl ((vy131).toNat) (by omega) (by omega) (by decide) (uy143 (vy131).toNat (by omega)) dX7_readLayer_36 ?_
    have hay140 : zAt ad (890 + 2 + 2 * (vy131).toNat) (ad (890 + 2 + 2 * (vy131).toNat)) := rfl
    have hay141 : zAt ad (890 + 2 + 2 * (vy131).toNat + 1) (ad (890 + 2 + 2 * (vy131).toNat + 1)) := rfl
    have hpy142 := uy144 (vy131).toNat (by omega)
    have hqy143 := uy14z4 (vy131).toNat (by omega)
    have hgy144 := (hfvy128 (890 + 2 + 2 * (vy131).toNat) (by omega)).trans hpy142.1
    have hgy145 := (hfvy131 (890 + 2 + 2 * (vy131).toNat) (by omega)).trans hgy144
    refine z_get (v := .int (zI (uy14z (vy131).toNat))) C (by omega) hay140 hgy145 rfl inA_X3 0 (by decide) q_157 rfl rfl dX7_readLayer_37 ?_
    refine z_bipush (z := 12) C dX7_readLayer_40 (by decide) ?_
    refine z_icmp_lt (tgt := 54) C dX7_readLayer_42 (by decide) (by omega) (by omega) (fun hby146 => ?_) (fun hby146 => ?_)
    · have hruny147 : okRun cs ad gvy131 (covy131) tp := ⟨_, _, _, _, _, _, _, by omega, by omega, hcdy132, hddy132⟩
      refine z_lv (lv' := [(0, .ref (ad 2)), (1, .ref (ad 883)), (2, .ref (ad 890)), (3, .int (zI (vy131)))]) [1, 2, 3, 0] rfl ?_
      exact s54 (vy131) (covy131) gvy131 hruny147 (by omega) (fun j j1 => by rw [hfvy131 _ (by omega)]; rw [hfvy128 _ (by omega)]) (by omega) (by omega)
    · refine z_aload_n C 1 dX7_readLayer_45 rfl ?_
      refine z_iconst (z := 2) C dX7_readLayer_46 rfl ?_
      refine z_aload_n C 1 dX7_readLayer_47 rfl ?_
      refine z_get (v := .int (zI (tkdy132))) C (lt_K hN (rfl : Nat.blt (2) 952 = true)) hay2 hcdy132 rfl inA_X7 7 (by decide) q_51 rfl rfl dX7_readLayer_48 ?_
      obtain ⟨xy148, exy149, hxy150⟩ := zI_of (zI (tkdy132))
      rw [exy149]
      have hruny151 : okRun cs ad gvy131 (covy131) tp := ⟨_, _, _, _, _, _, _, by omega, by omega, hcdy132, hddy132⟩
      refine z_cV (As := [.int (zI (2)), .int (zI (xy148))]) (rest := []) (ci := 9) C (c_X7_fail l D A cs tt N ad _ (by omega) _ tp hruny151 (2) (by omega) (xy148) (by omega)) (lt_K hN (rfl : Nat.blt (2) 952 = true)) hay2 hcdy132 rfl rfl mv_yX7_fail q_809 hd_yX7_fail (by decide) (Nat.le_of_ble_eq_true rfl) (by decide) dX7_readLayer_51 rfl (kV0 fun gvy152 hvy152 => ?_)
      obtain ⟨⟨covy152, hkvy152, hnvy152⟩, hfvy152⟩ := hvy152
      obtain ⟨pldy153, endy153, tydy153, a9dy153, bedy153, tkdy153, tddy153, hAdy153, hTdy153, hcdy153, hddy153⟩ := id hkvy152
      have hruny154 : okRun cs ad gvy152 (covy152) tp := ⟨_, _, _, _, _, _, _, by omega, by omega, hcdy153, hddy153⟩
      refine z_lv (lv' := [(0, .ref (ad 2)), (1, .ref (ad 883)), (2, .ref (ad 890)), (3, .int (zI (vy131)))]) [1, 2, 3, 0] rfl ?_
      exact s54 (vy131) (covy152) gvy152 hruny154 (by omega) (fun j j1 => by rw [hfvy152 _ (by omega)]; rw [hfvy131 _ (by omega)]; rw [hfvy128 _ (by omega)]) (by omega) (by omega)
  · refine z_aload_n C 1 dX7_readLayer_19 rfl ?_
    refine z_iconst (z := 3) C dX7_readLayer_20 rfl ?_
    refine z_aload_n C 1 dX7_readLayer_21 rfl ?_
    refine z_get (v := .int (zI (tkdy132))) C (lt_K hN (rfl : Nat.blt (2) 952 = true)) hay2 hcdy132 rfl inA_X7 7 (by decide) q_51 rfl rfl dX7_readLayer_22 ?_
    obtain ⟨xy155, exy156, hxy157⟩ := zI_of (zI (tkdy132))
    rw [exy156]
    have hruny158 : okRun cs ad gvy131 (covy131) tp := ⟨_, _, _, _, _, _, _, by omega, by omega, hcdy132, hddy132⟩
    refine z_cV (As := [.int (zI (3)), .int (zI (xy155))]) (rest := []) (ci := 9) C (c_X7_fail l D A cs tt N ad _ (by omega) _ tp hruny158 (3) (by omega) (xy155) (by omega)) (lt_K hN (rfl : Nat.blt (2) 952 = true)) hay2 hcdy132 rfl rfl mv_yX7_fail q_809 hd_yX7_fail (by decide) (Nat.le_of_ble_eq_true rfl) (by decide) dX7_readLayer_25 rfl (kV0 fun gvy159 hvy159 => ?_)
    obtain ⟨⟨covy159, hkvy159, hnvy159⟩, hfvy159⟩ := hvy159
    obtain ⟨pldy160, endy160, tydy160, a9dy160, bedy160, tkdy160, tddy160, hAdy160, hTdy160, hcdy160, hddy160⟩ := id hkvy159
    refine z_goto (tgt := 54) C dX7_readLayer_28 (by decide) ?_
    have hruny161 : okRun cs ad gvy159 (covy159) tp := ⟨_, _, _, _, _, _, _, by omega, by omega, hcdy160, hddy160⟩
    refine z_lv (lv' := [(0, .ref (ad 2)), (1, .ref (ad 883)), (2, .ref (ad 890)), (3, .int (zI (vy131)))]) [1, 2, 3, 0] rfl ?_
    exact s54 (vy131) (covy159) gvy159 hruny161 (by omega) (fun j j1 => by rw [hfvy159 _ (by omega)]; rw [hfvy131 _ (by omega)]; rw [hfvy128 _ (by omega)]) (by omega) (by omega)

set_option maxRecDepth 100000 in
set_option maxHeartbeats 4000000 in
theorem c_X7_readClause (l : Launch) (D : va_G) (A : Nat → Prop) (cs : Nat → ClassId) (tt : Nat) (N : Nat) (ad : Nat → Nat) (g : Nat → va_E) (hN : 952 ≤ N) (co : Int) (tp : Nat → Int) (hR : okRun cs ad g co tp) (hP9 : okPlan cs ad g 883) (hW9 : okWorld cs ad g 890) : zM l yX7_readClause cX7_readClause 3 none ({ frames := 8, cells := 0, slots := 0, locals := 480 } : Room) D A cs tt N ad g [.ref (ad 2), .ref (ad 883), .ref (ad 890)] (rV0 N ad fun g' => (∃ co' : Int, okRun cs ad g' co' tp ∧ co ≤ co') ∧ okPlan cs ad g' 883 ∧ okWorld cs ad g' 890 ∧ ∀ j, j ≠ 2 → (j < 883 ∨ 900 ≤ j) → g' j = g j) := by
  obtain ⟨pldy1, endy1, tydy1, a9dy1, bedy1, tkdy1, tddy1, hAdy1, hTdy1, hcdy1, hddy1⟩ := id hR
  have hay2 : zAt ad (2) (ad 2) := rfl
  have hay3 : zAt ad (1) (ad 1) := rfl
  have hay4 : zAt ad (883) (ad 883) := rfl
  have hay5 : zAt ad (890) (ad 890) := rfl
  refine z_of (by decide) (Nat.le_of_ble_eq_true rfl) ?_
  intro p e s m below meth c C hr hlk hnm
  refine z_lv (lv' := [(0, .ref (ad 2)), (1, .ref (ad 883)), (2, .ref (ad 890))]) [0, 1, 2] rfl ?_
  refine z_aload_n C 0 dX7_readClause_0 rfl ?_
  refine z_ldcS C skm0 rfl rfl dX7_readClause_1 ?_
  have hruny6 : okRun cs ad g (co) tp := ⟨_, _, _, _, _, _, _, by omega, by omega, hcdy1, hddy1⟩
  refine z_cV (As := [.ref (cs (100 + 0))]) (rest := []) (ci := 9) C (c_X7_is l D A cs tt N ad _ (by omega) _ tp hruny6 _ skm0) (lt_K hN (rfl : Nat.blt (2) 952 = true)) hay2 hcdy1 rfl rfl mv_yX7_is q_754 hd_yX7_is (by decide) (Nat.le_of_ble_eq_true rfl) (by decide) dX7_readClause_3 rfl (kI0 fun vy7 gvy7 hvy7 => ?_)
  obtain ⟨hvy7, rfl⟩ := hvy7
  refine z_if_eq (tgt := 17) C dX7_readClause_6 (by decide) (by omega) (fun hby8 => ?_) (fun hby8 => ?_)
  · refine z_aload_n C 0 dX7_readClause_17 rfl ?_
    refine z_ldcS C skm1 rfl rfl dX7_readClause_18 ?_
    have hruny9 : okRun cs ad g (co) tp := ⟨_, _, _, _, _, _, _, by omega, by omega, hcdy1, hddy1⟩
    refine z_cV (As := [.ref (cs (100 + 1))]) (rest := []) (ci := 9) C (c_X7_is l D A cs tt N ad _ (by omega) _ tp hruny9 _ skm1) (lt_K hN (rfl : Nat.blt (2) 952 = true)) hay2 hcdy1 rfl rfl mv_yX7_is q_754 hd_yX7_is (by decide) (Nat.le_of_ble_eq_true rfl) (by decide) dX7_readClause_20 rfl (kI0 fun vy10 gvy10 hvy10 => ?_)
    obtain ⟨hvy10, rfl⟩ := hvy10
    refine z_if_eq (tgt := 35) C dX7_readClause_23 (by decide) (by omega) (fun hby11 => ?_) (fun hby11 => ?_)
    · refine z_aload_n C 0 dX7_readClause_35 rfl ?_
      refine z_ldcS C skm7 rfl rfl dX7_readClause_36 ?_
      have hruny12 : okRun cs ad g (co) tp := ⟨_, _, _, _, _, _, _, by omega, by omega, hcdy1, hddy1⟩
      refine z_cV (As := [.ref (cs (100 + 7))]) (rest := []) (ci := 9) C (c_X7_is l D A cs tt N ad _ (by omega) _ tp hruny12 _ skm7) (lt_K hN (rfl : Nat.blt (2) 952 = true)) hay2 hcdy1 rfl rfl mv_yX7_is q_754 hd_yX7_is (by decide) (Nat.le_of_ble_eq_true rfl) (by decide) dX7_readClause_38 rfl (kI0 fun vy13 gvy13 hvy13 => ?_)
      obtain ⟨hvy13, rfl⟩ := hvy13
      refine z_if_eq (tgt := 52) C dX7_readClause_41 (by decide) (by omega) (fun hby14 => ?_) (fun hby14 => ?_)
      · refine z_aload_n C 0 dX7_readClause_52 rfl ?_
        refine z_ldcS C skm11 rfl rfl dX7_readClause_53 ?_
        have hruny15 : okRun cs ad g (co) tp := ⟨_, _, _, _, _, _, _, by omega, by omega, hcdy1, hddy1⟩
        refine z_cV (As := [.ref (cs (100 + 11))]) (rest := []) (ci := 9) C (c_X7_is l D A cs tt N ad _ (by omega) _ tp hruny15 _ skm11) (lt_K hN (rfl : Nat.blt (2) 952 = true)) hay2 hcdy1 rfl rfl mv_yX7_is q_754 hd_yX7_is (by decide) (Nat.le_of_ble_eq_true rfl) (by decide) dX7_readClause_55 rfl (kI0 fun vy16 gvy16 hvy16 => ?_)
        obtain ⟨hvy16, rfl⟩ := hvy16
        refine z_if_eq (tgt := 73) C dX7_readClause_58 (by decide) (by omega) (fun hby17 => ?_) (fun hby17 => ?_)
        · refine z_aload_n C 0 dX7_readClause_73 rfl ?_
          refine z_ldcS C skm12 rfl rfl dX7_readClause_74 ?_
          have hruny18 : okRun cs ad g (co) tp := ⟨_, _, _, _, _, _, _, by omega, by omega, hcdy1, hddy1⟩
          refine z_cV (As := [.ref (cs (100 + 12))]) (rest := []) (ci := 9) C (c_X7_is l D A cs tt N ad _ (by omega) _ tp hruny18 _ skm12) (lt_K hN (rfl : Nat.blt (2) 952 = true)) hay2 hcdy1 rfl rfl mv_yX7_is q_754 hd_yX7_is (by decide) (Nat.le_of_ble_eq_true rfl) (by decide) dX7_readClause_76 rfl (kI0 fun vy19 gvy19 hvy19 => ?_)
          obtain ⟨hvy19, rfl⟩ := hvy19
          refine z_if_eq (tgt := 94) C dX7_readClause_79 (by decide) (by omega) (fun hby20 => ?_) (fun hby20 => ?_)
          · refine z_aload_n C 0 dX7_readClause_94 rfl ?_
            refine z_ldcS C skm13 rfl rfl dX7_readClause_95 ?_
            have hruny21 : okRun cs ad g (co) tp := ⟨_, _, _, _, _, _, _, by omega, by omega, hcdy1, hddy1⟩
            refine z_cV (As := [.ref (cs (100 + 13))]) (rest := []) (ci := 9) C (c_X7_is l D A cs tt N ad _ (by omega) _ tp hruny21 _ skm13) (lt_K hN (rfl : Nat.blt (2) 952 = true)) hay2 hcdy1 rfl rfl mv_yX7_is q_754 hd_yX7_is (by decide) (Nat.le_of_ble_eq_true rfl) (by decide) dX7_readClause_97 rfl (kI0 fun vy22 gvy22 hvy22 => ?_)
            obtain ⟨hvy22, rfl⟩ := hvy22
            refine z_if_eq (tgt := 117) C dX7_readClause_100 (by decide) (by omega) (fun hby23 => ?_) (fun hby23 => ?_)
            · refine z_aload_n C 0 dX7_readClause_117 rfl ?_
              refine z_iconst (z := 1) C dX7_readClause_118 rfl ?_
              refine z_aload_n C 0 dX7_readClause_119 rfl ?_
              refine z_get (v := .int (zI (a9dy1))) C (lt_K hN (rfl : Nat.blt (2) 952 = true)) hay2 hcdy1 rfl inA_X7 5 (by decide) q_49 rfl rfl dX7_readClause_120 ?_
              have hruny24 : okRun cs ad g (co) tp := ⟨_, _, _, _, _, _, _, by omega, by omega, hcdy1, hddy1⟩
              refine z_cV (As := [.int (zI (1)), .int (zI (a9dy1))]) (rest := []) (ci := 9) C (c_X7_fail l D A cs tt N ad _ (by omega) _ tp hruny24 (1) (by omega) (a9dy1) (by omega)) (lt_K hN (rfl : Nat.blt (2) 952 = true)) hay2 hcdy1 rfl rfl mv_yX7_fail q_809 hd_yX7_fail (by decide) (Nat.le_of_ble_eq_true rfl) (by decide) dX7_readClause_123 rfl (kV0 fun gvy25 hvy25 => ?_)
              obtain ⟨⟨covy25, hkvy25, hnvy25⟩, hfvy25⟩ := hvy25
              obtain ⟨pldy26, endy26, tydy26, a9dy26, bedy26, tkdy26, tddy26, hAdy26, hTdy26, hcdy26, hddy26⟩ := id hkvy25
              have hruny27 : okRun cs ad gvy25 (covy25) tp := ⟨_, _, _, _, _, _, _, by omega, by omega, hcdy26, hddy26⟩
              have hpy28 := okPlan.mv (ad' := ad) (g' := gvy25) (fun j h1 h2 => by rfl) (fun j h1 h2 => by rw [hfvy25 _ (by omega)]) hP9
              have hoky29 : okWorld cs ad gvy25 (890) := okWorld.mv (fun j j1 j2 => by rw [hfvy25 _ (by omega)]) hW9
              exact z_vret C hr hlk dX7_readClause_126 (by decide) (by decide) ⟨rfl, rfl, rfl, ⟨_, hruny27, by omega⟩, hpy28, hoky29, fun j j1 j2 => by rw [hfvy25 _ (by omega)]⟩
            · refine z_aload_n C 0 dX7_readClause_103 rfl ?_
              refine z_aload_n C 1 dX7_readClause_104 rfl ?_
              refine z_bipush (z := 10) C dX7_readClause_105 (by decide) ?_
              refine z_iconst (z := 1) C dX7_readClause_107 rfl ?_
              refine z_sipush (z := 9999) C dX7_readClause_108 (by decide) ?_
              have hruny30 : okRun cs ad g (co) tp := ⟨_, _, _, _, _, _, _, by omega, by omega, hcdy1, hddy1⟩
              refine z_cV (As := [.ref (ad 883), .int (zI (10)), .int (zI (1)), .int (zI (9999))]) (rest := []) (ci := 9) C (c_X7_readTable l D A cs tt N ad _ (by omega) _ tp hruny30 hP9  (10) (by omega) (1) (by omega) (9999) (by omega)) (lt_K hN (rfl : Nat.blt (2) 952 = true)) hay2 hcdy1 rfl rfl mv_yX7_readTable q_856 hd_yX7_readTable (by decide) (Nat.le_of_ble_eq_true rfl) (by decide) dX7_readClause_111 rfl (kV0 fun gvy31 hvy31 => ?_)
              obtain ⟨⟨covy31, hkvy31, hnvy31⟩, hpvy31, hfvy31⟩ := hvy31
              obtain ⟨pldy32, endy32, tydy32, a9dy32, bedy32, tkdy32, tddy32, hAdy32, hTdy32, hcdy32, hddy32⟩ := id hkvy31
              refine z_goto (tgt := 126) C dX7_readClause_114 (by decide) ?_
              have hruny33 : okRun cs ad gvy31 (covy31) tp := ⟨_, _, _, _, _, _, _, by omega, by omega, hcdy32, hddy32⟩
              have hoky34 : okWorld cs ad gvy31 (890) := okWorld.mv (fun j j1 j2 => by rw [hfvy31 _ (by omega) (by omega)]) hW9
              exact z_vret C hr hlk dX7_readClause_126 (by decide) (by decide) ⟨rfl, rfl, rfl, ⟨_, hruny33, by omega⟩, hpvy31, hoky34, fun j j1 j2 => by rw [hfvy31 _ (by omega) (by omega)]⟩
          · refine z_aload_n C 0 dX7_readClause_82 rfl ?_
            refine z_aload_n C 1 dX7_readClause_83 rfl ?_
            refine z_iconst (z := 5) C dX7_readClause_84 rfl ?_
            refine z_iconst (z := 0) C dX7_readClause_85 rfl ?_
            refine z_bipush (z := 99) C dX7_readClause_86 (by decide) ?_
            have hruny35 : okRun cs ad g (co) tp := ⟨_, _, _, _, _, _, _, by omega, by omega, hcdy1, hddy1⟩
            refine z_cV (As := [.ref (ad 883), .int (zI (5)), .int (zI (0)), .int (zI (99))]) (rest := []) (ci := 9) C (c_X7_readTable l D A cs tt N ad _ (by omega) _ tp hruny35 hP9  (5) (by omega) (0) (by omega) (99) (by omega)) (lt_K hN (rfl : Nat.blt (2) 952 = true)) hay2 hcdy1 rfl rfl mv_yX7_readTable q_856 hd_yX7_readTable (by decide) (Nat.le_of_ble_eq_true rfl) (by decide) dX7_readClause_88 rfl (kV0 fun gvy36 hvy36 => ?_)
            obtain ⟨⟨covy36, hkvy36, hnvy36⟩, hpvy36, hfvy36⟩ := hvy36
            obtain ⟨pldy37, endy37, tydy37, a9dy37, bedy37, tkdy37, tddy37, hAdy37, hTdy37, hcdy37, hddy37⟩ := id hkvy36
            refine z_goto (tgt := 126) C dX7_readClause_91 (by decide) ?_
            have hruny38 : okRun cs ad gvy36 (covy36) tp := ⟨_, _, _, _, _, _, _, by omega, by omega, hcdy37, hddy37⟩
            have hoky39 : okWorld cs ad gvy36 (890) := okWorld.mv (fun j j1 j2 => by rw [hfvy36 _ (by omega) (by omega)]) hW9
            exact z_vret C hr hlk dX7_readClause_126 (by decide) (by decide) ⟨rfl, rfl, rfl, ⟨_, hruny38, by omega⟩, hpvy36, hoky39, fun j j1 j2 => by rw [hfvy36 _ (by omega) (by omega)]⟩
        · refine z_aload_n C 0 dX7_readClause_61 rfl ?_
          refine z_aload_n C 1 dX7_readClause_62 rfl ?_
          refine z_iconst (z := 0) C dX7_readClause_63 rfl ?_
          refine z_iconst (z := 0) C dX7_readClause_64 rfl ?_
          refine z_bipush (z := 99) C dX7_readClause_65 (by decide) ?_
          have hruny40 : okRun cs ad g (co) tp := ⟨_, _, _, _, _, _, _, by omega, by omega, hcdy1, hddy1⟩
          refine z_cV (As := [.ref (ad 883), .int (zI (0)), .int (zI (0)), .int (zI (99))]) (rest := []) (ci := 9) C (c_X7_readTable l D A cs tt N ad _ (by omega) _ tp hruny40 hP9  (0) (by omega) (0) (by omega) (99) (by omega)) (lt_K hN (rfl : Nat.blt (2) 952 = true)) hay2 hcdy1 rfl rfl mv_yX7_readTable q_856 hd_yX7_readTable (by decide) (Nat.le_of_ble_eq_true rfl) (by decide) dX7_readClause_67 rfl (kV0 fun gvy41 hvy41 => ?_)
          obtain ⟨⟨covy41, hkvy41, hnvy41⟩, hpvy41, hfvy41⟩ := hvy41
          obtain ⟨pldy42, endy42, tydy42, a9dy42, bedy42, tkdy42, tddy42, hAdy42, hTdy42, hcdy42, hddy42⟩ := id hkvy41
          refine z_goto (tgt := 126) C dX7_readClause_70 (by decide) ?_
          have hruny43 : okRun cs ad gvy41 (covy41) tp := ⟨_, _, _, _, _, _, _, by omega, by omega, hcdy42, hddy42⟩
          have hoky44 : okWorld cs ad gvy41 (890) := okWorld.mv (fun j j1 j2 => by rw [hfvy41 _ (by omega) (by omega)]) hW9
          exact z_vret C hr hlk dX7_readClause_126 (by decide) (by decide) ⟨rfl, rfl, rfl, ⟨_, hruny43, by omega⟩, hpvy41, hoky44, fun j j1 j2 => by rw [hfvy41 _ (by omega) (by omega)]⟩
      · refine z_aload_n C 0 dX7_readClause_44 rfl ?_
        refine z_aload_n C 1 dX7_readClause_45 rfl ?_
        have hruny45 : okRun cs ad g (co) tp := ⟨_, _, _, _, _, _, _, by omega, by omega, hcdy1, hddy1⟩
        refine z_cV (As := [.ref (ad 883)]) (rest := []) (ci := 9) C (c_X7_readHour l D A cs tt N ad _ (by omega) _ tp hruny45 hP9  ) (lt_K hN (rfl : Nat.blt (2) 952 = true)) hay2 hcdy1 rfl rfl mv_yX7_readHour q_844 hd_yX7_readHour (by decide) (Nat.le_of_ble_eq_true rfl) (by decide) dX7_readClause_46 rfl (kV0 fun gvy46 hvy46 => ?_)
        obtain ⟨⟨covy46, hkvy46, hnvy46⟩, hpvy46, hfvy46⟩ := hvy46
        obtain ⟨pldy47, endy47, tydy47, a9dy47, bedy47, tkdy47, tddy47, hAdy47, hTdy47, hcdy47, hddy47⟩ := id hkvy46
        refine z_goto (tgt := 126) C dX7_readClause_49 (by decide) ?_
        have hruny48 : okRun cs ad gvy46 (covy46) tp := ⟨_, _, _, _, _, _, _, by omega, by omega, hcdy47, hddy47⟩
        have hoky49 : okWorld cs ad gvy46 (890) := okWorld.mv (fun j j1 j2 => by rw [hfvy46 _ (by omega) (by omega)]) hW9
        exact z_vret C hr hlk dX7_readClause_126 (by decide) (by decide) ⟨rfl, rfl, rfl, ⟨_, hruny48, by omega⟩, hpvy46, hoky49, fun j j1 j2 => by rw [hfvy46 _ (by omega) (by omega)]⟩
    · refine z_aload_n C 0 dX7_readClause_26 rfl ?_
      refine z_aload_n C 1 dX7_readClause_27 rfl ?_
      refine z_aload_n C 2 dX7_readClause_28 rfl ?_
      have hruny50 : okRun cs ad g (co) tp := ⟨_, _, _, _, _, _, _, by omega, by omega, hcdy1, hddy1⟩
      refine z_cV (As := [.ref (ad 883), .ref (ad 890)]) (rest := []) (ci := 9) C (c_X7_readLayer l D A cs tt N ad _ (by omega) _ tp hruny50 hP9 hW9 ) (lt_K hN (rfl : Nat.blt (2) 952 = true)) hay2 hcdy1 rfl rfl mv_yX7_readLayer q_826 hd_yX7_readLayer (by decide) (Nat.le_of_ble_eq_true rfl) (by decide) dX7_readClause_29 rfl (kV0 fun gvy51 hvy51 => ?_)
      obtain ⟨⟨covy51, hkvy51, hnvy51⟩, hpvy51, hwvy51, hfvy51⟩ := hvy51
      obtain ⟨pldy52, endy52, tydy52, a9dy52, bedy52, tkdy52, tddy52, hAdy52, hTdy52, hcdy52, hddy52⟩ := id hkvy51
      refine z_goto (tgt := 126) C dX7_readClause_32 (by decide) ?_
      have hruny53 : okRun cs ad gvy51 (covy51) tp := ⟨_, _, _, _, _, _, _, by omega, by omega, hcdy52, hddy52⟩
      exact z_vret C hr hlk dX7_readClause_126 (by decide) (by decide) ⟨rfl, rfl, rfl, ⟨_, hruny53, by omega⟩, hpvy51, hwvy51, fun j j1 j2 => by rw [hfvy51 _ (by omega) (by omega)]⟩
  · refine z_aload_n C 0 dX7_readClause_9 rfl ?_
    refine z_aload_n C 1 dX7_readClause_10 rfl ?_
    have hruny54 : okRun cs ad g (co) tp := ⟨_, _, _, _, _, _, _, by omega, by omega, hcdy1, hddy1⟩
    refine z_cV (As := [.ref (ad 883)]) (rest := []) (ci := 9) C (c_X7_readSlope l D A cs tt N ad _ (by omega) _ tp hruny54 hP9  ) (lt_K hN (rfl : Nat.blt (2) 952 = true)) hay2 hcdy1 rfl rfl mv_yX7_readSlope q_805 hd_yX7_readSlope (by decide) (Nat.le_of_ble_eq_true rfl) (by decide) dX7_readClause_11 rfl (kV0 fun gvy55 hvy55 => ?_)
    obtain ⟨⟨covy55, hkvy55, hnvy55⟩, hpvy55, hfvy55⟩ := hvy55
    obtain ⟨pldy56, endy56, tydy56, a9dy56, bedy56, tkdy56, tddy56, hAdy56, hTdy56, hcdy56, hddy56⟩ := id hkvy55
    refine z_goto (tgt := 126) C dX7_readClause_14 (by decide) ?_
    have hruny57 : okRun cs ad gvy55 (covy55) tp := ⟨_, _, _, _, _, _, _, by omega, by omega, hcdy56, hddy56⟩
    have hoky58 : okWorld cs ad gvy55 (890) := okWorld.mv (fun j j1 j2 => by rw [hfvy55 _ (by omega) (by omega)]) hW9
    exact z_vret C hr hlk dX7_readClause_126 (by decide) (by decide) ⟨rfl, rfl, rfl, ⟨_, hruny57, by omega⟩, hpvy55, hoky58, fun j j1 j2 => by rw [hfvy55 _ (by omega) (by omega)]⟩

