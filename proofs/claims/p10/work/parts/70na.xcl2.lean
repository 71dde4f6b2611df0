set_option maxRecDepth 100000 in
set_option maxHeartbeats 4000000 in
theorem c_xSlope (l : Launch) (D : va_G) (A : Nat → Prop) (cs : Nat → ClassId) (tt : Nat) (N : Nat) (ad : Nat → Nat) (g : Nat → va_E) (hN : 952 ≤ N) (pl tk td : Int) (tp T : Nat → Int) (hT : xT tp T) (n : Nat) (hn : n ≤ 900) (f : Nat) (hf : f ≤ n) (hg2 : g 2 = rdC ad (pl) (0) ((n : Int)) (tk_so T n f) ((f : Int)) (((tk_to T n f : Nat) : Int)) (tk) (td)) (hg1 : g 1 = bA cs 900 tp) (sl ho ua : Int) (st op ai fa mu tb : Nat → Int) (hP : isPlan cs ad g 883 sl ho ua st op ai fa mu tb) (hsl : 0 ≤ sl ∧ sl ≤ 4) (hho : 0 ≤ ho ∧ ho ≤ 24) : zM l yX7_readSlope cX7_readSlope 4 none ({ frames := 6, cells := 0, slots := 0, locals := 360 } : Room) D A cs tt N ad g [.ref (ad 2), .ref (ad 883)] (rV0 N ad fun g' => ((∃ v, cl_fin T n (cl_slope T n sl f) = .ok v ∧ ((f < n → f < v.2) ∧ v.2 ≤ n) ∧ (∃ tk' : Int, g' 2 = rdC ad (pl) (0) ((n : Int)) (tk_so T n v.2) ((v.2 : Int)) (((tk_to T n v.2 : Nat) : Int)) (tk') (td)) ∧ isPlan cs ad g' 883 (sl + 1) ho ua (uZ st (sl).toNat v.1.1) (uZ op (sl).toNat v.1.2) ai fa mu tb) ∨ (∃ e : Int × Nat, cl_fin T n (cl_slope T n sl f) = .error e ∧ xFl cs ad g' e.1 (e.2 : Int) tp ∧ isPlan cs ad g' 883 sl ho ua st op ai fa mu tb)) ∧ ∀ j, j ≠ 2 → (j < 883 ∨ 890 ≤ j) → g' j = g j) := by
  have hay1 : zAt ad (2) (ad 2) := rfl
  have hay2 : zAt ad (1) (ad 1) := rfl
  have hTr : ∀ k, k < 900 → -128 ≤ tp k ∧ tp k ≤ 127 := fun k hk => (hT k hk).2.1
  have hsb := tk_so_b T n f
  have htb := tk_to_b (T := T) hf
  have hay3 : zAt ad (883) (ad 883) := rfl
  have hay4 : zAt ad (883 + 1) (ad (883 + 1)) := rfl
  have hay5 : zAt ad (883 + 2) (ad (883 + 2)) := rfl
  have hay6 : zAt ad (883 + 3) (ad (883 + 3)) := rfl
  have hay7 : zAt ad (883 + 4) (ad (883 + 4)) := rfl
  have hay8 : zAt ad (883 + 5) (ad (883 + 5)) := rfl
  have hay9 : zAt ad (883 + 6) (ad (883 + 6)) := rfl
  refine z_of (by decide) (Nat.le_of_ble_eq_true rfl) ?_
  intro p e s m below meth c C hr hlk hnm
  refine z_lv (lv' := [(0, .ref (ad 2)), (1, .ref (ad 883))]) [0, 1] rfl ?_
  refine z_aload_n C 1 dX7_readSlope_0 rfl ?_
  refine z_get (v := .int (zI (sl))) C (lt_K hN (rfl : Nat.blt (883) 952 = true)) hay3 hP.1 rfl inA_X5 0 (by decide) q_89 rfl rfl dX7_readSlope_1 ?_
  refine z_iconst (z := 4) C dX7_readSlope_4 rfl ?_
  refine z_icmp_lt (tgt := 17) C dX7_readSlope_5 (by decide) (by omega) (by omega) (fun hby10 => ?_) (fun hby10 => ?_)
  · have hscy11 : ¬ (4 ≤ sl) := by omega
    refine z_aload_n C 0 dX7_readSlope_17 rfl ?_
    refine z_cV (As := []) (rest := []) (ci := 9) C (c_xTake l D A cs tt N ad _ (by omega) _ _ _ tp T hT n hn f (by omega) hg2 hg1) (lt_K hN (rfl : Nat.blt (2) 952 = true)) hay1 hg2 rfl rfl mv_yX7_take q_813 hd_yX7_take (by decide) (Nat.le_of_ble_eq_true rfl) (by decide) dX7_readSlope_18 rfl (kV0 fun gvy13 hvy13 => ?_)
    obtain ⟨hkvy13, hfvy13⟩ := hvy13
    have hnby14 := tk_nx_b (T := T) (n := n) (f := f) (by omega)
    have hsby15 := tk_so_b T n (tk_nx T n f)
    have htby16 := tk_to_b (T := T) (n := n) (f := (tk_nx T n f)) (by omega)
    refine z_aload_n C 0 dX7_readSlope_21 rfl ?_
    refine z_iconst (z := 0) C dX7_readSlope_22 rfl ?_
    refine z_bipush (z := 90) C dX7_readSlope_23 (by decide) ?_
    have hgy17 := (hfvy13 (1) (by decide)).trans hg1
    refine z_cV (As := [.int (zI (0)), .int (zI (90))]) (rest := []) (ci := 9) C (c_xNumber l D A cs tt N ad _ (by omega) _ _ _ tp T hT n hn (tk_nx T n f) (by omega) hkvy13 hgy17 (0) (90) (by omega)) (lt_K hN (rfl : Nat.blt (2) 952 = true)) hay1 hkvy13 rfl rfl mv_yX7_number q_817 hd_yX7_number (by decide) (Nat.le_of_ble_eq_true rfl) (by decide) dX7_readSlope_25 rfl (kI0 fun vy18 gvy18 hvy18 => ?_)
    obtain ⟨hvy18, hfvy18⟩ := hvy18
    rcases hvy18 with hvy18 | hvy18
    · obtain ⟨hnvy18, hrvy18, hkvy18⟩ := hvy18
      have hnby19 := tk_nx_b (T := T) (n := n) (f := (tk_nx T n f)) (by omega)
      have hsby20 := tk_so_b T n (tk_nx T n (tk_nx T n f))
      have htby21 := tk_to_b (T := T) (n := n) (f := (tk_nx T n (tk_nx T n f))) (by omega)
      refine z_istore_n (lv' := [(2, .int (zI (vy18))), (0, .ref (ad 2)), (1, .ref (ad 883))]) C dX7_readSlope_28 rfl (by decide) rfl ?_
      refine z_aload_n C 1 dX7_readSlope_29 rfl ?_
      refine z_iconst (z := 0) C dX7_readSlope_30 rfl ?_
      refine z_bipush (z := 20) C dX7_readSlope_31 (by decide) ?_
      have hgy22 := (hfvy18 (1) (by decide)).trans hgy17
      refine z_cV (As := [.int (zI (0)), .int (zI (20))]) (rest := []) (ci := 9) C (c_xNumber l D A cs tt N ad _ (by omega) _ _ _ tp T hT n hn (tk_nx T n (tk_nx T n f)) (by omega) hkvy18 hgy22 (0) (20) (by omega)) (lt_K hN (rfl : Nat.blt (2) 952 = true)) hay1 hkvy18 rfl rfl mv_yX7_number q_817 hd_yX7_number (by decide) (Nat.le_of_ble_eq_true rfl) (by decide) dX7_readSlope_33 rfl (kI0 fun vy23 gvy23 hvy23 => ?_)
      obtain ⟨hvy23, hfvy23⟩ := hvy23
      rcases hvy23 with hvy23 | hvy23
      · obtain ⟨hnvy23, hrvy23, hkvy23⟩ := hvy23
        have hnby24 := tk_nx_b (T := T) (n := n) (f := (tk_nx T n (tk_nx T n f))) (by omega)
        have hsby25 := tk_so_b T n (tk_nx T n (tk_nx T n (tk_nx T n f)))
        have htby26 := tk_to_b (T := T) (n := n) (f := (tk_nx T n (tk_nx T n (tk_nx T n f)))) (by omega)
        refine z_istore_n (lv' := [(3, .int (zI (vy23))), (2, .int (zI (vy18))), (0, .ref (ad 2)), (1, .ref (ad 883))]) C dX7_readSlope_36 rfl (by decide) rfl ?_
        refine z_aload_n C 2 dX7_readSlope_37 rfl ?_
        have hgy28 := (hfvy23 (1) (by decide)).trans hgy22
        refine z_cV (As := []) (rest := []) (ci := 9) C (c_xClose l D A cs tt N ad _ (by omega) _ _ _ tp T hT n hn (tk_nx T n (tk_nx T n (tk_nx T n f))) (by omega) hkvy23 hgy28) (lt_K hN (rfl : Nat.blt (2) 952 = true)) hay1 hkvy23 rfl rfl mv_yX7_close q_821 hd_yX7_close (by decide) (Nat.le_of_ble_eq_true rfl) (by decide) dX7_readSlope_38 rfl (kV0 fun gvy27 hvy27 => ?_)
        obtain ⟨hvy27, hfvy27⟩ := hvy27
        rcases hvy27 with hvy27 | hvy27
        · obtain ⟨hnvy27, hkvy27⟩ := hvy27
          have hnby29 := tk_nx_b (T := T) (n := n) (f := (tk_nx T n (tk_nx T n (tk_nx T n f)))) (by omega)
          have hsby30 := tk_so_b T n (tk_nx T n (tk_nx T n (tk_nx T n (tk_nx T n f))))
          have htby31 := tk_to_b (T := T) (n := n) (f := (tk_nx T n (tk_nx T n (tk_nx T n (tk_nx T n f))))) (by omega)
          refine z_aload_n C 2 dX7_readSlope_41 rfl ?_
          refine z_get (v := .int (zI (0))) C (lt_K hN (rfl : Nat.blt (2) 952 = true)) hay1 hkvy27 rfl inA_X7 1 (by decide) q_45 rfl rfl dX7_readSlope_42 ?_
          refine z_if_ne (tgt := 78) C dX7_readSlope_45 (by decide) (by omega) (fun h => absurd h (by omega)) (fun _ => ?_)
          refine z_aload_n C 3 dX7_readSlope_48 rfl ?_
          have hgy32 := (hfvy13 (883) (by decide)).trans hP.1
          have hgy33 := (hfvy18 (883) (by decide)).trans hgy32
          have hgy34 := (hfvy23 (883) (by decide)).trans hgy33
          have hgy35 := (hfvy27 (883) (by decide)).trans hgy34
          refine z_get (v := .ref (ad (883 + 1))) C (lt_K hN (rfl : Nat.blt (883) 952 = true)) hay3 hgy35 rfl inA_X5 3 (by decide) q_97 rfl rfl dX7_readSlope_49 ?_
          refine z_aload_n C 3 dX7_readSlope_52 rfl ?_
          refine z_get (v := .int (zI (sl))) C (lt_K hN (rfl : Nat.blt (883) 952 = true)) hay3 hgy35 rfl inA_X5 0 (by decide) q_89 rfl rfl dX7_readSlope_53 ?_
          refine z_iload_n C 1 dX7_readSlope_56 rfl ?_
          have hgy36 := (hfvy13 (883 + 1) (by omega)).trans hP.2.1
          have hgy37 := (hfvy18 (883 + 1) (by omega)).trans hgy36
          have hgy38 := (hfvy23 (883 + 1) (by omega)).trans hgy37
          have hgy39 := (hfvy27 (883 + 1) (by omega)).trans hgy38
          refine z_iast C (lt_K hN (rfl : Nat.blt (883 + 1) 952 = true)) hay4 hgy39 ((sl).toNat) (by omega) (by omega) (by decide) dX7_readSlope_57 (fun gy40 egy41 => ?_)
          have hgy42 := up_s egy41
          refine z_aload_n C 3 dX7_readSlope_58 rfl ?_
          have hgy43 := up_n egy41 hgy35 (ne_o (i := 883) (c := 0) (d := 1) rfl)
          refine z_get (v := .ref (ad (883 + 2))) C (lt_K hN (rfl : Nat.blt (883) 952 = true)) hay3 hgy43 rfl inA_X5 4 (by decide) q_101 rfl rfl dX7_readSlope_59 ?_
          refine z_aload_n C 3 dX7_readSlope_62 rfl ?_
          refine z_get (v := .int (zI (sl))) C (lt_K hN (rfl : Nat.blt (883) 952 = true)) hay3 hgy43 rfl inA_X5 0 (by decide) q_89 rfl rfl dX7_readSlope_63 ?_
          refine z_iload_n C 0 dX7_readSlope_66 rfl ?_
          have hgy44 := (hfvy13 (883 + 2) (by omega)).trans hP.2.2.1
          have hgy45 := (hfvy18 (883 + 2) (by omega)).trans hgy44
          have hgy46 := (hfvy23 (883 + 2) (by omega)).trans hgy45
          have hgy47 := (hfvy27 (883 + 2) (by omega)).trans hgy46
          have hgy48 := up_n egy41 hgy47 (ne_o (i := 883) (c := 2) (d := 1) rfl)
          refine z_iast C (lt_K hN (rfl : Nat.blt (883 + 2) 952 = true)) hay5 hgy48 ((sl).toNat) (by omega) (by omega) (by decide) dX7_readSlope_67 (fun gy49 egy50 => ?_)
          have hgy51 := up_s egy50
          refine z_aload_n C 3 dX7_readSlope_68 rfl ?_
          refine z_dup C dX7_readSlope_69 rfl ?_
          have hgy52 := up_n egy50 hgy43 (ne_o (i := 883) (c := 0) (d := 2) rfl)
          refine z_get (v := .int (zI (sl))) C (lt_K hN (rfl : Nat.blt (883) 952 = true)) hay3 hgy52 rfl inA_X5 0 (by decide) q_89 rfl rfl dX7_readSlope_70 ?_
          refine z_iconst (z := 1) C dX7_readSlope_73 rfl ?_
          refine z_iadd C dX7_readSlope_74 ?_
          refine z_put (fs' := [.int (zI (sl + 1)), .int (zI (ho)), .int (zI (ua)), .ref (ad (883 + 1)), .ref (ad (883 + 2)), .ref (ad (883 + 3)), .ref (ad (883 + 4)), .ref (ad (883 + 5)), .ref (ad (883 + 6))]) C (lt_K hN (rfl : Nat.blt (883) 952 = true)) hay3 hgy52 tyX5 tyX5_ok nmX5 rfl inA_X5 0 (by decide) q_89 rfl rfl rfl rfl (Nat.le_of_ble_eq_true rfl) rfl dX7_readSlope_75 (fun gy53 egy54 => ?_)
          have hgy55 := up_s egy54
          have hgy56 := up_n egy41 hkvy27 (by omega)
          have hgy57 := up_n egy50 hgy56 (by omega)
          have hgy58 := up_n egy54 hgy57 (by decide)
          have hgy59 := (hfvy27 (1) (by decide)).trans hgy28
          have hgy60 := up_n egy41 hgy59 (by omega)
          have hgy61 := up_n egy50 hgy60 (by omega)
          have hgy62 := up_n egy54 hgy61 (by decide)
          have hgy63 := up_n egy50 hgy42 (ne_o (i := 883) (c := 1) (d := 2) rfl)
          have hgy64 := up_n egy54 hgy63 (ne_o (i := 883) (c := 1) (d := 0) rfl)
          have hgy65 := up_n egy54 hgy51 (ne_o (i := 883) (c := 2) (d := 0) rfl)
          have hgy66 := (hfvy13 (883 + 3) (by omega)).trans hP.2.2.2.1
          have hgy67 := (hfvy18 (883 + 3) (by omega)).trans hgy66
          have hgy68 := (hfvy23 (883 + 3) (by omega)).trans hgy67
          have hgy69 := (hfvy27 (883 + 3) (by omega)).trans hgy68
          have hgy70 := up_n egy41 hgy69 (ne_o (i := 883) (c := 3) (d := 1) rfl)
          have hgy71 := up_n egy50 hgy70 (ne_o (i := 883) (c := 3) (d := 2) rfl)
          have hgy72 := up_n egy54 hgy71 (ne_o (i := 883) (c := 3) (d := 0) rfl)
          have hgy73 := (hfvy13 (883 + 4) (by omega)).trans hP.2.2.2.2.1
          have hgy74 := (hfvy18 (883 + 4) (by omega)).trans hgy73
          have hgy75 := (hfvy23 (883 + 4) (by omega)).trans hgy74
          have hgy76 := (hfvy27 (883 + 4) (by omega)).trans hgy75
          have hgy77 := up_n egy41 hgy76 (ne_o (i := 883) (c := 4) (d := 1) rfl)
          have hgy78 := up_n egy50 hgy77 (ne_o (i := 883) (c := 4) (d := 2) rfl)
          have hgy79 := up_n egy54 hgy78 (ne_o (i := 883) (c := 4) (d := 0) rfl)
          have hgy80 := (hfvy13 (883 + 5) (by omega)).trans hP.2.2.2.2.2.1
          have hgy81 := (hfvy18 (883 + 5) (by omega)).trans hgy80
          have hgy82 := (hfvy23 (883 + 5) (by omega)).trans hgy81
          have hgy83 := (hfvy27 (883 + 5) (by omega)).trans hgy82
          have hgy84 := up_n egy41 hgy83 (ne_o (i := 883) (c := 5) (d := 1) rfl)
          have hgy85 := up_n egy50 hgy84 (ne_o (i := 883) (c := 5) (d := 2) rfl)
          have hgy86 := up_n egy54 hgy85 (ne_o (i := 883) (c := 5) (d := 0) rfl)
          have hgy87 := (hfvy13 (883 + 6) (by omega)).trans hP.2.2.2.2.2.2
          have hgy88 := (hfvy18 (883 + 6) (by omega)).trans hgy87
          have hgy89 := (hfvy23 (883 + 6) (by omega)).trans hgy88
          have hgy90 := (hfvy27 (883 + 6) (by omega)).trans hgy89
          have hgy91 := up_n egy41 hgy90 (ne_o (i := 883) (c := 6) (d := 1) rfl)
          have hgy92 := up_n egy50 hgy91 (ne_o (i := 883) (c := 6) (d := 2) rfl)
          have hgy93 := up_n egy54 hgy92 (ne_o (i := 883) (c := 6) (d := 0) rfl)
          exact z_vret C hr hlk dX7_readSlope_78 (by decide) (by decide) ⟨rfl, rfl, rfl, Or.inl ⟨_, by simp only [cl_fin, cl_slope, if_neg hscy11, hnvy18, hnvy23, if_pos hnvy27]; rfl, by show (f < n → f < (tk_nx T n (tk_nx T n (tk_nx T n (tk_nx T n f))))) ∧ (tk_nx T n (tk_nx T n (tk_nx T n (tk_nx T n f)))) ≤ n; omega, ⟨_, hgy58⟩, ⟨hgy55, hgy64, hgy65, hgy72, hgy79, hgy86, hgy93⟩⟩, fun j j1 j2 => by rw [egy54, va_up_ne _ _ (by omega)]; rw [egy50, va_up_ne _ _ (by omega)]; rw [egy41, va_up_ne _ _ (by omega)]; rw [hfvy27 _ (by omega)]; rw [hfvy23 _ (by omega)]; rw [hfvy18 _ (by omega)]; rw [hfvy13 _ (by omega)]⟩
        · obtain ⟨hnvy27, hkvy27⟩ := hvy27
          refine z_aload_n C 2 dX7_readSlope_41 rfl ?_
          refine z_get (v := .int (zI (1))) C (lt_K hN (rfl : Nat.blt (2) 952 = true)) hay1 hkvy27 rfl inA_X7 1 (by decide) q_45 rfl rfl dX7_readSlope_42 ?_
          refine z_if_ne (tgt := 78) C dX7_readSlope_45 (by decide) (by omega) (fun _ => ?_) (fun h => absurd h (by omega))
          have hgy94 := (hfvy27 (1) (by decide)).trans hgy28
          have hgy95 := (hfvy13 (883) (by decide)).trans hP.1
          have hgy96 := (hfvy18 (883) (by decide)).trans hgy95
          have hgy97 := (hfvy23 (883) (by decide)).trans hgy96
          have hgy98 := (hfvy27 (883) (by decide)).trans hgy97
          have hgy99 := (hfvy13 (883 + 1) (by omega)).trans hP.2.1
          have hgy100 := (hfvy18 (883 + 1) (by omega)).trans hgy99
          have hgy101 := (hfvy23 (883 + 1) (by omega)).trans hgy100
          have hgy102 := (hfvy27 (883 + 1) (by omega)).trans hgy101
          have hgy103 := (hfvy13 (883 + 2) (by omega)).trans hP.2.2.1
          have hgy104 := (hfvy18 (883 + 2) (by omega)).trans hgy103
          have hgy105 := (hfvy23 (883 + 2) (by omega)).trans hgy104
          have hgy106 := (hfvy27 (883 + 2) (by omega)).trans hgy105
          have hgy107 := (hfvy13 (883 + 3) (by omega)).trans hP.2.2.2.1
          have hgy108 := (hfvy18 (883 + 3) (by omega)).trans hgy107
          have hgy109 := (hfvy23 (883 + 3) (by omega)).trans hgy108
          have hgy110 := (hfvy27 (883 + 3) (by omega)).trans hgy109
          have hgy111 := (hfvy13 (883 + 4) (by omega)).trans hP.2.2.2.2.1
          have hgy112 := (hfvy18 (883 + 4) (by omega)).trans hgy111
          have hgy113 := (hfvy23 (883 + 4) (by omega)).trans hgy112
          have hgy114 := (hfvy27 (883 + 4) (by omega)).trans hgy113
          have hgy115 := (hfvy13 (883 + 5) (by omega)).trans hP.2.2.2.2.2.1
          have hgy116 := (hfvy18 (883 + 5) (by omega)).trans hgy115
          have hgy117 := (hfvy23 (883 + 5) (by omega)).trans hgy116
          have hgy118 := (hfvy27 (883 + 5) (by omega)).trans hgy117
          have hgy119 := (hfvy13 (883 + 6) (by omega)).trans hP.2.2.2.2.2.2
          have hgy120 := (hfvy18 (883 + 6) (by omega)).trans hgy119
          have hgy121 := (hfvy23 (883 + 6) (by omega)).trans hgy120
          have hgy122 := (hfvy27 (883 + 6) (by omega)).trans hgy121
          exact z_vret C hr hlk dX7_readSlope_78 (by decide) (by decide) ⟨rfl, rfl, rfl, Or.inr ⟨(1, (tk_nx T n (tk_nx T n (tk_nx T n f)))), by simp only [cl_fin, cl_slope, if_neg hscy11, hnvy18, hnvy23, if_neg hnvy27], ⟨by show 1 ≤ 1 ∧ 1 ≤ 5; omega, _, _, _, _, _, _, by omega, by omega, hkvy27, hgy94⟩, ⟨hgy98, hgy102, hgy106, hgy110, hgy114, hgy118, hgy122⟩⟩, fun j j1 j2 => by rw [hfvy27 _ (by omega)]; rw [hfvy23 _ (by omega)]; rw [hfvy18 _ (by omega)]; rw [hfvy13 _ (by omega)]⟩
      · obtain ⟨cvy23, hcvy23, hnvy23, rfl, hkvy23⟩ := hvy23
        refine z_istore_n (lv' := [(3, .int (zI (0))), (2, .int (zI (vy18))), (0, .ref (ad 2)), (1, .ref (ad 883))]) C dX7_readSlope_36 rfl (by decide) rfl ?_
        refine z_aload_n C 2 dX7_readSlope_37 rfl ?_
        refine z_cV (As := []) (rest := []) (ci := 9) C (c_fClose l D A cs tt N ad _ (by omega) _ _ _ _ _ _ _ _ (by omega) (by omega) hkvy23) (lt_K hN (rfl : Nat.blt (2) 952 = true)) hay1 hkvy23 rfl rfl mv_yX7_close q_821 hd_yX7_close (by decide) (Nat.le_of_ble_eq_true rfl) (by decide) dX7_readSlope_38 rfl (kV0 fun gvy123 hvy123 => ?_)
        obtain rfl := hvy123
        refine z_aload_n C 2 dX7_readSlope_41 rfl ?_
        refine z_get (v := .int (zI (cvy23))) C (lt_K hN (rfl : Nat.blt (2) 952 = true)) hay1 hkvy23 rfl inA_X7 1 (by decide) q_45 rfl rfl dX7_readSlope_42 ?_
        refine z_if_ne (tgt := 78) C dX7_readSlope_45 (by decide) (by omega) (fun _ => ?_) (fun h => absurd h (by omega))
        have hgy124 := (hfvy23 (1) (by decide)).trans hgy22
        have hgy125 := (hfvy13 (883) (by decide)).trans hP.1
        have hgy126 := (hfvy18 (883) (by decide)).trans hgy125
        have hgy127 := (hfvy23 (883) (by decide)).trans hgy126
        have hgy128 := (hfvy13 (883 + 1) (by omega)).trans hP.2.1
        have hgy129 := (hfvy18 (883 + 1) (by omega)).trans hgy128
        have hgy130 := (hfvy23 (883 + 1) (by omega)).trans hgy129
        have hgy131 := (hfvy13 (883 + 2) (by omega)).trans hP.2.2.1
        have hgy132 := (hfvy18 (883 + 2) (by omega)).trans hgy131
        have hgy133 := (hfvy23 (883 + 2) (by omega)).trans hgy132
        have hgy134 := (hfvy13 (883 + 3) (by omega)).trans hP.2.2.2.1
        have hgy135 := (hfvy18 (883 + 3) (by omega)).trans hgy134
        have hgy136 := (hfvy23 (883 + 3) (by omega)).trans hgy135
        have hgy137 := (hfvy13 (883 + 4) (by omega)).trans hP.2.2.2.2.1
        have hgy138 := (hfvy18 (883 + 4) (by omega)).trans hgy137
        have hgy139 := (hfvy23 (883 + 4) (by omega)).trans hgy138
        have hgy140 := (hfvy13 (883 + 5) (by omega)).trans hP.2.2.2.2.2.1
        have hgy141 := (hfvy18 (883 + 5) (by omega)).trans hgy140
        have hgy142 := (hfvy23 (883 + 5) (by omega)).trans hgy141
        have hgy143 := (hfvy13 (883 + 6) (by omega)).trans hP.2.2.2.2.2.2
        have hgy144 := (hfvy18 (883 + 6) (by omega)).trans hgy143
        have hgy145 := (hfvy23 (883 + 6) (by omega)).trans hgy144
        exact z_vret C hr hlk dX7_readSlope_78 (by decide) (by decide) ⟨rfl, rfl, rfl, Or.inr ⟨(cvy23, (tk_nx T n (tk_nx T n f))), by simp only [cl_fin, cl_slope, if_neg hscy11, hnvy18, hnvy23], ⟨by show 1 ≤ cvy23 ∧ cvy23 ≤ 5; omega, _, _, _, _, _, _, by omega, by omega, hkvy23, hgy124⟩, ⟨hgy127, hgy130, hgy133, hgy136, hgy139, hgy142, hgy145⟩⟩, fun j j1 j2 => by rw [hfvy23 _ (by omega)]; rw [hfvy18 _ (by omega)]; rw [hfvy13 _ (by omega)]⟩
    · obtain ⟨cvy18, hcvy18, hnvy18, rfl, hkvy18⟩ := hvy18
      refine z_istore_n (lv' := [(2, .int (zI (0))), (0, .ref (ad 2)), (1, .ref (ad 883))]) C dX7_readSlope_28 rfl (by decide) rfl ?_
      refine z_aload_n C 1 dX7_readSlope_29 rfl ?_
      refine z_iconst (z := 0) C dX7_readSlope_30 rfl ?_
      refine z_bipush (z := 20) C dX7_readSlope_31 (by decide) ?_
      have hgy147 := (hfvy18 (1) (by decide)).trans hgy17
      have hruny146 : okRun cs ad gvy18 (cvy18) tp := ⟨_, _, _, _, _, _, _, by omega, by omega, hkvy18, hgy147⟩
      refine z_cV (As := [.int (zI (0)), .int (zI (20))]) (rest := []) (ci := 9) C (c_fNumber l D A cs tt N ad _ (by omega) _ tp hruny146 (by omega) (0) (by omega) (20) (by omega)) (lt_K hN (rfl : Nat.blt (2) 952 = true)) hay1 hkvy18 rfl rfl mv_yX7_number q_817 hd_yX7_number (by decide) (Nat.le_of_ble_eq_true rfl) (by decide) dX7_readSlope_33 rfl (kI0 fun vy148 gvy148 hvy148 => ?_)
      obtain ⟨hvy148, rfl⟩ := hvy148
      refine z_istore_n (lv' := [(3, .int (zI (vy148))), (2, .int (zI (0))), (0, .ref (ad 2)), (1, .ref (ad 883))]) C dX7_readSlope_36 rfl (by decide) rfl ?_
      refine z_aload_n C 2 dX7_readSlope_37 rfl ?_
      refine z_cV (As := []) (rest := []) (ci := 9) C (c_fClose l D A cs tt N ad _ (by omega) _ _ _ _ _ _ _ _ (by omega) (by omega) hkvy18) (lt_K hN (rfl : Nat.blt (2) 952 = true)) hay1 hkvy18 rfl rfl mv_yX7_close q_821 hd_yX7_close (by decide) (Nat.le_of_ble_eq_true rfl) (by decide) dX7_readSlope_38 rfl (kV0 fun gvy149 hvy149 => ?_)
      obtain rfl := hvy149
      refine z_aload_n C 2 dX7_readSlope_41 rfl ?_
      refine z_get (v := .int (zI (cvy18))) C (lt_K hN (rfl : Nat.blt (2) 952 = true)) hay1 hkvy18 rfl inA_X7 1 (by decide) q_45 rfl rfl dX7_readSlope_42 ?_
      refine z_if_ne (tgt := 78) C dX7_readSlope_45 (by decide) (by omega) (fun _ => ?_) (fun h => absurd h (by omega))
      have hgy150 := (hfvy13 (883) (by decide)).trans hP.1
      have hgy151 := (hfvy18 (883) (by decide)).trans hgy150
      have hgy152 := (hfvy13 (883 + 1) (by omega)).trans hP.2.1
      have hgy153 := (hfvy18 (883 + 1) (by omega)).trans hgy152
      have hgy154 := (hfvy13 (883 + 2) (by omega)).trans hP.2.2.1
      have hgy155 := (hfvy18 (883 + 2) (by omega)).trans hgy154
      have hgy156 := (hfvy13 (883 + 3) (by omega)).trans hP.2.2.2.1
      have hgy157 := (hfvy18 (883 + 3) (by omega)).trans hgy156
      have hgy158 := (hfvy13 (883 + 4) (by omega)).trans hP.2.2.2.2.1
      have hgy159 := (hfvy18 (883 + 4) (by omega)).trans hgy158
      have hgy160 := (hfvy13 (883 + 5) (by omega)).trans hP.2.2.2.2.2.1
      have hgy161 := (hfvy18 (883 + 5) (by omega)).trans hgy160
      have hgy162 := (hfvy13 (883 + 6) (by omega)).trans hP.2.2.2.2.2.2
      have hgy163 := (hfvy18 (883 + 6) (by omega)).trans hgy162
      exact z_vret C hr hlk dX7_readSlope_78 (by decide) (by decide) ⟨rfl, rfl, rfl, Or.inr ⟨(cvy18, (tk_nx T n f)), by simp only [cl_fin, cl_slope, if_neg hscy11, hnvy18], ⟨by show 1 ≤ cvy18 ∧ cvy18 ≤ 5; omega, _, _, _, _, _, _, by omega, by omega, hkvy18, hgy147⟩, ⟨hgy151, hgy153, hgy155, hgy157, hgy159, hgy161, hgy163⟩⟩, fun j j1 j2 => by rw [hfvy18 _ (by omega)]; rw [hfvy13 _ (by omega)]⟩
  · have hscy12 : (4 ≤ sl) := by omega
    refine z_aload_n C 0 dX7_readSlope_8 rfl ?_
    refine z_iconst (z := 2) C dX7_readSlope_9 rfl ?_
    refine z_aload_n C 0 dX7_readSlope_10 rfl ?_
    refine z_get (v := .int (zI ((f : Int)))) C (lt_K hN (rfl : Nat.blt (2) 952 = true)) hay1 hg2 rfl inA_X7 5 (by decide) q_49 rfl rfl dX7_readSlope_11 ?_
    refine z_cV (As := [.int (zI (2)), .int (zI ((f : Int)))]) (rest := []) (ci := 9) C (c_xFail l D A cs tt N ad _ (by omega) _ _ _ _ _ _ _ hg2 (2) ((f : Int))) (lt_K hN (rfl : Nat.blt (2) 952 = true)) hay1 hg2 rfl rfl mv_yX7_fail q_809 hd_yX7_fail (by decide) (Nat.le_of_ble_eq_true rfl) (by decide) dX7_readSlope_14 rfl (kV0 fun gvy164 hvy164 => ?_)
    obtain ⟨hkvy164, hfvy164⟩ := hvy164
    refine z_aload_n C 0 dX7_readSlope_17 rfl ?_
    refine z_cV (As := []) (rest := []) (ci := 9) C (c_fTake l D A cs tt N ad _ (by omega) _ _ _ _ _ _ _ _ (by omega) hkvy164) (lt_K hN (rfl : Nat.blt (2) 952 = true)) hay1 hkvy164 rfl rfl mv_yX7_take q_813 hd_yX7_take (by decide) (Nat.le_of_ble_eq_true rfl) (by decide) dX7_readSlope_18 rfl (kV0 fun gvy165 hvy165 => ?_)
    obtain rfl := hvy165
    refine z_aload_n C 0 dX7_readSlope_21 rfl ?_
    refine z_iconst (z := 0) C dX7_readSlope_22 rfl ?_
    refine z_bipush (z := 90) C dX7_readSlope_23 (by decide) ?_
    have hgy167 := (hfvy164 (1) (by decide)).trans hg1
    have hruny166 : okRun cs ad gvy164 (2) tp := ⟨_, _, _, _, _, _, _, by omega, by omega, hkvy164, hgy167⟩
    refine z_cV (As := [.int (zI (0)), .int (zI (90))]) (rest := []) (ci := 9) C (c_fNumber l D A cs tt N ad _ (by omega) _ tp hruny166 (by omega) (0) (by omega) (90) (by omega)) (lt_K hN (rfl : Nat.blt (2) 952 = true)) hay1 hkvy164 rfl rfl mv_yX7_number q_817 hd_yX7_number (by decide) (Nat.le_of_ble_eq_true rfl) (by decide) dX7_readSlope_25 rfl (kI0 fun vy168 gvy168 hvy168 => ?_)
    obtain ⟨hvy168, rfl⟩ := hvy168
    refine z_istore_n (lv' := [(2, .int (zI (vy168))), (0, .ref (ad 2)), (1, .ref (ad 883))]) C dX7_readSlope_28 rfl (by decide) rfl ?_
    refine z_aload_n C 1 dX7_readSlope_29 rfl ?_
    refine z_iconst (z := 0) C dX7_readSlope_30 rfl ?_
    refine z_bipush (z := 20) C dX7_readSlope_31 (by decide) ?_
    have hruny169 : okRun cs ad gvy164 (2) tp := ⟨_, _, _, _, _, _, _, by omega, by omega, hkvy164, hgy167⟩
    refine z_cV (As := [.int (zI (0)), .int (zI (20))]) (rest := []) (ci := 9) C (c_fNumber l D A cs tt N ad _ (by omega) _ tp hruny169 (by omega) (0) (by omega) (20) (by omega)) (lt_K hN (rfl : Nat.blt (2) 952 = true)) hay1 hkvy164 rfl rfl mv_yX7_number q_817 hd_yX7_number (by decide) (Nat.le_of_ble_eq_true rfl) (by decide) dX7_readSlope_33 rfl (kI0 fun vy170 gvy170 hvy170 => ?_)
    obtain ⟨hvy170, rfl⟩ := hvy170
    refine z_istore_n (lv' := [(3, .int (zI (vy170))), (2, .int (zI (vy168))), (0, .ref (ad 2)), (1, .ref (ad 883))]) C dX7_readSlope_36 rfl (by decide) rfl ?_
    refine z_aload_n C 2 dX7_readSlope_37 rfl ?_
    refine z_cV (As := []) (rest := []) (ci := 9) C (c_fClose l D A cs tt N ad _ (by omega) _ _ _ _ _ _ _ _ (by omega) (by omega) hkvy164) (lt_K hN (rfl : Nat.blt (2) 952 = true)) hay1 hkvy164 rfl rfl mv_yX7_close q_821 hd_yX7_close (by decide) (Nat.le_of_ble_eq_true rfl) (by decide) dX7_readSlope_38 rfl (kV0 fun gvy171 hvy171 => ?_)
    obtain rfl := hvy171
    refine z_aload_n C 2 dX7_readSlope_41 rfl ?_
    refine z_get (v := .int (zI (2))) C (lt_K hN (rfl : Nat.blt (2) 952 = true)) hay1 hkvy164 rfl inA_X7 1 (by decide) q_45 rfl rfl dX7_readSlope_42 ?_
    refine z_if_ne (tgt := 78) C dX7_readSlope_45 (by decide) (by omega) (fun _ => ?_) (fun h => absurd h (by omega))
    have hgy172 := (hfvy164 (883) (by decide)).trans hP.1
    have hgy173 := (hfvy164 (883 + 1) (by omega)).trans hP.2.1
    have hgy174 := (hfvy164 (883 + 2) (by omega)).trans hP.2.2.1
    have hgy175 := (hfvy164 (883 + 3) (by omega)).trans hP.2.2.2.1
    have hgy176 := (hfvy164 (883 + 4) (by omega)).trans hP.2.2.2.2.1
    have hgy177 := (hfvy164 (883 + 5) (by omega)).trans hP.2.2.2.2.2.1
    have hgy178 := (hfvy164 (883 + 6) (by omega)).trans hP.2.2.2.2.2.2
    exact z_vret C hr hlk dX7_readSlope_78 (by decide) (by decide) ⟨rfl, rfl, rfl, Or.inr ⟨(2, f), by simp only [cl_fin, cl_slope, if_pos hscy12], ⟨by show 1 ≤ 2 ∧ 2 ≤ 5; omega, _, _, _, _, _, _, by omega, by omega, hkvy164, hgy167⟩, ⟨hgy172, hgy173, hgy174, hgy175, hgy176, hgy177, hgy178⟩⟩, fun j j1 j2 => by rw [hfvy164 _ (by omega)]⟩

set_option maxRecDepth 100000 in
set_option maxHeartbeats 4000000 in
theorem c_xHour (l : Launch) (D : va_G) (A : Nat → Prop) (cs : Nat → ClassId) (tt : Nat) (N : Nat) (ad : Nat → Nat) (g : Nat → va_E) (hN : 952 ≤ N) (pl tk td : Int) (tp T : Nat → Int) (hT : xT tp T) (n : Nat) (hn : n ≤ 900) (f : Nat) (hf : f ≤ n) (hg2 : g 2 = rdC ad (pl) (0) ((n : Int)) (tk_so T n f) ((f : Int)) (((tk_to T n f : Nat) : Int)) (tk) (td)) (hg1 : g 1 = bA cs 900 tp) (sl ho ua : Int) (st op ai fa mu tb : Nat → Int) (hP : isPlan cs ad g 883 sl ho ua st op ai fa mu tb) (hsl : 0 ≤ sl ∧ sl ≤ 4) (hho : 0 ≤ ho ∧ ho ≤ 24) : zM l yX7_readHour cX7_readHour 6 none ({ frames := 7, cells := 0, slots := 0, locals := 420 } : Room) D A cs tt N ad g [.ref (ad 2), .ref (ad 883)] (rV0 N ad fun g' => ((∃ v, cl_fin T n (cl_hour T n ho f) = .ok v ∧ ((f < n → f < v.2) ∧ v.2 ≤ n) ∧ (∃ tk' : Int, g' 2 = rdC ad (pl) (0) ((n : Int)) (tk_so T n v.2) ((v.2 : Int)) (((tk_to T n v.2 : Nat) : Int)) (tk') (td)) ∧ isPlan cs ad g' 883 sl (ho + 1) ua st op (uZ ai (ho).toNat v.1.1) (uZ fa (ho).toNat v.1.2.1) (uZ mu (ho).toNat v.1.2.2) tb) ∨ (∃ e : Int × Nat, cl_fin T n (cl_hour T n ho f) = .error e ∧ xFl cs ad g' e.1 (e.2 : Int) tp ∧ isPlan cs ad g' 883 sl ho ua st op ai fa mu tb)) ∧ ∀ j, j ≠ 2 → (j < 883 ∨ 890 ≤ j) → g' j = g j) := by
  have hay1 : zAt ad (2) (ad 2) := rfl
  have hay2 : zAt ad (1) (ad 1) := rfl
  have hTr : ∀ k, k < 900 → -128 ≤ tp k ∧ tp k ≤ 127 := fun k hk => (hT k hk).2.1
  have hsb := tk_so_b T n f
  have htb := tk_to_b (T := T) hf
  have hay3 : zAt ad (883) (ad 883) := rfl
  have hay4 : zAt ad (883 + 1) (ad (883 + 1)) := rfl
  have hay5 : zAt ad (883 + 2) (ad (883 + 2)) := rfl
  have hay6 : zAt ad (883 + 3) (ad (883 + 3)) := rfl
  have hay7 : zAt ad (883 + 4) (ad (883 + 4)) := rfl
  have hay8 : zAt ad (883 + 5) (ad (883 + 5)) := rfl
  have hay9 : zAt ad (883 + 6) (ad (883 + 6)) := rfl
  refine z_of (by decide) (Nat.le_of_ble_eq_true rfl) ?_
  intro p e s m below meth c C hr hlk hnm
  refine z_lv (lv' := [(0, .ref (ad 2)), (1, .ref (ad 883))]) [0, 1] rfl ?_
  refine z_aload_n C 1 dX7_readHour_0 rfl ?_
  refine z_get (v := .int (zI (ho))) C (lt_K hN (rfl : Nat.blt (883) 952 = true)) hay3 hP.1 rfl inA_X5 1 (by decide) q_94 rfl rfl dX7_readHour_1 ?_
  refine z_bipush (z := 24) C dX7_readHour_4 (by decide) ?_
  refine z_icmp_lt (tgt := 18) C dX7_readHour_6 (by decide) (by omega) (by omega) (fun hby10 => ?_) (fun hby10 => ?_)
  · have hscy11 : ¬ (24 ≤ ho) := by omega
    refine z_aload_n C 0 dX7_readHour_18 rfl ?_
    refine z_cV (As := []) (rest := []) (ci := 9) C (c_xTake l D A cs tt N ad _ (by omega) _ _ _ tp T hT n hn f (by omega) hg2 hg1) (lt_K hN (rfl : Nat.blt (2) 952 = true)) hay1 hg2 rfl rfl mv_yX7_take q_813 hd_yX7_take (by decide) (Nat.le_of_ble_eq_true rfl) (by decide) dX7_readHour_19 rfl (kV0 fun gvy13 hvy13 => ?_)
    obtain ⟨hkvy13, hfvy13⟩ := hvy13
    have hnby14 := tk_nx_b (T := T) (n := n) (f := f) (by omega)
    have hsby15 := tk_so_b T n (tk_nx T n f)
    have htby16 := tk_to_b (T := T) (n := n) (f := (tk_nx T n f)) (by omega)
    refine z_aload_n C 0 dX7_readHour_22 rfl ?_
    refine z_get (v := .int (zI (tk_so T n (tk_nx T n f)))) C (lt_K hN (rfl : Nat.blt (2) 952 = true)) hay1 hkvy13 rfl inA_X7 4 (by decide) q_48 rfl rfl dX7_readHour_23 ?_
    refine z_iconst (z := 4) C dX7_readHour_26 rfl ?_
    refine z_icmp_ne (tgt := 34) C dX7_readHour_27 (by decide) (by omega) (by omega) (fun hby17 => ?_) (fun hby17 => ?_)
    · have hscy18 : ¬ (tk_so T n (tk_nx T n f) = 4) := by omega
      refine z_iconst (z := 0) C dX7_readHour_34 rfl ?_
      refine z_istore_n (lv' := [(2, .int (zI (0))), (0, .ref (ad 2)), (1, .ref (ad 883))]) C dX7_readHour_35 rfl (by decide) rfl ?_
      refine z_iload_n C 0 dX7_readHour_36 rfl ?_
      refine z_if_eq (tgt := 44) C dX7_readHour_37 (by decide) (by omega) (fun _ => ?_) (fun h => absurd h (by omega))
      refine z_aload_n C 1 dX7_readHour_44 rfl ?_
      refine z_iconst (z := 0) C dX7_readHour_45 rfl ?_
      refine z_iload_n C 0 dX7_readHour_46 rfl ?_
      refine z_if_eq (tgt := 56) C dX7_readHour_47 (by decide) (by omega) (fun _ => ?_) (fun h => absurd h (by omega))
      refine z_bipush (z := 100) C dX7_readHour_56 (by decide) ?_
      have hgy19 := (hfvy13 (1) (by decide)).trans hg1
      refine z_cV (As := [.int (zI (0)), .int (zI (100))]) (rest := []) (ci := 9) C (c_xNumber l D A cs tt N ad _ (by omega) _ _ _ tp T hT n hn (tk_nx T n f) (by omega) hkvy13 hgy19 (0) (100) (by omega)) (lt_K hN (rfl : Nat.blt (2) 952 = true)) hay1 hkvy13 rfl rfl mv_yX7_number q_817 hd_yX7_number (by decide) (Nat.le_of_ble_eq_true rfl) (by decide) dX7_readHour_58 rfl (kI0 fun vy20 gvy20 hvy20 => ?_)
      obtain ⟨hvy20, hfvy20⟩ := hvy20
      rcases hvy20 with hvy20 | hvy20
      · obtain ⟨hnvy20, hrvy20, hkvy20⟩ := hvy20
        have hnby21 := tk_nx_b (T := T) (n := n) (f := (tk_nx T n f)) (by omega)
        have hsby22 := tk_so_b T n (tk_nx T n (tk_nx T n f))
        have htby23 := tk_to_b (T := T) (n := n) (f := (tk_nx T n (tk_nx T n f))) (by omega)
        refine z_istore_n (lv' := [(3, .int (zI (vy20))), (2, .int (zI (0))), (0, .ref (ad 2)), (1, .ref (ad 883))]) C dX7_readHour_61 rfl (by decide) rfl ?_
        refine z_aload_n C 2 dX7_readHour_62 rfl ?_
        have hgy24 := (hfvy20 (1) (by decide)).trans hgy19
        refine z_cV (As := []) (rest := []) (ci := 9) C (c_xFall l D A cs tt N ad _ (by omega) _ _ _ tp T hT n hn (tk_nx T n (tk_nx T n f)) (by omega) hkvy20 hgy24) (lt_K hN (rfl : Nat.blt (2) 952 = true)) hay1 hkvy20 rfl rfl mv_yX7_readFall q_848 hd_yX7_readFall (by decide) (Nat.le_of_ble_eq_true rfl) (by decide) dX7_readHour_63 rfl (kI0 fun vy25 gvy25 hvy25 => ?_)
        obtain ⟨hvvy25, hbvy25, hvy25, hfvy25⟩ := hvy25
        rcases hvy25 with hvy25 | hvy25
        · obtain ⟨rfl, hkvy25⟩ := hvy25
          refine z_istore (lv' := [(4, .int (zI (0))), (3, .int (zI (vy20))), (2, .int (zI (0))), (0, .ref (ad 2)), (1, .ref (ad 883))]) C dX7_readHour_66 (by decide) rfl ?_
          refine z_iload C 0 dX7_readHour_68 rfl ?_
          refine z_iconst (z := 1) C dX7_readHour_70 rfl ?_
          refine z_icmp_eq (tgt := 80) C dX7_readHour_71 (by decide) (by omega) (by omega) (fun h => absurd h (by omega)) (fun _ => ?_)
          refine z_iload C 0 dX7_readHour_74 rfl ?_
          refine z_iconst (z := 2) C dX7_readHour_76 rfl ?_
          refine z_icmp_ne (tgt := 90) C dX7_readHour_77 (by decide) (by omega) (by omega) (fun _ => ?_) (fun h => absurd h (by omega))
          refine z_iconst (z := 0) C dX7_readHour_90 rfl ?_
          refine z_istore (lv' := [(5, .int (zI (0))), (4, .int (zI (0))), (3, .int (zI (vy20))), (2, .int (zI (0))), (0, .ref (ad 2)), (1, .ref (ad 883))]) C dX7_readHour_91 (by decide) rfl ?_
          refine z_aload_n C 4 dX7_readHour_93 rfl ?_
          have hgy27 := (hfvy25 (1) (by decide)).trans hgy24
          refine z_cV (As := []) (rest := []) (ci := 9) C (c_xClose l D A cs tt N ad _ (by omega) _ _ _ tp T hT n hn (tk_nx T n (tk_nx T n f)) (by omega) hkvy25 hgy27) (lt_K hN (rfl : Nat.blt (2) 952 = true)) hay1 hkvy25 rfl rfl mv_yX7_close q_821 hd_yX7_close (by decide) (Nat.le_of_ble_eq_true rfl) (by decide) dX7_readHour_94 rfl (kV0 fun gvy26 hvy26 => ?_)
          obtain ⟨hvy26, hfvy26⟩ := hvy26
          rcases hvy26 with hvy26 | hvy26
          · obtain ⟨hnvy26, hkvy26⟩ := hvy26
            have hnby28 := tk_nx_b (T := T) (n := n) (f := (tk_nx T n (tk_nx T n f))) (by omega)
            have hsby29 := tk_so_b T n (tk_nx T n (tk_nx T n (tk_nx T n f)))
            have htby30 := tk_to_b (T := T) (n := n) (f := (tk_nx T n (tk_nx T n (tk_nx T n f)))) (by omega)
            refine z_aload_n C 4 dX7_readHour_97 rfl ?_
            refine z_get (v := .int (zI (0))) C (lt_K hN (rfl : Nat.blt (2) 952 = true)) hay1 hkvy26 rfl inA_X7 1 (by decide) q_45 rfl rfl dX7_readHour_98 ?_
            refine z_if_ne (tgt := 155) C dX7_readHour_101 (by decide) (by omega) (fun h => absurd h (by omega)) (fun _ => ?_)
            refine z_aload_n C 5 dX7_readHour_104 rfl ?_
            have hgy31 := (hfvy13 (883) (by decide)).trans hP.1
            have hgy32 := (hfvy20 (883) (by decide)).trans hgy31
            have hgy33 := (hfvy25 (883) (by decide)).trans hgy32
            have hgy34 := (hfvy26 (883) (by decide)).trans hgy33
            refine z_get (v := .ref (ad (883 + 3))) C (lt_K hN (rfl : Nat.blt (883) 952 = true)) hay3 hgy34 rfl inA_X5 5 (by decide) q_106 rfl rfl dX7_readHour_105 ?_
            refine z_aload_n C 5 dX7_readHour_108 rfl ?_
            refine z_get (v := .int (zI (ho))) C (lt_K hN (rfl : Nat.blt (883) 952 = true)) hay3 hgy34 rfl inA_X5 1 (by decide) q_94 rfl rfl dX7_readHour_109 ?_
            refine z_iload_n C 3 dX7_readHour_112 rfl ?_
            refine z_if_eq (tgt := 121) C dX7_readHour_113 (by decide) (by omega) (fun _ => ?_) (fun h => absurd h (by omega))
            refine z_iload_n C 2 dX7_readHour_121 rfl ?_
            have hgy35 := (hfvy13 (883 + 3) (by omega)).trans hP.2.2.2.1
            have hgy36 := (hfvy20 (883 + 3) (by omega)).trans hgy35
            have hgy37 := (hfvy25 (883 + 3) (by omega)).trans hgy36
            have hgy38 := (hfvy26 (883 + 3) (by omega)).trans hgy37
            refine z_iast C (lt_K hN (rfl : Nat.blt (883 + 3) 952 = true)) hay6 hgy38 ((ho).toNat) (by omega) (by omega) (by decide) dX7_readHour_122 (fun gy39 egy40 => ?_)
            have hgy41 := up_s egy40
            refine z_aload_n C 5 dX7_readHour_123 rfl ?_
            have hgy42 := up_n egy40 hgy34 (ne_o (i := 883) (c := 0) (d := 3) rfl)
            refine z_get (v := .ref (ad (883 + 4))) C (lt_K hN (rfl : Nat.blt (883) 952 = true)) hay3 hgy42 rfl inA_X5 6 (by decide) q_109 rfl rfl dX7_readHour_124 ?_
            refine z_aload_n C 5 dX7_readHour_127 rfl ?_
            refine z_get (v := .int (zI (ho))) C (lt_K hN (rfl : Nat.blt (883) 952 = true)) hay3 hgy42 rfl inA_X5 1 (by decide) q_94 rfl rfl dX7_readHour_128 ?_
            refine z_iload C 1 dX7_readHour_131 rfl ?_
            have hgy43 := (hfvy13 (883 + 4) (by omega)).trans hP.2.2.2.2.1
            have hgy44 := (hfvy20 (883 + 4) (by omega)).trans hgy43
            have hgy45 := (hfvy25 (883 + 4) (by omega)).trans hgy44
            have hgy46 := (hfvy26 (883 + 4) (by omega)).trans hgy45
            have hgy47 := up_n egy40 hgy46 (ne_o (i := 883) (c := 4) (d := 3) rfl)
            refine z_iast C (lt_K hN (rfl : Nat.blt (883 + 4) 952 = true)) hay7 hgy47 ((ho).toNat) (by omega) (by omega) (by decide) dX7_readHour_133 (fun gy48 egy49 => ?_)
            have hgy50 := up_s egy49
            refine z_aload_n C 5 dX7_readHour_134 rfl ?_
            have hgy51 := up_n egy49 hgy42 (ne_o (i := 883) (c := 0) (d := 4) rfl)
            refine z_get (v := .ref (ad (883 + 5))) C (lt_K hN (rfl : Nat.blt (883) 952 = true)) hay3 hgy51 rfl inA_X5 7 (by decide) q_112 rfl rfl dX7_readHour_135 ?_
            refine z_aload_n C 5 dX7_readHour_138 rfl ?_
            refine z_get (v := .int (zI (ho))) C (lt_K hN (rfl : Nat.blt (883) 952 = true)) hay3 hgy51 rfl inA_X5 1 (by decide) q_94 rfl rfl dX7_readHour_139 ?_
            refine z_iload C 0 dX7_readHour_142 rfl ?_
            have hgy52 := (hfvy13 (883 + 5) (by omega)).trans hP.2.2.2.2.2.1
            have hgy53 := (hfvy20 (883 + 5) (by omega)).trans hgy52
            have hgy54 := (hfvy25 (883 + 5) (by omega)).trans hgy53
            have hgy55 := (hfvy26 (883 + 5) (by omega)).trans hgy54
            have hgy56 := up_n egy40 hgy55 (ne_o (i := 883) (c := 5) (d := 3) rfl)
            have hgy57 := up_n egy49 hgy56 (ne_o (i := 883) (c := 5) (d := 4) rfl)
            refine z_iast C (lt_K hN (rfl : Nat.blt (883 + 5) 952 = true)) hay8 hgy57 ((ho).toNat) (by omega) (by omega) (by decide) dX7_readHour_144 (fun gy58 egy59 => ?_)
            have hgy60 := up_s egy59
            refine z_aload_n C 5 dX7_readHour_145 rfl ?_
            refine z_dup C dX7_readHour_146 rfl ?_
            have hgy61 := up_n egy59 hgy51 (ne_o (i := 883) (c := 0) (d := 5) rfl)
            refine z_get (v := .int (zI (ho))) C (lt_K hN (rfl : Nat.blt (883) 952 = true)) hay3 hgy61 rfl inA_X5 1 (by decide) q_94 rfl rfl dX7_readHour_147 ?_
            refine z_iconst (z := 1) C dX7_readHour_150 rfl ?_
            refine z_iadd C dX7_readHour_151 ?_
            refine z_put (fs' := [.int (zI (sl)), .int (zI (ho + 1)), .int (zI (ua)), .ref (ad (883 + 1)), .ref (ad (883 + 2)), .ref (ad (883 + 3)), .ref (ad (883 + 4)), .ref (ad (883 + 5)), .ref (ad (883 + 6))]) C (lt_K hN (rfl : Nat.blt (883) 952 = true)) hay3 hgy61 tyX5 tyX5_ok nmX5 rfl inA_X5 1 (by decide) q_94 rfl rfl rfl rfl (Nat.le_of_ble_eq_true rfl) rfl dX7_readHour_152 (fun gy62 egy63 => ?_)
            have hgy64 := up_s egy63
            have hgy65 := up_n egy40 hkvy26 (by omega)
            have hgy66 := up_n egy49 hgy65 (by omega)
            have hgy67 := up_n egy59 hgy66 (by omega)
            have hgy68 := up_n egy63 hgy67 (by decide)
            have hgy69 := (hfvy26 (1) (by decide)).trans hgy27
            have hgy70 := up_n egy40 hgy69 (by omega)
            have hgy71 := up_n egy49 hgy70 (by omega)
            have hgy72 := up_n egy59 hgy71 (by omega)
            have hgy73 := up_n egy63 hgy72 (by decide)
            have hgy74 := (hfvy13 (883 + 1) (by omega)).trans hP.2.1
            have hgy75 := (hfvy20 (883 + 1) (by omega)).trans hgy74
            have hgy76 := (hfvy25 (883 + 1) (by omega)).trans hgy75
            have hgy77 := (hfvy26 (883 + 1) (by omega)).trans hgy76
            have hgy78 := up_n egy40 hgy77 (ne_o (i := 883) (c := 1) (d := 3) rfl)
            have hgy79 := up_n egy49 hgy78 (ne_o (i := 883) (c := 1) (d := 4) rfl)
            have hgy80 := up_n egy59 hgy79 (ne_o (i := 883) (c := 1) (d := 5) rfl)
            have hgy81 := up_n egy63 hgy80 (ne_o (i := 883) (c := 1) (d := 0) rfl)
            have hgy82 := (hfvy13 (883 + 2) (by omega)).trans hP.2.2.1
            have hgy83 := (hfvy20 (883 + 2) (by omega)).trans hgy82
            have hgy84 := (hfvy25 (883 + 2) (by omega)).trans hgy83
            have hgy85 := (hfvy26 (883 + 2) (by omega)).trans hgy84
            have hgy86 := up_n egy40 hgy85 (ne_o (i := 883) (c := 2) (d := 3) rfl)
            have hgy87 := up_n egy49 hgy86 (ne_o (i := 883) (c := 2) (d := 4) rfl)
            have hgy88 := up_n egy59 hgy87 (ne_o (i := 883) (c := 2) (d := 5) rfl)
            have hgy89 := up_n egy63 hgy88 (ne_o (i := 883) (c := 2) (d := 0) rfl)
            have hgy90 := up_n egy49 hgy41 (ne_o (i := 883) (c := 3) (d := 4) rfl)
            have hgy91 := up_n egy59 hgy90 (ne_o (i := 883) (c := 3) (d := 5) rfl)
            have hgy92 := up_n egy63 hgy91 (ne_o (i := 883) (c := 3) (d := 0) rfl)
            have hgy93 := up_n egy59 hgy50 (ne_o (i := 883) (c := 4) (d := 5) rfl)
            have hgy94 := up_n egy63 hgy93 (ne_o (i := 883) (c := 4) (d := 0) rfl)
            have hgy95 := up_n egy63 hgy60 (ne_o (i := 883) (c := 5) (d := 0) rfl)
            have hgy96 := (hfvy13 (883 + 6) (by omega)).trans hP.2.2.2.2.2.2
            have hgy97 := (hfvy20 (883 + 6) (by omega)).trans hgy96
            have hgy98 := (hfvy25 (883 + 6) (by omega)).trans hgy97
            have hgy99 := (hfvy26 (883 + 6) (by omega)).trans hgy98
            have hgy100 := up_n egy40 hgy99 (ne_o (i := 883) (c := 6) (d := 3) rfl)
            have hgy101 := up_n egy49 hgy100 (ne_o (i := 883) (c := 6) (d := 4) rfl)
            have hgy102 := up_n egy59 hgy101 (ne_o (i := 883) (c := 6) (d := 5) rfl)
            have hgy103 := up_n egy63 hgy102 (ne_o (i := 883) (c := 6) (d := 0) rfl)
            exact z_vret C hr hlk dX7_readHour_155 (by decide) (by decide) ⟨rfl, rfl, rfl, Or.inl ⟨_, by simp only [cl_fin, cl_hour, cl_hour2, if_neg hscy11, if_neg hscy18, hnvy20, if_pos hvvy25.symm, if_pos hnvy26]; rfl, by show (f < n → f < (tk_nx T n (tk_nx T n (tk_nx T n f)))) ∧ (tk_nx T n (tk_nx T n (tk_nx T n f))) ≤ n; omega, ⟨_, hgy68⟩, ⟨hgy64, hgy81, hgy89, hgy92, hgy94, hgy95, hgy103⟩⟩, fun j j1 j2 => by rw [egy63, va_up_ne _ _ (by omega)]; rw [egy59, va_up_ne _ _ (by omega)]; rw [egy49, va_up_ne _ _ (by omega)]; rw [egy40, va_up_ne _ _ (by omega)]; rw [hfvy26 _ (by omega)]; rw [hfvy25 _ (by omega)]; rw [hfvy20 _ (by omega)]; rw [hfvy13 _ (by omega)]⟩
          · obtain ⟨hnvy26, hkvy26⟩ := hvy26
            refine z_aload_n C 4 dX7_readHour_97 rfl ?_
            refine z_get (v := .int (zI (1))) C (lt_K hN (rfl : Nat.blt (2) 952 = true)) hay1 hkvy26 rfl inA_X7 1 (by decide) q_45 rfl rfl dX7_readHour_98 ?_
            refine z_if_ne (tgt := 155) C dX7_readHour_101 (by decide) (by omega) (fun _ => ?_) (fun h => absurd h (by omega))
            have hgy104 := (hfvy26 (1) (by decide)).trans hgy27
            have hgy105 := (hfvy13 (883) (by decide)).trans hP.1
            have hgy106 := (hfvy20 (883) (by decide)).trans hgy105
            have hgy107 := (hfvy25 (883) (by decide)).trans hgy106
            have hgy108 := (hfvy26 (883) (by decide)).trans hgy107
            have hgy109 := (hfvy13 (883 + 1) (by omega)).trans hP.2.1
            have hgy110 := (hfvy20 (883 + 1) (by omega)).trans hgy109
            have hgy111 := (hfvy25 (883 + 1) (by omega)).trans hgy110
            have hgy112 := (hfvy26 (883 + 1) (by omega)).trans hgy111
            have hgy113 := (hfvy13 (883 + 2) (by omega)).trans hP.2.2.1
            have hgy114 := (hfvy20 (883 + 2) (by omega)).trans hgy113
            have hgy115 := (hfvy25 (883 + 2) (by omega)).trans hgy114
            have hgy116 := (hfvy26 (883 + 2) (by omega)).trans hgy115
            have hgy117 := (hfvy13 (883 + 3) (by omega)).trans hP.2.2.2.1
            have hgy118 := (hfvy20 (883 + 3) (by omega)).trans hgy117
            have hgy119 := (hfvy25 (883 + 3) (by omega)).trans hgy118
            have hgy120 := (hfvy26 (883 + 3) (by omega)).trans hgy119
            have hgy121 := (hfvy13 (883 + 4) (by omega)).trans hP.2.2.2.2.1
            have hgy122 := (hfvy20 (883 + 4) (by omega)).trans hgy121
            have hgy123 := (hfvy25 (883 + 4) (by omega)).trans hgy122
            have hgy124 := (hfvy26 (883 + 4) (by omega)).trans hgy123
            have hgy125 := (hfvy13 (883 + 5) (by omega)).trans hP.2.2.2.2.2.1
            have hgy126 := (hfvy20 (883 + 5) (by omega)).trans hgy125
            have hgy127 := (hfvy25 (883 + 5) (by omega)).trans hgy126
            have hgy128 := (hfvy26 (883 + 5) (by omega)).trans hgy127
            have hgy129 := (hfvy13 (883 + 6) (by omega)).trans hP.2.2.2.2.2.2
            have hgy130 := (hfvy20 (883 + 6) (by omega)).trans hgy129
            have hgy131 := (hfvy25 (883 + 6) (by omega)).trans hgy130
            have hgy132 := (hfvy26 (883 + 6) (by omega)).trans hgy131
            exact z_vret C hr hlk dX7_readHour_155 (by decide) (by decide) ⟨rfl, rfl, rfl, Or.inr ⟨(1, (tk_nx T n (tk_nx T n f))), by simp only [cl_fin, cl_hour, cl_hour2, if_neg hscy11, if_neg hscy18, hnvy20, if_pos hvvy25.symm, if_neg hnvy26], ⟨by show 1 ≤ 1 ∧ 1 ≤ 5; omega, _, _, _, _, _, _, by omega, by omega, hkvy26, hgy104⟩, ⟨hgy108, hgy112, hgy116, hgy120, hgy124, hgy128, hgy132⟩⟩, fun j j1 j2 => by rw [hfvy26 _ (by omega)]; rw [hfvy25 _ (by omega)]; rw [hfvy20 _ (by omega)]; rw [hfvy13 _ (by omega)]⟩
        · obtain ⟨hzvy25, hkvy25⟩ := hvy25
          have hnby133 := tk_nx_b (T := T) (n := n) (f := (tk_nx T n (tk_nx T n f))) (by omega)
          have hsby134 := tk_so_b T n (tk_nx T n (tk_nx T n (tk_nx T n f)))
          have htby135 := tk_to_b (T := T) (n := n) (f := (tk_nx T n (tk_nx T n (tk_nx T n f)))) (by omega)
          subst hvvy25
          refine z_istore (lv' := [(4, .int (zI (tk_fa T n (tk_nx T n (tk_nx T n f))))), (3, .int (zI (vy20))), (2, .int (zI (0))), (0, .ref (ad 2)), (1, .ref (ad 883))]) C dX7_readHour_66 (by decide) rfl ?_
          refine z_iload C 0 dX7_readHour_68 rfl ?_
          refine z_iconst (z := 1) C dX7_readHour_70 rfl ?_
          refine z_icmp_eq (tgt := 80) C dX7_readHour_71 (by decide) (by omega) (by omega) (fun hby136 => ?_) (fun hby136 => ?_)
          · have hscy137 : ¬ (tk_fa T n (tk_nx T n (tk_nx T n f)) = 3) := by omega
            refine z_aload_n C 3 dX7_readHour_80 rfl ?_
            refine z_iconst (z := 1) C dX7_readHour_81 rfl ?_
            refine z_bipush (z := 50) C dX7_readHour_82 (by decide) ?_
            have hgy138 := (hfvy25 (1) (by decide)).trans hgy24
            refine z_cV (As := [.int (zI (1)), .int (zI (50))]) (rest := []) (ci := 9) C (c_xNumber l D A cs tt N ad _ (by omega) _ _ _ tp T hT n hn (tk_nx T n (tk_nx T n (tk_nx T n f))) (by omega) hkvy25 hgy138 (1) (50) (by omega)) (lt_K hN (rfl : Nat.blt (2) 952 = true)) hay1 hkvy25 rfl rfl mv_yX7_number q_817 hd_yX7_number (by decide) (Nat.le_of_ble_eq_true rfl) (by decide) dX7_readHour_84 rfl (kI0 fun vy139 gvy139 hvy139 => ?_)
            obtain ⟨hvy139, hfvy139⟩ := hvy139
            rcases hvy139 with hvy139 | hvy139
            · obtain ⟨hnvy139, hrvy139, hkvy139⟩ := hvy139
              have hnby140 := tk_nx_b (T := T) (n := n) (f := (tk_nx T n (tk_nx T n (tk_nx T n f)))) (by omega)
              have hsby141 := tk_so_b T n (tk_nx T n (tk_nx T n (tk_nx T n (tk_nx T n f))))
              have htby142 := tk_to_b (T := T) (n := n) (f := (tk_nx T n (tk_nx T n (tk_nx T n (tk_nx T n f))))) (by omega)
              refine z_goto (tgt := 91) C dX7_readHour_87 (by decide) ?_
              refine z_istore (lv' := [(5, .int (zI (vy139))), (4, .int (zI (tk_fa T n (tk_nx T n (tk_nx T n f))))), (3, .int (zI (vy20))), (2, .int (zI (0))), (0, .ref (ad 2)), (1, .ref (ad 883))]) C dX7_readHour_91 (by decide) rfl ?_
              refine z_aload_n C 4 dX7_readHour_93 rfl ?_
              have hgy144 := (hfvy139 (1) (by decide)).trans hgy138
              refine z_cV (As := []) (rest := []) (ci := 9) C (c_xClose l D A cs tt N ad _ (by omega) _ _ _ tp T hT n hn (tk_nx T n (tk_nx T n (tk_nx T n (tk_nx T n f)))) (by omega) hkvy139 hgy144) (lt_K hN (rfl : Nat.blt (2) 952 = true)) hay1 hkvy139 rfl rfl mv_yX7_close q_821 hd_yX7_close (by decide) (Nat.le_of_ble_eq_true rfl) (by decide) dX7_readHour_94 rfl (kV0 fun gvy143 hvy143 => ?_)
              obtain ⟨hvy143, hfvy143⟩ := hvy143
              rcases hvy143 with hvy143 | hvy143
              · obtain ⟨hnvy143, hkvy143⟩ := hvy143
                have hnby145 := tk_nx_b (T := T) (n := n) (f := (tk_nx T n (tk_nx T n (tk_nx T n (tk_nx T n f))))) (by omega)
                have hsby146 := tk_so_b T n (tk_nx T n (tk_nx T n (tk_nx T n (tk_nx T n (tk_nx T n f)))))
                have htby147 := tk_to_b (T := T) (n := n) (f := (tk_nx T n (tk_nx T n (tk_nx T n (tk_nx T n (tk_nx T n f)))))) (by omega)
                refine z_aload_n C 4 dX7_readHour_97 rfl ?_
                refine z_get (v := .int (zI (0))) C (lt_K hN (rfl : Nat.blt (2) 952 = true)) hay1 hkvy143 rfl inA_X7 1 (by decide) q_45 rfl rfl dX7_readHour_98 ?_
                refine z_if_ne (tgt := 155) C dX7_readHour_101 (by decide) (by omega) (fun h => absurd h (by omega)) (fun _ => ?_)
                refine z_aload_n C 5 dX7_readHour_104 rfl ?_
                have hgy148 := (hfvy13 (883) (by decide)).trans hP.1
                have hgy149 := (hfvy20 (883) (by decide)).trans hgy148
                have hgy150 := (hfvy25 (883) (by decide)).trans hgy149
                have hgy151 := (hfvy139 (883) (by decide)).trans hgy150
                have hgy152 := (hfvy143 (883) (by decide)).trans hgy151
                refine z_get (v := .ref (ad (883 + 3))) C (lt_K hN (rfl : Nat.blt (883) 952 = true)) hay3 hgy152 rfl inA_X5 5 (by decide) q_106 rfl rfl dX7_readHour_105 ?_
                refine z_aload_n C 5 dX7_readHour_108 rfl ?_
                refine z_get (v := .int (zI (ho))) C (lt_K hN (rfl : Nat.blt (883) 952 = true)) hay3 hgy152 rfl inA_X5 1 (by decide) q_94 rfl rfl dX7_readHour_109 ?_
                refine z_iload_n C 3 dX7_readHour_112 rfl ?_
                refine z_if_eq (tgt := 121) C dX7_readHour_113 (by decide) (by omega) (fun _ => ?_) (fun h => absurd h (by omega))
                refine z_iload_n C 2 dX7_readHour_121 rfl ?_
                have hgy153 := (hfvy13 (883 + 3) (by omega)).trans hP.2.2.2.1
                have hgy154 := (hfvy20 (883 + 3) (by omega)).trans hgy153
                have hgy155 := (hfvy25 (883 + 3) (by omega)).trans hgy154
                have hgy156 := (hfvy139 (883 + 3) (by omega)).trans hgy155
                have hgy157 := (hfvy143 (883 + 3) (by omega)).trans hgy156
                refine z_iast C (lt_K hN (rfl : Nat.blt (883 + 3) 952 = true)) hay6 hgy157 ((ho).toNat) (by omega) (by omega) (by decide) dX7_readHour_122 (fun gy158 egy159 => ?_)
                have hgy160 := up_s egy159
                refine z_aload_n C 5 dX7_readHour_123 rfl ?_
                have hgy161 := up_n egy159 hgy152 (ne_o (i := 883) (c := 0) (d := 3) rfl)
                refine z_get (v := .ref (ad (883 + 4))) C (lt_K hN (rfl : Nat.blt (883) 952 = true)) hay3 hgy161 rfl inA_X5 6 (by decide) q_109 rfl rfl dX7_readHour_124 ?_
                refine z_aload_n C 5 dX7_readHour_127 rfl ?_
                refine z_get (v := .int (zI (ho))) C (lt_K hN (rfl : Nat.blt (883) 952 = true)) hay3 hgy161 rfl inA_X5 1 (by decide) q_94 rfl rfl dX7_readHour_128 ?_
                refine z_iload C 1 dX7_readHour_131 rfl ?_
                have hgy162 := (hfvy13 (883 + 4) (by omega)).trans hP.2.2.2.2.1
                have hgy163 := (hfvy20 (883 + 4) (by omega)).trans hgy162
                have hgy164 := (hfvy25 (883 + 4) (by omega)).trans hgy163
                have hgy165 := (hfvy139 (883 + 4) (by omega)).trans hgy164
                have hgy166 := (hfvy143 (883 + 4) (by omega)).trans hgy165
                have hgy167 := up_n egy159 hgy166 (ne_o (i := 883) (c := 4) (d := 3) rfl)
                refine z_iast C (lt_K hN (rfl : Nat.blt (883 + 4) 952 = true)) hay7 hgy167 ((ho).toNat) (by omega) (by omega) (by decide) dX7_readHour_133 (fun gy168 egy169 => ?_)
                have hgy170 := up_s egy169
                refine z_aload_n C 5 dX7_readHour_134 rfl ?_
                have hgy171 := up_n egy169 hgy161 (ne_o (i := 883) (c := 0) (d := 4) rfl)
                refine z_get (v := .ref (ad (883 + 5))) C (lt_K hN (rfl : Nat.blt (883) 952 = true)) hay3 hgy171 rfl inA_X5 7 (by decide) q_112 rfl rfl dX7_readHour_135 ?_
                refine z_aload_n C 5 dX7_readHour_138 rfl ?_
                refine z_get (v := .int (zI (ho))) C (lt_K hN (rfl : Nat.blt (883) 952 = true)) hay3 hgy171 rfl inA_X5 1 (by decide) q_94 rfl rfl dX7_readHour_139 ?_
                refine z_iload C 0 dX7_readHour_142 rfl ?_
                have hgy172 := (hfvy13 (883 + 5) (by omega)).trans hP.2.2.2.2.2.1
                have hgy173 := (hfvy20 (883 + 5) (by omega)).trans hgy172
                have hgy174 := (hfvy25 (883 + 5) (by omega)).trans hgy173
                have hgy175 := (hfvy139 (883 + 5) (by omega)).trans hgy174
                have hgy176 := (hfvy143 (883 + 5) (by omega)).trans hgy175
                have hgy177 := up_n egy159 hgy176 (ne_o (i := 883) (c := 5) (d := 3) rfl)
                have hgy178 := up_n egy169 hgy177 (ne_o (i := 883) (c := 5) (d := 4) rfl)
                refine z_iast C (lt_K hN (rfl : Nat.blt (883 + 5) 952 = true)) hay8 hgy178 ((ho).toNat) (by omega) (by omega) (by decide) dX7_readHour_144 (fun gy179 egy180 => ?_)
                have hgy181 := up_s egy180
                refine z_aload_n C 5 dX7_readHour_145 rfl ?_
                refine z_dup C dX7_readHour_146 rfl ?_
                have hgy182 := up_n egy180 hgy171 (ne_o (i := 883) (c := 0) (d := 5) rfl)
                refine z_get (v := .int (zI (ho))) C (lt_K hN (rfl : Nat.blt (883) 952 = true)) hay3 hgy182 rfl inA_X5 1 (by decide) q_94 rfl rfl dX7_readHour_147 ?_
                refine z_iconst (z := 1) C dX7_readHour_150 rfl ?_
                refine z_iadd C dX7_readHour_151 ?_
                refine z_put (fs' := [.int (zI (sl)), .int (zI (ho + 1)), .int (zI (ua)), .ref (ad (883 + 1)), .ref (ad (883 + 2)), .ref (ad (883 + 3)), .ref (ad (883 + 4)), .ref (ad (883 + 5)), .ref (ad (883 + 6))]) C (lt_K hN (rfl : Nat.blt (883) 952 = true)) hay3 hgy182 tyX5 tyX5_ok nmX5 rfl inA_X5 1 (by decide) q_94 rfl rfl rfl rfl (Nat.le_of_ble_eq_true rfl) rfl dX7_readHour_152 (fun gy183 egy184 => ?_)
                have hgy185 := up_s egy184
                have hgy186 := up_n egy159 hkvy143 (by omega)
                have hgy187 := up_n egy169 hgy186 (by omega)
                have hgy188 := up_n egy180 hgy187 (by omega)
                have hgy189 := up_n egy184 hgy188 (by decide)
                have hgy190 := (hfvy143 (1) (by decide)).trans hgy144
                have hgy191 := up_n egy159 hgy190 (by omega)
                have hgy192 := up_n egy169 hgy191 (by omega)
                have hgy193 := up_n egy180 hgy192 (by omega)
                have hgy194 := up_n egy184 hgy193 (by decide)
                have hgy195 := (hfvy13 (883 + 1) (by omega)).trans hP.2.1
                have hgy196 := (hfvy20 (883 + 1) (by omega)).trans hgy195
                have hgy197 := (hfvy25 (883 + 1) (by omega)).trans hgy196
                have hgy198 := (hfvy139 (883 + 1) (by omega)).trans hgy197
                have hgy199 := (hfvy143 (883 + 1) (by omega)).trans hgy198
                have hgy200 := up_n egy159 hgy199 (ne_o (i := 883) (c := 1) (d := 3) rfl)
                have hgy201 := up_n egy169 hgy200 (ne_o (i := 883) (c := 1) (d := 4) rfl)
                have hgy202 := up_n egy180 hgy201 (ne_o (i := 883) (c := 1) (d := 5) rfl)
                have hgy203 := up_n egy184 hgy202 (ne_o (i := 883) (c := 1) (d := 0) rfl)
                have hgy204 := (hfvy13 (883 + 2) (by omega)).trans hP.2.2.1
                have hgy205 := (hfvy20 (883 + 2) (by omega)).trans hgy204
                have hgy206 := (hfvy25 (883 + 2) (by omega)).trans hgy205
                have hgy207 := (hfvy139 (883 + 2) (by omega)).trans hgy206
                have hgy208 := (hfvy143 (883 + 2) (by omega)).trans hgy207
                have hgy209 := up_n egy159 hgy208 (ne_o (i := 883) (c := 2) (d := 3) rfl)
                have hgy210 := up_n egy169 hgy209 (ne_o (i := 883) (c := 2) (d := 4) rfl)
                have hgy211 := up_n egy180 hgy210 (ne_o (i := 883) (c := 2) (d := 5) rfl)
                have hgy212 := up_n egy184 hgy211 (ne_o (i := 883) (c := 2) (d := 0) rfl)
                have hgy213 := up_n egy169 hgy160 (ne_o (i := 883) (c := 3) (d := 4) rfl)
                have hgy214 := up_n egy180 hgy213 (ne_o (i := 883) (c := 3) (d := 5) rfl)
                have hgy215 := up_n egy184 hgy214 (ne_o (i := 883) (c := 3) (d := 0) rfl)
                have hgy216 := up_n egy180 hgy170 (ne_o (i := 883) (c := 4) (d := 5) rfl)
                have hgy217 := up_n egy184 hgy216 (ne_o (i := 883) (c := 4) (d := 0) rfl)
                have hgy218 := up_n egy184 hgy181 (ne_o (i := 883) (c := 5) (d := 0) rfl)
                have hgy219 := (hfvy13 (883 + 6) (by omega)).trans hP.2.2.2.2.2.2
                have hgy220 := (hfvy20 (883 + 6) (by omega)).trans hgy219
                have hgy221 := (hfvy25 (883 + 6) (by omega)).trans hgy220
                have hgy222 := (hfvy139 (883 + 6) (by omega)).trans hgy221
                have hgy223 := (hfvy143 (883 + 6) (by omega)).trans hgy222
                have hgy224 := up_n egy159 hgy223 (ne_o (i := 883) (c := 6) (d := 3) rfl)
                have hgy225 := up_n egy169 hgy224 (ne_o (i := 883) (c := 6) (d := 4) rfl)
                have hgy226 := up_n egy180 hgy225 (ne_o (i := 883) (c := 6) (d := 5) rfl)
                have hgy227 := up_n egy184 hgy226 (ne_o (i := 883) (c := 6) (d := 0) rfl)
                exact z_vret C hr hlk dX7_readHour_155 (by decide) (by decide) ⟨rfl, rfl, rfl, Or.inl ⟨_, by simp only [cl_fin, cl_hour, cl_hour2, if_neg hscy11, if_neg hscy18, hnvy20, if_neg hzvy25, if_neg hscy137, hnvy139, if_pos hnvy143]; rfl, by show (f < n → f < (tk_nx T n (tk_nx T n (tk_nx T n (tk_nx T n (tk_nx T n f)))))) ∧ (tk_nx T n (tk_nx T n (tk_nx T n (tk_nx T n (tk_nx T n f))))) ≤ n; omega, ⟨_, hgy189⟩, ⟨hgy185, hgy203, hgy212, hgy215, hgy217, hgy218, hgy227⟩⟩, fun j j1 j2 => by rw [egy184, va_up_ne _ _ (by omega)]; rw [egy180, va_up_ne _ _ (by omega)]; rw [egy169, va_up_ne _ _ (by omega)]; rw [egy159, va_up_ne _ _ (by omega)]; rw [hfvy143 _ (by omega)]; rw [hfvy139 _ (by omega)]; rw [hfvy25 _ (by omega)]; rw [hfvy20 _ (by omega)]; rw [hfvy13 _ (by omega)]⟩
              · obtain ⟨hnvy143, hkvy143⟩ := hvy143
                refine z_aload_n C 4 dX7_readHour_97 rfl ?_
                refine z_get (v := .int (zI (1))) C (lt_K hN (rfl : Nat.blt (2) 952 = true)) hay1 hkvy143 rfl inA_X7 1 (by decide) q_45 rfl rfl dX7_readHour_98 ?_
                refine z_if_ne (tgt := 155) C dX7_readHour_101 (by decide) (by omega) (fun _ => ?_) (fun h => absurd h (by omega))
                have hgy228 := (hfvy143 (1) (by decide)).trans hgy144
                have hgy229 := (hfvy13 (883) (by decide)).trans hP.1
                have hgy230 := (hfvy20 (883) (by decide)).trans hgy229
                have hgy231 := (hfvy25 (883) (by decide)).trans hgy230
                have hgy232 := (hfvy139 (883) (by decide)).trans hgy231
                have hgy233 := (hfvy143 (883) (by decide)).trans hgy232
                have hgy234 := (hfvy13 (883 + 1) (by omega)).trans hP.2.1
                have hgy235 := (hfvy20 (883 + 1) (by omega)).trans hgy234
                have hgy236 := (hfvy25 (883 + 1) (by omega)).trans hgy235
                have hgy237 := (hfvy139 (883 + 1) (by omega)).trans hgy236
                have hgy238 := (hfvy143 (883 + 1) (by omega)).trans hgy237
                have hgy239 := (hfvy13 (883 + 2) (by omega)).trans hP.2.2.1
                have hgy240 := (hfvy20 (883 + 2) (by omega)).trans hgy239
                have hgy241 := (hfvy25 (883 + 2) (by omega)).trans hgy240
                have hgy242 := (hfvy139 (883 + 2) (by omega)).trans hgy241
                have hgy243 := (hfvy143 (883 + 2) (by omega)).trans hgy242
                have hgy244 := (hfvy13 (883 + 3) (by omega)).trans hP.2.2.2.1
                have hgy245 := (hfvy20 (883 + 3) (by omega)).trans hgy244
                have hgy246 := (hfvy25 (883 + 3) (by omega)).trans hgy245
                have hgy247 := (hfvy139 (883 + 3) (by omega)).trans hgy246
                have hgy248 := (hfvy143 (883 + 3) (by omega)).trans hgy247
                have hgy249 := (hfvy13 (883 + 4) (by omega)).trans hP.2.2.2.2.1
                have hgy250 := (hfvy20 (883 + 4) (by omega)).trans hgy249
                have hgy251 := (hfvy25 (883 + 4) (by omega)).trans hgy250
                have hgy252 := (hfvy139 (883 + 4) (by omega)).trans hgy251
                have hgy253 := (hfvy143 (883 + 4) (by omega)).trans hgy252
                have hgy254 := (hfvy13 (883 + 5) (by omega)).trans hP.2.2.2.2.2.1
                have hgy255 := (hfvy20 (883 + 5) (by omega)).trans hgy254
                have hgy256 := (hfvy25 (883 + 5) (by omega)).trans hgy255
                have hgy257 := (hfvy139 (883 + 5) (by omega)).trans hgy256
                have hgy258 := (hfvy143 (883 + 5) (by omega)).trans hgy257
                have hgy259 := (hfvy13 (883 + 6) (by omega)).trans hP.2.2.2.2.2.2
                have hgy260 := (hfvy20 (883 + 6) (by omega)).trans hgy259
                have hgy261 := (hfvy25 (883 + 6) (by omega)).trans hgy260
                have hgy262 := (hfvy139 (883 + 6) (by omega)).trans hgy261
                have hgy263 := (hfvy143 (883 + 6) (by omega)).trans hgy262
                exact z_vret C hr hlk dX7_readHour_155 (by decide) (by decide) ⟨rfl, rfl, rfl, Or.inr ⟨(1, (tk_nx T n (tk_nx T n (tk_nx T n (tk_nx T n f))))), by simp only [cl_fin, cl_hour, cl_hour2, if_neg hscy11, if_neg hscy18, hnvy20, if_neg hzvy25, if_neg hscy137, hnvy139, if_neg hnvy143], ⟨by show 1 ≤ 1 ∧ 1 ≤ 5; omega, _, _, _, _, _, _, by omega, by omega, hkvy143, hgy228⟩, ⟨hgy233, hgy238, hgy243, hgy248, hgy253, hgy258, hgy263⟩⟩, fun j j1 j2 => by rw [hfvy143 _ (by omega)]; rw [hfvy139 _ (by omega)]; rw [hfvy25 _ (by omega)]; rw [hfvy20 _ (by omega)]; rw [hfvy13 _ (by omega)]⟩
            · obtain ⟨cvy139, hcvy139, hnvy139, rfl, hkvy139⟩ := hvy139
              refine z_goto (tgt := 91) C dX7_readHour_87 (by decide) ?_
              refine z_istore (lv' := [(5, .int (zI (0))), (4, .int (zI (tk_fa T n (tk_nx T n (tk_nx T n f))))), (3, .int (zI (vy20))), (2, .int (zI (0))), (0, .ref (ad 2)), (1, .ref (ad 883))]) C dX7_readHour_91 (by decide) rfl ?_
              refine z_aload_n C 4 dX7_readHour_93 rfl ?_
              refine z_cV (As := []) (rest := []) (ci := 9) C (c_fClose l D A cs tt N ad _ (by omega) _ _ _ _ _ _ _ _ (by omega) (by omega) hkvy139) (lt_K hN (rfl : Nat.blt (2) 952 = true)) hay1 hkvy139 rfl rfl mv_yX7_close q_821 hd_yX7_close (by decide) (Nat.le_of_ble_eq_true rfl) (by decide) dX7_readHour_94 rfl (kV0 fun gvy264 hvy264 => ?_)
              obtain rfl := hvy264
              refine z_aload_n C 4 dX7_readHour_97 rfl ?_
              refine z_get (v := .int (zI (cvy139))) C (lt_K hN (rfl : Nat.blt (2) 952 = true)) hay1 hkvy139 rfl inA_X7 1 (by decide) q_45 rfl rfl dX7_readHour_98 ?_
              refine z_if_ne (tgt := 155) C dX7_readHour_101 (by decide) (by omega) (fun _ => ?_) (fun h => absurd h (by omega))
              have hgy265 := (hfvy139 (1) (by decide)).trans hgy138
              have hgy266 := (hfvy13 (883) (by decide)).trans hP.1
              have hgy267 := (hfvy20 (883) (by decide)).trans hgy266
              have hgy268 := (hfvy25 (883) (by decide)).trans hgy267
              have hgy269 := (hfvy139 (883) (by decide)).trans hgy268
              have hgy270 := (hfvy13 (883 + 1) (by omega)).trans hP.2.1
              have hgy271 := (hfvy20 (883 + 1) (by omega)).trans hgy270
              have hgy272 := (hfvy25 (883 + 1) (by omega)).trans hgy271
              have hgy273 := (hfvy139 (883 + 1) (by omega)).trans hgy272
              have hgy274 := (hfvy13 (883 + 2) (by omega)).trans hP.2.2.1
              have hgy275 := (hfvy20 (883 + 2) (by omega)).trans hgy274
              have hgy276 := (hfvy25 (883 + 2) (by omega)).trans hgy275
              have hgy277 := (hfvy139 (883 + 2) (by omega)).trans hgy276
              have hgy278 := (hfvy13 (883 + 3) (by omega)).trans hP.2.2.2.1
              have hgy279 := (hfvy20 (883 + 3) (by omega)).trans hgy278
              have hgy280 := (hfvy25 (883 + 3) (by omega)).trans hgy279
              have hgy281 := (hfvy139 (883 + 3) (by omega)).trans hgy280
              have hgy282 := (hfvy13 (883 + 4) (by omega)).trans hP.2.2.2.2.1
              have hgy283 := (hfvy20 (883 + 4) (by omega)).trans hgy282
              have hgy284 := (hfvy25 (883 + 4) (by omega)).trans hgy283
              have hgy285 := (hfvy139 (883 + 4) (by omega)).trans hgy284
              have hgy286 := (hfvy13 (883 + 5) (by omega)).trans hP.2.2.2.2.2.1
              have hgy287 := (hfvy20 (883 + 5) (by omega)).trans hgy286
              have hgy288 := (hfvy25 (883 + 5) (by omega)).trans hgy287
              have hgy289 := (hfvy139 (883 + 5) (by omega)).trans hgy288
              have hgy290 := (hfvy13 (883 + 6) (by omega)).trans hP.2.2.2.2.2.2
              have hgy291 := (hfvy20 (883 + 6) (by omega)).trans hgy290
              have hgy292 := (hfvy25 (883 + 6) (by omega)).trans hgy291
              have hgy293 := (hfvy139 (883 + 6) (by omega)).trans hgy292
              exact z_vret C hr hlk dX7_readHour_155 (by decide) (by decide) ⟨rfl, rfl, rfl, Or.inr ⟨(cvy139, (tk_nx T n (tk_nx T n (tk_nx T n f)))), by simp only [cl_fin, cl_hour, cl_hour2, if_neg hscy11, if_neg hscy18, hnvy20, if_neg hzvy25, if_neg hscy137, hnvy139], ⟨by show 1 ≤ cvy139 ∧ cvy139 ≤ 5; omega, _, _, _, _, _, _, by omega, by omega, hkvy139, hgy265⟩, ⟨hgy269, hgy273, hgy277, hgy281, hgy285, hgy289, hgy293⟩⟩, fun j j1 j2 => by rw [hfvy139 _ (by omega)]; rw [hfvy25 _ (by omega)]; rw [hfvy20 _ (by omega)]; rw [hfvy13 _ (by omega)]⟩
          · refine z_iload C 0 dX7_readHour_74 rfl ?_
            refine z_iconst (z := 2) C dX7_readHour_76 rfl ?_
            refine z_icmp_ne (tgt := 90) C dX7_readHour_77 (by decide) (by omega) (by omega) (fun hby294 => ?_) (fun hby294 => ?_)
            · have hscy295 : (tk_fa T n (tk_nx T n (tk_nx T n f)) = 3) := by omega
              refine z_iconst (z := 0) C dX7_readHour_90 rfl ?_
              refine z_istore (lv' := [(5, .int (zI (0))), (4, .int (zI (tk_fa T n (tk_nx T n (tk_nx T n f))))), (3, .int (zI (vy20))), (2, .int (zI (0))), (0, .ref (ad 2)), (1, .ref (ad 883))]) C dX7_readHour_91 (by decide) rfl ?_
              refine z_aload_n C 4 dX7_readHour_93 rfl ?_
              have hgy297 := (hfvy25 (1) (by decide)).trans hgy24
              refine z_cV (As := []) (rest := []) (ci := 9) C (c_xClose l D A cs tt N ad _ (by omega) _ _ _ tp T hT n hn (tk_nx T n (tk_nx T n (tk_nx T n f))) (by omega) hkvy25 hgy297) (lt_K hN (rfl : Nat.blt (2) 952 = true)) hay1 hkvy25 rfl rfl mv_yX7_close q_821 hd_yX7_close (by decide) (Nat.le_of_ble_eq_true rfl) (by decide) dX7_readHour_94 rfl (kV0 fun gvy296 hvy296 => ?_)
              obtain ⟨hvy296, hfvy296⟩ := hvy296
              rcases hvy296 with hvy296 | hvy296
              · obtain ⟨hnvy296, hkvy296⟩ := hvy296
                have hnby298 := tk_nx_b (T := T) (n := n) (f := (tk_nx T n (tk_nx T n (tk_nx T n f)))) (by omega)
                have hsby299 := tk_so_b T n (tk_nx T n (tk_nx T n (tk_nx T n (tk_nx T n f))))
                have htby300 := tk_to_b (T := T) (n := n) (f := (tk_nx T n (tk_nx T n (tk_nx T n (tk_nx T n f))))) (by omega)
                refine z_aload_n C 4 dX7_readHour_97 rfl ?_
                refine z_get (v := .int (zI (0))) C (lt_K hN (rfl : Nat.blt (2) 952 = true)) hay1 hkvy296 rfl inA_X7 1 (by decide) q_45 rfl rfl dX7_readHour_98 ?_
                refine z_if_ne (tgt := 155) C dX7_readHour_101 (by decide) (by omega) (fun h => absurd h (by omega)) (fun _ => ?_)
                refine z_aload_n C 5 dX7_readHour_104 rfl ?_
                have hgy301 := (hfvy13 (883) (by decide)).trans hP.1
                have hgy302 := (hfvy20 (883) (by decide)).trans hgy301
                have hgy303 := (hfvy25 (883) (by decide)).trans hgy302
                have hgy304 := (hfvy296 (883) (by decide)).trans hgy303
                refine z_get (v := .ref (ad (883 + 3))) C (lt_K hN (rfl : Nat.blt (883) 952 = true)) hay3 hgy304 rfl inA_X5 5 (by decide) q_106 rfl rfl dX7_readHour_105 ?_
                refine z_aload_n C 5 dX7_readHour_108 rfl ?_
                refine z_get (v := .int (zI (ho))) C (lt_K hN (rfl : Nat.blt (883) 952 = true)) hay3 hgy304 rfl inA_X5 1 (by decide) q_94 rfl rfl dX7_readHour_109 ?_
                refine z_iload_n C 3 dX7_readHour_112 rfl ?_
                refine z_if_eq (tgt := 121) C dX7_readHour_113 (by decide) (by omega) (fun _ => ?_) (fun h => absurd h (by omega))
                refine z_iload_n C 2 dX7_readHour_121 rfl ?_
                have hgy305 := (hfvy13 (883 + 3) (by omega)).trans hP.2.2.2.1
                have hgy306 := (hfvy20 (883 + 3) (by omega)).trans hgy305
                have hgy307 := (hfvy25 (883 + 3) (by omega)).trans hgy306
                have hgy308 := (hfvy296 (883 + 3) (by omega)).trans hgy307
                refine z_iast C (lt_K hN (rfl : Nat.blt (883 + 3) 952 = true)) hay6 hgy308 ((ho).toNat) (by omega) (by omega) (by decide) dX7_readHour_122 (fun gy309 egy310 => ?_)
                have hgy311 := up_s egy310
                refine z_aload_n C 5 dX7_readHour_123 rfl ?_
                have hgy312 := up_n egy310 hgy304 (ne_o (i := 883) (c := 0) (d := 3) rfl)
                refine z_get (v := .ref (ad (883 + 4))) C (lt_K hN (rfl : Nat.blt (883) 952 = true)) hay3 hgy312 rfl inA_X5 6 (by decide) q_109 rfl rfl dX7_readHour_124 ?_
                refine z_aload_n C 5 dX7_readHour_127 rfl ?_
                refine z_get (v := .int (zI (ho))) C (lt_K hN (rfl : Nat.blt (883) 952 = true)) hay3 hgy312 rfl inA_X5 1 (by decide) q_94 rfl rfl dX7_readHour_128 ?_
                refine z_iload C 1 dX7_readHour_131 rfl ?_
                have hgy313 := (hfvy13 (883 + 4) (by omega)).trans hP.2.2.2.2.1
                have hgy314 := (hfvy20 (883 + 4) (by omega)).trans hgy313
                have hgy315 := (hfvy25 (883 + 4) (by omega)).trans hgy314
                have hgy316 := (hfvy296 (883 + 4) (by omega)).trans hgy315
                have hgy317 := up_n egy310 hgy316 (ne_o (i := 883) (c := 4) (d := 3) rfl)
                refine z_iast C (lt_K hN (rfl : Nat.blt (883 + 4) 952 = true)) hay7 hgy317 ((ho).toNat) (by omega) (by omega) (by decide) dX7_readHour_133 (fun gy318 egy319 => ?_)
                have hgy320 := up_s egy319
                refine z_aload_n C 5 dX7_readHour_134 rfl ?_
                have hgy321 := up_n egy319 hgy312 (ne_o (i := 883) (c := 0) (d := 4) rfl)
                refine z_get (v := .ref (ad (883 + 5))) C (lt_K hN (rfl : Nat.blt (883) 952 = true)) hay3 hgy321 rfl inA_X5 7 (by decide) q_112 rfl rfl dX7_readHour_135 ?_
                refine z_aload_n C 5 dX7_readHour_138 rfl ?_
                refine z_get (v := .int (zI (ho))) C (lt_K hN (rfl : Nat.blt (883) 952 = true)) hay3 hgy321 rfl inA_X5 1 (by decide) q_94 rfl rfl dX7_readHour_139 ?_
                refine z_iload C 0 dX7_readHour_142 rfl ?_
                have hgy322 := (hfvy13 (883 + 5) (by omega)).trans hP.2.2.2.2.2.1
                have hgy323 := (hfvy20 (883 + 5) (by omega)).trans hgy322
                have hgy324 := (hfvy25 (883 + 5) (by omega)).trans hgy323
                have hgy325 := (hfvy296 (883 + 5) (by omega)).trans hgy324
                have hgy326 := up_n egy310 hgy325 (ne_o (i := 883) (c := 5) (d := 3) rfl)
                have hgy327 := up_n egy319 hgy326 (ne_o (i := 883) (c := 5) (d := 4) rfl)
                refine z_iast C (lt_K hN (rfl : Nat.blt (883 + 5) 952 = true)) hay8 hgy327 ((ho).toNat) (by omega) (by omega) (by decide) dX7_readHour_144 (fun gy328 egy329 => ?_)
                have hgy330 := up_s egy329
                refine z_aload_n C 5 dX7_readHour_145 rfl ?_
                refine z_dup C dX7_readHour_146 rfl ?_
                have hgy331 := up_n egy329 hgy321 (ne_o (i := 883) (c := 0) (d := 5) rfl)
                refine z_get (v := .int (zI (ho))) C (lt_K hN (rfl : Nat.blt (883) 952 = true)) hay3 hgy331 rfl inA_X5 1 (by decide) q_94 rfl rfl dX7_readHour_147 ?_
                refine z_iconst (z := 1) C dX7_readHour_150 rfl ?_
                refine z_iadd C dX7_readHour_151 ?_
                refine z_put (fs' := [.int (zI (sl)), .int (zI (ho + 1)), .int (zI (ua)), .ref (ad (883 + 1)), .ref (ad (883 + 2)), .ref (ad (883 + 3)), .ref (ad (883 + 4)), .ref (ad (883 + 5)), .ref (ad (883 + 6))]) C (lt_K hN (rfl : Nat.blt (883) 952 = true)) hay3 hgy331 tyX5 tyX5_ok nmX5 rfl inA_X5 1 (by decide) q_94 rfl rfl rfl rfl (Nat.le_of_ble_eq_true rfl) rfl dX7_readHour_152 (fun gy332 egy333 => ?_)
                have hgy334 := up_s egy333
                have hgy335 := up_n egy310 hkvy296 (by omega)
                have hgy336 := up_n egy319 hgy335 (by omega)
                have hgy337 := up_n egy329 hgy336 (by omega)
                have hgy338 := up_n egy333 hgy337 (by decide)
                have hgy339 := (hfvy296 (1) (by decide)).trans hgy297
                have hgy340 := up_n egy310 hgy339 (by omega)
                have hgy341 := up_n egy319 hgy340 (by omega)
                have hgy342 := up_n egy329 hgy341 (by omega)
                have hgy343 := up_n egy333 hgy342 (by decide)
                have hgy344 := (hfvy13 (883 + 1) (by omega)).trans hP.2.1
                have hgy345 := (hfvy20 (883 + 1) (by omega)).trans hgy344
                have hgy346 := (hfvy25 (883 + 1) (by omega)).trans hgy345
                have hgy347 := (hfvy296 (883 + 1) (by omega)).trans hgy346
                have hgy348 := up_n egy310 hgy347 (ne_o (i := 883) (c := 1) (d := 3) rfl)
                have hgy349 := up_n egy319 hgy348 (ne_o (i := 883) (c := 1) (d := 4) rfl)
                have hgy350 := up_n egy329 hgy349 (ne_o (i := 883) (c := 1) (d := 5) rfl)
                have hgy351 := up_n egy333 hgy350 (ne_o (i := 883) (c := 1) (d := 0) rfl)
                have hgy352 := (hfvy13 (883 + 2) (by omega)).trans hP.2.2.1
                have hgy353 := (hfvy20 (883 + 2) (by omega)).trans hgy352
                have hgy354 := (hfvy25 (883 + 2) (by omega)).trans hgy353
                have hgy355 := (hfvy296 (883 + 2) (by omega)).trans hgy354
                have hgy356 := up_n egy310 hgy355 (ne_o (i := 883) (c := 2) (d := 3) rfl)
                have hgy357 := up_n egy319 hgy356 (ne_o (i := 883) (c := 2) (d := 4) rfl)
                have hgy358 := up_n egy329 hgy357 (ne_o (i := 883) (c := 2) (d := 5) rfl)
                have hgy359 := up_n egy333 hgy358 (ne_o (i := 883) (c := 2) (d := 0) rfl)
                have hgy360 := up_n egy319 hgy311 (ne_o (i := 883) (c := 3) (d := 4) rfl)
                have hgy361 := up_n egy329 hgy360 (ne_o (i := 883) (c := 3) (d := 5) rfl)
                have hgy362 := up_n egy333 hgy361 (ne_o (i := 883) (c := 3) (d := 0) rfl)
                have hgy363 := up_n egy329 hgy320 (ne_o (i := 883) (c := 4) (d := 5) rfl)
                have hgy364 := up_n egy333 hgy363 (ne_o (i := 883) (c := 4) (d := 0) rfl)
                have hgy365 := up_n egy333 hgy330 (ne_o (i := 883) (c := 5) (d := 0) rfl)
                have hgy366 := (hfvy13 (883 + 6) (by omega)).trans hP.2.2.2.2.2.2
                have hgy367 := (hfvy20 (883 + 6) (by omega)).trans hgy366
                have hgy368 := (hfvy25 (883 + 6) (by omega)).trans hgy367
                have hgy369 := (hfvy296 (883 + 6) (by omega)).trans hgy368
                have hgy370 := up_n egy310 hgy369 (ne_o (i := 883) (c := 6) (d := 3) rfl)
                have hgy371 := up_n egy319 hgy370 (ne_o (i := 883) (c := 6) (d := 4) rfl)
                have hgy372 := up_n egy329 hgy371 (ne_o (i := 883) (c := 6) (d := 5) rfl)
                have hgy373 := up_n egy333 hgy372 (ne_o (i := 883) (c := 6) (d := 0) rfl)
                exact z_vret C hr hlk dX7_readHour_155 (by decide) (by decide) ⟨rfl, rfl, rfl, Or.inl ⟨_, by simp only [cl_fin, cl_hour, cl_hour2, if_neg hscy11, if_neg hscy18, hnvy20, if_neg hzvy25, if_pos hscy295, if_pos hnvy296]; rfl, by show (f < n → f < (tk_nx T n (tk_nx T n (tk_nx T n (tk_nx T n f))))) ∧ (tk_nx T n (tk_nx T n (tk_nx T n (tk_nx T n f)))) ≤ n; omega, ⟨_, hgy338⟩, ⟨hgy334, hgy351, hgy359, hgy362, hgy364, hgy365, hgy373⟩⟩, fun j j1 j2 => by rw [egy333, va_up_ne _ _ (by omega)]; rw [egy329, va_up_ne _ _ (by omega)]; rw [egy319, va_up_ne _ _ (by omega)]; rw [egy310, va_up_ne _ _ (by omega)]; rw [hfvy296 _ (by omega)]; rw [hfvy25 _ (by omega)]; rw [hfvy20 _ (by omega)]; rw [hfvy13 _ (by omega)]⟩
              · obtain ⟨hnvy296, hkvy296⟩ := hvy296
                refine z_aload_n C 4 dX7_readHour_97 rfl ?_
                refine z_get (v := .int (zI (1))) C (lt_K hN (rfl : Nat.blt (2) 952 = true)) hay1 hkvy296 rfl inA_X7 1 (by decide) q_45 rfl rfl dX7_readHour_98 ?_
                refine z_if_ne (tgt := 155) C dX7_readHour_101 (by decide) (by omega) (fun _ => ?_) (fun h => absurd h (by omega))
                have hgy374 := (hfvy296 (1) (by decide)).trans hgy297
                have hgy375 := (hfvy13 (883) (by decide)).trans hP.1
                have hgy376 := (hfvy20 (883) (by decide)).trans hgy375
                have hgy377 := (hfvy25 (883) (by decide)).trans hgy376
                have hgy378 := (hfvy296 (883) (by decide)).trans hgy377
                have hgy379 := (hfvy13 (883 + 1) (by omega)).trans hP.2.1
                have hgy380 := (hfvy20 (883 + 1) (by omega)).trans hgy379
                have hgy381 := (hfvy25 (883 + 1) (by omega)).trans hgy380
                have hgy382 := (hfvy296 (883 + 1) (by omega)).trans hgy381
                have hgy383 := (hfvy13 (883 + 2) (by omega)).trans hP.2.2.1
                have hgy384 := (hfvy20 (883 + 2) (by omega)).trans hgy383
                have hgy385 := (hfvy25 (883 + 2) (by omega)).trans hgy384
                have hgy386 := (hfvy296 (883 + 2) (by omega)).trans hgy385
                have hgy387 := (hfvy13 (883 + 3) (by omega)).trans hP.2.2.2.1
                have hgy388 := (hfvy20 (883 + 3) (by omega)).trans hgy387
                have hgy389 := (hfvy25 (883 + 3) (by omega)).trans hgy388
                have hgy390 := (hfvy296 (883 + 3) (by omega)).trans hgy389
                have hgy391 := (hfvy13 (883 + 4) (by omega)).trans hP.2.2.2.2.1
                have hgy392 := (hfvy20 (883 + 4) (by omega)).trans hgy391
                have hgy393 := (hfvy25 (883 + 4) (by omega)).trans hgy392
                have hgy394 := (hfvy296 (883 + 4) (by omega)).trans hgy393
                have hgy395 := (hfvy13 (883 + 5) (by omega)).trans hP.2.2.2.2.2.1
                have hgy396 := (hfvy20 (883 + 5) (by omega)).trans hgy395
                have hgy397 := (hfvy25 (883 + 5) (by omega)).trans hgy396
                have hgy398 := (hfvy296 (883 + 5) (by omega)).trans hgy397
                have hgy399 := (hfvy13 (883 + 6) (by omega)).trans hP.2.2.2.2.2.2
                have hgy400 := (hfvy20 (883 + 6) (by omega)).trans hgy399
                have hgy401 := (hfvy25 (883 + 6) (by omega)).trans hgy400
                have hgy402 := (hfvy296 (883 + 6) (by omega)).trans hgy401
                exact z_vret C hr hlk dX7_readHour_155 (by decide) (by decide) ⟨rfl, rfl, rfl, Or.inr ⟨(1, (tk_nx T n (tk_nx T n (tk_nx T n f)))), by simp only [cl_fin, cl_hour, cl_hour2, if_neg hscy11, if_neg hscy18, hnvy20, if_neg hzvy25, if_pos hscy295, if_neg hnvy296], ⟨by show 1 ≤ 1 ∧ 1 ≤ 5; omega, _, _, _, _, _, _, by omega, by omega, hkvy296, hgy374⟩, ⟨hgy378, hgy382, hgy386, hgy390, hgy394, hgy398, hgy402⟩⟩, fun j j1 j2 => by rw [hfvy296 _ (by omega)]; rw [hfvy25 _ (by omega)]; rw [hfvy20 _ (by omega)]; rw [hfvy13 _ (by omega)]⟩
            · have hscy403 : ¬ (tk_fa T n (tk_nx T n (tk_nx T n f)) = 3) := by omega
              refine z_aload_n C 3 dX7_readHour_80 rfl ?_
              refine z_iconst (z := 1) C dX7_readHour_81 rfl ?_
              refine z_bipush (z := 50) C dX7_readHour_82 (by decide) ?_
              have hgy404 := (hfvy25 (1) (by decide)).trans hgy24
              refine z_cV (As := [.int (zI (1)), .int (zI (50))]) (rest := []) (ci := 9) C (c_xNumber l D A cs tt N ad _ (by omega) _ _ _ tp T hT n hn (tk_nx T n (tk_nx T n (tk_nx T n f))) (by omega) hkvy25 hgy404 (1) (50) (by omega)) (lt_K hN (rfl : Nat.blt (2) 952 = true)) hay1 hkvy25 rfl rfl mv_yX7_number q_817 hd_yX7_number (by decide) (Nat.le_of_ble_eq_true rfl) (by decide) dX7_readHour_84 rfl (kI0 fun vy405 gvy405 hvy405 => ?_)
              obtain ⟨hvy405, hfvy405⟩ := hvy405
              rcases hvy405 with hvy405 | hvy405
              · obtain ⟨hnvy405, hrvy405, hkvy405⟩ := hvy405
                have hnby406 := tk_nx_b (T := T) (n := n) (f := (tk_nx T n (tk_nx T n (tk_nx T n f)))) (by omega)
                have hsby407 := tk_so_b T n (tk_nx T n (tk_nx T n (tk_nx T n (tk_nx T n f))))
                have htby408 := tk_to_b (T := T) (n := n) (f := (tk_nx T n (tk_nx T n (tk_nx T n (tk_nx T n f))))) (by omega)
                refine z_goto (tgt := 91) C dX7_readHour_87 (by decide) ?_
                refine z_istore (lv' := [(5, .int (zI (vy405))), (4, .int (zI (tk_fa T n (tk_nx T n (tk_nx T n f))))), (3, .int (zI (vy20))), (2, .int (zI (0))), (0, .ref (ad 2)), (1, .ref (ad 883))]) C dX7_readHour_91 (by decide) rfl ?_
                refine z_aload_n C 4 dX7_readHour_93 rfl ?_
                have hgy410 := (hfvy405 (1) (by decide)).trans hgy404
                refine z_cV (As := []) (rest := []) (ci := 9) C (c_xClose l D A cs tt N ad _ (by omega) _ _ _ tp T hT n hn (tk_nx T n (tk_nx T n (tk_nx T n (tk_nx T n f)))) (by omega) hkvy405 hgy410) (lt_K hN (rfl : Nat.blt (2) 952 = true)) hay1 hkvy405 rfl rfl mv_yX7_close q_821 hd_yX7_close (by decide) (Nat.le_of_ble_eq_true rfl) (by decide) dX7_readHour_94 rfl (kV0 fun gvy409 hvy409 => ?_)
                obtain ⟨hvy409, hfvy409⟩ := hvy409
                rcases hvy409 with hvy409 | hvy409
                · obtain ⟨hnvy409, hkvy409⟩ := hvy409
                  have hnby411 := tk_nx_b (T := T) (n := n) (f := (tk_nx T n (tk_nx T n (tk_nx T n (tk_nx T n f))))) (by omega)
                  have hsby412 := tk_so_b T n (tk_nx T n (tk_nx T n (tk_nx T n (tk_nx T n (tk_nx T n f)))))
                  have htby413 := tk_to_b (T := T) (n := n) (f := (tk_nx T n (tk_nx T n (tk_nx T n (tk_nx T n (tk_nx T n f)))))) (by omega)
                  refine z_aload_n C 4 dX7_readHour_97 rfl ?_
                  refine z_get (v := .int (zI (0))) C (lt_K hN (rfl : Nat.blt (2) 952 = true)) hay1 hkvy409 rfl inA_X7 1 (by decide) q_45 rfl rfl dX7_readHour_98 ?_
                  refine z_if_ne (tgt := 155) C dX7_readHour_101 (by decide) (by omega) (fun h => absurd h (by omega)) (fun _ => ?_)
                  refine z_aload_n C 5 dX7_readHour_104 rfl ?_
                  have hgy414 := (hfvy13 (883) (by decide)).trans hP.1
                  have hgy415 := (hfvy20 (883) (by decide)).trans hgy414
                  have hgy416 := (hfvy25 (883) (by decide)).trans hgy415
                  have hgy417 := (hfvy405 (883) (by decide)).trans hgy416
                  have hgy418 := (hfvy409 (883) (by decide)).trans hgy417
                  refine z_get (v := .ref (ad (883 + 3))) C (lt_K hN (rfl : Nat.blt (883) 952 = true)) hay3 hgy418 rfl inA_X5 5 (by decide) q_106 rfl rfl dX7_readHour_105 ?_
                  refine z_aload_n C 5 dX7_readHour_108 rfl ?_
                  refine z_get (v := .int (zI (ho))) C (lt_K hN (rfl : Nat.blt (883) 952 = true)) hay3 hgy418 rfl inA_X5 1 (by decide) q_94 rfl rfl dX7_readHour_109 ?_
                  refine z_iload_n C 3 dX7_readHour_112 rfl ?_
                  refine z_if_eq (tgt := 121) C dX7_readHour_113 (by decide) (by omega) (fun _ => ?_) (fun h => absurd h (by omega))
                  refine z_iload_n C 2 dX7_readHour_121 rfl ?_
                  have hgy419 := (hfvy13 (883 + 3) (by omega)).trans hP.2.2.2.1
                  have hgy420 := (hfvy20 (883 + 3) (by omega)).trans hgy419
                  have hgy421 := (hfvy25 (883 + 3) (by omega)).trans hgy420
                  have hgy422 := (hfvy405 (883 + 3) (by omega)).trans hgy421
                  have hgy423 := (hfvy409 (883 + 3) (by omega)).trans hgy422
                  refine z_iast C (lt_K hN (rfl : Nat.blt (883 + 3) 952 = true)) hay6 hgy423 ((ho).toNat) (by omega) (by omega) (by decide) dX7_readHour_122 (fun gy424 egy425 => ?_)
                  have hgy426 := up_s egy425
                  refine z_aload_n C 5 dX7_readHour_123 rfl ?_
                  have hgy427 := up_n egy425 hgy418 (ne_o (i := 883) (c := 0) (d := 3) rfl)
                  refine z_get (v := .ref (ad (883 + 4))) C (lt_K hN (rfl : Nat.blt (883) 952 = true)) hay3 hgy427 rfl inA_X5 6 (by decide) q_109 rfl rfl dX7_readHour_124 ?_
                  refine z_aload_n C 5 dX7_readHour_127 rfl ?_
                  refine z_get (v := .int (zI (ho))) C (lt_K hN (rfl : Nat.blt (883) 952 = true)) hay3 hgy427 rfl inA_X5 1 (by decide) q_94 rfl rfl dX7_readHour_128 ?_
                  refine z_iload C 1 dX7_readHour_131 rfl ?_
                  have hgy428 := (hfvy13 (883 + 4) (by omega)).trans hP.2.2.2.2.1
                  have hgy429 := (hfvy20 (883 + 4) (by omega)).trans hgy428
                  have hgy430 := (hfvy25 (883 + 4) (by omega)).trans hgy429
                  have hgy431 := (hfvy405 (883 + 4) (by omega)).trans hgy430
                  have hgy432 := (hfvy409 (883 + 4) (by omega)).trans hgy431
                  have hgy433 := up_n egy425 hgy432 (ne_o (i := 883) (c := 4) (d := 3) rfl)
                  refine z_iast C (lt_K hN (rfl : Nat.blt (883 + 4) 952 = true)) hay7 hgy433 ((ho).toNat) (by omega) (by omega) (by decide) dX7_readHour_133 (fun gy434 egy435 => ?_)
                  have hgy436 := up_s egy435
                  refine z_aload_n C 5 dX7_readHour_134 rfl ?_
                  have hgy437 := up_n egy435 hgy427 (ne_o (i := 883) (c := 0) (d := 4) rfl)
                  refine z_get (v := .ref (ad (883 + 5))) C (lt_K hN (rfl : Nat.blt (883) 952 = true)) hay3 hgy437 rfl inA_X5 7 (by decide) q_112 rfl rfl dX7_readHour_135 ?_
                  refine z_aload_n C 5 dX7_readHour_138 rfl ?_
                  refine z_get (v := .int (zI (ho))) C (lt_K hN (rfl : Nat.blt (883) 952 = true)) hay3 hgy437 rfl inA_X5 1 (by decide) q_94 rfl rfl dX7_readHour_139 ?_
                  refine z_iload C 0 dX7_readHour_142 rfl ?_
                  have hgy438 := (hfvy13 (883 + 5) (by omega)).trans hP.2.2.2.2.2.1
                  have hgy439 := (hfvy20 (883 + 5) (by omega)).trans hgy438
                  have hgy440 := (hfvy25 (883 + 5) (by omega)).trans hgy439
                  have hgy441 := (hfvy405 (883 + 5) (by omega)).trans hgy440
                  have hgy442 := (hfvy409 (883 + 5) (by omega)).trans hgy441
                  have hgy443 := up_n egy425 hgy442 (ne_o (i := 883) (c := 5) (d := 3) rfl)
                  have hgy444 := up_n egy435 hgy443 (ne_o (i := 883) (c := 5) (d := 4) rfl)
                  refine z_iast C (lt_K hN (rfl : Nat.blt (883 + 5) 952 = true)) hay8 hgy444 ((ho).toNat) (by omega) (by omega) (by decide) dX7_readHour_144 (fun gy445 egy446 => ?_)
                  have hgy447 := up_s egy446
                  refine z_aload_n C 5 dX7_readHour_145 rfl ?_
                  refine z_dup C dX7_readHour_146 rfl ?_
                  have hgy448 := up_n egy446 hgy437 (ne_o (i := 883) (c := 0) (d := 5) rfl)
                  refine z_get (v := .int (zI (ho))) C (lt_K hN (rfl : Nat.blt (883) 952 = true)) hay3 hgy448 rfl inA_X5 1 (by decide) q_94 rfl rfl dX7_readHour_147 ?_
                  refine z_iconst (z := 1) C dX7_readHour_150 rfl ?_
                  refine z_iadd C dX7_readHour_151 ?_
                  refine z_put (fs' := [.int (zI (sl)), .int (zI (ho + 1)), .int (zI (ua)), .ref (ad (883 + 1)), .ref (ad (883 + 2)), .ref (ad (883 + 3)), .ref (ad (883 + 4)), .ref (ad (883 + 5)), .ref (ad (883 + 6))]) C (lt_K hN (rfl : Nat.blt (883) 952 = true)) hay3 hgy448 tyX5 tyX5_ok nmX5 rfl inA_X5 1 (by decide) q_94 rfl rfl rfl rfl (Nat.le_of_ble_eq_true rfl) rfl dX7_readHour_152 (fun gy449 egy450 => ?_)
                  have hgy451 := up_s egy450
                  have hgy452 := up_n egy425 hkvy409 (by omega)
                  have hgy453 := up_n egy435 hgy452 (by omega)
                  have hgy454 := up_n egy446 hgy453 (by omega)
                  have hgy455 := up_n egy450 hgy454 (by decide)
                  have hgy456 := (hfvy409 (1) (by decide)).trans hgy410
                  have hgy457 := up_n egy425 hgy456 (by omega)
                  have hgy458 := up_n egy435 hgy457 (by omega)
                  have hgy459 := up_n egy446 hgy458 (by omega)
                  have hgy460 := up_n egy450 hgy459 (by decide)
                  have hgy461 := (hfvy13 (883 + 1) (by omega)).trans hP.2.1
                  have hgy462 := (hfvy20 (883 + 1) (by omega)).trans hgy461
                  have hgy463 := (hfvy25 (883 + 1) (by omega)).trans hgy462
                  have hgy464 := (hfvy405 (883 + 1) (by omega)).trans hgy463
                  have hgy465 := (hfvy409 (883 + 1) (by omega)).trans hgy464
                  have hgy466 := up_n egy425 hgy465 (ne_o (i := 883) (c := 1) (d := 3) rfl)
                  have hgy467 := up_n egy435 hgy466 (ne_o (i := 883) (c := 1) (d := 4) rfl)
                  have hgy468 := up_n egy446 hgy467 (ne_o (i := 883) (c := 1) (d := 5) rfl)
                  have hgy469 := up_n egy450 hgy468 (ne_o (i := 883) (c := 1) (d := 0) rfl)
                  have hgy470 := (hfvy13 (883 + 2) (by omega)).trans hP.2.2.1
                  have hgy471 := (hfvy20 (883 + 2) (by omega)).trans hgy470
                  have hgy472 := (hfvy25 (883 + 2) (by omega)).trans hgy471
                  have hgy473 := (hfvy405 (883 + 2) (by omega)).trans hgy472
                  have hgy474 := (hfvy409 (883 + 2) (by omega)).trans hgy473
                  have hgy475 := up_n egy425 hgy474 (ne_o (i := 883) (c := 2) (d := 3) rfl)
                  have hgy476 := up_n egy435 hgy475 (ne_o (i := 883) (c := 2) (d := 4) rfl)
                  have hgy477 := up_n egy446 hgy476 (ne_o (i := 883) (c := 2) (d := 5) rfl)
                  have hgy478 := up_n egy450 hgy477 (ne_o (i := 883) (c := 2) (d := 0) rfl)
                  have hgy479 := up_n egy435 hgy426 (ne_o (i := 883) (c := 3) (d := 4) rfl)
                  have hgy480 := up_n egy446 hgy479 (ne_o (i := 883) (c := 3) (d := 5) rfl)
                  have hgy481 := up_n egy450 hgy480 (ne_o (i := 883) (c := 3) (d := 0) rfl)
                  have hgy482 := up_n egy446 hgy436 (ne_o (i := 883) (c := 4) (d := 5) rfl)
                  have hgy483 := up_n egy450 hgy482 (ne_o (i := 883) (c := 4) (d := 0) rfl)
                  have hgy484 := up_n egy450 hgy447 (ne_o (i := 883) (c := 5) (d := 0) rfl)
                  have hgy485 := (hfvy13 (883 + 6) (by omega)).trans hP.2.2.2.2.2.2
                  have hgy486 := (hfvy20 (883 + 6) (by omega)).trans hgy485
                  have hgy487 := (hfvy25 (883 + 6) (by omega)).trans hgy486
                  have hgy488 := (hfvy405 (883 + 6) (by omega)).trans hgy487
                  have hgy489 := (hfvy409 (883 + 6) (by omega)).trans hgy488
                  have hgy490 := up_n egy425 hgy489 (ne_o (i := 883) (c := 6) (d := 3) rfl)
                  have hgy491 := up_n egy435 hgy490 (ne_o (i := 883) (c := 6) (d := 4) rfl)
                  have hgy492 := up_n egy446 hgy491 (ne_o (i := 883) (c := 6) (d := 5) rfl)
                  have hgy493 := up_n egy450 hgy492 (ne_o (i := 883) (c := 6) (d := 0) rfl)
                  exact z_vret C hr hlk dX7_readHour_155 (by decide) (by decide) ⟨rfl, rfl, rfl, Or.inl ⟨_, by simp only [cl_fin, cl_hour, cl_hour2, if_neg hscy11, if_neg hscy18, hnvy20, if_neg hzvy25, if_neg hscy403, hnvy405, if_pos hnvy409]; rfl, by show (f < n → f < (tk_nx T n (tk_nx T n (tk_nx T n (tk_nx T n (tk_nx T n f)))))) ∧ (tk_nx T n (tk_nx T n (tk_nx T n (tk_nx T n (tk_nx T n f))))) ≤ n; omega, ⟨_, hgy455⟩, ⟨hgy451, hgy469, hgy478, hgy481, hgy483, hgy484, hgy493⟩⟩, fun j j1 j2 => by rw [egy450, va_up_ne _ _ (by omega)]; rw [egy446, va_up_ne _ _ (by omega)]; rw [egy435, va_up_ne _ _ (by omega)]; rw [egy425, va_up_ne _ _ (by omega)]; rw [hfvy409 _ (by omega)]; rw [hfvy405 _ (by omega)]; rw [hfvy25 _ (by omega)]; rw [hfvy20 _ (by omega)]; rw [hfvy13 _ (by omega)]⟩
                · obtain ⟨hnvy409, hkvy409⟩ := hvy409
                  refine z_aload_n C 4 dX7_readHour_97 rfl ?_
                  refine z_get (v := .int (zI (1))) C (lt_K hN (rfl : Nat.blt (2) 952 = true)) hay1 hkvy409 rfl inA_X7 1 (by decide) q_45 rfl rfl dX7_readHour_98 ?_
                  refine z_if_ne (tgt := 155) C dX7_readHour_101 (by decide) (by omega) (fun _ => ?_) (fun h => absurd h (by omega))
                  have hgy494 := (hfvy409 (1) (by decide)).trans hgy410
                  have hgy495 := (hfvy13 (883) (by decide)).trans hP.1
                  have hgy496 := (hfvy20 (883) (by decide)).trans hgy495
                  have hgy497 := (hfvy25 (883) (by decide)).trans hgy496
                  have hgy498 := (hfvy405 (883) (by decide)).trans hgy497
                  have hgy499 := (hfvy409 (883) (by decide)).trans hgy498
                  have hgy500 := (hfvy13 (883 + 1) (by omega)).trans hP.2.1
                  have hgy501 := (hfvy20 (883 + 1) (by omega)).trans hgy500
                  have hgy502 := (hfvy25 (883 + 1) (by omega)).trans hgy501
                  have hgy503 := (hfvy405 (883 + 1) (by omega)).trans hgy502
                  have hgy504 := (hfvy409 (883 + 1) (by omega)).trans hgy503
                  have hgy505 := (hfvy13 (883 + 2) (by omega)).trans hP.2.2.1
                  have hgy506 := (hfvy20 (883 + 2) (by omega)).trans hgy505
                  have hgy507 := (hfvy25 (883 + 2) (by omega)).trans hgy506
                  have hgy508 := (hfvy405 (883 + 2) (by omega)).trans hgy507
                  have hgy509 := (hfvy409 (883 + 2) (by omega)).trans hgy508
                  have hgy510 := (hfvy13 (883 + 3) (by omega)).trans hP.2.2.2.1
                  have hgy511 := (hfvy20 (883 + 3) (by omega)).trans hgy510
                  have hgy512 := (hfvy25 (883 + 3) (by omega)).trans hgy511
                  have hgy513 := (hfvy405 (883 + 3) (by omega)).trans hgy512
                  have hgy514 := (hfvy409 (883 + 3) (by omega)).trans hgy513
                  have hgy515 := (hfvy13 (883 + 4) (by omega)).trans hP.2.2.2.2.1
                  have hgy516 := (hfvy20 (883 + 4) (by omega)).trans hgy515
                  have hgy517 := (hfvy25 (883 + 4) (by omega)).trans hgy516
                  have hgy518 := (hfvy405 (883 + 4) (by omega)).trans hgy517
                  have hgy519 := (hfvy409 (883 + 4) (by omega)).trans hgy518
                  have hgy520 := (hfvy13 (883 + 5) (by omega)).trans hP.2.2.2.2.2.1
                  have hgy521 := (hfvy20 (883 + 5) (by omega)).trans hgy520
                  have hgy522 := (hfvy25 (883 + 5) (by omega)).trans hgy521
                  have hgy523 := (hfvy405 (883 + 5) (by omega)).trans hgy522
                  have hgy524 := (hfvy409 (883 + 5) (by omega)).trans hgy523
                  have hgy525 := (hfvy13 (883 + 6) (by omega)).trans hP.2.2.2.2.2.2
                  have hgy526 := (hfvy20 (883 + 6) (by omega)).trans hgy525
                  have hgy527 := (hfvy25 (883 + 6) (by omega)).trans hgy526
                  have hgy528 := (hfvy405 (883 + 6) (by omega)).trans hgy527
                  have hgy529 := (hfvy409 (883 + 6) (by omega)).trans hgy528
                  exact z_vret C hr hlk dX7_readHour_155 (by decide) (by decide) ⟨rfl, rfl, rfl, Or.inr ⟨(1, (tk_nx T n (tk_nx T n (tk_nx T n (tk_nx T n f))))), by simp only [cl_fin, cl_hour, cl_hour2, if_neg hscy11, if_neg hscy18, hnvy20, if_neg hzvy25, if_neg hscy403, hnvy405, if_neg hnvy409], ⟨by show 1 ≤ 1 ∧ 1 ≤ 5; omega, _, _, _, _, _, _, by omega, by omega, hkvy409, hgy494⟩, ⟨hgy499, hgy504, hgy509, hgy514, hgy519, hgy524, hgy529⟩⟩, fun j j1 j2 => by rw [hfvy409 _ (by omega)]; rw [hfvy405 _ (by omega)]; rw [hfvy25 _ (by omega)]; rw [hfvy20 _ (by omega)]; rw [hfvy13 _ (by omega)]⟩
              · obtain ⟨cvy405, hcvy405, hnvy405, rfl, hkvy405⟩ := hvy405
                refine z_goto (tgt := 91) C dX7_readHour_87 (by decide) ?_
                refine z_istore (lv' := [(5, .int (zI (0))), (4, .int (zI (tk_fa T n (tk_nx T n (tk_nx T n f))))), (3, .int (zI (vy20))), (2, .int (zI (0))), (0, .ref (ad 2)), (1, .ref (ad 883))]) C dX7_readHour_91 (by decide) rfl ?_
                refine z_aload_n C 4 dX7_readHour_93 rfl ?_
                refine z_cV (As := []) (rest := []) (ci := 9) C (c_fClose l D A cs tt N ad _ (by omega) _ _ _ _ _ _ _ _ (by omega) (by omega) hkvy405) (lt_K hN (rfl : Nat.blt (2) 952 = true)) hay1 hkvy405 rfl rfl mv_yX7_close q_821 hd_yX7_close (by decide) (Nat.le_of_ble_eq_true rfl) (by decide) dX7_readHour_94 rfl (kV0 fun gvy530 hvy530 => ?_)
                obtain rfl := hvy530
                refine z_aload_n C 4 dX7_readHour_97 rfl ?_
                refine z_get (v := .int (zI (cvy405))) C (lt_K hN (rfl : Nat.blt (2) 952 = true)) hay1 hkvy405 rfl inA_X7 1 (by decide) q_45 rfl rfl dX7_readHour_98 ?_
                refine z_if_ne (tgt := 155) C dX7_readHour_101 (by decide) (by omega) (fun _ => ?_) (fun h => absurd h (by omega))
                have hgy531 := (hfvy405 (1) (by decide)).trans hgy404
                have hgy532 := (hfvy13 (883) (by decide)).trans hP.1
                have hgy533 := (hfvy20 (883) (by decide)).trans hgy532
                have hgy534 := (hfvy25 (883) (by decide)).trans hgy533
                have hgy535 := (hfvy405 (883) (by decide)).trans hgy534
                have hgy536 := (hfvy13 (883 + 1) (by omega)).trans hP.2.1
                have hgy537 := (hfvy20 (883 + 1) (by omega)).trans hgy536
                have hgy538 := (hfvy25 (883 + 1) (by omega)).trans hgy537
                have hgy539 := (hfvy405 (883 + 1) (by omega)).trans hgy538
                have hgy540 := (hfvy13 (883 + 2) (by omega)).trans hP.2.2.1
                have hgy541 := (hfvy20 (883 + 2) (by omega)).trans hgy540
                have hgy542 := (hfvy25 (883 + 2) (by omega)).trans hgy541
                have hgy543 := (hfvy405 (883 + 2) (by omega)).trans hgy542
                have hgy544 := (hfvy13 (883 + 3) (by omega)).trans hP.2.2.2.1
                have hgy545 := (hfvy20 (883 + 3) (by omega)).trans hgy544
                have hgy546 := (hfvy25 (883 + 3) (by omega)).trans hgy545
                have hgy547 := (hfvy405 (883 + 3) (by omega)).trans hgy546
                have hgy548 := (hfvy13 (883 + 4) (by omega)).trans hP.2.2.2.2.1
                have hgy549 := (hfvy20 (883 + 4) (by omega)).trans hgy548
                have hgy550 := (hfvy25 (883 + 4) (by omega)).trans hgy549
                have hgy551 := (hfvy405 (883 + 4) (by omega)).trans hgy550
                have hgy552 := (hfvy13 (883 + 5) (by omega)).trans hP.2.2.2.2.2.1
                have hgy553 := (hfvy20 (883 + 5) (by omega)).trans hgy552
                have hgy554 := (hfvy25 (883 + 5) (by omega)).trans hgy553
                have hgy555 := (hfvy405 (883 + 5) (by omega)).trans hgy554
                have hgy556 := (hfvy13 (883 + 6) (by omega)).trans hP.2.2.2.2.2.2
                have hgy557 := (hfvy20 (883 + 6) (by omega)).trans hgy556
                have hgy558 := (hfvy25 (883 + 6) (by omega)).trans hgy557
                have hgy559 := (hfvy405 (883 + 6) (by omega)).trans hgy558
                exact z_vret C hr hlk dX7_readHour_155 (by decide) (by decide) ⟨rfl, rfl, rfl, Or.inr ⟨(cvy405, (tk_nx T n (tk_nx T n (tk_nx T n f)))), by simp only [cl_fin, cl_hour, cl_hour2, if_neg hscy11, if_neg hscy18, hnvy20, if_neg hzvy25, if_neg hscy403, hnvy405], ⟨by show 1 ≤ cvy405 ∧ cvy405 ≤ 5; omega, _, _, _, _, _, _, by omega, by omega, hkvy405, hgy531⟩, ⟨hgy535, hgy539, hgy543, hgy547, hgy551, hgy555, hgy559⟩⟩, fun j j1 j2 => by rw [hfvy405 _ (by omega)]; rw [hfvy25 _ (by omega)]; rw [hfvy20 _ (by omega)]; rw [hfvy13 _ (by omega)]⟩
      · obtain ⟨cvy20, hcvy20, hnvy20, rfl, hkvy20⟩ := hvy20
        refine z_istore_n (lv' := [(3, .int (zI (0))), (2, .int (zI (0))), (0, .ref (ad 2)), (1, .ref (ad 883))]) C dX7_readHour_61 rfl (by decide) rfl ?_
        refine z_aload_n C 2 dX7_readHour_62 rfl ?_
        have hgy561 := (hfvy20 (1) (by decide)).trans hgy19
        have hruny560 : okRun cs ad gvy20 (cvy20) tp := ⟨_, _, _, _, _, _, _, by omega, by omega, hkvy20, hgy561⟩
        refine z_cV (As := []) (rest := []) (ci := 9) C (c_fFall l D A cs tt N ad _ (by omega) _ tp hruny560 (by omega) ) (lt_K hN (rfl : Nat.blt (2) 952 = true)) hay1 hkvy20 rfl rfl mv_yX7_readFall q_848 hd_yX7_readFall (by decide) (Nat.le_of_ble_eq_true rfl) (by decide) dX7_readHour_63 rfl (kI0 fun vy562 gvy562 hvy562 => ?_)
        obtain ⟨hvy562, rfl⟩ := hvy562
        refine z_istore (lv' := [(4, .int (zI (vy562))), (3, .int (zI (0))), (2, .int (zI (0))), (0, .ref (ad 2)), (1, .ref (ad 883))]) C dX7_readHour_66 (by decide) rfl ?_
        refine z_iload C 0 dX7_readHour_68 rfl ?_
        refine z_iconst (z := 1) C dX7_readHour_70 rfl ?_
        refine z_icmp_eq (tgt := 80) C dX7_readHour_71 (by decide) (by omega) (by omega) (fun hby563 => ?_) (fun hby563 => ?_)
        · refine z_aload_n C 3 dX7_readHour_80 rfl ?_
          refine z_iconst (z := 1) C dX7_readHour_81 rfl ?_
          refine z_bipush (z := 50) C dX7_readHour_82 (by decide) ?_
          have hruny564 : okRun cs ad gvy20 (cvy20) tp := ⟨_, _, _, _, _, _, _, by omega, by omega, hkvy20, hgy561⟩
          refine z_cV (As := [.int (zI (1)), .int (zI (50))]) (rest := []) (ci := 9) C (c_fNumber l D A cs tt N ad _ (by omega) _ tp hruny564 (by omega) (1) (by omega) (50) (by omega)) (lt_K hN (rfl : Nat.blt (2) 952 = true)) hay1 hkvy20 rfl rfl mv_yX7_number q_817 hd_yX7_number (by decide) (Nat.le_of_ble_eq_true rfl) (by decide) dX7_readHour_84 rfl (kI0 fun vy565 gvy565 hvy565 => ?_)
          obtain ⟨hvy565, rfl⟩ := hvy565
          refine z_goto (tgt := 91) C dX7_readHour_87 (by decide) ?_
          refine z_istore (lv' := [(5, .int (zI (vy565))), (4, .int (zI (vy562))), (3, .int (zI (0))), (2, .int (zI (0))), (0, .ref (ad 2)), (1, .ref (ad 883))]) C dX7_readHour_91 (by decide) rfl ?_
          refine z_aload_n C 4 dX7_readHour_93 rfl ?_
          refine z_cV (As := []) (rest := []) (ci := 9) C (c_fClose l D A cs tt N ad _ (by omega) _ _ _ _ _ _ _ _ (by omega) (by omega) hkvy20) (lt_K hN (rfl : Nat.blt (2) 952 = true)) hay1 hkvy20 rfl rfl mv_yX7_close q_821 hd_yX7_close (by decide) (Nat.le_of_ble_eq_true rfl) (by decide) dX7_readHour_94 rfl (kV0 fun gvy566 hvy566 => ?_)
          obtain rfl := hvy566
          refine z_aload_n C 4 dX7_readHour_97 rfl ?_
          refine z_get (v := .int (zI (cvy20))) C (lt_K hN (rfl : Nat.blt (2) 952 = true)) hay1 hkvy20 rfl inA_X7 1 (by decide) q_45 rfl rfl dX7_readHour_98 ?_
          refine z_if_ne (tgt := 155) C dX7_readHour_101 (by decide) (by omega) (fun _ => ?_) (fun h => absurd h (by omega))
          have hgy567 := (hfvy13 (883) (by decide)).trans hP.1
          have hgy568 := (hfvy20 (883) (by decide)).trans hgy567
          have hgy569 := (hfvy13 (883 + 1) (by omega)).trans hP.2.1
          have hgy570 := (hfvy20 (883 + 1) (by omega)).trans hgy569
          have hgy571 := (hfvy13 (883 + 2) (by omega)).trans hP.2.2.1
          have hgy572 := (hfvy20 (883 + 2) (by omega)).trans hgy571
          have hgy573 := (hfvy13 (883 + 3) (by omega)).trans hP.2.2.2.1
          have hgy574 := (hfvy20 (883 + 3) (by omega)).trans hgy573
          have hgy575 := (hfvy13 (883 + 4) (by omega)).trans hP.2.2.2.2.1
          have hgy576 := (hfvy20 (883 + 4) (by omega)).trans hgy575
          have hgy577 := (hfvy13 (883 + 5) (by omega)).trans hP.2.2.2.2.2.1
          have hgy578 := (hfvy20 (883 + 5) (by omega)).trans hgy577
          have hgy579 := (hfvy13 (883 + 6) (by omega)).trans hP.2.2.2.2.2.2
          have hgy580 := (hfvy20 (883 + 6) (by omega)).trans hgy579
          exact z_vret C hr hlk dX7_readHour_155 (by decide) (by decide) ⟨rfl, rfl, rfl, Or.inr ⟨(cvy20, (tk_nx T n f)), by simp only [cl_fin, cl_hour, cl_hour2, if_neg hscy11, if_neg hscy18, hnvy20], ⟨by show 1 ≤ cvy20 ∧ cvy20 ≤ 5; omega, _, _, _, _, _, _, by omega, by omega, hkvy20, hgy561⟩, ⟨hgy568, hgy570, hgy572, hgy574, hgy576, hgy578, hgy580⟩⟩, fun j j1 j2 => by rw [hfvy20 _ (by omega)]; rw [hfvy13 _ (by omega)]⟩
        · refine z_iload C 0 dX7_readHour_74 rfl ?_
          refine z_iconst (z := 2) C dX7_readHour_76 rfl ?_
          refine z_icmp_ne (tgt := 90) C dX7_readHour_77 (by decide) (by omega) (by omega) (fun hby581 => ?_) (fun hby581 => ?_)
          · refine z_iconst (z := 0) C dX7_readHour_90 rfl ?_
            refine z_istore (lv' := [(5, .int (zI (0))), (4, .int (zI (vy562))), (3, .int (zI (0))), (2, .int (zI (0))), (0, .ref (ad 2)), (1, .ref (ad 883))]) C dX7_readHour_91 (by decide) rfl ?_
            refine z_aload_n C 4 dX7_readHour_93 rfl ?_
            refine z_cV (As := []) (rest := []) (ci := 9) C (c_fClose l D A cs tt N ad _ (by omega) _ _ _ _ _ _ _ _ (by omega) (by omega) hkvy20) (lt_K hN (rfl : Nat.blt (2) 952 = true)) hay1 hkvy20 rfl rfl mv_yX7_close q_821 hd_yX7_close (by decide) (Nat.le_of_ble_eq_true rfl) (by decide) dX7_readHour_94 rfl (kV0 fun gvy582 hvy582 => ?_)
            obtain rfl := hvy582
            refine z_aload_n C 4 dX7_readHour_97 rfl ?_
            refine z_get (v := .int (zI (cvy20))) C (lt_K hN (rfl : Nat.blt (2) 952 = true)) hay1 hkvy20 rfl inA_X7 1 (by decide) q_45 rfl rfl dX7_readHour_98 ?_
            refine z_if_ne (tgt := 155) C dX7_readHour_101 (by decide) (by omega) (fun _ => ?_) (fun h => absurd h (by omega))
            have hgy583 := (hfvy13 (883) (by decide)).trans hP.1
            have hgy584 := (hfvy20 (883) (by decide)).trans hgy583
            have hgy585 := (hfvy13 (883 + 1) (by omega)).trans hP.2.1
            have hgy586 := (hfvy20 (883 + 1) (by omega)).trans hgy585
            have hgy587 := (hfvy13 (883 + 2) (by omega)).trans hP.2.2.1
            have hgy588 := (hfvy20 (883 + 2) (by omega)).trans hgy587
            have hgy589 := (hfvy13 (883 + 3) (by omega)).trans hP.2.2.2.1
            have hgy590 := (hfvy20 (883 + 3) (by omega)).trans hgy589
            have hgy591 := (hfvy13 (883 + 4) (by omega)).trans hP.2.2.2.2.1
            have hgy592 := (hfvy20 (883 + 4) (by omega)).trans hgy591
            have hgy593 := (hfvy13 (883 + 5) (by omega)).trans hP.2.2.2.2.2.1
            have hgy594 := (hfvy20 (883 + 5) (by omega)).trans hgy593
            have hgy595 := (hfvy13 (883 + 6) (by omega)).trans hP.2.2.2.2.2.2
            have hgy596 := (hfvy20 (883 + 6) (by omega)).trans hgy595
            exact z_vret C hr hlk dX7_readHour_155 (by decide) (by decide) ⟨rfl, rfl, rfl, Or.inr ⟨(cvy20, (tk_nx T n f)), by simp only [cl_fin, cl_hour, cl_hour2, if_neg hscy11, if_neg hscy18, hnvy20], ⟨by show 1 ≤ cvy20 ∧ cvy20 ≤ 5; omega, _, _, _, _, _, _, by omega, by omega, hkvy20, hgy561⟩, ⟨hgy584, hgy586, hgy588, hgy590, hgy592, hgy594, hgy596⟩⟩, fun j j1 j2 => by rw [hfvy20 _ (by omega)]; rw [hfvy13 _ (by omega)]⟩
          · refine z_aload_n C 3 dX7_readHour_80 rfl ?_
            refine z_iconst (z := 1) C dX7_readHour_81 rfl ?_
            refine z_bipush (z := 50) C dX7_readHour_82 (by decide) ?_
            have hruny597 : okRun cs ad gvy20 (cvy20) tp := ⟨_, _, _, _, _, _, _, by omega, by omega, hkvy20, hgy561⟩
            refine z_cV (As := [.int (zI (1)), .int (zI (50))]) (rest := []) (ci := 9) C (c_fNumber l D A cs tt N ad _ (by omega) _ tp hruny597 (by omega) (1) (by omega) (50) (by omega)) (lt_K hN (rfl : Nat.blt (2) 952 = true)) hay1 hkvy20 rfl rfl mv_yX7_number q_817 hd_yX7_number (by decide) (Nat.le_of_ble_eq_true rfl) (by decide) dX7_readHour_84 rfl (kI0 fun vy598 gvy598 hvy598 => ?_)
            obtain ⟨hvy598, rfl⟩ := hvy598
            refine z_goto (tgt := 91) C dX7_readHour_87 (by decide) ?_
            refine z_istore (lv' := [(5, .int (zI (vy598))), (4, .int (zI (vy562))), (3, .int (zI (0))), (2, .int (zI (0))), (0, .ref (ad 2)), (1, .ref (ad 883))]) C dX7_readHour_91 (by decide) rfl ?_
            refine z_aload_n C 4 dX7_readHour_93 rfl ?_
            refine z_cV (As := []) (rest := []) (ci := 9) C (c_fClose l D A cs tt N ad _ (by omega) _ _ _ _ _ _ _ _ (by omega) (by omega) hkvy20) (lt_K hN (rfl : Nat.blt (2) 952 = true)) hay1 hkvy20 rfl rfl mv_yX7_close q_821 hd_yX7_close (by decide) (Nat.le_of_ble_eq_true rfl) (by decide) dX7_readHour_94 rfl (kV0 fun gvy599 hvy599 => ?_)
            obtain rfl := hvy599
            refine z_aload_n C 4 dX7_readHour_97 rfl ?_
            refine z_get (v := .int (zI (cvy20))) C (lt_K hN (rfl : Nat.blt (2) 952 = true)) hay1 hkvy20 rfl inA_X7 1 (by decide) q_45 rfl rfl dX7_readHour_98 ?_
            refine z_if_ne (tgt := 155) C dX7_readHour_101 (by decide) (by omega) (fun _ => ?_) (fun h => absurd h (by omega))
            have hgy600 := (hfvy13 (883) (by decide)).trans hP.1
            have hgy601 := (hfvy20 (883) (by decide)).trans hgy600
            have hgy602 := (hfvy13 (883 + 1) (by omega)).trans hP.2.1
            have hgy603 := (hfvy20 (883 + 1) (by omega)).trans hgy602
            have hgy604 := (hfvy13 (883 + 2) (by omega)).trans hP.2.2.1
            have hgy605 := (hfvy20 (883 + 2) (by omega)).trans hgy604
            have hgy606 := (hfvy13 (883 + 3) (by omega)).trans hP.2.2.2.1
            have hgy607 := (hfvy20 (883 + 3) (by omega)).trans hgy606
            have hgy608 := (hfvy13 (883 + 4) (by omega)).trans hP.2.2.2.2.1
            have hgy609 := (hfvy20 (883 + 4) (by omega)).trans hgy608
            have hgy610 := (hfvy13 (883 + 5) (by omega)).trans hP.2.2.2.2.2.1
            have hgy611 := (hfvy20 (883 + 5) (by omega)).trans hgy610
            have hgy612 := (hfvy13 (883 + 6) (by omega)).trans hP.2.2.2.2.2.2
            have hgy613 := (hfvy20 (883 + 6) (by omega)).trans hgy612
            exact z_vret C hr hlk dX7_readHour_155 (by decide) (by decide) ⟨rfl, rfl, rfl, Or.inr ⟨(cvy20, (tk_nx T n f)), by simp only [cl_fin, cl_hour, cl_hour2, if_neg hscy11, if_neg hscy18, hnvy20], ⟨by show 1 ≤ cvy20 ∧ cvy20 ≤ 5; omega, _, _, _, _, _, _, by omega, by omega, hkvy20, hgy561⟩, ⟨hgy601, hgy603, hgy605, hgy607, hgy609, hgy611, hgy613⟩⟩, fun j j1 j2 => by rw [hfvy20 _ (by omega)]; rw [hfvy13 _ (by omega)]⟩
    · have hscy614 : (tk_so T n (tk_nx T n f) = 4) := by omega
      refine z_iconst (z := 1) C dX7_readHour_30 rfl ?_
      refine z_goto (tgt := 35) C dX7_readHour_31 (by decide) ?_
      refine z_istore_n (lv' := [(2, .int (zI (1))), (0, .ref (ad 2)), (1, .ref (ad 883))]) C dX7_readHour_35 rfl (by decide) rfl ?_
      refine z_iload_n C 0 dX7_readHour_36 rfl ?_
      refine z_if_eq (tgt := 44) C dX7_readHour_37 (by decide) (by omega) (fun h => absurd h (by omega)) (fun _ => ?_)
      refine z_aload_n C 1 dX7_readHour_40 rfl ?_
      have hgy616 := (hfvy13 (1) (by decide)).trans hg1
      refine z_cV (As := []) (rest := []) (ci := 9) C (c_xTake l D A cs tt N ad _ (by omega) _ _ _ tp T hT n hn (tk_nx T n f) (by omega) hkvy13 hgy616) (lt_K hN (rfl : Nat.blt (2) 952 = true)) hay1 hkvy13 rfl rfl mv_yX7_take q_813 hd_yX7_take (by decide) (Nat.le_of_ble_eq_true rfl) (by decide) dX7_readHour_41 rfl (kV0 fun gvy615 hvy615 => ?_)
      obtain ⟨hkvy615, hfvy615⟩ := hvy615
      have hnby617 := tk_nx_b (T := T) (n := n) (f := (tk_nx T n f)) (by omega)
      have hsby618 := tk_so_b T n (tk_nx T n (tk_nx T n f))
      have htby619 := tk_to_b (T := T) (n := n) (f := (tk_nx T n (tk_nx T n f))) (by omega)
      refine z_aload_n C 1 dX7_readHour_44 rfl ?_
      refine z_iconst (z := 0) C dX7_readHour_45 rfl ?_
      refine z_iload_n C 0 dX7_readHour_46 rfl ?_
      refine z_if_eq (tgt := 56) C dX7_readHour_47 (by decide) (by omega) (fun h => absurd h (by omega)) (fun _ => ?_)
      refine z_sipush (z := 300) C dX7_readHour_50 (by decide) ?_
      refine z_goto (tgt := 58) C dX7_readHour_53 (by decide) ?_
      have hgy620 := (hfvy615 (1) (by decide)).trans hgy616
      refine z_cV (As := [.int (zI (0)), .int (zI (300))]) (rest := []) (ci := 9) C (c_xNumber l D A cs tt N ad _ (by omega) _ _ _ tp T hT n hn (tk_nx T n (tk_nx T n f)) (by omega) hkvy615 hgy620 (0) (300) (by omega)) (lt_K hN (rfl : Nat.blt (2) 952 = true)) hay1 hkvy615 rfl rfl mv_yX7_number q_817 hd_yX7_number (by decide) (Nat.le_of_ble_eq_true rfl) (by decide) dX7_readHour_58 rfl (kI0 fun vy621 gvy621 hvy621 => ?_)
      obtain ⟨hvy621, hfvy621⟩ := hvy621
      rcases hvy621 with hvy621 | hvy621
      · obtain ⟨hnvy621, hrvy621, hkvy621⟩ := hvy621
        have hnby622 := tk_nx_b (T := T) (n := n) (f := (tk_nx T n (tk_nx T n f))) (by omega)
        have hsby623 := tk_so_b T n (tk_nx T n (tk_nx T n (tk_nx T n f)))
        have htby624 := tk_to_b (T := T) (n := n) (f := (tk_nx T n (tk_nx T n (tk_nx T n f)))) (by omega)
        refine z_istore_n (lv' := [(3, .int (zI (vy621))), (2, .int (zI (1))), (0, .ref (ad 2)), (1, .ref (ad 883))]) C dX7_readHour_61 rfl (by decide) rfl ?_
        refine z_aload_n C 2 dX7_readHour_62 rfl ?_
        have hgy625 := (hfvy621 (1) (by decide)).trans hgy620
        refine z_cV (As := []) (rest := []) (ci := 9) C (c_xFall l D A cs tt N ad _ (by omega) _ _ _ tp T hT n hn (tk_nx T n (tk_nx T n (tk_nx T n f))) (by omega) hkvy621 hgy625) (lt_K hN (rfl : Nat.blt (2) 952 = true)) hay1 hkvy621 rfl rfl mv_yX7_readFall q_848 hd_yX7_readFall (by decide) (Nat.le_of_ble_eq_true rfl) (by decide) dX7_readHour_63 rfl (kI0 fun vy626 gvy626 hvy626 => ?_)
        obtain ⟨hvvy626, hbvy626, hvy626, hfvy626⟩ := hvy626
        rcases hvy626 with hvy626 | hvy626
        · obtain ⟨rfl, hkvy626⟩ := hvy626
          refine z_istore (lv' := [(4, .int (zI (0))), (3, .int (zI (vy621))), (2, .int (zI (1))), (0, .ref (ad 2)), (1, .ref (ad 883))]) C dX7_readHour_66 (by decide) rfl ?_
          refine z_iload C 0 dX7_readHour_68 rfl ?_
          refine z_iconst (z := 1) C dX7_readHour_70 rfl ?_
          refine z_icmp_eq (tgt := 80) C dX7_readHour_71 (by decide) (by omega) (by omega) (fun h => absurd h (by omega)) (fun _ => ?_)
          refine z_iload C 0 dX7_readHour_74 rfl ?_
          refine z_iconst (z := 2) C dX7_readHour_76 rfl ?_
          refine z_icmp_ne (tgt := 90) C dX7_readHour_77 (by decide) (by omega) (by omega) (fun _ => ?_) (fun h => absurd h (by omega))
          refine z_iconst (z := 0) C dX7_readHour_90 rfl ?_
          refine z_istore (lv' := [(5, .int (zI (0))), (4, .int (zI (0))), (3, .int (zI (vy621))), (2, .int (zI (1))), (0, .ref (ad 2)), (1, .ref (ad 883))]) C dX7_readHour_91 (by decide) rfl ?_
          refine z_aload_n C 4 dX7_readHour_93 rfl ?_
          have hgy628 := (hfvy626 (1) (by decide)).trans hgy625
          refine z_cV (As := []) (rest := []) (ci := 9) C (c_xClose l D A cs tt N ad _ (by omega) _ _ _ tp T hT n hn (tk_nx T n (tk_nx T n (tk_nx T n f))) (by omega) hkvy626 hgy628) (lt_K hN (rfl : Nat.blt (2) 952 = true)) hay1 hkvy626 rfl rfl mv_yX7_close q_821 hd_yX7_close (by decide) (Nat.le_of_ble_eq_true rfl) (by decide) dX7_readHour_94 rfl (kV0 fun gvy627 hvy627 => ?_)
          obtain ⟨hvy627, hfvy627⟩ := hvy627
          rcases hvy627 with hvy627 | hvy627
          · obtain ⟨hnvy627, hkvy627⟩ := hvy627
            have hnby629 := tk_nx_b (T := T) (n := n) (f := (tk_nx T n (tk_nx T n (tk_nx T n f)))) (by omega)
            have hsby630 := tk_so_b T n (tk_nx T n (tk_nx T n (tk_nx T n (tk_nx T n f))))
            have htby631 := tk_to_b (T := T) (n := n) (f := (tk_nx T n (tk_nx T n (tk_nx T n (tk_nx T n f))))) (by omega)
            refine z_aload_n C 4 dX7_readHour_97 rfl ?_
            refine z_get (v := .int (zI (0))) C (lt_K hN (rfl : Nat.blt (2) 952 = true)) hay1 hkvy627 rfl inA_X7 1 (by decide) q_45 rfl rfl dX7_readHour_98 ?_
            refine z_if_ne (tgt := 155) C dX7_readHour_101 (by decide) (by omega) (fun h => absurd h (by omega)) (fun _ => ?_)
            refine z_aload_n C 5 dX7_readHour_104 rfl ?_
            have hgy632 := (hfvy13 (883) (by decide)).trans hP.1
            have hgy633 := (hfvy615 (883) (by decide)).trans hgy632
            have hgy634 := (hfvy621 (883) (by decide)).trans hgy633
            have hgy635 := (hfvy626 (883) (by decide)).trans hgy634
            have hgy636 := (hfvy627 (883) (by decide)).trans hgy635
            refine z_get (v := .ref (ad (883 + 3))) C (lt_K hN (rfl : Nat.blt (883) 952 = true)) hay3 hgy636 rfl inA_X5 5 (by decide) q_106 rfl rfl dX7_readHour_105 ?_
            refine z_aload_n C 5 dX7_readHour_108 rfl ?_
            refine z_get (v := .int (zI (ho))) C (lt_K hN (rfl : Nat.blt (883) 952 = true)) hay3 hgy636 rfl inA_X5 1 (by decide) q_94 rfl rfl dX7_readHour_109 ?_
            refine z_iload_n C 3 dX7_readHour_112 rfl ?_
            refine z_if_eq (tgt := 121) C dX7_readHour_113 (by decide) (by omega) (fun h => absurd h (by omega)) (fun _ => ?_)
            refine z_iload_n C 2 dX7_readHour_116 rfl ?_
            refine z_ineg C dX7_readHour_117 ?_
            refine z_goto (tgt := 122) C dX7_readHour_118 (by decide) ?_
            have hgy637 := (hfvy13 (883 + 3) (by omega)).trans hP.2.2.2.1
            have hgy638 := (hfvy615 (883 + 3) (by omega)).trans hgy637
            have hgy639 := (hfvy621 (883 + 3) (by omega)).trans hgy638
            have hgy640 := (hfvy626 (883 + 3) (by omega)).trans hgy639
            have hgy641 := (hfvy627 (883 + 3) (by omega)).trans hgy640
            refine z_iast C (lt_K hN (rfl : Nat.blt (883 + 3) 952 = true)) hay6 hgy641 ((ho).toNat) (by omega) (by omega) (by decide) dX7_readHour_122 (fun gy642 egy643 => ?_)
            have hgy644 := up_s egy643
            refine z_aload_n C 5 dX7_readHour_123 rfl ?_
            have hgy645 := up_n egy643 hgy636 (ne_o (i := 883) (c := 0) (d := 3) rfl)
            refine z_get (v := .ref (ad (883 + 4))) C (lt_K hN (rfl : Nat.blt (883) 952 = true)) hay3 hgy645 rfl inA_X5 6 (by decide) q_109 rfl rfl dX7_readHour_124 ?_
            refine z_aload_n C 5 dX7_readHour_127 rfl ?_
            refine z_get (v := .int (zI (ho))) C (lt_K hN (rfl : Nat.blt (883) 952 = true)) hay3 hgy645 rfl inA_X5 1 (by decide) q_94 rfl rfl dX7_readHour_128 ?_
            refine z_iload C 1 dX7_readHour_131 rfl ?_
            have hgy646 := (hfvy13 (883 + 4) (by omega)).trans hP.2.2.2.2.1
            have hgy647 := (hfvy615 (883 + 4) (by omega)).trans hgy646
            have hgy648 := (hfvy621 (883 + 4) (by omega)).trans hgy647
            have hgy649 := (hfvy626 (883 + 4) (by omega)).trans hgy648
            have hgy650 := (hfvy627 (883 + 4) (by omega)).trans hgy649
            have hgy651 := up_n egy643 hgy650 (ne_o (i := 883) (c := 4) (d := 3) rfl)
            refine z_iast C (lt_K hN (rfl : Nat.blt (883 + 4) 952 = true)) hay7 hgy651 ((ho).toNat) (by omega) (by omega) (by decide) dX7_readHour_133 (fun gy652 egy653 => ?_)
            have hgy654 := up_s egy653
            refine z_aload_n C 5 dX7_readHour_134 rfl ?_
            have hgy655 := up_n egy653 hgy645 (ne_o (i := 883) (c := 0) (d := 4) rfl)
            refine z_get (v := .ref (ad (883 + 5))) C (lt_K hN (rfl : Nat.blt (883) 952 = true)) hay3 hgy655 rfl inA_X5 7 (by decide) q_112 rfl rfl dX7_readHour_135 ?_
            refine z_aload_n C 5 dX7_readHour_138 rfl ?_
            refine z_get (v := .int (zI (ho))) C (lt_K hN (rfl : Nat.blt (883) 952 = true)) hay3 hgy655 rfl inA_X5 1 (by decide) q_94 rfl rfl dX7_readHour_139 ?_
            refine z_iload C 0 dX7_readHour_142 rfl ?_
            have hgy656 := (hfvy13 (883 + 5) (by omega)).trans hP.2.2.2.2.2.1
            have hgy657 := (hfvy615 (883 + 5) (by omega)).trans hgy656
            have hgy658 := (hfvy621 (883 + 5) (by omega)).trans hgy657
            have hgy659 := (hfvy626 (883 + 5) (by omega)).trans hgy658
            have hgy660 := (hfvy627 (883 + 5) (by omega)).trans hgy659
            have hgy661 := up_n egy643 hgy660 (ne_o (i := 883) (c := 5) (d := 3) rfl)
            have hgy662 := up_n egy653 hgy661 (ne_o (i := 883) (c := 5) (d := 4) rfl)
            refine z_iast C (lt_K hN (rfl : Nat.blt (883 + 5) 952 = true)) hay8 hgy662 ((ho).toNat) (by omega) (by omega) (by decide) dX7_readHour_144 (fun gy663 egy664 => ?_)
            have hgy665 := up_s egy664
            refine z_aload_n C 5 dX7_readHour_145 rfl ?_
            refine z_dup C dX7_readHour_146 rfl ?_
            have hgy666 := up_n egy664 hgy655 (ne_o (i := 883) (c := 0) (d := 5) rfl)
            refine z_get (v := .int (zI (ho))) C (lt_K hN (rfl : Nat.blt (883) 952 = true)) hay3 hgy666 rfl inA_X5 1 (by decide) q_94 rfl rfl dX7_readHour_147 ?_
            refine z_iconst (z := 1) C dX7_readHour_150 rfl ?_
            refine z_iadd C dX7_readHour_151 ?_
            refine z_put (fs' := [.int (zI (sl)), .int (zI (ho + 1)), .int (zI (ua)), .ref (ad (883 + 1)), .ref (ad (883 + 2)), .ref (ad (883 + 3)), .ref (ad (883 + 4)), .ref (ad (883 + 5)), .ref (ad (883 + 6))]) C (lt_K hN (rfl : Nat.blt (883) 952 = true)) hay3 hgy666 tyX5 tyX5_ok nmX5 rfl inA_X5 1 (by decide) q_94 rfl rfl rfl rfl (Nat.le_of_ble_eq_true rfl) rfl dX7_readHour_152 (fun gy667 egy668 => ?_)
            have hgy669 := up_s egy668
            have hgy670 := up_n egy643 hkvy627 (by omega)
            have hgy671 := up_n egy653 hgy670 (by omega)
            have hgy672 := up_n egy664 hgy671 (by omega)
            have hgy673 := up_n egy668 hgy672 (by decide)
            have hgy674 := (hfvy627 (1) (by decide)).trans hgy628
            have hgy675 := up_n egy643 hgy674 (by omega)
            have hgy676 := up_n egy653 hgy675 (by omega)
            have hgy677 := up_n egy664 hgy676 (by omega)
            have hgy678 := up_n egy668 hgy677 (by decide)
            have hgy679 := (hfvy13 (883 + 1) (by omega)).trans hP.2.1
            have hgy680 := (hfvy615 (883 + 1) (by omega)).trans hgy679
            have hgy681 := (hfvy621 (883 + 1) (by omega)).trans hgy680
            have hgy682 := (hfvy626 (883 + 1) (by omega)).trans hgy681
            have hgy683 := (hfvy627 (883 + 1) (by omega)).trans hgy682
            have hgy684 := up_n egy643 hgy683 (ne_o (i := 883) (c := 1) (d := 3) rfl)
            have hgy685 := up_n egy653 hgy684 (ne_o (i := 883) (c := 1) (d := 4) rfl)
            have hgy686 := up_n egy664 hgy685 (ne_o (i := 883) (c := 1) (d := 5) rfl)
            have hgy687 := up_n egy668 hgy686 (ne_o (i := 883) (c := 1) (d := 0) rfl)
            have hgy688 := (hfvy13 (883 + 2) (by omega)).trans hP.2.2.1
            have hgy689 := (hfvy615 (883 + 2) (by omega)).trans hgy688
            have hgy690 := (hfvy621 (883 + 2) (by omega)).trans hgy689
            have hgy691 := (hfvy626 (883 + 2) (by omega)).trans hgy690
            have hgy692 := (hfvy627 (883 + 2) (by omega)).trans hgy691
            have hgy693 := up_n egy643 hgy692 (ne_o (i := 883) (c := 2) (d := 3) rfl)
            have hgy694 := up_n egy653 hgy693 (ne_o (i := 883) (c := 2) (d := 4) rfl)
            have hgy695 := up_n egy664 hgy694 (ne_o (i := 883) (c := 2) (d := 5) rfl)
            have hgy696 := up_n egy668 hgy695 (ne_o (i := 883) (c := 2) (d := 0) rfl)
            have hgy697 := up_n egy653 hgy644 (ne_o (i := 883) (c := 3) (d := 4) rfl)
            have hgy698 := up_n egy664 hgy697 (ne_o (i := 883) (c := 3) (d := 5) rfl)
            have hgy699 := up_n egy668 hgy698 (ne_o (i := 883) (c := 3) (d := 0) rfl)
            have hgy700 := up_n egy664 hgy654 (ne_o (i := 883) (c := 4) (d := 5) rfl)
            have hgy701 := up_n egy668 hgy700 (ne_o (i := 883) (c := 4) (d := 0) rfl)
            have hgy702 := up_n egy668 hgy665 (ne_o (i := 883) (c := 5) (d := 0) rfl)
            have hgy703 := (hfvy13 (883 + 6) (by omega)).trans hP.2.2.2.2.2.2
            have hgy704 := (hfvy615 (883 + 6) (by omega)).trans hgy703
            have hgy705 := (hfvy621 (883 + 6) (by omega)).trans hgy704
            have hgy706 := (hfvy626 (883 + 6) (by omega)).trans hgy705
            have hgy707 := (hfvy627 (883 + 6) (by omega)).trans hgy706
            have hgy708 := up_n egy643 hgy707 (ne_o (i := 883) (c := 6) (d := 3) rfl)
            have hgy709 := up_n egy653 hgy708 (ne_o (i := 883) (c := 6) (d := 4) rfl)
            have hgy710 := up_n egy664 hgy709 (ne_o (i := 883) (c := 6) (d := 5) rfl)
            have hgy711 := up_n egy668 hgy710 (ne_o (i := 883) (c := 6) (d := 0) rfl)
            exact z_vret C hr hlk dX7_readHour_155 (by decide) (by decide) ⟨rfl, rfl, rfl, Or.inl ⟨_, by simp only [cl_fin, cl_hour, cl_hour2, if_neg hscy11, if_pos hscy614, hnvy621, if_pos hvvy626.symm, if_pos hnvy627]; rfl, by show (f < n → f < (tk_nx T n (tk_nx T n (tk_nx T n (tk_nx T n f))))) ∧ (tk_nx T n (tk_nx T n (tk_nx T n (tk_nx T n f)))) ≤ n; omega, ⟨_, hgy673⟩, ⟨hgy669, hgy687, hgy696, hgy699, hgy701, hgy702, hgy711⟩⟩, fun j j1 j2 => by rw [egy668, va_up_ne _ _ (by omega)]; rw [egy664, va_up_ne _ _ (by omega)]; rw [egy653, va_up_ne _ _ (by omega)]; rw [egy643, va_up_ne _ _ (by omega)]; rw [hfvy627 _ (by omega)]; rw [hfvy626 _ (by omega)]; rw [hfvy621 _ (by omega)]; rw [hfvy615 _ (by omega)]; rw [hfvy13 _ (by omega)]⟩
          · obtain ⟨hnvy627, hkvy627⟩ := hvy627
            refine z_aload_n C 4 dX7_readHour_97 rfl ?_
            refine z_get (v := .int (zI (1))) C (lt_K hN (rfl : Nat.blt (2) 952 = true)) hay1 hkvy627 rfl inA_X7 1 (by decide) q_45 rfl rfl dX7_readHour_98 ?_
            refine z_if_ne (tgt := 155) C dX7_readHour_101 (by decide) (by omega) (fun _ => ?_) (fun h => absurd h (by omega))
            have hgy712 := (hfvy627 (1) (by decide)).trans hgy628
            have hgy713 := (hfvy13 (883) (by decide)).trans hP.1
            have hgy714 := (hfvy615 (883) (by decide)).trans hgy713
            have hgy715 := (hfvy621 (883) (by decide)).trans hgy714
            have hgy716 := (hfvy626 (883) (by decide)).trans hgy715
            have hgy717 := (hfvy627 (883) (by decide)).trans hgy716
            have hgy718 := (hfvy13 (883 + 1) (by omega)).trans hP.2.1
            have hgy719 := (hfvy615 (883 + 1) (by omega)).trans hgy718
            have hgy720 := (hfvy621 (883 + 1) (by omega)).trans hgy719
            have hgy721 := (hfvy626 (883 + 1) (by omega)).trans hgy720
            have hgy722 := (hfvy627 (883 + 1) (by omega)).trans hgy721
            have hgy723 := (hfvy13 (883 + 2) (by omega)).trans hP.2.2.1
            have hgy724 := (hfvy615 (883 + 2) (by omega)).trans hgy723
            have hgy725 := (hfvy621 (883 + 2) (by omega)).trans hgy724
            have hgy726 := (hfvy626 (883 + 2) (by omega)).trans hgy725
            have hgy727 := (hfvy627 (883 + 2) (by omega)).trans hgy726
            have hgy728 := (hfvy13 (883 + 3) (by omega)).trans hP.2.2.2.1
            have hgy729 := (hfvy615 (883 + 3) (by omega)).trans hgy728
            have hgy730 := (hfvy621 (883 + 3) (by omega)).trans hgy729
            have hgy731 := (hfvy626 (883 + 3) (by omega)).trans hgy730
            have hgy732 := (hfvy627 (883 + 3) (by omega)).trans hgy731
            have hgy733 := (hfvy13 (883 + 4) (by omega)).trans hP.2.2.2.2.1
            have hgy734 := (hfvy615 (883 + 4) (by omega)).trans hgy733
            have hgy735 := (hfvy621 (883 + 4) (by omega)).trans hgy734
            have hgy736 := (hfvy626 (883 + 4) (by omega)).trans hgy735
            have hgy737 := (hfvy627 (883 + 4) (by omega)).trans hgy736
            have hgy738 := (hfvy13 (883 + 5) (by omega)).trans hP.2.2.2.2.2.1
            have hgy739 := (hfvy615 (883 + 5) (by omega)).trans hgy738
            have hgy740 := (hfvy621 (883 + 5) (by omega)).trans hgy739
            have hgy741 := (hfvy626 (883 + 5) (by omega)).trans hgy740
            have hgy742 := (hfvy627 (883 + 5) (by omega)).trans hgy741
            have hgy743 := (hfvy13 (883 + 6) (by omega)).trans hP.2.2.2.2.2.2
            have hgy744 := (hfvy615 (883 + 6) (by omega)).trans hgy743
            have hgy745 := (hfvy621 (883 + 6) (by omega)).trans hgy744
            have hgy746 := (hfvy626 (883 + 6) (by omega)).trans hgy745
            have hgy747 := (hfvy627 (883 + 6) (by omega)).trans hgy746
            exact z_vret C hr hlk dX7_readHour_155 (by decide) (by decide) ⟨rfl, rfl, rfl, Or.inr ⟨(1, (tk_nx T n (tk_nx T n (tk_nx T n f)))), by simp only [cl_fin, cl_hour, cl_hour2, if_neg hscy11, if_pos hscy614, hnvy621, if_pos hvvy626.symm, if_neg hnvy627], ⟨by show 1 ≤ 1 ∧ 1 ≤ 5; omega, _, _, _, _, _, _, by omega, by omega, hkvy627, hgy712⟩, ⟨hgy717, hgy722, hgy727, hgy732, hgy737, hgy742, hgy747⟩⟩, fun j j1 j2 => by rw [hfvy627 _ (by omega)]; rw [hfvy626 _ (by omega)]; rw [hfvy621 _ (by omega)]; rw [hfvy615 _ (by omega)]; rw [hfvy13 _ (by omega)]⟩
        · obtain ⟨hzvy626, hkvy626⟩ := hvy626
          have hnby748 := tk_nx_b (T := T) (n := n) (f := (tk_nx T n (tk_nx T n (tk_nx T n f)))) (by omega)
          have hsby749 := tk_so_b T n (tk_nx T n (tk_nx T n (tk_nx T n (tk_nx T n f))))
          have htby750 := tk_to_b (T := T) (n := n) (f := (tk_nx T n (tk_nx T n (tk_nx T n (tk_nx T n f))))) (by omega)
          subst hvvy626
          refine z_istore (lv' := [(4, .int (zI (tk_fa T n (tk_nx T n (tk_nx T n (tk_nx T n f)))))), (3, .int (zI (vy621))), (2, .int (zI (1))), (0, .ref (ad 2)), (1, .ref (ad 883))]) C dX7_readHour_66 (by decide) rfl ?_
          refine z_iload C 0 dX7_readHour_68 rfl ?_
          refine z_iconst (z := 1) C dX7_readHour_70 rfl ?_
          refine z_icmp_eq (tgt := 80) C dX7_readHour_71 (by decide) (by omega) (by omega) (fun hby751 => ?_) (fun hby751 => ?_)
          · have hscy752 : ¬ (tk_fa T n (tk_nx T n (tk_nx T n (tk_nx T n f))) = 3) := by omega
            refine z_aload_n C 3 dX7_readHour_80 rfl ?_
            refine z_iconst (z := 1) C dX7_readHour_81 rfl ?_
            refine z_bipush (z := 50) C dX7_readHour_82 (by decide) ?_
            have hgy753 := (hfvy626 (1) (by decide)).trans hgy625
            refine z_cV (As := [.int (zI (1)), .int (zI (50))]) (rest := []) (ci := 9) C (c_xNumber l D A cs tt N ad _ (by omega) _ _ _ tp T hT n hn (tk_nx T n (tk_nx T n (tk_nx T n (tk_nx T n f)))) (by omega) hkvy626 hgy753 (1) (50) (by omega)) (lt_K hN (rfl : Nat.blt (2) 952 = true)) hay1 hkvy626 rfl rfl mv_yX7_number q_817 hd_yX7_number (by decide) (Nat.le_of_ble_eq_true rfl) (by decide) dX7_readHour_84 rfl (kI0 fun vy754 gvy754 hvy754 => ?_)
            obtain ⟨hvy754, hfvy754⟩ := hvy754
            rcases hvy754 with hvy754 | hvy754
            · obtain ⟨hnvy754, hrvy754, hkvy754⟩ := hvy754
              have hnby755 := tk_nx_b (T := T) (n := n) (f := (tk_nx T n (tk_nx T n (tk_nx T n (tk_nx T n f))))) (by omega)
              have hsby756 := tk_so_b T n (tk_nx T n (tk_nx T n (tk_nx T n (tk_nx T n (tk_nx T n f)))))
              have htby757 := tk_to_b (T := T) (n := n) (f := (tk_nx T n (tk_nx T n (tk_nx T n (tk_nx T n (tk_nx T n f)))))) (by omega)
              refine z_goto (tgt := 91) C dX7_readHour_87 (by decide) ?_
              refine z_istore (lv' := [(5, .int (zI (vy754))), (4, .int (zI (tk_fa T n (tk_nx T n (tk_nx T n (tk_nx T n f)))))), (3, .int (zI (vy621))), (2, .int (zI (1))), (0, .ref (ad 2)), (1, .ref (ad 883))]) C dX7_readHour_91 (by decide) rfl ?_
              refine z_aload_n C 4 dX7_readHour_93 rfl ?_
              have hgy759 := (hfvy754 (1) (by decide)).trans hgy753
              refine z_cV (As := []) (rest := []) (ci := 9) C (c_xClose l D A cs tt N ad _ (by omega) _ _ _ tp T hT n hn (tk_nx T n (tk_nx T n (tk_nx T n (tk_nx T n (tk_nx T n f))))) (by omega) hkvy754 hgy759) (lt_K hN (rfl : Nat.blt (2) 952 = true)) hay1 hkvy754 rfl rfl mv_yX7_close q_821 hd_yX7_close (by decide) (Nat.le_of_ble_eq_true rfl) (by decide) dX7_readHour_94 rfl (kV0 fun gvy758 hvy758 => ?_)
              obtain ⟨hvy758, hfvy758⟩ := hvy758
              rcases hvy758 with hvy758 | hvy758
              · obtain ⟨hnvy758, hkvy758⟩ := hvy758
                have hnby760 := tk_nx_b (T := T) (n := n) (f := (tk_nx T n (tk_nx T n (tk_nx T n (tk_nx T n (tk_nx T n f)))))) (by omega)
                have hsby761 := tk_so_b T n (tk_nx T n (tk_nx T n (tk_nx T n (tk_nx T n (tk_nx T n (tk_nx T n f))))))
                have htby762 := tk_to_b (T := T) (n := n) (f := (tk_nx T n (tk_nx T n (tk_nx T n (tk_nx T n (tk_nx T n (tk_nx T n f))))))) (by omega)
                refine z_aload_n C 4 dX7_readHour_97 rfl ?_
                refine z_get (v := .int (zI (0))) C (lt_K hN (rfl : Nat.blt (2) 952 = true)) hay1 hkvy758 rfl inA_X7 1 (by decide) q_45 rfl rfl dX7_readHour_98 ?_
                refine z_if_ne (tgt := 155) C dX7_readHour_101 (by decide) (by omega) (fun h => absurd h (by omega)) (fun _ => ?_)
                refine z_aload_n C 5 dX7_readHour_104 rfl ?_
                have hgy763 := (hfvy13 (883) (by decide)).trans hP.1
                have hgy764 := (hfvy615 (883) (by decide)).trans hgy763
                have hgy765 := (hfvy621 (883) (by decide)).trans hgy764
                have hgy766 := (hfvy626 (883) (by decide)).trans hgy765
                have hgy767 := (hfvy754 (883) (by decide)).trans hgy766
                have hgy768 := (hfvy758 (883) (by decide)).trans hgy767
                refine z_get (v := .ref (ad (883 + 3))) C (lt_K hN (rfl : Nat.blt (883) 952 = true)) hay3 hgy768 rfl inA_X5 5 (by decide) q_106 rfl rfl dX7_readHour_105 ?_
                refine z_aload_n C 5 dX7_readHour_108 rfl ?_
                refine z_get (v := .int (zI (ho))) C (lt_K hN (rfl : Nat.blt (883) 952 = true)) hay3 hgy768 rfl inA_X5 1 (by decide) q_94 rfl rfl dX7_readHour_109 ?_
                refine z_iload_n C 3 dX7_readHour_112 rfl ?_
                refine z_if_eq (tgt := 121) C dX7_readHour_113 (by decide) (by omega) (fun h => absurd h (by omega)) (fun _ => ?_)
                refine z_iload_n C 2 dX7_readHour_116 rfl ?_
                refine z_ineg C dX7_readHour_117 ?_
                refine z_goto (tgt := 122) C dX7_readHour_118 (by decide) ?_
                have hgy769 := (hfvy13 (883 + 3) (by omega)).trans hP.2.2.2.1
                have hgy770 := (hfvy615 (883 + 3) (by omega)).trans hgy769
                have hgy771 := (hfvy621 (883 + 3) (by omega)).trans hgy770
                have hgy772 := (hfvy626 (883 + 3) (by omega)).trans hgy771
                have hgy773 := (hfvy754 (883 + 3) (by omega)).trans hgy772
                have hgy774 := (hfvy758 (883 + 3) (by omega)).trans hgy773
                refine z_iast C (lt_K hN (rfl : Nat.blt (883 + 3) 952 = true)) hay6 hgy774 ((ho).toNat) (by omega) (by omega) (by decide) dX7_readHour_122 (fun gy775 egy776 => ?_)
                have hgy777 := up_s egy776
                refine z_aload_n C 5 dX7_readHour_123 rfl ?_
                have hgy778 := up_n egy776 hgy768 (ne_o (i := 883) (c := 0) (d := 3) rfl)
                refine z_get (v := .ref (ad (883 + 4))) C (lt_K hN (rfl : Nat.blt (883) 952 = true)) hay3 hgy778 rfl inA_X5 6 (by decide) q_109 rfl rfl dX7_readHour_124 ?_
                refine z_aload_n C 5 dX7_readHour_127 rfl ?_
                refine z_get (v := .int (zI (ho))) C (lt_K hN (rfl : Nat.blt (883) 952 = true)) hay3 hgy778 rfl inA_X5 1 (by decide) q_94 rfl rfl dX7_readHour_128 ?_
                refine z_iload C 1 dX7_readHour_131 rfl ?_
                have hgy779 := (hfvy13 (883 + 4) (by omega)).trans hP.2.2.2.2.1
                have hgy780 := (hfvy615 (883 + 4) (by omega)).trans hgy779
                have hgy781 := (hfvy621 (883 + 4) (by omega)).trans hgy780
                have hgy782 := (hfvy626 (883 + 4) (by omega)).trans hgy781
                have hgy783 := (hfvy754 (883 + 4) (by omega)).trans hgy782
                have hgy784 := (hfvy758 (883 + 4) (by omega)).trans hgy783
                have hgy785 := up_n egy776 hgy784 (ne_o (i := 883) (c := 4) (d := 3) rfl)
                refine z_iast C (lt_K hN (rfl : Nat.blt (883 + 4) 952 = true)) hay7 hgy785 ((ho).toNat) (by omega) (by omega) (by decide) dX7_readHour_133 (fun gy786 egy787 => ?_)
                have hgy788 := up_s egy787
                refine z_aload_n C 5 dX7_readHour_134 rfl ?_
                have hgy789 := up_n egy787 hgy778 (ne_o (i := 883) (c := 0) (d := 4) rfl)
                refine z_get (v := .ref (ad (883 + 5))) C (lt_K hN (rfl : Nat.blt (883) 952 = true)) hay3 hgy789 rfl inA_X5 7 (by decide) q_112 rfl rfl dX7_readHour_135 ?_
                refine z_aload_n C 5 dX7_readHour_138 rfl ?_
                refine z_get (v := .int (zI (ho))) C (lt_K hN (rfl : Nat.blt (883) 952 = true)) hay3 hgy789 rfl inA_X5 1 (by decide) q_94 rfl rfl dX7_readHour_139 ?_
                refine z_iload C 0 dX7_readHour_142 rfl ?_
                have hgy790 := (hfvy13 (883 + 5) (by omega)).trans hP.2.2.2.2.2.1
                have hgy791 := (hfvy615 (883 + 5) (by omega)).trans hgy790
                have hgy792 := (hfvy621 (883 + 5) (by omega)).trans hgy791
                have hgy793 := (hfvy626 (883 + 5) (by omega)).trans hgy792
                have hgy794 := (hfvy754 (883 + 5) (by omega)).trans hgy793
                have hgy795 := (hfvy758 (883 + 5) (by omega)).trans hgy794
                have hgy796 := up_n egy776 hgy795 (ne_o (i := 883) (c := 5) (d := 3) rfl)
                have hgy797 := up_n egy787 hgy796 (ne_o (i := 883) (c := 5) (d := 4) rfl)
                refine z_iast C (lt_K hN (rfl : Nat.blt (883 + 5) 952 = true)) hay8 hgy797 ((ho).toNat) (by omega) (by omega) (by decide) dX7_readHour_144 (fun gy798 egy799 => ?_)
                have hgy800 := up_s egy799
                refine z_aload_n C 5 dX7_readHour_145 rfl ?_
                refine z_dup C dX7_readHour_146 rfl ?_
                have hgy801 := up_n egy799 hgy789 (ne_o (i := 883) (c := 0) (d := 5) rfl)
                refine z_get (v := .int (zI (ho))) C (lt_K hN (rfl : Nat.blt (883) 952 = true)) hay3 hgy801 rfl inA_X5 1 (by decide) q_94 rfl rfl dX7_readHour_147 ?_
                refine z_iconst (z := 1) C dX7_readHour_150 rfl ?_
                refine z_iadd C dX7_readHour_151 ?_
                refine z_put (fs' := [.int (zI (sl)), .int (zI (ho + 1)), .int (zI (ua)), .ref (ad (883 + 1)), .ref (ad (883 + 2)), .ref (ad (883 + 3)), .ref (ad (883 + 4)), .ref (ad (883 + 5)), .ref (ad (883 + 6))]) C (lt_K hN (rfl : Nat.blt (883) 952 = true)) hay3 hgy801 tyX5 tyX5_ok nmX5 rfl inA_X5 1 (by decide) q_94 rfl rfl rfl rfl (Nat.le_of_ble_eq_true rfl) rfl dX7_readHour_152 (fun gy802 egy803 => ?_)
                have hgy804 := up_s egy803
                have hgy805 := up_n egy776 hkvy758 (by omega)
                have hgy806 := up_n egy787 hgy805 (by omega)
                have hgy807 := up_n egy799 hgy806 (by omega)
                have hgy808 := up_n egy803 hgy807 (by decide)
                have hgy809 := (hfvy758 (1) (by decide)).trans hgy759
                have hgy810 := up_n egy776 hgy809 (by omega)
                have hgy811 := up_n egy787 hgy810 (by omega)
                have hgy812 := up_n egy799 hgy811 (by omega)
                have hgy813 := up_n egy803 hgy812 (by decide)
                have hgy814 := (hfvy13 (883 + 1) (by omega)).trans hP.2.1
                have hgy815 := (hfvy615 (883 + 1) (by omega)).trans hgy814
                have hgy816 := (hfvy621 (883 + 1) (by omega)).trans hgy815
                have hgy817 := (hfvy626 (883 + 1) (by omega)).trans hgy816
                have hgy818 := (hfvy754 (883 + 1) (by omega)).trans hgy817
                have hgy819 := (hfvy758 (883 + 1) (by omega)).trans hgy818
                have hgy820 := up_n egy776 hgy819 (ne_o (i := 883) (c := 1) (d := 3) rfl)
                have hgy821 := up_n egy787 hgy820 (ne_o (i := 883) (c := 1) (d := 4) rfl)
                have hgy822 := up_n egy799 hgy821 (ne_o (i := 883) (c := 1) (d := 5) rfl)
                have hgy823 := up_n egy803 hgy822 (ne_o (i := 883) (c := 1) (d := 0) rfl)
                have hgy824 := (hfvy13 (883 + 2) (by omega)).trans hP.2.2.1
                have hgy825 := (hfvy615 (883 + 2) (by omega)).trans hgy824
                have hgy826 := (hfvy621 (883 + 2) (by omega)).trans hgy825
                have hgy827 := (hfvy626 (883 + 2) (by omega)).trans hgy826
                have hgy828 := (hfvy754 (883 + 2) (by omega)).trans hgy827
                have hgy829 := (hfvy758 (883 + 2) (by omega)).trans hgy828
                have hgy830 := up_n egy776 hgy829 (ne_o (i := 883) (c := 2) (d := 3) rfl)
                have hgy831 := up_n egy787 hgy830 (ne_o (i := 883) (c := 2) (d := 4) rfl)
                have hgy832 := up_n egy799 hgy831 (ne_o (i := 883) (c := 2) (d := 5) rfl)
                have hgy833 := up_n egy803 hgy832 (ne_o (i := 883) (c := 2) (d := 0) rfl)
                have hgy834 := up_n egy787 hgy777 (ne_o (i := 883) (c := 3) (d := 4) rfl)
                have hgy835 := up_n egy799 hgy834 (ne_o (i := 883) (c := 3) (d := 5) rfl)
                have hgy836 := up_n egy803 hgy835 (ne_o (i := 883) (c := 3) (d := 0) rfl)
                have hgy837 := up_n egy799 hgy788 (ne_o (i := 883) (c := 4) (d := 5) rfl)
                have hgy838 := up_n egy803 hgy837 (ne_o (i := 883) (c := 4) (d := 0) rfl)
                have hgy839 := up_n egy803 hgy800 (ne_o (i := 883) (c := 5) (d := 0) rfl)
                have hgy840 := (hfvy13 (883 + 6) (by omega)).trans hP.2.2.2.2.2.2
                have hgy841 := (hfvy615 (883 + 6) (by omega)).trans hgy840
                have hgy842 := (hfvy621 (883 + 6) (by omega)).trans hgy841
                have hgy843 := (hfvy626 (883 + 6) (by omega)).trans hgy842
                have hgy844 := (hfvy754 (883 + 6) (by omega)).trans hgy843
                have hgy845 := (hfvy758 (883 + 6) (by omega)).trans hgy844
                have hgy846 := up_n egy776 hgy845 (ne_o (i := 883) (c := 6) (d := 3) rfl)
                have hgy847 := up_n egy787 hgy846 (ne_o (i := 883) (c := 6) (d := 4) rfl)
                have hgy848 := up_n egy799 hgy847 (ne_o (i := 883) (c := 6) (d := 5) rfl)
                have hgy849 := up_n egy803 hgy848 (ne_o (i := 883) (c := 6) (d := 0) rfl)
                exact z_vret C hr hlk dX7_readHour_155 (by decide) (by decide) ⟨rfl, rfl, rfl, Or.inl ⟨_, by simp only [cl_fin, cl_hour, cl_hour2, if_neg hscy11, if_pos hscy614, hnvy621, if_neg hzvy626, if_neg hscy752, hnvy754, if_pos hnvy758]; rfl, by show (f < n → f < (tk_nx T n (tk_nx T n (tk_nx T n (tk_nx T n (tk_nx T n (tk_nx T n f))))))) ∧ (tk_nx T n (tk_nx T n (tk_nx T n (tk_nx T n (tk_nx T n (tk_nx T n f)))))) ≤ n; omega, ⟨_, hgy808⟩, ⟨hgy804, hgy823, hgy833, hgy836, hgy838, hgy839, hgy849⟩⟩, fun j j1 j2 => by rw [egy803, va_up_ne _ _ (by omega)]; rw [egy799, va_up_ne _ _ (by omega)]; rw [egy787, va_up_ne _ _ (by omega)]; rw [egy776, va_up_ne _ _ (by omega)]; rw [hfvy758 _ (by omega)]; rw [hfvy754 _ (by omega)]; rw [hfvy626 _ (by omega)]; rw [hfvy621 _ (by omega)]; rw [hfvy615 _ (by omega)]; rw [hfvy13 _ (by omega)]⟩
              · obtain ⟨hnvy758, hkvy758⟩ := hvy758
                refine z_aload_n C 4 dX7_readHour_97 rfl ?_
                refine z_get (v := .int (zI (1))) C (lt_K hN (rfl : Nat.blt (2) 952 = true)) hay1 hkvy758 rfl inA_X7 1 (by decide) q_45 rfl rfl dX7_readHour_98 ?_
                refine z_if_ne (tgt := 155) C dX7_readHour_101 (by decide) (by omega) (fun _ => ?_) (fun h => absurd h (by omega))
                have hgy850 := (hfvy758 (1) (by decide)).trans hgy759
                have hgy851 := (hfvy13 (883) (by decide)).trans hP.1
                have hgy852 := (hfvy615 (883) (by decide)).trans hgy851
                have hgy853 := (hfvy621 (883) (by decide)).trans hgy852
                have hgy854 := (hfvy626 (883) (by decide)).trans hgy853
                have hgy855 := (hfvy754 (883) (by decide)).trans hgy854
                have hgy856 := (hfvy758 (883) (by decide)).trans hgy855
                have hgy857 := (hfvy13 (883 + 1) (by omega)).trans hP.2.1
                have hgy858 := (hfvy615 (883 + 1) (by omega)).trans hgy857
                have hgy859 := (hfvy621 (883 + 1) (by omega)).trans hgy858
                have hgy860 := (hfvy626 (883 + 1) (by omega)).trans hgy859
                have hgy861 := (hfvy754 (883 + 1) (by omega)).trans hgy860
                have hgy862 := (hfvy758 (883 + 1) (by omega)).trans hgy861
                have hgy863 := (hfvy13 (883 + 2) (by omega)).trans hP.2.2.1
                have hgy864 := (hfvy615 (883 + 2) (by omega)).trans hgy863
                have hgy865 := (hfvy621 (883 + 2) (by omega)).trans hgy864
                have hgy866 := (hfvy626 (883 + 2) (by omega)).trans hgy865
                have hgy867 := (hfvy754 (883 + 2) (by omega)).trans hgy866
                have hgy868 := (hfvy758 (883 + 2) (by omega)).trans hgy867
                have hgy869 := (hfvy13 (883 + 3) (by omega)).trans hP.2.2.2.1
                have hgy870 := (hfvy615 (883 + 3) (by omega)).trans hgy869
                have hgy871 := (hfvy621 (883 + 3) (by omega)).trans hgy870
                have hgy872 := (hfvy626 (883 + 3) (by omega)).trans hgy871
                have hgy873 := (hfvy754 (883 + 3) (by omega)).trans hgy872
                have hgy874 := (hfvy758 (883 + 3) (by omega)).trans hgy873
                have hgy875 := (hfvy13 (883 + 4) (by omega)).trans hP.2.2.2.2.1
                have hgy876 := (hfvy615 (883 + 4) (by omega)).trans hgy875
                have hgy877 := (hfvy621 (883 + 4) (by omega)).trans hgy876
                have hgy878 := (hfvy626 (883 + 4) (by omega)).trans hgy877
                have hgy879 := (hfvy754 (883 + 4) (by omega)).trans hgy878
                have hgy880 := (hfvy758 (883 + 4) (by omega)).trans hgy879
                have hgy881 := (hfvy13 (883 + 5) (by omega)).trans hP.2.2.2.2.2.1
                have hgy882 := (hfvy615 (883 + 5) (by omega)).trans hgy881
                have hgy883 := (hfvy621 (883 + 5) (by omega)).trans hgy882
                have hgy884 := (hfvy626 (883 + 5) (by omega)).trans hgy883
                have hgy885 := (hfvy754 (883 + 5) (by omega)).trans hgy884
                have hgy886 := (hfvy758 (883 + 5) (by omega)).trans hgy885
                have hgy887 := (hfvy13 (883 + 6) (by omega)).trans hP.2.2.2.2.2.2
                have hgy888 := (hfvy615 (883 + 6) (by omega)).trans hgy887
                have hgy889 := (hfvy621 (883 + 6) (by omega)).trans hgy888
                have hgy890 := (hfvy626 (883 + 6) (by omega)).trans hgy889
                have hgy891 := (hfvy754 (883 + 6) (by omega)).trans hgy890
                have hgy892 := (hfvy758 (883 + 6) (by omega)).trans hgy891
                exact z_vret C hr hlk dX7_readHour_155 (by decide) (by decide) ⟨rfl, rfl, rfl, Or.inr ⟨(1, (tk_nx T n (tk_nx T n (tk_nx T n (tk_nx T n (tk_nx T n f)))))), by simp only [cl_fin, cl_hour, cl_hour2, if_neg hscy11, if_pos hscy614, hnvy621, if_neg hzvy626, if_neg hscy752, hnvy754, if_neg hnvy758], ⟨by show 1 ≤ 1 ∧ 1 ≤ 5; omega, _, _, _, _, _, _, by omega, by omega, hkvy758, hgy850⟩, ⟨hgy856, hgy862, hgy868, hgy874, hgy880, hgy886, hgy892⟩⟩, fun j j1 j2 => by rw [hfvy758 _ (by omega)]; rw [hfvy754 _ (by omega)]; rw [hfvy626 _ (by omega)]; rw [hfvy621 _ (by omega)]; rw [hfvy615 _ (by omega)]; rw [hfvy13 _ (by omega)]⟩
            · obtain ⟨cvy754, hcvy754, hnvy754, rfl, hkvy754⟩ := hvy754
              refine z_goto (tgt := 91) C dX7_readHour_87 (by decide) ?_
              refine z_istore (lv' := [(5, .int (zI (0))), (4, .int (zI (tk_fa T n (tk_nx T n (tk_nx T n (tk_nx T n f)))))), (3, .int (zI (vy621))), (2, .int (zI (1))), (0, .ref (ad 2)), (1, .ref (ad 883))]) C dX7_readHour_91 (by decide) rfl ?_
              refine z_aload_n C 4 dX7_readHour_93 rfl ?_
              refine z_cV (As := []) (rest := []) (ci := 9) C (c_fClose l D A cs tt N ad _ (by omega) _ _ _ _ _ _ _ _ (by omega) (by omega) hkvy754) (lt_K hN (rfl : Nat.blt (2) 952 = true)) hay1 hkvy754 rfl rfl mv_yX7_close q_821 hd_yX7_close (by decide) (Nat.le_of_ble_eq_true rfl) (by decide) dX7_readHour_94 rfl (kV0 fun gvy893 hvy893 => ?_)
              obtain rfl := hvy893
              refine z_aload_n C 4 dX7_readHour_97 rfl ?_
              refine z_get (v := .int (zI (cvy754))) C (lt_K hN (rfl : Nat.blt (2) 952 = true)) hay1 hkvy754 rfl inA_X7 1 (by decide) q_45 rfl rfl dX7_readHour_98 ?_
              refine z_if_ne (tgt := 155) C dX7_readHour_101 (by decide) (by omega) (fun _ => ?_) (fun h => absurd h (by omega))
              have hgy894 := (hfvy754 (1) (by decide)).trans hgy753
              have hgy895 := (hfvy13 (883) (by decide)).trans hP.1
              have hgy896 := (hfvy615 (883) (by decide)).trans hgy895
              have hgy897 := (hfvy621 (883) (by decide)).trans hgy896
              have hgy898 := (hfvy626 (883) (by decide)).trans hgy897
              have hgy899 := (hfvy754 (883) (by decide)).trans hgy898
              have hgy900 := (hfvy13 (883 + 1) (by omega)).trans hP.2.1
              have hgy901 := (hfvy615 (883 + 1) (by omega)).trans hgy900
              have hgy902 := (hfvy621 (883 + 1) (by omega)).trans hgy901
              have hgy903 := (hfvy626 (883 + 1) (by omega)).trans hgy902
              have hgy904 := (hfvy754 (883 + 1) (by omega)).trans hgy903
              have hgy905 := (hfvy13 (883 + 2) (by omega)).trans hP.2.2.1
              have hgy906 := (hfvy615 (883 + 2) (by omega)).trans hgy905
              have hgy907 := (hfvy621 (883 + 2) (by omega)).trans hgy906
              have hgy908 := (hfvy626 (883 + 2) (by omega)).trans hgy907
              have hgy909 := (hfvy754 (883 + 2) (by omega)).trans hgy908
              have hgy910 := (hfvy13 (883 + 3) (by omega)).trans hP.2.2.2.1
              have hgy911 := (hfvy615 (883 + 3) (by omega)).trans hgy910
              have hgy912 := (hfvy621 (883 + 3) (by omega)).trans hgy911
              have hgy913 := (hfvy626 (883 + 3) (by omega)).trans hgy912
              have hgy914 := (hfvy754 (883 + 3) (by omega)).trans hgy913
              have hgy915 := (hfvy13 (883 + 4) (by omega)).trans hP.2.2.2.2.1
              have hgy916 := (hfvy615 (883 + 4) (by omega)).trans hgy915
              have hgy917 := (hfvy621 (883 + 4) (by omega)).trans hgy916
              have hgy918 := (hfvy626 (883 + 4) (by omega)).trans hgy917
              have hgy919 := (hfvy754 (883 + 4) (by omega)).trans hgy918
              have hgy920 := (hfvy13 (883 + 5) (by omega)).trans hP.2.2.2.2.2.1
              have hgy921 := (hfvy615 (883 + 5) (by omega)).trans hgy920
              have hgy922 := (hfvy621 (883 + 5) (by omega)).trans hgy921
              have hgy923 := (hfvy626 (883 + 5) (by omega)).trans hgy922
              have hgy924 := (hfvy754 (883 + 5) (by omega)).trans hgy923
              have hgy925 := (hfvy13 (883 + 6) (by omega)).trans hP.2.2.2.2.2.2
              have hgy926 := (hfvy615 (883 + 6) (by omega)).trans hgy925
              have hgy927 := (hfvy621 (883 + 6) (by omega)).trans hgy926
              have hgy928 := (hfvy626 (883 + 6) (by omega)).trans hgy927
              have hgy929 := (hfvy754 (883 + 6) (by omega)).trans hgy928
              exact z_vret C hr hlk dX7_readHour_155 (by decide) (by decide) ⟨rfl, rfl, rfl, Or.inr ⟨(cvy754, (tk_nx T n (tk_nx T n (tk_nx T n (tk_nx T n f))))), by simp only [cl_fin, cl_hour, cl_hour2, if_neg hscy11, if_pos hscy614, hnvy621, if_neg hzvy626, if_neg hscy752, hnvy754], ⟨by show 1 ≤ cvy754 ∧ cvy754 ≤ 5; omega, _, _, _, _, _, _, by omega, by omega, hkvy754, hgy894⟩, ⟨hgy899, hgy904, hgy909, hgy914, hgy919, hgy924, hgy929⟩⟩, fun j j1 j2 => by rw [hfvy754 _ (by omega)]; rw [hfvy626 _ (by omega)]; rw [hfvy621 _ (by omega)]; rw [hfvy615 _ (by omega)]; rw [hfvy13 _ (by omega)]⟩
          · refine z_iload C 0 dX7_readHour_74 rfl ?_
            refine z_iconst (z := 2) C dX7_readHour_76 rfl ?_
            refine z_icmp_ne (tgt := 90) C dX7_readHour_77 (by decide) (by omega) (by omega) (fun hby930 => ?_) (fun hby930 => ?_)
            · have hscy931 : (tk_fa T n (tk_nx T n (tk_nx T n (tk_nx T n f))) = 3) := by omega
              refine z_iconst (z := 0) C dX7_readHour_90 rfl ?_
              refine z_istore (lv' := [(5, .int (zI (0))), (4, .int (zI (tk_fa T n (tk_nx T n (tk_nx T n (tk_nx T n f)))))), (3, .int (zI (vy621))), (2, .int (zI (1))), (0, .ref (ad 2)), (1, .ref (ad 883))]) C dX7_readHour_91 (by decide) rfl ?_
              refine z_aload_n C 4 dX7_readHour_93 rfl ?_
              have hgy933 := (hfvy626 (1) (by decide)).trans hgy625
              refine z_cV (As := []) (rest := []) (ci := 9) C (c_xClose l D A cs tt N ad _ (by omega) _ _ _ tp T hT n hn (tk_nx T n (tk_nx T n (tk_nx T n (tk_nx T n f)))) (by omega) hkvy626 hgy933) (lt_K hN (rfl : Nat.blt (2) 952 = true)) hay1 hkvy626 rfl rfl mv_yX7_close q_821 hd_yX7_close (by decide) (Nat.le_of_ble_eq_true rfl) (by decide) dX7_readHour_94 rfl (kV0 fun gvy932 hvy932 => ?_)
              obtain ⟨hvy932, hfvy932⟩ := hvy932
              rcases hvy932 with hvy932 | hvy932
              · obtain ⟨hnvy932, hkvy932⟩ := hvy932
                have hnby934 := tk_nx_b (T := T) (n := n) (f := (tk_nx T n (tk_nx T n (tk_nx T n (tk_nx T n f))))) (by omega)
                have hsby935 := tk_so_b T n (tk_nx T n (tk_nx T n (tk_nx T n (tk_nx T n (tk_nx T n f)))))
                have htby936 := tk_to_b (T := T) (n := n) (f := (tk_nx T n (tk_nx T n (tk_nx T n (tk_nx T n (tk_nx T n f)))))) (by omega)
                refine z_aload_n C 4 dX7_readHour_97 rfl ?_
                refine z_get (v := .int (zI (0))) C (lt_K hN (rfl : Nat.blt (2) 952 = true)) hay1 hkvy932 rfl inA_X7 1 (by decide) q_45 rfl rfl dX7_readHour_98 ?_
                refine z_if_ne (tgt := 155) C dX7_readHour_101 (by decide) (by omega) (fun h => absurd h (by omega)) (fun _ => ?_)
                refine z_aload_n C 5 dX7_readHour_104 rfl ?_
                have hgy937 := (hfvy13 (883) (by decide)).trans hP.1
                have hgy938 := (hfvy615 (883) (by decide)).trans hgy937
                have hgy939 := (hfvy621 (883) (by decide)).trans hgy938
                have hgy940 := (hfvy626 (883) (by decide)).trans hgy939
                have hgy941 := (hfvy932 (883) (by decide)).trans hgy940
                refine z_get (v := .ref (ad (883 + 3))) C (lt_K hN (rfl : Nat.blt (883) 952 = true)) hay3 hgy941 rfl inA_X5 5 (by decide) q_106 rfl rfl dX7_readHour_105 ?_
                refine z_aload_n C 5 dX7_readHour_108 rfl ?_
                refine z_get (v := .int (zI (ho))) C (lt_K hN (rfl : Nat.blt (883) 952 = true)) hay3 hgy941 rfl inA_X5 1 (by decide) q_94 rfl rfl dX7_readHour_109 ?_
                refine z_iload_n C 3 dX7_readHour_112 rfl ?_
                refine z_if_eq (tgt := 121) C dX7_readHour_113 (by decide) (by omega) (fun h => absurd h (by omega)) (fun _ => ?_)
                refine z_iload_n C 2 dX7_readHour_116 rfl ?_
                refine z_ineg C dX7_readHour_117 ?_
                refine z_goto (tgt := 122) C dX7_readHour_118 (by decide) ?_
                have hgy942 := (hfvy13 (883 + 3) (by omega)).trans hP.2.2.2.1
                have hgy943 := (hfvy615 (883 + 3) (by omega)).trans hgy942
                have hgy944 := (hfvy621 (883 + 3) (by omega)).trans hgy943
                have hgy945 := (hfvy626 (883 + 3) (by omega)).trans hgy944
                have hgy946 := (hfvy932 (883 + 3) (by omega)).trans hgy945
                refine z_iast C (lt_K hN (rfl : Nat.blt (883 + 3) 952 = true)) hay6 hgy946 ((ho).toNat) (by omega) (by omega) (by decide) dX7_readHour_122 (fun gy947 egy948 => ?_)
                have hgy949 := up_s egy948
                refine z_aload_n C 5 dX7_readHour_123 rfl ?_
                have hgy950 := up_n egy948 hgy941 (ne_o (i := 883) (c := 0) (d := 3) rfl)
                refine z_get (v := .ref (ad (883 + 4))) C (lt_K hN (rfl : Nat.blt (883) 952 = true)) hay3 hgy950 rfl inA_X5 6 (by decide) q_109 rfl rfl dX7_readHour_124 ?_
                refine z_aload_n C 5 dX7_readHour_127 rfl ?_
                refine z_get (v := .int (zI (ho))) C (lt_K hN (rfl : Nat.blt (883) 952 = true)) hay3 hgy950 rfl inA_X5 1 (by decide) q_94 rfl rfl dX7_readHour_128 ?_
                refine z_iload C 1 dX7_readHour_131 rfl ?_
                have hgy951 := (hfvy13 (883 + 4) (by omega)).trans hP.2.2.2.2.1
                have hgy952 := (hfvy615 (883 + 4) (by omega)).trans hgy951
                have hgy953 := (hfvy621 (883 + 4) (by omega)).trans hgy952
                have hgy954 := (hfvy626 (883 + 4) (by omega)).trans hgy953
                have hgy955 := (hfvy932 (883 + 4) (by omega)).trans hgy954
                have hgy956 := up_n egy948 hgy955 (ne_o (i := 883) (c := 4) (d := 3) rfl)
                refine z_iast C (lt_K hN (rfl : Nat.blt (883 + 4) 952 = true)) hay7 hgy956 ((ho).toNat) (by omega) (by omega) (by decide) dX7_readHour_133 (fun gy957 egy958 => ?_)
                have hgy959 := up_s egy958
                refine z_aload_n C 5 dX7_readHour_134 rfl ?_
                have hgy960 := up_n egy958 hgy950 (ne_o (i := 883) (c := 0) (d := 4) rfl)
                refine z_get (v := .ref (ad (883 + 5))) C (lt_K hN (rfl : Nat.blt (883) 952 = true)) hay3 hgy960 rfl inA_X5 7 (by decide) q_112 rfl rfl dX7_readHour_135 ?_
                refine z_aload_n C 5 dX7_readHour_138 rfl ?_
                refine z_get (v := .int (zI (ho))) C (lt_K hN (rfl : Nat.blt (883) 952 = true)) hay3 hgy960 rfl inA_X5 1 (by decide) q_94 rfl rfl dX7_readHour_139 ?_
                refine z_iload C 0 dX7_readHour_142 rfl ?_
                have hgy961 := (hfvy13 (883 + 5) (by omega)).trans hP.2.2.2.2.2.1
                have hgy962 := (hfvy615 (883 + 5) (by omega)).trans hgy961
                have hgy963 := (hfvy621 (883 + 5) (by omega)).trans hgy962
                have hgy964 := (hfvy626 (883 + 5) (by omega)).trans hgy963
                have hgy965 := (hfvy932 (883 + 5) (by omega)).trans hgy964
                have hgy966 := up_n egy948 hgy965 (ne_o (i := 883) (c := 5) (d := 3) rfl)
                have hgy967 := up_n egy958 hgy966 (ne_o (i := 883) (c := 5) (d := 4) rfl)
                refine z_iast C (lt_K hN (rfl : Nat.blt (883 + 5) 952 = true)) hay8 hgy967 ((ho).toNat) (by omega) (by omega) (by decide) dX7_readHour_144 (fun gy968 egy969 => ?_)
                have hgy970 := up_s egy969
                refine z_aload_n C 5 dX7_readHour_145 rfl ?_
                refine z_dup C dX7_readHour_146 rfl ?_
                have hgy971 := up_n egy969 hgy960 (ne_o (i := 883) (c := 0) (d := 5) rfl)
                refine z_get (v := .int (zI (ho))) C (lt_K hN (rfl : Nat.blt (883) 952 = true)) hay3 hgy971 rfl inA_X5 1 (by decide) q_94 rfl rfl dX7_readHour_147 ?_
                refine z_iconst (z := 1) C dX7_readHour_150 rfl ?_
                refine z_iadd C dX7_readHour_151 ?_
                refine z_put (fs' := [.int (zI (sl)), .int (zI (ho + 1)), .int (zI (ua)), .ref (ad (883 + 1)), .ref (ad (883 + 2)), .ref (ad (883 + 3)), .ref (ad (883 + 4)), .ref (ad (883 + 5)), .ref (ad (883 + 6))]) C (lt_K hN (rfl : Nat.blt (883) 952 = true)) hay3 hgy971 tyX5 tyX5_ok nmX5 rfl inA_X5 1 (by decide) q_94 rfl rfl rfl rfl (Nat.le_of_ble_eq_true rfl) rfl dX7_readHour_152 (fun gy972 egy973 => ?_)
                have hgy974 := up_s egy973
                have hgy975 := up_n egy948 hkvy932 (by omega)
                have hgy976 := up_n egy958 hgy975 (by omega)
                have hgy977 := up_n egy969 hgy976 (by omega)
                have hgy978 := up_n egy973 hgy977 (by decide)
                have hgy979 := (hfvy932 (1) (by decide)).trans hgy933
                have hgy980 := up_n egy948 hgy979 (by omega)
                have hgy981 := up_n egy958 hgy980 (by omega)
                have hgy982 := up_n egy969 hgy981 (by omega)
                have hgy983 := up_n egy973 hgy982 (by decide)
                have hgy984 := (hfvy13 (883 + 1) (by omega)).trans hP.2.1
                have hgy985 := (hfvy615 (883 + 1) (by omega)).trans hgy984
                have hgy986 := (hfvy621 (883 + 1) (by omega)).trans hgy985
                have hgy987 := (hfvy626 (883 + 1) (by omega)).trans hgy986
                have hgy988 := (hfvy932 (883 + 1) (by omega)).trans hgy987
                have hgy989 := up_n egy948 hgy988 (ne_o (i := 883) (c := 1) (d := 3) rfl)
                have hgy990 := up_n egy958 hgy989 (ne_o (i := 883) (c := 1) (d := 4) rfl)
                have hgy991 := up_n egy969 hgy990 (ne_o (i := 883) (c := 1) (d := 5) rfl)
                have hgy992 := up_n egy973 hgy991 (ne_o (i := 883) (c := 1) (d := 0) rfl)
                have hgy993 := (hfvy13 (883 + 2) (by omega)).trans hP.2.2.1
                have hgy994 := (hfvy615 (883 + 2) (by omega)).trans hgy993
                have hgy995 := (hfvy621 (883 + 2) (by omega)).trans hgy994
                have hgy996 := (hfvy626 (883 + 2) (by omega)).trans hgy995
                have hgy997 := (hfvy932 (883 + 2) (by omega)).trans hgy996
                have hgy998 := up_n egy948 hgy997 (ne_o (i := 883) (c := 2) (d := 3) rfl)
                have hgy999 := up_n egy958 hgy998 (ne_o (i := 883) (c := 2) (d := 4) rfl)
                have hgy1000 := up_n egy969 hgy999 (ne_o (i := 883) (c := 2) (d := 5) rfl)
                have hgy1001 := up_n egy973 hgy1000 (ne_o (i := 883) (c := 2) (d := 0) rfl)
                have hgy1002 := up_n egy958 hgy949 (ne_o (i := 883) (c := 3) (d := 4) rfl)
                have hgy1003 := up_n egy969 hgy1002 (ne_o (i := 883) (c := 3) (d := 5) rfl)
                have hgy1004 := up_n egy973 hgy1003 (ne_o (i := 883) (c := 3) (d := 0) rfl)
                have hgy1005 := up_n egy969 hgy959 (ne_o (i := 883) (c := 4) (d := 5) rfl)
                have hgy1006 := up_n egy973 hgy1005 (ne_o (i := 883) (c := 4) (d := 0) rfl)
                have hgy1007 := up_n egy973 hgy970 (ne_o (i := 883) (c := 5) (d := 0) rfl)
                have hgy1008 := (hfvy13 (883 + 6) (by omega)).trans hP.2.2.2.2.2.2
                have hgy1009 := (hfvy615 (883 + 6) (by omega)).trans hgy1008
                have hgy1010 := (hfvy621 (883 + 6) (by omega)).trans hgy1009
                have hgy1011 := (hfvy626 (883 + 6) (by omega)).trans hgy1010
                have hgy1012 := (hfvy932 (883 + 6) (by omega)).trans hgy1011
                have hgy1013 := up_n egy948 hgy1012 (ne_o (i := 883) (c := 6) (d := 3) rfl)
                have hgy1014 := up_n egy958 hgy1013 (ne_o (i := 883) (c := 6) (d := 4) rfl)
                have hgy1015 := up_n egy969 hgy1014 (ne_o (i := 883) (c := 6) (d := 5) rfl)
                have hgy1016 := up_n egy973 hgy1015 (ne_o (i := 883) (c := 6) (d := 0) rfl)
                exact z_vret C hr hlk dX7_readHour_155 (by decide) (by decide) ⟨rfl, rfl, rfl, Or.inl ⟨_, by simp only [cl_fin, cl_hour, cl_hour2, if_neg hscy11, if_pos hscy614, hnvy621, if_neg hzvy626, if_pos hscy931, if_pos hnvy932]; rfl, by show (f < n → f < (tk_nx T n (tk_nx T n (tk_nx T n (tk_nx T n (tk_nx T n f)))))) ∧ (tk_nx T n (tk_nx T n (tk_nx T n (tk_nx T n (tk_nx T n f))))) ≤ n; omega, ⟨_, hgy978⟩, ⟨hgy974, hgy992, hgy1001, hgy1004, hgy1006, hgy1007, hgy1016⟩⟩, fun j j1 j2 => by rw [egy973, va_up_ne _ _ (by omega)]; rw [egy969, va_up_ne _ _ (by omega)]; rw [egy958, va_up_ne _ _ (by omega)]; rw [egy948, va_up_ne _ _ (by omega)]; rw [hfvy932 _ (by omega)]; rw [hfvy626 _ (by omega)]; rw [hfvy621 _ (by omega)]; rw [hfvy615 _ (by omega)]; rw [hfvy13 _ (by omega)]⟩
              · obtain ⟨hnvy932, hkvy932⟩ := hvy932
                refine z_aload_n C 4 dX7_readHour_97 rfl ?_
                refine z_get (v := .int (zI (1))) C (lt_K hN (rfl : Nat.blt (2) 952 = true)) hay1 hkvy932 rfl inA_X7 1 (by decide) q_45 rfl rfl dX7_readHour_98 ?_
                refine z_if_ne (tgt := 155) C dX7_readHour_101 (by decide) (by omega) (fun _ => ?_) (fun h => absurd h (by omega))
                have hgy1017 := (hfvy932 (1) (by decide)).trans hgy933
                have hgy1018 := (hfvy13 (883) (by decide)).trans hP.1
                have hgy1019 := (hfvy615 (883) (by decide)).trans hgy1018
                have hgy1020 := (hfvy621 (883) (by decide)).trans hgy1019
                have hgy1021 := (hfvy626 (883) (by decide)).trans hgy1020
                have hgy1022 := (hfvy932 (883) (by decide)).trans hgy1021
                have hgy1023 := (hfvy13 (883 + 1) (by omega)).trans hP.2.1
                have hgy1024 := (hfvy615 (883 + 1) (by omega)).trans hgy1023
                have hgy1025 := (hfvy621 (883 + 1) (by omega)).trans hgy1024
                have hgy1026 := (hfvy626 (883 + 1) (by omega)).trans hgy1025
                have hgy1027 := (hfvy932 (883 + 1) (by omega)).trans hgy1026
                have hgy1028 := (hfvy13 (883 + 2) (by omega)).trans hP.2.2.1
                have hgy1029 := (hfvy615 (883 + 2) (by omega)).trans hgy1028
                have hgy1030 := (hfvy621 (883 + 2) (by omega)).trans hgy1029
                have hgy1031 := (hfvy626 (883 + 2) (by omega)).trans hgy1030
                have hgy1032 := (hfvy932 (883 + 2) (by omega)).trans hgy1031
                have hgy1033 := (hfvy13 (883 + 3) (by omega)).trans hP.2.2.2.1
                have hgy1034 := (hfvy615 (883 + 3) (by omega)).trans hgy1033
                have hgy1035 := (hfvy621 (883 + 3) (by omega)).trans hgy1034
                have hgy1036 := (hfvy626 (883 + 3) (by omega)).trans hgy1035
                have hgy1037 := (hfvy932 (883 + 3) (by omega)).trans hgy1036
                have hgy1038 := (hfvy13 (883 + 4) (by omega)).trans hP.2.2.2.2.1
                have hgy1039 := (hfvy615 (883 + 4) (by omega)).trans hgy1038
                have hgy1040 := (hfvy621 (883 + 4) (by omega)).trans hgy1039
                have hgy1041 := (hfvy626 (883 + 4) (by omega)).trans hgy1040
                have hgy1042 := (hfvy932 (883 + 4) (by omega)).trans hgy1041
                have hgy1043 := (hfvy13 (883 + 5) (by omega)).trans hP.2.2.2.2.2.1
                have hgy1044 := (hfvy615 (883 + 5) (by omega)).trans hgy1043
                have hgy1045 := (hfvy621 (883 + 5) (by omega)).trans hgy1044
                have hgy1046 := (hfvy626 (883 + 5) (by omega)).trans hgy1045
                have hgy1047 := (hfvy932 (883 + 5) (by omega)).trans hgy1046
                have hgy1048 := (hfvy13 (883 + 6) (by omega)).trans hP.2.2.2.2.2.2
                have hgy1049 := (hfvy615 (883 + 6) (by omega)).trans hgy1048
                have hgy1050 := (hfvy621 (883 + 6) (by omega)).trans hgy1049
                have hgy1051 := (hfvy626 (883 + 6) (by omega)).trans hgy1050
                have hgy1052 := (hfvy932 (883 + 6) (by omega)).trans hgy1051
                exact z_vret C hr hlk dX7_readHour_155 (by decide) (by decide) ⟨rfl, rfl, rfl, Or.inr ⟨(1, (tk_nx T n (tk_nx T n (tk_nx T n (tk_nx T n f))))), by simp only [cl_fin, cl_hour, cl_hour2, if_neg hscy11, if_pos hscy614, hnvy621, if_neg hzvy626, if_pos hscy931, if_neg hnvy932], ⟨by show 1 ≤ 1 ∧ 1 ≤ 5; omega, _, _, _, _, _, _, by omega, by omega, hkvy932, hgy1017⟩, ⟨hgy1022, hgy1027, hgy1032, hgy1037, hgy1042, hgy1047, hgy1052⟩⟩, fun j j1 j2 => by rw [hfvy932 _ (by omega)]; rw [hfvy626 _ (by omega)]; rw [hfvy621 _ (by omega)]; rw [hfvy615 _ (by omega)]; rw [hfvy13 _ (by omega)]⟩
            · have hscy1053 : ¬ (tk_fa T n (tk_nx T n (tk_nx T n (tk_nx T n f))) = 3) := by omega
              refine z_aload_n C 3 dX7_readHour_80 rfl ?_
              refine z_iconst (z := 1) C dX7_readHour_81 rfl ?_
              refine z_bipush (z := 50) C dX7_readHour_82 (by decide) ?_
              have hgy1054 := (hfvy626 (1) (by decide)).trans hgy625
              refine z_cV (As := [.int (zI (1)), .int (zI (50))]) (rest := []) (ci := 9) C (c_xNumber l D A cs tt N ad _ (by omega) _ _ _ tp T hT n hn (tk_nx T n (tk_nx T n (tk_nx T n (tk_nx T n f)))) (by omega) hkvy626 hgy1054 (1) (50) (by omega)) (lt_K hN (rfl : Nat.blt (2) 952 = true)) hay1 hkvy626 rfl rfl mv_yX7_number q_817 hd_yX7_number (by decide) (Nat.le_of_ble_eq_true rfl) (by decide) dX7_readHour_84 rfl (kI0 fun vy1055 gvy1055 hvy1055 => ?_)
              obtain ⟨hvy1055, hfvy1055⟩ := hvy1055
              rcases hvy1055 with hvy1055 | hvy1055
              · obtain ⟨hnvy1055, hrvy1055, hkvy1055⟩ := hvy1055
                have hnby1056 := tk_nx_b (T := T) (n := n) (f := (tk_nx T n (tk_nx T n (tk_nx T n (tk_nx T n f))))) (by omega)
                have hsby1057 := tk_so_b T n (tk_nx T n (tk_nx T n (tk_nx T n (tk_nx T n (tk_nx T n f)))))
                have htby1058 := tk_to_b (T := T) (n := n) (f := (tk_nx T n (tk_nx T n (tk_nx T n (tk_nx T n (tk_nx T n f)))))) (by omega)
                refine z_goto (tgt := 91) C dX7_readHour_87 (by decide) ?_
                refine z_istore (lv' := [(5, .int (zI (vy1055))), (4, .int (zI (tk_fa T n (tk_nx T n (tk_nx T n (tk_nx T n f)))))), (3, .int (zI (vy621))), (2, .int (zI (1))), (0, .ref (ad 2)), (1, .ref (ad 883))]) C dX7_readHour_91 (by decide) rfl ?_
                refine z_aload_n C 4 dX7_readHour_93 rfl ?_
                have hgy1060 := (hfvy1055 (1) (by decide)).trans hgy1054
                refine z_cV (As := []) (rest := []) (ci := 9) C (c_xClose l D A cs tt N ad _ (by omega) _ _ _ tp T hT n hn (tk_nx T n (tk_nx T n (tk_nx T n (tk_nx T n (tk_nx T n f))))) (by omega) hkvy1055 hgy1060) (lt_K hN (rfl : Nat.blt (2) 952 = true)) hay1 hkvy1055 rfl rfl mv_yX7_close q_821 hd_yX7_close (by decide) (Nat.le_of_ble_eq_true rfl) (by decide) dX7_readHour_94 rfl (kV0 fun gvy1059 hvy1059 => ?_)
                obtain ⟨hvy1059, hfvy1059⟩ := hvy1059
                rcases hvy1059 with hvy1059 | hvy1059
                · obtain ⟨hnvy1059, hkvy1059⟩ := hvy1059
                  have hnby1061 := tk_nx_b (T := T) (n := n) (f := (tk_nx T n (tk_nx T n (tk_nx T n (tk_nx T n (tk_nx T n f)))))) (by omega)
                  have hsby1062 := tk_so_b T n (tk_nx T n (tk_nx T n (tk_nx T n (tk_nx T n (tk_nx T n (tk_nx T n f))))))
                  have htby1063 := tk_to_b (T := T) (n := n) (f := (tk_nx T n (tk_nx T n (tk_nx T n (tk_nx T n (tk_nx T n (tk_nx T n f))))))) (by omega)
                  refine z_aload_n C 4 dX7_readHour_97 rfl ?_
                  refine z_get (v := .int (zI (0))) C (lt_K hN (rfl : Nat.blt (2) 952 = true)) hay1 hkvy1059 rfl inA_X7 1 (by decide) q_45 rfl rfl dX7_readHour_98 ?_
                  refine z_if_ne (tgt := 155) C dX7_readHour_101 (by decide) (by omega) (fun h => absurd h (by omega)) (fun _ => ?_)
                  refine z_aload_n C 5 dX7_readHour_104 rfl ?_
                  have hgy1064 := (hfvy13 (883) (by decide)).trans hP.1
                  have hgy1065 := (hfvy615 (883) (by decide)).trans hgy1064
                  have hgy1066 := (hfvy621 (883) (by decide)).trans hgy1065
                  have hgy1067 := (hfvy626 (883) (by decide)).trans hgy1066
                  have hgy1068 := (hfvy1055 (883) (by decide)).trans hgy1067
                  have hgy1069 := (hfvy1059 (883) (by decide)).trans hgy1068
                  refine z_get (v := .ref (ad (883 + 3))) C (lt_K hN (rfl : Nat.blt (883) 952 = true)) hay3 hgy1069 rfl inA_X5 5 (by decide) q_106 rfl rfl dX7_readHour_105 ?_
                  refine z_aload_n C 5 dX7_readHour_108 rfl ?_
                  refine z_get (v := .int (zI (ho))) C (lt_K hN (rfl : Nat.blt (883) 952 = true)) hay3 hgy1069 rfl inA_X5 1 (by decide) q_94 rfl rfl dX7_readHour_109 ?_
                  refine z_iload_n C 3 dX7_readHour_112 rfl ?_
                  refine z_if_eq (tgt := 121) C dX7_readHour_113 (by decide) (by omega) (fun h => absurd h (by omega)) (fun _ => ?_)
                  refine z_iload_n C 2 dX7_readHour_116 rfl ?_
                  refine z_ineg C dX7_readHour_117 ?_
                  refine z_goto (tgt := 122) C dX7_readHour_118 (by decide) ?_
                  have hgy1070 := (hfvy13 (883 + 3) (by omega)).trans hP.2.2.2.1
                  have hgy1071 := (hfvy615 (883 + 3) (by omega)).trans hgy1070
                  have hgy1072 := (hfvy621 (883 + 3) (by omega)).trans hgy1071
                  have hgy1073 := (hfvy626 (883 + 3) (by omega)).trans hgy1072
                  have hgy1074 := (hfvy1055 (883 + 3) (by omega)).trans hgy1073
                  have hgy1075 := (hfvy1059 (883 + 3) (by omega)).trans hgy1074
                  refine z_iast C (lt_K hN (rfl : Nat.blt (883 + 3) 952 = true)) hay6 hgy1075 ((ho).toNat) (by omega) (by omega) (by decide) dX7_readHour_122 (fun gy1076 egy1077 => ?_)
                  have hgy1078 := up_s egy1077
                  refine z_aload_n C 5 dX7_readHour_123 rfl ?_
                  have hgy1079 := up_n egy1077 hgy1069 (ne_o (i := 883) (c := 0) (d := 3) rfl)
                  refine z_get (v := .ref (ad (883 + 4))) C (lt_K hN (rfl : Nat.blt (883) 952 = true)) hay3 hgy1079 rfl inA_X5 6 (by decide) q_109 rfl rfl dX7_readHour_124 ?_
                  refine z_aload_n C 5 dX7_readHour_127 rfl ?_
                  refine z_get (v := .int (zI (ho))) C (lt_K hN (rfl : Nat.blt (883) 952 = true)) hay3 hgy1079 rfl inA_X5 1 (by decide) q_94 rfl rfl dX7_readHour_128 ?_
                  refine z_iload C 1 dX7_readHour_131 rfl ?_
                  have hgy1080 := (hfvy13 (883 + 4) (by omega)).trans hP.2.2.2.2.1
                  have hgy1081 := (hfvy615 (883 + 4) (by omega)).trans hgy1080
                  have hgy1082 := (hfvy621 (883 + 4) (by omega)).trans hgy1081
                  have hgy1083 := (hfvy626 (883 + 4) (by omega)).trans hgy1082
                  have hgy1084 := (hfvy1055 (883 + 4) (by omega)).trans hgy1083
                  have hgy1085 := (hfvy1059 (883 + 4) (by omega)).trans hgy1084
                  have hgy1086 := up_n egy1077 hgy1085 (ne_o (i := 883) (c := 4) (d := 3) rfl)
                  refine z_iast C (lt_K hN (rfl : Nat.blt (883 + 4) 952 = true)) hay7 hgy1086 ((ho).toNat) (by omega) (by omega) (by decide) dX7_readHour_133 (fun gy1087 egy1088 => ?_)
                  have hgy1089 := up_s egy1088
                  refine z_aload_n C 5 dX7_readHour_134 rfl ?_
                  have hgy1090 := up_n egy1088 hgy1079 (ne_o (i := 883) (c := 0) (d := 4) rfl)
                  refine z_get (v := .ref (ad (883 + 5))) C (lt_K hN (rfl : Nat.blt (883) 952 = true)) hay3 hgy1090 rfl inA_X5 7 (by decide) q_112 rfl rfl dX7_readHour_135 ?_
                  refine z_aload_n C 5 dX7_readHour_138 rfl ?_
                  refine z_get (v := .int (zI (ho))) C (lt_K hN (rfl : Nat.blt (883) 952 = true)) hay3 hgy1090 rfl inA_X5 1 (by decide) q_94 rfl rfl dX7_readHour_139 ?_
                  refine z_iload C 0 dX7_readHour_142 rfl ?_
                  have hgy1091 := (hfvy13 (883 + 5) (by omega)).trans hP.2.2.2.2.2.1
                  have hgy1092 := (hfvy615 (883 + 5) (by omega)).trans hgy1091
                  have hgy1093 := (hfvy621 (883 + 5) (by omega)).trans hgy1092
                  have hgy1094 := (hfvy626 (883 + 5) (by omega)).trans hgy1093
                  have hgy1095 := (hfvy1055 (883 + 5) (by omega)).trans hgy1094
                  have hgy1096 := (hfvy1059 (883 + 5) (by omega)).trans hgy1095
                  have hgy1097 := up_n egy1077 hgy1096 (ne_o (i := 883) (c := 5) (d := 3) rfl)
                  have hgy1098 := up_n egy1088 hgy1097 (ne_o (i := 883) (c := 5) (d := 4) rfl)
                  refine z_iast C (lt_K hN (rfl : Nat.blt (883 + 5) 952 = true)) hay8 hgy1098 ((ho).toNat) (by omega) (by omega) (by decide) dX7_readHour_144 (fun gy1099 egy1100 => ?_)
                  have hgy1101 := up_s egy1100
                  refine z_aload_n C 5 dX7_readHour_145 rfl ?_
                  refine z_dup C dX7_readHour_146 rfl ?_
                  have hgy1102 := up_n egy1100 hgy1090 (ne_o (i := 883) (c := 0) (d := 5) rfl)
                  refine z_get (v := .int (zI (ho))) C (lt_K hN (rfl : Nat.blt (883) 952 = true)) hay3 hgy1102 rfl inA_X5 1 (by decide) q_94 rfl rfl dX7_readHour_147 ?_
                  refine z_iconst (z := 1) C dX7_readHour_150 rfl ?_
                  refine z_iadd C dX7_readHour_151 ?_
                  refine z_put (fs' := [.int (zI (sl)), .int (zI (ho + 1)), .int (zI (ua)), .ref (ad (883 + 1)), .ref (ad (883 + 2)), .ref (ad (883 + 3)), .ref (ad (883 + 4)), .ref (ad (883 + 5)), .ref (ad (883 + 6))]) C (lt_K hN (rfl : Nat.blt (883) 952 = true)) hay3 hgy1102 tyX5 tyX5_ok nmX5 rfl inA_X5 1 (by decide) q_94 rfl rfl rfl rfl (Nat.le_of_ble_eq_true rfl) rfl dX7_readHour_152 (fun gy1103 egy1104 => ?_)
                  have hgy1105 := up_s egy1104
                  have hgy1106 := up_n egy1077 hkvy1059 (by omega)
                  have hgy1107 := up_n egy1088 hgy1106 (by omega)
                  have hgy1108 := up_n egy1100 hgy1107 (by omega)
                  have hgy1109 := up_n egy1104 hgy1108 (by decide)
                  have hgy1110 := (hfvy1059 (1) (by decide)).trans hgy1060
                  have hgy1111 := up_n egy1077 hgy1110 (by omega)
                  have hgy1112 := up_n egy1088 hgy1111 (by omega)
                  have hgy1113 := up_n egy1100 hgy1112 (by omega)
                  have hgy1114 := up_n egy1104 hgy1113 (by decide)
                  have hgy1115 := (hfvy13 (883 + 1) (by omega)).trans hP.2.1
                  have hgy1116 := (hfvy615 (883 + 1) (by omega)).trans hgy1115
                  have hgy1117 := (hfvy621 (883 + 1) (by omega)).trans hgy1116
                  have hgy1118 := (hfvy626 (883 + 1) (by omega)).trans hgy1117
                  have hgy1119 := (hfvy1055 (883 + 1) (by omega)).trans hgy1118
                  have hgy1120 := (hfvy1059 (883 + 1) (by omega)).trans hgy1119
                  have hgy1121 := up_n egy1077 hgy1120 (ne_o (i := 883) (c := 1) (d := 3) rfl)
                  have hgy1122 := up_n egy1088 hgy1121 (ne_o (i := 883) (c := 1) (d := 4) rfl)
                  have hgy1123 := up_n egy1100 hgy1122 (ne_o (i := 883) (c := 1) (d := 5) rfl)
                  have hgy1124 := up_n egy1104 hgy1123 (ne_o (i := 883) (c := 1) (d := 0) rfl)
                  have hgy1125 := (hfvy13 (883 + 2) (by omega)).trans hP.2.2.1
                  have hgy1126 := (hfvy615 (883 + 2) (by omega)).trans hgy1125
                  have hgy1127 := (hfvy621 (883 + 2) (by omega)).trans hgy1126
                  have hgy1128 := (hfvy626 (883 + 2) (by omega)).trans hgy1127
                  have hgy1129 := (hfvy1055 (883 + 2) (by omega)).trans hgy1128
                  have hgy1130 := (hfvy1059 (883 + 2) (by omega)).trans hgy1129
                  have hgy1131 := up_n egy1077 hgy1130 (ne_o (i := 883) (c := 2) (d := 3) rfl)
                  have hgy1132 := up_n egy1088 hgy1131 (ne_o (i := 883) (c := 2) (d := 4) rfl)
                  have hgy1133 := up_n egy1100 hgy1132 (ne_o (i := 883) (c := 2) (d := 5) rfl)
                  have hgy1134 := up_n egy1104 hgy1133 (ne_o (i := 883) (c := 2) (d := 0) rfl)
                  have hgy1135 := up_n egy1088 hgy1078 (ne_o (i := 883) (c := 3) (d := 4) rfl)
                  have hgy1136 := up_n egy1100 hgy1135 (ne_o (i := 883) (c := 3) (d := 5) rfl)
                  have hgy1137 := up_n egy1104 hgy1136 (ne_o (i := 883) (c := 3) (d := 0) rfl)
                  have hgy1138 := up_n egy1100 hgy1089 (ne_o (i := 883) (c := 4) (d := 5) rfl)
                  have hgy1139 := up_n egy1104 hgy1138 (ne_o (i := 883) (c := 4) (d := 0) rfl)
                  have hgy1140 := up_n egy1104 hgy1101 (ne_o (i := 883) (c := 5) (d := 0) rfl)
                  have hgy1141 := (hfvy13 (883 + 6) (by omega)).trans hP.2.2.2.2.2.2
                  have hgy1142 := (hfvy615 (883 + 6) (by omega)).trans hgy1141
                  have hgy1143 := (hfvy621 (883 + 6) (by omega)).trans hgy1142
                  have hgy1144 := (hfvy626 (883 + 6) (by omega)).trans hgy1143
                  have hgy1145 := (hfvy1055 (883 + 6) (by omega)).trans hgy1144
                  have hgy1146 := (hfvy1059 (883 + 6) (by omega)).trans hgy1145
                  have hgy1147 := up_n egy1077 hgy1146 (ne_o (i := 883) (c := 6) (d := 3) rfl)
                  have hgy1148 := up_n egy1088 hgy1147 (ne_o (i := 883) (c := 6) (d := 4) rfl)
                  have hgy1149 := up_n egy1100 hgy1148 (ne_o (i := 883) (c := 6) (d := 5) rfl)
                  have hgy1150 := up_n egy1104 hgy1149 (ne_o (i := 883) (c := 6) (d := 0) rfl)
                  exact z_vret C hr hlk dX7_readHour_155 (by decide) (by decide) ⟨rfl, rfl, rfl, Or.inl ⟨_, by simp only [cl_fin, cl_hour, cl_hour2, if_neg hscy11, if_pos hscy614, hnvy621, if_neg hzvy626, if_neg hscy1053, hnvy1055, if_pos hnvy1059]; rfl, by show (f < n → f < (tk_nx T n (tk_nx T n (tk_nx T n (tk_nx T n (tk_nx T n (tk_nx T n f))))))) ∧ (tk_nx T n (tk_nx T n (tk_nx T n (tk_nx T n (tk_nx T n (tk_nx T n f)))))) ≤ n; omega, ⟨_, hgy1109⟩, ⟨hgy1105, hgy1124, hgy1134, hgy1137, hgy1139, hgy1140, hgy1150⟩⟩, fun j j1 j2 => by rw [egy1104, va_up_ne _ _ (by omega)]; rw [egy1100, va_up_ne _ _ (by omega)]; rw [egy1088, va_up_ne _ _ (by omega)]; rw [egy1077, va_up_ne _ _ (by omega)]; rw [hfvy1059 _ (by omega)]; rw [hfvy1055 _ (by omega)]; rw [hfvy626 _ (by omega)]; rw [hfvy621 _ (by omega)]; rw [hfvy615 _ (by omega)]; rw [hfvy13 _ (by omega)]⟩
                · obtain ⟨hnvy1059, hkvy1059⟩ := hvy1059
                  refine z_aload_n C 4 dX7_readHour_97 rfl ?_
                  refine z_get (v := .int (zI (1))) C (lt_K hN (rfl : Nat.blt (2) 952 = true)) hay1 hkvy1059 rfl inA_X7 1 (by decide) q_45 rfl rfl dX7_readHour_98 ?_
                  refine z_if_ne (tgt := 155) C dX7_readHour_101 (by decide) (by omega) (fun _ => ?_) (fun h => absurd h (by omega))
                  have hgy1151 := (hfvy1059 (1) (by decide)).trans hgy1060
                  have hgy1152 := (hfvy13 (883) (by decide)).trans hP.1
                  have hgy1153 := (hfvy615 (883) (by decide)).trans hgy1152
                  have hgy1154 := (hfvy621 (883) (by decide)).trans hgy1153
                  have hgy1155 := (hfvy626 (883) (by decide)).trans hgy1154
                  have hgy1156 := (hfvy1055 (883) (by decide)).trans hgy1155
                  have hgy1157 := (hfvy1059 (883) (by decide)).trans hgy1156
                  have hgy1158 := (hfvy13 (883 + 1) (by omega)).trans hP.2.1
                  have hgy1159 := (hfvy615 (883 + 1) (by omega)).trans hgy1158
                  have hgy1160 := (hfvy621 (883 + 1) (by omega)).trans hgy1159
                  have hgy1161 := (hfvy626 (883 + 1) (by omega)).trans hgy1160
                  have hgy1162 := (hfvy1055 (883 + 1) (by omega)).trans hgy1161
                  have hgy1163 := (hfvy1059 (883 + 1) (by omega)).trans hgy1162
                  have hgy1164 := (hfvy13 (883 + 2) (by omega)).trans hP.2.2.1
                  have hgy1165 := (hfvy615 (883 + 2) (by omega)).trans hgy1164
                  have hgy1166 := (hfvy621 (883 + 2) (by omega)).trans hgy1165
                  have hgy1167 := (hfvy626 (883 + 2) (by omega)).trans hgy1166
                  have hgy1168 := (hfvy1055 (883 + 2) (by omega)).trans hgy1167
                  have hgy1169 := (hfvy1059 (883 + 2) (by omega)).trans hgy1168
                  have hgy1170 := (hfvy13 (883 + 3) (by omega)).trans hP.2.2.2.1
                  have hgy1171 := (hfvy615 (883 + 3) (by omega)).trans hgy1170
                  have hgy1172 := (hfvy621 (883 + 3) (by omega)).trans hgy1171
                  have hgy1173 := (hfvy626 (883 + 3) (by omega)).trans hgy1172
                  have hgy1174 := (hfvy1055 (883 + 3) (by omega)).trans hgy1173
                  have hgy1175 := (hfvy1059 (883 + 3) (by omega)).trans hgy1174
                  have hgy1176 := (hfvy13 (883 + 4) (by omega)).trans hP.2.2.2.2.1
                  have hgy1177 := (hfvy615 (883 + 4) (by omega)).trans hgy1176
                  have hgy1178 := (hfvy621 (883 + 4) (by omega)).trans hgy1177
                  have hgy1179 := (hfvy626 (883 + 4) (by omega)).trans hgy1178
                  have hgy1180 := (hfvy1055 (883 + 4) (by omega)).trans hgy1179
                  have hgy1181 := (hfvy1059 (883 + 4) (by omega)).trans hgy1180
                  have hgy1182 := (hfvy13 (883 + 5) (by omega)).trans hP.2.2.2.2.2.1
                  have hgy1183 := (hfvy615 (883 + 5) (by omega)).trans hgy1182
                  have hgy1184 := (hfvy621 (883 + 5) (by omega)).trans hgy1183
                  have hgy1185 := (hfvy626 (883 + 5) (by omega)).trans hgy1184
                  have hgy1186 := (hfvy1055 (883 + 5) (by omega)).trans hgy1185
                  have hgy1187 := (hfvy1059 (883 + 5) (by omega)).trans hgy1186
                  have hgy1188 := (hfvy13 (883 + 6) (by omega)).trans hP.2.2.2.2.2.2
                  have hgy1189 := (hfvy615 (883 + 6) (by omega)).trans hgy1188
                  have hgy1190 := (hfvy621 (883 + 6) (by omega)).trans hgy1189
                  have hgy1191 := (hfvy626 (883 + 6) (by omega)).trans hgy1190
                  have hgy1192 := (hfvy1055 (883 + 6) (by omega)).trans hgy1191
                  have hgy1193 := (hfvy1059 (883 + 6) (by omega)).trans hgy1192
                  exact z_vret C hr hlk dX7_readHour_155 (by decide) (by decide) ⟨rfl, rfl, rfl, Or.inr ⟨(1, (tk_nx T n (tk_nx T n (tk_nx T n (tk_nx T n (tk_nx T n f)))))), by simp only [cl_fin, cl_hour, cl_hour2, if_neg hscy11, if_pos hscy614, hnvy621, if_neg hzvy626, if_neg hscy1053, hnvy1055, if_neg hnvy1059], ⟨by show 1 ≤ 1 ∧ 1 ≤ 5; omega, _, _, _, _, _, _, by omega, by omega, hkvy1059, hgy1151⟩, ⟨hgy1157, hgy1163, hgy1169, hgy1175, hgy1181, hgy1187, hgy1193⟩⟩, fun j j1 j2 => by rw [hfvy1059 _ (by omega)]; rw [hfvy1055 _ (by omega)]; rw [hfvy626 _ (by omega)]; rw [hfvy621 _ (by omega)]; rw [hfvy615 _ (by omega)]; rw [hfvy13 _ (by omega)]⟩
              · obtain ⟨cvy1055, hcvy1055, hnvy1055, rfl, hkvy1055⟩ := hvy1055
                refine z_goto (tgt := 91) C dX7_readHour_87 (by decide) ?_
                refine z_istore (lv' := [(5, .int (zI (0))), (4, .int (zI (tk_fa T n (tk_nx T n (tk_nx T n (tk_nx T n f)))))), (3, .int (zI (vy621))), (2, .int (zI (1))), (0, .ref (ad 2)), (1, .ref (ad 883))]) C dX7_readHour_91 (by decide) rfl ?_
                refine z_aload_n C 4 dX7_readHour_93 rfl ?_
                refine z_cV (As := []) (rest := []) (ci := 9) C (c_fClose l D A cs tt N ad _ (by omega) _ _ _ _ _ _ _ _ (by omega) (by omega) hkvy1055) (lt_K hN (rfl : Nat.blt (2) 952 = true)) hay1 hkvy1055 rfl rfl mv_yX7_close q_821 hd_yX7_close (by decide) (Nat.le_of_ble_eq_true rfl) (by decide) dX7_readHour_94 rfl (kV0 fun gvy1194 hvy1194 => ?_)
                obtain rfl := hvy1194
                refine z_aload_n C 4 dX7_readHour_97 rfl ?_
                refine z_get (v := .int (zI (cvy1055))) C (lt_K hN (rfl : Nat.blt (2) 952 = true)) hay1 hkvy1055 rfl inA_X7 1 (by decide) q_45 rfl rfl dX7_readHour_98 ?_
                refine z_if_ne (tgt := 155) C dX7_readHour_101 (by decide) (by omega) (fun _ => ?_) (fun h => absurd h (by omega))
                have hgy1195 := (hfvy1055 (1) (by decide)).trans hgy1054
                have hgy1196 := (hfvy13 (883) (by decide)).trans hP.1
                have hgy1197 := (hfvy615 (883) (by decide)).trans hgy1196
                have hgy1198 := (hfvy621 (883) (by decide)).trans hgy1197
                have hgy1199 := (hfvy626 (883) (by decide)).trans hgy1198
                have hgy1200 := (hfvy1055 (883) (by decide)).trans hgy1199
                have hgy1201 := (hfvy13 (883 + 1) (by omega)).trans hP.2.1
                have hgy1202 := (hfvy615 (883 + 1) (by omega)).trans hgy1201
                have hgy1203 := (hfvy621 (883 + 1) (by omega)).trans hgy1202
                have hgy1204 := (hfvy626 (883 + 1) (by omega)).trans hgy1203
                have hgy1205 := (hfvy1055 (883 + 1) (by omega)).trans hgy1204
                have hgy1206 := (hfvy13 (883 + 2) (by omega)).trans hP.2.2.1
                have hgy1207 := (hfvy615 (883 + 2) (by omega)).trans hgy1206
                have hgy1208 := (hfvy621 (883 + 2) (by omega)).trans hgy1207
                have hgy1209 := (hfvy626 (883 + 2) (by omega)).trans hgy1208
                have hgy1210 := (hfvy1055 (883 + 2) (by omega)).trans hgy1209
                have hgy1211 := (hfvy13 (883 + 3) (by omega)).trans hP.2.2.2.1
                have hgy1212 := (hfvy615 (883 + 3) (by omega)).trans hgy1211
                have hgy1213 := (hfvy621 (883 + 3) (by omega)).trans hgy1212
                have hgy1214 := (hfvy626 (883 + 3) (by omega)).trans hgy1213
                have hgy1215 := (hfvy1055 (883 + 3) (by omega)).trans hgy1214
                have hgy1216 := (hfvy13 (883 + 4) (by omega)).trans hP.2.2.2.2.1
                have hgy1217 := (hfvy615 (883 + 4) (by omega)).trans hgy1216
                have hgy1218 := (hfvy621 (883 + 4) (by omega)).trans hgy1217
                have hgy1219 := (hfvy626 (883 + 4) (by omega)).trans hgy1218
                have hgy1220 := (hfvy1055 (883 + 4) (by omega)).trans hgy1219
                have hgy1221 := (hfvy13 (883 + 5) (by omega)).trans hP.2.2.2.2.2.1
                have hgy1222 := (hfvy615 (883 + 5) (by omega)).trans hgy1221
                have hgy1223 := (hfvy621 (883 + 5) (by omega)).trans hgy1222
                have hgy1224 := (hfvy626 (883 + 5) (by omega)).trans hgy1223
                have hgy1225 := (hfvy1055 (883 + 5) (by omega)).trans hgy1224
                have hgy1226 := (hfvy13 (883 + 6) (by omega)).trans hP.2.2.2.2.2.2
                have hgy1227 := (hfvy615 (883 + 6) (by omega)).trans hgy1226
                have hgy1228 := (hfvy621 (883 + 6) (by omega)).trans hgy1227
                have hgy1229 := (hfvy626 (883 + 6) (by omega)).trans hgy1228
                have hgy1230 := (hfvy1055 (883 + 6) (by omega)).trans hgy1229
                exact z_vret C hr hlk dX7_readHour_155 (by decide) (by decide) ⟨rfl, rfl, rfl, Or.inr ⟨(cvy1055, (tk_nx T n (tk_nx T n (tk_nx T n (tk_nx T n f))))), by simp only [cl_fin, cl_hour, cl_hour2, if_neg hscy11, if_pos hscy614, hnvy621, if_neg hzvy626, if_neg hscy1053, hnvy1055], ⟨by show 1 ≤ cvy1055 ∧ cvy1055 ≤ 5; omega, _, _, _, _, _, _, by omega, by omega, hkvy1055, hgy1195⟩, ⟨hgy1200, hgy1205, hgy1210, hgy1215, hgy1220, hgy1225, hgy1230⟩⟩, fun j j1 j2 => by rw [hfvy1055 _ (by omega)]; rw [hfvy626 _ (by omega)]; rw [hfvy621 _ (by omega)]; rw [hfvy615 _ (by omega)]; rw [hfvy13 _ (by omega)]⟩
      · obtain ⟨cvy621, hcvy621, hnvy621, rfl, hkvy621⟩ := hvy621
        refine z_istore_n (lv' := [(3, .int (zI (0))), (2, .int (zI (1))), (0, .ref (ad 2)), (1, .ref (ad 883))]) C dX7_readHour_61 rfl (by decide) rfl ?_
        refine z_aload_n C 2 dX7_readHour_62 rfl ?_
        have hgy1232 := (hfvy621 (1) (by decide)).trans hgy620
        have hruny1231 : okRun cs ad gvy621 (cvy621) tp := ⟨_, _, _, _, _, _, _, by omega, by omega, hkvy621, hgy1232⟩
        refine z_cV (As := []) (rest := []) (ci := 9) C (c_fFall l D A cs tt N ad _ (by omega) _ tp hruny1231 (by omega) ) (lt_K hN (rfl : Nat.blt (2) 952 = true)) hay1 hkvy621 rfl rfl mv_yX7_readFall q_848 hd_yX7_readFall (by decide) (Nat.le_of_ble_eq_true rfl) (by decide) dX7_readHour_63 rfl (kI0 fun vy1233 gvy1233 hvy1233 => ?_)
        obtain ⟨hvy1233, rfl⟩ := hvy1233
        refine z_istore (lv' := [(4, .int (zI (vy1233))), (3, .int (zI (0))), (2, .int (zI (1))), (0, .ref (ad 2)), (1, .ref (ad 883))]) C dX7_readHour_66 (by decide) rfl ?_
        refine z_iload C 0 dX7_readHour_68 rfl ?_
        refine z_iconst (z := 1) C dX7_readHour_70 rfl ?_
        refine z_icmp_eq (tgt := 80) C dX7_readHour_71 (by decide) (by omega) (by omega) (fun hby1234 => ?_) (fun hby1234 => ?_)
        · refine z_aload_n C 3 dX7_readHour_80 rfl ?_
          refine z_iconst (z := 1) C dX7_readHour_81 rfl ?_
          refine z_bipush (z := 50) C dX7_readHour_82 (by decide) ?_
          have hruny1235 : okRun cs ad gvy621 (cvy621) tp := ⟨_, _, _, _, _, _, _, by omega, by omega, hkvy621, hgy1232⟩
          refine z_cV (As := [.int (zI (1)), .int (zI (50))]) (rest := []) (ci := 9) C (c_fNumber l D A cs tt N ad _ (by omega) _ tp hruny1235 (by omega) (1) (by omega) (50) (by omega)) (lt_K hN (rfl : Nat.blt (2) 952 = true)) hay1 hkvy621 rfl rfl mv_yX7_number q_817 hd_yX7_number (by decide) (Nat.le_of_ble_eq_true rfl) (by decide) dX7_readHour_84 rfl (kI0 fun vy1236 gvy1236 hvy1236 => ?_)
          obtain ⟨hvy1236, rfl⟩ := hvy1236
          refine z_goto (tgt := 91) C dX7_readHour_87 (by decide) ?_
          refine z_istore (lv' := [(5, .int (zI (vy1236))), (4, .int (zI (vy1233))), (3, .int (zI (0))), (2, .int (zI (1))), (0, .ref (ad 2)), (1, .ref (ad 883))]) C dX7_readHour_91 (by decide) rfl ?_
          refine z_aload_n C 4 dX7_readHour_93 rfl ?_
          refine z_cV (As := []) (rest := []) (ci := 9) C (c_fClose l D A cs tt N ad _ (by omega) _ _ _ _ _ _ _ _ (by omega) (by omega) hkvy621) (lt_K hN (rfl : Nat.blt (2) 952 = true)) hay1 hkvy621 rfl rfl mv_yX7_close q_821 hd_yX7_close (by decide) (Nat.le_of_ble_eq_true rfl) (by decide) dX7_readHour_94 rfl (kV0 fun gvy1237 hvy1237 => ?_)
          obtain rfl := hvy1237
          refine z_aload_n C 4 dX7_readHour_97 rfl ?_
          refine z_get (v := .int (zI (cvy621))) C (lt_K hN (rfl : Nat.blt (2) 952 = true)) hay1 hkvy621 rfl inA_X7 1 (by decide) q_45 rfl rfl dX7_readHour_98 ?_
          refine z_if_ne (tgt := 155) C dX7_readHour_101 (by decide) (by omega) (fun _ => ?_) (fun h => absurd h (by omega))
          have hgy1238 := (hfvy13 (883) (by decide)).trans hP.1
          have hgy1239 := (hfvy615 (883) (by decide)).trans hgy1238
          have hgy1240 := (hfvy621 (883) (by decide)).trans hgy1239
          have hgy1241 := (hfvy13 (883 + 1) (by omega)).trans hP.2.1
          have hgy1242 := (hfvy615 (883 + 1) (by omega)).trans hgy1241
          have hgy1243 := (hfvy621 (883 + 1) (by omega)).trans hgy1242
          have hgy1244 := (hfvy13 (883 + 2) (by omega)).trans hP.2.2.1
          have hgy1245 := (hfvy615 (883 + 2) (by omega)).trans hgy1244
          have hgy1246 := (hfvy621 (883 + 2) (by omega)).trans hgy1245
          have hgy1247 := (hfvy13 (883 + 3) (by omega)).trans hP.2.2.2.1
          have hgy1248 := (hfvy615 (883 + 3) (by omega)).trans hgy1247
          have hgy1249 := (hfvy621 (883 + 3) (by omega)).trans hgy1248
          have hgy1250 := (hfvy13 (883 + 4) (by omega)).trans hP.2.2.2.2.1
          have hgy1251 := (hfvy615 (883 + 4) (by omega)).trans hgy1250
          have hgy1252 := (hfvy621 (883 + 4) (by omega)).trans hgy1251
          have hgy1253 := (hfvy13 (883 + 5) (by omega)).trans hP.2.2.2.2.2.1
          have hgy1254 := (hfvy615 (883 + 5) (by omega)).trans hgy1253
          have hgy1255 := (hfvy621 (883 + 5) (by omega)).trans hgy1254
          have hgy1256 := (hfvy13 (883 + 6) (by omega)).trans hP.2.2.2.2.2.2
          have hgy1257 := (hfvy615 (883 + 6) (by omega)).trans hgy1256
          have hgy1258 := (hfvy621 (883 + 6) (by omega)).trans hgy1257
          exact z_vret C hr hlk dX7_readHour_155 (by decide) (by decide) ⟨rfl, rfl, rfl, Or.inr ⟨(cvy621, (tk_nx T n (tk_nx T n f))), by simp only [cl_fin, cl_hour, cl_hour2, if_neg hscy11, if_pos hscy614, hnvy621], ⟨by show 1 ≤ cvy621 ∧ cvy621 ≤ 5; omega, _, _, _, _, _, _, by omega, by omega, hkvy621, hgy1232⟩, ⟨hgy1240, hgy1243, hgy1246, hgy1249, hgy1252, hgy1255, hgy1258⟩⟩, fun j j1 j2 => by rw [hfvy621 _ (by omega)]; rw [hfvy615 _ (by omega)]; rw [hfvy13 _ (by omega)]⟩
        · refine z_iload C 0 dX7_readHour_74 rfl ?_
          refine z_iconst (z := 2) C dX7_readHour_76 rfl ?_
          refine z_icmp_ne (tgt := 90) C dX7_readHour_77 (by decide) (by omega) (by omega) (fun hby1259 => ?_) (fun hby1259 => ?_)
          · refine z_iconst (z := 0) C dX7_readHour_90 rfl ?_
            refine z_istore (lv' := [(5, .int (zI (0))), (4, .int (zI (vy1233))), (3, .int (zI (0))), (2, .int (zI (1))), (0, .ref (ad 2)), (1, .ref (ad 883))]) C dX7_readHour_91 (by decide) rfl ?_
            refine z_aload_n C 4 dX7_readHour_93 rfl ?_
            refine z_cV (As := []) (rest := []) (ci := 9) C (c_fClose l D A cs tt N ad _ (by omega) _ _ _ _ _ _ _ _ (by omega) (by omega) hkvy621) (lt_K hN (rfl : Nat.blt (2) 952 = true)) hay1 hkvy621 rfl rfl mv_yX7_close q_821 hd_yX7_close (by decide) (Nat.le_of_ble_eq_true rfl) (by decide) dX7_readHour_94 rfl (kV0 fun gvy1260 hvy1260 => ?_)
            obtain rfl := hvy1260
            refine z_aload_n C 4 dX7_readHour_97 rfl ?_
            refine z_get (v := .int (zI (cvy621))) C (lt_K hN (rfl : Nat.blt (2) 952 = true)) hay1 hkvy621 rfl inA_X7 1 (by decide) q_45 rfl rfl dX7_readHour_98 ?_
            refine z_if_ne (tgt := 155) C dX7_readHour_101 (by decide) (by omega) (fun _ => ?_) (fun h => absurd h (by omega))
            have hgy1261 := (hfvy13 (883) (by decide)).trans hP.1
            have hgy1262 := (hfvy615 (883) (by decide)).trans hgy1261
            have hgy1263 := (hfvy621 (883) (by decide)).trans hgy1262
            have hgy1264 := (hfvy13 (883 + 1) (by omega)).trans hP.2.1
            have hgy1265 := (hfvy615 (883 + 1) (by omega)).trans hgy1264
            have hgy1266 := (hfvy621 (883 + 1) (by omega)).trans hgy1265
            have hgy1267 := (hfvy13 (883 + 2) (by omega)).trans hP.2.2.1
            have hgy1268 := (hfvy615 (883 + 2) (by omega)).trans hgy1267
            have hgy1269 := (hfvy621 (883 + 2) (by omega)).trans hgy1268
            have hgy1270 := (hfvy13 (883 + 3) (by omega)).trans hP.2.2.2.1
            have hgy1271 := (hfvy615 (883 + 3) (by omega)).trans hgy1270
            have hgy1272 := (hfvy621 (883 + 3) (by omega)).trans hgy1271
            have hgy1273 := (hfvy13 (883 + 4) (by omega)).trans hP.2.2.2.2.1
            have hgy1274 := (hfvy615 (883 + 4) (by omega)).trans hgy1273
            have hgy1275 := (hfvy621 (883 + 4) (by omega)).trans hgy1274
            have hgy1276 := (hfvy13 (883 + 5) (by omega)).trans hP.2.2.2.2.2.1
            have hgy1277 := (hfvy615 (883 + 5) (by omega)).trans hgy1276
            have hgy1278 := (hfvy621 (883 + 5) (by omega)).trans hgy1277
            have hgy1279 := (hfvy13 (883 + 6) (by omega)).trans hP.2.2.2.2.2.2
            have hgy1280 := (hfvy615 (883 + 6) (by omega)).trans hgy1279
            have hgy1281 := (hfvy621 (883 + 6) (by omega)).trans hgy1280
            exact z_vret C hr hlk dX7_readHour_155 (by decide) (by decide) ⟨rfl, rfl, rfl, Or.inr ⟨(cvy621, (tk_nx T n (tk_nx T n f))), by simp only [cl_fin, cl_hour, cl_hour2, if_neg hscy11, if_pos hscy614, hnvy621], ⟨by show 1 ≤ cvy621 ∧ cvy621 ≤ 5; omega, _, _, _, _, _, _, by omega, by omega, hkvy621, hgy1232⟩, ⟨hgy1263, hgy1266, hgy1269, hgy1272, hgy1275, hgy1278, hgy1281⟩⟩, fun j j1 j2 => by rw [hfvy621 _ (by omega)]; rw [hfvy615 _ (by omega)]; rw [hfvy13 _ (by omega)]⟩
          · refine z_aload_n C 3 dX7_readHour_80 rfl ?_
            refine z_iconst (z := 1) C dX7_readHour_81 rfl ?_
            refine z_bipush (z := 50) C dX7_readHour_82 (by decide) ?_
            have hruny1282 : okRun cs ad gvy621 (cvy621) tp := ⟨_, _, _, _, _, _, _, by omega, by omega, hkvy621, hgy1232⟩
            refine z_cV (As := [.int (zI (1)), .int (zI (50))]) (rest := []) (ci := 9) C (c_fNumber l D A cs tt N ad _ (by omega) _ tp hruny1282 (by omega) (1) (by omega) (50) (by omega)) (lt_K hN (rfl : Nat.blt (2) 952 = true)) hay1 hkvy621 rfl rfl mv_yX7_number q_817 hd_yX7_number (by decide) (Nat.le_of_ble_eq_true rfl) (by decide) dX7_readHour_84 rfl (kI0 fun vy1283 gvy1283 hvy1283 => ?_)
            obtain ⟨hvy1283, rfl⟩ := hvy1283
            refine z_goto (tgt := 91) C dX7_readHour_87 (by decide) ?_
            refine z_istore (lv' := [(5, .int (zI (vy1283))), (4, .int (zI (vy1233))), (3, .int (zI (0))), (2, .int (zI (1))), (0, .ref (ad 2)), (1, .ref (ad 883))]) C dX7_readHour_91 (by decide) rfl ?_
            refine z_aload_n C 4 dX7_readHour_93 rfl ?_
            refine z_cV (As := []) (rest := []) (ci := 9) C (c_fClose l D A cs tt N ad _ (by omega) _ _ _ _ _ _ _ _ (by omega) (by omega) hkvy621) (lt_K hN (rfl : Nat.blt (2) 952 = true)) hay1 hkvy621 rfl rfl mv_yX7_close q_821 hd_yX7_close (by decide) (Nat.le_of_ble_eq_true rfl) (by decide) dX7_readHour_94 rfl (kV0 fun gvy1284 hvy1284 => ?_)
            obtain rfl := hvy1284
            refine z_aload_n C 4 dX7_readHour_97 rfl ?_
            refine z_get (v := .int (zI (cvy621))) C (lt_K hN (rfl : Nat.blt (2) 952 = true)) hay1 hkvy621 rfl inA_X7 1 (by decide) q_45 rfl rfl dX7_readHour_98 ?_
            refine z_if_ne (tgt := 155) C dX7_readHour_101 (by decide) (by omega) (fun _ => ?_) (fun h => absurd h (by omega))
            have hgy1285 := (hfvy13 (883) (by decide)).trans hP.1
            have hgy1286 := (hfvy615 (883) (by decide)).trans hgy1285
            have hgy1287 := (hfvy621 (883) (by decide)).trans hgy1286
            have hgy1288 := (hfvy13 (883 + 1) (by omega)).trans hP.2.1
            have hgy1289 := (hfvy615 (883 + 1) (by omega)).trans hgy1288
            have hgy1290 := (hfvy621 (883 + 1) (by omega)).trans hgy1289
            have hgy1291 := (hfvy13 (883 + 2) (by omega)).trans hP.2.2.1
            have hgy1292 := (hfvy615 (883 + 2) (by omega)).trans hgy1291
            have hgy1293 := (hfvy621 (883 + 2) (by omega)).trans hgy1292
            have hgy1294 := (hfvy13 (883 + 3) (by omega)).trans hP.2.2.2.1
            have hgy1295 := (hfvy615 (883 + 3) (by omega)).trans hgy1294
            have hgy1296 := (hfvy621 (883 + 3) (by omega)).trans hgy1295
            have hgy1297 := (hfvy13 (883 + 4) (by omega)).trans hP.2.2.2.2.1
            have hgy1298 := (hfvy615 (883 + 4) (by omega)).trans hgy1297
            have hgy1299 := (hfvy621 (883 + 4) (by omega)).trans hgy1298
            have hgy1300 := (hfvy13 (883 + 5) (by omega)).trans hP.2.2.2.2.2.1
            have hgy1301 := (hfvy615 (883 + 5) (by omega)).trans hgy1300
            have hgy1302 := (hfvy621 (883 + 5) (by omega)).trans hgy1301
            have hgy1303 := (hfvy13 (883 + 6) (by omega)).trans hP.2.2.2.2.2.2
            have hgy1304 := (hfvy615 (883 + 6) (by omega)).trans hgy1303
            have hgy1305 := (hfvy621 (883 + 6) (by omega)).trans hgy1304
            exact z_vret C hr hlk dX7_readHour_155 (by decide) (by decide) ⟨rfl, rfl, rfl, Or.inr ⟨(cvy621, (tk_nx T n (tk_nx T n f))), by simp only [cl_fin, cl_hour, cl_hour2, if_neg hscy11, if_pos hscy614, hnvy621], ⟨by show 1 ≤ cvy621 ∧ cvy621 ≤ 5; omega, _, _, _, _, _, _, by omega, by omega, hkvy621, hgy1232⟩, ⟨hgy1287, hgy1290, hgy1293, hgy1296, hgy1299, hgy1302, hgy1305⟩⟩, fun j j1 j2 => by rw [hfvy621 _ (by omega)]; rw [hfvy615 _ (by omega)]; rw [hfvy13 _ (by omega)]⟩
  · have hscy12 : (24 ≤ ho) := by omega
    refine z_aload_n C 0 dX7_readHour_9 rfl ?_
    refine z_iconst (z := 2) C dX7_readHour_10 rfl ?_
    refine z_aload_n C 0 dX7_readHour_11 rfl ?_
    refine z_get (v := .int (zI ((f : Int)))) C (lt_K hN (rfl : Nat.blt (2) 952 = true)) hay1 hg2 rfl inA_X7 5 (by decide) q_49 rfl rfl dX7_readHour_12 ?_
    refine z_cV (As := [.int (zI (2)), .int (zI ((f : Int)))]) (rest := []) (ci := 9) C (c_xFail l D A cs tt N ad _ (by omega) _ _ _ _ _ _ _ hg2 (2) ((f : Int))) (lt_K hN (rfl : Nat.blt (2) 952 = true)) hay1 hg2 rfl rfl mv_yX7_fail q_809 hd_yX7_fail (by decide) (Nat.le_of_ble_eq_true rfl) (by decide) dX7_readHour_15 rfl (kV0 fun gvy1306 hvy1306 => ?_)
    obtain ⟨hkvy1306, hfvy1306⟩ := hvy1306
    refine z_aload_n C 0 dX7_readHour_18 rfl ?_
    refine z_cV (As := []) (rest := []) (ci := 9) C (c_fTake l D A cs tt N ad _ (by omega) _ _ _ _ _ _ _ _ (by omega) hkvy1306) (lt_K hN (rfl : Nat.blt (2) 952 = true)) hay1 hkvy1306 rfl rfl mv_yX7_take q_813 hd_yX7_take (by decide) (Nat.le_of_ble_eq_true rfl) (by decide) dX7_readHour_19 rfl (kV0 fun gvy1307 hvy1307 => ?_)
    obtain rfl := hvy1307
    refine z_aload_n C 0 dX7_readHour_22 rfl ?_
    refine z_get (v := .int (zI (tk_so T n f))) C (lt_K hN (rfl : Nat.blt (2) 952 = true)) hay1 hkvy1306 rfl inA_X7 4 (by decide) q_48 rfl rfl dX7_readHour_23 ?_
    refine z_iconst (z := 4) C dX7_readHour_26 rfl ?_
    refine z_icmp_ne (tgt := 34) C dX7_readHour_27 (by decide) (by omega) (by omega) (fun hby1308 => ?_) (fun hby1308 => ?_)
    · refine z_iconst (z := 0) C dX7_readHour_34 rfl ?_
      refine z_istore_n (lv' := [(2, .int (zI (0))), (0, .ref (ad 2)), (1, .ref (ad 883))]) C dX7_readHour_35 rfl (by decide) rfl ?_
      refine z_iload_n C 0 dX7_readHour_36 rfl ?_
      refine z_if_eq (tgt := 44) C dX7_readHour_37 (by decide) (by omega) (fun _ => ?_) (fun h => absurd h (by omega))
      refine z_aload_n C 1 dX7_readHour_44 rfl ?_
      refine z_iconst (z := 0) C dX7_readHour_45 rfl ?_
      refine z_iload_n C 0 dX7_readHour_46 rfl ?_
      refine z_if_eq (tgt := 56) C dX7_readHour_47 (by decide) (by omega) (fun _ => ?_) (fun h => absurd h (by omega))
      refine z_bipush (z := 100) C dX7_readHour_56 (by decide) ?_
      have hgy1310 := (hfvy1306 (1) (by decide)).trans hg1
      have hruny1309 : okRun cs ad gvy1306 (2) tp := ⟨_, _, _, _, _, _, _, by omega, by omega, hkvy1306, hgy1310⟩
      refine z_cV (As := [.int (zI (0)), .int (zI (100))]) (rest := []) (ci := 9) C (c_fNumber l D A cs tt N ad _ (by omega) _ tp hruny1309 (by omega) (0) (by omega) (100) (by omega)) (lt_K hN (rfl : Nat.blt (2) 952 = true)) hay1 hkvy1306 rfl rfl mv_yX7_number q_817 hd_yX7_number (by decide) (Nat.le_of_ble_eq_true rfl) (by decide) dX7_readHour_58 rfl (kI0 fun vy1311 gvy1311 hvy1311 => ?_)
      obtain ⟨hvy1311, rfl⟩ := hvy1311
      refine z_istore_n (lv' := [(3, .int (zI (vy1311))), (2, .int (zI (0))), (0, .ref (ad 2)), (1, .ref (ad 883))]) C dX7_readHour_61 rfl (by decide) rfl ?_
      refine z_aload_n C 2 dX7_readHour_62 rfl ?_
      have hruny1312 : okRun cs ad gvy1306 (2) tp := ⟨_, _, _, _, _, _, _, by omega, by omega, hkvy1306, hgy1310⟩
      refine z_cV (As := []) (rest := []) (ci := 9) C (c_fFall l D A cs tt N ad _ (by omega) _ tp hruny1312 (by omega) ) (lt_K hN (rfl : Nat.blt (2) 952 = true)) hay1 hkvy1306 rfl rfl mv_yX7_readFall q_848 hd_yX7_readFall (by decide) (Nat.le_of_ble_eq_true rfl) (by decide) dX7_readHour_63 rfl (kI0 fun vy1313 gvy1313 hvy1313 => ?_)
      obtain ⟨hvy1313, rfl⟩ := hvy1313
      refine z_istore (lv' := [(4, .int (zI (vy1313))), (3, .int (zI (vy1311))), (2, .int (zI (0))), (0, .ref (ad 2)), (1, .ref (ad 883))]) C dX7_readHour_66 (by decide) rfl ?_
      refine z_iload C 0 dX7_readHour_68 rfl ?_
      refine z_iconst (z := 1) C dX7_readHour_70 rfl ?_
      refine z_icmp_eq (tgt := 80) C dX7_readHour_71 (by decide) (by omega) (by omega) (fun hby1314 => ?_) (fun hby1314 => ?_)
      · refine z_aload_n C 3 dX7_readHour_80 rfl ?_
        refine z_iconst (z := 1) C dX7_readHour_81 rfl ?_
        refine z_bipush (z := 50) C dX7_readHour_82 (by decide) ?_
        have hruny1315 : okRun cs ad gvy1306 (2) tp := ⟨_, _, _, _, _, _, _, by omega, by omega, hkvy1306, hgy1310⟩
        refine z_cV (As := [.int (zI (1)), .int (zI (50))]) (rest := []) (ci := 9) C (c_fNumber l D A cs tt N ad _ (by omega) _ tp hruny1315 (by omega) (1) (by omega) (50) (by omega)) (lt_K hN (rfl : Nat.blt (2) 952 = true)) hay1 hkvy1306 rfl rfl mv_yX7_number q_817 hd_yX7_number (by decide) (Nat.le_of_ble_eq_true rfl) (by decide) dX7_readHour_84 rfl (kI0 fun vy1316 gvy1316 hvy1316 => ?_)
        obtain ⟨hvy1316, rfl⟩ := hvy1316
        refine z_goto (tgt := 91) C dX7_readHour_87 (by decide) ?_
        refine z_istore (lv' := [(5, .int (zI (vy1316))), (4, .int (zI (vy1313))), (3, .int (zI (vy1311))), (2, .int (zI (0))), (0, .ref (ad 2)), (1, .ref (ad 883))]) C dX7_readHour_91 (by decide) rfl ?_
        refine z_aload_n C 4 dX7_readHour_93 rfl ?_
        refine z_cV (As := []) (rest := []) (ci := 9) C (c_fClose l D A cs tt N ad _ (by omega) _ _ _ _ _ _ _ _ (by omega) (by omega) hkvy1306) (lt_K hN (rfl : Nat.blt (2) 952 = true)) hay1 hkvy1306 rfl rfl mv_yX7_close q_821 hd_yX7_close (by decide) (Nat.le_of_ble_eq_true rfl) (by decide) dX7_readHour_94 rfl (kV0 fun gvy1317 hvy1317 => ?_)
        obtain rfl := hvy1317
        refine z_aload_n C 4 dX7_readHour_97 rfl ?_
        refine z_get (v := .int (zI (2))) C (lt_K hN (rfl : Nat.blt (2) 952 = true)) hay1 hkvy1306 rfl inA_X7 1 (by decide) q_45 rfl rfl dX7_readHour_98 ?_
        refine z_if_ne (tgt := 155) C dX7_readHour_101 (by decide) (by omega) (fun _ => ?_) (fun h => absurd h (by omega))
        have hgy1318 := (hfvy1306 (883) (by decide)).trans hP.1
        have hgy1319 := (hfvy1306 (883 + 1) (by omega)).trans hP.2.1
        have hgy1320 := (hfvy1306 (883 + 2) (by omega)).trans hP.2.2.1
        have hgy1321 := (hfvy1306 (883 + 3) (by omega)).trans hP.2.2.2.1
        have hgy1322 := (hfvy1306 (883 + 4) (by omega)).trans hP.2.2.2.2.1
        have hgy1323 := (hfvy1306 (883 + 5) (by omega)).trans hP.2.2.2.2.2.1
        have hgy1324 := (hfvy1306 (883 + 6) (by omega)).trans hP.2.2.2.2.2.2
        exact z_vret C hr hlk dX7_readHour_155 (by decide) (by decide) ⟨rfl, rfl, rfl, Or.inr ⟨(2, f), by simp only [cl_fin, cl_hour, cl_hour2, if_pos hscy12], ⟨by show 1 ≤ 2 ∧ 2 ≤ 5; omega, _, _, _, _, _, _, by omega, by omega, hkvy1306, hgy1310⟩, ⟨hgy1318, hgy1319, hgy1320, hgy1321, hgy1322, hgy1323, hgy1324⟩⟩, fun j j1 j2 => by rw [hfvy1306 _ (by omega)]⟩
      · refine z_iload C 0 dX7_readHour_74 rfl ?_
        refine z_iconst (z := 2) C dX7_readHour_76 rfl ?_
        refine z_icmp_ne (tgt := 90) C dX7_readHour_77 (by decide) (by omega) (by omega) (fun hby1325 => ?_) (fun hby1325 => ?_)
        · refine z_iconst (z := 0) C dX7_readHour_90 rfl ?_
          refine z_istore (lv' := [(5, .int (zI (0))), (4, .int (zI (vy1313))), (3, .int (zI (vy1311))), (2, .int (zI (0))), (0, .ref (ad 2)), (1, .ref (ad 883))]) C dX7_readHour_91 (by decide) rfl ?_
          refine z_aload_n C 4 dX7_readHour_93 rfl ?_
          refine z_cV (As := []) (rest := []) (ci := 9) C (c_fClose l D A cs tt N ad _ (by omega) _ _ _ _ _ _ _ _ (by omega) (by omega) hkvy1306) (lt_K hN (rfl : Nat.blt (2) 952 = true)) hay1 hkvy1306 rfl rfl mv_yX7_close q_821 hd_yX7_close (by decide) (Nat.le_of_ble_eq_true rfl) (by decide) dX7_readHour_94 rfl (kV0 fun gvy1326 hvy1326 => ?_)
          obtain rfl := hvy1326
          refine z_aload_n C 4 dX7_readHour_97 rfl ?_
          refine z_get (v := .int (zI (2))) C (lt_K hN (rfl : Nat.blt (2) 952 = true)) hay1 hkvy1306 rfl inA_X7 1 (by decide) q_45 rfl rfl dX7_readHour_98 ?_
          refine z_if_ne (tgt := 155) C dX7_readHour_101 (by decide) (by omega) (fun _ => ?_) (fun h => absurd h (by omega))
          have hgy1327 := (hfvy1306 (883) (by decide)).trans hP.1
          have hgy1328 := (hfvy1306 (883 + 1) (by omega)).trans hP.2.1
          have hgy1329 := (hfvy1306 (883 + 2) (by omega)).trans hP.2.2.1
          have hgy1330 := (hfvy1306 (883 + 3) (by omega)).trans hP.2.2.2.1
          have hgy1331 := (hfvy1306 (883 + 4) (by omega)).trans hP.2.2.2.2.1
          have hgy1332 := (hfvy1306 (883 + 5) (by omega)).trans hP.2.2.2.2.2.1
          have hgy1333 := (hfvy1306 (883 + 6) (by omega)).trans hP.2.2.2.2.2.2
          exact z_vret C hr hlk dX7_readHour_155 (by decide) (by decide) ⟨rfl, rfl, rfl, Or.inr ⟨(2, f), by simp only [cl_fin, cl_hour, cl_hour2, if_pos hscy12], ⟨by show 1 ≤ 2 ∧ 2 ≤ 5; omega, _, _, _, _, _, _, by omega, by omega, hkvy1306, hgy1310⟩, ⟨hgy1327, hgy1328, hgy1329, hgy1330, hgy1331, hgy1332, hgy1333⟩⟩, fun j j1 j2 => by rw [hfvy1306 _ (by omega)]⟩
        · refine z_aload_n C 3 dX7_readHour_80 rfl ?_
          refine z_iconst (z := 1) C dX7_readHour_81 rfl ?_
          refine z_bipush (z := 50) C dX7_readHour_82 (by decide) ?_
          have hruny1334 : okRun cs ad gvy1306 (2) tp := ⟨_, _, _, _, _, _, _, by omega, by omega, hkvy1306, hgy1310⟩
          refine z_cV (As := [.int (zI (1)), .int (zI (50))]) (rest := []) (ci := 9) C (c_fNumber l D A cs tt N ad _ (by omega) _ tp hruny1334 (by omega) (1) (by omega) (50) (by omega)) (lt_K hN (rfl : Nat.blt (2) 952 = true)) hay1 hkvy1306 rfl rfl mv_yX7_number q_817 hd_yX7_number (by decide) (Nat.le_of_ble_eq_true rfl) (by decide) dX7_readHour_84 rfl (kI0 fun vy1335 gvy1335 hvy1335 => ?_)
          obtain ⟨hvy1335, rfl⟩ := hvy1335
          refine z_goto (tgt := 91) C dX7_readHour_87 (by decide) ?_
          refine z_istore (lv' := [(5, .int (zI (vy1335))), (4, .int (zI (vy1313))), (3, .int (zI (vy1311))), (2, .int (zI (0))), (0, .ref (ad 2)), (1, .ref (ad 883))]) C dX7_readHour_91 (by decide) rfl ?_
          refine z_aload_n C 4 dX7_readHour_93 rfl ?_
          refine z_cV (As := []) (rest := []) (ci := 9) C (c_fClose l D A cs tt N ad _ (by omega) _ _ _ _ _ _ _ _ (by omega) (by omega) hkvy1306) (lt_K hN (rfl : Nat.blt (2) 952 = true)) hay1 hkvy1306 rfl rfl mv_yX7_close q_821 hd_yX7_close (by decide) (Nat.le_of_ble_eq_true rfl) (by decide) dX7_readHour_94 rfl (kV0 fun gvy1336 hvy1336 => ?_)
          obtain rfl := hvy1336
          refine z_aload_n C 4 dX7_readHour_97 rfl ?_
          refine z_get (v := .int (zI (2))) C (lt_K hN (rfl : Nat.blt (2) 952 = true)) hay1 hkvy1306 rfl inA_X7 1 (by decide) q_45 rfl rfl dX7_readHour_98 ?_
          refine z_if_ne (tgt := 155) C dX7_readHour_101 (by decide) (by omega) (fun _ => ?_) (fun h => absurd h (by omega))
          have hgy1337 := (hfvy1306 (883) (by decide)).trans hP.1
          have hgy1338 := (hfvy1306 (883 + 1) (by omega)).trans hP.2.1
          have hgy1339 := (hfvy1306 (883 + 2) (by omega)).trans hP.2.2.1
          have hgy1340 := (hfvy1306 (883 + 3) (by omega)).trans hP.2.2.2.1
          have hgy1341 := (hfvy1306 (883 + 4) (by omega)).trans hP.2.2.2.2.1
          have hgy1342 := (hfvy1306 (883 + 5) (by omega)).trans hP.2.2.2.2.2.1
          have hgy1343 := (hfvy1306 (883 + 6) (by omega)).trans hP.2.2.2.2.2.2
          exact z_vret C hr hlk dX7_readHour_155 (by decide) (by decide) ⟨rfl, rfl, rfl, Or.inr ⟨(2, f), by simp only [cl_fin, cl_hour, cl_hour2, if_pos hscy12], ⟨by show 1 ≤ 2 ∧ 2 ≤ 5; omega, _, _, _, _, _, _, by omega, by omega, hkvy1306, hgy1310⟩, ⟨hgy1337, hgy1338, hgy1339, hgy1340, hgy1341, hgy1342, hgy1343⟩⟩, fun j j1 j2 => by rw [hfvy1306 _ (by omega)]⟩
    · refine z_iconst (z := 1) C dX7_readHour_30 rfl ?_
      refine z_goto (tgt := 35) C dX7_readHour_31 (by decide) ?_
      refine z_istore_n (lv' := [(2, .int (zI (1))), (0, .ref (ad 2)), (1, .ref (ad 883))]) C dX7_readHour_35 rfl (by decide) rfl ?_
      refine z_iload_n C 0 dX7_readHour_36 rfl ?_
      refine z_if_eq (tgt := 44) C dX7_readHour_37 (by decide) (by omega) (fun h => absurd h (by omega)) (fun _ => ?_)
      refine z_aload_n C 1 dX7_readHour_40 rfl ?_
      refine z_cV (As := []) (rest := []) (ci := 9) C (c_fTake l D A cs tt N ad _ (by omega) _ _ _ _ _ _ _ _ (by omega) hkvy1306) (lt_K hN (rfl : Nat.blt (2) 952 = true)) hay1 hkvy1306 rfl rfl mv_yX7_take q_813 hd_yX7_take (by decide) (Nat.le_of_ble_eq_true rfl) (by decide) dX7_readHour_41 rfl (kV0 fun gvy1344 hvy1344 => ?_)
      obtain rfl := hvy1344
      refine z_aload_n C 1 dX7_readHour_44 rfl ?_
      refine z_iconst (z := 0) C dX7_readHour_45 rfl ?_
      refine z_iload_n C 0 dX7_readHour_46 rfl ?_
      refine z_if_eq (tgt := 56) C dX7_readHour_47 (by decide) (by omega) (fun h => absurd h (by omega)) (fun _ => ?_)
      refine z_sipush (z := 300) C dX7_readHour_50 (by decide) ?_
      refine z_goto (tgt := 58) C dX7_readHour_53 (by decide) ?_
      have hgy1346 := (hfvy1306 (1) (by decide)).trans hg1
      have hruny1345 : okRun cs ad gvy1306 (2) tp := ⟨_, _, _, _, _, _, _, by omega, by omega, hkvy1306, hgy1346⟩
      refine z_cV (As := [.int (zI (0)), .int (zI (300))]) (rest := []) (ci := 9) C (c_fNumber l D A cs tt N ad _ (by omega) _ tp hruny1345 (by omega) (0) (by omega) (300) (by omega)) (lt_K hN (rfl : Nat.blt (2) 952 = true)) hay1 hkvy1306 rfl rfl mv_yX7_number q_817 hd_yX7_number (by decide) (Nat.le_of_ble_eq_true rfl) (by decide) dX7_readHour_58 rfl (kI0 fun vy1347 gvy1347 hvy1347 => ?_)
      obtain ⟨hvy1347, rfl⟩ := hvy1347
      refine z_istore_n (lv' := [(3, .int (zI (vy1347))), (2, .int (zI (1))), (0, .ref (ad 2)), (1, .ref (ad 883))]) C dX7_readHour_61 rfl (by decide) rfl ?_
      refine z_aload_n C 2 dX7_readHour_62 rfl ?_
      have hruny1348 : okRun cs ad gvy1306 (2) tp := ⟨_, _, _, _, _, _, _, by omega, by omega, hkvy1306, hgy1346⟩
      refine z_cV (As := []) (rest := []) (ci := 9) C (c_fFall l D A cs tt N ad _ (by omega) _ tp hruny1348 (by omega) ) (lt_K hN (rfl : Nat.blt (2) 952 = true)) hay1 hkvy1306 rfl rfl mv_yX7_readFall q_848 hd_yX7_readFall (by decide) (Nat.le_of_ble_eq_true rfl) (by decide) dX7_readHour_63 rfl (kI0 fun vy1349 gvy1349 hvy1349 => ?_)
      obtain ⟨hvy1349, rfl⟩ := hvy1349
      refine z_istore (lv' := [(4, .int (zI (vy1349))), (3, .int (zI (vy1347))), (2, .int (zI (1))), (0, .ref (ad 2)), (1, .ref (ad 883))]) C dX7_readHour_66 (by decide) rfl ?_
      refine z_iload C 0 dX7_readHour_68 rfl ?_
      refine z_iconst (z := 1) C dX7_readHour_70 rfl ?_
      refine z_icmp_eq (tgt := 80) C dX7_readHour_71 (by decide) (by omega) (by omega) (fun hby1350 => ?_) (fun hby1350 => ?_)
      · refine z_aload_n C 3 dX7_readHour_80 rfl ?_
        refine z_iconst (z := 1) C dX7_readHour_81 rfl ?_
        refine z_bipush (z := 50) C dX7_readHour_82 (by decide) ?_
        have hruny1351 : okRun cs ad gvy1306 (2) tp := ⟨_, _, _, _, _, _, _, by omega, by omega, hkvy1306, hgy1346⟩
        refine z_cV (As := [.int (zI (1)), .int (zI (50))]) (rest := []) (ci := 9) C (c_fNumber l D A cs tt N ad _ (by omega) _ tp hruny1351 (by omega) (1) (by omega) (50) (by omega)) (lt_K hN (rfl : Nat.blt (2) 952 = true)) hay1 hkvy1306 rfl rfl mv_yX7_number q_817 hd_yX7_number (by decide) (Nat.le_of_ble_eq_true rfl) (by decide) dX7_readHour_84 rfl (kI0 fun vy1352 gvy1352 hvy1352 => ?_)
        obtain ⟨hvy1352, rfl⟩ := hvy1352
        refine z_goto (tgt := 91) C dX7_readHour_87 (by decide) ?_
        refine z_istore (lv' := [(5, .int (zI (vy1352))), (4, .int (zI (vy1349))), (3, .int (zI (vy1347))), (2, .int (zI (1))), (0, .ref (ad 2)), (1, .ref (ad 883))]) C dX7_readHour_91 (by decide) rfl ?_
        refine z_aload_n C 4 dX7_readHour_93 rfl ?_
        refine z_cV (As := []) (rest := []) (ci := 9) C (c_fClose l D A cs tt N ad _ (by omega) _ _ _ _ _ _ _ _ (by omega) (by omega) hkvy1306) (lt_K hN (rfl : Nat.blt (2) 952 = true)) hay1 hkvy1306 rfl rfl mv_yX7_close q_821 hd_yX7_close (by decide) (Nat.le_of_ble_eq_true rfl) (by decide) dX7_readHour_94 rfl (kV0 fun gvy1353 hvy1353 => ?_)
        obtain rfl := hvy1353
        refine z_aload_n C 4 dX7_readHour_97 rfl ?_
        refine z_get (v := .int (zI (2))) C (lt_K hN (rfl : Nat.blt (2) 952 = true)) hay1 hkvy1306 rfl inA_X7 1 (by decide) q_45 rfl rfl dX7_readHour_98 ?_
        refine z_if_ne (tgt := 155) C dX7_readHour_101 (by decide) (by omega) (fun _ => ?_) (fun h => absurd h (by omega))
        have hgy1354 := (hfvy1306 (883) (by decide)).trans hP.1
        have hgy1355 := (hfvy1306 (883 + 1) (by omega)).trans hP.2.1
        have hgy1356 := (hfvy1306 (883 + 2) (by omega)).trans hP.2.2.1
        have hgy1357 := (hfvy1306 (883 + 3) (by omega)).trans hP.2.2.2.1
        have hgy1358 := (hfvy1306 (883 + 4) (by omega)).trans hP.2.2.2.2.1
        have hgy1359 := (hfvy1306 (883 + 5) (by omega)).trans hP.2.2.2.2.2.1
        have hgy1360 := (hfvy1306 (883 + 6) (by omega)).trans hP.2.2.2.2.2.2
        exact z_vret C hr hlk dX7_readHour_155 (by decide) (by decide) ⟨rfl, rfl, rfl, Or.inr ⟨(2, f), by simp only [cl_fin, cl_hour, cl_hour2, if_pos hscy12], ⟨by show 1 ≤ 2 ∧ 2 ≤ 5; omega, _, _, _, _, _, _, by omega, by omega, hkvy1306, hgy1346⟩, ⟨hgy1354, hgy1355, hgy1356, hgy1357, hgy1358, hgy1359, hgy1360⟩⟩, fun j j1 j2 => by rw [hfvy1306 _ (by omega)]⟩
      · refine z_iload C 0 dX7_readHour_74 rfl ?_
        refine z_iconst (z := 2) C dX7_readHour_76 rfl ?_
        refine z_icmp_ne (tgt := 90) C dX7_readHour_77 (by decide) (by omega) (by omega) (fun hby1361 => ?_) (fun hby1361 => ?_)
        · refine z_iconst (z := 0) C dX7_readHour_90 rfl ?_
          refine z_istore (lv' := [(5, .int (zI (0))), (4, .int (zI (vy1349))), (3, .int (zI (vy1347))), (2, .int (zI (1))), (0, .ref (ad 2)), (1, .ref (ad 883))]) C dX7_readHour_91 (by decide) rfl ?_
          refine z_aload_n C 4 dX7_readHour_93 rfl ?_
          refine z_cV (As := []) (rest := []) (ci := 9) C (c_fClose l D A cs tt N ad _ (by omega) _ _ _ _ _ _ _ _ (by omega) (by omega) hkvy1306) (lt_K hN (rfl : Nat.blt (2) 952 = true)) hay1 hkvy1306 rfl rfl mv_yX7_close q_821 hd_yX7_close (by decide) (Nat.le_of_ble_eq_true rfl) (by decide) dX7_readHour_94 rfl (kV0 fun gvy1362 hvy1362 => ?_)
          obtain rfl := hvy1362
          refine z_aload_n C 4 dX7_readHour_97 rfl ?_
          refine z_get (v := .int (zI (2))) C (lt_K hN (rfl : Nat.blt (2) 952 = true)) hay1 hkvy1306 rfl inA_X7 1 (by decide) q_45 rfl rfl dX7_readHour_98 ?_
          refine z_if_ne (tgt := 155) C dX7_readHour_101 (by decide) (by omega) (fun _ => ?_) (fun h => absurd h (by omega))
          have hgy1363 := (hfvy1306 (883) (by decide)).trans hP.1
          have hgy1364 := (hfvy1306 (883 + 1) (by omega)).trans hP.2.1
          have hgy1365 := (hfvy1306 (883 + 2) (by omega)).trans hP.2.2.1
          have hgy1366 := (hfvy1306 (883 + 3) (by omega)).trans hP.2.2.2.1
          have hgy1367 := (hfvy1306 (883 + 4) (by omega)).trans hP.2.2.2.2.1
          have hgy1368 := (hfvy1306 (883 + 5) (by omega)).trans hP.2.2.2.2.2.1
          have hgy1369 := (hfvy1306 (883 + 6) (by omega)).trans hP.2.2.2.2.2.2
          exact z_vret C hr hlk dX7_readHour_155 (by decide) (by decide) ⟨rfl, rfl, rfl, Or.inr ⟨(2, f), by simp only [cl_fin, cl_hour, cl_hour2, if_pos hscy12], ⟨by show 1 ≤ 2 ∧ 2 ≤ 5; omega, _, _, _, _, _, _, by omega, by omega, hkvy1306, hgy1346⟩, ⟨hgy1363, hgy1364, hgy1365, hgy1366, hgy1367, hgy1368, hgy1369⟩⟩, fun j j1 j2 => by rw [hfvy1306 _ (by omega)]⟩
        · refine z_aload_n C 3 dX7_readHour_80 rfl ?_
          refine z_iconst (z := 1) C dX7_readHour_81 rfl ?_
          refine z_bipush (z := 50) C dX7_readHour_82 (by decide) ?_
          have hruny1370 : okRun cs ad gvy1306 (2) tp := ⟨_, _, _, _, _, _, _, by omega, by omega, hkvy1306, hgy1346⟩
          refine z_cV (As := [.int (zI (1)), .int (zI (50))]) (rest := []) (ci := 9) C (c_fNumber l D A cs tt N ad _ (by omega) _ tp hruny1370 (by omega) (1) (by omega) (50) (by omega)) (lt_K hN (rfl : Nat.blt (2) 952 = true)) hay1 hkvy1306 rfl rfl mv_yX7_number q_817 hd_yX7_number (by decide) (Nat.le_of_ble_eq_true rfl) (by decide) dX7_readHour_84 rfl (kI0 fun vy1371 gvy1371 hvy1371 => ?_)
          obtain ⟨hvy1371, rfl⟩ := hvy1371
          refine z_goto (tgt := 91) C dX7_readHour_87 (by decide) ?_
          refine z_istore (lv' := [(5, .int (zI (vy1371))), (4, .int (zI (vy1349))), (3, .int (zI (vy1347))), (2, .int (zI (1))), (0, .ref (ad 2)), (1, .ref (ad 883))]) C dX7_readHour_91 (by decide) rfl ?_
          refine z_aload_n C 4 dX7_readHour_93 rfl ?_
          refine z_cV (As := []) (rest := []) (ci := 9) C (c_fClose l D A cs tt N ad _ (by omega) _ _ _ _ _ _ _ _ (by omega) (by omega) hkvy1306) (lt_K hN (rfl : Nat.blt (2) 952 = true)) hay1 hkvy1306 rfl rfl mv_yX7_close q_821 hd_yX7_close (by decide) (Nat.le_of_ble_eq_true rfl) (by decide) dX7_readHour_94 rfl (kV0 fun gvy1372 hvy1372 => ?_)
          obtain rfl := hvy1372
          refine z_aload_n C 4 dX7_readHour_97 rfl ?_
          refine z_get (v := .int (zI (2))) C (lt_K hN (rfl : Nat.blt (2) 952 = true)) hay1 hkvy1306 rfl inA_X7 1 (by decide) q_45 rfl rfl dX7_readHour_98 ?_
          refine z_if_ne (tgt := 155) C dX7_readHour_101 (by decide) (by omega) (fun _ => ?_) (fun h => absurd h (by omega))
          have hgy1373 := (hfvy1306 (883) (by decide)).trans hP.1
          have hgy1374 := (hfvy1306 (883 + 1) (by omega)).trans hP.2.1
          have hgy1375 := (hfvy1306 (883 + 2) (by omega)).trans hP.2.2.1
          have hgy1376 := (hfvy1306 (883 + 3) (by omega)).trans hP.2.2.2.1
          have hgy1377 := (hfvy1306 (883 + 4) (by omega)).trans hP.2.2.2.2.1
          have hgy1378 := (hfvy1306 (883 + 5) (by omega)).trans hP.2.2.2.2.2.1
          have hgy1379 := (hfvy1306 (883 + 6) (by omega)).trans hP.2.2.2.2.2.2
          exact z_vret C hr hlk dX7_readHour_155 (by decide) (by decide) ⟨rfl, rfl, rfl, Or.inr ⟨(2, f), by simp only [cl_fin, cl_hour, cl_hour2, if_pos hscy12], ⟨by show 1 ≤ 2 ∧ 2 ≤ 5; omega, _, _, _, _, _, _, by omega, by omega, hkvy1306, hgy1346⟩, ⟨hgy1373, hgy1374, hgy1375, hgy1376, hgy1377, hgy1378, hgy1379⟩⟩, fun j j1 j2 => by rw [hfvy1306 _ (by omega)]⟩

