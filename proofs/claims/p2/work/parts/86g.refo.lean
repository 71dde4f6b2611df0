set_option maxRecDepth 100000 in
set_option maxHeartbeats 4000000 in
theorem c_X10_hour1 (l : Launch) (D : va_G) (A : Nat → Prop) (cs : Nat → ClassId) (tt : Nat) (N : Nat) (ad : Nat → Nat) (g : Nat → va_E) (i : Nat) (hN : i + 30 ≤ N) (F : Nat → Int) (hg : g i = mC ad i F) (tp : Nat → Int) (ha13 : g (i + 13) = iA cs 900 tp) (htp : ∀ k, k < 900 → 0 ≤ tp k ∧ tp k ≤ 255) (hRD : RD F) (h38 : F 38 = 0) (hTx : okTx cs g i F) : zM l yX10_hour1 cX10_hour1 3 none ({ frames := 5, cells := 0, slots := 0, locals := 300 } : Room) D A cs tt N ad g [.ref (ad i)] (rV0 N ad fun g' => (∃ F' : Nat → Int, g' i = mC ad i F' ∧ RD F' ∧ F 32 ≤ F' 32 ∧ (F' 38 = 0 → F' 35 ≠ 0 → F 32 < F' 32) ∧ (∀ f, f ≠ 24 → f ≠ 32 → f ≠ 33 → f ≠ 35 → f ≠ 36 → f ≠ 37 → f ≠ 38 → f ≠ 47 → f ≠ 48 → f ≠ 49 → F' f = F f) ∧ okTx cs g' i F') ∧ ∀ j, j ≠ i → j < i + 16 ∨ i + 23 < j → g' j = g j) := by
  have hay1 : zAt ad (i) (ad i) := rfl
  have hay2 : zAt ad (i + 13) (ad (i + 13)) := rfl
  obtain ⟨d32, d33, d35, d36, d2, d37, d38⟩ := id hRD
  obtain ⟨st1, op1, mn1, ai1, fa1, mu1, tb1, ly1, ⟨ha16, ha17, ha18, ha19, ha20, ha21, ha22, ha23⟩, ⟨⟨t47, t48, t49⟩, hop1, hmn1, hai1, hfa1, htb1, hly1⟩⟩ := id hTx
  have hay3 : zAt ad (i + 16) (ad (i + 16)) := rfl
  have hay4 : zAt ad (i + 17) (ad (i + 17)) := rfl
  have hay5 : zAt ad (i + 18) (ad (i + 18)) := rfl
  have hay6 : zAt ad (i + 19) (ad (i + 19)) := rfl
  have hay7 : zAt ad (i + 20) (ad (i + 20)) := rfl
  have hay8 : zAt ad (i + 21) (ad (i + 21)) := rfl
  have hay9 : zAt ad (i + 22) (ad (i + 22)) := rfl
  have hay10 : zAt ad (i + 23) (ad (i + 23)) := rfl
  refine z_of (by decide) (Nat.le_of_ble_eq_true rfl) ?_
  intro pZ eZ sZ mZ below meth cZ C hr hlk hnm
  refine z_lv (lv' := [(0, .ref (ad i))]) [0] rfl ?_
  refine z_aload_n C 0 dX10_hour1_0 rfl ?_
  refine z_aload_n C 0 dX10_hour1_1 rfl ?_
  refine z_get (v := .int (zI (F 48))) C (by omega) hay1 hg rfl inA_X10 48 (by decide) q_1507 rfl (fv (F := F) (f := 48) rfl) dX10_hour1_2 ?_
  refine z_bipush (z := 24) C dX10_hour1_5 (by decide) ?_
  refine z_icmp_ge (tgt := 14) C dX10_hour1_7 (by decide) (by omega) (by omega) (fun hby11 => ?_) (fun hby11 => ?_)
  · refine z_iconst (z := 0) C dX10_hour1_14 rfl ?_
    refine z_iconst (z := 2) C dX10_hour1_15 rfl ?_
    have h38vy12 : F 38 = 0 := h38
    refine z_cV (As := [.int (zI (0)), .int (zI (2))]) (rest := []) (ci := 12) C (c_X10_wants l D A cs tt N ad _ i hN _ hg (by omega) (0) (by omega) (2) (by omega)) (by omega) hay1 hg rfl rfl mv_yX10_wants q_1678 hd_yX10_wants (by decide) (Nat.le_of_ble_eq_true rfl) (by decide) dX10_hour1_16 rfl (kI0 fun vy12 gvy12 hvy12 => ?_)
    obtain ⟨⟨Fvy12, hcvy12, hqvy12, hbvy12, hFvy12⟩, hfvy12⟩ := hvy12
    have hdvy12 : RD Fvy12 := RD.w hRD hFvy12 hbvy12
    obtain rfl : vy12 = 0 := by omega
    have e38vy12 : 1 ≤ Fvy12 38 := by omega
    clear hqvy12
    refine z_if_ne (tgt := 23) C dX10_hour1_19 (by decide) (by omega) (fun h => absurd h (by omega)) (fun _ => ?_)
    have hFy13 : ∀ f, f ≠ 24 → f ≠ 32 → f ≠ 33 → f ≠ 35 → f ≠ 36 → f ≠ 37 → f ≠ 38 → f ≠ 47 → f ≠ 48 → f ≠ 49 → Fvy12 f = F f := fun f n24 n32 n33 n35 n36 n37 n38 n47 n48 n49 => (hFvy12 f n24 n38)
    have hey14 : Fvy12 32 = F 32 := (hFvy12 32 (by decide) (by decide))
    have hey15 : Fvy12 35 = F 35 := (hFvy12 35 (by decide) (by decide))
    have hey16 : Fvy12 38 = Fvy12 38 := rfl
    have hey17 : Fvy12 32 = F 32 := (hFvy12 32 (by decide) (by decide))
    have hey18 : Fvy12 47 = F 47 := (hFvy12 47 (by decide) (by decide))
    have hey19 : Fvy12 48 = F 48 := (hFvy12 48 (by decide) (by decide))
    have hey20 : Fvy12 49 = F 49 := (hFvy12 49 (by decide) (by decide))
    have hlay22 : ∀ s l : Nat, (s : Int) < Fvy12 47 → (l : Int) < mn1 s → lyT ly1 (84 * s + 7 * l) := fun s l a1 a2 => hly1 s l (by omega) a2
    have hgy23 := (hfvy12 (i + 16) (ne_o (i := i) (c := 16) (d := 0) rfl)).trans ha16
    have hgy24 := (hfvy12 (i + 17) (ne_o (i := i) (c := 17) (d := 0) rfl)).trans ha17
    have hgy25 := (hfvy12 (i + 18) (ne_o (i := i) (c := 18) (d := 0) rfl)).trans ha18
    have hgy26 := (hfvy12 (i + 19) (ne_o (i := i) (c := 19) (d := 0) rfl)).trans ha19
    have hgy27 := (hfvy12 (i + 20) (ne_o (i := i) (c := 20) (d := 0) rfl)).trans ha20
    have hgy28 := (hfvy12 (i + 21) (ne_o (i := i) (c := 21) (d := 0) rfl)).trans ha21
    have hgy29 := (hfvy12 (i + 22) (ne_o (i := i) (c := 22) (d := 0) rfl)).trans ha22
    have hgy30 := (hfvy12 (i + 23) (ne_o (i := i) (c := 23) (d := 0) rfl)).trans ha23
    have htxy31 : okTx cs gvy12 i Fvy12 := ⟨_, _, _, _, _, _, _, _, ⟨hgy23, hgy24, hgy25, hgy26, hgy27, hgy28, hgy29, hgy30⟩, ⟨⟨by omega, by omega, by omega⟩, hop1, hmn1, hai1, hfa1, htb1, hlay22⟩⟩
    exact z_vret C hr hlk dX10_hour1_22 (by decide) (by decide) ⟨rfl, rfl, rfl, ⟨_, hcvy12, hdvy12, by omega, by omega, hFy13, htxy31⟩, fun j j1 j2 => by rw [hfvy12 _ (by omega)]⟩
  · refine z_iconst (z := 1) C dX10_hour1_10 rfl ?_
    refine z_goto (tgt := 15) C dX10_hour1_11 (by decide) ?_
    refine z_iconst (z := 2) C dX10_hour1_15 rfl ?_
    have h38vy32 : F 38 = 0 := h38
    refine z_cV (As := [.int (zI (1)), .int (zI (2))]) (rest := []) (ci := 12) C (c_X10_wants l D A cs tt N ad _ i hN _ hg (by omega) (1) (by omega) (2) (by omega)) (by omega) hay1 hg rfl rfl mv_yX10_wants q_1678 hd_yX10_wants (by decide) (Nat.le_of_ble_eq_true rfl) (by decide) dX10_hour1_16 rfl (kI0 fun vy32 gvy32 hvy32 => ?_)
    obtain ⟨⟨Fvy32, hcvy32, hqvy32, hbvy32, hFvy32⟩, hfvy32⟩ := hvy32
    have hdvy32 : RD Fvy32 := RD.w hRD hFvy32 hbvy32
    obtain rfl : vy32 = 1 := by omega
    have e38vy32 : Fvy32 38 = 0 := by omega
    clear hqvy32
    refine z_if_ne (tgt := 23) C dX10_hour1_19 (by decide) (by omega) (fun _ => ?_) (fun h => absurd h (by omega))
    refine z_aload_n C 0 dX10_hour1_23 rfl ?_
    have hgy33 := (hfvy32 (i + 13) (ne_o (i := i) (c := 13) (d := 0) rfl)).trans ha13
    refine z_cV (As := []) (rest := []) (ci := 12) C (c_X10_go l D A cs tt N ad _ i hN _ hcvy32 _ hgy33 htp hdvy32) (by omega) hay1 hcvy32 rfl rfl mv_yX10_go q_1652 hd_yX10_go (by decide) (Nat.le_of_ble_eq_true rfl) (by decide) dX10_hour1_24 rfl (kV0 fun gvy34 hvy34 => ?_)
    obtain ⟨⟨Fvy34, hcvy34, hdvy34, hlvy34, hsvy34, hFvy34⟩, hfvy34⟩ := hvy34
    rw [show Fvy32 32 = F 32 from (hFvy32 32 (by decide) (by decide))] at hlvy34 hsvy34
    have h34vy34 : Fvy34 34 = F 34 := (hFvy34 34 (by decide) (by decide) (by decide) (by decide) (by decide)).trans ((hFvy32 34 (by decide) (by decide)))
    obtain ⟨d32vy34, -, d35vy34, d36vy34, -, d37vy34, d38vy34⟩ := id hdvy34
    have h38vy34 : Fvy34 38 = 0 := ((hFvy34 38 (by decide) (by decide) (by decide) (by decide) (by decide)).trans e38vy32)
    refine z_aload_n C 0 dX10_hour1_27 rfl ?_
    refine z_get (v := .int (zI (Fvy34 35))) C (by omega) hay1 hcvy34 rfl inA_X10 35 (by decide) q_1494 rfl (fv (F := Fvy34) (f := 35) rfl) dX10_hour1_28 ?_
    refine z_iconst (z := 3) C dX10_hour1_31 rfl ?_
    refine z_icmp_ne (tgt := 48) C dX10_hour1_32 (by decide) (by omega) (by omega) (fun hby35 => ?_) (fun hby35 => ?_)
    · refine z_iconst (z := 0) C dX10_hour1_48 rfl ?_
      refine z_istore_n (lv' := [(1, .int (zI (0))), (0, .ref (ad i))]) C dX10_hour1_49 rfl (by decide) rfl ?_
      refine z_iload_n C 0 dX10_hour1_50 rfl ?_
      refine z_if_eq (tgt := 58) C dX10_hour1_51 (by decide) (by omega) (fun _ => ?_) (fun h => absurd h (by omega))
      refine z_aload_n C 1 dX10_hour1_58 rfl ?_
      refine z_iconst (z := 0) C dX10_hour1_59 rfl ?_
      refine z_iload_n C 0 dX10_hour1_60 rfl ?_
      refine z_if_eq (tgt := 70) C dX10_hour1_61 (by decide) (by omega) (fun _ => ?_) (fun h => absurd h (by omega))
      refine z_bipush (z := 100) C dX10_hour1_70 (by decide) ?_
      have hgy36 := (hfvy34 (i + 13) (ne_o (i := i) (c := 13) (d := 0) rfl)).trans hgy33
      refine z_cV (As := [.int (zI (0)), .int (zI (100))]) (rest := []) (ci := 12) C (c_X10_number l D A cs tt N ad _ i hN _ hcvy34 _ hgy36 htp hdvy34 (0) (by omega) (100) (by omega)) (by omega) hay1 hcvy34 rfl rfl mv_yX10_number q_1682 hd_yX10_number (by decide) (Nat.le_of_ble_eq_true rfl) (by decide) dX10_hour1_72 rfl (kI0 fun vy37 gvy37 hvy37 => ?_)
      obtain ⟨hrvy37, ⟨Fvy37, hcvy37, hdvy37, hlvy37, hsvy37, hFvy37⟩, hfvy37⟩ := hvy37
      rw [show Fvy34 32 = Fvy34 32 from rfl] at hlvy37
      rw [show Fvy34 38 = 0 from ((hFvy34 38 (by decide) (by decide) (by decide) (by decide) (by decide)).trans e38vy32), show Fvy34 35 = Fvy34 35 from rfl] at hsvy37
      have h34vy37 : Fvy37 34 = F 34 := (hFvy37 34 (by decide) (by decide) (by decide) (by decide) (by decide) (by decide) (by decide)).trans (((hFvy34 34 (by decide) (by decide) (by decide) (by decide) (by decide)).trans (hFvy32 34 (by decide) (by decide))))
      obtain ⟨d32vy37, -, d35vy37, d36vy37, -, d37vy37, d38vy37⟩ := id hdvy37
      rcases (show Fvy37 38 = 0 ∨ Fvy37 38 ≠ 0 by omega) with hxvy37 | hxvy37
      · have hqvy37 := hsvy37 hxvy37
        clear hsvy37
        refine z_istore_n (lv' := [(2, .int (zI (vy37))), (1, .int (zI (0))), (0, .ref (ad i))]) C dX10_hour1_75 rfl (by decide) rfl ?_
        refine z_aload_n C 2 dX10_hour1_76 rfl ?_
        refine z_get (v := .int (zI (0))) C (by omega) hay1 hcvy37 rfl inA_X10 38 (by decide) q_1497 rfl (fv (F := Fvy37) (f := 38) hxvy37) dX10_hour1_77 ?_
        refine z_if_eq (tgt := 84) C dX10_hour1_80 (by decide) (by omega) (fun _ => ?_) (fun h => absurd h (by omega))
        refine z_aload_n C 2 dX10_hour1_84 rfl ?_
        refine z_get (v := .ref (ad (i + 19))) C (by omega) hay1 hcvy37 rfl inA_X10 42 (by decide) q_1501 rfl rfl dX10_hour1_85 ?_
        refine z_aload_n C 2 dX10_hour1_88 rfl ?_
        refine z_get (v := .int (zI (F 48))) C (by omega) hay1 hcvy37 rfl inA_X10 48 (by decide) q_1507 rfl (fv (F := Fvy37) (f := 48) ((hFvy37 48 (by decide) (by decide) (by decide) (by decide) (by decide) (by decide) (by decide)).trans ((hFvy34 48 (by decide) (by decide) (by decide) (by decide) (by decide)).trans (hFvy32 48 (by decide) (by decide))))) dX10_hour1_89 ?_
        refine z_iload_n C 1 dX10_hour1_92 rfl ?_
        refine z_if_eq (tgt := 101) C dX10_hour1_93 (by decide) (by omega) (fun _ => ?_) (fun h => absurd h (by omega))
        refine z_iload_n C 0 dX10_hour1_101 rfl ?_
        have hgy38 := (hfvy32 (i + 19) (ne_o (i := i) (c := 19) (d := 0) rfl)).trans ha19
        have hgy39 := (hfvy34 (i + 19) (ne_o (i := i) (c := 19) (d := 0) rfl)).trans hgy38
        have hgy40 := (hfvy37 (i + 19) (ne_o (i := i) (c := 19) (d := 0) rfl)).trans hgy39
        refine z_iast C (by omega) hay6 hgy40 ((F 48).toNat) (by omega) (by omega) (by decide) dX10_hour1_102 (fun gy41 egy42 => ?_)
        have hgy43 := up_s egy42
        obtain ⟨ry44, hvy45⟩ : ∃ rZ9 : Nat → Int, rZ9 = uZ ai1 ((F 48).toNat) (vy37) := ⟨_, rfl⟩
        rw [← hvy45] at hgy43
        refine z_aload_n C 2 dX10_hour1_103 rfl ?_
        have hgy46 := up_n egy42 hcvy37 (ne_o (i := i) (c := 0) (d := 19) rfl)
        refine z_get (v := .ref (ad (i + 20))) C (by omega) hay1 hgy46 rfl inA_X10 43 (by decide) q_1502 rfl rfl dX10_hour1_104 ?_
        refine z_aload_n C 2 dX10_hour1_107 rfl ?_
        refine z_get (v := .int (zI (F 48))) C (by omega) hay1 hgy46 rfl inA_X10 48 (by decide) q_1507 rfl (fv (F := Fvy37) (f := 48) ((hFvy37 48 (by decide) (by decide) (by decide) (by decide) (by decide) (by decide) (by decide)).trans ((hFvy34 48 (by decide) (by decide) (by decide) (by decide) (by decide)).trans (hFvy32 48 (by decide) (by decide))))) dX10_hour1_108 ?_
        refine z_iconst (z := 0) C dX10_hour1_111 rfl ?_
        have hgy47 := (hfvy32 (i + 20) (ne_o (i := i) (c := 20) (d := 0) rfl)).trans ha20
        have hgy48 := (hfvy34 (i + 20) (ne_o (i := i) (c := 20) (d := 0) rfl)).trans hgy47
        have hgy49 := (hfvy37 (i + 20) (ne_o (i := i) (c := 20) (d := 0) rfl)).trans hgy48
        have hgy50 := up_n egy42 hgy49 (ne_o (i := i) (c := 20) (d := 19) rfl)
        refine z_iast C (by omega) hay7 hgy50 ((F 48).toNat) (by omega) (by omega) (by decide) dX10_hour1_112 (fun gy51 egy52 => ?_)
        have hgy53 := up_s egy52
        obtain ⟨ry54, hvy55⟩ : ∃ rZ9 : Nat → Int, rZ9 = uZ fa1 ((F 48).toNat) (0) := ⟨_, rfl⟩
        rw [← hvy55] at hgy53
        refine z_aload_n C 2 dX10_hour1_113 rfl ?_
        have hgy56 := up_n egy52 hgy46 (ne_o (i := i) (c := 0) (d := 20) rfl)
        refine z_get (v := .ref (ad (i + 21))) C (by omega) hay1 hgy56 rfl inA_X10 44 (by decide) q_1503 rfl rfl dX10_hour1_114 ?_
        refine z_aload_n C 2 dX10_hour1_117 rfl ?_
        refine z_get (v := .int (zI (F 48))) C (by omega) hay1 hgy56 rfl inA_X10 48 (by decide) q_1507 rfl (fv (F := Fvy37) (f := 48) ((hFvy37 48 (by decide) (by decide) (by decide) (by decide) (by decide) (by decide) (by decide)).trans ((hFvy34 48 (by decide) (by decide) (by decide) (by decide) (by decide)).trans (hFvy32 48 (by decide) (by decide))))) dX10_hour1_118 ?_
        refine z_iconst (z := 0) C dX10_hour1_121 rfl ?_
        have hgy57 := (hfvy32 (i + 21) (ne_o (i := i) (c := 21) (d := 0) rfl)).trans ha21
        have hgy58 := (hfvy34 (i + 21) (ne_o (i := i) (c := 21) (d := 0) rfl)).trans hgy57
        have hgy59 := (hfvy37 (i + 21) (ne_o (i := i) (c := 21) (d := 0) rfl)).trans hgy58
        have hgy60 := up_n egy42 hgy59 (ne_o (i := i) (c := 21) (d := 19) rfl)
        have hgy61 := up_n egy52 hgy60 (ne_o (i := i) (c := 21) (d := 20) rfl)
        refine z_iast C (by omega) hay8 hgy61 ((F 48).toNat) (by omega) (by omega) (by decide) dX10_hour1_122 (fun gy62 egy63 => ?_)
        have hgy64 := up_s egy63
        obtain ⟨ry65, hvy66⟩ : ∃ rZ9 : Nat → Int, rZ9 = uZ mu1 ((F 48).toNat) (0) := ⟨_, rfl⟩
        rw [← hvy66] at hgy64
        refine z_aload_n C 2 dX10_hour1_123 rfl ?_
        refine z_iconst (z := 3) C dX10_hour1_124 rfl ?_
        have hgy67 := up_n egy63 hgy56 (ne_o (i := i) (c := 0) (d := 21) rfl)
        have hey69 : Fvy37 38 = 0 := hxvy37
        have hey70 : Fvy37 35 = Fvy37 35 := rfl
        have hey71 : Fvy37 37 = Fvy37 37 := rfl
        refine z_cV (As := [.int (zI (3))]) (rest := []) (ci := 12) C (c_X10_is l D A cs tt N ad _ i hN _ hgy67 hdvy37 (3) (by omega)) (by omega) hay1 hgy67 rfl rfl mv_yX10_is q_1705 hd_yX10_is (by decide) (Nat.le_of_ble_eq_true rfl) (by decide) dX10_hour1_125 rfl (kI0 fun vy68 gvy68 hvy68 => ?_)
        rw [hey69, hey70, hey71] at hvy68
        clear hey69 hey70 hey71
        obtain ⟨hrvy68, hqvy68, rfl⟩ := hvy68
        rcases (show vy68 = 1 ∨ vy68 = 0 by omega) with rfl | rfl
        · have hkvy68 := hqvy68 rfl
          clear hqvy68
          refine z_if_ne (tgt := 147) C dX10_hour1_128 (by decide) (by omega) (fun _ => ?_) (fun h => absurd h (by omega))
          refine z_aload_n C 2 dX10_hour1_147 rfl ?_
          refine z_get (v := .ref (ad (i + 20))) C (by omega) hay1 hgy67 rfl inA_X10 43 (by decide) q_1502 rfl rfl dX10_hour1_148 ?_
          refine z_aload_n C 2 dX10_hour1_151 rfl ?_
          refine z_get (v := .int (zI (F 48))) C (by omega) hay1 hgy67 rfl inA_X10 48 (by decide) q_1507 rfl (fv (F := Fvy37) (f := 48) ((hFvy37 48 (by decide) (by decide) (by decide) (by decide) (by decide) (by decide) (by decide)).trans ((hFvy34 48 (by decide) (by decide) (by decide) (by decide) (by decide)).trans (hFvy32 48 (by decide) (by decide))))) dX10_hour1_152 ?_
          refine z_aload_n C 2 dX10_hour1_155 rfl ?_
          refine z_get (v := .int (zI (Fvy37 37))) C (by omega) hay1 hgy67 rfl inA_X10 37 (by decide) q_1496 rfl (fv (F := Fvy37) (f := 37) rfl) dX10_hour1_156 ?_
          refine z_iconst (z := 3) C dX10_hour1_159 rfl ?_
          refine z_isub C dX10_hour1_160 ?_
          refine z_iconst (z := 1) C dX10_hour1_161 rfl ?_
          refine z_iadd C dX10_hour1_162 ?_
          have hgy72 := up_n egy63 hgy53 (ne_o (i := i) (c := 20) (d := 21) rfl)
          refine z_iast C (by omega) hay7 hgy72 ((F 48).toNat) (by omega) (by omega) (by decide) dX10_hour1_163 (fun gy73 egy74 => ?_)
          have hgy75 := up_s egy74
          obtain ⟨ry76, hvy77⟩ : ∃ rZ9 : Nat → Int, rZ9 = uZ ry54 ((F 48).toNat) (((Fvy37 37) - 3) + 1) := ⟨_, rfl⟩
          rw [← hvy77] at hgy75
          refine z_aload_n C 2 dX10_hour1_164 rfl ?_
          have hgy78 := up_n egy74 hgy67 (ne_o (i := i) (c := 0) (d := 20) rfl)
          have hgy79 := (hfvy37 (i + 13) (ne_o (i := i) (c := 13) (d := 0) rfl)).trans hgy36
          have hgy80 := up_n egy42 hgy79 (ne_o (i := i) (c := 13) (d := 19) rfl)
          have hgy81 := up_n egy52 hgy80 (ne_o (i := i) (c := 13) (d := 20) rfl)
          have hgy82 := up_n egy63 hgy81 (ne_o (i := i) (c := 13) (d := 21) rfl)
          have hgy83 := up_n egy74 hgy82 (ne_o (i := i) (c := 13) (d := 20) rfl)
          refine z_cV (As := []) (rest := []) (ci := 12) C (c_X10_go l D A cs tt N ad _ i hN _ hgy78 _ hgy83 htp hdvy37) (by omega) hay1 hgy78 rfl rfl mv_yX10_go q_1652 hd_yX10_go (by decide) (Nat.le_of_ble_eq_true rfl) (by decide) dX10_hour1_165 rfl (kV0 fun gvy84 hvy84 => ?_)
          obtain ⟨⟨Fvy84, hcvy84, hdvy84, hlvy84, hsvy84, hFvy84⟩, hfvy84⟩ := hvy84
          rw [show Fvy37 32 = Fvy37 32 from rfl] at hlvy84 hsvy84
          have h34vy84 : Fvy84 34 = F 34 := (hFvy84 34 (by decide) (by decide) (by decide) (by decide) (by decide)).trans (((hFvy37 34 (by decide) (by decide) (by decide) (by decide) (by decide) (by decide) (by decide)).trans ((hFvy34 34 (by decide) (by decide) (by decide) (by decide) (by decide)).trans (hFvy32 34 (by decide) (by decide)))))
          obtain ⟨d32vy84, -, d35vy84, d36vy84, -, d37vy84, d38vy84⟩ := id hdvy84
          have h38vy84 : Fvy84 38 = 0 := ((hFvy84 38 (by decide) (by decide) (by decide) (by decide) (by decide)).trans hxvy37)
          clear hsvy84
          refine z_aload_n C 2 dX10_hour1_168 rfl ?_
          refine z_get (v := .ref (ad (i + 20))) C (by omega) hay1 hcvy84 rfl inA_X10 43 (by decide) q_1502 rfl rfl dX10_hour1_169 ?_
          refine z_aload_n C 2 dX10_hour1_172 rfl ?_
          refine z_get (v := .int (zI (F 48))) C (by omega) hay1 hcvy84 rfl inA_X10 48 (by decide) q_1507 rfl (fv (F := Fvy84) (f := 48) ((hFvy84 48 (by decide) (by decide) (by decide) (by decide) (by decide)).trans ((hFvy37 48 (by decide) (by decide) (by decide) (by decide) (by decide) (by decide) (by decide)).trans ((hFvy34 48 (by decide) (by decide) (by decide) (by decide) (by decide)).trans (hFvy32 48 (by decide) (by decide)))))) dX10_hour1_173 ?_
          have hgy85 := (hfvy84 (i + 20) (ne_o (i := i) (c := 20) (d := 0) rfl)).trans hgy75
          refine z_iald C (by omega) hay7 hgy85 ((F 48).toNat) (by omega) (by omega) (by decide) dX10_hour1_176 ?_
          rw [show ry76 ((F 48).toNat) = ((Fvy37 37) - 3) + 1 from (congrFun hvy77 _).trans (uZ_s _ _ _)]
          refine z_iconst (z := 3) C dX10_hour1_177 rfl ?_
          obtain ⟨xy86, exy87, hxy88⟩ := zI_of (zI (((Fvy37 37) - 3) + 1))
          rw [exy87]
          refine z_icmp_ge (tgt := 197) C dX10_hour1_178 (by decide) (by omega) (by omega) (fun hby89 => ?_) (fun hby89 => ?_)
          · refine z_aload_n C 2 dX10_hour1_197 rfl ?_
            refine z_dup C dX10_hour1_198 rfl ?_
            refine z_get (v := .int (zI (F 48))) C (by omega) hay1 hcvy84 rfl inA_X10 48 (by decide) q_1507 rfl (fv (F := Fvy84) (f := 48) ((hFvy84 48 (by decide) (by decide) (by decide) (by decide) (by decide)).trans ((hFvy37 48 (by decide) (by decide) (by decide) (by decide) (by decide) (by decide) (by decide)).trans ((hFvy34 48 (by decide) (by decide) (by decide) (by decide) (by decide)).trans (hFvy32 48 (by decide) (by decide)))))) dX10_hour1_199 ?_
            refine z_iconst (z := 1) C dX10_hour1_202 rfl ?_
            refine z_iadd C dX10_hour1_203 ?_
            refine z_put (fs' := mF ad (i) (uZ Fvy84 48 ((F 48) + 1))) C (by omega) hay1 hcvy84 tyX10 tyX10_ok nmX10 rfl inA_X10 48 (by decide) q_1507 rfl rfl rfl rfl (Nat.le_of_ble_eq_true rfl) rfl dX10_hour1_204 (fun gy90 egy91 => ?_)
            have hgy92 := up_s egy91
            have hFy93 : ∀ f, f ≠ 24 → f ≠ 32 → f ≠ 33 → f ≠ 35 → f ≠ 36 → f ≠ 37 → f ≠ 38 → f ≠ 47 → f ≠ 48 → f ≠ 49 → (uZ Fvy84 48 ((F 48) + 1)) f = F f := fun f n24 n32 n33 n35 n36 n37 n38 n47 n48 n49 => ((uZ_n _ _ n48).trans ((hFvy84 f n32 n33 n35 n36 n37).trans ((hFvy37 f n24 n32 n33 n35 n36 n37 n38).trans ((hFvy34 f n32 n33 n35 n36 n37).trans (hFvy32 f n24 n38)))))
            have hey94 : (uZ Fvy84 48 ((F 48) + 1)) 32 = Fvy84 32 := (fn rfl (by decide))
            have hey95 : (uZ Fvy84 48 ((F 48) + 1)) 35 = Fvy84 35 := (fn rfl (by decide))
            have hey96 : (uZ Fvy84 48 ((F 48) + 1)) 38 = 0 := (fn ((hFvy84 38 (by decide) (by decide) (by decide) (by decide) (by decide)).trans hxvy37) (by decide))
            have hey97 : (uZ Fvy84 48 ((F 48) + 1)) 32 = Fvy84 32 := (fn rfl (by decide))
            have hey98 : (uZ Fvy84 48 ((F 48) + 1)) 47 = F 47 := (fn ((hFvy84 47 (by decide) (by decide) (by decide) (by decide) (by decide)).trans ((hFvy37 47 (by decide) (by decide) (by decide) (by decide) (by decide) (by decide) (by decide)).trans ((hFvy34 47 (by decide) (by decide) (by decide) (by decide) (by decide)).trans (hFvy32 47 (by decide) (by decide))))) (by decide))
            have hey99 : (uZ Fvy84 48 ((F 48) + 1)) 48 = (F 48) + 1 := (uZ_s _ _ _)
            have hey100 : (uZ Fvy84 48 ((F 48) + 1)) 49 = F 49 := (fn ((hFvy84 49 (by decide) (by decide) (by decide) (by decide) (by decide)).trans ((hFvy37 49 (by decide) (by decide) (by decide) (by decide) (by decide) (by decide) (by decide)).trans ((hFvy34 49 (by decide) (by decide) (by decide) (by decide) (by decide)).trans (hFvy32 49 (by decide) (by decide))))) (by decide))
            have hfry102 : ∀ j, j ≠ (F 48).toNat → ry44 j = ai1 j := fun j n0 => (congrFun hvy45 _).trans ((uZ_n _ _ n0).trans (rfl))
            have hwy103 : ry44 ((F 48).toNat) = vy37 := (congrFun hvy45 _).trans (uZ_s _ _ _)
            have haky101 : ∀ k, k < 24 → -300 ≤ ry44 k ∧ ry44 k ≤ 100 := by
              intro k hk
              by_cases e : k = (F 48).toNat
              · rw [e]; have hk0 := hai1 ((F 48).toNat) (by omega); omega
              · have hk0 := hai1 k hk; rw [hfry102 k e]; exact hk0
            have hfry105 : ∀ j, j ≠ (F 48).toNat → ry76 j = fa1 j := fun j n0 => (congrFun hvy77 _).trans ((uZ_n _ _ n0).trans ((congrFun hvy55 _).trans ((uZ_n _ _ n0).trans (rfl))))
            have hfry106 : ∀ j, j ≠ (F 48).toNat → ry65 j = mu1 j := fun j n0 => (congrFun hvy66 _).trans ((uZ_n _ _ n0).trans (rfl))
            have hwy107 : ry76 ((F 48).toNat) = ((Fvy37 37) - 3) + 1 := (congrFun hvy77 _).trans (uZ_s _ _ _)
            have hwy108 : ry65 ((F 48).toNat) = 0 := (congrFun hvy66 _).trans (uZ_s _ _ _)
            have haky104 : ∀ k, k < 24 → (0 ≤ ry76 k ∧ ry76 k ≤ 3) ∧ (0 ≤ ry65 k ∧ ry65 k ≤ 50) ∧ (ry76 k = 1 ∨ ry76 k = 2 → 1 ≤ ry65 k) := by
              intro k hk
              by_cases e : k = (F 48).toNat
              · rw [e]; have hk0 := hfa1 ((F 48).toNat) (by omega); omega
              · have hk0 := hfa1 k hk; rw [hfry105 k e]; rw [hfry106 k e]; exact hk0
            have hlay109 : ∀ s l : Nat, (s : Int) < (uZ Fvy84 48 ((F 48) + 1)) 47 → (l : Int) < mn1 s → lyT ly1 (84 * s + 7 * l) := fun s l a1 a2 => hly1 s l (by omega) a2
            have hgy110 := (hfvy32 (i + 16) (ne_o (i := i) (c := 16) (d := 0) rfl)).trans ha16
            have hgy111 := (hfvy34 (i + 16) (ne_o (i := i) (c := 16) (d := 0) rfl)).trans hgy110
            have hgy112 := (hfvy37 (i + 16) (ne_o (i := i) (c := 16) (d := 0) rfl)).trans hgy111
            have hgy113 := up_n egy42 hgy112 (ne_o (i := i) (c := 16) (d := 19) rfl)
            have hgy114 := up_n egy52 hgy113 (ne_o (i := i) (c := 16) (d := 20) rfl)
            have hgy115 := up_n egy63 hgy114 (ne_o (i := i) (c := 16) (d := 21) rfl)
            have hgy116 := up_n egy74 hgy115 (ne_o (i := i) (c := 16) (d := 20) rfl)
            have hgy117 := (hfvy84 (i + 16) (ne_o (i := i) (c := 16) (d := 0) rfl)).trans hgy116
            have hgy118 := up_n egy91 hgy117 (ne_o (i := i) (c := 16) (d := 0) rfl)
            have hgy119 := (hfvy32 (i + 17) (ne_o (i := i) (c := 17) (d := 0) rfl)).trans ha17
            have hgy120 := (hfvy34 (i + 17) (ne_o (i := i) (c := 17) (d := 0) rfl)).trans hgy119
            have hgy121 := (hfvy37 (i + 17) (ne_o (i := i) (c := 17) (d := 0) rfl)).trans hgy120
            have hgy122 := up_n egy42 hgy121 (ne_o (i := i) (c := 17) (d := 19) rfl)
            have hgy123 := up_n egy52 hgy122 (ne_o (i := i) (c := 17) (d := 20) rfl)
            have hgy124 := up_n egy63 hgy123 (ne_o (i := i) (c := 17) (d := 21) rfl)
            have hgy125 := up_n egy74 hgy124 (ne_o (i := i) (c := 17) (d := 20) rfl)
            have hgy126 := (hfvy84 (i + 17) (ne_o (i := i) (c := 17) (d := 0) rfl)).trans hgy125
            have hgy127 := up_n egy91 hgy126 (ne_o (i := i) (c := 17) (d := 0) rfl)
            have hgy128 := (hfvy32 (i + 18) (ne_o (i := i) (c := 18) (d := 0) rfl)).trans ha18
            have hgy129 := (hfvy34 (i + 18) (ne_o (i := i) (c := 18) (d := 0) rfl)).trans hgy128
            have hgy130 := (hfvy37 (i + 18) (ne_o (i := i) (c := 18) (d := 0) rfl)).trans hgy129
            have hgy131 := up_n egy42 hgy130 (ne_o (i := i) (c := 18) (d := 19) rfl)
            have hgy132 := up_n egy52 hgy131 (ne_o (i := i) (c := 18) (d := 20) rfl)
            have hgy133 := up_n egy63 hgy132 (ne_o (i := i) (c := 18) (d := 21) rfl)
            have hgy134 := up_n egy74 hgy133 (ne_o (i := i) (c := 18) (d := 20) rfl)
            have hgy135 := (hfvy84 (i + 18) (ne_o (i := i) (c := 18) (d := 0) rfl)).trans hgy134
            have hgy136 := up_n egy91 hgy135 (ne_o (i := i) (c := 18) (d := 0) rfl)
            have hgy137 := up_n egy52 hgy43 (ne_o (i := i) (c := 19) (d := 20) rfl)
            have hgy138 := up_n egy63 hgy137 (ne_o (i := i) (c := 19) (d := 21) rfl)
            have hgy139 := up_n egy74 hgy138 (ne_o (i := i) (c := 19) (d := 20) rfl)
            have hgy140 := (hfvy84 (i + 19) (ne_o (i := i) (c := 19) (d := 0) rfl)).trans hgy139
            have hgy141 := up_n egy91 hgy140 (ne_o (i := i) (c := 19) (d := 0) rfl)
            have hgy142 := up_n egy91 hgy85 (ne_o (i := i) (c := 20) (d := 0) rfl)
            have hgy143 := up_n egy74 hgy64 (ne_o (i := i) (c := 21) (d := 20) rfl)
            have hgy144 := (hfvy84 (i + 21) (ne_o (i := i) (c := 21) (d := 0) rfl)).trans hgy143
            have hgy145 := up_n egy91 hgy144 (ne_o (i := i) (c := 21) (d := 0) rfl)
            have hgy146 := (hfvy32 (i + 22) (ne_o (i := i) (c := 22) (d := 0) rfl)).trans ha22
            have hgy147 := (hfvy34 (i + 22) (ne_o (i := i) (c := 22) (d := 0) rfl)).trans hgy146
            have hgy148 := (hfvy37 (i + 22) (ne_o (i := i) (c := 22) (d := 0) rfl)).trans hgy147
            have hgy149 := up_n egy42 hgy148 (ne_o (i := i) (c := 22) (d := 19) rfl)
            have hgy150 := up_n egy52 hgy149 (ne_o (i := i) (c := 22) (d := 20) rfl)
            have hgy151 := up_n egy63 hgy150 (ne_o (i := i) (c := 22) (d := 21) rfl)
            have hgy152 := up_n egy74 hgy151 (ne_o (i := i) (c := 22) (d := 20) rfl)
            have hgy153 := (hfvy84 (i + 22) (ne_o (i := i) (c := 22) (d := 0) rfl)).trans hgy152
            have hgy154 := up_n egy91 hgy153 (ne_o (i := i) (c := 22) (d := 0) rfl)
            have hgy155 := (hfvy32 (i + 23) (ne_o (i := i) (c := 23) (d := 0) rfl)).trans ha23
            have hgy156 := (hfvy34 (i + 23) (ne_o (i := i) (c := 23) (d := 0) rfl)).trans hgy155
            have hgy157 := (hfvy37 (i + 23) (ne_o (i := i) (c := 23) (d := 0) rfl)).trans hgy156
            have hgy158 := up_n egy42 hgy157 (ne_o (i := i) (c := 23) (d := 19) rfl)
            have hgy159 := up_n egy52 hgy158 (ne_o (i := i) (c := 23) (d := 20) rfl)
            have hgy160 := up_n egy63 hgy159 (ne_o (i := i) (c := 23) (d := 21) rfl)
            have hgy161 := up_n egy74 hgy160 (ne_o (i := i) (c := 23) (d := 20) rfl)
            have hgy162 := (hfvy84 (i + 23) (ne_o (i := i) (c := 23) (d := 0) rfl)).trans hgy161
            have hgy163 := up_n egy91 hgy162 (ne_o (i := i) (c := 23) (d := 0) rfl)
            have htxy164 : okTx cs gy90 i (uZ Fvy84 48 ((F 48) + 1)) := ⟨_, _, _, _, _, _, _, _, ⟨hgy118, hgy127, hgy136, hgy141, hgy142, hgy145, hgy154, hgy163⟩, ⟨⟨by omega, by omega, by omega⟩, hop1, hmn1, haky101, haky104, htb1, hlay109⟩⟩
            exact z_vret C hr hlk dX10_hour1_207 (by decide) (by decide) ⟨rfl, rfl, rfl, ⟨_, hgy92, (RD.put hdvy84 (by decide)), by omega, by omega, hFy93, htxy164⟩, fun j j1 j2 => by rw [egy91, va_up_ne _ _ (by omega)]; rw [hfvy84 _ (by omega)]; rw [egy74, va_up_ne _ _ (by omega)]; rw [egy63, va_up_ne _ _ (by omega)]; rw [egy52, va_up_ne _ _ (by omega)]; rw [egy42, va_up_ne _ _ (by omega)]; rw [hfvy37 _ (by omega)]; rw [hfvy34 _ (by omega)]; rw [hfvy32 _ (by omega)]⟩
          · refine z_aload_n C 2 dX10_hour1_181 rfl ?_
            refine z_get (v := .ref (ad (i + 21))) C (by omega) hay1 hcvy84 rfl inA_X10 44 (by decide) q_1503 rfl rfl dX10_hour1_182 ?_
            refine z_aload_n C 2 dX10_hour1_185 rfl ?_
            refine z_get (v := .int (zI (F 48))) C (by omega) hay1 hcvy84 rfl inA_X10 48 (by decide) q_1507 rfl (fv (F := Fvy84) (f := 48) ((hFvy84 48 (by decide) (by decide) (by decide) (by decide) (by decide)).trans ((hFvy37 48 (by decide) (by decide) (by decide) (by decide) (by decide) (by decide) (by decide)).trans ((hFvy34 48 (by decide) (by decide) (by decide) (by decide) (by decide)).trans (hFvy32 48 (by decide) (by decide)))))) dX10_hour1_186 ?_
            refine z_aload_n C 2 dX10_hour1_189 rfl ?_
            refine z_iconst (z := 1) C dX10_hour1_190 rfl ?_
            refine z_bipush (z := 50) C dX10_hour1_191 (by decide) ?_
            have hgy165 := (hfvy84 (i + 13) (ne_o (i := i) (c := 13) (d := 0) rfl)).trans hgy83
            refine z_cV (As := [.int (zI (1)), .int (zI (50))]) (rest := [.int (zI (F 48)), .ref (ad (i + 21))]) (ci := 12) C (c_X10_number l D A cs tt N ad _ i hN _ hcvy84 _ hgy165 htp hdvy84 (1) (by omega) (50) (by omega)) (by omega) hay1 hcvy84 rfl rfl mv_yX10_number q_1682 hd_yX10_number (by decide) (Nat.le_of_ble_eq_true rfl) (by decide) dX10_hour1_193 rfl (kI0 fun vy166 gvy166 hvy166 => ?_)
            obtain ⟨hrvy166, ⟨Fvy166, hcvy166, hdvy166, hlvy166, hsvy166, hFvy166⟩, hfvy166⟩ := hvy166
            rw [show Fvy84 32 = Fvy84 32 from rfl] at hlvy166
            rw [show Fvy84 38 = 0 from ((hFvy84 38 (by decide) (by decide) (by decide) (by decide) (by decide)).trans hxvy37), show Fvy84 35 = Fvy84 35 from rfl] at hsvy166
            have h34vy166 : Fvy166 34 = F 34 := (hFvy166 34 (by decide) (by decide) (by decide) (by decide) (by decide) (by decide) (by decide)).trans (((hFvy84 34 (by decide) (by decide) (by decide) (by decide) (by decide)).trans ((hFvy37 34 (by decide) (by decide) (by decide) (by decide) (by decide) (by decide) (by decide)).trans ((hFvy34 34 (by decide) (by decide) (by decide) (by decide) (by decide)).trans (hFvy32 34 (by decide) (by decide))))))
            obtain ⟨d32vy166, -, d35vy166, d36vy166, -, d37vy166, d38vy166⟩ := id hdvy166
            clear hsvy166
            have hgy167 := up_n egy74 hgy64 (ne_o (i := i) (c := 21) (d := 20) rfl)
            have hgy168 := (hfvy84 (i + 21) (ne_o (i := i) (c := 21) (d := 0) rfl)).trans hgy167
            have hgy169 := (hfvy166 (i + 21) (ne_o (i := i) (c := 21) (d := 0) rfl)).trans hgy168
            refine z_iast C (by omega) hay8 hgy169 ((F 48).toNat) (by omega) (by omega) (by decide) dX10_hour1_196 (fun gy170 egy171 => ?_)
            have hgy172 := up_s egy171
            obtain ⟨ry173, hvy174⟩ : ∃ rZ9 : Nat → Int, rZ9 = uZ ry65 ((F 48).toNat) (vy166) := ⟨_, rfl⟩
            rw [← hvy174] at hgy172
            refine z_aload_n C 2 dX10_hour1_197 rfl ?_
            refine z_dup C dX10_hour1_198 rfl ?_
            have hgy175 := up_n egy171 hcvy166 (ne_o (i := i) (c := 0) (d := 21) rfl)
            refine z_get (v := .int (zI (F 48))) C (by omega) hay1 hgy175 rfl inA_X10 48 (by decide) q_1507 rfl (fv (F := Fvy166) (f := 48) ((hFvy166 48 (by decide) (by decide) (by decide) (by decide) (by decide) (by decide) (by decide)).trans ((hFvy84 48 (by decide) (by decide) (by decide) (by decide) (by decide)).trans ((hFvy37 48 (by decide) (by decide) (by decide) (by decide) (by decide) (by decide) (by decide)).trans ((hFvy34 48 (by decide) (by decide) (by decide) (by decide) (by decide)).trans (hFvy32 48 (by decide) (by decide))))))) dX10_hour1_199 ?_
            refine z_iconst (z := 1) C dX10_hour1_202 rfl ?_
            refine z_iadd C dX10_hour1_203 ?_
            refine z_put (fs' := mF ad (i) (uZ Fvy166 48 ((F 48) + 1))) C (by omega) hay1 hgy175 tyX10 tyX10_ok nmX10 rfl inA_X10 48 (by decide) q_1507 rfl rfl rfl rfl (Nat.le_of_ble_eq_true rfl) rfl dX10_hour1_204 (fun gy176 egy177 => ?_)
            have hgy178 := up_s egy177
            have hFy179 : ∀ f, f ≠ 24 → f ≠ 32 → f ≠ 33 → f ≠ 35 → f ≠ 36 → f ≠ 37 → f ≠ 38 → f ≠ 47 → f ≠ 48 → f ≠ 49 → (uZ Fvy166 48 ((F 48) + 1)) f = F f := fun f n24 n32 n33 n35 n36 n37 n38 n47 n48 n49 => ((uZ_n _ _ n48).trans ((hFvy166 f n24 n32 n33 n35 n36 n37 n38).trans ((hFvy84 f n32 n33 n35 n36 n37).trans ((hFvy37 f n24 n32 n33 n35 n36 n37 n38).trans ((hFvy34 f n32 n33 n35 n36 n37).trans (hFvy32 f n24 n38))))))
            have hey180 : (uZ Fvy166 48 ((F 48) + 1)) 32 = Fvy166 32 := (fn rfl (by decide))
            have hey181 : (uZ Fvy166 48 ((F 48) + 1)) 35 = Fvy166 35 := (fn rfl (by decide))
            have hey182 : (uZ Fvy166 48 ((F 48) + 1)) 38 = Fvy166 38 := (fn rfl (by decide))
            have hey183 : (uZ Fvy166 48 ((F 48) + 1)) 32 = Fvy166 32 := (fn rfl (by decide))
            have hey184 : (uZ Fvy166 48 ((F 48) + 1)) 47 = F 47 := (fn ((hFvy166 47 (by decide) (by decide) (by decide) (by decide) (by decide) (by decide) (by decide)).trans ((hFvy84 47 (by decide) (by decide) (by decide) (by decide) (by decide)).trans ((hFvy37 47 (by decide) (by decide) (by decide) (by decide) (by decide) (by decide) (by decide)).trans ((hFvy34 47 (by decide) (by decide) (by decide) (by decide) (by decide)).trans (hFvy32 47 (by decide) (by decide)))))) (by decide))
            have hey185 : (uZ Fvy166 48 ((F 48) + 1)) 48 = (F 48) + 1 := (uZ_s _ _ _)
            have hey186 : (uZ Fvy166 48 ((F 48) + 1)) 49 = F 49 := (fn ((hFvy166 49 (by decide) (by decide) (by decide) (by decide) (by decide) (by decide) (by decide)).trans ((hFvy84 49 (by decide) (by decide) (by decide) (by decide) (by decide)).trans ((hFvy37 49 (by decide) (by decide) (by decide) (by decide) (by decide) (by decide) (by decide)).trans ((hFvy34 49 (by decide) (by decide) (by decide) (by decide) (by decide)).trans (hFvy32 49 (by decide) (by decide)))))) (by decide))
            have hfry188 : ∀ j, j ≠ (F 48).toNat → ry44 j = ai1 j := fun j n0 => (congrFun hvy45 _).trans ((uZ_n _ _ n0).trans (rfl))
            have hwy189 : ry44 ((F 48).toNat) = vy37 := (congrFun hvy45 _).trans (uZ_s _ _ _)
            have haky187 : ∀ k, k < 24 → -300 ≤ ry44 k ∧ ry44 k ≤ 100 := by
              intro k hk
              by_cases e : k = (F 48).toNat
              · rw [e]; have hk0 := hai1 ((F 48).toNat) (by omega); omega
              · have hk0 := hai1 k hk; rw [hfry188 k e]; exact hk0
            have hfry191 : ∀ j, j ≠ (F 48).toNat → ry76 j = fa1 j := fun j n0 => (congrFun hvy77 _).trans ((uZ_n _ _ n0).trans ((congrFun hvy55 _).trans ((uZ_n _ _ n0).trans (rfl))))
            have hfry192 : ∀ j, j ≠ (F 48).toNat → ry173 j = mu1 j := fun j n0 => (congrFun hvy174 _).trans ((uZ_n _ _ n0).trans ((congrFun hvy66 _).trans ((uZ_n _ _ n0).trans (rfl))))
            have hwy193 : ry76 ((F 48).toNat) = ((Fvy37 37) - 3) + 1 := (congrFun hvy77 _).trans (uZ_s _ _ _)
            have hwy194 : ry173 ((F 48).toNat) = vy166 := (congrFun hvy174 _).trans (uZ_s _ _ _)
            have haky190 : ∀ k, k < 24 → (0 ≤ ry76 k ∧ ry76 k ≤ 3) ∧ (0 ≤ ry173 k ∧ ry173 k ≤ 50) ∧ (ry76 k = 1 ∨ ry76 k = 2 → 1 ≤ ry173 k) := by
              intro k hk
              by_cases e : k = (F 48).toNat
              · rw [e]; have hk0 := hfa1 ((F 48).toNat) (by omega); omega
              · have hk0 := hfa1 k hk; rw [hfry191 k e]; rw [hfry192 k e]; exact hk0
            have hlay195 : ∀ s l : Nat, (s : Int) < (uZ Fvy166 48 ((F 48) + 1)) 47 → (l : Int) < mn1 s → lyT ly1 (84 * s + 7 * l) := fun s l a1 a2 => hly1 s l (by omega) a2
            have hgy196 := (hfvy32 (i + 16) (ne_o (i := i) (c := 16) (d := 0) rfl)).trans ha16
            have hgy197 := (hfvy34 (i + 16) (ne_o (i := i) (c := 16) (d := 0) rfl)).trans hgy196
            have hgy198 := (hfvy37 (i + 16) (ne_o (i := i) (c := 16) (d := 0) rfl)).trans hgy197
            have hgy199 := up_n egy42 hgy198 (ne_o (i := i) (c := 16) (d := 19) rfl)
            have hgy200 := up_n egy52 hgy199 (ne_o (i := i) (c := 16) (d := 20) rfl)
            have hgy201 := up_n egy63 hgy200 (ne_o (i := i) (c := 16) (d := 21) rfl)
            have hgy202 := up_n egy74 hgy201 (ne_o (i := i) (c := 16) (d := 20) rfl)
            have hgy203 := (hfvy84 (i + 16) (ne_o (i := i) (c := 16) (d := 0) rfl)).trans hgy202
            have hgy204 := (hfvy166 (i + 16) (ne_o (i := i) (c := 16) (d := 0) rfl)).trans hgy203
            have hgy205 := up_n egy171 hgy204 (ne_o (i := i) (c := 16) (d := 21) rfl)
            have hgy206 := up_n egy177 hgy205 (ne_o (i := i) (c := 16) (d := 0) rfl)
            have hgy207 := (hfvy32 (i + 17) (ne_o (i := i) (c := 17) (d := 0) rfl)).trans ha17
            have hgy208 := (hfvy34 (i + 17) (ne_o (i := i) (c := 17) (d := 0) rfl)).trans hgy207
            have hgy209 := (hfvy37 (i + 17) (ne_o (i := i) (c := 17) (d := 0) rfl)).trans hgy208
            have hgy210 := up_n egy42 hgy209 (ne_o (i := i) (c := 17) (d := 19) rfl)
            have hgy211 := up_n egy52 hgy210 (ne_o (i := i) (c := 17) (d := 20) rfl)
            have hgy212 := up_n egy63 hgy211 (ne_o (i := i) (c := 17) (d := 21) rfl)
            have hgy213 := up_n egy74 hgy212 (ne_o (i := i) (c := 17) (d := 20) rfl)
            have hgy214 := (hfvy84 (i + 17) (ne_o (i := i) (c := 17) (d := 0) rfl)).trans hgy213
            have hgy215 := (hfvy166 (i + 17) (ne_o (i := i) (c := 17) (d := 0) rfl)).trans hgy214
            have hgy216 := up_n egy171 hgy215 (ne_o (i := i) (c := 17) (d := 21) rfl)
            have hgy217 := up_n egy177 hgy216 (ne_o (i := i) (c := 17) (d := 0) rfl)
            have hgy218 := (hfvy32 (i + 18) (ne_o (i := i) (c := 18) (d := 0) rfl)).trans ha18
            have hgy219 := (hfvy34 (i + 18) (ne_o (i := i) (c := 18) (d := 0) rfl)).trans hgy218
            have hgy220 := (hfvy37 (i + 18) (ne_o (i := i) (c := 18) (d := 0) rfl)).trans hgy219
            have hgy221 := up_n egy42 hgy220 (ne_o (i := i) (c := 18) (d := 19) rfl)
            have hgy222 := up_n egy52 hgy221 (ne_o (i := i) (c := 18) (d := 20) rfl)
            have hgy223 := up_n egy63 hgy222 (ne_o (i := i) (c := 18) (d := 21) rfl)
            have hgy224 := up_n egy74 hgy223 (ne_o (i := i) (c := 18) (d := 20) rfl)
            have hgy225 := (hfvy84 (i + 18) (ne_o (i := i) (c := 18) (d := 0) rfl)).trans hgy224
            have hgy226 := (hfvy166 (i + 18) (ne_o (i := i) (c := 18) (d := 0) rfl)).trans hgy225
            have hgy227 := up_n egy171 hgy226 (ne_o (i := i) (c := 18) (d := 21) rfl)
            have hgy228 := up_n egy177 hgy227 (ne_o (i := i) (c := 18) (d := 0) rfl)
            have hgy229 := up_n egy52 hgy43 (ne_o (i := i) (c := 19) (d := 20) rfl)
            have hgy230 := up_n egy63 hgy229 (ne_o (i := i) (c := 19) (d := 21) rfl)
            have hgy231 := up_n egy74 hgy230 (ne_o (i := i) (c := 19) (d := 20) rfl)
            have hgy232 := (hfvy84 (i + 19) (ne_o (i := i) (c := 19) (d := 0) rfl)).trans hgy231
            have hgy233 := (hfvy166 (i + 19) (ne_o (i := i) (c := 19) (d := 0) rfl)).trans hgy232
            have hgy234 := up_n egy171 hgy233 (ne_o (i := i) (c := 19) (d := 21) rfl)
            have hgy235 := up_n egy177 hgy234 (ne_o (i := i) (c := 19) (d := 0) rfl)
            have hgy236 := (hfvy166 (i + 20) (ne_o (i := i) (c := 20) (d := 0) rfl)).trans hgy85
            have hgy237 := up_n egy171 hgy236 (ne_o (i := i) (c := 20) (d := 21) rfl)
            have hgy238 := up_n egy177 hgy237 (ne_o (i := i) (c := 20) (d := 0) rfl)
            have hgy239 := up_n egy177 hgy172 (ne_o (i := i) (c := 21) (d := 0) rfl)
            have hgy240 := (hfvy32 (i + 22) (ne_o (i := i) (c := 22) (d := 0) rfl)).trans ha22
            have hgy241 := (hfvy34 (i + 22) (ne_o (i := i) (c := 22) (d := 0) rfl)).trans hgy240
            have hgy242 := (hfvy37 (i + 22) (ne_o (i := i) (c := 22) (d := 0) rfl)).trans hgy241
            have hgy243 := up_n egy42 hgy242 (ne_o (i := i) (c := 22) (d := 19) rfl)
            have hgy244 := up_n egy52 hgy243 (ne_o (i := i) (c := 22) (d := 20) rfl)
            have hgy245 := up_n egy63 hgy244 (ne_o (i := i) (c := 22) (d := 21) rfl)
            have hgy246 := up_n egy74 hgy245 (ne_o (i := i) (c := 22) (d := 20) rfl)
            have hgy247 := (hfvy84 (i + 22) (ne_o (i := i) (c := 22) (d := 0) rfl)).trans hgy246
            have hgy248 := (hfvy166 (i + 22) (ne_o (i := i) (c := 22) (d := 0) rfl)).trans hgy247
            have hgy249 := up_n egy171 hgy248 (ne_o (i := i) (c := 22) (d := 21) rfl)
            have hgy250 := up_n egy177 hgy249 (ne_o (i := i) (c := 22) (d := 0) rfl)
            have hgy251 := (hfvy32 (i + 23) (ne_o (i := i) (c := 23) (d := 0) rfl)).trans ha23
            have hgy252 := (hfvy34 (i + 23) (ne_o (i := i) (c := 23) (d := 0) rfl)).trans hgy251
            have hgy253 := (hfvy37 (i + 23) (ne_o (i := i) (c := 23) (d := 0) rfl)).trans hgy252
            have hgy254 := up_n egy42 hgy253 (ne_o (i := i) (c := 23) (d := 19) rfl)
            have hgy255 := up_n egy52 hgy254 (ne_o (i := i) (c := 23) (d := 20) rfl)
            have hgy256 := up_n egy63 hgy255 (ne_o (i := i) (c := 23) (d := 21) rfl)
            have hgy257 := up_n egy74 hgy256 (ne_o (i := i) (c := 23) (d := 20) rfl)
            have hgy258 := (hfvy84 (i + 23) (ne_o (i := i) (c := 23) (d := 0) rfl)).trans hgy257
            have hgy259 := (hfvy166 (i + 23) (ne_o (i := i) (c := 23) (d := 0) rfl)).trans hgy258
            have hgy260 := up_n egy171 hgy259 (ne_o (i := i) (c := 23) (d := 21) rfl)
            have hgy261 := up_n egy177 hgy260 (ne_o (i := i) (c := 23) (d := 0) rfl)
            have htxy262 : okTx cs gy176 i (uZ Fvy166 48 ((F 48) + 1)) := ⟨_, _, _, _, _, _, _, _, ⟨hgy206, hgy217, hgy228, hgy235, hgy238, hgy239, hgy250, hgy261⟩, ⟨⟨by omega, by omega, by omega⟩, hop1, hmn1, haky187, haky190, htb1, hlay195⟩⟩
            exact z_vret C hr hlk dX10_hour1_207 (by decide) (by decide) ⟨rfl, rfl, rfl, ⟨_, hgy178, (RD.put hdvy166 (by decide)), by omega, by omega, hFy179, htxy262⟩, fun j j1 j2 => by rw [egy177, va_up_ne _ _ (by omega)]; rw [egy171, va_up_ne _ _ (by omega)]; rw [hfvy166 _ (by omega)]; rw [hfvy84 _ (by omega)]; rw [egy74, va_up_ne _ _ (by omega)]; rw [egy63, va_up_ne _ _ (by omega)]; rw [egy52, va_up_ne _ _ (by omega)]; rw [egy42, va_up_ne _ _ (by omega)]; rw [hfvy37 _ (by omega)]; rw [hfvy34 _ (by omega)]; rw [hfvy32 _ (by omega)]⟩
        · clear hqvy68
          refine z_if_ne (tgt := 147) C dX10_hour1_128 (by decide) (by omega) (fun h => absurd h (by omega)) (fun _ => ?_)
          refine z_aload_n C 2 dX10_hour1_131 rfl ?_
          refine z_iconst (z := 4) C dX10_hour1_132 rfl ?_
          have hey264 : Fvy37 38 = 0 := hxvy37
          have hey265 : Fvy37 35 = Fvy37 35 := rfl
          have hey266 : Fvy37 37 = Fvy37 37 := rfl
          refine z_cV (As := [.int (zI (4))]) (rest := []) (ci := 12) C (c_X10_is l D A cs tt N ad _ i hN _ hgy67 hdvy37 (4) (by omega)) (by omega) hay1 hgy67 rfl rfl mv_yX10_is q_1705 hd_yX10_is (by decide) (Nat.le_of_ble_eq_true rfl) (by decide) dX10_hour1_133 rfl (kI0 fun vy263 gvy263 hvy263 => ?_)
          rw [hey264, hey265, hey266] at hvy263
          clear hey264 hey265 hey266
          obtain ⟨hrvy263, hqvy263, rfl⟩ := hvy263
          rcases (show vy263 = 1 ∨ vy263 = 0 by omega) with rfl | rfl
          · have hkvy263 := hqvy263 rfl
            clear hqvy263
            refine z_if_ne (tgt := 147) C dX10_hour1_136 (by decide) (by omega) (fun _ => ?_) (fun h => absurd h (by omega))
            refine z_aload_n C 2 dX10_hour1_147 rfl ?_
            refine z_get (v := .ref (ad (i + 20))) C (by omega) hay1 hgy67 rfl inA_X10 43 (by decide) q_1502 rfl rfl dX10_hour1_148 ?_
            refine z_aload_n C 2 dX10_hour1_151 rfl ?_
            refine z_get (v := .int (zI (F 48))) C (by omega) hay1 hgy67 rfl inA_X10 48 (by decide) q_1507 rfl (fv (F := Fvy37) (f := 48) ((hFvy37 48 (by decide) (by decide) (by decide) (by decide) (by decide) (by decide) (by decide)).trans ((hFvy34 48 (by decide) (by decide) (by decide) (by decide) (by decide)).trans (hFvy32 48 (by decide) (by decide))))) dX10_hour1_152 ?_
            refine z_aload_n C 2 dX10_hour1_155 rfl ?_
            refine z_get (v := .int (zI (Fvy37 37))) C (by omega) hay1 hgy67 rfl inA_X10 37 (by decide) q_1496 rfl (fv (F := Fvy37) (f := 37) rfl) dX10_hour1_156 ?_
            refine z_iconst (z := 3) C dX10_hour1_159 rfl ?_
            refine z_isub C dX10_hour1_160 ?_
            refine z_iconst (z := 1) C dX10_hour1_161 rfl ?_
            refine z_iadd C dX10_hour1_162 ?_
            have hgy267 := up_n egy63 hgy53 (ne_o (i := i) (c := 20) (d := 21) rfl)
            refine z_iast C (by omega) hay7 hgy267 ((F 48).toNat) (by omega) (by omega) (by decide) dX10_hour1_163 (fun gy268 egy269 => ?_)
            have hgy270 := up_s egy269
            obtain ⟨ry271, hvy272⟩ : ∃ rZ9 : Nat → Int, rZ9 = uZ ry54 ((F 48).toNat) (((Fvy37 37) - 3) + 1) := ⟨_, rfl⟩
            rw [← hvy272] at hgy270
            refine z_aload_n C 2 dX10_hour1_164 rfl ?_
            have hgy273 := up_n egy269 hgy67 (ne_o (i := i) (c := 0) (d := 20) rfl)
            have hgy274 := (hfvy37 (i + 13) (ne_o (i := i) (c := 13) (d := 0) rfl)).trans hgy36
            have hgy275 := up_n egy42 hgy274 (ne_o (i := i) (c := 13) (d := 19) rfl)
            have hgy276 := up_n egy52 hgy275 (ne_o (i := i) (c := 13) (d := 20) rfl)
            have hgy277 := up_n egy63 hgy276 (ne_o (i := i) (c := 13) (d := 21) rfl)
            have hgy278 := up_n egy269 hgy277 (ne_o (i := i) (c := 13) (d := 20) rfl)
            refine z_cV (As := []) (rest := []) (ci := 12) C (c_X10_go l D A cs tt N ad _ i hN _ hgy273 _ hgy278 htp hdvy37) (by omega) hay1 hgy273 rfl rfl mv_yX10_go q_1652 hd_yX10_go (by decide) (Nat.le_of_ble_eq_true rfl) (by decide) dX10_hour1_165 rfl (kV0 fun gvy279 hvy279 => ?_)
            obtain ⟨⟨Fvy279, hcvy279, hdvy279, hlvy279, hsvy279, hFvy279⟩, hfvy279⟩ := hvy279
            rw [show Fvy37 32 = Fvy37 32 from rfl] at hlvy279 hsvy279
            have h34vy279 : Fvy279 34 = F 34 := (hFvy279 34 (by decide) (by decide) (by decide) (by decide) (by decide)).trans (((hFvy37 34 (by decide) (by decide) (by decide) (by decide) (by decide) (by decide) (by decide)).trans ((hFvy34 34 (by decide) (by decide) (by decide) (by decide) (by decide)).trans (hFvy32 34 (by decide) (by decide)))))
            obtain ⟨d32vy279, -, d35vy279, d36vy279, -, d37vy279, d38vy279⟩ := id hdvy279
            have h38vy279 : Fvy279 38 = 0 := ((hFvy279 38 (by decide) (by decide) (by decide) (by decide) (by decide)).trans hxvy37)
            clear hsvy279
            refine z_aload_n C 2 dX10_hour1_168 rfl ?_
            refine z_get (v := .ref (ad (i + 20))) C (by omega) hay1 hcvy279 rfl inA_X10 43 (by decide) q_1502 rfl rfl dX10_hour1_169 ?_
            refine z_aload_n C 2 dX10_hour1_172 rfl ?_
            refine z_get (v := .int (zI (F 48))) C (by omega) hay1 hcvy279 rfl inA_X10 48 (by decide) q_1507 rfl (fv (F := Fvy279) (f := 48) ((hFvy279 48 (by decide) (by decide) (by decide) (by decide) (by decide)).trans ((hFvy37 48 (by decide) (by decide) (by decide) (by decide) (by decide) (by decide) (by decide)).trans ((hFvy34 48 (by decide) (by decide) (by decide) (by decide) (by decide)).trans (hFvy32 48 (by decide) (by decide)))))) dX10_hour1_173 ?_
            have hgy280 := (hfvy279 (i + 20) (ne_o (i := i) (c := 20) (d := 0) rfl)).trans hgy270
            refine z_iald C (by omega) hay7 hgy280 ((F 48).toNat) (by omega) (by omega) (by decide) dX10_hour1_176 ?_
            rw [show ry271 ((F 48).toNat) = ((Fvy37 37) - 3) + 1 from (congrFun hvy272 _).trans (uZ_s _ _ _)]
            refine z_iconst (z := 3) C dX10_hour1_177 rfl ?_
            obtain ⟨xy281, exy282, hxy283⟩ := zI_of (zI (((Fvy37 37) - 3) + 1))
            rw [exy282]
            refine z_icmp_ge (tgt := 197) C dX10_hour1_178 (by decide) (by omega) (by omega) (fun hby284 => ?_) (fun hby284 => ?_)
            · refine z_aload_n C 2 dX10_hour1_197 rfl ?_
              refine z_dup C dX10_hour1_198 rfl ?_
              refine z_get (v := .int (zI (F 48))) C (by omega) hay1 hcvy279 rfl inA_X10 48 (by decide) q_1507 rfl (fv (F := Fvy279) (f := 48) ((hFvy279 48 (by decide) (by decide) (by decide) (by decide) (by decide)).trans ((hFvy37 48 (by decide) (by decide) (by decide) (by decide) (by decide) (by decide) (by decide)).trans ((hFvy34 48 (by decide) (by decide) (by decide) (by decide) (by decide)).trans (hFvy32 48 (by decide) (by decide)))))) dX10_hour1_199 ?_
              refine z_iconst (z := 1) C dX10_hour1_202 rfl ?_
              refine z_iadd C dX10_hour1_203 ?_
              refine z_put (fs' := mF ad (i) (uZ Fvy279 48 ((F 48) + 1))) C (by omega) hay1 hcvy279 tyX10 tyX10_ok nmX10 rfl inA_X10 48 (by decide) q_1507 rfl rfl rfl rfl (Nat.le_of_ble_eq_true rfl) rfl dX10_hour1_204 (fun gy285 egy286 => ?_)
              have hgy287 := up_s egy286
              have hFy288 : ∀ f, f ≠ 24 → f ≠ 32 → f ≠ 33 → f ≠ 35 → f ≠ 36 → f ≠ 37 → f ≠ 38 → f ≠ 47 → f ≠ 48 → f ≠ 49 → (uZ Fvy279 48 ((F 48) + 1)) f = F f := fun f n24 n32 n33 n35 n36 n37 n38 n47 n48 n49 => ((uZ_n _ _ n48).trans ((hFvy279 f n32 n33 n35 n36 n37).trans ((hFvy37 f n24 n32 n33 n35 n36 n37 n38).trans ((hFvy34 f n32 n33 n35 n36 n37).trans (hFvy32 f n24 n38)))))
              have hey289 : (uZ Fvy279 48 ((F 48) + 1)) 32 = Fvy279 32 := (fn rfl (by decide))
              have hey290 : (uZ Fvy279 48 ((F 48) + 1)) 35 = Fvy279 35 := (fn rfl (by decide))
              have hey291 : (uZ Fvy279 48 ((F 48) + 1)) 38 = 0 := (fn ((hFvy279 38 (by decide) (by decide) (by decide) (by decide) (by decide)).trans hxvy37) (by decide))
              have hey292 : (uZ Fvy279 48 ((F 48) + 1)) 32 = Fvy279 32 := (fn rfl (by decide))
              have hey293 : (uZ Fvy279 48 ((F 48) + 1)) 47 = F 47 := (fn ((hFvy279 47 (by decide) (by decide) (by decide) (by decide) (by decide)).trans ((hFvy37 47 (by decide) (by decide) (by decide) (by decide) (by decide) (by decide) (by decide)).trans ((hFvy34 47 (by decide) (by decide) (by decide) (by decide) (by decide)).trans (hFvy32 47 (by decide) (by decide))))) (by decide))
              have hey294 : (uZ Fvy279 48 ((F 48) + 1)) 48 = (F 48) + 1 := (uZ_s _ _ _)
              have hey295 : (uZ Fvy279 48 ((F 48) + 1)) 49 = F 49 := (fn ((hFvy279 49 (by decide) (by decide) (by decide) (by decide) (by decide)).trans ((hFvy37 49 (by decide) (by decide) (by decide) (by decide) (by decide) (by decide) (by decide)).trans ((hFvy34 49 (by decide) (by decide) (by decide) (by decide) (by decide)).trans (hFvy32 49 (by decide) (by decide))))) (by decide))
              have hfry297 : ∀ j, j ≠ (F 48).toNat → ry44 j = ai1 j := fun j n0 => (congrFun hvy45 _).trans ((uZ_n _ _ n0).trans (rfl))
              have hwy298 : ry44 ((F 48).toNat) = vy37 := (congrFun hvy45 _).trans (uZ_s _ _ _)
              have haky296 : ∀ k, k < 24 → -300 ≤ ry44 k ∧ ry44 k ≤ 100 := by
                intro k hk
                by_cases e : k = (F 48).toNat
                · rw [e]; have hk0 := hai1 ((F 48).toNat) (by omega); omega
                · have hk0 := hai1 k hk; rw [hfry297 k e]; exact hk0
              have hfry300 : ∀ j, j ≠ (F 48).toNat → ry271 j = fa1 j := fun j n0 => (congrFun hvy272 _).trans ((uZ_n _ _ n0).trans ((congrFun hvy55 _).trans ((uZ_n _ _ n0).trans (rfl))))
              have hfry301 : ∀ j, j ≠ (F 48).toNat → ry65 j = mu1 j := fun j n0 => (congrFun hvy66 _).trans ((uZ_n _ _ n0).trans (rfl))
              have hwy302 : ry271 ((F 48).toNat) = ((Fvy37 37) - 3) + 1 := (congrFun hvy272 _).trans (uZ_s _ _ _)
              have hwy303 : ry65 ((F 48).toNat) = 0 := (congrFun hvy66 _).trans (uZ_s _ _ _)
              have haky299 : ∀ k, k < 24 → (0 ≤ ry271 k ∧ ry271 k ≤ 3) ∧ (0 ≤ ry65 k ∧ ry65 k ≤ 50) ∧ (ry271 k = 1 ∨ ry271 k = 2 → 1 ≤ ry65 k) := by
                intro k hk
                by_cases e : k = (F 48).toNat
                · rw [e]; have hk0 := hfa1 ((F 48).toNat) (by omega); omega
                · have hk0 := hfa1 k hk; rw [hfry300 k e]; rw [hfry301 k e]; exact hk0
              have hlay304 : ∀ s l : Nat, (s : Int) < (uZ Fvy279 48 ((F 48) + 1)) 47 → (l : Int) < mn1 s → lyT ly1 (84 * s + 7 * l) := fun s l a1 a2 => hly1 s l (by omega) a2
              have hgy305 := (hfvy32 (i + 16) (ne_o (i := i) (c := 16) (d := 0) rfl)).trans ha16
              have hgy306 := (hfvy34 (i + 16) (ne_o (i := i) (c := 16) (d := 0) rfl)).trans hgy305
              have hgy307 := (hfvy37 (i + 16) (ne_o (i := i) (c := 16) (d := 0) rfl)).trans hgy306
              have hgy308 := up_n egy42 hgy307 (ne_o (i := i) (c := 16) (d := 19) rfl)
              have hgy309 := up_n egy52 hgy308 (ne_o (i := i) (c := 16) (d := 20) rfl)
              have hgy310 := up_n egy63 hgy309 (ne_o (i := i) (c := 16) (d := 21) rfl)
              have hgy311 := up_n egy269 hgy310 (ne_o (i := i) (c := 16) (d := 20) rfl)
              have hgy312 := (hfvy279 (i + 16) (ne_o (i := i) (c := 16) (d := 0) rfl)).trans hgy311
              have hgy313 := up_n egy286 hgy312 (ne_o (i := i) (c := 16) (d := 0) rfl)
              have hgy314 := (hfvy32 (i + 17) (ne_o (i := i) (c := 17) (d := 0) rfl)).trans ha17
              have hgy315 := (hfvy34 (i + 17) (ne_o (i := i) (c := 17) (d := 0) rfl)).trans hgy314
              have hgy316 := (hfvy37 (i + 17) (ne_o (i := i) (c := 17) (d := 0) rfl)).trans hgy315
              have hgy317 := up_n egy42 hgy316 (ne_o (i := i) (c := 17) (d := 19) rfl)
              have hgy318 := up_n egy52 hgy317 (ne_o (i := i) (c := 17) (d := 20) rfl)
              have hgy319 := up_n egy63 hgy318 (ne_o (i := i) (c := 17) (d := 21) rfl)
              have hgy320 := up_n egy269 hgy319 (ne_o (i := i) (c := 17) (d := 20) rfl)
              have hgy321 := (hfvy279 (i + 17) (ne_o (i := i) (c := 17) (d := 0) rfl)).trans hgy320
              have hgy322 := up_n egy286 hgy321 (ne_o (i := i) (c := 17) (d := 0) rfl)
              have hgy323 := (hfvy32 (i + 18) (ne_o (i := i) (c := 18) (d := 0) rfl)).trans ha18
              have hgy324 := (hfvy34 (i + 18) (ne_o (i := i) (c := 18) (d := 0) rfl)).trans hgy323
              have hgy325 := (hfvy37 (i + 18) (ne_o (i := i) (c := 18) (d := 0) rfl)).trans hgy324
              have hgy326 := up_n egy42 hgy325 (ne_o (i := i) (c := 18) (d := 19) rfl)
              have hgy327 := up_n egy52 hgy326 (ne_o (i := i) (c := 18) (d := 20) rfl)
              have hgy328 := up_n egy63 hgy327 (ne_o (i := i) (c := 18) (d := 21) rfl)
              have hgy329 := up_n egy269 hgy328 (ne_o (i := i) (c := 18) (d := 20) rfl)
              have hgy330 := (hfvy279 (i + 18) (ne_o (i := i) (c := 18) (d := 0) rfl)).trans hgy329
              have hgy331 := up_n egy286 hgy330 (ne_o (i := i) (c := 18) (d := 0) rfl)
              have hgy332 := up_n egy52 hgy43 (ne_o (i := i) (c := 19) (d := 20) rfl)
              have hgy333 := up_n egy63 hgy332 (ne_o (i := i) (c := 19) (d := 21) rfl)
              have hgy334 := up_n egy269 hgy333 (ne_o (i := i) (c := 19) (d := 20) rfl)
              have hgy335 := (hfvy279 (i + 19) (ne_o (i := i) (c := 19) (d := 0) rfl)).trans hgy334
              have hgy336 := up_n egy286 hgy335 (ne_o (i := i) (c := 19) (d := 0) rfl)
              have hgy337 := up_n egy286 hgy280 (ne_o (i := i) (c := 20) (d := 0) rfl)
              have hgy338 := up_n egy269 hgy64 (ne_o (i := i) (c := 21) (d := 20) rfl)
              have hgy339 := (hfvy279 (i + 21) (ne_o (i := i) (c := 21) (d := 0) rfl)).trans hgy338
              have hgy340 := up_n egy286 hgy339 (ne_o (i := i) (c := 21) (d := 0) rfl)
              have hgy341 := (hfvy32 (i + 22) (ne_o (i := i) (c := 22) (d := 0) rfl)).trans ha22
              have hgy342 := (hfvy34 (i + 22) (ne_o (i := i) (c := 22) (d := 0) rfl)).trans hgy341
              have hgy343 := (hfvy37 (i + 22) (ne_o (i := i) (c := 22) (d := 0) rfl)).trans hgy342
              have hgy344 := up_n egy42 hgy343 (ne_o (i := i) (c := 22) (d := 19) rfl)
              have hgy345 := up_n egy52 hgy344 (ne_o (i := i) (c := 22) (d := 20) rfl)
              have hgy346 := up_n egy63 hgy345 (ne_o (i := i) (c := 22) (d := 21) rfl)
              have hgy347 := up_n egy269 hgy346 (ne_o (i := i) (c := 22) (d := 20) rfl)
              have hgy348 := (hfvy279 (i + 22) (ne_o (i := i) (c := 22) (d := 0) rfl)).trans hgy347
              have hgy349 := up_n egy286 hgy348 (ne_o (i := i) (c := 22) (d := 0) rfl)
              have hgy350 := (hfvy32 (i + 23) (ne_o (i := i) (c := 23) (d := 0) rfl)).trans ha23
              have hgy351 := (hfvy34 (i + 23) (ne_o (i := i) (c := 23) (d := 0) rfl)).trans hgy350
              have hgy352 := (hfvy37 (i + 23) (ne_o (i := i) (c := 23) (d := 0) rfl)).trans hgy351
              have hgy353 := up_n egy42 hgy352 (ne_o (i := i) (c := 23) (d := 19) rfl)
              have hgy354 := up_n egy52 hgy353 (ne_o (i := i) (c := 23) (d := 20) rfl)
              have hgy355 := up_n egy63 hgy354 (ne_o (i := i) (c := 23) (d := 21) rfl)
              have hgy356 := up_n egy269 hgy355 (ne_o (i := i) (c := 23) (d := 20) rfl)
              have hgy357 := (hfvy279 (i + 23) (ne_o (i := i) (c := 23) (d := 0) rfl)).trans hgy356
              have hgy358 := up_n egy286 hgy357 (ne_o (i := i) (c := 23) (d := 0) rfl)
              have htxy359 : okTx cs gy285 i (uZ Fvy279 48 ((F 48) + 1)) := ⟨_, _, _, _, _, _, _, _, ⟨hgy313, hgy322, hgy331, hgy336, hgy337, hgy340, hgy349, hgy358⟩, ⟨⟨by omega, by omega, by omega⟩, hop1, hmn1, haky296, haky299, htb1, hlay304⟩⟩
              exact z_vret C hr hlk dX10_hour1_207 (by decide) (by decide) ⟨rfl, rfl, rfl, ⟨_, hgy287, (RD.put hdvy279 (by decide)), by omega, by omega, hFy288, htxy359⟩, fun j j1 j2 => by rw [egy286, va_up_ne _ _ (by omega)]; rw [hfvy279 _ (by omega)]; rw [egy269, va_up_ne _ _ (by omega)]; rw [egy63, va_up_ne _ _ (by omega)]; rw [egy52, va_up_ne _ _ (by omega)]; rw [egy42, va_up_ne _ _ (by omega)]; rw [hfvy37 _ (by omega)]; rw [hfvy34 _ (by omega)]; rw [hfvy32 _ (by omega)]⟩
            · refine z_aload_n C 2 dX10_hour1_181 rfl ?_
              refine z_get (v := .ref (ad (i + 21))) C (by omega) hay1 hcvy279 rfl inA_X10 44 (by decide) q_1503 rfl rfl dX10_hour1_182 ?_
              refine z_aload_n C 2 dX10_hour1_185 rfl ?_
              refine z_get (v := .int (zI (F 48))) C (by omega) hay1 hcvy279 rfl inA_X10 48 (by decide) q_1507 rfl (fv (F := Fvy279) (f := 48) ((hFvy279 48 (by decide) (by decide) (by decide) (by decide) (by decide)).trans ((hFvy37 48 (by decide) (by decide) (by decide) (by decide) (by decide) (by decide) (by decide)).trans ((hFvy34 48 (by decide) (by decide) (by decide) (by decide) (by decide)).trans (hFvy32 48 (by decide) (by decide)))))) dX10_hour1_186 ?_
              refine z_aload_n C 2 dX10_hour1_189 rfl ?_
              refine z_iconst (z := 1) C dX10_hour1_190 rfl ?_
              refine z_bipush (z := 50) C dX10_hour1_191 (by decide) ?_
              have hgy360 := (hfvy279 (i + 13) (ne_o (i := i) (c := 13) (d := 0) rfl)).trans hgy278
              refine z_cV (As := [.int (zI (1)), .int (zI (50))]) (rest := [.int (zI (F 48)), .ref (ad (i + 21))]) (ci := 12) C (c_X10_number l D A cs tt N ad _ i hN _ hcvy279 _ hgy360 htp hdvy279 (1) (by omega) (50) (by omega)) (by omega) hay1 hcvy279 rfl rfl mv_yX10_number q_1682 hd_yX10_number (by decide) (Nat.le_of_ble_eq_true rfl) (by decide) dX10_hour1_193 rfl (kI0 fun vy361 gvy361 hvy361 => ?_)
              obtain ⟨hrvy361, ⟨Fvy361, hcvy361, hdvy361, hlvy361, hsvy361, hFvy361⟩, hfvy361⟩ := hvy361
              rw [show Fvy279 32 = Fvy279 32 from rfl] at hlvy361
              rw [show Fvy279 38 = 0 from ((hFvy279 38 (by decide) (by decide) (by decide) (by decide) (by decide)).trans hxvy37), show Fvy279 35 = Fvy279 35 from rfl] at hsvy361
              have h34vy361 : Fvy361 34 = F 34 := (hFvy361 34 (by decide) (by decide) (by decide) (by decide) (by decide) (by decide) (by decide)).trans (((hFvy279 34 (by decide) (by decide) (by decide) (by decide) (by decide)).trans ((hFvy37 34 (by decide) (by decide) (by decide) (by decide) (by decide) (by decide) (by decide)).trans ((hFvy34 34 (by decide) (by decide) (by decide) (by decide) (by decide)).trans (hFvy32 34 (by decide) (by decide))))))
              obtain ⟨d32vy361, -, d35vy361, d36vy361, -, d37vy361, d38vy361⟩ := id hdvy361
              clear hsvy361
              have hgy362 := up_n egy269 hgy64 (ne_o (i := i) (c := 21) (d := 20) rfl)
              have hgy363 := (hfvy279 (i + 21) (ne_o (i := i) (c := 21) (d := 0) rfl)).trans hgy362
              have hgy364 := (hfvy361 (i + 21) (ne_o (i := i) (c := 21) (d := 0) rfl)).trans hgy363
              refine z_iast C (by omega) hay8 hgy364 ((F 48).toNat) (by omega) (by omega) (by decide) dX10_hour1_196 (fun gy365 egy366 => ?_)
              have hgy367 := up_s egy366
              obtain ⟨ry368, hvy369⟩ : ∃ rZ9 : Nat → Int, rZ9 = uZ ry65 ((F 48).toNat) (vy361) := ⟨_, rfl⟩
              rw [← hvy369] at hgy367
              refine z_aload_n C 2 dX10_hour1_197 rfl ?_
              refine z_dup C dX10_hour1_198 rfl ?_
              have hgy370 := up_n egy366 hcvy361 (ne_o (i := i) (c := 0) (d := 21) rfl)
              refine z_get (v := .int (zI (F 48))) C (by omega) hay1 hgy370 rfl inA_X10 48 (by decide) q_1507 rfl (fv (F := Fvy361) (f := 48) ((hFvy361 48 (by decide) (by decide) (by decide) (by decide) (by decide) (by decide) (by decide)).trans ((hFvy279 48 (by decide) (by decide) (by decide) (by decide) (by decide)).trans ((hFvy37 48 (by decide) (by decide) (by decide) (by decide) (by decide) (by decide) (by decide)).trans ((hFvy34 48 (by decide) (by decide) (by decide) (by decide) (by decide)).trans (hFvy32 48 (by decide) (by decide))))))) dX10_hour1_199 ?_
              refine z_iconst (z := 1) C dX10_hour1_202 rfl ?_
              refine z_iadd C dX10_hour1_203 ?_
              refine z_put (fs' := mF ad (i) (uZ Fvy361 48 ((F 48) + 1))) C (by omega) hay1 hgy370 tyX10 tyX10_ok nmX10 rfl inA_X10 48 (by decide) q_1507 rfl rfl rfl rfl (Nat.le_of_ble_eq_true rfl) rfl dX10_hour1_204 (fun gy371 egy372 => ?_)
              have hgy373 := up_s egy372
              have hFy374 : ∀ f, f ≠ 24 → f ≠ 32 → f ≠ 33 → f ≠ 35 → f ≠ 36 → f ≠ 37 → f ≠ 38 → f ≠ 47 → f ≠ 48 → f ≠ 49 → (uZ Fvy361 48 ((F 48) + 1)) f = F f := fun f n24 n32 n33 n35 n36 n37 n38 n47 n48 n49 => ((uZ_n _ _ n48).trans ((hFvy361 f n24 n32 n33 n35 n36 n37 n38).trans ((hFvy279 f n32 n33 n35 n36 n37).trans ((hFvy37 f n24 n32 n33 n35 n36 n37 n38).trans ((hFvy34 f n32 n33 n35 n36 n37).trans (hFvy32 f n24 n38))))))
              have hey375 : (uZ Fvy361 48 ((F 48) + 1)) 32 = Fvy361 32 := (fn rfl (by decide))
              have hey376 : (uZ Fvy361 48 ((F 48) + 1)) 35 = Fvy361 35 := (fn rfl (by decide))
              have hey377 : (uZ Fvy361 48 ((F 48) + 1)) 38 = Fvy361 38 := (fn rfl (by decide))
              have hey378 : (uZ Fvy361 48 ((F 48) + 1)) 32 = Fvy361 32 := (fn rfl (by decide))
              have hey379 : (uZ Fvy361 48 ((F 48) + 1)) 47 = F 47 := (fn ((hFvy361 47 (by decide) (by decide) (by decide) (by decide) (by decide) (by decide) (by decide)).trans ((hFvy279 47 (by decide) (by decide) (by decide) (by decide) (by decide)).trans ((hFvy37 47 (by decide) (by decide) (by decide) (by decide) (by decide) (by decide) (by decide)).trans ((hFvy34 47 (by decide) (by decide) (by decide) (by decide) (by decide)).trans (hFvy32 47 (by decide) (by decide)))))) (by decide))
              have hey380 : (uZ Fvy361 48 ((F 48) + 1)) 48 = (F 48) + 1 := (uZ_s _ _ _)
              have hey381 : (uZ Fvy361 48 ((F 48) + 1)) 49 = F 49 := (fn ((hFvy361 49 (by decide) (by decide) (by decide) (by decide) (by decide) (by decide) (by decide)).trans ((hFvy279 49 (by decide) (by decide) (by decide) (by decide) (by decide)).trans ((hFvy37 49 (by decide) (by decide) (by decide) (by decide) (by decide) (by decide) (by decide)).trans ((hFvy34 49 (by decide) (by decide) (by decide) (by decide) (by decide)).trans (hFvy32 49 (by decide) (by decide)))))) (by decide))
              have hfry383 : ∀ j, j ≠ (F 48).toNat → ry44 j = ai1 j := fun j n0 => (congrFun hvy45 _).trans ((uZ_n _ _ n0).trans (rfl))
              have hwy384 : ry44 ((F 48).toNat) = vy37 := (congrFun hvy45 _).trans (uZ_s _ _ _)
              have haky382 : ∀ k, k < 24 → -300 ≤ ry44 k ∧ ry44 k ≤ 100 := by
                intro k hk
                by_cases e : k = (F 48).toNat
                · rw [e]; have hk0 := hai1 ((F 48).toNat) (by omega); omega
                · have hk0 := hai1 k hk; rw [hfry383 k e]; exact hk0
              have hfry386 : ∀ j, j ≠ (F 48).toNat → ry271 j = fa1 j := fun j n0 => (congrFun hvy272 _).trans ((uZ_n _ _ n0).trans ((congrFun hvy55 _).trans ((uZ_n _ _ n0).trans (rfl))))
              have hfry387 : ∀ j, j ≠ (F 48).toNat → ry368 j = mu1 j := fun j n0 => (congrFun hvy369 _).trans ((uZ_n _ _ n0).trans ((congrFun hvy66 _).trans ((uZ_n _ _ n0).trans (rfl))))
              have hwy388 : ry271 ((F 48).toNat) = ((Fvy37 37) - 3) + 1 := (congrFun hvy272 _).trans (uZ_s _ _ _)
              have hwy389 : ry368 ((F 48).toNat) = vy361 := (congrFun hvy369 _).trans (uZ_s _ _ _)
              have haky385 : ∀ k, k < 24 → (0 ≤ ry271 k ∧ ry271 k ≤ 3) ∧ (0 ≤ ry368 k ∧ ry368 k ≤ 50) ∧ (ry271 k = 1 ∨ ry271 k = 2 → 1 ≤ ry368 k) := by
                intro k hk
                by_cases e : k = (F 48).toNat
                · rw [e]; have hk0 := hfa1 ((F 48).toNat) (by omega); omega
                · have hk0 := hfa1 k hk; rw [hfry386 k e]; rw [hfry387 k e]; exact hk0
              have hlay390 : ∀ s l : Nat, (s : Int) < (uZ Fvy361 48 ((F 48) + 1)) 47 → (l : Int) < mn1 s → lyT ly1 (84 * s + 7 * l) := fun s l a1 a2 => hly1 s l (by omega) a2
              have hgy391 := (hfvy32 (i + 16) (ne_o (i := i) (c := 16) (d := 0) rfl)).trans ha16
              have hgy392 := (hfvy34 (i + 16) (ne_o (i := i) (c := 16) (d := 0) rfl)).trans hgy391
              have hgy393 := (hfvy37 (i + 16) (ne_o (i := i) (c := 16) (d := 0) rfl)).trans hgy392
              have hgy394 := up_n egy42 hgy393 (ne_o (i := i) (c := 16) (d := 19) rfl)
              have hgy395 := up_n egy52 hgy394 (ne_o (i := i) (c := 16) (d := 20) rfl)
              have hgy396 := up_n egy63 hgy395 (ne_o (i := i) (c := 16) (d := 21) rfl)
              have hgy397 := up_n egy269 hgy396 (ne_o (i := i) (c := 16) (d := 20) rfl)
              have hgy398 := (hfvy279 (i + 16) (ne_o (i := i) (c := 16) (d := 0) rfl)).trans hgy397
              have hgy399 := (hfvy361 (i + 16) (ne_o (i := i) (c := 16) (d := 0) rfl)).trans hgy398
              have hgy400 := up_n egy366 hgy399 (ne_o (i := i) (c := 16) (d := 21) rfl)
              have hgy401 := up_n egy372 hgy400 (ne_o (i := i) (c := 16) (d := 0) rfl)
              have hgy402 := (hfvy32 (i + 17) (ne_o (i := i) (c := 17) (d := 0) rfl)).trans ha17
              have hgy403 := (hfvy34 (i + 17) (ne_o (i := i) (c := 17) (d := 0) rfl)).trans hgy402
              have hgy404 := (hfvy37 (i + 17) (ne_o (i := i) (c := 17) (d := 0) rfl)).trans hgy403
              have hgy405 := up_n egy42 hgy404 (ne_o (i := i) (c := 17) (d := 19) rfl)
              have hgy406 := up_n egy52 hgy405 (ne_o (i := i) (c := 17) (d := 20) rfl)
              have hgy407 := up_n egy63 hgy406 (ne_o (i := i) (c := 17) (d := 21) rfl)
              have hgy408 := up_n egy269 hgy407 (ne_o (i := i) (c := 17) (d := 20) rfl)
              have hgy409 := (hfvy279 (i + 17) (ne_o (i := i) (c := 17) (d := 0) rfl)).trans hgy408
              have hgy410 := (hfvy361 (i + 17) (ne_o (i := i) (c := 17) (d := 0) rfl)).trans hgy409
              have hgy411 := up_n egy366 hgy410 (ne_o (i := i) (c := 17) (d := 21) rfl)
              have hgy412 := up_n egy372 hgy411 (ne_o (i := i) (c := 17) (d := 0) rfl)
              have hgy413 := (hfvy32 (i + 18) (ne_o (i := i) (c := 18) (d := 0) rfl)).trans ha18
              have hgy414 := (hfvy34 (i + 18) (ne_o (i := i) (c := 18) (d := 0) rfl)).trans hgy413
              have hgy415 := (hfvy37 (i + 18) (ne_o (i := i) (c := 18) (d := 0) rfl)).trans hgy414
              have hgy416 := up_n egy42 hgy415 (ne_o (i := i) (c := 18) (d := 19) rfl)
              have hgy417 := up_n egy52 hgy416 (ne_o (i := i) (c := 18) (d := 20) rfl)
              have hgy418 := up_n egy63 hgy417 (ne_o (i := i) (c := 18) (d := 21) rfl)
              have hgy419 := up_n egy269 hgy418 (ne_o (i := i) (c := 18) (d := 20) rfl)
              have hgy420 := (hfvy279 (i + 18) (ne_o (i := i) (c := 18) (d := 0) rfl)).trans hgy419
              have hgy421 := (hfvy361 (i + 18) (ne_o (i := i) (c := 18) (d := 0) rfl)).trans hgy420
              have hgy422 := up_n egy366 hgy421 (ne_o (i := i) (c := 18) (d := 21) rfl)
              have hgy423 := up_n egy372 hgy422 (ne_o (i := i) (c := 18) (d := 0) rfl)
              have hgy424 := up_n egy52 hgy43 (ne_o (i := i) (c := 19) (d := 20) rfl)
              have hgy425 := up_n egy63 hgy424 (ne_o (i := i) (c := 19) (d := 21) rfl)
              have hgy426 := up_n egy269 hgy425 (ne_o (i := i) (c := 19) (d := 20) rfl)
              have hgy427 := (hfvy279 (i + 19) (ne_o (i := i) (c := 19) (d := 0) rfl)).trans hgy426
              have hgy428 := (hfvy361 (i + 19) (ne_o (i := i) (c := 19) (d := 0) rfl)).trans hgy427
              have hgy429 := up_n egy366 hgy428 (ne_o (i := i) (c := 19) (d := 21) rfl)
              have hgy430 := up_n egy372 hgy429 (ne_o (i := i) (c := 19) (d := 0) rfl)
              have hgy431 := (hfvy361 (i + 20) (ne_o (i := i) (c := 20) (d := 0) rfl)).trans hgy280
              have hgy432 := up_n egy366 hgy431 (ne_o (i := i) (c := 20) (d := 21) rfl)
              have hgy433 := up_n egy372 hgy432 (ne_o (i := i) (c := 20) (d := 0) rfl)
              have hgy434 := up_n egy372 hgy367 (ne_o (i := i) (c := 21) (d := 0) rfl)
              have hgy435 := (hfvy32 (i + 22) (ne_o (i := i) (c := 22) (d := 0) rfl)).trans ha22
              have hgy436 := (hfvy34 (i + 22) (ne_o (i := i) (c := 22) (d := 0) rfl)).trans hgy435
              have hgy437 := (hfvy37 (i + 22) (ne_o (i := i) (c := 22) (d := 0) rfl)).trans hgy436
              have hgy438 := up_n egy42 hgy437 (ne_o (i := i) (c := 22) (d := 19) rfl)
              have hgy439 := up_n egy52 hgy438 (ne_o (i := i) (c := 22) (d := 20) rfl)
              have hgy440 := up_n egy63 hgy439 (ne_o (i := i) (c := 22) (d := 21) rfl)
              have hgy441 := up_n egy269 hgy440 (ne_o (i := i) (c := 22) (d := 20) rfl)
              have hgy442 := (hfvy279 (i + 22) (ne_o (i := i) (c := 22) (d := 0) rfl)).trans hgy441
              have hgy443 := (hfvy361 (i + 22) (ne_o (i := i) (c := 22) (d := 0) rfl)).trans hgy442
              have hgy444 := up_n egy366 hgy443 (ne_o (i := i) (c := 22) (d := 21) rfl)
              have hgy445 := up_n egy372 hgy444 (ne_o (i := i) (c := 22) (d := 0) rfl)
              have hgy446 := (hfvy32 (i + 23) (ne_o (i := i) (c := 23) (d := 0) rfl)).trans ha23
              have hgy447 := (hfvy34 (i + 23) (ne_o (i := i) (c := 23) (d := 0) rfl)).trans hgy446
              have hgy448 := (hfvy37 (i + 23) (ne_o (i := i) (c := 23) (d := 0) rfl)).trans hgy447
              have hgy449 := up_n egy42 hgy448 (ne_o (i := i) (c := 23) (d := 19) rfl)
              have hgy450 := up_n egy52 hgy449 (ne_o (i := i) (c := 23) (d := 20) rfl)
              have hgy451 := up_n egy63 hgy450 (ne_o (i := i) (c := 23) (d := 21) rfl)
              have hgy452 := up_n egy269 hgy451 (ne_o (i := i) (c := 23) (d := 20) rfl)
              have hgy453 := (hfvy279 (i + 23) (ne_o (i := i) (c := 23) (d := 0) rfl)).trans hgy452
              have hgy454 := (hfvy361 (i + 23) (ne_o (i := i) (c := 23) (d := 0) rfl)).trans hgy453
              have hgy455 := up_n egy366 hgy454 (ne_o (i := i) (c := 23) (d := 21) rfl)
              have hgy456 := up_n egy372 hgy455 (ne_o (i := i) (c := 23) (d := 0) rfl)
              have htxy457 : okTx cs gy371 i (uZ Fvy361 48 ((F 48) + 1)) := ⟨_, _, _, _, _, _, _, _, ⟨hgy401, hgy412, hgy423, hgy430, hgy433, hgy434, hgy445, hgy456⟩, ⟨⟨by omega, by omega, by omega⟩, hop1, hmn1, haky382, haky385, htb1, hlay390⟩⟩
              exact z_vret C hr hlk dX10_hour1_207 (by decide) (by decide) ⟨rfl, rfl, rfl, ⟨_, hgy373, (RD.put hdvy361 (by decide)), by omega, by omega, hFy374, htxy457⟩, fun j j1 j2 => by rw [egy372, va_up_ne _ _ (by omega)]; rw [egy366, va_up_ne _ _ (by omega)]; rw [hfvy361 _ (by omega)]; rw [hfvy279 _ (by omega)]; rw [egy269, va_up_ne _ _ (by omega)]; rw [egy63, va_up_ne _ _ (by omega)]; rw [egy52, va_up_ne _ _ (by omega)]; rw [egy42, va_up_ne _ _ (by omega)]; rw [hfvy37 _ (by omega)]; rw [hfvy34 _ (by omega)]; rw [hfvy32 _ (by omega)]⟩
          · clear hqvy263
            refine z_if_ne (tgt := 147) C dX10_hour1_136 (by decide) (by omega) (fun h => absurd h (by omega)) (fun _ => ?_)
            refine z_aload_n C 2 dX10_hour1_139 rfl ?_
            refine z_iconst (z := 5) C dX10_hour1_140 rfl ?_
            have hey459 : Fvy37 38 = 0 := hxvy37
            have hey460 : Fvy37 35 = Fvy37 35 := rfl
            have hey461 : Fvy37 37 = Fvy37 37 := rfl
            refine z_cV (As := [.int (zI (5))]) (rest := []) (ci := 12) C (c_X10_is l D A cs tt N ad _ i hN _ hgy67 hdvy37 (5) (by omega)) (by omega) hay1 hgy67 rfl rfl mv_yX10_is q_1705 hd_yX10_is (by decide) (Nat.le_of_ble_eq_true rfl) (by decide) dX10_hour1_141 rfl (kI0 fun vy458 gvy458 hvy458 => ?_)
            rw [hey459, hey460, hey461] at hvy458
            clear hey459 hey460 hey461
            obtain ⟨hrvy458, hqvy458, rfl⟩ := hvy458
            rcases (show vy458 = 1 ∨ vy458 = 0 by omega) with rfl | rfl
            · have hkvy458 := hqvy458 rfl
              clear hqvy458
              refine z_if_eq (tgt := 197) C dX10_hour1_144 (by decide) (by omega) (fun h => absurd h (by omega)) (fun _ => ?_)
              refine z_aload_n C 2 dX10_hour1_147 rfl ?_
              refine z_get (v := .ref (ad (i + 20))) C (by omega) hay1 hgy67 rfl inA_X10 43 (by decide) q_1502 rfl rfl dX10_hour1_148 ?_
              refine z_aload_n C 2 dX10_hour1_151 rfl ?_
              refine z_get (v := .int (zI (F 48))) C (by omega) hay1 hgy67 rfl inA_X10 48 (by decide) q_1507 rfl (fv (F := Fvy37) (f := 48) ((hFvy37 48 (by decide) (by decide) (by decide) (by decide) (by decide) (by decide) (by decide)).trans ((hFvy34 48 (by decide) (by decide) (by decide) (by decide) (by decide)).trans (hFvy32 48 (by decide) (by decide))))) dX10_hour1_152 ?_
              refine z_aload_n C 2 dX10_hour1_155 rfl ?_
              refine z_get (v := .int (zI (Fvy37 37))) C (by omega) hay1 hgy67 rfl inA_X10 37 (by decide) q_1496 rfl (fv (F := Fvy37) (f := 37) rfl) dX10_hour1_156 ?_
              refine z_iconst (z := 3) C dX10_hour1_159 rfl ?_
              refine z_isub C dX10_hour1_160 ?_
              refine z_iconst (z := 1) C dX10_hour1_161 rfl ?_
              refine z_iadd C dX10_hour1_162 ?_
              have hgy462 := up_n egy63 hgy53 (ne_o (i := i) (c := 20) (d := 21) rfl)
              refine z_iast C (by omega) hay7 hgy462 ((F 48).toNat) (by omega) (by omega) (by decide) dX10_hour1_163 (fun gy463 egy464 => ?_)
              have hgy465 := up_s egy464
              obtain ⟨ry466, hvy467⟩ : ∃ rZ9 : Nat → Int, rZ9 = uZ ry54 ((F 48).toNat) (((Fvy37 37) - 3) + 1) := ⟨_, rfl⟩
              rw [← hvy467] at hgy465
              refine z_aload_n C 2 dX10_hour1_164 rfl ?_
              have hgy468 := up_n egy464 hgy67 (ne_o (i := i) (c := 0) (d := 20) rfl)
              have hgy469 := (hfvy37 (i + 13) (ne_o (i := i) (c := 13) (d := 0) rfl)).trans hgy36
              have hgy470 := up_n egy42 hgy469 (ne_o (i := i) (c := 13) (d := 19) rfl)
              have hgy471 := up_n egy52 hgy470 (ne_o (i := i) (c := 13) (d := 20) rfl)
              have hgy472 := up_n egy63 hgy471 (ne_o (i := i) (c := 13) (d := 21) rfl)
              have hgy473 := up_n egy464 hgy472 (ne_o (i := i) (c := 13) (d := 20) rfl)
              refine z_cV (As := []) (rest := []) (ci := 12) C (c_X10_go l D A cs tt N ad _ i hN _ hgy468 _ hgy473 htp hdvy37) (by omega) hay1 hgy468 rfl rfl mv_yX10_go q_1652 hd_yX10_go (by decide) (Nat.le_of_ble_eq_true rfl) (by decide) dX10_hour1_165 rfl (kV0 fun gvy474 hvy474 => ?_)
              obtain ⟨⟨Fvy474, hcvy474, hdvy474, hlvy474, hsvy474, hFvy474⟩, hfvy474⟩ := hvy474
              rw [show Fvy37 32 = Fvy37 32 from rfl] at hlvy474 hsvy474
              have h34vy474 : Fvy474 34 = F 34 := (hFvy474 34 (by decide) (by decide) (by decide) (by decide) (by decide)).trans (((hFvy37 34 (by decide) (by decide) (by decide) (by decide) (by decide) (by decide) (by decide)).trans ((hFvy34 34 (by decide) (by decide) (by decide) (by decide) (by decide)).trans (hFvy32 34 (by decide) (by decide)))))
              obtain ⟨d32vy474, -, d35vy474, d36vy474, -, d37vy474, d38vy474⟩ := id hdvy474
              have h38vy474 : Fvy474 38 = 0 := ((hFvy474 38 (by decide) (by decide) (by decide) (by decide) (by decide)).trans hxvy37)
              clear hsvy474
              refine z_aload_n C 2 dX10_hour1_168 rfl ?_
              refine z_get (v := .ref (ad (i + 20))) C (by omega) hay1 hcvy474 rfl inA_X10 43 (by decide) q_1502 rfl rfl dX10_hour1_169 ?_
              refine z_aload_n C 2 dX10_hour1_172 rfl ?_
              refine z_get (v := .int (zI (F 48))) C (by omega) hay1 hcvy474 rfl inA_X10 48 (by decide) q_1507 rfl (fv (F := Fvy474) (f := 48) ((hFvy474 48 (by decide) (by decide) (by decide) (by decide) (by decide)).trans ((hFvy37 48 (by decide) (by decide) (by decide) (by decide) (by decide) (by decide) (by decide)).trans ((hFvy34 48 (by decide) (by decide) (by decide) (by decide) (by decide)).trans (hFvy32 48 (by decide) (by decide)))))) dX10_hour1_173 ?_
              have hgy475 := (hfvy474 (i + 20) (ne_o (i := i) (c := 20) (d := 0) rfl)).trans hgy465
              refine z_iald C (by omega) hay7 hgy475 ((F 48).toNat) (by omega) (by omega) (by decide) dX10_hour1_176 ?_
              rw [show ry466 ((F 48).toNat) = ((Fvy37 37) - 3) + 1 from (congrFun hvy467 _).trans (uZ_s _ _ _)]
              refine z_iconst (z := 3) C dX10_hour1_177 rfl ?_
              obtain ⟨xy476, exy477, hxy478⟩ := zI_of (zI (((Fvy37 37) - 3) + 1))
              rw [exy477]
              refine z_icmp_ge (tgt := 197) C dX10_hour1_178 (by decide) (by omega) (by omega) (fun hby479 => ?_) (fun hby479 => ?_)
              · refine z_aload_n C 2 dX10_hour1_197 rfl ?_
                refine z_dup C dX10_hour1_198 rfl ?_
                refine z_get (v := .int (zI (F 48))) C (by omega) hay1 hcvy474 rfl inA_X10 48 (by decide) q_1507 rfl (fv (F := Fvy474) (f := 48) ((hFvy474 48 (by decide) (by decide) (by decide) (by decide) (by decide)).trans ((hFvy37 48 (by decide) (by decide) (by decide) (by decide) (by decide) (by decide) (by decide)).trans ((hFvy34 48 (by decide) (by decide) (by decide) (by decide) (by decide)).trans (hFvy32 48 (by decide) (by decide)))))) dX10_hour1_199 ?_
                refine z_iconst (z := 1) C dX10_hour1_202 rfl ?_
                refine z_iadd C dX10_hour1_203 ?_
                refine z_put (fs' := mF ad (i) (uZ Fvy474 48 ((F 48) + 1))) C (by omega) hay1 hcvy474 tyX10 tyX10_ok nmX10 rfl inA_X10 48 (by decide) q_1507 rfl rfl rfl rfl (Nat.le_of_ble_eq_true rfl) rfl dX10_hour1_204 (fun gy480 egy481 => ?_)
                have hgy482 := up_s egy481
                have hFy483 : ∀ f, f ≠ 24 → f ≠ 32 → f ≠ 33 → f ≠ 35 → f ≠ 36 → f ≠ 37 → f ≠ 38 → f ≠ 47 → f ≠ 48 → f ≠ 49 → (uZ Fvy474 48 ((F 48) + 1)) f = F f := fun f n24 n32 n33 n35 n36 n37 n38 n47 n48 n49 => ((uZ_n _ _ n48).trans ((hFvy474 f n32 n33 n35 n36 n37).trans ((hFvy37 f n24 n32 n33 n35 n36 n37 n38).trans ((hFvy34 f n32 n33 n35 n36 n37).trans (hFvy32 f n24 n38)))))
                have hey484 : (uZ Fvy474 48 ((F 48) + 1)) 32 = Fvy474 32 := (fn rfl (by decide))
                have hey485 : (uZ Fvy474 48 ((F 48) + 1)) 35 = Fvy474 35 := (fn rfl (by decide))
                have hey486 : (uZ Fvy474 48 ((F 48) + 1)) 38 = 0 := (fn ((hFvy474 38 (by decide) (by decide) (by decide) (by decide) (by decide)).trans hxvy37) (by decide))
                have hey487 : (uZ Fvy474 48 ((F 48) + 1)) 32 = Fvy474 32 := (fn rfl (by decide))
                have hey488 : (uZ Fvy474 48 ((F 48) + 1)) 47 = F 47 := (fn ((hFvy474 47 (by decide) (by decide) (by decide) (by decide) (by decide)).trans ((hFvy37 47 (by decide) (by decide) (by decide) (by decide) (by decide) (by decide) (by decide)).trans ((hFvy34 47 (by decide) (by decide) (by decide) (by decide) (by decide)).trans (hFvy32 47 (by decide) (by decide))))) (by decide))
                have hey489 : (uZ Fvy474 48 ((F 48) + 1)) 48 = (F 48) + 1 := (uZ_s _ _ _)
                have hey490 : (uZ Fvy474 48 ((F 48) + 1)) 49 = F 49 := (fn ((hFvy474 49 (by decide) (by decide) (by decide) (by decide) (by decide)).trans ((hFvy37 49 (by decide) (by decide) (by decide) (by decide) (by decide) (by decide) (by decide)).trans ((hFvy34 49 (by decide) (by decide) (by decide) (by decide) (by decide)).trans (hFvy32 49 (by decide) (by decide))))) (by decide))
                have hfry492 : ∀ j, j ≠ (F 48).toNat → ry44 j = ai1 j := fun j n0 => (congrFun hvy45 _).trans ((uZ_n _ _ n0).trans (rfl))
                have hwy493 : ry44 ((F 48).toNat) = vy37 := (congrFun hvy45 _).trans (uZ_s _ _ _)
                have haky491 : ∀ k, k < 24 → -300 ≤ ry44 k ∧ ry44 k ≤ 100 := by
                  intro k hk
                  by_cases e : k = (F 48).toNat
                  · rw [e]; have hk0 := hai1 ((F 48).toNat) (by omega); omega
                  · have hk0 := hai1 k hk; rw [hfry492 k e]; exact hk0
                have hfry495 : ∀ j, j ≠ (F 48).toNat → ry466 j = fa1 j := fun j n0 => (congrFun hvy467 _).trans ((uZ_n _ _ n0).trans ((congrFun hvy55 _).trans ((uZ_n _ _ n0).trans (rfl))))
                have hfry496 : ∀ j, j ≠ (F 48).toNat → ry65 j = mu1 j := fun j n0 => (congrFun hvy66 _).trans ((uZ_n _ _ n0).trans (rfl))
                have hwy497 : ry466 ((F 48).toNat) = ((Fvy37 37) - 3) + 1 := (congrFun hvy467 _).trans (uZ_s _ _ _)
                have hwy498 : ry65 ((F 48).toNat) = 0 := (congrFun hvy66 _).trans (uZ_s _ _ _)
                have haky494 : ∀ k, k < 24 → (0 ≤ ry466 k ∧ ry466 k ≤ 3) ∧ (0 ≤ ry65 k ∧ ry65 k ≤ 50) ∧ (ry466 k = 1 ∨ ry466 k = 2 → 1 ≤ ry65 k) := by
                  intro k hk
                  by_cases e : k = (F 48).toNat
                  · rw [e]; have hk0 := hfa1 ((F 48).toNat) (by omega); omega
                  · have hk0 := hfa1 k hk; rw [hfry495 k e]; rw [hfry496 k e]; exact hk0
                have hlay499 : ∀ s l : Nat, (s : Int) < (uZ Fvy474 48 ((F 48) + 1)) 47 → (l : Int) < mn1 s → lyT ly1 (84 * s + 7 * l) := fun s l a1 a2 => hly1 s l (by omega) a2
                have hgy500 := (hfvy32 (i + 16) (ne_o (i := i) (c := 16) (d := 0) rfl)).trans ha16
                have hgy501 := (hfvy34 (i + 16) (ne_o (i := i) (c := 16) (d := 0) rfl)).trans hgy500
                have hgy502 := (hfvy37 (i + 16) (ne_o (i := i) (c := 16) (d := 0) rfl)).trans hgy501
                have hgy503 := up_n egy42 hgy502 (ne_o (i := i) (c := 16) (d := 19) rfl)
                have hgy504 := up_n egy52 hgy503 (ne_o (i := i) (c := 16) (d := 20) rfl)
                have hgy505 := up_n egy63 hgy504 (ne_o (i := i) (c := 16) (d := 21) rfl)
                have hgy506 := up_n egy464 hgy505 (ne_o (i := i) (c := 16) (d := 20) rfl)
                have hgy507 := (hfvy474 (i + 16) (ne_o (i := i) (c := 16) (d := 0) rfl)).trans hgy506
                have hgy508 := up_n egy481 hgy507 (ne_o (i := i) (c := 16) (d := 0) rfl)
                have hgy509 := (hfvy32 (i + 17) (ne_o (i := i) (c := 17) (d := 0) rfl)).trans ha17
                have hgy510 := (hfvy34 (i + 17) (ne_o (i := i) (c := 17) (d := 0) rfl)).trans hgy509
                have hgy511 := (hfvy37 (i + 17) (ne_o (i := i) (c := 17) (d := 0) rfl)).trans hgy510
                have hgy512 := up_n egy42 hgy511 (ne_o (i := i) (c := 17) (d := 19) rfl)
                have hgy513 := up_n egy52 hgy512 (ne_o (i := i) (c := 17) (d := 20) rfl)
                have hgy514 := up_n egy63 hgy513 (ne_o (i := i) (c := 17) (d := 21) rfl)
                have hgy515 := up_n egy464 hgy514 (ne_o (i := i) (c := 17) (d := 20) rfl)
                have hgy516 := (hfvy474 (i + 17) (ne_o (i := i) (c := 17) (d := 0) rfl)).trans hgy515
                have hgy517 := up_n egy481 hgy516 (ne_o (i := i) (c := 17) (d := 0) rfl)
                have hgy518 := (hfvy32 (i + 18) (ne_o (i := i) (c := 18) (d := 0) rfl)).trans ha18
                have hgy519 := (hfvy34 (i + 18) (ne_o (i := i) (c := 18) (d := 0) rfl)).trans hgy518
                have hgy520 := (hfvy37 (i + 18) (ne_o (i := i) (c := 18) (d := 0) rfl)).trans hgy519
                have hgy521 := up_n egy42 hgy520 (ne_o (i := i) (c := 18) (d := 19) rfl)
                have hgy522 := up_n egy52 hgy521 (ne_o (i := i) (c := 18) (d := 20) rfl)
                have hgy523 := up_n egy63 hgy522 (ne_o (i := i) (c := 18) (d := 21) rfl)
                have hgy524 := up_n egy464 hgy523 (ne_o (i := i) (c := 18) (d := 20) rfl)
                have hgy525 := (hfvy474 (i + 18) (ne_o (i := i) (c := 18) (d := 0) rfl)).trans hgy524
                have hgy526 := up_n egy481 hgy525 (ne_o (i := i) (c := 18) (d := 0) rfl)
                have hgy527 := up_n egy52 hgy43 (ne_o (i := i) (c := 19) (d := 20) rfl)
                have hgy528 := up_n egy63 hgy527 (ne_o (i := i) (c := 19) (d := 21) rfl)
                have hgy529 := up_n egy464 hgy528 (ne_o (i := i) (c := 19) (d := 20) rfl)
                have hgy530 := (hfvy474 (i + 19) (ne_o (i := i) (c := 19) (d := 0) rfl)).trans hgy529
                have hgy531 := up_n egy481 hgy530 (ne_o (i := i) (c := 19) (d := 0) rfl)
                have hgy532 := up_n egy481 hgy475 (ne_o (i := i) (c := 20) (d := 0) rfl)
                have hgy533 := up_n egy464 hgy64 (ne_o (i := i) (c := 21) (d := 20) rfl)
                have hgy534 := (hfvy474 (i + 21) (ne_o (i := i) (c := 21) (d := 0) rfl)).trans hgy533
                have hgy535 := up_n egy481 hgy534 (ne_o (i := i) (c := 21) (d := 0) rfl)
                have hgy536 := (hfvy32 (i + 22) (ne_o (i := i) (c := 22) (d := 0) rfl)).trans ha22
                have hgy537 := (hfvy34 (i + 22) (ne_o (i := i) (c := 22) (d := 0) rfl)).trans hgy536
                have hgy538 := (hfvy37 (i + 22) (ne_o (i := i) (c := 22) (d := 0) rfl)).trans hgy537
                have hgy539 := up_n egy42 hgy538 (ne_o (i := i) (c := 22) (d := 19) rfl)
                have hgy540 := up_n egy52 hgy539 (ne_o (i := i) (c := 22) (d := 20) rfl)
                have hgy541 := up_n egy63 hgy540 (ne_o (i := i) (c := 22) (d := 21) rfl)
                have hgy542 := up_n egy464 hgy541 (ne_o (i := i) (c := 22) (d := 20) rfl)
                have hgy543 := (hfvy474 (i + 22) (ne_o (i := i) (c := 22) (d := 0) rfl)).trans hgy542
                have hgy544 := up_n egy481 hgy543 (ne_o (i := i) (c := 22) (d := 0) rfl)
                have hgy545 := (hfvy32 (i + 23) (ne_o (i := i) (c := 23) (d := 0) rfl)).trans ha23
                have hgy546 := (hfvy34 (i + 23) (ne_o (i := i) (c := 23) (d := 0) rfl)).trans hgy545
                have hgy547 := (hfvy37 (i + 23) (ne_o (i := i) (c := 23) (d := 0) rfl)).trans hgy546
                have hgy548 := up_n egy42 hgy547 (ne_o (i := i) (c := 23) (d := 19) rfl)
                have hgy549 := up_n egy52 hgy548 (ne_o (i := i) (c := 23) (d := 20) rfl)
                have hgy550 := up_n egy63 hgy549 (ne_o (i := i) (c := 23) (d := 21) rfl)
                have hgy551 := up_n egy464 hgy550 (ne_o (i := i) (c := 23) (d := 20) rfl)
                have hgy552 := (hfvy474 (i + 23) (ne_o (i := i) (c := 23) (d := 0) rfl)).trans hgy551
                have hgy553 := up_n egy481 hgy552 (ne_o (i := i) (c := 23) (d := 0) rfl)
                have htxy554 : okTx cs gy480 i (uZ Fvy474 48 ((F 48) + 1)) := ⟨_, _, _, _, _, _, _, _, ⟨hgy508, hgy517, hgy526, hgy531, hgy532, hgy535, hgy544, hgy553⟩, ⟨⟨by omega, by omega, by omega⟩, hop1, hmn1, haky491, haky494, htb1, hlay499⟩⟩
                exact z_vret C hr hlk dX10_hour1_207 (by decide) (by decide) ⟨rfl, rfl, rfl, ⟨_, hgy482, (RD.put hdvy474 (by decide)), by omega, by omega, hFy483, htxy554⟩, fun j j1 j2 => by rw [egy481, va_up_ne _ _ (by omega)]; rw [hfvy474 _ (by omega)]; rw [egy464, va_up_ne _ _ (by omega)]; rw [egy63, va_up_ne _ _ (by omega)]; rw [egy52, va_up_ne _ _ (by omega)]; rw [egy42, va_up_ne _ _ (by omega)]; rw [hfvy37 _ (by omega)]; rw [hfvy34 _ (by omega)]; rw [hfvy32 _ (by omega)]⟩
              · refine z_aload_n C 2 dX10_hour1_181 rfl ?_
                refine z_get (v := .ref (ad (i + 21))) C (by omega) hay1 hcvy474 rfl inA_X10 44 (by decide) q_1503 rfl rfl dX10_hour1_182 ?_
                refine z_aload_n C 2 dX10_hour1_185 rfl ?_
                refine z_get (v := .int (zI (F 48))) C (by omega) hay1 hcvy474 rfl inA_X10 48 (by decide) q_1507 rfl (fv (F := Fvy474) (f := 48) ((hFvy474 48 (by decide) (by decide) (by decide) (by decide) (by decide)).trans ((hFvy37 48 (by decide) (by decide) (by decide) (by decide) (by decide) (by decide) (by decide)).trans ((hFvy34 48 (by decide) (by decide) (by decide) (by decide) (by decide)).trans (hFvy32 48 (by decide) (by decide)))))) dX10_hour1_186 ?_
                refine z_aload_n C 2 dX10_hour1_189 rfl ?_
                refine z_iconst (z := 1) C dX10_hour1_190 rfl ?_
                refine z_bipush (z := 50) C dX10_hour1_191 (by decide) ?_
                have hgy555 := (hfvy474 (i + 13) (ne_o (i := i) (c := 13) (d := 0) rfl)).trans hgy473
                refine z_cV (As := [.int (zI (1)), .int (zI (50))]) (rest := [.int (zI (F 48)), .ref (ad (i + 21))]) (ci := 12) C (c_X10_number l D A cs tt N ad _ i hN _ hcvy474 _ hgy555 htp hdvy474 (1) (by omega) (50) (by omega)) (by omega) hay1 hcvy474 rfl rfl mv_yX10_number q_1682 hd_yX10_number (by decide) (Nat.le_of_ble_eq_true rfl) (by decide) dX10_hour1_193 rfl (kI0 fun vy556 gvy556 hvy556 => ?_)
                obtain ⟨hrvy556, ⟨Fvy556, hcvy556, hdvy556, hlvy556, hsvy556, hFvy556⟩, hfvy556⟩ := hvy556
                rw [show Fvy474 32 = Fvy474 32 from rfl] at hlvy556
                rw [show Fvy474 38 = 0 from ((hFvy474 38 (by decide) (by decide) (by decide) (by decide) (by decide)).trans hxvy37), show Fvy474 35 = Fvy474 35 from rfl] at hsvy556
                have h34vy556 : Fvy556 34 = F 34 := (hFvy556 34 (by decide) (by decide) (by decide) (by decide) (by decide) (by decide) (by decide)).trans (((hFvy474 34 (by decide) (by decide) (by decide) (by decide) (by decide)).trans ((hFvy37 34 (by decide) (by decide) (by decide) (by decide) (by decide) (by decide) (by decide)).trans ((hFvy34 34 (by decide) (by decide) (by decide) (by decide) (by decide)).trans (hFvy32 34 (by decide) (by decide))))))
                obtain ⟨d32vy556, -, d35vy556, d36vy556, -, d37vy556, d38vy556⟩ := id hdvy556
                clear hsvy556
                have hgy557 := up_n egy464 hgy64 (ne_o (i := i) (c := 21) (d := 20) rfl)
                have hgy558 := (hfvy474 (i + 21) (ne_o (i := i) (c := 21) (d := 0) rfl)).trans hgy557
                have hgy559 := (hfvy556 (i + 21) (ne_o (i := i) (c := 21) (d := 0) rfl)).trans hgy558
                refine z_iast C (by omega) hay8 hgy559 ((F 48).toNat) (by omega) (by omega) (by decide) dX10_hour1_196 (fun gy560 egy561 => ?_)
                have hgy562 := up_s egy561
                obtain ⟨ry563, hvy564⟩ : ∃ rZ9 : Nat → Int, rZ9 = uZ ry65 ((F 48).toNat) (vy556) := ⟨_, rfl⟩
                rw [← hvy564] at hgy562
                refine z_aload_n C 2 dX10_hour1_197 rfl ?_
                refine z_dup C dX10_hour1_198 rfl ?_
                have hgy565 := up_n egy561 hcvy556 (ne_o (i := i) (c := 0) (d := 21) rfl)
                refine z_get (v := .int (zI (F 48))) C (by omega) hay1 hgy565 rfl inA_X10 48 (by decide) q_1507 rfl (fv (F := Fvy556) (f := 48) ((hFvy556 48 (by decide) (by decide) (by decide) (by decide) (by decide) (by decide) (by decide)).trans ((hFvy474 48 (by decide) (by decide) (by decide) (by decide) (by decide)).trans ((hFvy37 48 (by decide) (by decide) (by decide) (by decide) (by decide) (by decide) (by decide)).trans ((hFvy34 48 (by decide) (by decide) (by decide) (by decide) (by decide)).trans (hFvy32 48 (by decide) (by decide))))))) dX10_hour1_199 ?_
                refine z_iconst (z := 1) C dX10_hour1_202 rfl ?_
                refine z_iadd C dX10_hour1_203 ?_
                refine z_put (fs' := mF ad (i) (uZ Fvy556 48 ((F 48) + 1))) C (by omega) hay1 hgy565 tyX10 tyX10_ok nmX10 rfl inA_X10 48 (by decide) q_1507 rfl rfl rfl rfl (Nat.le_of_ble_eq_true rfl) rfl dX10_hour1_204 (fun gy566 egy567 => ?_)
                have hgy568 := up_s egy567
                have hFy569 : ∀ f, f ≠ 24 → f ≠ 32 → f ≠ 33 → f ≠ 35 → f ≠ 36 → f ≠ 37 → f ≠ 38 → f ≠ 47 → f ≠ 48 → f ≠ 49 → (uZ Fvy556 48 ((F 48) + 1)) f = F f := fun f n24 n32 n33 n35 n36 n37 n38 n47 n48 n49 => ((uZ_n _ _ n48).trans ((hFvy556 f n24 n32 n33 n35 n36 n37 n38).trans ((hFvy474 f n32 n33 n35 n36 n37).trans ((hFvy37 f n24 n32 n33 n35 n36 n37 n38).trans ((hFvy34 f n32 n33 n35 n36 n37).trans (hFvy32 f n24 n38))))))
                have hey570 : (uZ Fvy556 48 ((F 48) + 1)) 32 = Fvy556 32 := (fn rfl (by decide))
                have hey571 : (uZ Fvy556 48 ((F 48) + 1)) 35 = Fvy556 35 := (fn rfl (by decide))
                have hey572 : (uZ Fvy556 48 ((F 48) + 1)) 38 = Fvy556 38 := (fn rfl (by decide))
                have hey573 : (uZ Fvy556 48 ((F 48) + 1)) 32 = Fvy556 32 := (fn rfl (by decide))
                have hey574 : (uZ Fvy556 48 ((F 48) + 1)) 47 = F 47 := (fn ((hFvy556 47 (by decide) (by decide) (by decide) (by decide) (by decide) (by decide) (by decide)).trans ((hFvy474 47 (by decide) (by decide) (by decide) (by decide) (by decide)).trans ((hFvy37 47 (by decide) (by decide) (by decide) (by decide) (by decide) (by decide) (by decide)).trans ((hFvy34 47 (by decide) (by decide) (by decide) (by decide) (by decide)).trans (hFvy32 47 (by decide) (by decide)))))) (by decide))
                have hey575 : (uZ Fvy556 48 ((F 48) + 1)) 48 = (F 48) + 1 := (uZ_s _ _ _)
                have hey576 : (uZ Fvy556 48 ((F 48) + 1)) 49 = F 49 := (fn ((hFvy556 49 (by decide) (by decide) (by decide) (by decide) (by decide) (by decide) (by decide)).trans ((hFvy474 49 (by decide) (by decide) (by decide) (by decide) (by decide)).trans ((hFvy37 49 (by decide) (by decide) (by decide) (by decide) (by decide) (by decide) (by decide)).trans ((hFvy34 49 (by decide) (by decide) (by decide) (by decide) (by decide)).trans (hFvy32 49 (by decide) (by decide)))))) (by decide))
                have hfry578 : ∀ j, j ≠ (F 48).toNat → ry44 j = ai1 j := fun j n0 => (congrFun hvy45 _).trans ((uZ_n _ _ n0).trans (rfl))
                have hwy579 : ry44 ((F 48).toNat) = vy37 := (congrFun hvy45 _).trans (uZ_s _ _ _)
                have haky577 : ∀ k, k < 24 → -300 ≤ ry44 k ∧ ry44 k ≤ 100 := by
                  intro k hk
                  by_cases e : k = (F 48).toNat
                  · rw [e]; have hk0 := hai1 ((F 48).toNat) (by omega); omega
                  · have hk0 := hai1 k hk; rw [hfry578 k e]; exact hk0
                have hfry581 : ∀ j, j ≠ (F 48).toNat → ry466 j = fa1 j := fun j n0 => (congrFun hvy467 _).trans ((uZ_n _ _ n0).trans ((congrFun hvy55 _).trans ((uZ_n _ _ n0).trans (rfl))))
                have hfry582 : ∀ j, j ≠ (F 48).toNat → ry563 j = mu1 j := fun j n0 => (congrFun hvy564 _).trans ((uZ_n _ _ n0).trans ((congrFun hvy66 _).trans ((uZ_n _ _ n0).trans (rfl))))
                have hwy583 : ry466 ((F 48).toNat) = ((Fvy37 37) - 3) + 1 := (congrFun hvy467 _).trans (uZ_s _ _ _)
                have hwy584 : ry563 ((F 48).toNat) = vy556 := (congrFun hvy564 _).trans (uZ_s _ _ _)
                have haky580 : ∀ k, k < 24 → (0 ≤ ry466 k ∧ ry466 k ≤ 3) ∧ (0 ≤ ry563 k ∧ ry563 k ≤ 50) ∧ (ry466 k = 1 ∨ ry466 k = 2 → 1 ≤ ry563 k) := by
                  intro k hk
                  by_cases e : k = (F 48).toNat
                  · rw [e]; have hk0 := hfa1 ((F 48).toNat) (by omega); omega
                  · have hk0 := hfa1 k hk; rw [hfry581 k e]; rw [hfry582 k e]; exact hk0
                have hlay585 : ∀ s l : Nat, (s : Int) < (uZ Fvy556 48 ((F 48) + 1)) 47 → (l : Int) < mn1 s → lyT ly1 (84 * s + 7 * l) := fun s l a1 a2 => hly1 s l (by omega) a2
                have hgy586 := (hfvy32 (i + 16) (ne_o (i := i) (c := 16) (d := 0) rfl)).trans ha16
                have hgy587 := (hfvy34 (i + 16) (ne_o (i := i) (c := 16) (d := 0) rfl)).trans hgy586
                have hgy588 := (hfvy37 (i + 16) (ne_o (i := i) (c := 16) (d := 0) rfl)).trans hgy587
                have hgy589 := up_n egy42 hgy588 (ne_o (i := i) (c := 16) (d := 19) rfl)
                have hgy590 := up_n egy52 hgy589 (ne_o (i := i) (c := 16) (d := 20) rfl)
                have hgy591 := up_n egy63 hgy590 (ne_o (i := i) (c := 16) (d := 21) rfl)
                have hgy592 := up_n egy464 hgy591 (ne_o (i := i) (c := 16) (d := 20) rfl)
                have hgy593 := (hfvy474 (i + 16) (ne_o (i := i) (c := 16) (d := 0) rfl)).trans hgy592
                have hgy594 := (hfvy556 (i + 16) (ne_o (i := i) (c := 16) (d := 0) rfl)).trans hgy593
                have hgy595 := up_n egy561 hgy594 (ne_o (i := i) (c := 16) (d := 21) rfl)
                have hgy596 := up_n egy567 hgy595 (ne_o (i := i) (c := 16) (d := 0) rfl)
                have hgy597 := (hfvy32 (i + 17) (ne_o (i := i) (c := 17) (d := 0) rfl)).trans ha17
                have hgy598 := (hfvy34 (i + 17) (ne_o (i := i) (c := 17) (d := 0) rfl)).trans hgy597
                have hgy599 := (hfvy37 (i + 17) (ne_o (i := i) (c := 17) (d := 0) rfl)).trans hgy598
                have hgy600 := up_n egy42 hgy599 (ne_o (i := i) (c := 17) (d := 19) rfl)
                have hgy601 := up_n egy52 hgy600 (ne_o (i := i) (c := 17) (d := 20) rfl)
                have hgy602 := up_n egy63 hgy601 (ne_o (i := i) (c := 17) (d := 21) rfl)
                have hgy603 := up_n egy464 hgy602 (ne_o (i := i) (c := 17) (d := 20) rfl)
                have hgy604 := (hfvy474 (i + 17) (ne_o (i := i) (c := 17) (d := 0) rfl)).trans hgy603
                have hgy605 := (hfvy556 (i + 17) (ne_o (i := i) (c := 17) (d := 0) rfl)).trans hgy604
                have hgy606 := up_n egy561 hgy605 (ne_o (i := i) (c := 17) (d := 21) rfl)
                have hgy607 := up_n egy567 hgy606 (ne_o (i := i) (c := 17) (d := 0) rfl)
                have hgy608 := (hfvy32 (i + 18) (ne_o (i := i) (c := 18) (d := 0) rfl)).trans ha18
                have hgy609 := (hfvy34 (i + 18) (ne_o (i := i) (c := 18) (d := 0) rfl)).trans hgy608
                have hgy610 := (hfvy37 (i + 18) (ne_o (i := i) (c := 18) (d := 0) rfl)).trans hgy609
                have hgy611 := up_n egy42 hgy610 (ne_o (i := i) (c := 18) (d := 19) rfl)
                have hgy612 := up_n egy52 hgy611 (ne_o (i := i) (c := 18) (d := 20) rfl)
                have hgy613 := up_n egy63 hgy612 (ne_o (i := i) (c := 18) (d := 21) rfl)
                have hgy614 := up_n egy464 hgy613 (ne_o (i := i) (c := 18) (d := 20) rfl)
                have hgy615 := (hfvy474 (i + 18) (ne_o (i := i) (c := 18) (d := 0) rfl)).trans hgy614
                have hgy616 := (hfvy556 (i + 18) (ne_o (i := i) (c := 18) (d := 0) rfl)).trans hgy615
                have hgy617 := up_n egy561 hgy616 (ne_o (i := i) (c := 18) (d := 21) rfl)
                have hgy618 := up_n egy567 hgy617 (ne_o (i := i) (c := 18) (d := 0) rfl)
                have hgy619 := up_n egy52 hgy43 (ne_o (i := i) (c := 19) (d := 20) rfl)
                have hgy620 := up_n egy63 hgy619 (ne_o (i := i) (c := 19) (d := 21) rfl)
                have hgy621 := up_n egy464 hgy620 (ne_o (i := i) (c := 19) (d := 20) rfl)
                have hgy622 := (hfvy474 (i + 19) (ne_o (i := i) (c := 19) (d := 0) rfl)).trans hgy621
                have hgy623 := (hfvy556 (i + 19) (ne_o (i := i) (c := 19) (d := 0) rfl)).trans hgy622
                have hgy624 := up_n egy561 hgy623 (ne_o (i := i) (c := 19) (d := 21) rfl)
                have hgy625 := up_n egy567 hgy624 (ne_o (i := i) (c := 19) (d := 0) rfl)
                have hgy626 := (hfvy556 (i + 20) (ne_o (i := i) (c := 20) (d := 0) rfl)).trans hgy475
                have hgy627 := up_n egy561 hgy626 (ne_o (i := i) (c := 20) (d := 21) rfl)
                have hgy628 := up_n egy567 hgy627 (ne_o (i := i) (c := 20) (d := 0) rfl)
                have hgy629 := up_n egy567 hgy562 (ne_o (i := i) (c := 21) (d := 0) rfl)
                have hgy630 := (hfvy32 (i + 22) (ne_o (i := i) (c := 22) (d := 0) rfl)).trans ha22
                have hgy631 := (hfvy34 (i + 22) (ne_o (i := i) (c := 22) (d := 0) rfl)).trans hgy630
                have hgy632 := (hfvy37 (i + 22) (ne_o (i := i) (c := 22) (d := 0) rfl)).trans hgy631
                have hgy633 := up_n egy42 hgy632 (ne_o (i := i) (c := 22) (d := 19) rfl)
                have hgy634 := up_n egy52 hgy633 (ne_o (i := i) (c := 22) (d := 20) rfl)
                have hgy635 := up_n egy63 hgy634 (ne_o (i := i) (c := 22) (d := 21) rfl)
                have hgy636 := up_n egy464 hgy635 (ne_o (i := i) (c := 22) (d := 20) rfl)
                have hgy637 := (hfvy474 (i + 22) (ne_o (i := i) (c := 22) (d := 0) rfl)).trans hgy636
                have hgy638 := (hfvy556 (i + 22) (ne_o (i := i) (c := 22) (d := 0) rfl)).trans hgy637
                have hgy639 := up_n egy561 hgy638 (ne_o (i := i) (c := 22) (d := 21) rfl)
                have hgy640 := up_n egy567 hgy639 (ne_o (i := i) (c := 22) (d := 0) rfl)
                have hgy641 := (hfvy32 (i + 23) (ne_o (i := i) (c := 23) (d := 0) rfl)).trans ha23
                have hgy642 := (hfvy34 (i + 23) (ne_o (i := i) (c := 23) (d := 0) rfl)).trans hgy641
                have hgy643 := (hfvy37 (i + 23) (ne_o (i := i) (c := 23) (d := 0) rfl)).trans hgy642
                have hgy644 := up_n egy42 hgy643 (ne_o (i := i) (c := 23) (d := 19) rfl)
                have hgy645 := up_n egy52 hgy644 (ne_o (i := i) (c := 23) (d := 20) rfl)
                have hgy646 := up_n egy63 hgy645 (ne_o (i := i) (c := 23) (d := 21) rfl)
                have hgy647 := up_n egy464 hgy646 (ne_o (i := i) (c := 23) (d := 20) rfl)
                have hgy648 := (hfvy474 (i + 23) (ne_o (i := i) (c := 23) (d := 0) rfl)).trans hgy647
                have hgy649 := (hfvy556 (i + 23) (ne_o (i := i) (c := 23) (d := 0) rfl)).trans hgy648
                have hgy650 := up_n egy561 hgy649 (ne_o (i := i) (c := 23) (d := 21) rfl)
                have hgy651 := up_n egy567 hgy650 (ne_o (i := i) (c := 23) (d := 0) rfl)
                have htxy652 : okTx cs gy566 i (uZ Fvy556 48 ((F 48) + 1)) := ⟨_, _, _, _, _, _, _, _, ⟨hgy596, hgy607, hgy618, hgy625, hgy628, hgy629, hgy640, hgy651⟩, ⟨⟨by omega, by omega, by omega⟩, hop1, hmn1, haky577, haky580, htb1, hlay585⟩⟩
                exact z_vret C hr hlk dX10_hour1_207 (by decide) (by decide) ⟨rfl, rfl, rfl, ⟨_, hgy568, (RD.put hdvy556 (by decide)), by omega, by omega, hFy569, htxy652⟩, fun j j1 j2 => by rw [egy567, va_up_ne _ _ (by omega)]; rw [egy561, va_up_ne _ _ (by omega)]; rw [hfvy556 _ (by omega)]; rw [hfvy474 _ (by omega)]; rw [egy464, va_up_ne _ _ (by omega)]; rw [egy63, va_up_ne _ _ (by omega)]; rw [egy52, va_up_ne _ _ (by omega)]; rw [egy42, va_up_ne _ _ (by omega)]; rw [hfvy37 _ (by omega)]; rw [hfvy34 _ (by omega)]; rw [hfvy32 _ (by omega)]⟩
            · clear hqvy458
              refine z_if_eq (tgt := 197) C dX10_hour1_144 (by decide) (by omega) (fun _ => ?_) (fun h => absurd h (by omega))
              refine z_aload_n C 2 dX10_hour1_197 rfl ?_
              refine z_dup C dX10_hour1_198 rfl ?_
              refine z_get (v := .int (zI (F 48))) C (by omega) hay1 hgy67 rfl inA_X10 48 (by decide) q_1507 rfl (fv (F := Fvy37) (f := 48) ((hFvy37 48 (by decide) (by decide) (by decide) (by decide) (by decide) (by decide) (by decide)).trans ((hFvy34 48 (by decide) (by decide) (by decide) (by decide) (by decide)).trans (hFvy32 48 (by decide) (by decide))))) dX10_hour1_199 ?_
              refine z_iconst (z := 1) C dX10_hour1_202 rfl ?_
              refine z_iadd C dX10_hour1_203 ?_
              refine z_put (fs' := mF ad (i) (uZ Fvy37 48 ((F 48) + 1))) C (by omega) hay1 hgy67 tyX10 tyX10_ok nmX10 rfl inA_X10 48 (by decide) q_1507 rfl rfl rfl rfl (Nat.le_of_ble_eq_true rfl) rfl dX10_hour1_204 (fun gy653 egy654 => ?_)
              have hgy655 := up_s egy654
              have hFy656 : ∀ f, f ≠ 24 → f ≠ 32 → f ≠ 33 → f ≠ 35 → f ≠ 36 → f ≠ 37 → f ≠ 38 → f ≠ 47 → f ≠ 48 → f ≠ 49 → (uZ Fvy37 48 ((F 48) + 1)) f = F f := fun f n24 n32 n33 n35 n36 n37 n38 n47 n48 n49 => ((uZ_n _ _ n48).trans ((hFvy37 f n24 n32 n33 n35 n36 n37 n38).trans ((hFvy34 f n32 n33 n35 n36 n37).trans (hFvy32 f n24 n38))))
              have hey657 : (uZ Fvy37 48 ((F 48) + 1)) 32 = Fvy37 32 := (fn rfl (by decide))
              have hey658 : (uZ Fvy37 48 ((F 48) + 1)) 35 = Fvy37 35 := (fn rfl (by decide))
              have hey659 : (uZ Fvy37 48 ((F 48) + 1)) 38 = 0 := (fn hxvy37 (by decide))
              have hey660 : (uZ Fvy37 48 ((F 48) + 1)) 32 = Fvy37 32 := (fn rfl (by decide))
              have hey661 : (uZ Fvy37 48 ((F 48) + 1)) 47 = F 47 := (fn ((hFvy37 47 (by decide) (by decide) (by decide) (by decide) (by decide) (by decide) (by decide)).trans ((hFvy34 47 (by decide) (by decide) (by decide) (by decide) (by decide)).trans (hFvy32 47 (by decide) (by decide)))) (by decide))
              have hey662 : (uZ Fvy37 48 ((F 48) + 1)) 48 = (F 48) + 1 := (uZ_s _ _ _)
              have hey663 : (uZ Fvy37 48 ((F 48) + 1)) 49 = F 49 := (fn ((hFvy37 49 (by decide) (by decide) (by decide) (by decide) (by decide) (by decide) (by decide)).trans ((hFvy34 49 (by decide) (by decide) (by decide) (by decide) (by decide)).trans (hFvy32 49 (by decide) (by decide)))) (by decide))
              have hfry665 : ∀ j, j ≠ (F 48).toNat → ry44 j = ai1 j := fun j n0 => (congrFun hvy45 _).trans ((uZ_n _ _ n0).trans (rfl))
              have hwy666 : ry44 ((F 48).toNat) = vy37 := (congrFun hvy45 _).trans (uZ_s _ _ _)
              have haky664 : ∀ k, k < 24 → -300 ≤ ry44 k ∧ ry44 k ≤ 100 := by
                intro k hk
                by_cases e : k = (F 48).toNat
                · rw [e]; have hk0 := hai1 ((F 48).toNat) (by omega); omega
                · have hk0 := hai1 k hk; rw [hfry665 k e]; exact hk0
              have hfry668 : ∀ j, j ≠ (F 48).toNat → ry54 j = fa1 j := fun j n0 => (congrFun hvy55 _).trans ((uZ_n _ _ n0).trans (rfl))
              have hfry669 : ∀ j, j ≠ (F 48).toNat → ry65 j = mu1 j := fun j n0 => (congrFun hvy66 _).trans ((uZ_n _ _ n0).trans (rfl))
              have hwy670 : ry54 ((F 48).toNat) = 0 := (congrFun hvy55 _).trans (uZ_s _ _ _)
              have hwy671 : ry65 ((F 48).toNat) = 0 := (congrFun hvy66 _).trans (uZ_s _ _ _)
              have haky667 : ∀ k, k < 24 → (0 ≤ ry54 k ∧ ry54 k ≤ 3) ∧ (0 ≤ ry65 k ∧ ry65 k ≤ 50) ∧ (ry54 k = 1 ∨ ry54 k = 2 → 1 ≤ ry65 k) := by
                intro k hk
                by_cases e : k = (F 48).toNat
                · rw [e]; have hk0 := hfa1 ((F 48).toNat) (by omega); omega
                · have hk0 := hfa1 k hk; rw [hfry668 k e]; rw [hfry669 k e]; exact hk0
              have hlay672 : ∀ s l : Nat, (s : Int) < (uZ Fvy37 48 ((F 48) + 1)) 47 → (l : Int) < mn1 s → lyT ly1 (84 * s + 7 * l) := fun s l a1 a2 => hly1 s l (by omega) a2
              have hgy673 := (hfvy32 (i + 16) (ne_o (i := i) (c := 16) (d := 0) rfl)).trans ha16
              have hgy674 := (hfvy34 (i + 16) (ne_o (i := i) (c := 16) (d := 0) rfl)).trans hgy673
              have hgy675 := (hfvy37 (i + 16) (ne_o (i := i) (c := 16) (d := 0) rfl)).trans hgy674
              have hgy676 := up_n egy42 hgy675 (ne_o (i := i) (c := 16) (d := 19) rfl)
              have hgy677 := up_n egy52 hgy676 (ne_o (i := i) (c := 16) (d := 20) rfl)
              have hgy678 := up_n egy63 hgy677 (ne_o (i := i) (c := 16) (d := 21) rfl)
              have hgy679 := up_n egy654 hgy678 (ne_o (i := i) (c := 16) (d := 0) rfl)
              have hgy680 := (hfvy32 (i + 17) (ne_o (i := i) (c := 17) (d := 0) rfl)).trans ha17
              have hgy681 := (hfvy34 (i + 17) (ne_o (i := i) (c := 17) (d := 0) rfl)).trans hgy680
              have hgy682 := (hfvy37 (i + 17) (ne_o (i := i) (c := 17) (d := 0) rfl)).trans hgy681
              have hgy683 := up_n egy42 hgy682 (ne_o (i := i) (c := 17) (d := 19) rfl)
              have hgy684 := up_n egy52 hgy683 (ne_o (i := i) (c := 17) (d := 20) rfl)
              have hgy685 := up_n egy63 hgy684 (ne_o (i := i) (c := 17) (d := 21) rfl)
              have hgy686 := up_n egy654 hgy685 (ne_o (i := i) (c := 17) (d := 0) rfl)
              have hgy687 := (hfvy32 (i + 18) (ne_o (i := i) (c := 18) (d := 0) rfl)).trans ha18
              have hgy688 := (hfvy34 (i + 18) (ne_o (i := i) (c := 18) (d := 0) rfl)).trans hgy687
              have hgy689 := (hfvy37 (i + 18) (ne_o (i := i) (c := 18) (d := 0) rfl)).trans hgy688
              have hgy690 := up_n egy42 hgy689 (ne_o (i := i) (c := 18) (d := 19) rfl)
              have hgy691 := up_n egy52 hgy690 (ne_o (i := i) (c := 18) (d := 20) rfl)
              have hgy692 := up_n egy63 hgy691 (ne_o (i := i) (c := 18) (d := 21) rfl)
              have hgy693 := up_n egy654 hgy692 (ne_o (i := i) (c := 18) (d := 0) rfl)
              have hgy694 := up_n egy52 hgy43 (ne_o (i := i) (c := 19) (d := 20) rfl)
              have hgy695 := up_n egy63 hgy694 (ne_o (i := i) (c := 19) (d := 21) rfl)
              have hgy696 := up_n egy654 hgy695 (ne_o (i := i) (c := 19) (d := 0) rfl)
              have hgy697 := up_n egy63 hgy53 (ne_o (i := i) (c := 20) (d := 21) rfl)
              have hgy698 := up_n egy654 hgy697 (ne_o (i := i) (c := 20) (d := 0) rfl)
              have hgy699 := up_n egy654 hgy64 (ne_o (i := i) (c := 21) (d := 0) rfl)
              have hgy700 := (hfvy32 (i + 22) (ne_o (i := i) (c := 22) (d := 0) rfl)).trans ha22
              have hgy701 := (hfvy34 (i + 22) (ne_o (i := i) (c := 22) (d := 0) rfl)).trans hgy700
              have hgy702 := (hfvy37 (i + 22) (ne_o (i := i) (c := 22) (d := 0) rfl)).trans hgy701
              have hgy703 := up_n egy42 hgy702 (ne_o (i := i) (c := 22) (d := 19) rfl)
              have hgy704 := up_n egy52 hgy703 (ne_o (i := i) (c := 22) (d := 20) rfl)
              have hgy705 := up_n egy63 hgy704 (ne_o (i := i) (c := 22) (d := 21) rfl)
              have hgy706 := up_n egy654 hgy705 (ne_o (i := i) (c := 22) (d := 0) rfl)
              have hgy707 := (hfvy32 (i + 23) (ne_o (i := i) (c := 23) (d := 0) rfl)).trans ha23
              have hgy708 := (hfvy34 (i + 23) (ne_o (i := i) (c := 23) (d := 0) rfl)).trans hgy707
              have hgy709 := (hfvy37 (i + 23) (ne_o (i := i) (c := 23) (d := 0) rfl)).trans hgy708
              have hgy710 := up_n egy42 hgy709 (ne_o (i := i) (c := 23) (d := 19) rfl)
              have hgy711 := up_n egy52 hgy710 (ne_o (i := i) (c := 23) (d := 20) rfl)
              have hgy712 := up_n egy63 hgy711 (ne_o (i := i) (c := 23) (d := 21) rfl)
              have hgy713 := up_n egy654 hgy712 (ne_o (i := i) (c := 23) (d := 0) rfl)
              have htxy714 : okTx cs gy653 i (uZ Fvy37 48 ((F 48) + 1)) := ⟨_, _, _, _, _, _, _, _, ⟨hgy679, hgy686, hgy693, hgy696, hgy698, hgy699, hgy706, hgy713⟩, ⟨⟨by omega, by omega, by omega⟩, hop1, hmn1, haky664, haky667, htb1, hlay672⟩⟩
              exact z_vret C hr hlk dX10_hour1_207 (by decide) (by decide) ⟨rfl, rfl, rfl, ⟨_, hgy655, (RD.put hdvy37 (by decide)), by omega, by omega, hFy656, htxy714⟩, fun j j1 j2 => by rw [egy654, va_up_ne _ _ (by omega)]; rw [egy63, va_up_ne _ _ (by omega)]; rw [egy52, va_up_ne _ _ (by omega)]; rw [egy42, va_up_ne _ _ (by omega)]; rw [hfvy37 _ (by omega)]; rw [hfvy34 _ (by omega)]; rw [hfvy32 _ (by omega)]⟩
      · clear hsvy37
        have hpvy37 : 1 ≤ Fvy37 38 := by omega
        clear hxvy37
        refine z_istore_n (lv' := [(2, .int (zI (vy37))), (1, .int (zI (0))), (0, .ref (ad i))]) C dX10_hour1_75 rfl (by decide) rfl ?_
        refine z_aload_n C 2 dX10_hour1_76 rfl ?_
        refine z_get (v := .int (zI (Fvy37 38))) C (by omega) hay1 hcvy37 rfl inA_X10 38 (by decide) q_1497 rfl (fv (F := Fvy37) (f := 38) rfl) dX10_hour1_77 ?_
        refine z_if_eq (tgt := 84) C dX10_hour1_80 (by decide) (by omega) (fun h => absurd h (by omega)) (fun _ => ?_)
        have hFy715 : ∀ f, f ≠ 24 → f ≠ 32 → f ≠ 33 → f ≠ 35 → f ≠ 36 → f ≠ 37 → f ≠ 38 → f ≠ 47 → f ≠ 48 → f ≠ 49 → Fvy37 f = F f := fun f n24 n32 n33 n35 n36 n37 n38 n47 n48 n49 => ((hFvy37 f n24 n32 n33 n35 n36 n37 n38).trans ((hFvy34 f n32 n33 n35 n36 n37).trans (hFvy32 f n24 n38)))
        have hey716 : Fvy37 32 = Fvy37 32 := rfl
        have hey717 : Fvy37 35 = Fvy37 35 := rfl
        have hey718 : Fvy37 38 = Fvy37 38 := rfl
        have hey719 : Fvy37 32 = Fvy37 32 := rfl
        have hey720 : Fvy37 47 = F 47 := ((hFvy37 47 (by decide) (by decide) (by decide) (by decide) (by decide) (by decide) (by decide)).trans ((hFvy34 47 (by decide) (by decide) (by decide) (by decide) (by decide)).trans (hFvy32 47 (by decide) (by decide))))
        have hey721 : Fvy37 48 = F 48 := ((hFvy37 48 (by decide) (by decide) (by decide) (by decide) (by decide) (by decide) (by decide)).trans ((hFvy34 48 (by decide) (by decide) (by decide) (by decide) (by decide)).trans (hFvy32 48 (by decide) (by decide))))
        have hey722 : Fvy37 49 = F 49 := ((hFvy37 49 (by decide) (by decide) (by decide) (by decide) (by decide) (by decide) (by decide)).trans ((hFvy34 49 (by decide) (by decide) (by decide) (by decide) (by decide)).trans (hFvy32 49 (by decide) (by decide))))
        have hlay724 : ∀ s l : Nat, (s : Int) < Fvy37 47 → (l : Int) < mn1 s → lyT ly1 (84 * s + 7 * l) := fun s l a1 a2 => hly1 s l (by omega) a2
        have hgy725 := (hfvy32 (i + 16) (ne_o (i := i) (c := 16) (d := 0) rfl)).trans ha16
        have hgy726 := (hfvy34 (i + 16) (ne_o (i := i) (c := 16) (d := 0) rfl)).trans hgy725
        have hgy727 := (hfvy37 (i + 16) (ne_o (i := i) (c := 16) (d := 0) rfl)).trans hgy726
        have hgy728 := (hfvy32 (i + 17) (ne_o (i := i) (c := 17) (d := 0) rfl)).trans ha17
        have hgy729 := (hfvy34 (i + 17) (ne_o (i := i) (c := 17) (d := 0) rfl)).trans hgy728
        have hgy730 := (hfvy37 (i + 17) (ne_o (i := i) (c := 17) (d := 0) rfl)).trans hgy729
        have hgy731 := (hfvy32 (i + 18) (ne_o (i := i) (c := 18) (d := 0) rfl)).trans ha18
        have hgy732 := (hfvy34 (i + 18) (ne_o (i := i) (c := 18) (d := 0) rfl)).trans hgy731
        have hgy733 := (hfvy37 (i + 18) (ne_o (i := i) (c := 18) (d := 0) rfl)).trans hgy732
        have hgy734 := (hfvy32 (i + 19) (ne_o (i := i) (c := 19) (d := 0) rfl)).trans ha19
        have hgy735 := (hfvy34 (i + 19) (ne_o (i := i) (c := 19) (d := 0) rfl)).trans hgy734
        have hgy736 := (hfvy37 (i + 19) (ne_o (i := i) (c := 19) (d := 0) rfl)).trans hgy735
        have hgy737 := (hfvy32 (i + 20) (ne_o (i := i) (c := 20) (d := 0) rfl)).trans ha20
        have hgy738 := (hfvy34 (i + 20) (ne_o (i := i) (c := 20) (d := 0) rfl)).trans hgy737
        have hgy739 := (hfvy37 (i + 20) (ne_o (i := i) (c := 20) (d := 0) rfl)).trans hgy738
        have hgy740 := (hfvy32 (i + 21) (ne_o (i := i) (c := 21) (d := 0) rfl)).trans ha21
        have hgy741 := (hfvy34 (i + 21) (ne_o (i := i) (c := 21) (d := 0) rfl)).trans hgy740
        have hgy742 := (hfvy37 (i + 21) (ne_o (i := i) (c := 21) (d := 0) rfl)).trans hgy741
        have hgy743 := (hfvy32 (i + 22) (ne_o (i := i) (c := 22) (d := 0) rfl)).trans ha22
        have hgy744 := (hfvy34 (i + 22) (ne_o (i := i) (c := 22) (d := 0) rfl)).trans hgy743
        have hgy745 := (hfvy37 (i + 22) (ne_o (i := i) (c := 22) (d := 0) rfl)).trans hgy744
        have hgy746 := (hfvy32 (i + 23) (ne_o (i := i) (c := 23) (d := 0) rfl)).trans ha23
        have hgy747 := (hfvy34 (i + 23) (ne_o (i := i) (c := 23) (d := 0) rfl)).trans hgy746
        have hgy748 := (hfvy37 (i + 23) (ne_o (i := i) (c := 23) (d := 0) rfl)).trans hgy747
        have htxy749 : okTx cs gvy37 i Fvy37 := ⟨_, _, _, _, _, _, _, _, ⟨hgy727, hgy730, hgy733, hgy736, hgy739, hgy742, hgy745, hgy748⟩, ⟨⟨by omega, by omega, by omega⟩, hop1, hmn1, hai1, hfa1, htb1, hlay724⟩⟩
        exact z_vret C hr hlk dX10_hour1_83 (by decide) (by decide) ⟨rfl, rfl, rfl, ⟨_, hcvy37, hdvy37, by omega, by omega, hFy715, htxy749⟩, fun j j1 j2 => by rw [hfvy37 _ (by omega)]; rw [hfvy34 _ (by omega)]; rw [hfvy32 _ (by omega)]⟩
    · refine z_aload_n C 0 dX10_hour1_35 rfl ?_
      refine z_get (v := .int (zI (Fvy34 36))) C (by omega) hay1 hcvy34 rfl inA_X10 36 (by decide) q_1495 rfl (fv (F := Fvy34) (f := 36) rfl) dX10_hour1_36 ?_
      refine z_bipush (z := 45) C dX10_hour1_39 (by decide) ?_
      refine z_icmp_ne (tgt := 48) C dX10_hour1_41 (by decide) (by omega) (by omega) (fun hby750 => ?_) (fun hby750 => ?_)
      · refine z_iconst (z := 0) C dX10_hour1_48 rfl ?_
        refine z_istore_n (lv' := [(1, .int (zI (0))), (0, .ref (ad i))]) C dX10_hour1_49 rfl (by decide) rfl ?_
        refine z_iload_n C 0 dX10_hour1_50 rfl ?_
        refine z_if_eq (tgt := 58) C dX10_hour1_51 (by decide) (by omega) (fun _ => ?_) (fun h => absurd h (by omega))
        refine z_aload_n C 1 dX10_hour1_58 rfl ?_
        refine z_iconst (z := 0) C dX10_hour1_59 rfl ?_
        refine z_iload_n C 0 dX10_hour1_60 rfl ?_
        refine z_if_eq (tgt := 70) C dX10_hour1_61 (by decide) (by omega) (fun _ => ?_) (fun h => absurd h (by omega))
        refine z_bipush (z := 100) C dX10_hour1_70 (by decide) ?_
        have hgy751 := (hfvy34 (i + 13) (ne_o (i := i) (c := 13) (d := 0) rfl)).trans hgy33
        refine z_cV (As := [.int (zI (0)), .int (zI (100))]) (rest := []) (ci := 12) C (c_X10_number l D A cs tt N ad _ i hN _ hcvy34 _ hgy751 htp hdvy34 (0) (by omega) (100) (by omega)) (by omega) hay1 hcvy34 rfl rfl mv_yX10_number q_1682 hd_yX10_number (by decide) (Nat.le_of_ble_eq_true rfl) (by decide) dX10_hour1_72 rfl (kI0 fun vy752 gvy752 hvy752 => ?_)
        obtain ⟨hrvy752, ⟨Fvy752, hcvy752, hdvy752, hlvy752, hsvy752, hFvy752⟩, hfvy752⟩ := hvy752
        rw [show Fvy34 32 = Fvy34 32 from rfl] at hlvy752
        rw [show Fvy34 38 = 0 from ((hFvy34 38 (by decide) (by decide) (by decide) (by decide) (by decide)).trans e38vy32), show Fvy34 35 = Fvy34 35 from rfl] at hsvy752
        have h34vy752 : Fvy752 34 = F 34 := (hFvy752 34 (by decide) (by decide) (by decide) (by decide) (by decide) (by decide) (by decide)).trans (((hFvy34 34 (by decide) (by decide) (by decide) (by decide) (by decide)).trans (hFvy32 34 (by decide) (by decide))))
        obtain ⟨d32vy752, -, d35vy752, d36vy752, -, d37vy752, d38vy752⟩ := id hdvy752
        rcases (show Fvy752 38 = 0 ∨ Fvy752 38 ≠ 0 by omega) with hxvy752 | hxvy752
        · have hqvy752 := hsvy752 hxvy752
          clear hsvy752
          refine z_istore_n (lv' := [(2, .int (zI (vy752))), (1, .int (zI (0))), (0, .ref (ad i))]) C dX10_hour1_75 rfl (by decide) rfl ?_
          refine z_aload_n C 2 dX10_hour1_76 rfl ?_
          refine z_get (v := .int (zI (0))) C (by omega) hay1 hcvy752 rfl inA_X10 38 (by decide) q_1497 rfl (fv (F := Fvy752) (f := 38) hxvy752) dX10_hour1_77 ?_
          refine z_if_eq (tgt := 84) C dX10_hour1_80 (by decide) (by omega) (fun _ => ?_) (fun h => absurd h (by omega))
          refine z_aload_n C 2 dX10_hour1_84 rfl ?_
          refine z_get (v := .ref (ad (i + 19))) C (by omega) hay1 hcvy752 rfl inA_X10 42 (by decide) q_1501 rfl rfl dX10_hour1_85 ?_
          refine z_aload_n C 2 dX10_hour1_88 rfl ?_
          refine z_get (v := .int (zI (F 48))) C (by omega) hay1 hcvy752 rfl inA_X10 48 (by decide) q_1507 rfl (fv (F := Fvy752) (f := 48) ((hFvy752 48 (by decide) (by decide) (by decide) (by decide) (by decide) (by decide) (by decide)).trans ((hFvy34 48 (by decide) (by decide) (by decide) (by decide) (by decide)).trans (hFvy32 48 (by decide) (by decide))))) dX10_hour1_89 ?_
          refine z_iload_n C 1 dX10_hour1_92 rfl ?_
          refine z_if_eq (tgt := 101) C dX10_hour1_93 (by decide) (by omega) (fun _ => ?_) (fun h => absurd h (by omega))
          refine z_iload_n C 0 dX10_hour1_101 rfl ?_
          have hgy753 := (hfvy32 (i + 19) (ne_o (i := i) (c := 19) (d := 0) rfl)).trans ha19
          have hgy754 := (hfvy34 (i + 19) (ne_o (i := i) (c := 19) (d := 0) rfl)).trans hgy753
          have hgy755 := (hfvy752 (i + 19) (ne_o (i := i) (c := 19) (d := 0) rfl)).trans hgy754
          refine z_iast C (by omega) hay6 hgy755 ((F 48).toNat) (by omega) (by omega) (by decide) dX10_hour1_102 (fun gy756 egy757 => ?_)
          have hgy758 := up_s egy757
          obtain ⟨ry759, hvy760⟩ : ∃ rZ9 : Nat → Int, rZ9 = uZ ai1 ((F 48).toNat) (vy752) := ⟨_, rfl⟩
          rw [← hvy760] at hgy758
          refine z_aload_n C 2 dX10_hour1_103 rfl ?_
          have hgy761 := up_n egy757 hcvy752 (ne_o (i := i) (c := 0) (d := 19) rfl)
          refine z_get (v := .ref (ad (i + 20))) C (by omega) hay1 hgy761 rfl inA_X10 43 (by decide) q_1502 rfl rfl dX10_hour1_104 ?_
          refine z_aload_n C 2 dX10_hour1_107 rfl ?_
          refine z_get (v := .int (zI (F 48))) C (by omega) hay1 hgy761 rfl inA_X10 48 (by decide) q_1507 rfl (fv (F := Fvy752) (f := 48) ((hFvy752 48 (by decide) (by decide) (by decide) (by decide) (by decide) (by decide) (by decide)).trans ((hFvy34 48 (by decide) (by decide) (by decide) (by decide) (by decide)).trans (hFvy32 48 (by decide) (by decide))))) dX10_hour1_108 ?_
          refine z_iconst (z := 0) C dX10_hour1_111 rfl ?_
          have hgy762 := (hfvy32 (i + 20) (ne_o (i := i) (c := 20) (d := 0) rfl)).trans ha20
          have hgy763 := (hfvy34 (i + 20) (ne_o (i := i) (c := 20) (d := 0) rfl)).trans hgy762
          have hgy764 := (hfvy752 (i + 20) (ne_o (i := i) (c := 20) (d := 0) rfl)).trans hgy763
          have hgy765 := up_n egy757 hgy764 (ne_o (i := i) (c := 20) (d := 19) rfl)
          refine z_iast C (by omega) hay7 hgy765 ((F 48).toNat) (by omega) (by omega) (by decide) dX10_hour1_112 (fun gy766 egy767 => ?_)
          have hgy768 := up_s egy767
          obtain ⟨ry769, hvy770⟩ : ∃ rZ9 : Nat → Int, rZ9 = uZ fa1 ((F 48).toNat) (0) := ⟨_, rfl⟩
          rw [← hvy770] at hgy768
          refine z_aload_n C 2 dX10_hour1_113 rfl ?_
          have hgy771 := up_n egy767 hgy761 (ne_o (i := i) (c := 0) (d := 20) rfl)
          refine z_get (v := .ref (ad (i + 21))) C (by omega) hay1 hgy771 rfl inA_X10 44 (by decide) q_1503 rfl rfl dX10_hour1_114 ?_
          refine z_aload_n C 2 dX10_hour1_117 rfl ?_
          refine z_get (v := .int (zI (F 48))) C (by omega) hay1 hgy771 rfl inA_X10 48 (by decide) q_1507 rfl (fv (F := Fvy752) (f := 48) ((hFvy752 48 (by decide) (by decide) (by decide) (by decide) (by decide) (by decide) (by decide)).trans ((hFvy34 48 (by decide) (by decide) (by decide) (by decide) (by decide)).trans (hFvy32 48 (by decide) (by decide))))) dX10_hour1_118 ?_
          refine z_iconst (z := 0) C dX10_hour1_121 rfl ?_
          have hgy772 := (hfvy32 (i + 21) (ne_o (i := i) (c := 21) (d := 0) rfl)).trans ha21
          have hgy773 := (hfvy34 (i + 21) (ne_o (i := i) (c := 21) (d := 0) rfl)).trans hgy772
          have hgy774 := (hfvy752 (i + 21) (ne_o (i := i) (c := 21) (d := 0) rfl)).trans hgy773
          have hgy775 := up_n egy757 hgy774 (ne_o (i := i) (c := 21) (d := 19) rfl)
          have hgy776 := up_n egy767 hgy775 (ne_o (i := i) (c := 21) (d := 20) rfl)
          refine z_iast C (by omega) hay8 hgy776 ((F 48).toNat) (by omega) (by omega) (by decide) dX10_hour1_122 (fun gy777 egy778 => ?_)
          have hgy779 := up_s egy778
          obtain ⟨ry780, hvy781⟩ : ∃ rZ9 : Nat → Int, rZ9 = uZ mu1 ((F 48).toNat) (0) := ⟨_, rfl⟩
          rw [← hvy781] at hgy779
          refine z_aload_n C 2 dX10_hour1_123 rfl ?_
          refine z_iconst (z := 3) C dX10_hour1_124 rfl ?_
          have hgy782 := up_n egy778 hgy771 (ne_o (i := i) (c := 0) (d := 21) rfl)
          have hey784 : Fvy752 38 = 0 := hxvy752
          have hey785 : Fvy752 35 = Fvy752 35 := rfl
          have hey786 : Fvy752 37 = Fvy752 37 := rfl
          refine z_cV (As := [.int (zI (3))]) (rest := []) (ci := 12) C (c_X10_is l D A cs tt N ad _ i hN _ hgy782 hdvy752 (3) (by omega)) (by omega) hay1 hgy782 rfl rfl mv_yX10_is q_1705 hd_yX10_is (by decide) (Nat.le_of_ble_eq_true rfl) (by decide) dX10_hour1_125 rfl (kI0 fun vy783 gvy783 hvy783 => ?_)
          rw [hey784, hey785, hey786] at hvy783
          clear hey784 hey785 hey786
          obtain ⟨hrvy783, hqvy783, rfl⟩ := hvy783
          rcases (show vy783 = 1 ∨ vy783 = 0 by omega) with rfl | rfl
          · have hkvy783 := hqvy783 rfl
            clear hqvy783
            refine z_if_ne (tgt := 147) C dX10_hour1_128 (by decide) (by omega) (fun _ => ?_) (fun h => absurd h (by omega))
            refine z_aload_n C 2 dX10_hour1_147 rfl ?_
            refine z_get (v := .ref (ad (i + 20))) C (by omega) hay1 hgy782 rfl inA_X10 43 (by decide) q_1502 rfl rfl dX10_hour1_148 ?_
            refine z_aload_n C 2 dX10_hour1_151 rfl ?_
            refine z_get (v := .int (zI (F 48))) C (by omega) hay1 hgy782 rfl inA_X10 48 (by decide) q_1507 rfl (fv (F := Fvy752) (f := 48) ((hFvy752 48 (by decide) (by decide) (by decide) (by decide) (by decide) (by decide) (by decide)).trans ((hFvy34 48 (by decide) (by decide) (by decide) (by decide) (by decide)).trans (hFvy32 48 (by decide) (by decide))))) dX10_hour1_152 ?_
            refine z_aload_n C 2 dX10_hour1_155 rfl ?_
            refine z_get (v := .int (zI (Fvy752 37))) C (by omega) hay1 hgy782 rfl inA_X10 37 (by decide) q_1496 rfl (fv (F := Fvy752) (f := 37) rfl) dX10_hour1_156 ?_
            refine z_iconst (z := 3) C dX10_hour1_159 rfl ?_
            refine z_isub C dX10_hour1_160 ?_
            refine z_iconst (z := 1) C dX10_hour1_161 rfl ?_
            refine z_iadd C dX10_hour1_162 ?_
            have hgy787 := up_n egy778 hgy768 (ne_o (i := i) (c := 20) (d := 21) rfl)
            refine z_iast C (by omega) hay7 hgy787 ((F 48).toNat) (by omega) (by omega) (by decide) dX10_hour1_163 (fun gy788 egy789 => ?_)
            have hgy790 := up_s egy789
            obtain ⟨ry791, hvy792⟩ : ∃ rZ9 : Nat → Int, rZ9 = uZ ry769 ((F 48).toNat) (((Fvy752 37) - 3) + 1) := ⟨_, rfl⟩
            rw [← hvy792] at hgy790
            refine z_aload_n C 2 dX10_hour1_164 rfl ?_
            have hgy793 := up_n egy789 hgy782 (ne_o (i := i) (c := 0) (d := 20) rfl)
            have hgy794 := (hfvy752 (i + 13) (ne_o (i := i) (c := 13) (d := 0) rfl)).trans hgy751
            have hgy795 := up_n egy757 hgy794 (ne_o (i := i) (c := 13) (d := 19) rfl)
            have hgy796 := up_n egy767 hgy795 (ne_o (i := i) (c := 13) (d := 20) rfl)
            have hgy797 := up_n egy778 hgy796 (ne_o (i := i) (c := 13) (d := 21) rfl)
            have hgy798 := up_n egy789 hgy797 (ne_o (i := i) (c := 13) (d := 20) rfl)
            refine z_cV (As := []) (rest := []) (ci := 12) C (c_X10_go l D A cs tt N ad _ i hN _ hgy793 _ hgy798 htp hdvy752) (by omega) hay1 hgy793 rfl rfl mv_yX10_go q_1652 hd_yX10_go (by decide) (Nat.le_of_ble_eq_true rfl) (by decide) dX10_hour1_165 rfl (kV0 fun gvy799 hvy799 => ?_)
            obtain ⟨⟨Fvy799, hcvy799, hdvy799, hlvy799, hsvy799, hFvy799⟩, hfvy799⟩ := hvy799
            rw [show Fvy752 32 = Fvy752 32 from rfl] at hlvy799 hsvy799
            have h34vy799 : Fvy799 34 = F 34 := (hFvy799 34 (by decide) (by decide) (by decide) (by decide) (by decide)).trans (((hFvy752 34 (by decide) (by decide) (by decide) (by decide) (by decide) (by decide) (by decide)).trans ((hFvy34 34 (by decide) (by decide) (by decide) (by decide) (by decide)).trans (hFvy32 34 (by decide) (by decide)))))
            obtain ⟨d32vy799, -, d35vy799, d36vy799, -, d37vy799, d38vy799⟩ := id hdvy799
            have h38vy799 : Fvy799 38 = 0 := ((hFvy799 38 (by decide) (by decide) (by decide) (by decide) (by decide)).trans hxvy752)
            clear hsvy799
            refine z_aload_n C 2 dX10_hour1_168 rfl ?_
            refine z_get (v := .ref (ad (i + 20))) C (by omega) hay1 hcvy799 rfl inA_X10 43 (by decide) q_1502 rfl rfl dX10_hour1_169 ?_
            refine z_aload_n C 2 dX10_hour1_172 rfl ?_
            refine z_get (v := .int (zI (F 48))) C (by omega) hay1 hcvy799 rfl inA_X10 48 (by decide) q_1507 rfl (fv (F := Fvy799) (f := 48) ((hFvy799 48 (by decide) (by decide) (by decide) (by decide) (by decide)).trans ((hFvy752 48 (by decide) (by decide) (by decide) (by decide) (by decide) (by decide) (by decide)).trans ((hFvy34 48 (by decide) (by decide) (by decide) (by decide) (by decide)).trans (hFvy32 48 (by decide) (by decide)))))) dX10_hour1_173 ?_
            have hgy800 := (hfvy799 (i + 20) (ne_o (i := i) (c := 20) (d := 0) rfl)).trans hgy790
            refine z_iald C (by omega) hay7 hgy800 ((F 48).toNat) (by omega) (by omega) (by decide) dX10_hour1_176 ?_
            rw [show ry791 ((F 48).toNat) = ((Fvy752 37) - 3) + 1 from (congrFun hvy792 _).trans (uZ_s _ _ _)]
            refine z_iconst (z := 3) C dX10_hour1_177 rfl ?_
            obtain ⟨xy801, exy802, hxy803⟩ := zI_of (zI (((Fvy752 37) - 3) + 1))
            rw [exy802]
            refine z_icmp_ge (tgt := 197) C dX10_hour1_178 (by decide) (by omega) (by omega) (fun hby804 => ?_) (fun hby804 => ?_)
            · refine z_aload_n C 2 dX10_hour1_197 rfl ?_
              refine z_dup C dX10_hour1_198 rfl ?_
              refine z_get (v := .int (zI (F 48))) C (by omega) hay1 hcvy799 rfl inA_X10 48 (by decide) q_1507 rfl (fv (F := Fvy799) (f := 48) ((hFvy799 48 (by decide) (by decide) (by decide) (by decide) (by decide)).trans ((hFvy752 48 (by decide) (by decide) (by decide) (by decide) (by decide) (by decide) (by decide)).trans ((hFvy34 48 (by decide) (by decide) (by decide) (by decide) (by decide)).trans (hFvy32 48 (by decide) (by decide)))))) dX10_hour1_199 ?_
              refine z_iconst (z := 1) C dX10_hour1_202 rfl ?_
              refine z_iadd C dX10_hour1_203 ?_
              refine z_put (fs' := mF ad (i) (uZ Fvy799 48 ((F 48) + 1))) C (by omega) hay1 hcvy799 tyX10 tyX10_ok nmX10 rfl inA_X10 48 (by decide) q_1507 rfl rfl rfl rfl (Nat.le_of_ble_eq_true rfl) rfl dX10_hour1_204 (fun gy805 egy806 => ?_)
              have hgy807 := up_s egy806
              have hFy808 : ∀ f, f ≠ 24 → f ≠ 32 → f ≠ 33 → f ≠ 35 → f ≠ 36 → f ≠ 37 → f ≠ 38 → f ≠ 47 → f ≠ 48 → f ≠ 49 → (uZ Fvy799 48 ((F 48) + 1)) f = F f := fun f n24 n32 n33 n35 n36 n37 n38 n47 n48 n49 => ((uZ_n _ _ n48).trans ((hFvy799 f n32 n33 n35 n36 n37).trans ((hFvy752 f n24 n32 n33 n35 n36 n37 n38).trans ((hFvy34 f n32 n33 n35 n36 n37).trans (hFvy32 f n24 n38)))))
              have hey809 : (uZ Fvy799 48 ((F 48) + 1)) 32 = Fvy799 32 := (fn rfl (by decide))
              have hey810 : (uZ Fvy799 48 ((F 48) + 1)) 35 = Fvy799 35 := (fn rfl (by decide))
              have hey811 : (uZ Fvy799 48 ((F 48) + 1)) 38 = 0 := (fn ((hFvy799 38 (by decide) (by decide) (by decide) (by decide) (by decide)).trans hxvy752) (by decide))
              have hey812 : (uZ Fvy799 48 ((F 48) + 1)) 32 = Fvy799 32 := (fn rfl (by decide))
              have hey813 : (uZ Fvy799 48 ((F 48) + 1)) 47 = F 47 := (fn ((hFvy799 47 (by decide) (by decide) (by decide) (by decide) (by decide)).trans ((hFvy752 47 (by decide) (by decide) (by decide) (by decide) (by decide) (by decide) (by decide)).trans ((hFvy34 47 (by decide) (by decide) (by decide) (by decide) (by decide)).trans (hFvy32 47 (by decide) (by decide))))) (by decide))
              have hey814 : (uZ Fvy799 48 ((F 48) + 1)) 48 = (F 48) + 1 := (uZ_s _ _ _)
              have hey815 : (uZ Fvy799 48 ((F 48) + 1)) 49 = F 49 := (fn ((hFvy799 49 (by decide) (by decide) (by decide) (by decide) (by decide)).trans ((hFvy752 49 (by decide) (by decide) (by decide) (by decide) (by decide) (by decide) (by decide)).trans ((hFvy34 49 (by decide) (by decide) (by decide) (by decide) (by decide)).trans (hFvy32 49 (by decide) (by decide))))) (by decide))
              have hfry817 : ∀ j, j ≠ (F 48).toNat → ry759 j = ai1 j := fun j n0 => (congrFun hvy760 _).trans ((uZ_n _ _ n0).trans (rfl))
              have hwy818 : ry759 ((F 48).toNat) = vy752 := (congrFun hvy760 _).trans (uZ_s _ _ _)
              have haky816 : ∀ k, k < 24 → -300 ≤ ry759 k ∧ ry759 k ≤ 100 := by
                intro k hk
                by_cases e : k = (F 48).toNat
                · rw [e]; have hk0 := hai1 ((F 48).toNat) (by omega); omega
                · have hk0 := hai1 k hk; rw [hfry817 k e]; exact hk0
              have hfry820 : ∀ j, j ≠ (F 48).toNat → ry791 j = fa1 j := fun j n0 => (congrFun hvy792 _).trans ((uZ_n _ _ n0).trans ((congrFun hvy770 _).trans ((uZ_n _ _ n0).trans (rfl))))
              have hfry821 : ∀ j, j ≠ (F 48).toNat → ry780 j = mu1 j := fun j n0 => (congrFun hvy781 _).trans ((uZ_n _ _ n0).trans (rfl))
              have hwy822 : ry791 ((F 48).toNat) = ((Fvy752 37) - 3) + 1 := (congrFun hvy792 _).trans (uZ_s _ _ _)
              have hwy823 : ry780 ((F 48).toNat) = 0 := (congrFun hvy781 _).trans (uZ_s _ _ _)
              have haky819 : ∀ k, k < 24 → (0 ≤ ry791 k ∧ ry791 k ≤ 3) ∧ (0 ≤ ry780 k ∧ ry780 k ≤ 50) ∧ (ry791 k = 1 ∨ ry791 k = 2 → 1 ≤ ry780 k) := by
                intro k hk
                by_cases e : k = (F 48).toNat
                · rw [e]; have hk0 := hfa1 ((F 48).toNat) (by omega); omega
                · have hk0 := hfa1 k hk; rw [hfry820 k e]; rw [hfry821 k e]; exact hk0
              have hlay824 : ∀ s l : Nat, (s : Int) < (uZ Fvy799 48 ((F 48) + 1)) 47 → (l : Int) < mn1 s → lyT ly1 (84 * s + 7 * l) := fun s l a1 a2 => hly1 s l (by omega) a2
              have hgy825 := (hfvy32 (i + 16) (ne_o (i := i) (c := 16) (d := 0) rfl)).trans ha16
              have hgy826 := (hfvy34 (i + 16) (ne_o (i := i) (c := 16) (d := 0) rfl)).trans hgy825
              have hgy827 := (hfvy752 (i + 16) (ne_o (i := i) (c := 16) (d := 0) rfl)).trans hgy826
              have hgy828 := up_n egy757 hgy827 (ne_o (i := i) (c := 16) (d := 19) rfl)
              have hgy829 := up_n egy767 hgy828 (ne_o (i := i) (c := 16) (d := 20) rfl)
              have hgy830 := up_n egy778 hgy829 (ne_o (i := i) (c := 16) (d := 21) rfl)
              have hgy831 := up_n egy789 hgy830 (ne_o (i := i) (c := 16) (d := 20) rfl)
              have hgy832 := (hfvy799 (i + 16) (ne_o (i := i) (c := 16) (d := 0) rfl)).trans hgy831
              have hgy833 := up_n egy806 hgy832 (ne_o (i := i) (c := 16) (d := 0) rfl)
              have hgy834 := (hfvy32 (i + 17) (ne_o (i := i) (c := 17) (d := 0) rfl)).trans ha17
              have hgy835 := (hfvy34 (i + 17) (ne_o (i := i) (c := 17) (d := 0) rfl)).trans hgy834
              have hgy836 := (hfvy752 (i + 17) (ne_o (i := i) (c := 17) (d := 0) rfl)).trans hgy835
              have hgy837 := up_n egy757 hgy836 (ne_o (i := i) (c := 17) (d := 19) rfl)
              have hgy838 := up_n egy767 hgy837 (ne_o (i := i) (c := 17) (d := 20) rfl)
              have hgy839 := up_n egy778 hgy838 (ne_o (i := i) (c := 17) (d := 21) rfl)
              have hgy840 := up_n egy789 hgy839 (ne_o (i := i) (c := 17) (d := 20) rfl)
              have hgy841 := (hfvy799 (i + 17) (ne_o (i := i) (c := 17) (d := 0) rfl)).trans hgy840
              have hgy842 := up_n egy806 hgy841 (ne_o (i := i) (c := 17) (d := 0) rfl)
              have hgy843 := (hfvy32 (i + 18) (ne_o (i := i) (c := 18) (d := 0) rfl)).trans ha18
              have hgy844 := (hfvy34 (i + 18) (ne_o (i := i) (c := 18) (d := 0) rfl)).trans hgy843
              have hgy845 := (hfvy752 (i + 18) (ne_o (i := i) (c := 18) (d := 0) rfl)).trans hgy844
              have hgy846 := up_n egy757 hgy845 (ne_o (i := i) (c := 18) (d := 19) rfl)
              have hgy847 := up_n egy767 hgy846 (ne_o (i := i) (c := 18) (d := 20) rfl)
              have hgy848 := up_n egy778 hgy847 (ne_o (i := i) (c := 18) (d := 21) rfl)
              have hgy849 := up_n egy789 hgy848 (ne_o (i := i) (c := 18) (d := 20) rfl)
              have hgy850 := (hfvy799 (i + 18) (ne_o (i := i) (c := 18) (d := 0) rfl)).trans hgy849
              have hgy851 := up_n egy806 hgy850 (ne_o (i := i) (c := 18) (d := 0) rfl)
              have hgy852 := up_n egy767 hgy758 (ne_o (i := i) (c := 19) (d := 20) rfl)
              have hgy853 := up_n egy778 hgy852 (ne_o (i := i) (c := 19) (d := 21) rfl)
              have hgy854 := up_n egy789 hgy853 (ne_o (i := i) (c := 19) (d := 20) rfl)
              have hgy855 := (hfvy799 (i + 19) (ne_o (i := i) (c := 19) (d := 0) rfl)).trans hgy854
              have hgy856 := up_n egy806 hgy855 (ne_o (i := i) (c := 19) (d := 0) rfl)
              have hgy857 := up_n egy806 hgy800 (ne_o (i := i) (c := 20) (d := 0) rfl)
              have hgy858 := up_n egy789 hgy779 (ne_o (i := i) (c := 21) (d := 20) rfl)
              have hgy859 := (hfvy799 (i + 21) (ne_o (i := i) (c := 21) (d := 0) rfl)).trans hgy858
              have hgy860 := up_n egy806 hgy859 (ne_o (i := i) (c := 21) (d := 0) rfl)
              have hgy861 := (hfvy32 (i + 22) (ne_o (i := i) (c := 22) (d := 0) rfl)).trans ha22
              have hgy862 := (hfvy34 (i + 22) (ne_o (i := i) (c := 22) (d := 0) rfl)).trans hgy861
              have hgy863 := (hfvy752 (i + 22) (ne_o (i := i) (c := 22) (d := 0) rfl)).trans hgy862
              have hgy864 := up_n egy757 hgy863 (ne_o (i := i) (c := 22) (d := 19) rfl)
              have hgy865 := up_n egy767 hgy864 (ne_o (i := i) (c := 22) (d := 20) rfl)
              have hgy866 := up_n egy778 hgy865 (ne_o (i := i) (c := 22) (d := 21) rfl)
              have hgy867 := up_n egy789 hgy866 (ne_o (i := i) (c := 22) (d := 20) rfl)
              have hgy868 := (hfvy799 (i + 22) (ne_o (i := i) (c := 22) (d := 0) rfl)).trans hgy867
              have hgy869 := up_n egy806 hgy868 (ne_o (i := i) (c := 22) (d := 0) rfl)
              have hgy870 := (hfvy32 (i + 23) (ne_o (i := i) (c := 23) (d := 0) rfl)).trans ha23
              have hgy871 := (hfvy34 (i + 23) (ne_o (i := i) (c := 23) (d := 0) rfl)).trans hgy870
              have hgy872 := (hfvy752 (i + 23) (ne_o (i := i) (c := 23) (d := 0) rfl)).trans hgy871
              have hgy873 := up_n egy757 hgy872 (ne_o (i := i) (c := 23) (d := 19) rfl)
              have hgy874 := up_n egy767 hgy873 (ne_o (i := i) (c := 23) (d := 20) rfl)
              have hgy875 := up_n egy778 hgy874 (ne_o (i := i) (c := 23) (d := 21) rfl)
              have hgy876 := up_n egy789 hgy875 (ne_o (i := i) (c := 23) (d := 20) rfl)
              have hgy877 := (hfvy799 (i + 23) (ne_o (i := i) (c := 23) (d := 0) rfl)).trans hgy876
              have hgy878 := up_n egy806 hgy877 (ne_o (i := i) (c := 23) (d := 0) rfl)
              have htxy879 : okTx cs gy805 i (uZ Fvy799 48 ((F 48) + 1)) := ⟨_, _, _, _, _, _, _, _, ⟨hgy833, hgy842, hgy851, hgy856, hgy857, hgy860, hgy869, hgy878⟩, ⟨⟨by omega, by omega, by omega⟩, hop1, hmn1, haky816, haky819, htb1, hlay824⟩⟩
              exact z_vret C hr hlk dX10_hour1_207 (by decide) (by decide) ⟨rfl, rfl, rfl, ⟨_, hgy807, (RD.put hdvy799 (by decide)), by omega, by omega, hFy808, htxy879⟩, fun j j1 j2 => by rw [egy806, va_up_ne _ _ (by omega)]; rw [hfvy799 _ (by omega)]; rw [egy789, va_up_ne _ _ (by omega)]; rw [egy778, va_up_ne _ _ (by omega)]; rw [egy767, va_up_ne _ _ (by omega)]; rw [egy757, va_up_ne _ _ (by omega)]; rw [hfvy752 _ (by omega)]; rw [hfvy34 _ (by omega)]; rw [hfvy32 _ (by omega)]⟩
            · refine z_aload_n C 2 dX10_hour1_181 rfl ?_
              refine z_get (v := .ref (ad (i + 21))) C (by omega) hay1 hcvy799 rfl inA_X10 44 (by decide) q_1503 rfl rfl dX10_hour1_182 ?_
              refine z_aload_n C 2 dX10_hour1_185 rfl ?_
              refine z_get (v := .int (zI (F 48))) C (by omega) hay1 hcvy799 rfl inA_X10 48 (by decide) q_1507 rfl (fv (F := Fvy799) (f := 48) ((hFvy799 48 (by decide) (by decide) (by decide) (by decide) (by decide)).trans ((hFvy752 48 (by decide) (by decide) (by decide) (by decide) (by decide) (by decide) (by decide)).trans ((hFvy34 48 (by decide) (by decide) (by decide) (by decide) (by decide)).trans (hFvy32 48 (by decide) (by decide)))))) dX10_hour1_186 ?_
              refine z_aload_n C 2 dX10_hour1_189 rfl ?_
              refine z_iconst (z := 1) C dX10_hour1_190 rfl ?_
              refine z_bipush (z := 50) C dX10_hour1_191 (by decide) ?_
              have hgy880 := (hfvy799 (i + 13) (ne_o (i := i) (c := 13) (d := 0) rfl)).trans hgy798
              refine z_cV (As := [.int (zI (1)), .int (zI (50))]) (rest := [.int (zI (F 48)), .ref (ad (i + 21))]) (ci := 12) C (c_X10_number l D A cs tt N ad _ i hN _ hcvy799 _ hgy880 htp hdvy799 (1) (by omega) (50) (by omega)) (by omega) hay1 hcvy799 rfl rfl mv_yX10_number q_1682 hd_yX10_number (by decide) (Nat.le_of_ble_eq_true rfl) (by decide) dX10_hour1_193 rfl (kI0 fun vy881 gvy881 hvy881 => ?_)
              obtain ⟨hrvy881, ⟨Fvy881, hcvy881, hdvy881, hlvy881, hsvy881, hFvy881⟩, hfvy881⟩ := hvy881
              rw [show Fvy799 32 = Fvy799 32 from rfl] at hlvy881
              rw [show Fvy799 38 = 0 from ((hFvy799 38 (by decide) (by decide) (by decide) (by decide) (by decide)).trans hxvy752), show Fvy799 35 = Fvy799 35 from rfl] at hsvy881
              have h34vy881 : Fvy881 34 = F 34 := (hFvy881 34 (by decide) (by decide) (by decide) (by decide) (by decide) (by decide) (by decide)).trans (((hFvy799 34 (by decide) (by decide) (by decide) (by decide) (by decide)).trans ((hFvy752 34 (by decide) (by decide) (by decide) (by decide) (by decide) (by decide) (by decide)).trans ((hFvy34 34 (by decide) (by decide) (by decide) (by decide) (by decide)).trans (hFvy32 34 (by decide) (by decide))))))
              obtain ⟨d32vy881, -, d35vy881, d36vy881, -, d37vy881, d38vy881⟩ := id hdvy881
              clear hsvy881
              have hgy882 := up_n egy789 hgy779 (ne_o (i := i) (c := 21) (d := 20) rfl)
              have hgy883 := (hfvy799 (i + 21) (ne_o (i := i) (c := 21) (d := 0) rfl)).trans hgy882
              have hgy884 := (hfvy881 (i + 21) (ne_o (i := i) (c := 21) (d := 0) rfl)).trans hgy883
              refine z_iast C (by omega) hay8 hgy884 ((F 48).toNat) (by omega) (by omega) (by decide) dX10_hour1_196 (fun gy885 egy886 => ?_)
              have hgy887 := up_s egy886
              obtain ⟨ry888, hvy889⟩ : ∃ rZ9 : Nat → Int, rZ9 = uZ ry780 ((F 48).toNat) (vy881) := ⟨_, rfl⟩
              rw [← hvy889] at hgy887
              refine z_aload_n C 2 dX10_hour1_197 rfl ?_
              refine z_dup C dX10_hour1_198 rfl ?_
              have hgy890 := up_n egy886 hcvy881 (ne_o (i := i) (c := 0) (d := 21) rfl)
              refine z_get (v := .int (zI (F 48))) C (by omega) hay1 hgy890 rfl inA_X10 48 (by decide) q_1507 rfl (fv (F := Fvy881) (f := 48) ((hFvy881 48 (by decide) (by decide) (by decide) (by decide) (by decide) (by decide) (by decide)).trans ((hFvy799 48 (by decide) (by decide) (by decide) (by decide) (by decide)).trans ((hFvy752 48 (by decide) (by decide) (by decide) (by decide) (by decide) (by decide) (by decide)).trans ((hFvy34 48 (by decide) (by decide) (by decide) (by decide) (by decide)).trans (hFvy32 48 (by decide) (by decide))))))) dX10_hour1_199 ?_
              refine z_iconst (z := 1) C dX10_hour1_202 rfl ?_
              refine z_iadd C dX10_hour1_203 ?_
              refine z_put (fs' := mF ad (i) (uZ Fvy881 48 ((F 48) + 1))) C (by omega) hay1 hgy890 tyX10 tyX10_ok nmX10 rfl inA_X10 48 (by decide) q_1507 rfl rfl rfl rfl (Nat.le_of_ble_eq_true rfl) rfl dX10_hour1_204 (fun gy891 egy892 => ?_)
              have hgy893 := up_s egy892
              have hFy894 : ∀ f, f ≠ 24 → f ≠ 32 → f ≠ 33 → f ≠ 35 → f ≠ 36 → f ≠ 37 → f ≠ 38 → f ≠ 47 → f ≠ 48 → f ≠ 49 → (uZ Fvy881 48 ((F 48) + 1)) f = F f := fun f n24 n32 n33 n35 n36 n37 n38 n47 n48 n49 => ((uZ_n _ _ n48).trans ((hFvy881 f n24 n32 n33 n35 n36 n37 n38).trans ((hFvy799 f n32 n33 n35 n36 n37).trans ((hFvy752 f n24 n32 n33 n35 n36 n37 n38).trans ((hFvy34 f n32 n33 n35 n36 n37).trans (hFvy32 f n24 n38))))))
              have hey895 : (uZ Fvy881 48 ((F 48) + 1)) 32 = Fvy881 32 := (fn rfl (by decide))
              have hey896 : (uZ Fvy881 48 ((F 48) + 1)) 35 = Fvy881 35 := (fn rfl (by decide))
              have hey897 : (uZ Fvy881 48 ((F 48) + 1)) 38 = Fvy881 38 := (fn rfl (by decide))
              have hey898 : (uZ Fvy881 48 ((F 48) + 1)) 32 = Fvy881 32 := (fn rfl (by decide))
              have hey899 : (uZ Fvy881 48 ((F 48) + 1)) 47 = F 47 := (fn ((hFvy881 47 (by decide) (by decide) (by decide) (by decide) (by decide) (by decide) (by decide)).trans ((hFvy799 47 (by decide) (by decide) (by decide) (by decide) (by decide)).trans ((hFvy752 47 (by decide) (by decide) (by decide) (by decide) (by decide) (by decide) (by decide)).trans ((hFvy34 47 (by decide) (by decide) (by decide) (by decide) (by decide)).trans (hFvy32 47 (by decide) (by decide)))))) (by decide))
              have hey900 : (uZ Fvy881 48 ((F 48) + 1)) 48 = (F 48) + 1 := (uZ_s _ _ _)
              have hey901 : (uZ Fvy881 48 ((F 48) + 1)) 49 = F 49 := (fn ((hFvy881 49 (by decide) (by decide) (by decide) (by decide) (by decide) (by decide) (by decide)).trans ((hFvy799 49 (by decide) (by decide) (by decide) (by decide) (by decide)).trans ((hFvy752 49 (by decide) (by decide) (by decide) (by decide) (by decide) (by decide) (by decide)).trans ((hFvy34 49 (by decide) (by decide) (by decide) (by decide) (by decide)).trans (hFvy32 49 (by decide) (by decide)))))) (by decide))
              have hfry903 : ∀ j, j ≠ (F 48).toNat → ry759 j = ai1 j := fun j n0 => (congrFun hvy760 _).trans ((uZ_n _ _ n0).trans (rfl))
              have hwy904 : ry759 ((F 48).toNat) = vy752 := (congrFun hvy760 _).trans (uZ_s _ _ _)
              have haky902 : ∀ k, k < 24 → -300 ≤ ry759 k ∧ ry759 k ≤ 100 := by
                intro k hk
                by_cases e : k = (F 48).toNat
                · rw [e]; have hk0 := hai1 ((F 48).toNat) (by omega); omega
                · have hk0 := hai1 k hk; rw [hfry903 k e]; exact hk0
              have hfry906 : ∀ j, j ≠ (F 48).toNat → ry791 j = fa1 j := fun j n0 => (congrFun hvy792 _).trans ((uZ_n _ _ n0).trans ((congrFun hvy770 _).trans ((uZ_n _ _ n0).trans (rfl))))
              have hfry907 : ∀ j, j ≠ (F 48).toNat → ry888 j = mu1 j := fun j n0 => (congrFun hvy889 _).trans ((uZ_n _ _ n0).trans ((congrFun hvy781 _).trans ((uZ_n _ _ n0).trans (rfl))))
              have hwy908 : ry791 ((F 48).toNat) = ((Fvy752 37) - 3) + 1 := (congrFun hvy792 _).trans (uZ_s _ _ _)
              have hwy909 : ry888 ((F 48).toNat) = vy881 := (congrFun hvy889 _).trans (uZ_s _ _ _)
              have haky905 : ∀ k, k < 24 → (0 ≤ ry791 k ∧ ry791 k ≤ 3) ∧ (0 ≤ ry888 k ∧ ry888 k ≤ 50) ∧ (ry791 k = 1 ∨ ry791 k = 2 → 1 ≤ ry888 k) := by
                intro k hk
                by_cases e : k = (F 48).toNat
                · rw [e]; have hk0 := hfa1 ((F 48).toNat) (by omega); omega
                · have hk0 := hfa1 k hk; rw [hfry906 k e]; rw [hfry907 k e]; exact hk0
              have hlay910 : ∀ s l : Nat, (s : Int) < (uZ Fvy881 48 ((F 48) + 1)) 47 → (l : Int) < mn1 s → lyT ly1 (84 * s + 7 * l) := fun s l a1 a2 => hly1 s l (by omega) a2
              have hgy911 := (hfvy32 (i + 16) (ne_o (i := i) (c := 16) (d := 0) rfl)).trans ha16
              have hgy912 := (hfvy34 (i + 16) (ne_o (i := i) (c := 16) (d := 0) rfl)).trans hgy911
              have hgy913 := (hfvy752 (i + 16) (ne_o (i := i) (c := 16) (d := 0) rfl)).trans hgy912
              have hgy914 := up_n egy757 hgy913 (ne_o (i := i) (c := 16) (d := 19) rfl)
              have hgy915 := up_n egy767 hgy914 (ne_o (i := i) (c := 16) (d := 20) rfl)
              have hgy916 := up_n egy778 hgy915 (ne_o (i := i) (c := 16) (d := 21) rfl)
              have hgy917 := up_n egy789 hgy916 (ne_o (i := i) (c := 16) (d := 20) rfl)
              have hgy918 := (hfvy799 (i + 16) (ne_o (i := i) (c := 16) (d := 0) rfl)).trans hgy917
              have hgy919 := (hfvy881 (i + 16) (ne_o (i := i) (c := 16) (d := 0) rfl)).trans hgy918
              have hgy920 := up_n egy886 hgy919 (ne_o (i := i) (c := 16) (d := 21) rfl)
              have hgy921 := up_n egy892 hgy920 (ne_o (i := i) (c := 16) (d := 0) rfl)
              have hgy922 := (hfvy32 (i + 17) (ne_o (i := i) (c := 17) (d := 0) rfl)).trans ha17
              have hgy923 := (hfvy34 (i + 17) (ne_o (i := i) (c := 17) (d := 0) rfl)).trans hgy922
              have hgy924 := (hfvy752 (i + 17) (ne_o (i := i) (c := 17) (d := 0) rfl)).trans hgy923
              have hgy925 := up_n egy757 hgy924 (ne_o (i := i) (c := 17) (d := 19) rfl)
              have hgy926 := up_n egy767 hgy925 (ne_o (i := i) (c := 17) (d := 20) rfl)
              have hgy927 := up_n egy778 hgy926 (ne_o (i := i) (c := 17) (d := 21) rfl)
              have hgy928 := up_n egy789 hgy927 (ne_o (i := i) (c := 17) (d := 20) rfl)
              have hgy929 := (hfvy799 (i + 17) (ne_o (i := i) (c := 17) (d := 0) rfl)).trans hgy928
              have hgy930 := (hfvy881 (i + 17) (ne_o (i := i) (c := 17) (d := 0) rfl)).trans hgy929
              have hgy931 := up_n egy886 hgy930 (ne_o (i := i) (c := 17) (d := 21) rfl)
              have hgy932 := up_n egy892 hgy931 (ne_o (i := i) (c := 17) (d := 0) rfl)
              have hgy933 := (hfvy32 (i + 18) (ne_o (i := i) (c := 18) (d := 0) rfl)).trans ha18
              have hgy934 := (hfvy34 (i + 18) (ne_o (i := i) (c := 18) (d := 0) rfl)).trans hgy933
              have hgy935 := (hfvy752 (i + 18) (ne_o (i := i) (c := 18) (d := 0) rfl)).trans hgy934
              have hgy936 := up_n egy757 hgy935 (ne_o (i := i) (c := 18) (d := 19) rfl)
              have hgy937 := up_n egy767 hgy936 (ne_o (i := i) (c := 18) (d := 20) rfl)
              have hgy938 := up_n egy778 hgy937 (ne_o (i := i) (c := 18) (d := 21) rfl)
              have hgy939 := up_n egy789 hgy938 (ne_o (i := i) (c := 18) (d := 20) rfl)
              have hgy940 := (hfvy799 (i + 18) (ne_o (i := i) (c := 18) (d := 0) rfl)).trans hgy939
              have hgy941 := (hfvy881 (i + 18) (ne_o (i := i) (c := 18) (d := 0) rfl)).trans hgy940
              have hgy942 := up_n egy886 hgy941 (ne_o (i := i) (c := 18) (d := 21) rfl)
              have hgy943 := up_n egy892 hgy942 (ne_o (i := i) (c := 18) (d := 0) rfl)
              have hgy944 := up_n egy767 hgy758 (ne_o (i := i) (c := 19) (d := 20) rfl)
              have hgy945 := up_n egy778 hgy944 (ne_o (i := i) (c := 19) (d := 21) rfl)
              have hgy946 := up_n egy789 hgy945 (ne_o (i := i) (c := 19) (d := 20) rfl)
              have hgy947 := (hfvy799 (i + 19) (ne_o (i := i) (c := 19) (d := 0) rfl)).trans hgy946
              have hgy948 := (hfvy881 (i + 19) (ne_o (i := i) (c := 19) (d := 0) rfl)).trans hgy947
              have hgy949 := up_n egy886 hgy948 (ne_o (i := i) (c := 19) (d := 21) rfl)
              have hgy950 := up_n egy892 hgy949 (ne_o (i := i) (c := 19) (d := 0) rfl)
              have hgy951 := (hfvy881 (i + 20) (ne_o (i := i) (c := 20) (d := 0) rfl)).trans hgy800
              have hgy952 := up_n egy886 hgy951 (ne_o (i := i) (c := 20) (d := 21) rfl)
              have hgy953 := up_n egy892 hgy952 (ne_o (i := i) (c := 20) (d := 0) rfl)
              have hgy954 := up_n egy892 hgy887 (ne_o (i := i) (c := 21) (d := 0) rfl)
              have hgy955 := (hfvy32 (i + 22) (ne_o (i := i) (c := 22) (d := 0) rfl)).trans ha22
              have hgy956 := (hfvy34 (i + 22) (ne_o (i := i) (c := 22) (d := 0) rfl)).trans hgy955
              have hgy957 := (hfvy752 (i + 22) (ne_o (i := i) (c := 22) (d := 0) rfl)).trans hgy956
              have hgy958 := up_n egy757 hgy957 (ne_o (i := i) (c := 22) (d := 19) rfl)
              have hgy959 := up_n egy767 hgy958 (ne_o (i := i) (c := 22) (d := 20) rfl)
              have hgy960 := up_n egy778 hgy959 (ne_o (i := i) (c := 22) (d := 21) rfl)
              have hgy961 := up_n egy789 hgy960 (ne_o (i := i) (c := 22) (d := 20) rfl)
              have hgy962 := (hfvy799 (i + 22) (ne_o (i := i) (c := 22) (d := 0) rfl)).trans hgy961
              have hgy963 := (hfvy881 (i + 22) (ne_o (i := i) (c := 22) (d := 0) rfl)).trans hgy962
              have hgy964 := up_n egy886 hgy963 (ne_o (i := i) (c := 22) (d := 21) rfl)
              have hgy965 := up_n egy892 hgy964 (ne_o (i := i) (c := 22) (d := 0) rfl)
              have hgy966 := (hfvy32 (i + 23) (ne_o (i := i) (c := 23) (d := 0) rfl)).trans ha23
              have hgy967 := (hfvy34 (i + 23) (ne_o (i := i) (c := 23) (d := 0) rfl)).trans hgy966
              have hgy968 := (hfvy752 (i + 23) (ne_o (i := i) (c := 23) (d := 0) rfl)).trans hgy967
              have hgy969 := up_n egy757 hgy968 (ne_o (i := i) (c := 23) (d := 19) rfl)
              have hgy970 := up_n egy767 hgy969 (ne_o (i := i) (c := 23) (d := 20) rfl)
              have hgy971 := up_n egy778 hgy970 (ne_o (i := i) (c := 23) (d := 21) rfl)
              have hgy972 := up_n egy789 hgy971 (ne_o (i := i) (c := 23) (d := 20) rfl)
              have hgy973 := (hfvy799 (i + 23) (ne_o (i := i) (c := 23) (d := 0) rfl)).trans hgy972
              have hgy974 := (hfvy881 (i + 23) (ne_o (i := i) (c := 23) (d := 0) rfl)).trans hgy973
              have hgy975 := up_n egy886 hgy974 (ne_o (i := i) (c := 23) (d := 21) rfl)
              have hgy976 := up_n egy892 hgy975 (ne_o (i := i) (c := 23) (d := 0) rfl)
              have htxy977 : okTx cs gy891 i (uZ Fvy881 48 ((F 48) + 1)) := ⟨_, _, _, _, _, _, _, _, ⟨hgy921, hgy932, hgy943, hgy950, hgy953, hgy954, hgy965, hgy976⟩, ⟨⟨by omega, by omega, by omega⟩, hop1, hmn1, haky902, haky905, htb1, hlay910⟩⟩
              exact z_vret C hr hlk dX10_hour1_207 (by decide) (by decide) ⟨rfl, rfl, rfl, ⟨_, hgy893, (RD.put hdvy881 (by decide)), by omega, by omega, hFy894, htxy977⟩, fun j j1 j2 => by rw [egy892, va_up_ne _ _ (by omega)]; rw [egy886, va_up_ne _ _ (by omega)]; rw [hfvy881 _ (by omega)]; rw [hfvy799 _ (by omega)]; rw [egy789, va_up_ne _ _ (by omega)]; rw [egy778, va_up_ne _ _ (by omega)]; rw [egy767, va_up_ne _ _ (by omega)]; rw [egy757, va_up_ne _ _ (by omega)]; rw [hfvy752 _ (by omega)]; rw [hfvy34 _ (by omega)]; rw [hfvy32 _ (by omega)]⟩
          · clear hqvy783
            refine z_if_ne (tgt := 147) C dX10_hour1_128 (by decide) (by omega) (fun h => absurd h (by omega)) (fun _ => ?_)
            refine z_aload_n C 2 dX10_hour1_131 rfl ?_
            refine z_iconst (z := 4) C dX10_hour1_132 rfl ?_
            have hey979 : Fvy752 38 = 0 := hxvy752
            have hey980 : Fvy752 35 = Fvy752 35 := rfl
            have hey981 : Fvy752 37 = Fvy752 37 := rfl
            refine z_cV (As := [.int (zI (4))]) (rest := []) (ci := 12) C (c_X10_is l D A cs tt N ad _ i hN _ hgy782 hdvy752 (4) (by omega)) (by omega) hay1 hgy782 rfl rfl mv_yX10_is q_1705 hd_yX10_is (by decide) (Nat.le_of_ble_eq_true rfl) (by decide) dX10_hour1_133 rfl (kI0 fun vy978 gvy978 hvy978 => ?_)
            rw [hey979, hey980, hey981] at hvy978
            clear hey979 hey980 hey981
            obtain ⟨hrvy978, hqvy978, rfl⟩ := hvy978
            rcases (show vy978 = 1 ∨ vy978 = 0 by omega) with rfl | rfl
            · have hkvy978 := hqvy978 rfl
              clear hqvy978
              refine z_if_ne (tgt := 147) C dX10_hour1_136 (by decide) (by omega) (fun _ => ?_) (fun h => absurd h (by omega))
              refine z_aload_n C 2 dX10_hour1_147 rfl ?_
              refine z_get (v := .ref (ad (i + 20))) C (by omega) hay1 hgy782 rfl inA_X10 43 (by decide) q_1502 rfl rfl dX10_hour1_148 ?_
              refine z_aload_n C 2 dX10_hour1_151 rfl ?_
              refine z_get (v := .int (zI (F 48))) C (by omega) hay1 hgy782 rfl inA_X10 48 (by decide) q_1507 rfl (fv (F := Fvy752) (f := 48) ((hFvy752 48 (by decide) (by decide) (by decide) (by decide) (by decide) (by decide) (by decide)).trans ((hFvy34 48 (by decide) (by decide) (by decide) (by decide) (by decide)).trans (hFvy32 48 (by decide) (by decide))))) dX10_hour1_152 ?_
              refine z_aload_n C 2 dX10_hour1_155 rfl ?_
              refine z_get (v := .int (zI (Fvy752 37))) C (by omega) hay1 hgy782 rfl inA_X10 37 (by decide) q_1496 rfl (fv (F := Fvy752) (f := 37) rfl) dX10_hour1_156 ?_
              refine z_iconst (z := 3) C dX10_hour1_159 rfl ?_
              refine z_isub C dX10_hour1_160 ?_
              refine z_iconst (z := 1) C dX10_hour1_161 rfl ?_
              refine z_iadd C dX10_hour1_162 ?_
              have hgy982 := up_n egy778 hgy768 (ne_o (i := i) (c := 20) (d := 21) rfl)
              refine z_iast C (by omega) hay7 hgy982 ((F 48).toNat) (by omega) (by omega) (by decide) dX10_hour1_163 (fun gy983 egy984 => ?_)
              have hgy985 := up_s egy984
              obtain ⟨ry986, hvy987⟩ : ∃ rZ9 : Nat → Int, rZ9 = uZ ry769 ((F 48).toNat) (((Fvy752 37) - 3) + 1) := ⟨_, rfl⟩
              rw [← hvy987] at hgy985
              refine z_aload_n C 2 dX10_hour1_164 rfl ?_
              have hgy988 := up_n egy984 hgy782 (ne_o (i := i) (c := 0) (d := 20) rfl)
              have hgy989 := (hfvy752 (i + 13) (ne_o (i := i) (c := 13) (d := 0) rfl)).trans hgy751
              have hgy990 := up_n egy757 hgy989 (ne_o (i := i) (c := 13) (d := 19) rfl)
              have hgy991 := up_n egy767 hgy990 (ne_o (i := i) (c := 13) (d := 20) rfl)
              have hgy992 := up_n egy778 hgy991 (ne_o (i := i) (c := 13) (d := 21) rfl)
              have hgy993 := up_n egy984 hgy992 (ne_o (i := i) (c := 13) (d := 20) rfl)
              refine z_cV (As := []) (rest := []) (ci := 12) C (c_X10_go l D A cs tt N ad _ i hN _ hgy988 _ hgy993 htp hdvy752) (by omega) hay1 hgy988 rfl rfl mv_yX10_go q_1652 hd_yX10_go (by decide) (Nat.le_of_ble_eq_true rfl) (by decide) dX10_hour1_165 rfl (kV0 fun gvy994 hvy994 => ?_)
              obtain ⟨⟨Fvy994, hcvy994, hdvy994, hlvy994, hsvy994, hFvy994⟩, hfvy994⟩ := hvy994
              rw [show Fvy752 32 = Fvy752 32 from rfl] at hlvy994 hsvy994
              have h34vy994 : Fvy994 34 = F 34 := (hFvy994 34 (by decide) (by decide) (by decide) (by decide) (by decide)).trans (((hFvy752 34 (by decide) (by decide) (by decide) (by decide) (by decide) (by decide) (by decide)).trans ((hFvy34 34 (by decide) (by decide) (by decide) (by decide) (by decide)).trans (hFvy32 34 (by decide) (by decide)))))
              obtain ⟨d32vy994, -, d35vy994, d36vy994, -, d37vy994, d38vy994⟩ := id hdvy994
              have h38vy994 : Fvy994 38 = 0 := ((hFvy994 38 (by decide) (by decide) (by decide) (by decide) (by decide)).trans hxvy752)
              clear hsvy994
              refine z_aload_n C 2 dX10_hour1_168 rfl ?_
              refine z_get (v := .ref (ad (i + 20))) C (by omega) hay1 hcvy994 rfl inA_X10 43 (by decide) q_1502 rfl rfl dX10_hour1_169 ?_
              refine z_aload_n C 2 dX10_hour1_172 rfl ?_
              refine z_get (v := .int (zI (F 48))) C (by omega) hay1 hcvy994 rfl inA_X10 48 (by decide) q_1507 rfl (fv (F := Fvy994) (f := 48) ((hFvy994 48 (by decide) (by decide) (by decide) (by decide) (by decide)).trans ((hFvy752 48 (by decide) (by decide) (by decide) (by decide) (by decide) (by decide) (by decide)).trans ((hFvy34 48 (by decide) (by decide) (by decide) (by decide) (by decide)).trans (hFvy32 48 (by decide) (by decide)))))) dX10_hour1_173 ?_
              have hgy995 := (hfvy994 (i + 20) (ne_o (i := i) (c := 20) (d := 0) rfl)).trans hgy985
              refine z_iald C (by omega) hay7 hgy995 ((F 48).toNat) (by omega) (by omega) (by decide) dX10_hour1_176 ?_
              rw [show ry986 ((F 48).toNat) = ((Fvy752 37) - 3) + 1 from (congrFun hvy987 _).trans (uZ_s _ _ _)]
              refine z_iconst (z := 3) C dX10_hour1_177 rfl ?_
              obtain ⟨xy996, exy997, hxy998⟩ := zI_of (zI (((Fvy752 37) - 3) + 1))
              rw [exy997]
              refine z_icmp_ge (tgt := 197) C dX10_hour1_178 (by decide) (by omega) (by omega) (fun hby999 => ?_) (fun hby999 => ?_)
              · refine z_aload_n C 2 dX10_hour1_197 rfl ?_
                refine z_dup C dX10_hour1_198 rfl ?_
                refine z_get (v := .int (zI (F 48))) C (by omega) hay1 hcvy994 rfl inA_X10 48 (by decide) q_1507 rfl (fv (F := Fvy994) (f := 48) ((hFvy994 48 (by decide) (by decide) (by decide) (by decide) (by decide)).trans ((hFvy752 48 (by decide) (by decide) (by decide) (by decide) (by decide) (by decide) (by decide)).trans ((hFvy34 48 (by decide) (by decide) (by decide) (by decide) (by decide)).trans (hFvy32 48 (by decide) (by decide)))))) dX10_hour1_199 ?_
                refine z_iconst (z := 1) C dX10_hour1_202 rfl ?_
                refine z_iadd C dX10_hour1_203 ?_
                refine z_put (fs' := mF ad (i) (uZ Fvy994 48 ((F 48) + 1))) C (by omega) hay1 hcvy994 tyX10 tyX10_ok nmX10 rfl inA_X10 48 (by decide) q_1507 rfl rfl rfl rfl (Nat.le_of_ble_eq_true rfl) rfl dX10_hour1_204 (fun gy1000 egy1001 => ?_)
                have hgy1002 := up_s egy1001
                have hFy1003 : ∀ f, f ≠ 24 → f ≠ 32 → f ≠ 33 → f ≠ 35 → f ≠ 36 → f ≠ 37 → f ≠ 38 → f ≠ 47 → f ≠ 48 → f ≠ 49 → (uZ Fvy994 48 ((F 48) + 1)) f = F f := fun f n24 n32 n33 n35 n36 n37 n38 n47 n48 n49 => ((uZ_n _ _ n48).trans ((hFvy994 f n32 n33 n35 n36 n37).trans ((hFvy752 f n24 n32 n33 n35 n36 n37 n38).trans ((hFvy34 f n32 n33 n35 n36 n37).trans (hFvy32 f n24 n38)))))
                have hey1004 : (uZ Fvy994 48 ((F 48) + 1)) 32 = Fvy994 32 := (fn rfl (by decide))
                have hey1005 : (uZ Fvy994 48 ((F 48) + 1)) 35 = Fvy994 35 := (fn rfl (by decide))
                have hey1006 : (uZ Fvy994 48 ((F 48) + 1)) 38 = 0 := (fn ((hFvy994 38 (by decide) (by decide) (by decide) (by decide) (by decide)).trans hxvy752) (by decide))
                have hey1007 : (uZ Fvy994 48 ((F 48) + 1)) 32 = Fvy994 32 := (fn rfl (by decide))
                have hey1008 : (uZ Fvy994 48 ((F 48) + 1)) 47 = F 47 := (fn ((hFvy994 47 (by decide) (by decide) (by decide) (by decide) (by decide)).trans ((hFvy752 47 (by decide) (by decide) (by decide) (by decide) (by decide) (by decide) (by decide)).trans ((hFvy34 47 (by decide) (by decide) (by decide) (by decide) (by decide)).trans (hFvy32 47 (by decide) (by decide))))) (by decide))
                have hey1009 : (uZ Fvy994 48 ((F 48) + 1)) 48 = (F 48) + 1 := (uZ_s _ _ _)
                have hey1010 : (uZ Fvy994 48 ((F 48) + 1)) 49 = F 49 := (fn ((hFvy994 49 (by decide) (by decide) (by decide) (by decide) (by decide)).trans ((hFvy752 49 (by decide) (by decide) (by decide) (by decide) (by decide) (by decide) (by decide)).trans ((hFvy34 49 (by decide) (by decide) (by decide) (by decide) (by decide)).trans (hFvy32 49 (by decide) (by decide))))) (by decide))
                have hfry1012 : ∀ j, j ≠ (F 48).toNat → ry759 j = ai1 j := fun j n0 => (congrFun hvy760 _).trans ((uZ_n _ _ n0).trans (rfl))
                have hwy1013 : ry759 ((F 48).toNat) = vy752 := (congrFun hvy760 _).trans (uZ_s _ _ _)
                have haky1011 : ∀ k, k < 24 → -300 ≤ ry759 k ∧ ry759 k ≤ 100 := by
                  intro k hk
                  by_cases e : k = (F 48).toNat
                  · rw [e]; have hk0 := hai1 ((F 48).toNat) (by omega); omega
                  · have hk0 := hai1 k hk; rw [hfry1012 k e]; exact hk0
                have hfry1015 : ∀ j, j ≠ (F 48).toNat → ry986 j = fa1 j := fun j n0 => (congrFun hvy987 _).trans ((uZ_n _ _ n0).trans ((congrFun hvy770 _).trans ((uZ_n _ _ n0).trans (rfl))))
                have hfry1016 : ∀ j, j ≠ (F 48).toNat → ry780 j = mu1 j := fun j n0 => (congrFun hvy781 _).trans ((uZ_n _ _ n0).trans (rfl))
                have hwy1017 : ry986 ((F 48).toNat) = ((Fvy752 37) - 3) + 1 := (congrFun hvy987 _).trans (uZ_s _ _ _)
                have hwy1018 : ry780 ((F 48).toNat) = 0 := (congrFun hvy781 _).trans (uZ_s _ _ _)
                have haky1014 : ∀ k, k < 24 → (0 ≤ ry986 k ∧ ry986 k ≤ 3) ∧ (0 ≤ ry780 k ∧ ry780 k ≤ 50) ∧ (ry986 k = 1 ∨ ry986 k = 2 → 1 ≤ ry780 k) := by
                  intro k hk
                  by_cases e : k = (F 48).toNat
                  · rw [e]; have hk0 := hfa1 ((F 48).toNat) (by omega); omega
                  · have hk0 := hfa1 k hk; rw [hfry1015 k e]; rw [hfry1016 k e]; exact hk0
                have hlay1019 : ∀ s l : Nat, (s : Int) < (uZ Fvy994 48 ((F 48) + 1)) 47 → (l : Int) < mn1 s → lyT ly1 (84 * s + 7 * l) := fun s l a1 a2 => hly1 s l (by omega) a2
                have hgy1020 := (hfvy32 (i + 16) (ne_o (i := i) (c := 16) (d := 0) rfl)).trans ha16
                have hgy1021 := (hfvy34 (i + 16) (ne_o (i := i) (c := 16) (d := 0) rfl)).trans hgy1020
                have hgy1022 := (hfvy752 (i + 16) (ne_o (i := i) (c := 16) (d := 0) rfl)).trans hgy1021
                have hgy1023 := up_n egy757 hgy1022 (ne_o (i := i) (c := 16) (d := 19) rfl)
                have hgy1024 := up_n egy767 hgy1023 (ne_o (i := i) (c := 16) (d := 20) rfl)
                have hgy1025 := up_n egy778 hgy1024 (ne_o (i := i) (c := 16) (d := 21) rfl)
                have hgy1026 := up_n egy984 hgy1025 (ne_o (i := i) (c := 16) (d := 20) rfl)
                have hgy1027 := (hfvy994 (i + 16) (ne_o (i := i) (c := 16) (d := 0) rfl)).trans hgy1026
                have hgy1028 := up_n egy1001 hgy1027 (ne_o (i := i) (c := 16) (d := 0) rfl)
                have hgy1029 := (hfvy32 (i + 17) (ne_o (i := i) (c := 17) (d := 0) rfl)).trans ha17
                have hgy1030 := (hfvy34 (i + 17) (ne_o (i := i) (c := 17) (d := 0) rfl)).trans hgy1029
                have hgy1031 := (hfvy752 (i + 17) (ne_o (i := i) (c := 17) (d := 0) rfl)).trans hgy1030
                have hgy1032 := up_n egy757 hgy1031 (ne_o (i := i) (c := 17) (d := 19) rfl)
                have hgy1033 := up_n egy767 hgy1032 (ne_o (i := i) (c := 17) (d := 20) rfl)
                have hgy1034 := up_n egy778 hgy1033 (ne_o (i := i) (c := 17) (d := 21) rfl)
                have hgy1035 := up_n egy984 hgy1034 (ne_o (i := i) (c := 17) (d := 20) rfl)
                have hgy1036 := (hfvy994 (i + 17) (ne_o (i := i) (c := 17) (d := 0) rfl)).trans hgy1035
                have hgy1037 := up_n egy1001 hgy1036 (ne_o (i := i) (c := 17) (d := 0) rfl)
                have hgy1038 := (hfvy32 (i + 18) (ne_o (i := i) (c := 18) (d := 0) rfl)).trans ha18
                have hgy1039 := (hfvy34 (i + 18) (ne_o (i := i) (c := 18) (d := 0) rfl)).trans hgy1038
                have hgy1040 := (hfvy752 (i + 18) (ne_o (i := i) (c := 18) (d := 0) rfl)).trans hgy1039
                have hgy1041 := up_n egy757 hgy1040 (ne_o (i := i) (c := 18) (d := 19) rfl)
                have hgy1042 := up_n egy767 hgy1041 (ne_o (i := i) (c := 18) (d := 20) rfl)
                have hgy1043 := up_n egy778 hgy1042 (ne_o (i := i) (c := 18) (d := 21) rfl)
                have hgy1044 := up_n egy984 hgy1043 (ne_o (i := i) (c := 18) (d := 20) rfl)
                have hgy1045 := (hfvy994 (i + 18) (ne_o (i := i) (c := 18) (d := 0) rfl)).trans hgy1044
                have hgy1046 := up_n egy1001 hgy1045 (ne_o (i := i) (c := 18) (d := 0) rfl)
                have hgy1047 := up_n egy767 hgy758 (ne_o (i := i) (c := 19) (d := 20) rfl)
                have hgy1048 := up_n egy778 hgy1047 (ne_o (i := i) (c := 19) (d := 21) rfl)
                have hgy1049 := up_n egy984 hgy1048 (ne_o (i := i) (c := 19) (d := 20) rfl)
                have hgy1050 := (hfvy994 (i + 19) (ne_o (i := i) (c := 19) (d := 0) rfl)).trans hgy1049
                have hgy1051 := up_n egy1001 hgy1050 (ne_o (i := i) (c := 19) (d := 0) rfl)
                have hgy1052 := up_n egy1001 hgy995 (ne_o (i := i) (c := 20) (d := 0) rfl)
                have hgy1053 := up_n egy984 hgy779 (ne_o (i := i) (c := 21) (d := 20) rfl)
                have hgy1054 := (hfvy994 (i + 21) (ne_o (i := i) (c := 21) (d := 0) rfl)).trans hgy1053
                have hgy1055 := up_n egy1001 hgy1054 (ne_o (i := i) (c := 21) (d := 0) rfl)
                have hgy1056 := (hfvy32 (i + 22) (ne_o (i := i) (c := 22) (d := 0) rfl)).trans ha22
                have hgy1057 := (hfvy34 (i + 22) (ne_o (i := i) (c := 22) (d := 0) rfl)).trans hgy1056
                have hgy1058 := (hfvy752 (i + 22) (ne_o (i := i) (c := 22) (d := 0) rfl)).trans hgy1057
                have hgy1059 := up_n egy757 hgy1058 (ne_o (i := i) (c := 22) (d := 19) rfl)
                have hgy1060 := up_n egy767 hgy1059 (ne_o (i := i) (c := 22) (d := 20) rfl)
                have hgy1061 := up_n egy778 hgy1060 (ne_o (i := i) (c := 22) (d := 21) rfl)
                have hgy1062 := up_n egy984 hgy1061 (ne_o (i := i) (c := 22) (d := 20) rfl)
                have hgy1063 := (hfvy994 (i + 22) (ne_o (i := i) (c := 22) (d := 0) rfl)).trans hgy1062
                have hgy1064 := up_n egy1001 hgy1063 (ne_o (i := i) (c := 22) (d := 0) rfl)
                have hgy1065 := (hfvy32 (i + 23) (ne_o (i := i) (c := 23) (d := 0) rfl)).trans ha23
                have hgy1066 := (hfvy34 (i + 23) (ne_o (i := i) (c := 23) (d := 0) rfl)).trans hgy1065
                have hgy1067 := (hfvy752 (i + 23) (ne_o (i := i) (c := 23) (d := 0) rfl)).trans hgy1066
                have hgy1068 := up_n egy757 hgy1067 (ne_o (i := i) (c := 23) (d := 19) rfl)
                have hgy1069 := up_n egy767 hgy1068 (ne_o (i := i) (c := 23) (d := 20) rfl)
                have hgy1070 := up_n egy778 hgy1069 (ne_o (i := i) (c := 23) (d := 21) rfl)
                have hgy1071 := up_n egy984 hgy1070 (ne_o (i := i) (c := 23) (d := 20) rfl)
                have hgy1072 := (hfvy994 (i + 23) (ne_o (i := i) (c := 23) (d := 0) rfl)).trans hgy1071
                have hgy1073 := up_n egy1001 hgy1072 (ne_o (i := i) (c := 23) (d := 0) rfl)
                have htxy1074 : okTx cs gy1000 i (uZ Fvy994 48 ((F 48) + 1)) := ⟨_, _, _, _, _, _, _, _, ⟨hgy1028, hgy1037, hgy1046, hgy1051, hgy1052, hgy1055, hgy1064, hgy1073⟩, ⟨⟨by omega, by omega, by omega⟩, hop1, hmn1, haky1011, haky1014, htb1, hlay1019⟩⟩
                exact z_vret C hr hlk dX10_hour1_207 (by decide) (by decide) ⟨rfl, rfl, rfl, ⟨_, hgy1002, (RD.put hdvy994 (by decide)), by omega, by omega, hFy1003, htxy1074⟩, fun j j1 j2 => by rw [egy1001, va_up_ne _ _ (by omega)]; rw [hfvy994 _ (by omega)]; rw [egy984, va_up_ne _ _ (by omega)]; rw [egy778, va_up_ne _ _ (by omega)]; rw [egy767, va_up_ne _ _ (by omega)]; rw [egy757, va_up_ne _ _ (by omega)]; rw [hfvy752 _ (by omega)]; rw [hfvy34 _ (by omega)]; rw [hfvy32 _ (by omega)]⟩
              · refine z_aload_n C 2 dX10_hour1_181 rfl ?_
                refine z_get (v := .ref (ad (i + 21))) C (by omega) hay1 hcvy994 rfl inA_X10 44 (by decide) q_1503 rfl rfl dX10_hour1_182 ?_
                refine z_aload_n C 2 dX10_hour1_185 rfl ?_
                refine z_get (v := .int (zI (F 48))) C (by omega) hay1 hcvy994 rfl inA_X10 48 (by decide) q_1507 rfl (fv (F := Fvy994) (f := 48) ((hFvy994 48 (by decide) (by decide) (by decide) (by decide) (by decide)).trans ((hFvy752 48 (by decide) (by decide) (by decide) (by decide) (by decide) (by decide) (by decide)).trans ((hFvy34 48 (by decide) (by decide) (by decide) (by decide) (by decide)).trans (hFvy32 48 (by decide) (by decide)))))) dX10_hour1_186 ?_
                refine z_aload_n C 2 dX10_hour1_189 rfl ?_
                refine z_iconst (z := 1) C dX10_hour1_190 rfl ?_
                refine z_bipush (z := 50) C dX10_hour1_191 (by decide) ?_
                have hgy1075 := (hfvy994 (i + 13) (ne_o (i := i) (c := 13) (d := 0) rfl)).trans hgy993
                refine z_cV (As := [.int (zI (1)), .int (zI (50))]) (rest := [.int (zI (F 48)), .ref (ad (i + 21))]) (ci := 12) C (c_X10_number l D A cs tt N ad _ i hN _ hcvy994 _ hgy1075 htp hdvy994 (1) (by omega) (50) (by omega)) (by omega) hay1 hcvy994 rfl rfl mv_yX10_number q_1682 hd_yX10_number (by decide) (Nat.le_of_ble_eq_true rfl) (by decide) dX10_hour1_193 rfl (kI0 fun vy1076 gvy1076 hvy1076 => ?_)
                obtain ⟨hrvy1076, ⟨Fvy1076, hcvy1076, hdvy1076, hlvy1076, hsvy1076, hFvy1076⟩, hfvy1076⟩ := hvy1076
                rw [show Fvy994 32 = Fvy994 32 from rfl] at hlvy1076
                rw [show Fvy994 38 = 0 from ((hFvy994 38 (by decide) (by decide) (by decide) (by decide) (by decide)).trans hxvy752), show Fvy994 35 = Fvy994 35 from rfl] at hsvy1076
                have h34vy1076 : Fvy1076 34 = F 34 := (hFvy1076 34 (by decide) (by decide) (by decide) (by decide) (by decide) (by decide) (by decide)).trans (((hFvy994 34 (by decide) (by decide) (by decide) (by decide) (by decide)).trans ((hFvy752 34 (by decide) (by decide) (by decide) (by decide) (by decide) (by decide) (by decide)).trans ((hFvy34 34 (by decide) (by decide) (by decide) (by decide) (by decide)).trans (hFvy32 34 (by decide) (by decide))))))
                obtain ⟨d32vy1076, -, d35vy1076, d36vy1076, -, d37vy1076, d38vy1076⟩ := id hdvy1076
                clear hsvy1076
                have hgy1077 := up_n egy984 hgy779 (ne_o (i := i) (c := 21) (d := 20) rfl)
                have hgy1078 := (hfvy994 (i + 21) (ne_o (i := i) (c := 21) (d := 0) rfl)).trans hgy1077
                have hgy1079 := (hfvy1076 (i + 21) (ne_o (i := i) (c := 21) (d := 0) rfl)).trans hgy1078
                refine z_iast C (by omega) hay8 hgy1079 ((F 48).toNat) (by omega) (by omega) (by decide) dX10_hour1_196 (fun gy1080 egy1081 => ?_)
                have hgy1082 := up_s egy1081
                obtain ⟨ry1083, hvy1084⟩ : ∃ rZ9 : Nat → Int, rZ9 = uZ ry780 ((F 48).toNat) (vy1076) := ⟨_, rfl⟩
                rw [← hvy1084] at hgy1082
                refine z_aload_n C 2 dX10_hour1_197 rfl ?_
                refine z_dup C dX10_hour1_198 rfl ?_
                have hgy1085 := up_n egy1081 hcvy1076 (ne_o (i := i) (c := 0) (d := 21) rfl)
                refine z_get (v := .int (zI (F 48))) C (by omega) hay1 hgy1085 rfl inA_X10 48 (by decide) q_1507 rfl (fv (F := Fvy1076) (f := 48) ((hFvy1076 48 (by decide) (by decide) (by decide) (by decide) (by decide) (by decide) (by decide)).trans ((hFvy994 48 (by decide) (by decide) (by decide) (by decide) (by decide)).trans ((hFvy752 48 (by decide) (by decide) (by decide) (by decide) (by decide) (by decide) (by decide)).trans ((hFvy34 48 (by decide) (by decide) (by decide) (by decide) (by decide)).trans (hFvy32 48 (by decide) (by decide))))))) dX10_hour1_199 ?_
                refine z_iconst (z := 1) C dX10_hour1_202 rfl ?_
                refine z_iadd C dX10_hour1_203 ?_
                refine z_put (fs' := mF ad (i) (uZ Fvy1076 48 ((F 48) + 1))) C (by omega) hay1 hgy1085 tyX10 tyX10_ok nmX10 rfl inA_X10 48 (by decide) q_1507 rfl rfl rfl rfl (Nat.le_of_ble_eq_true rfl) rfl dX10_hour1_204 (fun gy1086 egy1087 => ?_)
                have hgy1088 := up_s egy1087
                have hFy1089 : ∀ f, f ≠ 24 → f ≠ 32 → f ≠ 33 → f ≠ 35 → f ≠ 36 → f ≠ 37 → f ≠ 38 → f ≠ 47 → f ≠ 48 → f ≠ 49 → (uZ Fvy1076 48 ((F 48) + 1)) f = F f := fun f n24 n32 n33 n35 n36 n37 n38 n47 n48 n49 => ((uZ_n _ _ n48).trans ((hFvy1076 f n24 n32 n33 n35 n36 n37 n38).trans ((hFvy994 f n32 n33 n35 n36 n37).trans ((hFvy752 f n24 n32 n33 n35 n36 n37 n38).trans ((hFvy34 f n32 n33 n35 n36 n37).trans (hFvy32 f n24 n38))))))
                have hey1090 : (uZ Fvy1076 48 ((F 48) + 1)) 32 = Fvy1076 32 := (fn rfl (by decide))
                have hey1091 : (uZ Fvy1076 48 ((F 48) + 1)) 35 = Fvy1076 35 := (fn rfl (by decide))
                have hey1092 : (uZ Fvy1076 48 ((F 48) + 1)) 38 = Fvy1076 38 := (fn rfl (by decide))
                have hey1093 : (uZ Fvy1076 48 ((F 48) + 1)) 32 = Fvy1076 32 := (fn rfl (by decide))
                have hey1094 : (uZ Fvy1076 48 ((F 48) + 1)) 47 = F 47 := (fn ((hFvy1076 47 (by decide) (by decide) (by decide) (by decide) (by decide) (by decide) (by decide)).trans ((hFvy994 47 (by decide) (by decide) (by decide) (by decide) (by decide)).trans ((hFvy752 47 (by decide) (by decide) (by decide) (by decide) (by decide) (by decide) (by decide)).trans ((hFvy34 47 (by decide) (by decide) (by decide) (by decide) (by decide)).trans (hFvy32 47 (by decide) (by decide)))))) (by decide))
                have hey1095 : (uZ Fvy1076 48 ((F 48) + 1)) 48 = (F 48) + 1 := (uZ_s _ _ _)
                have hey1096 : (uZ Fvy1076 48 ((F 48) + 1)) 49 = F 49 := (fn ((hFvy1076 49 (by decide) (by decide) (by decide) (by decide) (by decide) (by decide) (by decide)).trans ((hFvy994 49 (by decide) (by decide) (by decide) (by decide) (by decide)).trans ((hFvy752 49 (by decide) (by decide) (by decide) (by decide) (by decide) (by decide) (by decide)).trans ((hFvy34 49 (by decide) (by decide) (by decide) (by decide) (by decide)).trans (hFvy32 49 (by decide) (by decide)))))) (by decide))
                have hfry1098 : ∀ j, j ≠ (F 48).toNat → ry759 j = ai1 j := fun j n0 => (congrFun hvy760 _).trans ((uZ_n _ _ n0).trans (rfl))
                have hwy1099 : ry759 ((F 48).toNat) = vy752 := (congrFun hvy760 _).trans (uZ_s _ _ _)
                have haky1097 : ∀ k, k < 24 → -300 ≤ ry759 k ∧ ry759 k ≤ 100 := by
                  intro k hk
                  by_cases e : k = (F 48).toNat
                  · rw [e]; have hk0 := hai1 ((F 48).toNat) (by omega); omega
                  · have hk0 := hai1 k hk; rw [hfry1098 k e]; exact hk0
                have hfry1101 : ∀ j, j ≠ (F 48).toNat → ry986 j = fa1 j := fun j n0 => (congrFun hvy987 _).trans ((uZ_n _ _ n0).trans ((congrFun hvy770 _).trans ((uZ_n _ _ n0).trans (rfl))))
                have hfry1102 : ∀ j, j ≠ (F 48).toNat → ry1083 j = mu1 j := fun j n0 => (congrFun hvy1084 _).trans ((uZ_n _ _ n0).trans ((congrFun hvy781 _).trans ((uZ_n _ _ n0).trans (rfl))))
                have hwy1103 : ry986 ((F 48).toNat) = ((Fvy752 37) - 3) + 1 := (congrFun hvy987 _).trans (uZ_s _ _ _)
                have hwy1104 : ry1083 ((F 48).toNat) = vy1076 := (congrFun hvy1084 _).trans (uZ_s _ _ _)
                have haky1100 : ∀ k, k < 24 → (0 ≤ ry986 k ∧ ry986 k ≤ 3) ∧ (0 ≤ ry1083 k ∧ ry1083 k ≤ 50) ∧ (ry986 k = 1 ∨ ry986 k = 2 → 1 ≤ ry1083 k) := by
                  intro k hk
                  by_cases e : k = (F 48).toNat
                  · rw [e]; have hk0 := hfa1 ((F 48).toNat) (by omega); omega
                  · have hk0 := hfa1 k hk; rw [hfry1101 k e]; rw [hfry1102 k e]; exact hk0
                have hlay1105 : ∀ s l : Nat, (s : Int) < (uZ Fvy1076 48 ((F 48) + 1)) 47 → (l : Int) < mn1 s → lyT ly1 (84 * s + 7 * l) := fun s l a1 a2 => hly1 s l (by omega) a2
                have hgy1106 := (hfvy32 (i + 16) (ne_o (i := i) (c := 16) (d := 0) rfl)).trans ha16
                have hgy1107 := (hfvy34 (i + 16) (ne_o (i := i) (c := 16) (d := 0) rfl)).trans hgy1106
                have hgy1108 := (hfvy752 (i + 16) (ne_o (i := i) (c := 16) (d := 0) rfl)).trans hgy1107
                have hgy1109 := up_n egy757 hgy1108 (ne_o (i := i) (c := 16) (d := 19) rfl)
                have hgy1110 := up_n egy767 hgy1109 (ne_o (i := i) (c := 16) (d := 20) rfl)
                have hgy1111 := up_n egy778 hgy1110 (ne_o (i := i) (c := 16) (d := 21) rfl)
                have hgy1112 := up_n egy984 hgy1111 (ne_o (i := i) (c := 16) (d := 20) rfl)
                have hgy1113 := (hfvy994 (i + 16) (ne_o (i := i) (c := 16) (d := 0) rfl)).trans hgy1112
                have hgy1114 := (hfvy1076 (i + 16) (ne_o (i := i) (c := 16) (d := 0) rfl)).trans hgy1113
                have hgy1115 := up_n egy1081 hgy1114 (ne_o (i := i) (c := 16) (d := 21) rfl)
                have hgy1116 := up_n egy1087 hgy1115 (ne_o (i := i) (c := 16) (d := 0) rfl)
                have hgy1117 := (hfvy32 (i + 17) (ne_o (i := i) (c := 17) (d := 0) rfl)).trans ha17
                have hgy1118 := (hfvy34 (i + 17) (ne_o (i := i) (c := 17) (d := 0) rfl)).trans hgy1117
                have hgy1119 := (hfvy752 (i + 17) (ne_o (i := i) (c := 17) (d := 0) rfl)).trans hgy1118
                have hgy1120 := up_n egy757 hgy1119 (ne_o (i := i) (c := 17) (d := 19) rfl)
                have hgy1121 := up_n egy767 hgy1120 (ne_o (i := i) (c := 17) (d := 20) rfl)
                have hgy1122 := up_n egy778 hgy1121 (ne_o (i := i) (c := 17) (d := 21) rfl)
                have hgy1123 := up_n egy984 hgy1122 (ne_o (i := i) (c := 17) (d := 20) rfl)
                have hgy1124 := (hfvy994 (i + 17) (ne_o (i := i) (c := 17) (d := 0) rfl)).trans hgy1123
                have hgy1125 := (hfvy1076 (i + 17) (ne_o (i := i) (c := 17) (d := 0) rfl)).trans hgy1124
                have hgy1126 := up_n egy1081 hgy1125 (ne_o (i := i) (c := 17) (d := 21) rfl)
                have hgy1127 := up_n egy1087 hgy1126 (ne_o (i := i) (c := 17) (d := 0) rfl)
                have hgy1128 := (hfvy32 (i + 18) (ne_o (i := i) (c := 18) (d := 0) rfl)).trans ha18
                have hgy1129 := (hfvy34 (i + 18) (ne_o (i := i) (c := 18) (d := 0) rfl)).trans hgy1128
                have hgy1130 := (hfvy752 (i + 18) (ne_o (i := i) (c := 18) (d := 0) rfl)).trans hgy1129
                have hgy1131 := up_n egy757 hgy1130 (ne_o (i := i) (c := 18) (d := 19) rfl)
                have hgy1132 := up_n egy767 hgy1131 (ne_o (i := i) (c := 18) (d := 20) rfl)
                have hgy1133 := up_n egy778 hgy1132 (ne_o (i := i) (c := 18) (d := 21) rfl)
                have hgy1134 := up_n egy984 hgy1133 (ne_o (i := i) (c := 18) (d := 20) rfl)
                have hgy1135 := (hfvy994 (i + 18) (ne_o (i := i) (c := 18) (d := 0) rfl)).trans hgy1134
                have hgy1136 := (hfvy1076 (i + 18) (ne_o (i := i) (c := 18) (d := 0) rfl)).trans hgy1135
                have hgy1137 := up_n egy1081 hgy1136 (ne_o (i := i) (c := 18) (d := 21) rfl)
                have hgy1138 := up_n egy1087 hgy1137 (ne_o (i := i) (c := 18) (d := 0) rfl)
                have hgy1139 := up_n egy767 hgy758 (ne_o (i := i) (c := 19) (d := 20) rfl)
                have hgy1140 := up_n egy778 hgy1139 (ne_o (i := i) (c := 19) (d := 21) rfl)
                have hgy1141 := up_n egy984 hgy1140 (ne_o (i := i) (c := 19) (d := 20) rfl)
                have hgy1142 := (hfvy994 (i + 19) (ne_o (i := i) (c := 19) (d := 0) rfl)).trans hgy1141
                have hgy1143 := (hfvy1076 (i + 19) (ne_o (i := i) (c := 19) (d := 0) rfl)).trans hgy1142
                have hgy1144 := up_n egy1081 hgy1143 (ne_o (i := i) (c := 19) (d := 21) rfl)
                have hgy1145 := up_n egy1087 hgy1144 (ne_o (i := i) (c := 19) (d := 0) rfl)
                have hgy1146 := (hfvy1076 (i + 20) (ne_o (i := i) (c := 20) (d := 0) rfl)).trans hgy995
                have hgy1147 := up_n egy1081 hgy1146 (ne_o (i := i) (c := 20) (d := 21) rfl)
                have hgy1148 := up_n egy1087 hgy1147 (ne_o (i := i) (c := 20) (d := 0) rfl)
                have hgy1149 := up_n egy1087 hgy1082 (ne_o (i := i) (c := 21) (d := 0) rfl)
                have hgy1150 := (hfvy32 (i + 22) (ne_o (i := i) (c := 22) (d := 0) rfl)).trans ha22
                have hgy1151 := (hfvy34 (i + 22) (ne_o (i := i) (c := 22) (d := 0) rfl)).trans hgy1150
                have hgy1152 := (hfvy752 (i + 22) (ne_o (i := i) (c := 22) (d := 0) rfl)).trans hgy1151
                have hgy1153 := up_n egy757 hgy1152 (ne_o (i := i) (c := 22) (d := 19) rfl)
                have hgy1154 := up_n egy767 hgy1153 (ne_o (i := i) (c := 22) (d := 20) rfl)
                have hgy1155 := up_n egy778 hgy1154 (ne_o (i := i) (c := 22) (d := 21) rfl)
                have hgy1156 := up_n egy984 hgy1155 (ne_o (i := i) (c := 22) (d := 20) rfl)
                have hgy1157 := (hfvy994 (i + 22) (ne_o (i := i) (c := 22) (d := 0) rfl)).trans hgy1156
                have hgy1158 := (hfvy1076 (i + 22) (ne_o (i := i) (c := 22) (d := 0) rfl)).trans hgy1157
                have hgy1159 := up_n egy1081 hgy1158 (ne_o (i := i) (c := 22) (d := 21) rfl)
                have hgy1160 := up_n egy1087 hgy1159 (ne_o (i := i) (c := 22) (d := 0) rfl)
                have hgy1161 := (hfvy32 (i + 23) (ne_o (i := i) (c := 23) (d := 0) rfl)).trans ha23
                have hgy1162 := (hfvy34 (i + 23) (ne_o (i := i) (c := 23) (d := 0) rfl)).trans hgy1161
                have hgy1163 := (hfvy752 (i + 23) (ne_o (i := i) (c := 23) (d := 0) rfl)).trans hgy1162
                have hgy1164 := up_n egy757 hgy1163 (ne_o (i := i) (c := 23) (d := 19) rfl)
                have hgy1165 := up_n egy767 hgy1164 (ne_o (i := i) (c := 23) (d := 20) rfl)
                have hgy1166 := up_n egy778 hgy1165 (ne_o (i := i) (c := 23) (d := 21) rfl)
                have hgy1167 := up_n egy984 hgy1166 (ne_o (i := i) (c := 23) (d := 20) rfl)
                have hgy1168 := (hfvy994 (i + 23) (ne_o (i := i) (c := 23) (d := 0) rfl)).trans hgy1167
                have hgy1169 := (hfvy1076 (i + 23) (ne_o (i := i) (c := 23) (d := 0) rfl)).trans hgy1168
                have hgy1170 := up_n egy1081 hgy1169 (ne_o (i := i) (c := 23) (d := 21) rfl)
                have hgy1171 := up_n egy1087 hgy1170 (ne_o (i := i) (c := 23) (d := 0) rfl)
                have htxy1172 : okTx cs gy1086 i (uZ Fvy1076 48 ((F 48) + 1)) := ⟨_, _, _, _, _, _, _, _, ⟨hgy1116, hgy1127, hgy1138, hgy1145, hgy1148, hgy1149, hgy1160, hgy1171⟩, ⟨⟨by omega, by omega, by omega⟩, hop1, hmn1, haky1097, haky1100, htb1, hlay1105⟩⟩
                exact z_vret C hr hlk dX10_hour1_207 (by decide) (by decide) ⟨rfl, rfl, rfl, ⟨_, hgy1088, (RD.put hdvy1076 (by decide)), by omega, by omega, hFy1089, htxy1172⟩, fun j j1 j2 => by rw [egy1087, va_up_ne _ _ (by omega)]; rw [egy1081, va_up_ne _ _ (by omega)]; rw [hfvy1076 _ (by omega)]; rw [hfvy994 _ (by omega)]; rw [egy984, va_up_ne _ _ (by omega)]; rw [egy778, va_up_ne _ _ (by omega)]; rw [egy767, va_up_ne _ _ (by omega)]; rw [egy757, va_up_ne _ _ (by omega)]; rw [hfvy752 _ (by omega)]; rw [hfvy34 _ (by omega)]; rw [hfvy32 _ (by omega)]⟩
            · clear hqvy978
              refine z_if_ne (tgt := 147) C dX10_hour1_136 (by decide) (by omega) (fun h => absurd h (by omega)) (fun _ => ?_)
              refine z_aload_n C 2 dX10_hour1_139 rfl ?_
              refine z_iconst (z := 5) C dX10_hour1_140 rfl ?_
              have hey1174 : Fvy752 38 = 0 := hxvy752
              have hey1175 : Fvy752 35 = Fvy752 35 := rfl
              have hey1176 : Fvy752 37 = Fvy752 37 := rfl
              refine z_cV (As := [.int (zI (5))]) (rest := []) (ci := 12) C (c_X10_is l D A cs tt N ad _ i hN _ hgy782 hdvy752 (5) (by omega)) (by omega) hay1 hgy782 rfl rfl mv_yX10_is q_1705 hd_yX10_is (by decide) (Nat.le_of_ble_eq_true rfl) (by decide) dX10_hour1_141 rfl (kI0 fun vy1173 gvy1173 hvy1173 => ?_)
              rw [hey1174, hey1175, hey1176] at hvy1173
              clear hey1174 hey1175 hey1176
              obtain ⟨hrvy1173, hqvy1173, rfl⟩ := hvy1173
              rcases (show vy1173 = 1 ∨ vy1173 = 0 by omega) with rfl | rfl
              · have hkvy1173 := hqvy1173 rfl
                clear hqvy1173
                refine z_if_eq (tgt := 197) C dX10_hour1_144 (by decide) (by omega) (fun h => absurd h (by omega)) (fun _ => ?_)
                refine z_aload_n C 2 dX10_hour1_147 rfl ?_
                refine z_get (v := .ref (ad (i + 20))) C (by omega) hay1 hgy782 rfl inA_X10 43 (by decide) q_1502 rfl rfl dX10_hour1_148 ?_
                refine z_aload_n C 2 dX10_hour1_151 rfl ?_
                refine z_get (v := .int (zI (F 48))) C (by omega) hay1 hgy782 rfl inA_X10 48 (by decide) q_1507 rfl (fv (F := Fvy752) (f := 48) ((hFvy752 48 (by decide) (by decide) (by decide) (by decide) (by decide) (by decide) (by decide)).trans ((hFvy34 48 (by decide) (by decide) (by decide) (by decide) (by decide)).trans (hFvy32 48 (by decide) (by decide))))) dX10_hour1_152 ?_
                refine z_aload_n C 2 dX10_hour1_155 rfl ?_
                refine z_get (v := .int (zI (Fvy752 37))) C (by omega) hay1 hgy782 rfl inA_X10 37 (by decide) q_1496 rfl (fv (F := Fvy752) (f := 37) rfl) dX10_hour1_156 ?_
                refine z_iconst (z := 3) C dX10_hour1_159 rfl ?_
                refine z_isub C dX10_hour1_160 ?_
                refine z_iconst (z := 1) C dX10_hour1_161 rfl ?_
                refine z_iadd C dX10_hour1_162 ?_
                have hgy1177 := up_n egy778 hgy768 (ne_o (i := i) (c := 20) (d := 21) rfl)
                refine z_iast C (by omega) hay7 hgy1177 ((F 48).toNat) (by omega) (by omega) (by decide) dX10_hour1_163 (fun gy1178 egy1179 => ?_)
                have hgy1180 := up_s egy1179
                obtain ⟨ry1181, hvy1182⟩ : ∃ rZ9 : Nat → Int, rZ9 = uZ ry769 ((F 48).toNat) (((Fvy752 37) - 3) + 1) := ⟨_, rfl⟩
                rw [← hvy1182] at hgy1180
                refine z_aload_n C 2 dX10_hour1_164 rfl ?_
                have hgy1183 := up_n egy1179 hgy782 (ne_o (i := i) (c := 0) (d := 20) rfl)
                have hgy1184 := (hfvy752 (i + 13) (ne_o (i := i) (c := 13) (d := 0) rfl)).trans hgy751
                have hgy1185 := up_n egy757 hgy1184 (ne_o (i := i) (c := 13) (d := 19) rfl)
                have hgy1186 := up_n egy767 hgy1185 (ne_o (i := i) (c := 13) (d := 20) rfl)
                have hgy1187 := up_n egy778 hgy1186 (ne_o (i := i) (c := 13) (d := 21) rfl)
                have hgy1188 := up_n egy1179 hgy1187 (ne_o (i := i) (c := 13) (d := 20) rfl)
                refine z_cV (As := []) (rest := []) (ci := 12) C (c_X10_go l D A cs tt N ad _ i hN _ hgy1183 _ hgy1188 htp hdvy752) (by omega) hay1 hgy1183 rfl rfl mv_yX10_go q_1652 hd_yX10_go (by decide) (Nat.le_of_ble_eq_true rfl) (by decide) dX10_hour1_165 rfl (kV0 fun gvy1189 hvy1189 => ?_)
                obtain ⟨⟨Fvy1189, hcvy1189, hdvy1189, hlvy1189, hsvy1189, hFvy1189⟩, hfvy1189⟩ := hvy1189
                rw [show Fvy752 32 = Fvy752 32 from rfl] at hlvy1189 hsvy1189
                have h34vy1189 : Fvy1189 34 = F 34 := (hFvy1189 34 (by decide) (by decide) (by decide) (by decide) (by decide)).trans (((hFvy752 34 (by decide) (by decide) (by decide) (by decide) (by decide) (by decide) (by decide)).trans ((hFvy34 34 (by decide) (by decide) (by decide) (by decide) (by decide)).trans (hFvy32 34 (by decide) (by decide)))))
                obtain ⟨d32vy1189, -, d35vy1189, d36vy1189, -, d37vy1189, d38vy1189⟩ := id hdvy1189
                have h38vy1189 : Fvy1189 38 = 0 := ((hFvy1189 38 (by decide) (by decide) (by decide) (by decide) (by decide)).trans hxvy752)
                clear hsvy1189
                refine z_aload_n C 2 dX10_hour1_168 rfl ?_
                refine z_get (v := .ref (ad (i + 20))) C (by omega) hay1 hcvy1189 rfl inA_X10 43 (by decide) q_1502 rfl rfl dX10_hour1_169 ?_
                refine z_aload_n C 2 dX10_hour1_172 rfl ?_
                refine z_get (v := .int (zI (F 48))) C (by omega) hay1 hcvy1189 rfl inA_X10 48 (by decide) q_1507 rfl (fv (F := Fvy1189) (f := 48) ((hFvy1189 48 (by decide) (by decide) (by decide) (by decide) (by decide)).trans ((hFvy752 48 (by decide) (by decide) (by decide) (by decide) (by decide) (by decide) (by decide)).trans ((hFvy34 48 (by decide) (by decide) (by decide) (by decide) (by decide)).trans (hFvy32 48 (by decide) (by decide)))))) dX10_hour1_173 ?_
                have hgy1190 := (hfvy1189 (i + 20) (ne_o (i := i) (c := 20) (d := 0) rfl)).trans hgy1180
                refine z_iald C (by omega) hay7 hgy1190 ((F 48).toNat) (by omega) (by omega) (by decide) dX10_hour1_176 ?_
                rw [show ry1181 ((F 48).toNat) = ((Fvy752 37) - 3) + 1 from (congrFun hvy1182 _).trans (uZ_s _ _ _)]
                refine z_iconst (z := 3) C dX10_hour1_177 rfl ?_
                obtain ⟨xy1191, exy1192, hxy1193⟩ := zI_of (zI (((Fvy752 37) - 3) + 1))
                rw [exy1192]
                refine z_icmp_ge (tgt := 197) C dX10_hour1_178 (by decide) (by omega) (by omega) (fun hby1194 => ?_) (fun hby1194 => ?_)
                · refine z_aload_n C 2 dX10_hour1_197 rfl ?_
                  refine z_dup C dX10_hour1_198 rfl ?_
                  refine z_get (v := .int (zI (F 48))) C (by omega) hay1 hcvy1189 rfl inA_X10 48 (by decide) q_1507 rfl (fv (F := Fvy1189) (f := 48) ((hFvy1189 48 (by decide) (by decide) (by decide) (by decide) (by decide)).trans ((hFvy752 48 (by decide) (by decide) (by decide) (by decide) (by decide) (by decide) (by decide)).trans ((hFvy34 48 (by decide) (by decide) (by decide) (by decide) (by decide)).trans (hFvy32 48 (by decide) (by decide)))))) dX10_hour1_199 ?_
                  refine z_iconst (z := 1) C dX10_hour1_202 rfl ?_
                  refine z_iadd C dX10_hour1_203 ?_
                  refine z_put (fs' := mF ad (i) (uZ Fvy1189 48 ((F 48) + 1))) C (by omega) hay1 hcvy1189 tyX10 tyX10_ok nmX10 rfl inA_X10 48 (by decide) q_1507 rfl rfl rfl rfl (Nat.le_of_ble_eq_true rfl) rfl dX10_hour1_204 (fun gy1195 egy1196 => ?_)
                  have hgy1197 := up_s egy1196
                  have hFy1198 : ∀ f, f ≠ 24 → f ≠ 32 → f ≠ 33 → f ≠ 35 → f ≠ 36 → f ≠ 37 → f ≠ 38 → f ≠ 47 → f ≠ 48 → f ≠ 49 → (uZ Fvy1189 48 ((F 48) + 1)) f = F f := fun f n24 n32 n33 n35 n36 n37 n38 n47 n48 n49 => ((uZ_n _ _ n48).trans ((hFvy1189 f n32 n33 n35 n36 n37).trans ((hFvy752 f n24 n32 n33 n35 n36 n37 n38).trans ((hFvy34 f n32 n33 n35 n36 n37).trans (hFvy32 f n24 n38)))))
                  have hey1199 : (uZ Fvy1189 48 ((F 48) + 1)) 32 = Fvy1189 32 := (fn rfl (by decide))
                  have hey1200 : (uZ Fvy1189 48 ((F 48) + 1)) 35 = Fvy1189 35 := (fn rfl (by decide))
                  have hey1201 : (uZ Fvy1189 48 ((F 48) + 1)) 38 = 0 := (fn ((hFvy1189 38 (by decide) (by decide) (by decide) (by decide) (by decide)).trans hxvy752) (by decide))
                  have hey1202 : (uZ Fvy1189 48 ((F 48) + 1)) 32 = Fvy1189 32 := (fn rfl (by decide))
                  have hey1203 : (uZ Fvy1189 48 ((F 48) + 1)) 47 = F 47 := (fn ((hFvy1189 47 (by decide) (by decide) (by decide) (by decide) (by decide)).trans ((hFvy752 47 (by decide) (by decide) (by decide) (by decide) (by decide) (by decide) (by decide)).trans ((hFvy34 47 (by decide) (by decide) (by decide) (by decide) (by decide)).trans (hFvy32 47 (by decide) (by decide))))) (by decide))
                  have hey1204 : (uZ Fvy1189 48 ((F 48) + 1)) 48 = (F 48) + 1 := (uZ_s _ _ _)
                  have hey1205 : (uZ Fvy1189 48 ((F 48) + 1)) 49 = F 49 := (fn ((hFvy1189 49 (by decide) (by decide) (by decide) (by decide) (by decide)).trans ((hFvy752 49 (by decide) (by decide) (by decide) (by decide) (by decide) (by decide) (by decide)).trans ((hFvy34 49 (by decide) (by decide) (by decide) (by decide) (by decide)).trans (hFvy32 49 (by decide) (by decide))))) (by decide))
                  have hfry1207 : ∀ j, j ≠ (F 48).toNat → ry759 j = ai1 j := fun j n0 => (congrFun hvy760 _).trans ((uZ_n _ _ n0).trans (rfl))
                  have hwy1208 : ry759 ((F 48).toNat) = vy752 := (congrFun hvy760 _).trans (uZ_s _ _ _)
                  have haky1206 : ∀ k, k < 24 → -300 ≤ ry759 k ∧ ry759 k ≤ 100 := by
                    intro k hk
                    by_cases e : k = (F 48).toNat
                    · rw [e]; have hk0 := hai1 ((F 48).toNat) (by omega); omega
                    · have hk0 := hai1 k hk; rw [hfry1207 k e]; exact hk0
                  have hfry1210 : ∀ j, j ≠ (F 48).toNat → ry1181 j = fa1 j := fun j n0 => (congrFun hvy1182 _).trans ((uZ_n _ _ n0).trans ((congrFun hvy770 _).trans ((uZ_n _ _ n0).trans (rfl))))
                  have hfry1211 : ∀ j, j ≠ (F 48).toNat → ry780 j = mu1 j := fun j n0 => (congrFun hvy781 _).trans ((uZ_n _ _ n0).trans (rfl))
                  have hwy1212 : ry1181 ((F 48).toNat) = ((Fvy752 37) - 3) + 1 := (congrFun hvy1182 _).trans (uZ_s _ _ _)
                  have hwy1213 : ry780 ((F 48).toNat) = 0 := (congrFun hvy781 _).trans (uZ_s _ _ _)
                  have haky1209 : ∀ k, k < 24 → (0 ≤ ry1181 k ∧ ry1181 k ≤ 3) ∧ (0 ≤ ry780 k ∧ ry780 k ≤ 50) ∧ (ry1181 k = 1 ∨ ry1181 k = 2 → 1 ≤ ry780 k) := by
                    intro k hk
                    by_cases e : k = (F 48).toNat
                    · rw [e]; have hk0 := hfa1 ((F 48).toNat) (by omega); omega
                    · have hk0 := hfa1 k hk; rw [hfry1210 k e]; rw [hfry1211 k e]; exact hk0
                  have hlay1214 : ∀ s l : Nat, (s : Int) < (uZ Fvy1189 48 ((F 48) + 1)) 47 → (l : Int) < mn1 s → lyT ly1 (84 * s + 7 * l) := fun s l a1 a2 => hly1 s l (by omega) a2
                  have hgy1215 := (hfvy32 (i + 16) (ne_o (i := i) (c := 16) (d := 0) rfl)).trans ha16
                  have hgy1216 := (hfvy34 (i + 16) (ne_o (i := i) (c := 16) (d := 0) rfl)).trans hgy1215
                  have hgy1217 := (hfvy752 (i + 16) (ne_o (i := i) (c := 16) (d := 0) rfl)).trans hgy1216
                  have hgy1218 := up_n egy757 hgy1217 (ne_o (i := i) (c := 16) (d := 19) rfl)
                  have hgy1219 := up_n egy767 hgy1218 (ne_o (i := i) (c := 16) (d := 20) rfl)
                  have hgy1220 := up_n egy778 hgy1219 (ne_o (i := i) (c := 16) (d := 21) rfl)
                  have hgy1221 := up_n egy1179 hgy1220 (ne_o (i := i) (c := 16) (d := 20) rfl)
                  have hgy1222 := (hfvy1189 (i + 16) (ne_o (i := i) (c := 16) (d := 0) rfl)).trans hgy1221
                  have hgy1223 := up_n egy1196 hgy1222 (ne_o (i := i) (c := 16) (d := 0) rfl)
                  have hgy1224 := (hfvy32 (i + 17) (ne_o (i := i) (c := 17) (d := 0) rfl)).trans ha17
                  have hgy1225 := (hfvy34 (i + 17) (ne_o (i := i) (c := 17) (d := 0) rfl)).trans hgy1224
                  have hgy1226 := (hfvy752 (i + 17) (ne_o (i := i) (c := 17) (d := 0) rfl)).trans hgy1225
                  have hgy1227 := up_n egy757 hgy1226 (ne_o (i := i) (c := 17) (d := 19) rfl)
                  have hgy1228 := up_n egy767 hgy1227 (ne_o (i := i) (c := 17) (d := 20) rfl)
                  have hgy1229 := up_n egy778 hgy1228 (ne_o (i := i) (c := 17) (d := 21) rfl)
                  have hgy1230 := up_n egy1179 hgy1229 (ne_o (i := i) (c := 17) (d := 20) rfl)
                  have hgy1231 := (hfvy1189 (i + 17) (ne_o (i := i) (c := 17) (d := 0) rfl)).trans hgy1230
                  have hgy1232 := up_n egy1196 hgy1231 (ne_o (i := i) (c := 17) (d := 0) rfl)
                  have hgy1233 := (hfvy32 (i + 18) (ne_o (i := i) (c := 18) (d := 0) rfl)).trans ha18
                  have hgy1234 := (hfvy34 (i + 18) (ne_o (i := i) (c := 18) (d := 0) rfl)).trans hgy1233
                  have hgy1235 := (hfvy752 (i + 18) (ne_o (i := i) (c := 18) (d := 0) rfl)).trans hgy1234
                  have hgy1236 := up_n egy757 hgy1235 (ne_o (i := i) (c := 18) (d := 19) rfl)
                  have hgy1237 := up_n egy767 hgy1236 (ne_o (i := i) (c := 18) (d := 20) rfl)
                  have hgy1238 := up_n egy778 hgy1237 (ne_o (i := i) (c := 18) (d := 21) rfl)
                  have hgy1239 := up_n egy1179 hgy1238 (ne_o (i := i) (c := 18) (d := 20) rfl)
                  have hgy1240 := (hfvy1189 (i + 18) (ne_o (i := i) (c := 18) (d := 0) rfl)).trans hgy1239
                  have hgy1241 := up_n egy1196 hgy1240 (ne_o (i := i) (c := 18) (d := 0) rfl)
                  have hgy1242 := up_n egy767 hgy758 (ne_o (i := i) (c := 19) (d := 20) rfl)
                  have hgy1243 := up_n egy778 hgy1242 (ne_o (i := i) (c := 19) (d := 21) rfl)
                  have hgy1244 := up_n egy1179 hgy1243 (ne_o (i := i) (c := 19) (d := 20) rfl)
                  have hgy1245 := (hfvy1189 (i + 19) (ne_o (i := i) (c := 19) (d := 0) rfl)).trans hgy1244
                  have hgy1246 := up_n egy1196 hgy1245 (ne_o (i := i) (c := 19) (d := 0) rfl)
                  have hgy1247 := up_n egy1196 hgy1190 (ne_o (i := i) (c := 20) (d := 0) rfl)
                  have hgy1248 := up_n egy1179 hgy779 (ne_o (i := i) (c := 21) (d := 20) rfl)
                  have hgy1249 := (hfvy1189 (i + 21) (ne_o (i := i) (c := 21) (d := 0) rfl)).trans hgy1248
                  have hgy1250 := up_n egy1196 hgy1249 (ne_o (i := i) (c := 21) (d := 0) rfl)
                  have hgy1251 := (hfvy32 (i + 22) (ne_o (i := i) (c := 22) (d := 0) rfl)).trans ha22
                  have hgy1252 := (hfvy34 (i + 22) (ne_o (i := i) (c := 22) (d := 0) rfl)).trans hgy1251
                  have hgy1253 := (hfvy752 (i + 22) (ne_o (i := i) (c := 22) (d := 0) rfl)).trans hgy1252
                  have hgy1254 := up_n egy757 hgy1253 (ne_o (i := i) (c := 22) (d := 19) rfl)
                  have hgy1255 := up_n egy767 hgy1254 (ne_o (i := i) (c := 22) (d := 20) rfl)
                  have hgy1256 := up_n egy778 hgy1255 (ne_o (i := i) (c := 22) (d := 21) rfl)
                  have hgy1257 := up_n egy1179 hgy1256 (ne_o (i := i) (c := 22) (d := 20) rfl)
                  have hgy1258 := (hfvy1189 (i + 22) (ne_o (i := i) (c := 22) (d := 0) rfl)).trans hgy1257
                  have hgy1259 := up_n egy1196 hgy1258 (ne_o (i := i) (c := 22) (d := 0) rfl)
                  have hgy1260 := (hfvy32 (i + 23) (ne_o (i := i) (c := 23) (d := 0) rfl)).trans ha23
                  have hgy1261 := (hfvy34 (i + 23) (ne_o (i := i) (c := 23) (d := 0) rfl)).trans hgy1260
                  have hgy1262 := (hfvy752 (i + 23) (ne_o (i := i) (c := 23) (d := 0) rfl)).trans hgy1261
                  have hgy1263 := up_n egy757 hgy1262 (ne_o (i := i) (c := 23) (d := 19) rfl)
                  have hgy1264 := up_n egy767 hgy1263 (ne_o (i := i) (c := 23) (d := 20) rfl)
                  have hgy1265 := up_n egy778 hgy1264 (ne_o (i := i) (c := 23) (d := 21) rfl)
                  have hgy1266 := up_n egy1179 hgy1265 (ne_o (i := i) (c := 23) (d := 20) rfl)
                  have hgy1267 := (hfvy1189 (i + 23) (ne_o (i := i) (c := 23) (d := 0) rfl)).trans hgy1266
                  have hgy1268 := up_n egy1196 hgy1267 (ne_o (i := i) (c := 23) (d := 0) rfl)
                  have htxy1269 : okTx cs gy1195 i (uZ Fvy1189 48 ((F 48) + 1)) := ⟨_, _, _, _, _, _, _, _, ⟨hgy1223, hgy1232, hgy1241, hgy1246, hgy1247, hgy1250, hgy1259, hgy1268⟩, ⟨⟨by omega, by omega, by omega⟩, hop1, hmn1, haky1206, haky1209, htb1, hlay1214⟩⟩
                  exact z_vret C hr hlk dX10_hour1_207 (by decide) (by decide) ⟨rfl, rfl, rfl, ⟨_, hgy1197, (RD.put hdvy1189 (by decide)), by omega, by omega, hFy1198, htxy1269⟩, fun j j1 j2 => by rw [egy1196, va_up_ne _ _ (by omega)]; rw [hfvy1189 _ (by omega)]; rw [egy1179, va_up_ne _ _ (by omega)]; rw [egy778, va_up_ne _ _ (by omega)]; rw [egy767, va_up_ne _ _ (by omega)]; rw [egy757, va_up_ne _ _ (by omega)]; rw [hfvy752 _ (by omega)]; rw [hfvy34 _ (by omega)]; rw [hfvy32 _ (by omega)]⟩
                · refine z_aload_n C 2 dX10_hour1_181 rfl ?_
                  refine z_get (v := .ref (ad (i + 21))) C (by omega) hay1 hcvy1189 rfl inA_X10 44 (by decide) q_1503 rfl rfl dX10_hour1_182 ?_
                  refine z_aload_n C 2 dX10_hour1_185 rfl ?_
                  refine z_get (v := .int (zI (F 48))) C (by omega) hay1 hcvy1189 rfl inA_X10 48 (by decide) q_1507 rfl (fv (F := Fvy1189) (f := 48) ((hFvy1189 48 (by decide) (by decide) (by decide) (by decide) (by decide)).trans ((hFvy752 48 (by decide) (by decide) (by decide) (by decide) (by decide) (by decide) (by decide)).trans ((hFvy34 48 (by decide) (by decide) (by decide) (by decide) (by decide)).trans (hFvy32 48 (by decide) (by decide)))))) dX10_hour1_186 ?_
                  refine z_aload_n C 2 dX10_hour1_189 rfl ?_
                  refine z_iconst (z := 1) C dX10_hour1_190 rfl ?_
                  refine z_bipush (z := 50) C dX10_hour1_191 (by decide) ?_
                  have hgy1270 := (hfvy1189 (i + 13) (ne_o (i := i) (c := 13) (d := 0) rfl)).trans hgy1188
                  refine z_cV (As := [.int (zI (1)), .int (zI (50))]) (rest := [.int (zI (F 48)), .ref (ad (i + 21))]) (ci := 12) C (c_X10_number l D A cs tt N ad _ i hN _ hcvy1189 _ hgy1270 htp hdvy1189 (1) (by omega) (50) (by omega)) (by omega) hay1 hcvy1189 rfl rfl mv_yX10_number q_1682 hd_yX10_number (by decide) (Nat.le_of_ble_eq_true rfl) (by decide) dX10_hour1_193 rfl (kI0 fun vy1271 gvy1271 hvy1271 => ?_)
                  obtain ⟨hrvy1271, ⟨Fvy1271, hcvy1271, hdvy1271, hlvy1271, hsvy1271, hFvy1271⟩, hfvy1271⟩ := hvy1271
                  rw [show Fvy1189 32 = Fvy1189 32 from rfl] at hlvy1271
                  rw [show Fvy1189 38 = 0 from ((hFvy1189 38 (by decide) (by decide) (by decide) (by decide) (by decide)).trans hxvy752), show Fvy1189 35 = Fvy1189 35 from rfl] at hsvy1271
                  have h34vy1271 : Fvy1271 34 = F 34 := (hFvy1271 34 (by decide) (by decide) (by decide) (by decide) (by decide) (by decide) (by decide)).trans (((hFvy1189 34 (by decide) (by decide) (by decide) (by decide) (by decide)).trans ((hFvy752 34 (by decide) (by decide) (by decide) (by decide) (by decide) (by decide) (by decide)).trans ((hFvy34 34 (by decide) (by decide) (by decide) (by decide) (by decide)).trans (hFvy32 34 (by decide) (by decide))))))
                  obtain ⟨d32vy1271, -, d35vy1271, d36vy1271, -, d37vy1271, d38vy1271⟩ := id hdvy1271
                  clear hsvy1271
                  have hgy1272 := up_n egy1179 hgy779 (ne_o (i := i) (c := 21) (d := 20) rfl)
                  have hgy1273 := (hfvy1189 (i + 21) (ne_o (i := i) (c := 21) (d := 0) rfl)).trans hgy1272
                  have hgy1274 := (hfvy1271 (i + 21) (ne_o (i := i) (c := 21) (d := 0) rfl)).trans hgy1273
                  refine z_iast C (by omega) hay8 hgy1274 ((F 48).toNat) (by omega) (by omega) (by decide) dX10_hour1_196 (fun gy1275 egy1276 => ?_)
                  have hgy1277 := up_s egy1276
                  obtain ⟨ry1278, hvy1279⟩ : ∃ rZ9 : Nat → Int, rZ9 = uZ ry780 ((F 48).toNat) (vy1271) := ⟨_, rfl⟩
                  rw [← hvy1279] at hgy1277
                  refine z_aload_n C 2 dX10_hour1_197 rfl ?_
                  refine z_dup C dX10_hour1_198 rfl ?_
                  have hgy1280 := up_n egy1276 hcvy1271 (ne_o (i := i) (c := 0) (d := 21) rfl)
                  refine z_get (v := .int (zI (F 48))) C (by omega) hay1 hgy1280 rfl inA_X10 48 (by decide) q_1507 rfl (fv (F := Fvy1271) (f := 48) ((hFvy1271 48 (by decide) (by decide) (by decide) (by decide) (by decide) (by decide) (by decide)).trans ((hFvy1189 48 (by decide) (by decide) (by decide) (by decide) (by decide)).trans ((hFvy752 48 (by decide) (by decide) (by decide) (by decide) (by decide) (by decide) (by decide)).trans ((hFvy34 48 (by decide) (by decide) (by decide) (by decide) (by decide)).trans (hFvy32 48 (by decide) (by decide))))))) dX10_hour1_199 ?_
                  refine z_iconst (z := 1) C dX10_hour1_202 rfl ?_
                  refine z_iadd C dX10_hour1_203 ?_
                  refine z_put (fs' := mF ad (i) (uZ Fvy1271 48 ((F 48) + 1))) C (by omega) hay1 hgy1280 tyX10 tyX10_ok nmX10 rfl inA_X10 48 (by decide) q_1507 rfl rfl rfl rfl (Nat.le_of_ble_eq_true rfl) rfl dX10_hour1_204 (fun gy1281 egy1282 => ?_)
                  have hgy1283 := up_s egy1282
                  have hFy1284 : ∀ f, f ≠ 24 → f ≠ 32 → f ≠ 33 → f ≠ 35 → f ≠ 36 → f ≠ 37 → f ≠ 38 → f ≠ 47 → f ≠ 48 → f ≠ 49 → (uZ Fvy1271 48 ((F 48) + 1)) f = F f := fun f n24 n32 n33 n35 n36 n37 n38 n47 n48 n49 => ((uZ_n _ _ n48).trans ((hFvy1271 f n24 n32 n33 n35 n36 n37 n38).trans ((hFvy1189 f n32 n33 n35 n36 n37).trans ((hFvy752 f n24 n32 n33 n35 n36 n37 n38).trans ((hFvy34 f n32 n33 n35 n36 n37).trans (hFvy32 f n24 n38))))))
                  have hey1285 : (uZ Fvy1271 48 ((F 48) + 1)) 32 = Fvy1271 32 := (fn rfl (by decide))
                  have hey1286 : (uZ Fvy1271 48 ((F 48) + 1)) 35 = Fvy1271 35 := (fn rfl (by decide))
                  have hey1287 : (uZ Fvy1271 48 ((F 48) + 1)) 38 = Fvy1271 38 := (fn rfl (by decide))
                  have hey1288 : (uZ Fvy1271 48 ((F 48) + 1)) 32 = Fvy1271 32 := (fn rfl (by decide))
                  have hey1289 : (uZ Fvy1271 48 ((F 48) + 1)) 47 = F 47 := (fn ((hFvy1271 47 (by decide) (by decide) (by decide) (by decide) (by decide) (by decide) (by decide)).trans ((hFvy1189 47 (by decide) (by decide) (by decide) (by decide) (by decide)).trans ((hFvy752 47 (by decide) (by decide) (by decide) (by decide) (by decide) (by decide) (by decide)).trans ((hFvy34 47 (by decide) (by decide) (by decide) (by decide) (by decide)).trans (hFvy32 47 (by decide) (by decide)))))) (by decide))
                  have hey1290 : (uZ Fvy1271 48 ((F 48) + 1)) 48 = (F 48) + 1 := (uZ_s _ _ _)
                  have hey1291 : (uZ Fvy1271 48 ((F 48) + 1)) 49 = F 49 := (fn ((hFvy1271 49 (by decide) (by decide) (by decide) (by decide) (by decide) (by decide) (by decide)).trans ((hFvy1189 49 (by decide) (by decide) (by decide) (by decide) (by decide)).trans ((hFvy752 49 (by decide) (by decide) (by decide) (by decide) (by decide) (by decide) (by decide)).trans ((hFvy34 49 (by decide) (by decide) (by decide) (by decide) (by decide)).trans (hFvy32 49 (by decide) (by decide)))))) (by decide))
                  have hfry1293 : ∀ j, j ≠ (F 48).toNat → ry759 j = ai1 j := fun j n0 => (congrFun hvy760 _).trans ((uZ_n _ _ n0).trans (rfl))
                  have hwy1294 : ry759 ((F 48).toNat) = vy752 := (congrFun hvy760 _).trans (uZ_s _ _ _)
                  have haky1292 : ∀ k, k < 24 → -300 ≤ ry759 k ∧ ry759 k ≤ 100 := by
                    intro k hk
                    by_cases e : k = (F 48).toNat
                    · rw [e]; have hk0 := hai1 ((F 48).toNat) (by omega); omega
                    · have hk0 := hai1 k hk; rw [hfry1293 k e]; exact hk0
                  have hfry1296 : ∀ j, j ≠ (F 48).toNat → ry1181 j = fa1 j := fun j n0 => (congrFun hvy1182 _).trans ((uZ_n _ _ n0).trans ((congrFun hvy770 _).trans ((uZ_n _ _ n0).trans (rfl))))
                  have hfry1297 : ∀ j, j ≠ (F 48).toNat → ry1278 j = mu1 j := fun j n0 => (congrFun hvy1279 _).trans ((uZ_n _ _ n0).trans ((congrFun hvy781 _).trans ((uZ_n _ _ n0).trans (rfl))))
                  have hwy1298 : ry1181 ((F 48).toNat) = ((Fvy752 37) - 3) + 1 := (congrFun hvy1182 _).trans (uZ_s _ _ _)
                  have hwy1299 : ry1278 ((F 48).toNat) = vy1271 := (congrFun hvy1279 _).trans (uZ_s _ _ _)
                  have haky1295 : ∀ k, k < 24 → (0 ≤ ry1181 k ∧ ry1181 k ≤ 3) ∧ (0 ≤ ry1278 k ∧ ry1278 k ≤ 50) ∧ (ry1181 k = 1 ∨ ry1181 k = 2 → 1 ≤ ry1278 k) := by
                    intro k hk
                    by_cases e : k = (F 48).toNat
                    · rw [e]; have hk0 := hfa1 ((F 48).toNat) (by omega); omega
                    · have hk0 := hfa1 k hk; rw [hfry1296 k e]; rw [hfry1297 k e]; exact hk0
                  have hlay1300 : ∀ s l : Nat, (s : Int) < (uZ Fvy1271 48 ((F 48) + 1)) 47 → (l : Int) < mn1 s → lyT ly1 (84 * s + 7 * l) := fun s l a1 a2 => hly1 s l (by omega) a2
                  have hgy1301 := (hfvy32 (i + 16) (ne_o (i := i) (c := 16) (d := 0) rfl)).trans ha16
                  have hgy1302 := (hfvy34 (i + 16) (ne_o (i := i) (c := 16) (d := 0) rfl)).trans hgy1301
                  have hgy1303 := (hfvy752 (i + 16) (ne_o (i := i) (c := 16) (d := 0) rfl)).trans hgy1302
                  have hgy1304 := up_n egy757 hgy1303 (ne_o (i := i) (c := 16) (d := 19) rfl)
                  have hgy1305 := up_n egy767 hgy1304 (ne_o (i := i) (c := 16) (d := 20) rfl)
                  have hgy1306 := up_n egy778 hgy1305 (ne_o (i := i) (c := 16) (d := 21) rfl)
                  have hgy1307 := up_n egy1179 hgy1306 (ne_o (i := i) (c := 16) (d := 20) rfl)
                  have hgy1308 := (hfvy1189 (i + 16) (ne_o (i := i) (c := 16) (d := 0) rfl)).trans hgy1307
                  have hgy1309 := (hfvy1271 (i + 16) (ne_o (i := i) (c := 16) (d := 0) rfl)).trans hgy1308
                  have hgy1310 := up_n egy1276 hgy1309 (ne_o (i := i) (c := 16) (d := 21) rfl)
                  have hgy1311 := up_n egy1282 hgy1310 (ne_o (i := i) (c := 16) (d := 0) rfl)
                  have hgy1312 := (hfvy32 (i + 17) (ne_o (i := i) (c := 17) (d := 0) rfl)).trans ha17
                  have hgy1313 := (hfvy34 (i + 17) (ne_o (i := i) (c := 17) (d := 0) rfl)).trans hgy1312
                  have hgy1314 := (hfvy752 (i + 17) (ne_o (i := i) (c := 17) (d := 0) rfl)).trans hgy1313
                  have hgy1315 := up_n egy757 hgy1314 (ne_o (i := i) (c := 17) (d := 19) rfl)
                  have hgy1316 := up_n egy767 hgy1315 (ne_o (i := i) (c := 17) (d := 20) rfl)
                  have hgy1317 := up_n egy778 hgy1316 (ne_o (i := i) (c := 17) (d := 21) rfl)
                  have hgy1318 := up_n egy1179 hgy1317 (ne_o (i := i) (c := 17) (d := 20) rfl)
                  have hgy1319 := (hfvy1189 (i + 17) (ne_o (i := i) (c := 17) (d := 0) rfl)).trans hgy1318
                  have hgy1320 := (hfvy1271 (i + 17) (ne_o (i := i) (c := 17) (d := 0) rfl)).trans hgy1319
                  have hgy1321 := up_n egy1276 hgy1320 (ne_o (i := i) (c := 17) (d := 21) rfl)
                  have hgy1322 := up_n egy1282 hgy1321 (ne_o (i := i) (c := 17) (d := 0) rfl)
                  have hgy1323 := (hfvy32 (i + 18) (ne_o (i := i) (c := 18) (d := 0) rfl)).trans ha18
                  have hgy1324 := (hfvy34 (i + 18) (ne_o (i := i) (c := 18) (d := 0) rfl)).trans hgy1323
                  have hgy1325 := (hfvy752 (i + 18) (ne_o (i := i) (c := 18) (d := 0) rfl)).trans hgy1324
                  have hgy1326 := up_n egy757 hgy1325 (ne_o (i := i) (c := 18) (d := 19) rfl)
                  have hgy1327 := up_n egy767 hgy1326 (ne_o (i := i) (c := 18) (d := 20) rfl)
                  have hgy1328 := up_n egy778 hgy1327 (ne_o (i := i) (c := 18) (d := 21) rfl)
                  have hgy1329 := up_n egy1179 hgy1328 (ne_o (i := i) (c := 18) (d := 20) rfl)
                  have hgy1330 := (hfvy1189 (i + 18) (ne_o (i := i) (c := 18) (d := 0) rfl)).trans hgy1329
                  have hgy1331 := (hfvy1271 (i + 18) (ne_o (i := i) (c := 18) (d := 0) rfl)).trans hgy1330
                  have hgy1332 := up_n egy1276 hgy1331 (ne_o (i := i) (c := 18) (d := 21) rfl)
                  have hgy1333 := up_n egy1282 hgy1332 (ne_o (i := i) (c := 18) (d := 0) rfl)
                  have hgy1334 := up_n egy767 hgy758 (ne_o (i := i) (c := 19) (d := 20) rfl)
                  have hgy1335 := up_n egy778 hgy1334 (ne_o (i := i) (c := 19) (d := 21) rfl)
                  have hgy1336 := up_n egy1179 hgy1335 (ne_o (i := i) (c := 19) (d := 20) rfl)
                  have hgy1337 := (hfvy1189 (i + 19) (ne_o (i := i) (c := 19) (d := 0) rfl)).trans hgy1336
                  have hgy1338 := (hfvy1271 (i + 19) (ne_o (i := i) (c := 19) (d := 0) rfl)).trans hgy1337
                  have hgy1339 := up_n egy1276 hgy1338 (ne_o (i := i) (c := 19) (d := 21) rfl)
                  have hgy1340 := up_n egy1282 hgy1339 (ne_o (i := i) (c := 19) (d := 0) rfl)
                  have hgy1341 := (hfvy1271 (i + 20) (ne_o (i := i) (c := 20) (d := 0) rfl)).trans hgy1190
                  have hgy1342 := up_n egy1276 hgy1341 (ne_o (i := i) (c := 20) (d := 21) rfl)
                  have hgy1343 := up_n egy1282 hgy1342 (ne_o (i := i) (c := 20) (d := 0) rfl)
                  have hgy1344 := up_n egy1282 hgy1277 (ne_o (i := i) (c := 21) (d := 0) rfl)
                  have hgy1345 := (hfvy32 (i + 22) (ne_o (i := i) (c := 22) (d := 0) rfl)).trans ha22
                  have hgy1346 := (hfvy34 (i + 22) (ne_o (i := i) (c := 22) (d := 0) rfl)).trans hgy1345
                  have hgy1347 := (hfvy752 (i + 22) (ne_o (i := i) (c := 22) (d := 0) rfl)).trans hgy1346
                  have hgy1348 := up_n egy757 hgy1347 (ne_o (i := i) (c := 22) (d := 19) rfl)
                  have hgy1349 := up_n egy767 hgy1348 (ne_o (i := i) (c := 22) (d := 20) rfl)
                  have hgy1350 := up_n egy778 hgy1349 (ne_o (i := i) (c := 22) (d := 21) rfl)
                  have hgy1351 := up_n egy1179 hgy1350 (ne_o (i := i) (c := 22) (d := 20) rfl)
                  have hgy1352 := (hfvy1189 (i + 22) (ne_o (i := i) (c := 22) (d := 0) rfl)).trans hgy1351
                  have hgy1353 := (hfvy1271 (i + 22) (ne_o (i := i) (c := 22) (d := 0) rfl)).trans hgy1352
                  have hgy1354 := up_n egy1276 hgy1353 (ne_o (i := i) (c := 22) (d := 21) rfl)
                  have hgy1355 := up_n egy1282 hgy1354 (ne_o (i := i) (c := 22) (d := 0) rfl)
                  have hgy1356 := (hfvy32 (i + 23) (ne_o (i := i) (c := 23) (d := 0) rfl)).trans ha23
                  have hgy1357 := (hfvy34 (i + 23) (ne_o (i := i) (c := 23) (d := 0) rfl)).trans hgy1356
                  have hgy1358 := (hfvy752 (i + 23) (ne_o (i := i) (c := 23) (d := 0) rfl)).trans hgy1357
                  have hgy1359 := up_n egy757 hgy1358 (ne_o (i := i) (c := 23) (d := 19) rfl)
                  have hgy1360 := up_n egy767 hgy1359 (ne_o (i := i) (c := 23) (d := 20) rfl)
                  have hgy1361 := up_n egy778 hgy1360 (ne_o (i := i) (c := 23) (d := 21) rfl)
                  have hgy1362 := up_n egy1179 hgy1361 (ne_o (i := i) (c := 23) (d := 20) rfl)
                  have hgy1363 := (hfvy1189 (i + 23) (ne_o (i := i) (c := 23) (d := 0) rfl)).trans hgy1362
                  have hgy1364 := (hfvy1271 (i + 23) (ne_o (i := i) (c := 23) (d := 0) rfl)).trans hgy1363
                  have hgy1365 := up_n egy1276 hgy1364 (ne_o (i := i) (c := 23) (d := 21) rfl)
                  have hgy1366 := up_n egy1282 hgy1365 (ne_o (i := i) (c := 23) (d := 0) rfl)
                  have htxy1367 : okTx cs gy1281 i (uZ Fvy1271 48 ((F 48) + 1)) := ⟨_, _, _, _, _, _, _, _, ⟨hgy1311, hgy1322, hgy1333, hgy1340, hgy1343, hgy1344, hgy1355, hgy1366⟩, ⟨⟨by omega, by omega, by omega⟩, hop1, hmn1, haky1292, haky1295, htb1, hlay1300⟩⟩
                  exact z_vret C hr hlk dX10_hour1_207 (by decide) (by decide) ⟨rfl, rfl, rfl, ⟨_, hgy1283, (RD.put hdvy1271 (by decide)), by omega, by omega, hFy1284, htxy1367⟩, fun j j1 j2 => by rw [egy1282, va_up_ne _ _ (by omega)]; rw [egy1276, va_up_ne _ _ (by omega)]; rw [hfvy1271 _ (by omega)]; rw [hfvy1189 _ (by omega)]; rw [egy1179, va_up_ne _ _ (by omega)]; rw [egy778, va_up_ne _ _ (by omega)]; rw [egy767, va_up_ne _ _ (by omega)]; rw [egy757, va_up_ne _ _ (by omega)]; rw [hfvy752 _ (by omega)]; rw [hfvy34 _ (by omega)]; rw [hfvy32 _ (by omega)]⟩
              · clear hqvy1173
                refine z_if_eq (tgt := 197) C dX10_hour1_144 (by decide) (by omega) (fun _ => ?_) (fun h => absurd h (by omega))
                refine z_aload_n C 2 dX10_hour1_197 rfl ?_
                refine z_dup C dX10_hour1_198 rfl ?_
                refine z_get (v := .int (zI (F 48))) C (by omega) hay1 hgy782 rfl inA_X10 48 (by decide) q_1507 rfl (fv (F := Fvy752) (f := 48) ((hFvy752 48 (by decide) (by decide) (by decide) (by decide) (by decide) (by decide) (by decide)).trans ((hFvy34 48 (by decide) (by decide) (by decide) (by decide) (by decide)).trans (hFvy32 48 (by decide) (by decide))))) dX10_hour1_199 ?_
                refine z_iconst (z := 1) C dX10_hour1_202 rfl ?_
                refine z_iadd C dX10_hour1_203 ?_
                refine z_put (fs' := mF ad (i) (uZ Fvy752 48 ((F 48) + 1))) C (by omega) hay1 hgy782 tyX10 tyX10_ok nmX10 rfl inA_X10 48 (by decide) q_1507 rfl rfl rfl rfl (Nat.le_of_ble_eq_true rfl) rfl dX10_hour1_204 (fun gy1368 egy1369 => ?_)
                have hgy1370 := up_s egy1369
                have hFy1371 : ∀ f, f ≠ 24 → f ≠ 32 → f ≠ 33 → f ≠ 35 → f ≠ 36 → f ≠ 37 → f ≠ 38 → f ≠ 47 → f ≠ 48 → f ≠ 49 → (uZ Fvy752 48 ((F 48) + 1)) f = F f := fun f n24 n32 n33 n35 n36 n37 n38 n47 n48 n49 => ((uZ_n _ _ n48).trans ((hFvy752 f n24 n32 n33 n35 n36 n37 n38).trans ((hFvy34 f n32 n33 n35 n36 n37).trans (hFvy32 f n24 n38))))
                have hey1372 : (uZ Fvy752 48 ((F 48) + 1)) 32 = Fvy752 32 := (fn rfl (by decide))
                have hey1373 : (uZ Fvy752 48 ((F 48) + 1)) 35 = Fvy752 35 := (fn rfl (by decide))
                have hey1374 : (uZ Fvy752 48 ((F 48) + 1)) 38 = 0 := (fn hxvy752 (by decide))
                have hey1375 : (uZ Fvy752 48 ((F 48) + 1)) 32 = Fvy752 32 := (fn rfl (by decide))
                have hey1376 : (uZ Fvy752 48 ((F 48) + 1)) 47 = F 47 := (fn ((hFvy752 47 (by decide) (by decide) (by decide) (by decide) (by decide) (by decide) (by decide)).trans ((hFvy34 47 (by decide) (by decide) (by decide) (by decide) (by decide)).trans (hFvy32 47 (by decide) (by decide)))) (by decide))
                have hey1377 : (uZ Fvy752 48 ((F 48) + 1)) 48 = (F 48) + 1 := (uZ_s _ _ _)
                have hey1378 : (uZ Fvy752 48 ((F 48) + 1)) 49 = F 49 := (fn ((hFvy752 49 (by decide) (by decide) (by decide) (by decide) (by decide) (by decide) (by decide)).trans ((hFvy34 49 (by decide) (by decide) (by decide) (by decide) (by decide)).trans (hFvy32 49 (by decide) (by decide)))) (by decide))
                have hfry1380 : ∀ j, j ≠ (F 48).toNat → ry759 j = ai1 j := fun j n0 => (congrFun hvy760 _).trans ((uZ_n _ _ n0).trans (rfl))
                have hwy1381 : ry759 ((F 48).toNat) = vy752 := (congrFun hvy760 _).trans (uZ_s _ _ _)
                have haky1379 : ∀ k, k < 24 → -300 ≤ ry759 k ∧ ry759 k ≤ 100 := by
                  intro k hk
                  by_cases e : k = (F 48).toNat
                  · rw [e]; have hk0 := hai1 ((F 48).toNat) (by omega); omega
                  · have hk0 := hai1 k hk; rw [hfry1380 k e]; exact hk0
                have hfry1383 : ∀ j, j ≠ (F 48).toNat → ry769 j = fa1 j := fun j n0 => (congrFun hvy770 _).trans ((uZ_n _ _ n0).trans (rfl))
                have hfry1384 : ∀ j, j ≠ (F 48).toNat → ry780 j = mu1 j := fun j n0 => (congrFun hvy781 _).trans ((uZ_n _ _ n0).trans (rfl))
                have hwy1385 : ry769 ((F 48).toNat) = 0 := (congrFun hvy770 _).trans (uZ_s _ _ _)
                have hwy1386 : ry780 ((F 48).toNat) = 0 := (congrFun hvy781 _).trans (uZ_s _ _ _)
                have haky1382 : ∀ k, k < 24 → (0 ≤ ry769 k ∧ ry769 k ≤ 3) ∧ (0 ≤ ry780 k ∧ ry780 k ≤ 50) ∧ (ry769 k = 1 ∨ ry769 k = 2 → 1 ≤ ry780 k) := by
                  intro k hk
                  by_cases e : k = (F 48).toNat
                  · rw [e]; have hk0 := hfa1 ((F 48).toNat) (by omega); omega
                  · have hk0 := hfa1 k hk; rw [hfry1383 k e]; rw [hfry1384 k e]; exact hk0
                have hlay1387 : ∀ s l : Nat, (s : Int) < (uZ Fvy752 48 ((F 48) + 1)) 47 → (l : Int) < mn1 s → lyT ly1 (84 * s + 7 * l) := fun s l a1 a2 => hly1 s l (by omega) a2
                have hgy1388 := (hfvy32 (i + 16) (ne_o (i := i) (c := 16) (d := 0) rfl)).trans ha16
                have hgy1389 := (hfvy34 (i + 16) (ne_o (i := i) (c := 16) (d := 0) rfl)).trans hgy1388
                have hgy1390 := (hfvy752 (i + 16) (ne_o (i := i) (c := 16) (d := 0) rfl)).trans hgy1389
                have hgy1391 := up_n egy757 hgy1390 (ne_o (i := i) (c := 16) (d := 19) rfl)
                have hgy1392 := up_n egy767 hgy1391 (ne_o (i := i) (c := 16) (d := 20) rfl)
                have hgy1393 := up_n egy778 hgy1392 (ne_o (i := i) (c := 16) (d := 21) rfl)
                have hgy1394 := up_n egy1369 hgy1393 (ne_o (i := i) (c := 16) (d := 0) rfl)
                have hgy1395 := (hfvy32 (i + 17) (ne_o (i := i) (c := 17) (d := 0) rfl)).trans ha17
                have hgy1396 := (hfvy34 (i + 17) (ne_o (i := i) (c := 17) (d := 0) rfl)).trans hgy1395
                have hgy1397 := (hfvy752 (i + 17) (ne_o (i := i) (c := 17) (d := 0) rfl)).trans hgy1396
                have hgy1398 := up_n egy757 hgy1397 (ne_o (i := i) (c := 17) (d := 19) rfl)
                have hgy1399 := up_n egy767 hgy1398 (ne_o (i := i) (c := 17) (d := 20) rfl)
                have hgy1400 := up_n egy778 hgy1399 (ne_o (i := i) (c := 17) (d := 21) rfl)
                have hgy1401 := up_n egy1369 hgy1400 (ne_o (i := i) (c := 17) (d := 0) rfl)
                have hgy1402 := (hfvy32 (i + 18) (ne_o (i := i) (c := 18) (d := 0) rfl)).trans ha18
                have hgy1403 := (hfvy34 (i + 18) (ne_o (i := i) (c := 18) (d := 0) rfl)).trans hgy1402
                have hgy1404 := (hfvy752 (i + 18) (ne_o (i := i) (c := 18) (d := 0) rfl)).trans hgy1403
                have hgy1405 := up_n egy757 hgy1404 (ne_o (i := i) (c := 18) (d := 19) rfl)
                have hgy1406 := up_n egy767 hgy1405 (ne_o (i := i) (c := 18) (d := 20) rfl)
                have hgy1407 := up_n egy778 hgy1406 (ne_o (i := i) (c := 18) (d := 21) rfl)
                have hgy1408 := up_n egy1369 hgy1407 (ne_o (i := i) (c := 18) (d := 0) rfl)
                have hgy1409 := up_n egy767 hgy758 (ne_o (i := i) (c := 19) (d := 20) rfl)
                have hgy1410 := up_n egy778 hgy1409 (ne_o (i := i) (c := 19) (d := 21) rfl)
                have hgy1411 := up_n egy1369 hgy1410 (ne_o (i := i) (c := 19) (d := 0) rfl)
                have hgy1412 := up_n egy778 hgy768 (ne_o (i := i) (c := 20) (d := 21) rfl)
                have hgy1413 := up_n egy1369 hgy1412 (ne_o (i := i) (c := 20) (d := 0) rfl)
                have hgy1414 := up_n egy1369 hgy779 (ne_o (i := i) (c := 21) (d := 0) rfl)
                have hgy1415 := (hfvy32 (i + 22) (ne_o (i := i) (c := 22) (d := 0) rfl)).trans ha22
                have hgy1416 := (hfvy34 (i + 22) (ne_o (i := i) (c := 22) (d := 0) rfl)).trans hgy1415
                have hgy1417 := (hfvy752 (i + 22) (ne_o (i := i) (c := 22) (d := 0) rfl)).trans hgy1416
                have hgy1418 := up_n egy757 hgy1417 (ne_o (i := i) (c := 22) (d := 19) rfl)
                have hgy1419 := up_n egy767 hgy1418 (ne_o (i := i) (c := 22) (d := 20) rfl)
                have hgy1420 := up_n egy778 hgy1419 (ne_o (i := i) (c := 22) (d := 21) rfl)
                have hgy1421 := up_n egy1369 hgy1420 (ne_o (i := i) (c := 22) (d := 0) rfl)
                have hgy1422 := (hfvy32 (i + 23) (ne_o (i := i) (c := 23) (d := 0) rfl)).trans ha23
                have hgy1423 := (hfvy34 (i + 23) (ne_o (i := i) (c := 23) (d := 0) rfl)).trans hgy1422
                have hgy1424 := (hfvy752 (i + 23) (ne_o (i := i) (c := 23) (d := 0) rfl)).trans hgy1423
                have hgy1425 := up_n egy757 hgy1424 (ne_o (i := i) (c := 23) (d := 19) rfl)
                have hgy1426 := up_n egy767 hgy1425 (ne_o (i := i) (c := 23) (d := 20) rfl)
                have hgy1427 := up_n egy778 hgy1426 (ne_o (i := i) (c := 23) (d := 21) rfl)
                have hgy1428 := up_n egy1369 hgy1427 (ne_o (i := i) (c := 23) (d := 0) rfl)
                have htxy1429 : okTx cs gy1368 i (uZ Fvy752 48 ((F 48) + 1)) := ⟨_, _, _, _, _, _, _, _, ⟨hgy1394, hgy1401, hgy1408, hgy1411, hgy1413, hgy1414, hgy1421, hgy1428⟩, ⟨⟨by omega, by omega, by omega⟩, hop1, hmn1, haky1379, haky1382, htb1, hlay1387⟩⟩
                exact z_vret C hr hlk dX10_hour1_207 (by decide) (by decide) ⟨rfl, rfl, rfl, ⟨_, hgy1370, (RD.put hdvy752 (by decide)), by omega, by omega, hFy1371, htxy1429⟩, fun j j1 j2 => by rw [egy1369, va_up_ne _ _ (by omega)]; rw [egy778, va_up_ne _ _ (by omega)]; rw [egy767, va_up_ne _ _ (by omega)]; rw [egy757, va_up_ne _ _ (by omega)]; rw [hfvy752 _ (by omega)]; rw [hfvy34 _ (by omega)]; rw [hfvy32 _ (by omega)]⟩
        · clear hsvy752
          have hpvy752 : 1 ≤ Fvy752 38 := by omega
          clear hxvy752
          refine z_istore_n (lv' := [(2, .int (zI (vy752))), (1, .int (zI (0))), (0, .ref (ad i))]) C dX10_hour1_75 rfl (by decide) rfl ?_
          refine z_aload_n C 2 dX10_hour1_76 rfl ?_
          refine z_get (v := .int (zI (Fvy752 38))) C (by omega) hay1 hcvy752 rfl inA_X10 38 (by decide) q_1497 rfl (fv (F := Fvy752) (f := 38) rfl) dX10_hour1_77 ?_
          refine z_if_eq (tgt := 84) C dX10_hour1_80 (by decide) (by omega) (fun h => absurd h (by omega)) (fun _ => ?_)
          have hFy1430 : ∀ f, f ≠ 24 → f ≠ 32 → f ≠ 33 → f ≠ 35 → f ≠ 36 → f ≠ 37 → f ≠ 38 → f ≠ 47 → f ≠ 48 → f ≠ 49 → Fvy752 f = F f := fun f n24 n32 n33 n35 n36 n37 n38 n47 n48 n49 => ((hFvy752 f n24 n32 n33 n35 n36 n37 n38).trans ((hFvy34 f n32 n33 n35 n36 n37).trans (hFvy32 f n24 n38)))
          have hey1431 : Fvy752 32 = Fvy752 32 := rfl
          have hey1432 : Fvy752 35 = Fvy752 35 := rfl
          have hey1433 : Fvy752 38 = Fvy752 38 := rfl
          have hey1434 : Fvy752 32 = Fvy752 32 := rfl
          have hey1435 : Fvy752 47 = F 47 := ((hFvy752 47 (by decide) (by decide) (by decide) (by decide) (by decide) (by decide) (by decide)).trans ((hFvy34 47 (by decide) (by decide) (by decide) (by decide) (by decide)).trans (hFvy32 47 (by decide) (by decide))))
          have hey1436 : Fvy752 48 = F 48 := ((hFvy752 48 (by decide) (by decide) (by decide) (by decide) (by decide) (by decide) (by decide)).trans ((hFvy34 48 (by decide) (by decide) (by decide) (by decide) (by decide)).trans (hFvy32 48 (by decide) (by decide))))
          have hey1437 : Fvy752 49 = F 49 := ((hFvy752 49 (by decide) (by decide) (by decide) (by decide) (by decide) (by decide) (by decide)).trans ((hFvy34 49 (by decide) (by decide) (by decide) (by decide) (by decide)).trans (hFvy32 49 (by decide) (by decide))))
          have hlay1439 : ∀ s l : Nat, (s : Int) < Fvy752 47 → (l : Int) < mn1 s → lyT ly1 (84 * s + 7 * l) := fun s l a1 a2 => hly1 s l (by omega) a2
          have hgy1440 := (hfvy32 (i + 16) (ne_o (i := i) (c := 16) (d := 0) rfl)).trans ha16
          have hgy1441 := (hfvy34 (i + 16) (ne_o (i := i) (c := 16) (d := 0) rfl)).trans hgy1440
          have hgy1442 := (hfvy752 (i + 16) (ne_o (i := i) (c := 16) (d := 0) rfl)).trans hgy1441
          have hgy1443 := (hfvy32 (i + 17) (ne_o (i := i) (c := 17) (d := 0) rfl)).trans ha17
          have hgy1444 := (hfvy34 (i + 17) (ne_o (i := i) (c := 17) (d := 0) rfl)).trans hgy1443
          have hgy1445 := (hfvy752 (i + 17) (ne_o (i := i) (c := 17) (d := 0) rfl)).trans hgy1444
          have hgy1446 := (hfvy32 (i + 18) (ne_o (i := i) (c := 18) (d := 0) rfl)).trans ha18
          have hgy1447 := (hfvy34 (i + 18) (ne_o (i := i) (c := 18) (d := 0) rfl)).trans hgy1446
          have hgy1448 := (hfvy752 (i + 18) (ne_o (i := i) (c := 18) (d := 0) rfl)).trans hgy1447
          have hgy1449 := (hfvy32 (i + 19) (ne_o (i := i) (c := 19) (d := 0) rfl)).trans ha19
          have hgy1450 := (hfvy34 (i + 19) (ne_o (i := i) (c := 19) (d := 0) rfl)).trans hgy1449
          have hgy1451 := (hfvy752 (i + 19) (ne_o (i := i) (c := 19) (d := 0) rfl)).trans hgy1450
          have hgy1452 := (hfvy32 (i + 20) (ne_o (i := i) (c := 20) (d := 0) rfl)).trans ha20
          have hgy1453 := (hfvy34 (i + 20) (ne_o (i := i) (c := 20) (d := 0) rfl)).trans hgy1452
          have hgy1454 := (hfvy752 (i + 20) (ne_o (i := i) (c := 20) (d := 0) rfl)).trans hgy1453
          have hgy1455 := (hfvy32 (i + 21) (ne_o (i := i) (c := 21) (d := 0) rfl)).trans ha21
          have hgy1456 := (hfvy34 (i + 21) (ne_o (i := i) (c := 21) (d := 0) rfl)).trans hgy1455
          have hgy1457 := (hfvy752 (i + 21) (ne_o (i := i) (c := 21) (d := 0) rfl)).trans hgy1456
          have hgy1458 := (hfvy32 (i + 22) (ne_o (i := i) (c := 22) (d := 0) rfl)).trans ha22
          have hgy1459 := (hfvy34 (i + 22) (ne_o (i := i) (c := 22) (d := 0) rfl)).trans hgy1458
          have hgy1460 := (hfvy752 (i + 22) (ne_o (i := i) (c := 22) (d := 0) rfl)).trans hgy1459
          have hgy1461 := (hfvy32 (i + 23) (ne_o (i := i) (c := 23) (d := 0) rfl)).trans ha23
          have hgy1462 := (hfvy34 (i + 23) (ne_o (i := i) (c := 23) (d := 0) rfl)).trans hgy1461
          have hgy1463 := (hfvy752 (i + 23) (ne_o (i := i) (c := 23) (d := 0) rfl)).trans hgy1462
          have htxy1464 : okTx cs gvy752 i Fvy752 := ⟨_, _, _, _, _, _, _, _, ⟨hgy1442, hgy1445, hgy1448, hgy1451, hgy1454, hgy1457, hgy1460, hgy1463⟩, ⟨⟨by omega, by omega, by omega⟩, hop1, hmn1, hai1, hfa1, htb1, hlay1439⟩⟩
          exact z_vret C hr hlk dX10_hour1_83 (by decide) (by decide) ⟨rfl, rfl, rfl, ⟨_, hcvy752, hdvy752, by omega, by omega, hFy1430, htxy1464⟩, fun j j1 j2 => by rw [hfvy752 _ (by omega)]; rw [hfvy34 _ (by omega)]; rw [hfvy32 _ (by omega)]⟩
      · refine z_iconst (z := 1) C dX10_hour1_44 rfl ?_
        refine z_goto (tgt := 49) C dX10_hour1_45 (by decide) ?_
        refine z_istore_n (lv' := [(1, .int (zI (1))), (0, .ref (ad i))]) C dX10_hour1_49 rfl (by decide) rfl ?_
        refine z_iload_n C 0 dX10_hour1_50 rfl ?_
        refine z_if_eq (tgt := 58) C dX10_hour1_51 (by decide) (by omega) (fun h => absurd h (by omega)) (fun _ => ?_)
        refine z_aload_n C 1 dX10_hour1_54 rfl ?_
        have hgy1465 := (hfvy34 (i + 13) (ne_o (i := i) (c := 13) (d := 0) rfl)).trans hgy33
        refine z_cV (As := []) (rest := []) (ci := 12) C (c_X10_go l D A cs tt N ad _ i hN _ hcvy34 _ hgy1465 htp hdvy34) (by omega) hay1 hcvy34 rfl rfl mv_yX10_go q_1652 hd_yX10_go (by decide) (Nat.le_of_ble_eq_true rfl) (by decide) dX10_hour1_55 rfl (kV0 fun gvy1466 hvy1466 => ?_)
        obtain ⟨⟨Fvy1466, hcvy1466, hdvy1466, hlvy1466, hsvy1466, hFvy1466⟩, hfvy1466⟩ := hvy1466
        rw [show Fvy34 32 = Fvy34 32 from rfl] at hlvy1466 hsvy1466
        have h34vy1466 : Fvy1466 34 = F 34 := (hFvy1466 34 (by decide) (by decide) (by decide) (by decide) (by decide)).trans (((hFvy34 34 (by decide) (by decide) (by decide) (by decide) (by decide)).trans (hFvy32 34 (by decide) (by decide))))
        obtain ⟨d32vy1466, -, d35vy1466, d36vy1466, -, d37vy1466, d38vy1466⟩ := id hdvy1466
        have h38vy1466 : Fvy1466 38 = 0 := ((hFvy1466 38 (by decide) (by decide) (by decide) (by decide) (by decide)).trans ((hFvy34 38 (by decide) (by decide) (by decide) (by decide) (by decide)).trans e38vy32))
        clear hsvy1466
        refine z_aload_n C 1 dX10_hour1_58 rfl ?_
        refine z_iconst (z := 0) C dX10_hour1_59 rfl ?_
        refine z_iload_n C 0 dX10_hour1_60 rfl ?_
        refine z_if_eq (tgt := 70) C dX10_hour1_61 (by decide) (by omega) (fun h => absurd h (by omega)) (fun _ => ?_)
        refine z_sipush (z := 300) C dX10_hour1_64 (by decide) ?_
        refine z_goto (tgt := 72) C dX10_hour1_67 (by decide) ?_
        have hgy1467 := (hfvy1466 (i + 13) (ne_o (i := i) (c := 13) (d := 0) rfl)).trans hgy1465
        refine z_cV (As := [.int (zI (0)), .int (zI (300))]) (rest := []) (ci := 12) C (c_X10_number l D A cs tt N ad _ i hN _ hcvy1466 _ hgy1467 htp hdvy1466 (0) (by omega) (300) (by omega)) (by omega) hay1 hcvy1466 rfl rfl mv_yX10_number q_1682 hd_yX10_number (by decide) (Nat.le_of_ble_eq_true rfl) (by decide) dX10_hour1_72 rfl (kI0 fun vy1468 gvy1468 hvy1468 => ?_)
        obtain ⟨hrvy1468, ⟨Fvy1468, hcvy1468, hdvy1468, hlvy1468, hsvy1468, hFvy1468⟩, hfvy1468⟩ := hvy1468
        rw [show Fvy1466 32 = Fvy1466 32 from rfl] at hlvy1468
        rw [show Fvy1466 38 = 0 from ((hFvy1466 38 (by decide) (by decide) (by decide) (by decide) (by decide)).trans ((hFvy34 38 (by decide) (by decide) (by decide) (by decide) (by decide)).trans e38vy32)), show Fvy1466 35 = Fvy1466 35 from rfl] at hsvy1468
        have h34vy1468 : Fvy1468 34 = F 34 := (hFvy1468 34 (by decide) (by decide) (by decide) (by decide) (by decide) (by decide) (by decide)).trans (((hFvy1466 34 (by decide) (by decide) (by decide) (by decide) (by decide)).trans ((hFvy34 34 (by decide) (by decide) (by decide) (by decide) (by decide)).trans (hFvy32 34 (by decide) (by decide)))))
        obtain ⟨d32vy1468, -, d35vy1468, d36vy1468, -, d37vy1468, d38vy1468⟩ := id hdvy1468
        rcases (show Fvy1468 38 = 0 ∨ Fvy1468 38 ≠ 0 by omega) with hxvy1468 | hxvy1468
        · have hqvy1468 := hsvy1468 hxvy1468
          clear hsvy1468
          refine z_istore_n (lv' := [(2, .int (zI (vy1468))), (1, .int (zI (1))), (0, .ref (ad i))]) C dX10_hour1_75 rfl (by decide) rfl ?_
          refine z_aload_n C 2 dX10_hour1_76 rfl ?_
          refine z_get (v := .int (zI (0))) C (by omega) hay1 hcvy1468 rfl inA_X10 38 (by decide) q_1497 rfl (fv (F := Fvy1468) (f := 38) hxvy1468) dX10_hour1_77 ?_
          refine z_if_eq (tgt := 84) C dX10_hour1_80 (by decide) (by omega) (fun _ => ?_) (fun h => absurd h (by omega))
          refine z_aload_n C 2 dX10_hour1_84 rfl ?_
          refine z_get (v := .ref (ad (i + 19))) C (by omega) hay1 hcvy1468 rfl inA_X10 42 (by decide) q_1501 rfl rfl dX10_hour1_85 ?_
          refine z_aload_n C 2 dX10_hour1_88 rfl ?_
          refine z_get (v := .int (zI (F 48))) C (by omega) hay1 hcvy1468 rfl inA_X10 48 (by decide) q_1507 rfl (fv (F := Fvy1468) (f := 48) ((hFvy1468 48 (by decide) (by decide) (by decide) (by decide) (by decide) (by decide) (by decide)).trans ((hFvy1466 48 (by decide) (by decide) (by decide) (by decide) (by decide)).trans ((hFvy34 48 (by decide) (by decide) (by decide) (by decide) (by decide)).trans (hFvy32 48 (by decide) (by decide)))))) dX10_hour1_89 ?_
          refine z_iload_n C 1 dX10_hour1_92 rfl ?_
          refine z_if_eq (tgt := 101) C dX10_hour1_93 (by decide) (by omega) (fun h => absurd h (by omega)) (fun _ => ?_)
          refine z_iload_n C 0 dX10_hour1_96 rfl ?_
          refine z_ineg C dX10_hour1_97 ?_
          refine z_goto (tgt := 102) C dX10_hour1_98 (by decide) ?_
          have hgy1469 := (hfvy32 (i + 19) (ne_o (i := i) (c := 19) (d := 0) rfl)).trans ha19
          have hgy1470 := (hfvy34 (i + 19) (ne_o (i := i) (c := 19) (d := 0) rfl)).trans hgy1469
          have hgy1471 := (hfvy1466 (i + 19) (ne_o (i := i) (c := 19) (d := 0) rfl)).trans hgy1470
          have hgy1472 := (hfvy1468 (i + 19) (ne_o (i := i) (c := 19) (d := 0) rfl)).trans hgy1471
          refine z_iast C (by omega) hay6 hgy1472 ((F 48).toNat) (by omega) (by omega) (by decide) dX10_hour1_102 (fun gy1473 egy1474 => ?_)
          have hgy1475 := up_s egy1474
          obtain ⟨ry1476, hvy1477⟩ : ∃ rZ9 : Nat → Int, rZ9 = uZ ai1 ((F 48).toNat) (-(vy1468)) := ⟨_, rfl⟩
          rw [← hvy1477] at hgy1475
          refine z_aload_n C 2 dX10_hour1_103 rfl ?_
          have hgy1478 := up_n egy1474 hcvy1468 (ne_o (i := i) (c := 0) (d := 19) rfl)
          refine z_get (v := .ref (ad (i + 20))) C (by omega) hay1 hgy1478 rfl inA_X10 43 (by decide) q_1502 rfl rfl dX10_hour1_104 ?_
          refine z_aload_n C 2 dX10_hour1_107 rfl ?_
          refine z_get (v := .int (zI (F 48))) C (by omega) hay1 hgy1478 rfl inA_X10 48 (by decide) q_1507 rfl (fv (F := Fvy1468) (f := 48) ((hFvy1468 48 (by decide) (by decide) (by decide) (by decide) (by decide) (by decide) (by decide)).trans ((hFvy1466 48 (by decide) (by decide) (by decide) (by decide) (by decide)).trans ((hFvy34 48 (by decide) (by decide) (by decide) (by decide) (by decide)).trans (hFvy32 48 (by decide) (by decide)))))) dX10_hour1_108 ?_
          refine z_iconst (z := 0) C dX10_hour1_111 rfl ?_
          have hgy1479 := (hfvy32 (i + 20) (ne_o (i := i) (c := 20) (d := 0) rfl)).trans ha20
          have hgy1480 := (hfvy34 (i + 20) (ne_o (i := i) (c := 20) (d := 0) rfl)).trans hgy1479
          have hgy1481 := (hfvy1466 (i + 20) (ne_o (i := i) (c := 20) (d := 0) rfl)).trans hgy1480
          have hgy1482 := (hfvy1468 (i + 20) (ne_o (i := i) (c := 20) (d := 0) rfl)).trans hgy1481
          have hgy1483 := up_n egy1474 hgy1482 (ne_o (i := i) (c := 20) (d := 19) rfl)
          refine z_iast C (by omega) hay7 hgy1483 ((F 48).toNat) (by omega) (by omega) (by decide) dX10_hour1_112 (fun gy1484 egy1485 => ?_)
          have hgy1486 := up_s egy1485
          obtain ⟨ry1487, hvy1488⟩ : ∃ rZ9 : Nat → Int, rZ9 = uZ fa1 ((F 48).toNat) (0) := ⟨_, rfl⟩
          rw [← hvy1488] at hgy1486
          refine z_aload_n C 2 dX10_hour1_113 rfl ?_
          have hgy1489 := up_n egy1485 hgy1478 (ne_o (i := i) (c := 0) (d := 20) rfl)
          refine z_get (v := .ref (ad (i + 21))) C (by omega) hay1 hgy1489 rfl inA_X10 44 (by decide) q_1503 rfl rfl dX10_hour1_114 ?_
          refine z_aload_n C 2 dX10_hour1_117 rfl ?_
          refine z_get (v := .int (zI (F 48))) C (by omega) hay1 hgy1489 rfl inA_X10 48 (by decide) q_1507 rfl (fv (F := Fvy1468) (f := 48) ((hFvy1468 48 (by decide) (by decide) (by decide) (by decide) (by decide) (by decide) (by decide)).trans ((hFvy1466 48 (by decide) (by decide) (by decide) (by decide) (by decide)).trans ((hFvy34 48 (by decide) (by decide) (by decide) (by decide) (by decide)).trans (hFvy32 48 (by decide) (by decide)))))) dX10_hour1_118 ?_
          refine z_iconst (z := 0) C dX10_hour1_121 rfl ?_
          have hgy1490 := (hfvy32 (i + 21) (ne_o (i := i) (c := 21) (d := 0) rfl)).trans ha21
          have hgy1491 := (hfvy34 (i + 21) (ne_o (i := i) (c := 21) (d := 0) rfl)).trans hgy1490
          have hgy1492 := (hfvy1466 (i + 21) (ne_o (i := i) (c := 21) (d := 0) rfl)).trans hgy1491
          have hgy1493 := (hfvy1468 (i + 21) (ne_o (i := i) (c := 21) (d := 0) rfl)).trans hgy1492
          have hgy1494 := up_n egy1474 hgy1493 (ne_o (i := i) (c := 21) (d := 19) rfl)
          have hgy1495 := up_n egy1485 hgy1494 (ne_o (i := i) (c := 21) (d := 20) rfl)
          refine z_iast C (by omega) hay8 hgy1495 ((F 48).toNat) (by omega) (by omega) (by decide) dX10_hour1_122 (fun gy1496 egy1497 => ?_)
          have hgy1498 := up_s egy1497
          obtain ⟨ry1499, hvy1500⟩ : ∃ rZ9 : Nat → Int, rZ9 = uZ mu1 ((F 48).toNat) (0) := ⟨_, rfl⟩
          rw [← hvy1500] at hgy1498
          refine z_aload_n C 2 dX10_hour1_123 rfl ?_
          refine z_iconst (z := 3) C dX10_hour1_124 rfl ?_
          have hgy1501 := up_n egy1497 hgy1489 (ne_o (i := i) (c := 0) (d := 21) rfl)
          have hey1503 : Fvy1468 38 = 0 := hxvy1468
          have hey1504 : Fvy1468 35 = Fvy1468 35 := rfl
          have hey1505 : Fvy1468 37 = Fvy1468 37 := rfl
          refine z_cV (As := [.int (zI (3))]) (rest := []) (ci := 12) C (c_X10_is l D A cs tt N ad _ i hN _ hgy1501 hdvy1468 (3) (by omega)) (by omega) hay1 hgy1501 rfl rfl mv_yX10_is q_1705 hd_yX10_is (by decide) (Nat.le_of_ble_eq_true rfl) (by decide) dX10_hour1_125 rfl (kI0 fun vy1502 gvy1502 hvy1502 => ?_)
          rw [hey1503, hey1504, hey1505] at hvy1502
          clear hey1503 hey1504 hey1505
          obtain ⟨hrvy1502, hqvy1502, rfl⟩ := hvy1502
          rcases (show vy1502 = 1 ∨ vy1502 = 0 by omega) with rfl | rfl
          · have hkvy1502 := hqvy1502 rfl
            clear hqvy1502
            refine z_if_ne (tgt := 147) C dX10_hour1_128 (by decide) (by omega) (fun _ => ?_) (fun h => absurd h (by omega))
            refine z_aload_n C 2 dX10_hour1_147 rfl ?_
            refine z_get (v := .ref (ad (i + 20))) C (by omega) hay1 hgy1501 rfl inA_X10 43 (by decide) q_1502 rfl rfl dX10_hour1_148 ?_
            refine z_aload_n C 2 dX10_hour1_151 rfl ?_
            refine z_get (v := .int (zI (F 48))) C (by omega) hay1 hgy1501 rfl inA_X10 48 (by decide) q_1507 rfl (fv (F := Fvy1468) (f := 48) ((hFvy1468 48 (by decide) (by decide) (by decide) (by decide) (by decide) (by decide) (by decide)).trans ((hFvy1466 48 (by decide) (by decide) (by decide) (by decide) (by decide)).trans ((hFvy34 48 (by decide) (by decide) (by decide) (by decide) (by decide)).trans (hFvy32 48 (by decide) (by decide)))))) dX10_hour1_152 ?_
            refine z_aload_n C 2 dX10_hour1_155 rfl ?_
            refine z_get (v := .int (zI (Fvy1468 37))) C (by omega) hay1 hgy1501 rfl inA_X10 37 (by decide) q_1496 rfl (fv (F := Fvy1468) (f := 37) rfl) dX10_hour1_156 ?_
            refine z_iconst (z := 3) C dX10_hour1_159 rfl ?_
            refine z_isub C dX10_hour1_160 ?_
            refine z_iconst (z := 1) C dX10_hour1_161 rfl ?_
            refine z_iadd C dX10_hour1_162 ?_
            have hgy1506 := up_n egy1497 hgy1486 (ne_o (i := i) (c := 20) (d := 21) rfl)
            refine z_iast C (by omega) hay7 hgy1506 ((F 48).toNat) (by omega) (by omega) (by decide) dX10_hour1_163 (fun gy1507 egy1508 => ?_)
            have hgy1509 := up_s egy1508
            obtain ⟨ry1510, hvy1511⟩ : ∃ rZ9 : Nat → Int, rZ9 = uZ ry1487 ((F 48).toNat) (((Fvy1468 37) - 3) + 1) := ⟨_, rfl⟩
            rw [← hvy1511] at hgy1509
            refine z_aload_n C 2 dX10_hour1_164 rfl ?_
            have hgy1512 := up_n egy1508 hgy1501 (ne_o (i := i) (c := 0) (d := 20) rfl)
            have hgy1513 := (hfvy1468 (i + 13) (ne_o (i := i) (c := 13) (d := 0) rfl)).trans hgy1467
            have hgy1514 := up_n egy1474 hgy1513 (ne_o (i := i) (c := 13) (d := 19) rfl)
            have hgy1515 := up_n egy1485 hgy1514 (ne_o (i := i) (c := 13) (d := 20) rfl)
            have hgy1516 := up_n egy1497 hgy1515 (ne_o (i := i) (c := 13) (d := 21) rfl)
            have hgy1517 := up_n egy1508 hgy1516 (ne_o (i := i) (c := 13) (d := 20) rfl)
            refine z_cV (As := []) (rest := []) (ci := 12) C (c_X10_go l D A cs tt N ad _ i hN _ hgy1512 _ hgy1517 htp hdvy1468) (by omega) hay1 hgy1512 rfl rfl mv_yX10_go q_1652 hd_yX10_go (by decide) (Nat.le_of_ble_eq_true rfl) (by decide) dX10_hour1_165 rfl (kV0 fun gvy1518 hvy1518 => ?_)
            obtain ⟨⟨Fvy1518, hcvy1518, hdvy1518, hlvy1518, hsvy1518, hFvy1518⟩, hfvy1518⟩ := hvy1518
            rw [show Fvy1468 32 = Fvy1468 32 from rfl] at hlvy1518 hsvy1518
            have h34vy1518 : Fvy1518 34 = F 34 := (hFvy1518 34 (by decide) (by decide) (by decide) (by decide) (by decide)).trans (((hFvy1468 34 (by decide) (by decide) (by decide) (by decide) (by decide) (by decide) (by decide)).trans ((hFvy1466 34 (by decide) (by decide) (by decide) (by decide) (by decide)).trans ((hFvy34 34 (by decide) (by decide) (by decide) (by decide) (by decide)).trans (hFvy32 34 (by decide) (by decide))))))
            obtain ⟨d32vy1518, -, d35vy1518, d36vy1518, -, d37vy1518, d38vy1518⟩ := id hdvy1518
            have h38vy1518 : Fvy1518 38 = 0 := ((hFvy1518 38 (by decide) (by decide) (by decide) (by decide) (by decide)).trans hxvy1468)
            clear hsvy1518
            refine z_aload_n C 2 dX10_hour1_168 rfl ?_
            refine z_get (v := .ref (ad (i + 20))) C (by omega) hay1 hcvy1518 rfl inA_X10 43 (by decide) q_1502 rfl rfl dX10_hour1_169 ?_
            refine z_aload_n C 2 dX10_hour1_172 rfl ?_
            refine z_get (v := .int (zI (F 48))) C (by omega) hay1 hcvy1518 rfl inA_X10 48 (by decide) q_1507 rfl (fv (F := Fvy1518) (f := 48) ((hFvy1518 48 (by decide) (by decide) (by decide) (by decide) (by decide)).trans ((hFvy1468 48 (by decide) (by decide) (by decide) (by decide) (by decide) (by decide) (by decide)).trans ((hFvy1466 48 (by decide) (by decide) (by decide) (by decide) (by decide)).trans ((hFvy34 48 (by decide) (by decide) (by decide) (by decide) (by decide)).trans (hFvy32 48 (by decide) (by decide))))))) dX10_hour1_173 ?_
            have hgy1519 := (hfvy1518 (i + 20) (ne_o (i := i) (c := 20) (d := 0) rfl)).trans hgy1509
            refine z_iald C (by omega) hay7 hgy1519 ((F 48).toNat) (by omega) (by omega) (by decide) dX10_hour1_176 ?_
            rw [show ry1510 ((F 48).toNat) = ((Fvy1468 37) - 3) + 1 from (congrFun hvy1511 _).trans (uZ_s _ _ _)]
            refine z_iconst (z := 3) C dX10_hour1_177 rfl ?_
            obtain ⟨xy1520, exy1521, hxy1522⟩ := zI_of (zI (((Fvy1468 37) - 3) + 1))
            rw [exy1521]
            refine z_icmp_ge (tgt := 197) C dX10_hour1_178 (by decide) (by omega) (by omega) (fun hby1523 => ?_) (fun hby1523 => ?_)
            · refine z_aload_n C 2 dX10_hour1_197 rfl ?_
              refine z_dup C dX10_hour1_198 rfl ?_
              refine z_get (v := .int (zI (F 48))) C (by omega) hay1 hcvy1518 rfl inA_X10 48 (by decide) q_1507 rfl (fv (F := Fvy1518) (f := 48) ((hFvy1518 48 (by decide) (by decide) (by decide) (by decide) (by decide)).trans ((hFvy1468 48 (by decide) (by decide) (by decide) (by decide) (by decide) (by decide) (by decide)).trans ((hFvy1466 48 (by decide) (by decide) (by decide) (by decide) (by decide)).trans ((hFvy34 48 (by decide) (by decide) (by decide) (by decide) (by decide)).trans (hFvy32 48 (by decide) (by decide))))))) dX10_hour1_199 ?_
              refine z_iconst (z := 1) C dX10_hour1_202 rfl ?_
              refine z_iadd C dX10_hour1_203 ?_
              refine z_put (fs' := mF ad (i) (uZ Fvy1518 48 ((F 48) + 1))) C (by omega) hay1 hcvy1518 tyX10 tyX10_ok nmX10 rfl inA_X10 48 (by decide) q_1507 rfl rfl rfl rfl (Nat.le_of_ble_eq_true rfl) rfl dX10_hour1_204 (fun gy1524 egy1525 => ?_)
              have hgy1526 := up_s egy1525
              have hFy1527 : ∀ f, f ≠ 24 → f ≠ 32 → f ≠ 33 → f ≠ 35 → f ≠ 36 → f ≠ 37 → f ≠ 38 → f ≠ 47 → f ≠ 48 → f ≠ 49 → (uZ Fvy1518 48 ((F 48) + 1)) f = F f := fun f n24 n32 n33 n35 n36 n37 n38 n47 n48 n49 => ((uZ_n _ _ n48).trans ((hFvy1518 f n32 n33 n35 n36 n37).trans ((hFvy1468 f n24 n32 n33 n35 n36 n37 n38).trans ((hFvy1466 f n32 n33 n35 n36 n37).trans ((hFvy34 f n32 n33 n35 n36 n37).trans (hFvy32 f n24 n38))))))
              have hey1528 : (uZ Fvy1518 48 ((F 48) + 1)) 32 = Fvy1518 32 := (fn rfl (by decide))
              have hey1529 : (uZ Fvy1518 48 ((F 48) + 1)) 35 = Fvy1518 35 := (fn rfl (by decide))
              have hey1530 : (uZ Fvy1518 48 ((F 48) + 1)) 38 = 0 := (fn ((hFvy1518 38 (by decide) (by decide) (by decide) (by decide) (by decide)).trans hxvy1468) (by decide))
              have hey1531 : (uZ Fvy1518 48 ((F 48) + 1)) 32 = Fvy1518 32 := (fn rfl (by decide))
              have hey1532 : (uZ Fvy1518 48 ((F 48) + 1)) 47 = F 47 := (fn ((hFvy1518 47 (by decide) (by decide) (by decide) (by decide) (by decide)).trans ((hFvy1468 47 (by decide) (by decide) (by decide) (by decide) (by decide) (by decide) (by decide)).trans ((hFvy1466 47 (by decide) (by decide) (by decide) (by decide) (by decide)).trans ((hFvy34 47 (by decide) (by decide) (by decide) (by decide) (by decide)).trans (hFvy32 47 (by decide) (by decide)))))) (by decide))
              have hey1533 : (uZ Fvy1518 48 ((F 48) + 1)) 48 = (F 48) + 1 := (uZ_s _ _ _)
              have hey1534 : (uZ Fvy1518 48 ((F 48) + 1)) 49 = F 49 := (fn ((hFvy1518 49 (by decide) (by decide) (by decide) (by decide) (by decide)).trans ((hFvy1468 49 (by decide) (by decide) (by decide) (by decide) (by decide) (by decide) (by decide)).trans ((hFvy1466 49 (by decide) (by decide) (by decide) (by decide) (by decide)).trans ((hFvy34 49 (by decide) (by decide) (by decide) (by decide) (by decide)).trans (hFvy32 49 (by decide) (by decide)))))) (by decide))
              have hfry1536 : ∀ j, j ≠ (F 48).toNat → ry1476 j = ai1 j := fun j n0 => (congrFun hvy1477 _).trans ((uZ_n _ _ n0).trans (rfl))
              have hwy1537 : ry1476 ((F 48).toNat) = -(vy1468) := (congrFun hvy1477 _).trans (uZ_s _ _ _)
              have haky1535 : ∀ k, k < 24 → -300 ≤ ry1476 k ∧ ry1476 k ≤ 100 := by
                intro k hk
                by_cases e : k = (F 48).toNat
                · rw [e]; have hk0 := hai1 ((F 48).toNat) (by omega); omega
                · have hk0 := hai1 k hk; rw [hfry1536 k e]; exact hk0
              have hfry1539 : ∀ j, j ≠ (F 48).toNat → ry1510 j = fa1 j := fun j n0 => (congrFun hvy1511 _).trans ((uZ_n _ _ n0).trans ((congrFun hvy1488 _).trans ((uZ_n _ _ n0).trans (rfl))))
              have hfry1540 : ∀ j, j ≠ (F 48).toNat → ry1499 j = mu1 j := fun j n0 => (congrFun hvy1500 _).trans ((uZ_n _ _ n0).trans (rfl))
              have hwy1541 : ry1510 ((F 48).toNat) = ((Fvy1468 37) - 3) + 1 := (congrFun hvy1511 _).trans (uZ_s _ _ _)
              have hwy1542 : ry1499 ((F 48).toNat) = 0 := (congrFun hvy1500 _).trans (uZ_s _ _ _)
              have haky1538 : ∀ k, k < 24 → (0 ≤ ry1510 k ∧ ry1510 k ≤ 3) ∧ (0 ≤ ry1499 k ∧ ry1499 k ≤ 50) ∧ (ry1510 k = 1 ∨ ry1510 k = 2 → 1 ≤ ry1499 k) := by
                intro k hk
                by_cases e : k = (F 48).toNat
                · rw [e]; have hk0 := hfa1 ((F 48).toNat) (by omega); omega
                · have hk0 := hfa1 k hk; rw [hfry1539 k e]; rw [hfry1540 k e]; exact hk0
              have hlay1543 : ∀ s l : Nat, (s : Int) < (uZ Fvy1518 48 ((F 48) + 1)) 47 → (l : Int) < mn1 s → lyT ly1 (84 * s + 7 * l) := fun s l a1 a2 => hly1 s l (by omega) a2
              have hgy1544 := (hfvy32 (i + 16) (ne_o (i := i) (c := 16) (d := 0) rfl)).trans ha16
              have hgy1545 := (hfvy34 (i + 16) (ne_o (i := i) (c := 16) (d := 0) rfl)).trans hgy1544
              have hgy1546 := (hfvy1466 (i + 16) (ne_o (i := i) (c := 16) (d := 0) rfl)).trans hgy1545
              have hgy1547 := (hfvy1468 (i + 16) (ne_o (i := i) (c := 16) (d := 0) rfl)).trans hgy1546
              have hgy1548 := up_n egy1474 hgy1547 (ne_o (i := i) (c := 16) (d := 19) rfl)
              have hgy1549 := up_n egy1485 hgy1548 (ne_o (i := i) (c := 16) (d := 20) rfl)
              have hgy1550 := up_n egy1497 hgy1549 (ne_o (i := i) (c := 16) (d := 21) rfl)
              have hgy1551 := up_n egy1508 hgy1550 (ne_o (i := i) (c := 16) (d := 20) rfl)
              have hgy1552 := (hfvy1518 (i + 16) (ne_o (i := i) (c := 16) (d := 0) rfl)).trans hgy1551
              have hgy1553 := up_n egy1525 hgy1552 (ne_o (i := i) (c := 16) (d := 0) rfl)
              have hgy1554 := (hfvy32 (i + 17) (ne_o (i := i) (c := 17) (d := 0) rfl)).trans ha17
              have hgy1555 := (hfvy34 (i + 17) (ne_o (i := i) (c := 17) (d := 0) rfl)).trans hgy1554
              have hgy1556 := (hfvy1466 (i + 17) (ne_o (i := i) (c := 17) (d := 0) rfl)).trans hgy1555
              have hgy1557 := (hfvy1468 (i + 17) (ne_o (i := i) (c := 17) (d := 0) rfl)).trans hgy1556
              have hgy1558 := up_n egy1474 hgy1557 (ne_o (i := i) (c := 17) (d := 19) rfl)
              have hgy1559 := up_n egy1485 hgy1558 (ne_o (i := i) (c := 17) (d := 20) rfl)
              have hgy1560 := up_n egy1497 hgy1559 (ne_o (i := i) (c := 17) (d := 21) rfl)
              have hgy1561 := up_n egy1508 hgy1560 (ne_o (i := i) (c := 17) (d := 20) rfl)
              have hgy1562 := (hfvy1518 (i + 17) (ne_o (i := i) (c := 17) (d := 0) rfl)).trans hgy1561
              have hgy1563 := up_n egy1525 hgy1562 (ne_o (i := i) (c := 17) (d := 0) rfl)
              have hgy1564 := (hfvy32 (i + 18) (ne_o (i := i) (c := 18) (d := 0) rfl)).trans ha18
              have hgy1565 := (hfvy34 (i + 18) (ne_o (i := i) (c := 18) (d := 0) rfl)).trans hgy1564
              have hgy1566 := (hfvy1466 (i + 18) (ne_o (i := i) (c := 18) (d := 0) rfl)).trans hgy1565
              have hgy1567 := (hfvy1468 (i + 18) (ne_o (i := i) (c := 18) (d := 0) rfl)).trans hgy1566
              have hgy1568 := up_n egy1474 hgy1567 (ne_o (i := i) (c := 18) (d := 19) rfl)
              have hgy1569 := up_n egy1485 hgy1568 (ne_o (i := i) (c := 18) (d := 20) rfl)
              have hgy1570 := up_n egy1497 hgy1569 (ne_o (i := i) (c := 18) (d := 21) rfl)
              have hgy1571 := up_n egy1508 hgy1570 (ne_o (i := i) (c := 18) (d := 20) rfl)
              have hgy1572 := (hfvy1518 (i + 18) (ne_o (i := i) (c := 18) (d := 0) rfl)).trans hgy1571
              have hgy1573 := up_n egy1525 hgy1572 (ne_o (i := i) (c := 18) (d := 0) rfl)
              have hgy1574 := up_n egy1485 hgy1475 (ne_o (i := i) (c := 19) (d := 20) rfl)
              have hgy1575 := up_n egy1497 hgy1574 (ne_o (i := i) (c := 19) (d := 21) rfl)
              have hgy1576 := up_n egy1508 hgy1575 (ne_o (i := i) (c := 19) (d := 20) rfl)
              have hgy1577 := (hfvy1518 (i + 19) (ne_o (i := i) (c := 19) (d := 0) rfl)).trans hgy1576
              have hgy1578 := up_n egy1525 hgy1577 (ne_o (i := i) (c := 19) (d := 0) rfl)
              have hgy1579 := up_n egy1525 hgy1519 (ne_o (i := i) (c := 20) (d := 0) rfl)
              have hgy1580 := up_n egy1508 hgy1498 (ne_o (i := i) (c := 21) (d := 20) rfl)
              have hgy1581 := (hfvy1518 (i + 21) (ne_o (i := i) (c := 21) (d := 0) rfl)).trans hgy1580
              have hgy1582 := up_n egy1525 hgy1581 (ne_o (i := i) (c := 21) (d := 0) rfl)
              have hgy1583 := (hfvy32 (i + 22) (ne_o (i := i) (c := 22) (d := 0) rfl)).trans ha22
              have hgy1584 := (hfvy34 (i + 22) (ne_o (i := i) (c := 22) (d := 0) rfl)).trans hgy1583
              have hgy1585 := (hfvy1466 (i + 22) (ne_o (i := i) (c := 22) (d := 0) rfl)).trans hgy1584
              have hgy1586 := (hfvy1468 (i + 22) (ne_o (i := i) (c := 22) (d := 0) rfl)).trans hgy1585
              have hgy1587 := up_n egy1474 hgy1586 (ne_o (i := i) (c := 22) (d := 19) rfl)
              have hgy1588 := up_n egy1485 hgy1587 (ne_o (i := i) (c := 22) (d := 20) rfl)
              have hgy1589 := up_n egy1497 hgy1588 (ne_o (i := i) (c := 22) (d := 21) rfl)
              have hgy1590 := up_n egy1508 hgy1589 (ne_o (i := i) (c := 22) (d := 20) rfl)
              have hgy1591 := (hfvy1518 (i + 22) (ne_o (i := i) (c := 22) (d := 0) rfl)).trans hgy1590
              have hgy1592 := up_n egy1525 hgy1591 (ne_o (i := i) (c := 22) (d := 0) rfl)
              have hgy1593 := (hfvy32 (i + 23) (ne_o (i := i) (c := 23) (d := 0) rfl)).trans ha23
              have hgy1594 := (hfvy34 (i + 23) (ne_o (i := i) (c := 23) (d := 0) rfl)).trans hgy1593
              have hgy1595 := (hfvy1466 (i + 23) (ne_o (i := i) (c := 23) (d := 0) rfl)).trans hgy1594
              have hgy1596 := (hfvy1468 (i + 23) (ne_o (i := i) (c := 23) (d := 0) rfl)).trans hgy1595
              have hgy1597 := up_n egy1474 hgy1596 (ne_o (i := i) (c := 23) (d := 19) rfl)
              have hgy1598 := up_n egy1485 hgy1597 (ne_o (i := i) (c := 23) (d := 20) rfl)
              have hgy1599 := up_n egy1497 hgy1598 (ne_o (i := i) (c := 23) (d := 21) rfl)
              have hgy1600 := up_n egy1508 hgy1599 (ne_o (i := i) (c := 23) (d := 20) rfl)
              have hgy1601 := (hfvy1518 (i + 23) (ne_o (i := i) (c := 23) (d := 0) rfl)).trans hgy1600
              have hgy1602 := up_n egy1525 hgy1601 (ne_o (i := i) (c := 23) (d := 0) rfl)
              have htxy1603 : okTx cs gy1524 i (uZ Fvy1518 48 ((F 48) + 1)) := ⟨_, _, _, _, _, _, _, _, ⟨hgy1553, hgy1563, hgy1573, hgy1578, hgy1579, hgy1582, hgy1592, hgy1602⟩, ⟨⟨by omega, by omega, by omega⟩, hop1, hmn1, haky1535, haky1538, htb1, hlay1543⟩⟩
              exact z_vret C hr hlk dX10_hour1_207 (by decide) (by decide) ⟨rfl, rfl, rfl, ⟨_, hgy1526, (RD.put hdvy1518 (by decide)), by omega, by omega, hFy1527, htxy1603⟩, fun j j1 j2 => by rw [egy1525, va_up_ne _ _ (by omega)]; rw [hfvy1518 _ (by omega)]; rw [egy1508, va_up_ne _ _ (by omega)]; rw [egy1497, va_up_ne _ _ (by omega)]; rw [egy1485, va_up_ne _ _ (by omega)]; rw [egy1474, va_up_ne _ _ (by omega)]; rw [hfvy1468 _ (by omega)]; rw [hfvy1466 _ (by omega)]; rw [hfvy34 _ (by omega)]; rw [hfvy32 _ (by omega)]⟩
            · refine z_aload_n C 2 dX10_hour1_181 rfl ?_
              refine z_get (v := .ref (ad (i + 21))) C (by omega) hay1 hcvy1518 rfl inA_X10 44 (by decide) q_1503 rfl rfl dX10_hour1_182 ?_
              refine z_aload_n C 2 dX10_hour1_185 rfl ?_
              refine z_get (v := .int (zI (F 48))) C (by omega) hay1 hcvy1518 rfl inA_X10 48 (by decide) q_1507 rfl (fv (F := Fvy1518) (f := 48) ((hFvy1518 48 (by decide) (by decide) (by decide) (by decide) (by decide)).trans ((hFvy1468 48 (by decide) (by decide) (by decide) (by decide) (by decide) (by decide) (by decide)).trans ((hFvy1466 48 (by decide) (by decide) (by decide) (by decide) (by decide)).trans ((hFvy34 48 (by decide) (by decide) (by decide) (by decide) (by decide)).trans (hFvy32 48 (by decide) (by decide))))))) dX10_hour1_186 ?_
              refine z_aload_n C 2 dX10_hour1_189 rfl ?_
              refine z_iconst (z := 1) C dX10_hour1_190 rfl ?_
              refine z_bipush (z := 50) C dX10_hour1_191 (by decide) ?_
              have hgy1604 := (hfvy1518 (i + 13) (ne_o (i := i) (c := 13) (d := 0) rfl)).trans hgy1517
              refine z_cV (As := [.int (zI (1)), .int (zI (50))]) (rest := [.int (zI (F 48)), .ref (ad (i + 21))]) (ci := 12) C (c_X10_number l D A cs tt N ad _ i hN _ hcvy1518 _ hgy1604 htp hdvy1518 (1) (by omega) (50) (by omega)) (by omega) hay1 hcvy1518 rfl rfl mv_yX10_number q_1682 hd_yX10_number (by decide) (Nat.le_of_ble_eq_true rfl) (by decide) dX10_hour1_193 rfl (kI0 fun vy1605 gvy1605 hvy1605 => ?_)
              obtain ⟨hrvy1605, ⟨Fvy1605, hcvy1605, hdvy1605, hlvy1605, hsvy1605, hFvy1605⟩, hfvy1605⟩ := hvy1605
              rw [show Fvy1518 32 = Fvy1518 32 from rfl] at hlvy1605
              rw [show Fvy1518 38 = 0 from ((hFvy1518 38 (by decide) (by decide) (by decide) (by decide) (by decide)).trans hxvy1468), show Fvy1518 35 = Fvy1518 35 from rfl] at hsvy1605
              have h34vy1605 : Fvy1605 34 = F 34 := (hFvy1605 34 (by decide) (by decide) (by decide) (by decide) (by decide) (by decide) (by decide)).trans (((hFvy1518 34 (by decide) (by decide) (by decide) (by decide) (by decide)).trans ((hFvy1468 34 (by decide) (by decide) (by decide) (by decide) (by decide) (by decide) (by decide)).trans ((hFvy1466 34 (by decide) (by decide) (by decide) (by decide) (by decide)).trans ((hFvy34 34 (by decide) (by decide) (by decide) (by decide) (by decide)).trans (hFvy32 34 (by decide) (by decide)))))))
              obtain ⟨d32vy1605, -, d35vy1605, d36vy1605, -, d37vy1605, d38vy1605⟩ := id hdvy1605
              clear hsvy1605
              have hgy1606 := up_n egy1508 hgy1498 (ne_o (i := i) (c := 21) (d := 20) rfl)
              have hgy1607 := (hfvy1518 (i + 21) (ne_o (i := i) (c := 21) (d := 0) rfl)).trans hgy1606
              have hgy1608 := (hfvy1605 (i + 21) (ne_o (i := i) (c := 21) (d := 0) rfl)).trans hgy1607
              refine z_iast C (by omega) hay8 hgy1608 ((F 48).toNat) (by omega) (by omega) (by decide) dX10_hour1_196 (fun gy1609 egy1610 => ?_)
              have hgy1611 := up_s egy1610
              obtain ⟨ry1612, hvy1613⟩ : ∃ rZ9 : Nat → Int, rZ9 = uZ ry1499 ((F 48).toNat) (vy1605) := ⟨_, rfl⟩
              rw [← hvy1613] at hgy1611
              refine z_aload_n C 2 dX10_hour1_197 rfl ?_
              refine z_dup C dX10_hour1_198 rfl ?_
              have hgy1614 := up_n egy1610 hcvy1605 (ne_o (i := i) (c := 0) (d := 21) rfl)
              refine z_get (v := .int (zI (F 48))) C (by omega) hay1 hgy1614 rfl inA_X10 48 (by decide) q_1507 rfl (fv (F := Fvy1605) (f := 48) ((hFvy1605 48 (by decide) (by decide) (by decide) (by decide) (by decide) (by decide) (by decide)).trans ((hFvy1518 48 (by decide) (by decide) (by decide) (by decide) (by decide)).trans ((hFvy1468 48 (by decide) (by decide) (by decide) (by decide) (by decide) (by decide) (by decide)).trans ((hFvy1466 48 (by decide) (by decide) (by decide) (by decide) (by decide)).trans ((hFvy34 48 (by decide) (by decide) (by decide) (by decide) (by decide)).trans (hFvy32 48 (by decide) (by decide)))))))) dX10_hour1_199 ?_
              refine z_iconst (z := 1) C dX10_hour1_202 rfl ?_
              refine z_iadd C dX10_hour1_203 ?_
              refine z_put (fs' := mF ad (i) (uZ Fvy1605 48 ((F 48) + 1))) C (by omega) hay1 hgy1614 tyX10 tyX10_ok nmX10 rfl inA_X10 48 (by decide) q_1507 rfl rfl rfl rfl (Nat.le_of_ble_eq_true rfl) rfl dX10_hour1_204 (fun gy1615 egy1616 => ?_)
              have hgy1617 := up_s egy1616
              have hFy1618 : ∀ f, f ≠ 24 → f ≠ 32 → f ≠ 33 → f ≠ 35 → f ≠ 36 → f ≠ 37 → f ≠ 38 → f ≠ 47 → f ≠ 48 → f ≠ 49 → (uZ Fvy1605 48 ((F 48) + 1)) f = F f := fun f n24 n32 n33 n35 n36 n37 n38 n47 n48 n49 => ((uZ_n _ _ n48).trans ((hFvy1605 f n24 n32 n33 n35 n36 n37 n38).trans ((hFvy1518 f n32 n33 n35 n36 n37).trans ((hFvy1468 f n24 n32 n33 n35 n36 n37 n38).trans ((hFvy1466 f n32 n33 n35 n36 n37).trans ((hFvy34 f n32 n33 n35 n36 n37).trans (hFvy32 f n24 n38)))))))
              have hey1619 : (uZ Fvy1605 48 ((F 48) + 1)) 32 = Fvy1605 32 := (fn rfl (by decide))
              have hey1620 : (uZ Fvy1605 48 ((F 48) + 1)) 35 = Fvy1605 35 := (fn rfl (by decide))
              have hey1621 : (uZ Fvy1605 48 ((F 48) + 1)) 38 = Fvy1605 38 := (fn rfl (by decide))
              have hey1622 : (uZ Fvy1605 48 ((F 48) + 1)) 32 = Fvy1605 32 := (fn rfl (by decide))
              have hey1623 : (uZ Fvy1605 48 ((F 48) + 1)) 47 = F 47 := (fn ((hFvy1605 47 (by decide) (by decide) (by decide) (by decide) (by decide) (by decide) (by decide)).trans ((hFvy1518 47 (by decide) (by decide) (by decide) (by decide) (by decide)).trans ((hFvy1468 47 (by decide) (by decide) (by decide) (by decide) (by decide) (by decide) (by decide)).trans ((hFvy1466 47 (by decide) (by decide) (by decide) (by decide) (by decide)).trans ((hFvy34 47 (by decide) (by decide) (by decide) (by decide) (by decide)).trans (hFvy32 47 (by decide) (by decide))))))) (by decide))
              have hey1624 : (uZ Fvy1605 48 ((F 48) + 1)) 48 = (F 48) + 1 := (uZ_s _ _ _)
              have hey1625 : (uZ Fvy1605 48 ((F 48) + 1)) 49 = F 49 := (fn ((hFvy1605 49 (by decide) (by decide) (by decide) (by decide) (by decide) (by decide) (by decide)).trans ((hFvy1518 49 (by decide) (by decide) (by decide) (by decide) (by decide)).trans ((hFvy1468 49 (by decide) (by decide) (by decide) (by decide) (by decide) (by decide) (by decide)).trans ((hFvy1466 49 (by decide) (by decide) (by decide) (by decide) (by decide)).trans ((hFvy34 49 (by decide) (by decide) (by decide) (by decide) (by decide)).trans (hFvy32 49 (by decide) (by decide))))))) (by decide))
              have hfry1627 : ∀ j, j ≠ (F 48).toNat → ry1476 j = ai1 j := fun j n0 => (congrFun hvy1477 _).trans ((uZ_n _ _ n0).trans (rfl))
              have hwy1628 : ry1476 ((F 48).toNat) = -(vy1468) := (congrFun hvy1477 _).trans (uZ_s _ _ _)
              have haky1626 : ∀ k, k < 24 → -300 ≤ ry1476 k ∧ ry1476 k ≤ 100 := by
                intro k hk
                by_cases e : k = (F 48).toNat
                · rw [e]; have hk0 := hai1 ((F 48).toNat) (by omega); omega
                · have hk0 := hai1 k hk; rw [hfry1627 k e]; exact hk0
              have hfry1630 : ∀ j, j ≠ (F 48).toNat → ry1510 j = fa1 j := fun j n0 => (congrFun hvy1511 _).trans ((uZ_n _ _ n0).trans ((congrFun hvy1488 _).trans ((uZ_n _ _ n0).trans (rfl))))
              have hfry1631 : ∀ j, j ≠ (F 48).toNat → ry1612 j = mu1 j := fun j n0 => (congrFun hvy1613 _).trans ((uZ_n _ _ n0).trans ((congrFun hvy1500 _).trans ((uZ_n _ _ n0).trans (rfl))))
              have hwy1632 : ry1510 ((F 48).toNat) = ((Fvy1468 37) - 3) + 1 := (congrFun hvy1511 _).trans (uZ_s _ _ _)
              have hwy1633 : ry1612 ((F 48).toNat) = vy1605 := (congrFun hvy1613 _).trans (uZ_s _ _ _)
              have haky1629 : ∀ k, k < 24 → (0 ≤ ry1510 k ∧ ry1510 k ≤ 3) ∧ (0 ≤ ry1612 k ∧ ry1612 k ≤ 50) ∧ (ry1510 k = 1 ∨ ry1510 k = 2 → 1 ≤ ry1612 k) := by
                intro k hk
                by_cases e : k = (F 48).toNat
                · rw [e]; have hk0 := hfa1 ((F 48).toNat) (by omega); omega
                · have hk0 := hfa1 k hk; rw [hfry1630 k e]; rw [hfry1631 k e]; exact hk0
              have hlay1634 : ∀ s l : Nat, (s : Int) < (uZ Fvy1605 48 ((F 48) + 1)) 47 → (l : Int) < mn1 s → lyT ly1 (84 * s + 7 * l) := fun s l a1 a2 => hly1 s l (by omega) a2
              have hgy1635 := (hfvy32 (i + 16) (ne_o (i := i) (c := 16) (d := 0) rfl)).trans ha16
              have hgy1636 := (hfvy34 (i + 16) (ne_o (i := i) (c := 16) (d := 0) rfl)).trans hgy1635
              have hgy1637 := (hfvy1466 (i + 16) (ne_o (i := i) (c := 16) (d := 0) rfl)).trans hgy1636
              have hgy1638 := (hfvy1468 (i + 16) (ne_o (i := i) (c := 16) (d := 0) rfl)).trans hgy1637
              have hgy1639 := up_n egy1474 hgy1638 (ne_o (i := i) (c := 16) (d := 19) rfl)
              have hgy1640 := up_n egy1485 hgy1639 (ne_o (i := i) (c := 16) (d := 20) rfl)
              have hgy1641 := up_n egy1497 hgy1640 (ne_o (i := i) (c := 16) (d := 21) rfl)
              have hgy1642 := up_n egy1508 hgy1641 (ne_o (i := i) (c := 16) (d := 20) rfl)
              have hgy1643 := (hfvy1518 (i + 16) (ne_o (i := i) (c := 16) (d := 0) rfl)).trans hgy1642
              have hgy1644 := (hfvy1605 (i + 16) (ne_o (i := i) (c := 16) (d := 0) rfl)).trans hgy1643
              have hgy1645 := up_n egy1610 hgy1644 (ne_o (i := i) (c := 16) (d := 21) rfl)
              have hgy1646 := up_n egy1616 hgy1645 (ne_o (i := i) (c := 16) (d := 0) rfl)
              have hgy1647 := (hfvy32 (i + 17) (ne_o (i := i) (c := 17) (d := 0) rfl)).trans ha17
              have hgy1648 := (hfvy34 (i + 17) (ne_o (i := i) (c := 17) (d := 0) rfl)).trans hgy1647
              have hgy1649 := (hfvy1466 (i + 17) (ne_o (i := i) (c := 17) (d := 0) rfl)).trans hgy1648
              have hgy1650 := (hfvy1468 (i + 17) (ne_o (i := i) (c := 17) (d := 0) rfl)).trans hgy1649
              have hgy1651 := up_n egy1474 hgy1650 (ne_o (i := i) (c := 17) (d := 19) rfl)
              have hgy1652 := up_n egy1485 hgy1651 (ne_o (i := i) (c := 17) (d := 20) rfl)
              have hgy1653 := up_n egy1497 hgy1652 (ne_o (i := i) (c := 17) (d := 21) rfl)
              have hgy1654 := up_n egy1508 hgy1653 (ne_o (i := i) (c := 17) (d := 20) rfl)
              have hgy1655 := (hfvy1518 (i + 17) (ne_o (i := i) (c := 17) (d := 0) rfl)).trans hgy1654
              have hgy1656 := (hfvy1605 (i + 17) (ne_o (i := i) (c := 17) (d := 0) rfl)).trans hgy1655
              have hgy1657 := up_n egy1610 hgy1656 (ne_o (i := i) (c := 17) (d := 21) rfl)
              have hgy1658 := up_n egy1616 hgy1657 (ne_o (i := i) (c := 17) (d := 0) rfl)
              have hgy1659 := (hfvy32 (i + 18) (ne_o (i := i) (c := 18) (d := 0) rfl)).trans ha18
              have hgy1660 := (hfvy34 (i + 18) (ne_o (i := i) (c := 18) (d := 0) rfl)).trans hgy1659
              have hgy1661 := (hfvy1466 (i + 18) (ne_o (i := i) (c := 18) (d := 0) rfl)).trans hgy1660
              have hgy1662 := (hfvy1468 (i + 18) (ne_o (i := i) (c := 18) (d := 0) rfl)).trans hgy1661
              have hgy1663 := up_n egy1474 hgy1662 (ne_o (i := i) (c := 18) (d := 19) rfl)
              have hgy1664 := up_n egy1485 hgy1663 (ne_o (i := i) (c := 18) (d := 20) rfl)
              have hgy1665 := up_n egy1497 hgy1664 (ne_o (i := i) (c := 18) (d := 21) rfl)
              have hgy1666 := up_n egy1508 hgy1665 (ne_o (i := i) (c := 18) (d := 20) rfl)
              have hgy1667 := (hfvy1518 (i + 18) (ne_o (i := i) (c := 18) (d := 0) rfl)).trans hgy1666
              have hgy1668 := (hfvy1605 (i + 18) (ne_o (i := i) (c := 18) (d := 0) rfl)).trans hgy1667
              have hgy1669 := up_n egy1610 hgy1668 (ne_o (i := i) (c := 18) (d := 21) rfl)
              have hgy1670 := up_n egy1616 hgy1669 (ne_o (i := i) (c := 18) (d := 0) rfl)
              have hgy1671 := up_n egy1485 hgy1475 (ne_o (i := i) (c := 19) (d := 20) rfl)
              have hgy1672 := up_n egy1497 hgy1671 (ne_o (i := i) (c := 19) (d := 21) rfl)
              have hgy1673 := up_n egy1508 hgy1672 (ne_o (i := i) (c := 19) (d := 20) rfl)
              have hgy1674 := (hfvy1518 (i + 19) (ne_o (i := i) (c := 19) (d := 0) rfl)).trans hgy1673
              have hgy1675 := (hfvy1605 (i + 19) (ne_o (i := i) (c := 19) (d := 0) rfl)).trans hgy1674
              have hgy1676 := up_n egy1610 hgy1675 (ne_o (i := i) (c := 19) (d := 21) rfl)
              have hgy1677 := up_n egy1616 hgy1676 (ne_o (i := i) (c := 19) (d := 0) rfl)
              have hgy1678 := (hfvy1605 (i + 20) (ne_o (i := i) (c := 20) (d := 0) rfl)).trans hgy1519
              have hgy1679 := up_n egy1610 hgy1678 (ne_o (i := i) (c := 20) (d := 21) rfl)
              have hgy1680 := up_n egy1616 hgy1679 (ne_o (i := i) (c := 20) (d := 0) rfl)
              have hgy1681 := up_n egy1616 hgy1611 (ne_o (i := i) (c := 21) (d := 0) rfl)
              have hgy1682 := (hfvy32 (i + 22) (ne_o (i := i) (c := 22) (d := 0) rfl)).trans ha22
              have hgy1683 := (hfvy34 (i + 22) (ne_o (i := i) (c := 22) (d := 0) rfl)).trans hgy1682
              have hgy1684 := (hfvy1466 (i + 22) (ne_o (i := i) (c := 22) (d := 0) rfl)).trans hgy1683
              have hgy1685 := (hfvy1468 (i + 22) (ne_o (i := i) (c := 22) (d := 0) rfl)).trans hgy1684
              have hgy1686 := up_n egy1474 hgy1685 (ne_o (i := i) (c := 22) (d := 19) rfl)
              have hgy1687 := up_n egy1485 hgy1686 (ne_o (i := i) (c := 22) (d := 20) rfl)
              have hgy1688 := up_n egy1497 hgy1687 (ne_o (i := i) (c := 22) (d := 21) rfl)
              have hgy1689 := up_n egy1508 hgy1688 (ne_o (i := i) (c := 22) (d := 20) rfl)
              have hgy1690 := (hfvy1518 (i + 22) (ne_o (i := i) (c := 22) (d := 0) rfl)).trans hgy1689
              have hgy1691 := (hfvy1605 (i + 22) (ne_o (i := i) (c := 22) (d := 0) rfl)).trans hgy1690
              have hgy1692 := up_n egy1610 hgy1691 (ne_o (i := i) (c := 22) (d := 21) rfl)
              have hgy1693 := up_n egy1616 hgy1692 (ne_o (i := i) (c := 22) (d := 0) rfl)
              have hgy1694 := (hfvy32 (i + 23) (ne_o (i := i) (c := 23) (d := 0) rfl)).trans ha23
              have hgy1695 := (hfvy34 (i + 23) (ne_o (i := i) (c := 23) (d := 0) rfl)).trans hgy1694
              have hgy1696 := (hfvy1466 (i + 23) (ne_o (i := i) (c := 23) (d := 0) rfl)).trans hgy1695
              have hgy1697 := (hfvy1468 (i + 23) (ne_o (i := i) (c := 23) (d := 0) rfl)).trans hgy1696
              have hgy1698 := up_n egy1474 hgy1697 (ne_o (i := i) (c := 23) (d := 19) rfl)
              have hgy1699 := up_n egy1485 hgy1698 (ne_o (i := i) (c := 23) (d := 20) rfl)
              have hgy1700 := up_n egy1497 hgy1699 (ne_o (i := i) (c := 23) (d := 21) rfl)
              have hgy1701 := up_n egy1508 hgy1700 (ne_o (i := i) (c := 23) (d := 20) rfl)
              have hgy1702 := (hfvy1518 (i + 23) (ne_o (i := i) (c := 23) (d := 0) rfl)).trans hgy1701
              have hgy1703 := (hfvy1605 (i + 23) (ne_o (i := i) (c := 23) (d := 0) rfl)).trans hgy1702
              have hgy1704 := up_n egy1610 hgy1703 (ne_o (i := i) (c := 23) (d := 21) rfl)
              have hgy1705 := up_n egy1616 hgy1704 (ne_o (i := i) (c := 23) (d := 0) rfl)
              have htxy1706 : okTx cs gy1615 i (uZ Fvy1605 48 ((F 48) + 1)) := ⟨_, _, _, _, _, _, _, _, ⟨hgy1646, hgy1658, hgy1670, hgy1677, hgy1680, hgy1681, hgy1693, hgy1705⟩, ⟨⟨by omega, by omega, by omega⟩, hop1, hmn1, haky1626, haky1629, htb1, hlay1634⟩⟩
              exact z_vret C hr hlk dX10_hour1_207 (by decide) (by decide) ⟨rfl, rfl, rfl, ⟨_, hgy1617, (RD.put hdvy1605 (by decide)), by omega, by omega, hFy1618, htxy1706⟩, fun j j1 j2 => by rw [egy1616, va_up_ne _ _ (by omega)]; rw [egy1610, va_up_ne _ _ (by omega)]; rw [hfvy1605 _ (by omega)]; rw [hfvy1518 _ (by omega)]; rw [egy1508, va_up_ne _ _ (by omega)]; rw [egy1497, va_up_ne _ _ (by omega)]; rw [egy1485, va_up_ne _ _ (by omega)]; rw [egy1474, va_up_ne _ _ (by omega)]; rw [hfvy1468 _ (by omega)]; rw [hfvy1466 _ (by omega)]; rw [hfvy34 _ (by omega)]; rw [hfvy32 _ (by omega)]⟩
          · clear hqvy1502
            refine z_if_ne (tgt := 147) C dX10_hour1_128 (by decide) (by omega) (fun h => absurd h (by omega)) (fun _ => ?_)
            refine z_aload_n C 2 dX10_hour1_131 rfl ?_
            refine z_iconst (z := 4) C dX10_hour1_132 rfl ?_
            have hey1708 : Fvy1468 38 = 0 := hxvy1468
            have hey1709 : Fvy1468 35 = Fvy1468 35 := rfl
            have hey1710 : Fvy1468 37 = Fvy1468 37 := rfl
            refine z_cV (As := [.int (zI (4))]) (rest := []) (ci := 12) C (c_X10_is l D A cs tt N ad _ i hN _ hgy1501 hdvy1468 (4) (by omega)) (by omega) hay1 hgy1501 rfl rfl mv_yX10_is q_1705 hd_yX10_is (by decide) (Nat.le_of_ble_eq_true rfl) (by decide) dX10_hour1_133 rfl (kI0 fun vy1707 gvy1707 hvy1707 => ?_)
            rw [hey1708, hey1709, hey1710] at hvy1707
            clear hey1708 hey1709 hey1710
            obtain ⟨hrvy1707, hqvy1707, rfl⟩ := hvy1707
            rcases (show vy1707 = 1 ∨ vy1707 = 0 by omega) with rfl | rfl
            · have hkvy1707 := hqvy1707 rfl
              clear hqvy1707
              refine z_if_ne (tgt := 147) C dX10_hour1_136 (by decide) (by omega) (fun _ => ?_) (fun h => absurd h (by omega))
              refine z_aload_n C 2 dX10_hour1_147 rfl ?_
              refine z_get (v := .ref (ad (i + 20))) C (by omega) hay1 hgy1501 rfl inA_X10 43 (by decide) q_1502 rfl rfl dX10_hour1_148 ?_
              refine z_aload_n C 2 dX10_hour1_151 rfl ?_
              refine z_get (v := .int (zI (F 48))) C (by omega) hay1 hgy1501 rfl inA_X10 48 (by decide) q_1507 rfl (fv (F := Fvy1468) (f := 48) ((hFvy1468 48 (by decide) (by decide) (by decide) (by decide) (by decide) (by decide) (by decide)).trans ((hFvy1466 48 (by decide) (by decide) (by decide) (by decide) (by decide)).trans ((hFvy34 48 (by decide) (by decide) (by decide) (by decide) (by decide)).trans (hFvy32 48 (by decide) (by decide)))))) dX10_hour1_152 ?_
              refine z_aload_n C 2 dX10_hour1_155 rfl ?_
              refine z_get (v := .int (zI (Fvy1468 37))) C (by omega) hay1 hgy1501 rfl inA_X10 37 (by decide) q_1496 rfl (fv (F := Fvy1468) (f := 37) rfl) dX10_hour1_156 ?_
              refine z_iconst (z := 3) C dX10_hour1_159 rfl ?_
              refine z_isub C dX10_hour1_160 ?_
              refine z_iconst (z := 1) C dX10_hour1_161 rfl ?_
              refine z_iadd C dX10_hour1_162 ?_
              have hgy1711 := up_n egy1497 hgy1486 (ne_o (i := i) (c := 20) (d := 21) rfl)
              refine z_iast C (by omega) hay7 hgy1711 ((F 48).toNat) (by omega) (by omega) (by decide) dX10_hour1_163 (fun gy1712 egy1713 => ?_)
              have hgy1714 := up_s egy1713
              obtain ⟨ry1715, hvy1716⟩ : ∃ rZ9 : Nat → Int, rZ9 = uZ ry1487 ((F 48).toNat) (((Fvy1468 37) - 3) + 1) := ⟨_, rfl⟩
              rw [← hvy1716] at hgy1714
              refine z_aload_n C 2 dX10_hour1_164 rfl ?_
              have hgy1717 := up_n egy1713 hgy1501 (ne_o (i := i) (c := 0) (d := 20) rfl)
              have hgy1718 := (hfvy1468 (i + 13) (ne_o (i := i) (c := 13) (d := 0) rfl)).trans hgy1467
              have hgy1719 := up_n egy1474 hgy1718 (ne_o (i := i) (c := 13) (d := 19) rfl)
              have hgy1720 := up_n egy1485 hgy1719 (ne_o (i := i) (c := 13) (d := 20) rfl)
              have hgy1721 := up_n egy1497 hgy1720 (ne_o (i := i) (c := 13) (d := 21) rfl)
              have hgy1722 := up_n egy1713 hgy1721 (ne_o (i := i) (c := 13) (d := 20) rfl)
              refine z_cV (As := []) (rest := []) (ci := 12) C (c_X10_go l D A cs tt N ad _ i hN _ hgy1717 _ hgy1722 htp hdvy1468) (by omega) hay1 hgy1717 rfl rfl mv_yX10_go q_1652 hd_yX10_go (by decide) (Nat.le_of_ble_eq_true rfl) (by decide) dX10_hour1_165 rfl (kV0 fun gvy1723 hvy1723 => ?_)
              obtain ⟨⟨Fvy1723, hcvy1723, hdvy1723, hlvy1723, hsvy1723, hFvy1723⟩, hfvy1723⟩ := hvy1723
              rw [show Fvy1468 32 = Fvy1468 32 from rfl] at hlvy1723 hsvy1723
              have h34vy1723 : Fvy1723 34 = F 34 := (hFvy1723 34 (by decide) (by decide) (by decide) (by decide) (by decide)).trans (((hFvy1468 34 (by decide) (by decide) (by decide) (by decide) (by decide) (by decide) (by decide)).trans ((hFvy1466 34 (by decide) (by decide) (by decide) (by decide) (by decide)).trans ((hFvy34 34 (by decide) (by decide) (by decide) (by decide) (by decide)).trans (hFvy32 34 (by decide) (by decide))))))
              obtain ⟨d32vy1723, -, d35vy1723, d36vy1723, -, d37vy1723, d38vy1723⟩ := id hdvy1723
              have h38vy1723 : Fvy1723 38 = 0 := ((hFvy1723 38 (by decide) (by decide) (by decide) (by decide) (by decide)).trans hxvy1468)
              clear hsvy1723
              refine z_aload_n C 2 dX10_hour1_168 rfl ?_
              refine z_get (v := .ref (ad (i + 20))) C (by omega) hay1 hcvy1723 rfl inA_X10 43 (by decide) q_1502 rfl rfl dX10_hour1_169 ?_
              refine z_aload_n C 2 dX10_hour1_172 rfl ?_
              refine z_get (v := .int (zI (F 48))) C (by omega) hay1 hcvy1723 rfl inA_X10 48 (by decide) q_1507 rfl (fv (F := Fvy1723) (f := 48) ((hFvy1723 48 (by decide) (by decide) (by decide) (by decide) (by decide)).trans ((hFvy1468 48 (by decide) (by decide) (by decide) (by decide) (by decide) (by decide) (by decide)).trans ((hFvy1466 48 (by decide) (by decide) (by decide) (by decide) (by decide)).trans ((hFvy34 48 (by decide) (by decide) (by decide) (by decide) (by decide)).trans (hFvy32 48 (by decide) (by decide))))))) dX10_hour1_173 ?_
              have hgy1724 := (hfvy1723 (i + 20) (ne_o (i := i) (c := 20) (d := 0) rfl)).trans hgy1714
              refine z_iald C (by omega) hay7 hgy1724 ((F 48).toNat) (by omega) (by omega) (by decide) dX10_hour1_176 ?_
              rw [show ry1715 ((F 48).toNat) = ((Fvy1468 37) - 3) + 1 from (congrFun hvy1716 _).trans (uZ_s _ _ _)]
              refine z_iconst (z := 3) C dX10_hour1_177 rfl ?_
              obtain ⟨xy1725, exy1726, hxy1727⟩ := zI_of (zI (((Fvy1468 37) - 3) + 1))
              rw [exy1726]
              refine z_icmp_ge (tgt := 197) C dX10_hour1_178 (by decide) (by omega) (by omega) (fun hby1728 => ?_) (fun hby1728 => ?_)
              · refine z_aload_n C 2 dX10_hour1_197 rfl ?_
                refine z_dup C dX10_hour1_198 rfl ?_
                refine z_get (v := .int (zI (F 48))) C (by omega) hay1 hcvy1723 rfl inA_X10 48 (by decide) q_1507 rfl (fv (F := Fvy1723) (f := 48) ((hFvy1723 48 (by decide) (by decide) (by decide) (by decide) (by decide)).trans ((hFvy1468 48 (by decide) (by decide) (by decide) (by decide) (by decide) (by decide) (by decide)).trans ((hFvy1466 48 (by decide) (by decide) (by decide) (by decide) (by decide)).trans ((hFvy34 48 (by decide) (by decide) (by decide) (by decide) (by decide)).trans (hFvy32 48 (by decide) (by decide))))))) dX10_hour1_199 ?_
                refine z_iconst (z := 1) C dX10_hour1_202 rfl ?_
                refine z_iadd C dX10_hour1_203 ?_
                refine z_put (fs' := mF ad (i) (uZ Fvy1723 48 ((F 48) + 1))) C (by omega) hay1 hcvy1723 tyX10 tyX10_ok nmX10 rfl inA_X10 48 (by decide) q_1507 rfl rfl rfl rfl (Nat.le_of_ble_eq_true rfl) rfl dX10_hour1_204 (fun gy1729 egy1730 => ?_)
                have hgy1731 := up_s egy1730
                have hFy1732 : ∀ f, f ≠ 24 → f ≠ 32 → f ≠ 33 → f ≠ 35 → f ≠ 36 → f ≠ 37 → f ≠ 38 → f ≠ 47 → f ≠ 48 → f ≠ 49 → (uZ Fvy1723 48 ((F 48) + 1)) f = F f := fun f n24 n32 n33 n35 n36 n37 n38 n47 n48 n49 => ((uZ_n _ _ n48).trans ((hFvy1723 f n32 n33 n35 n36 n37).trans ((hFvy1468 f n24 n32 n33 n35 n36 n37 n38).trans ((hFvy1466 f n32 n33 n35 n36 n37).trans ((hFvy34 f n32 n33 n35 n36 n37).trans (hFvy32 f n24 n38))))))
                have hey1733 : (uZ Fvy1723 48 ((F 48) + 1)) 32 = Fvy1723 32 := (fn rfl (by decide))
                have hey1734 : (uZ Fvy1723 48 ((F 48) + 1)) 35 = Fvy1723 35 := (fn rfl (by decide))
                have hey1735 : (uZ Fvy1723 48 ((F 48) + 1)) 38 = 0 := (fn ((hFvy1723 38 (by decide) (by decide) (by decide) (by decide) (by decide)).trans hxvy1468) (by decide))
                have hey1736 : (uZ Fvy1723 48 ((F 48) + 1)) 32 = Fvy1723 32 := (fn rfl (by decide))
                have hey1737 : (uZ Fvy1723 48 ((F 48) + 1)) 47 = F 47 := (fn ((hFvy1723 47 (by decide) (by decide) (by decide) (by decide) (by decide)).trans ((hFvy1468 47 (by decide) (by decide) (by decide) (by decide) (by decide) (by decide) (by decide)).trans ((hFvy1466 47 (by decide) (by decide) (by decide) (by decide) (by decide)).trans ((hFvy34 47 (by decide) (by decide) (by decide) (by decide) (by decide)).trans (hFvy32 47 (by decide) (by decide)))))) (by decide))
                have hey1738 : (uZ Fvy1723 48 ((F 48) + 1)) 48 = (F 48) + 1 := (uZ_s _ _ _)
                have hey1739 : (uZ Fvy1723 48 ((F 48) + 1)) 49 = F 49 := (fn ((hFvy1723 49 (by decide) (by decide) (by decide) (by decide) (by decide)).trans ((hFvy1468 49 (by decide) (by decide) (by decide) (by decide) (by decide) (by decide) (by decide)).trans ((hFvy1466 49 (by decide) (by decide) (by decide) (by decide) (by decide)).trans ((hFvy34 49 (by decide) (by decide) (by decide) (by decide) (by decide)).trans (hFvy32 49 (by decide) (by decide)))))) (by decide))
                have hfry1741 : ∀ j, j ≠ (F 48).toNat → ry1476 j = ai1 j := fun j n0 => (congrFun hvy1477 _).trans ((uZ_n _ _ n0).trans (rfl))
                have hwy1742 : ry1476 ((F 48).toNat) = -(vy1468) := (congrFun hvy1477 _).trans (uZ_s _ _ _)
                have haky1740 : ∀ k, k < 24 → -300 ≤ ry1476 k ∧ ry1476 k ≤ 100 := by
                  intro k hk
                  by_cases e : k = (F 48).toNat
                  · rw [e]; have hk0 := hai1 ((F 48).toNat) (by omega); omega
                  · have hk0 := hai1 k hk; rw [hfry1741 k e]; exact hk0
                have hfry1744 : ∀ j, j ≠ (F 48).toNat → ry1715 j = fa1 j := fun j n0 => (congrFun hvy1716 _).trans ((uZ_n _ _ n0).trans ((congrFun hvy1488 _).trans ((uZ_n _ _ n0).trans (rfl))))
                have hfry1745 : ∀ j, j ≠ (F 48).toNat → ry1499 j = mu1 j := fun j n0 => (congrFun hvy1500 _).trans ((uZ_n _ _ n0).trans (rfl))
                have hwy1746 : ry1715 ((F 48).toNat) = ((Fvy1468 37) - 3) + 1 := (congrFun hvy1716 _).trans (uZ_s _ _ _)
                have hwy1747 : ry1499 ((F 48).toNat) = 0 := (congrFun hvy1500 _).trans (uZ_s _ _ _)
                have haky1743 : ∀ k, k < 24 → (0 ≤ ry1715 k ∧ ry1715 k ≤ 3) ∧ (0 ≤ ry1499 k ∧ ry1499 k ≤ 50) ∧ (ry1715 k = 1 ∨ ry1715 k = 2 → 1 ≤ ry1499 k) := by
                  intro k hk
                  by_cases e : k = (F 48).toNat
                  · rw [e]; have hk0 := hfa1 ((F 48).toNat) (by omega); omega
                  · have hk0 := hfa1 k hk; rw [hfry1744 k e]; rw [hfry1745 k e]; exact hk0
                have hlay1748 : ∀ s l : Nat, (s : Int) < (uZ Fvy1723 48 ((F 48) + 1)) 47 → (l : Int) < mn1 s → lyT ly1 (84 * s + 7 * l) := fun s l a1 a2 => hly1 s l (by omega) a2
                have hgy1749 := (hfvy32 (i + 16) (ne_o (i := i) (c := 16) (d := 0) rfl)).trans ha16
                have hgy1750 := (hfvy34 (i + 16) (ne_o (i := i) (c := 16) (d := 0) rfl)).trans hgy1749
                have hgy1751 := (hfvy1466 (i + 16) (ne_o (i := i) (c := 16) (d := 0) rfl)).trans hgy1750
                have hgy1752 := (hfvy1468 (i + 16) (ne_o (i := i) (c := 16) (d := 0) rfl)).trans hgy1751
                have hgy1753 := up_n egy1474 hgy1752 (ne_o (i := i) (c := 16) (d := 19) rfl)
                have hgy1754 := up_n egy1485 hgy1753 (ne_o (i := i) (c := 16) (d := 20) rfl)
                have hgy1755 := up_n egy1497 hgy1754 (ne_o (i := i) (c := 16) (d := 21) rfl)
                have hgy1756 := up_n egy1713 hgy1755 (ne_o (i := i) (c := 16) (d := 20) rfl)
                have hgy1757 := (hfvy1723 (i + 16) (ne_o (i := i) (c := 16) (d := 0) rfl)).trans hgy1756
                have hgy1758 := up_n egy1730 hgy1757 (ne_o (i := i) (c := 16) (d := 0) rfl)
                have hgy1759 := (hfvy32 (i + 17) (ne_o (i := i) (c := 17) (d := 0) rfl)).trans ha17
                have hgy1760 := (hfvy34 (i + 17) (ne_o (i := i) (c := 17) (d := 0) rfl)).trans hgy1759
                have hgy1761 := (hfvy1466 (i + 17) (ne_o (i := i) (c := 17) (d := 0) rfl)).trans hgy1760
                have hgy1762 := (hfvy1468 (i + 17) (ne_o (i := i) (c := 17) (d := 0) rfl)).trans hgy1761
                have hgy1763 := up_n egy1474 hgy1762 (ne_o (i := i) (c := 17) (d := 19) rfl)
                have hgy1764 := up_n egy1485 hgy1763 (ne_o (i := i) (c := 17) (d := 20) rfl)
                have hgy1765 := up_n egy1497 hgy1764 (ne_o (i := i) (c := 17) (d := 21) rfl)
                have hgy1766 := up_n egy1713 hgy1765 (ne_o (i := i) (c := 17) (d := 20) rfl)
                have hgy1767 := (hfvy1723 (i + 17) (ne_o (i := i) (c := 17) (d := 0) rfl)).trans hgy1766
                have hgy1768 := up_n egy1730 hgy1767 (ne_o (i := i) (c := 17) (d := 0) rfl)
                have hgy1769 := (hfvy32 (i + 18) (ne_o (i := i) (c := 18) (d := 0) rfl)).trans ha18
                have hgy1770 := (hfvy34 (i + 18) (ne_o (i := i) (c := 18) (d := 0) rfl)).trans hgy1769
                have hgy1771 := (hfvy1466 (i + 18) (ne_o (i := i) (c := 18) (d := 0) rfl)).trans hgy1770
                have hgy1772 := (hfvy1468 (i + 18) (ne_o (i := i) (c := 18) (d := 0) rfl)).trans hgy1771
                have hgy1773 := up_n egy1474 hgy1772 (ne_o (i := i) (c := 18) (d := 19) rfl)
                have hgy1774 := up_n egy1485 hgy1773 (ne_o (i := i) (c := 18) (d := 20) rfl)
                have hgy1775 := up_n egy1497 hgy1774 (ne_o (i := i) (c := 18) (d := 21) rfl)
                have hgy1776 := up_n egy1713 hgy1775 (ne_o (i := i) (c := 18) (d := 20) rfl)
                have hgy1777 := (hfvy1723 (i + 18) (ne_o (i := i) (c := 18) (d := 0) rfl)).trans hgy1776
                have hgy1778 := up_n egy1730 hgy1777 (ne_o (i := i) (c := 18) (d := 0) rfl)
                have hgy1779 := up_n egy1485 hgy1475 (ne_o (i := i) (c := 19) (d := 20) rfl)
                have hgy1780 := up_n egy1497 hgy1779 (ne_o (i := i) (c := 19) (d := 21) rfl)
                have hgy1781 := up_n egy1713 hgy1780 (ne_o (i := i) (c := 19) (d := 20) rfl)
                have hgy1782 := (hfvy1723 (i + 19) (ne_o (i := i) (c := 19) (d := 0) rfl)).trans hgy1781
                have hgy1783 := up_n egy1730 hgy1782 (ne_o (i := i) (c := 19) (d := 0) rfl)
                have hgy1784 := up_n egy1730 hgy1724 (ne_o (i := i) (c := 20) (d := 0) rfl)
                have hgy1785 := up_n egy1713 hgy1498 (ne_o (i := i) (c := 21) (d := 20) rfl)
                have hgy1786 := (hfvy1723 (i + 21) (ne_o (i := i) (c := 21) (d := 0) rfl)).trans hgy1785
                have hgy1787 := up_n egy1730 hgy1786 (ne_o (i := i) (c := 21) (d := 0) rfl)
                have hgy1788 := (hfvy32 (i + 22) (ne_o (i := i) (c := 22) (d := 0) rfl)).trans ha22
                have hgy1789 := (hfvy34 (i + 22) (ne_o (i := i) (c := 22) (d := 0) rfl)).trans hgy1788
                have hgy1790 := (hfvy1466 (i + 22) (ne_o (i := i) (c := 22) (d := 0) rfl)).trans hgy1789
                have hgy1791 := (hfvy1468 (i + 22) (ne_o (i := i) (c := 22) (d := 0) rfl)).trans hgy1790
                have hgy1792 := up_n egy1474 hgy1791 (ne_o (i := i) (c := 22) (d := 19) rfl)
                have hgy1793 := up_n egy1485 hgy1792 (ne_o (i := i) (c := 22) (d := 20) rfl)
                have hgy1794 := up_n egy1497 hgy1793 (ne_o (i := i) (c := 22) (d := 21) rfl)
                have hgy1795 := up_n egy1713 hgy1794 (ne_o (i := i) (c := 22) (d := 20) rfl)
                have hgy1796 := (hfvy1723 (i + 22) (ne_o (i := i) (c := 22) (d := 0) rfl)).trans hgy1795
                have hgy1797 := up_n egy1730 hgy1796 (ne_o (i := i) (c := 22) (d := 0) rfl)
                have hgy1798 := (hfvy32 (i + 23) (ne_o (i := i) (c := 23) (d := 0) rfl)).trans ha23
                have hgy1799 := (hfvy34 (i + 23) (ne_o (i := i) (c := 23) (d := 0) rfl)).trans hgy1798
                have hgy1800 := (hfvy1466 (i + 23) (ne_o (i := i) (c := 23) (d := 0) rfl)).trans hgy1799
                have hgy1801 := (hfvy1468 (i + 23) (ne_o (i := i) (c := 23) (d := 0) rfl)).trans hgy1800
                have hgy1802 := up_n egy1474 hgy1801 (ne_o (i := i) (c := 23) (d := 19) rfl)
                have hgy1803 := up_n egy1485 hgy1802 (ne_o (i := i) (c := 23) (d := 20) rfl)
                have hgy1804 := up_n egy1497 hgy1803 (ne_o (i := i) (c := 23) (d := 21) rfl)
                have hgy1805 := up_n egy1713 hgy1804 (ne_o (i := i) (c := 23) (d := 20) rfl)
                have hgy1806 := (hfvy1723 (i + 23) (ne_o (i := i) (c := 23) (d := 0) rfl)).trans hgy1805
                have hgy1807 := up_n egy1730 hgy1806 (ne_o (i := i) (c := 23) (d := 0) rfl)
                have htxy1808 : okTx cs gy1729 i (uZ Fvy1723 48 ((F 48) + 1)) := ⟨_, _, _, _, _, _, _, _, ⟨hgy1758, hgy1768, hgy1778, hgy1783, hgy1784, hgy1787, hgy1797, hgy1807⟩, ⟨⟨by omega, by omega, by omega⟩, hop1, hmn1, haky1740, haky1743, htb1, hlay1748⟩⟩
                exact z_vret C hr hlk dX10_hour1_207 (by decide) (by decide) ⟨rfl, rfl, rfl, ⟨_, hgy1731, (RD.put hdvy1723 (by decide)), by omega, by omega, hFy1732, htxy1808⟩, fun j j1 j2 => by rw [egy1730, va_up_ne _ _ (by omega)]; rw [hfvy1723 _ (by omega)]; rw [egy1713, va_up_ne _ _ (by omega)]; rw [egy1497, va_up_ne _ _ (by omega)]; rw [egy1485, va_up_ne _ _ (by omega)]; rw [egy1474, va_up_ne _ _ (by omega)]; rw [hfvy1468 _ (by omega)]; rw [hfvy1466 _ (by omega)]; rw [hfvy34 _ (by omega)]; rw [hfvy32 _ (by omega)]⟩
              · refine z_aload_n C 2 dX10_hour1_181 rfl ?_
                refine z_get (v := .ref (ad (i + 21))) C (by omega) hay1 hcvy1723 rfl inA_X10 44 (by decide) q_1503 rfl rfl dX10_hour1_182 ?_
                refine z_aload_n C 2 dX10_hour1_185 rfl ?_
                refine z_get (v := .int (zI (F 48))) C (by omega) hay1 hcvy1723 rfl inA_X10 48 (by decide) q_1507 rfl (fv (F := Fvy1723) (f := 48) ((hFvy1723 48 (by decide) (by decide) (by decide) (by decide) (by decide)).trans ((hFvy1468 48 (by decide) (by decide) (by decide) (by decide) (by decide) (by decide) (by decide)).trans ((hFvy1466 48 (by decide) (by decide) (by decide) (by decide) (by decide)).trans ((hFvy34 48 (by decide) (by decide) (by decide) (by decide) (by decide)).trans (hFvy32 48 (by decide) (by decide))))))) dX10_hour1_186 ?_
                refine z_aload_n C 2 dX10_hour1_189 rfl ?_
                refine z_iconst (z := 1) C dX10_hour1_190 rfl ?_
                refine z_bipush (z := 50) C dX10_hour1_191 (by decide) ?_
                have hgy1809 := (hfvy1723 (i + 13) (ne_o (i := i) (c := 13) (d := 0) rfl)).trans hgy1722
                refine z_cV (As := [.int (zI (1)), .int (zI (50))]) (rest := [.int (zI (F 48)), .ref (ad (i + 21))]) (ci := 12) C (c_X10_number l D A cs tt N ad _ i hN _ hcvy1723 _ hgy1809 htp hdvy1723 (1) (by omega) (50) (by omega)) (by omega) hay1 hcvy1723 rfl rfl mv_yX10_number q_1682 hd_yX10_number (by decide) (Nat.le_of_ble_eq_true rfl) (by decide) dX10_hour1_193 rfl (kI0 fun vy1810 gvy1810 hvy1810 => ?_)
                obtain ⟨hrvy1810, ⟨Fvy1810, hcvy1810, hdvy1810, hlvy1810, hsvy1810, hFvy1810⟩, hfvy1810⟩ := hvy1810
                rw [show Fvy1723 32 = Fvy1723 32 from rfl] at hlvy1810
                rw [show Fvy1723 38 = 0 from ((hFvy1723 38 (by decide) (by decide) (by decide) (by decide) (by decide)).trans hxvy1468), show Fvy1723 35 = Fvy1723 35 from rfl] at hsvy1810
                have h34vy1810 : Fvy1810 34 = F 34 := (hFvy1810 34 (by decide) (by decide) (by decide) (by decide) (by decide) (by decide) (by decide)).trans (((hFvy1723 34 (by decide) (by decide) (by decide) (by decide) (by decide)).trans ((hFvy1468 34 (by decide) (by decide) (by decide) (by decide) (by decide) (by decide) (by decide)).trans ((hFvy1466 34 (by decide) (by decide) (by decide) (by decide) (by decide)).trans ((hFvy34 34 (by decide) (by decide) (by decide) (by decide) (by decide)).trans (hFvy32 34 (by decide) (by decide)))))))
                obtain ⟨d32vy1810, -, d35vy1810, d36vy1810, -, d37vy1810, d38vy1810⟩ := id hdvy1810
                clear hsvy1810
                have hgy1811 := up_n egy1713 hgy1498 (ne_o (i := i) (c := 21) (d := 20) rfl)
                have hgy1812 := (hfvy1723 (i + 21) (ne_o (i := i) (c := 21) (d := 0) rfl)).trans hgy1811
                have hgy1813 := (hfvy1810 (i + 21) (ne_o (i := i) (c := 21) (d := 0) rfl)).trans hgy1812
                refine z_iast C (by omega) hay8 hgy1813 ((F 48).toNat) (by omega) (by omega) (by decide) dX10_hour1_196 (fun gy1814 egy1815 => ?_)
                have hgy1816 := up_s egy1815
                obtain ⟨ry1817, hvy1818⟩ : ∃ rZ9 : Nat → Int, rZ9 = uZ ry1499 ((F 48).toNat) (vy1810) := ⟨_, rfl⟩
                rw [← hvy1818] at hgy1816
                refine z_aload_n C 2 dX10_hour1_197 rfl ?_
                refine z_dup C dX10_hour1_198 rfl ?_
                have hgy1819 := up_n egy1815 hcvy1810 (ne_o (i := i) (c := 0) (d := 21) rfl)
                refine z_get (v := .int (zI (F 48))) C (by omega) hay1 hgy1819 rfl inA_X10 48 (by decide) q_1507 rfl (fv (F := Fvy1810) (f := 48) ((hFvy1810 48 (by decide) (by decide) (by decide) (by decide) (by decide) (by decide) (by decide)).trans ((hFvy1723 48 (by decide) (by decide) (by decide) (by decide) (by decide)).trans ((hFvy1468 48 (by decide) (by decide) (by decide) (by decide) (by decide) (by decide) (by decide)).trans ((hFvy1466 48 (by decide) (by decide) (by decide) (by decide) (by decide)).trans ((hFvy34 48 (by decide) (by decide) (by decide) (by decide) (by decide)).trans (hFvy32 48 (by decide) (by decide)))))))) dX10_hour1_199 ?_
                refine z_iconst (z := 1) C dX10_hour1_202 rfl ?_
                refine z_iadd C dX10_hour1_203 ?_
                refine z_put (fs' := mF ad (i) (uZ Fvy1810 48 ((F 48) + 1))) C (by omega) hay1 hgy1819 tyX10 tyX10_ok nmX10 rfl inA_X10 48 (by decide) q_1507 rfl rfl rfl rfl (Nat.le_of_ble_eq_true rfl) rfl dX10_hour1_204 (fun gy1820 egy1821 => ?_)
                have hgy1822 := up_s egy1821
                have hFy1823 : ∀ f, f ≠ 24 → f ≠ 32 → f ≠ 33 → f ≠ 35 → f ≠ 36 → f ≠ 37 → f ≠ 38 → f ≠ 47 → f ≠ 48 → f ≠ 49 → (uZ Fvy1810 48 ((F 48) + 1)) f = F f := fun f n24 n32 n33 n35 n36 n37 n38 n47 n48 n49 => ((uZ_n _ _ n48).trans ((hFvy1810 f n24 n32 n33 n35 n36 n37 n38).trans ((hFvy1723 f n32 n33 n35 n36 n37).trans ((hFvy1468 f n24 n32 n33 n35 n36 n37 n38).trans ((hFvy1466 f n32 n33 n35 n36 n37).trans ((hFvy34 f n32 n33 n35 n36 n37).trans (hFvy32 f n24 n38)))))))
                have hey1824 : (uZ Fvy1810 48 ((F 48) + 1)) 32 = Fvy1810 32 := (fn rfl (by decide))
                have hey1825 : (uZ Fvy1810 48 ((F 48) + 1)) 35 = Fvy1810 35 := (fn rfl (by decide))
                have hey1826 : (uZ Fvy1810 48 ((F 48) + 1)) 38 = Fvy1810 38 := (fn rfl (by decide))
                have hey1827 : (uZ Fvy1810 48 ((F 48) + 1)) 32 = Fvy1810 32 := (fn rfl (by decide))
                have hey1828 : (uZ Fvy1810 48 ((F 48) + 1)) 47 = F 47 := (fn ((hFvy1810 47 (by decide) (by decide) (by decide) (by decide) (by decide) (by decide) (by decide)).trans ((hFvy1723 47 (by decide) (by decide) (by decide) (by decide) (by decide)).trans ((hFvy1468 47 (by decide) (by decide) (by decide) (by decide) (by decide) (by decide) (by decide)).trans ((hFvy1466 47 (by decide) (by decide) (by decide) (by decide) (by decide)).trans ((hFvy34 47 (by decide) (by decide) (by decide) (by decide) (by decide)).trans (hFvy32 47 (by decide) (by decide))))))) (by decide))
                have hey1829 : (uZ Fvy1810 48 ((F 48) + 1)) 48 = (F 48) + 1 := (uZ_s _ _ _)
                have hey1830 : (uZ Fvy1810 48 ((F 48) + 1)) 49 = F 49 := (fn ((hFvy1810 49 (by decide) (by decide) (by decide) (by decide) (by decide) (by decide) (by decide)).trans ((hFvy1723 49 (by decide) (by decide) (by decide) (by decide) (by decide)).trans ((hFvy1468 49 (by decide) (by decide) (by decide) (by decide) (by decide) (by decide) (by decide)).trans ((hFvy1466 49 (by decide) (by decide) (by decide) (by decide) (by decide)).trans ((hFvy34 49 (by decide) (by decide) (by decide) (by decide) (by decide)).trans (hFvy32 49 (by decide) (by decide))))))) (by decide))
                have hfry1832 : ∀ j, j ≠ (F 48).toNat → ry1476 j = ai1 j := fun j n0 => (congrFun hvy1477 _).trans ((uZ_n _ _ n0).trans (rfl))
                have hwy1833 : ry1476 ((F 48).toNat) = -(vy1468) := (congrFun hvy1477 _).trans (uZ_s _ _ _)
                have haky1831 : ∀ k, k < 24 → -300 ≤ ry1476 k ∧ ry1476 k ≤ 100 := by
                  intro k hk
                  by_cases e : k = (F 48).toNat
                  · rw [e]; have hk0 := hai1 ((F 48).toNat) (by omega); omega
                  · have hk0 := hai1 k hk; rw [hfry1832 k e]; exact hk0
                have hfry1835 : ∀ j, j ≠ (F 48).toNat → ry1715 j = fa1 j := fun j n0 => (congrFun hvy1716 _).trans ((uZ_n _ _ n0).trans ((congrFun hvy1488 _).trans ((uZ_n _ _ n0).trans (rfl))))
                have hfry1836 : ∀ j, j ≠ (F 48).toNat → ry1817 j = mu1 j := fun j n0 => (congrFun hvy1818 _).trans ((uZ_n _ _ n0).trans ((congrFun hvy1500 _).trans ((uZ_n _ _ n0).trans (rfl))))
                have hwy1837 : ry1715 ((F 48).toNat) = ((Fvy1468 37) - 3) + 1 := (congrFun hvy1716 _).trans (uZ_s _ _ _)
                have hwy1838 : ry1817 ((F 48).toNat) = vy1810 := (congrFun hvy1818 _).trans (uZ_s _ _ _)
                have haky1834 : ∀ k, k < 24 → (0 ≤ ry1715 k ∧ ry1715 k ≤ 3) ∧ (0 ≤ ry1817 k ∧ ry1817 k ≤ 50) ∧ (ry1715 k = 1 ∨ ry1715 k = 2 → 1 ≤ ry1817 k) := by
                  intro k hk
                  by_cases e : k = (F 48).toNat
                  · rw [e]; have hk0 := hfa1 ((F 48).toNat) (by omega); omega
                  · have hk0 := hfa1 k hk; rw [hfry1835 k e]; rw [hfry1836 k e]; exact hk0
                have hlay1839 : ∀ s l : Nat, (s : Int) < (uZ Fvy1810 48 ((F 48) + 1)) 47 → (l : Int) < mn1 s → lyT ly1 (84 * s + 7 * l) := fun s l a1 a2 => hly1 s l (by omega) a2
                have hgy1840 := (hfvy32 (i + 16) (ne_o (i := i) (c := 16) (d := 0) rfl)).trans ha16
                have hgy1841 := (hfvy34 (i + 16) (ne_o (i := i) (c := 16) (d := 0) rfl)).trans hgy1840
                have hgy1842 := (hfvy1466 (i + 16) (ne_o (i := i) (c := 16) (d := 0) rfl)).trans hgy1841
                have hgy1843 := (hfvy1468 (i + 16) (ne_o (i := i) (c := 16) (d := 0) rfl)).trans hgy1842
                have hgy1844 := up_n egy1474 hgy1843 (ne_o (i := i) (c := 16) (d := 19) rfl)
                have hgy1845 := up_n egy1485 hgy1844 (ne_o (i := i) (c := 16) (d := 20) rfl)
                have hgy1846 := up_n egy1497 hgy1845 (ne_o (i := i) (c := 16) (d := 21) rfl)
                have hgy1847 := up_n egy1713 hgy1846 (ne_o (i := i) (c := 16) (d := 20) rfl)
                have hgy1848 := (hfvy1723 (i + 16) (ne_o (i := i) (c := 16) (d := 0) rfl)).trans hgy1847
                have hgy1849 := (hfvy1810 (i + 16) (ne_o (i := i) (c := 16) (d := 0) rfl)).trans hgy1848
                have hgy1850 := up_n egy1815 hgy1849 (ne_o (i := i) (c := 16) (d := 21) rfl)
                have hgy1851 := up_n egy1821 hgy1850 (ne_o (i := i) (c := 16) (d := 0) rfl)
                have hgy1852 := (hfvy32 (i + 17) (ne_o (i := i) (c := 17) (d := 0) rfl)).trans ha17
                have hgy1853 := (hfvy34 (i + 17) (ne_o (i := i) (c := 17) (d := 0) rfl)).trans hgy1852
                have hgy1854 := (hfvy1466 (i + 17) (ne_o (i := i) (c := 17) (d := 0) rfl)).trans hgy1853
                have hgy1855 := (hfvy1468 (i + 17) (ne_o (i := i) (c := 17) (d := 0) rfl)).trans hgy1854
                have hgy1856 := up_n egy1474 hgy1855 (ne_o (i := i) (c := 17) (d := 19) rfl)
                have hgy1857 := up_n egy1485 hgy1856 (ne_o (i := i) (c := 17) (d := 20) rfl)
                have hgy1858 := up_n egy1497 hgy1857 (ne_o (i := i) (c := 17) (d := 21) rfl)
                have hgy1859 := up_n egy1713 hgy1858 (ne_o (i := i) (c := 17) (d := 20) rfl)
                have hgy1860 := (hfvy1723 (i + 17) (ne_o (i := i) (c := 17) (d := 0) rfl)).trans hgy1859
                have hgy1861 := (hfvy1810 (i + 17) (ne_o (i := i) (c := 17) (d := 0) rfl)).trans hgy1860
                have hgy1862 := up_n egy1815 hgy1861 (ne_o (i := i) (c := 17) (d := 21) rfl)
                have hgy1863 := up_n egy1821 hgy1862 (ne_o (i := i) (c := 17) (d := 0) rfl)
                have hgy1864 := (hfvy32 (i + 18) (ne_o (i := i) (c := 18) (d := 0) rfl)).trans ha18
                have hgy1865 := (hfvy34 (i + 18) (ne_o (i := i) (c := 18) (d := 0) rfl)).trans hgy1864
                have hgy1866 := (hfvy1466 (i + 18) (ne_o (i := i) (c := 18) (d := 0) rfl)).trans hgy1865
                have hgy1867 := (hfvy1468 (i + 18) (ne_o (i := i) (c := 18) (d := 0) rfl)).trans hgy1866
                have hgy1868 := up_n egy1474 hgy1867 (ne_o (i := i) (c := 18) (d := 19) rfl)
                have hgy1869 := up_n egy1485 hgy1868 (ne_o (i := i) (c := 18) (d := 20) rfl)
                have hgy1870 := up_n egy1497 hgy1869 (ne_o (i := i) (c := 18) (d := 21) rfl)
                have hgy1871 := up_n egy1713 hgy1870 (ne_o (i := i) (c := 18) (d := 20) rfl)
                have hgy1872 := (hfvy1723 (i + 18) (ne_o (i := i) (c := 18) (d := 0) rfl)).trans hgy1871
                have hgy1873 := (hfvy1810 (i + 18) (ne_o (i := i) (c := 18) (d := 0) rfl)).trans hgy1872
                have hgy1874 := up_n egy1815 hgy1873 (ne_o (i := i) (c := 18) (d := 21) rfl)
                have hgy1875 := up_n egy1821 hgy1874 (ne_o (i := i) (c := 18) (d := 0) rfl)
                have hgy1876 := up_n egy1485 hgy1475 (ne_o (i := i) (c := 19) (d := 20) rfl)
                have hgy1877 := up_n egy1497 hgy1876 (ne_o (i := i) (c := 19) (d := 21) rfl)
                have hgy1878 := up_n egy1713 hgy1877 (ne_o (i := i) (c := 19) (d := 20) rfl)
                have hgy1879 := (hfvy1723 (i + 19) (ne_o (i := i) (c := 19) (d := 0) rfl)).trans hgy1878
                have hgy1880 := (hfvy1810 (i + 19) (ne_o (i := i) (c := 19) (d := 0) rfl)).trans hgy1879
                have hgy1881 := up_n egy1815 hgy1880 (ne_o (i := i) (c := 19) (d := 21) rfl)
                have hgy1882 := up_n egy1821 hgy1881 (ne_o (i := i) (c := 19) (d := 0) rfl)
                have hgy1883 := (hfvy1810 (i + 20) (ne_o (i := i) (c := 20) (d := 0) rfl)).trans hgy1724
                have hgy1884 := up_n egy1815 hgy1883 (ne_o (i := i) (c := 20) (d := 21) rfl)
                have hgy1885 := up_n egy1821 hgy1884 (ne_o (i := i) (c := 20) (d := 0) rfl)
                have hgy1886 := up_n egy1821 hgy1816 (ne_o (i := i) (c := 21) (d := 0) rfl)
                have hgy1887 := (hfvy32 (i + 22) (ne_o (i := i) (c := 22) (d := 0) rfl)).trans ha22
                have hgy1888 := (hfvy34 (i + 22) (ne_o (i := i) (c := 22) (d := 0) rfl)).trans hgy1887
                have hgy1889 := (hfvy1466 (i + 22) (ne_o (i := i) (c := 22) (d := 0) rfl)).trans hgy1888
                have hgy1890 := (hfvy1468 (i + 22) (ne_o (i := i) (c := 22) (d := 0) rfl)).trans hgy1889
                have hgy1891 := up_n egy1474 hgy1890 (ne_o (i := i) (c := 22) (d := 19) rfl)
                have hgy1892 := up_n egy1485 hgy1891 (ne_o (i := i) (c := 22) (d := 20) rfl)
                have hgy1893 := up_n egy1497 hgy1892 (ne_o (i := i) (c := 22) (d := 21) rfl)
                have hgy1894 := up_n egy1713 hgy1893 (ne_o (i := i) (c := 22) (d := 20) rfl)
                have hgy1895 := (hfvy1723 (i + 22) (ne_o (i := i) (c := 22) (d := 0) rfl)).trans hgy1894
                have hgy1896 := (hfvy1810 (i + 22) (ne_o (i := i) (c := 22) (d := 0) rfl)).trans hgy1895
                have hgy1897 := up_n egy1815 hgy1896 (ne_o (i := i) (c := 22) (d := 21) rfl)
                have hgy1898 := up_n egy1821 hgy1897 (ne_o (i := i) (c := 22) (d := 0) rfl)
                have hgy1899 := (hfvy32 (i + 23) (ne_o (i := i) (c := 23) (d := 0) rfl)).trans ha23
                have hgy1900 := (hfvy34 (i + 23) (ne_o (i := i) (c := 23) (d := 0) rfl)).trans hgy1899
                have hgy1901 := (hfvy1466 (i + 23) (ne_o (i := i) (c := 23) (d := 0) rfl)).trans hgy1900
                have hgy1902 := (hfvy1468 (i + 23) (ne_o (i := i) (c := 23) (d := 0) rfl)).trans hgy1901
                have hgy1903 := up_n egy1474 hgy1902 (ne_o (i := i) (c := 23) (d := 19) rfl)
                have hgy1904 := up_n egy1485 hgy1903 (ne_o (i := i) (c := 23) (d := 20) rfl)
                have hgy1905 := up_n egy1497 hgy1904 (ne_o (i := i) (c := 23) (d := 21) rfl)
                have hgy1906 := up_n egy1713 hgy1905 (ne_o (i := i) (c := 23) (d := 20) rfl)
                have hgy1907 := (hfvy1723 (i + 23) (ne_o (i := i) (c := 23) (d := 0) rfl)).trans hgy1906
                have hgy1908 := (hfvy1810 (i + 23) (ne_o (i := i) (c := 23) (d := 0) rfl)).trans hgy1907
                have hgy1909 := up_n egy1815 hgy1908 (ne_o (i := i) (c := 23) (d := 21) rfl)
                have hgy1910 := up_n egy1821 hgy1909 (ne_o (i := i) (c := 23) (d := 0) rfl)
                have htxy1911 : okTx cs gy1820 i (uZ Fvy1810 48 ((F 48) + 1)) := ⟨_, _, _, _, _, _, _, _, ⟨hgy1851, hgy1863, hgy1875, hgy1882, hgy1885, hgy1886, hgy1898, hgy1910⟩, ⟨⟨by omega, by omega, by omega⟩, hop1, hmn1, haky1831, haky1834, htb1, hlay1839⟩⟩
                exact z_vret C hr hlk dX10_hour1_207 (by decide) (by decide) ⟨rfl, rfl, rfl, ⟨_, hgy1822, (RD.put hdvy1810 (by decide)), by omega, by omega, hFy1823, htxy1911⟩, fun j j1 j2 => by rw [egy1821, va_up_ne _ _ (by omega)]; rw [egy1815, va_up_ne _ _ (by omega)]; rw [hfvy1810 _ (by omega)]; rw [hfvy1723 _ (by omega)]; rw [egy1713, va_up_ne _ _ (by omega)]; rw [egy1497, va_up_ne _ _ (by omega)]; rw [egy1485, va_up_ne _ _ (by omega)]; rw [egy1474, va_up_ne _ _ (by omega)]; rw [hfvy1468 _ (by omega)]; rw [hfvy1466 _ (by omega)]; rw [hfvy34 _ (by omega)]; rw [hfvy32 _ (by omega)]⟩
            · clear hqvy1707
              refine z_if_ne (tgt := 147) C dX10_hour1_136 (by decide) (by omega) (fun h => absurd h (by omega)) (fun _ => ?_)
              refine z_aload_n C 2 dX10_hour1_139 rfl ?_
              refine z_iconst (z := 5) C dX10_hour1_140 rfl ?_
              have hey1913 : Fvy1468 38 = 0 := hxvy1468
              have hey1914 : Fvy1468 35 = Fvy1468 35 := rfl
              have hey1915 : Fvy1468 37 = Fvy1468 37 := rfl
              refine z_cV (As := [.int (zI (5))]) (rest := []) (ci := 12) C (c_X10_is l D A cs tt N ad _ i hN _ hgy1501 hdvy1468 (5) (by omega)) (by omega) hay1 hgy1501 rfl rfl mv_yX10_is q_1705 hd_yX10_is (by decide) (Nat.le_of_ble_eq_true rfl) (by decide) dX10_hour1_141 rfl (kI0 fun vy1912 gvy1912 hvy1912 => ?_)
              rw [hey1913, hey1914, hey1915] at hvy1912
              clear hey1913 hey1914 hey1915
              obtain ⟨hrvy1912, hqvy1912, rfl⟩ := hvy1912
              rcases (show vy1912 = 1 ∨ vy1912 = 0 by omega) with rfl | rfl
              · have hkvy1912 := hqvy1912 rfl
                clear hqvy1912
                refine z_if_eq (tgt := 197) C dX10_hour1_144 (by decide) (by omega) (fun h => absurd h (by omega)) (fun _ => ?_)
                refine z_aload_n C 2 dX10_hour1_147 rfl ?_
                refine z_get (v := .ref (ad (i + 20))) C (by omega) hay1 hgy1501 rfl inA_X10 43 (by decide) q_1502 rfl rfl dX10_hour1_148 ?_
                refine z_aload_n C 2 dX10_hour1_151 rfl ?_
                refine z_get (v := .int (zI (F 48))) C (by omega) hay1 hgy1501 rfl inA_X10 48 (by decide) q_1507 rfl (fv (F := Fvy1468) (f := 48) ((hFvy1468 48 (by decide) (by decide) (by decide) (by decide) (by decide) (by decide) (by decide)).trans ((hFvy1466 48 (by decide) (by decide) (by decide) (by decide) (by decide)).trans ((hFvy34 48 (by decide) (by decide) (by decide) (by decide) (by decide)).trans (hFvy32 48 (by decide) (by decide)))))) dX10_hour1_152 ?_
                refine z_aload_n C 2 dX10_hour1_155 rfl ?_
                refine z_get (v := .int (zI (Fvy1468 37))) C (by omega) hay1 hgy1501 rfl inA_X10 37 (by decide) q_1496 rfl (fv (F := Fvy1468) (f := 37) rfl) dX10_hour1_156 ?_
                refine z_iconst (z := 3) C dX10_hour1_159 rfl ?_
                refine z_isub C dX10_hour1_160 ?_
                refine z_iconst (z := 1) C dX10_hour1_161 rfl ?_
                refine z_iadd C dX10_hour1_162 ?_
                have hgy1916 := up_n egy1497 hgy1486 (ne_o (i := i) (c := 20) (d := 21) rfl)
                refine z_iast C (by omega) hay7 hgy1916 ((F 48).toNat) (by omega) (by omega) (by decide) dX10_hour1_163 (fun gy1917 egy1918 => ?_)
                have hgy1919 := up_s egy1918
                obtain ⟨ry1920, hvy1921⟩ : ∃ rZ9 : Nat → Int, rZ9 = uZ ry1487 ((F 48).toNat) (((Fvy1468 37) - 3) + 1) := ⟨_, rfl⟩
                rw [← hvy1921] at hgy1919
                refine z_aload_n C 2 dX10_hour1_164 rfl ?_
                have hgy1922 := up_n egy1918 hgy1501 (ne_o (i := i) (c := 0) (d := 20) rfl)
                have hgy1923 := (hfvy1468 (i + 13) (ne_o (i := i) (c := 13) (d := 0) rfl)).trans hgy1467
                have hgy1924 := up_n egy1474 hgy1923 (ne_o (i := i) (c := 13) (d := 19) rfl)
                have hgy1925 := up_n egy1485 hgy1924 (ne_o (i := i) (c := 13) (d := 20) rfl)
                have hgy1926 := up_n egy1497 hgy1925 (ne_o (i := i) (c := 13) (d := 21) rfl)
                have hgy1927 := up_n egy1918 hgy1926 (ne_o (i := i) (c := 13) (d := 20) rfl)
                refine z_cV (As := []) (rest := []) (ci := 12) C (c_X10_go l D A cs tt N ad _ i hN _ hgy1922 _ hgy1927 htp hdvy1468) (by omega) hay1 hgy1922 rfl rfl mv_yX10_go q_1652 hd_yX10_go (by decide) (Nat.le_of_ble_eq_true rfl) (by decide) dX10_hour1_165 rfl (kV0 fun gvy1928 hvy1928 => ?_)
                obtain ⟨⟨Fvy1928, hcvy1928, hdvy1928, hlvy1928, hsvy1928, hFvy1928⟩, hfvy1928⟩ := hvy1928
                rw [show Fvy1468 32 = Fvy1468 32 from rfl] at hlvy1928 hsvy1928
                have h34vy1928 : Fvy1928 34 = F 34 := (hFvy1928 34 (by decide) (by decide) (by decide) (by decide) (by decide)).trans (((hFvy1468 34 (by decide) (by decide) (by decide) (by decide) (by decide) (by decide) (by decide)).trans ((hFvy1466 34 (by decide) (by decide) (by decide) (by decide) (by decide)).trans ((hFvy34 34 (by decide) (by decide) (by decide) (by decide) (by decide)).trans (hFvy32 34 (by decide) (by decide))))))
                obtain ⟨d32vy1928, -, d35vy1928, d36vy1928, -, d37vy1928, d38vy1928⟩ := id hdvy1928
                have h38vy1928 : Fvy1928 38 = 0 := ((hFvy1928 38 (by decide) (by decide) (by decide) (by decide) (by decide)).trans hxvy1468)
                clear hsvy1928
                refine z_aload_n C 2 dX10_hour1_168 rfl ?_
                refine z_get (v := .ref (ad (i + 20))) C (by omega) hay1 hcvy1928 rfl inA_X10 43 (by decide) q_1502 rfl rfl dX10_hour1_169 ?_
                refine z_aload_n C 2 dX10_hour1_172 rfl ?_
                refine z_get (v := .int (zI (F 48))) C (by omega) hay1 hcvy1928 rfl inA_X10 48 (by decide) q_1507 rfl (fv (F := Fvy1928) (f := 48) ((hFvy1928 48 (by decide) (by decide) (by decide) (by decide) (by decide)).trans ((hFvy1468 48 (by decide) (by decide) (by decide) (by decide) (by decide) (by decide) (by decide)).trans ((hFvy1466 48 (by decide) (by decide) (by decide) (by decide) (by decide)).trans ((hFvy34 48 (by decide) (by decide) (by decide) (by decide) (by decide)).trans (hFvy32 48 (by decide) (by decide))))))) dX10_hour1_173 ?_
                have hgy1929 := (hfvy1928 (i + 20) (ne_o (i := i) (c := 20) (d := 0) rfl)).trans hgy1919
                refine z_iald C (by omega) hay7 hgy1929 ((F 48).toNat) (by omega) (by omega) (by decide) dX10_hour1_176 ?_
                rw [show ry1920 ((F 48).toNat) = ((Fvy1468 37) - 3) + 1 from (congrFun hvy1921 _).trans (uZ_s _ _ _)]
                refine z_iconst (z := 3) C dX10_hour1_177 rfl ?_
                obtain ⟨xy1930, exy1931, hxy1932⟩ := zI_of (zI (((Fvy1468 37) - 3) + 1))
                rw [exy1931]
                refine z_icmp_ge (tgt := 197) C dX10_hour1_178 (by decide) (by omega) (by omega) (fun hby1933 => ?_) (fun hby1933 => ?_)
                · refine z_aload_n C 2 dX10_hour1_197 rfl ?_
                  refine z_dup C dX10_hour1_198 rfl ?_
                  refine z_get (v := .int (zI (F 48))) C (by omega) hay1 hcvy1928 rfl inA_X10 48 (by decide) q_1507 rfl (fv (F := Fvy1928) (f := 48) ((hFvy1928 48 (by decide) (by decide) (by decide) (by decide) (by decide)).trans ((hFvy1468 48 (by decide) (by decide) (by decide) (by decide) (by decide) (by decide) (by decide)).trans ((hFvy1466 48 (by decide) (by decide) (by decide) (by decide) (by decide)).trans ((hFvy34 48 (by decide) (by decide) (by decide) (by decide) (by decide)).trans (hFvy32 48 (by decide) (by decide))))))) dX10_hour1_199 ?_
                  refine z_iconst (z := 1) C dX10_hour1_202 rfl ?_
                  refine z_iadd C dX10_hour1_203 ?_
                  refine z_put (fs' := mF ad (i) (uZ Fvy1928 48 ((F 48) + 1))) C (by omega) hay1 hcvy1928 tyX10 tyX10_ok nmX10 rfl inA_X10 48 (by decide) q_1507 rfl rfl rfl rfl (Nat.le_of_ble_eq_true rfl) rfl dX10_hour1_204 (fun gy1934 egy1935 => ?_)
                  have hgy1936 := up_s egy1935
                  have hFy1937 : ∀ f, f ≠ 24 → f ≠ 32 → f ≠ 33 → f ≠ 35 → f ≠ 36 → f ≠ 37 → f ≠ 38 → f ≠ 47 → f ≠ 48 → f ≠ 49 → (uZ Fvy1928 48 ((F 48) + 1)) f = F f := fun f n24 n32 n33 n35 n36 n37 n38 n47 n48 n49 => ((uZ_n _ _ n48).trans ((hFvy1928 f n32 n33 n35 n36 n37).trans ((hFvy1468 f n24 n32 n33 n35 n36 n37 n38).trans ((hFvy1466 f n32 n33 n35 n36 n37).trans ((hFvy34 f n32 n33 n35 n36 n37).trans (hFvy32 f n24 n38))))))
                  have hey1938 : (uZ Fvy1928 48 ((F 48) + 1)) 32 = Fvy1928 32 := (fn rfl (by decide))
                  have hey1939 : (uZ Fvy1928 48 ((F 48) + 1)) 35 = Fvy1928 35 := (fn rfl (by decide))
                  have hey1940 : (uZ Fvy1928 48 ((F 48) + 1)) 38 = 0 := (fn ((hFvy1928 38 (by decide) (by decide) (by decide) (by decide) (by decide)).trans hxvy1468) (by decide))
                  have hey1941 : (uZ Fvy1928 48 ((F 48) + 1)) 32 = Fvy1928 32 := (fn rfl (by decide))
                  have hey1942 : (uZ Fvy1928 48 ((F 48) + 1)) 47 = F 47 := (fn ((hFvy1928 47 (by decide) (by decide) (by decide) (by decide) (by decide)).trans ((hFvy1468 47 (by decide) (by decide) (by decide) (by decide) (by decide) (by decide) (by decide)).trans ((hFvy1466 47 (by decide) (by decide) (by decide) (by decide) (by decide)).trans ((hFvy34 47 (by decide) (by decide) (by decide) (by decide) (by decide)).trans (hFvy32 47 (by decide) (by decide)))))) (by decide))
                  have hey1943 : (uZ Fvy1928 48 ((F 48) + 1)) 48 = (F 48) + 1 := (uZ_s _ _ _)
                  have hey1944 : (uZ Fvy1928 48 ((F 48) + 1)) 49 = F 49 := (fn ((hFvy1928 49 (by decide) (by decide) (by decide) (by decide) (by decide)).trans ((hFvy1468 49 (by decide) (by decide) (by decide) (by decide) (by decide) (by decide) (by decide)).trans ((hFvy1466 49 (by decide) (by decide) (by decide) (by decide) (by decide)).trans ((hFvy34 49 (by decide) (by decide) (by decide) (by decide) (by decide)).trans (hFvy32 49 (by decide) (by decide)))))) (by decide))
                  have hfry1946 : ∀ j, j ≠ (F 48).toNat → ry1476 j = ai1 j := fun j n0 => (congrFun hvy1477 _).trans ((uZ_n _ _ n0).trans (rfl))
                  have hwy1947 : ry1476 ((F 48).toNat) = -(vy1468) := (congrFun hvy1477 _).trans (uZ_s _ _ _)
                  have haky1945 : ∀ k, k < 24 → -300 ≤ ry1476 k ∧ ry1476 k ≤ 100 := by
                    intro k hk
                    by_cases e : k = (F 48).toNat
                    · rw [e]; have hk0 := hai1 ((F 48).toNat) (by omega); omega
                    · have hk0 := hai1 k hk; rw [hfry1946 k e]; exact hk0
                  have hfry1949 : ∀ j, j ≠ (F 48).toNat → ry1920 j = fa1 j := fun j n0 => (congrFun hvy1921 _).trans ((uZ_n _ _ n0).trans ((congrFun hvy1488 _).trans ((uZ_n _ _ n0).trans (rfl))))
                  have hfry1950 : ∀ j, j ≠ (F 48).toNat → ry1499 j = mu1 j := fun j n0 => (congrFun hvy1500 _).trans ((uZ_n _ _ n0).trans (rfl))
                  have hwy1951 : ry1920 ((F 48).toNat) = ((Fvy1468 37) - 3) + 1 := (congrFun hvy1921 _).trans (uZ_s _ _ _)
                  have hwy1952 : ry1499 ((F 48).toNat) = 0 := (congrFun hvy1500 _).trans (uZ_s _ _ _)
                  have haky1948 : ∀ k, k < 24 → (0 ≤ ry1920 k ∧ ry1920 k ≤ 3) ∧ (0 ≤ ry1499 k ∧ ry1499 k ≤ 50) ∧ (ry1920 k = 1 ∨ ry1920 k = 2 → 1 ≤ ry1499 k) := by
                    intro k hk
                    by_cases e : k = (F 48).toNat
                    · rw [e]; have hk0 := hfa1 ((F 48).toNat) (by omega); omega
                    · have hk0 := hfa1 k hk; rw [hfry1949 k e]; rw [hfry1950 k e]; exact hk0
                  have hlay1953 : ∀ s l : Nat, (s : Int) < (uZ Fvy1928 48 ((F 48) + 1)) 47 → (l : Int) < mn1 s → lyT ly1 (84 * s + 7 * l) := fun s l a1 a2 => hly1 s l (by omega) a2
                  have hgy1954 := (hfvy32 (i + 16) (ne_o (i := i) (c := 16) (d := 0) rfl)).trans ha16
                  have hgy1955 := (hfvy34 (i + 16) (ne_o (i := i) (c := 16) (d := 0) rfl)).trans hgy1954
                  have hgy1956 := (hfvy1466 (i + 16) (ne_o (i := i) (c := 16) (d := 0) rfl)).trans hgy1955
                  have hgy1957 := (hfvy1468 (i + 16) (ne_o (i := i) (c := 16) (d := 0) rfl)).trans hgy1956
                  have hgy1958 := up_n egy1474 hgy1957 (ne_o (i := i) (c := 16) (d := 19) rfl)
                  have hgy1959 := up_n egy1485 hgy1958 (ne_o (i := i) (c := 16) (d := 20) rfl)
                  have hgy1960 := up_n egy1497 hgy1959 (ne_o (i := i) (c := 16) (d := 21) rfl)
                  have hgy1961 := up_n egy1918 hgy1960 (ne_o (i := i) (c := 16) (d := 20) rfl)
                  have hgy1962 := (hfvy1928 (i + 16) (ne_o (i := i) (c := 16) (d := 0) rfl)).trans hgy1961
                  have hgy1963 := up_n egy1935 hgy1962 (ne_o (i := i) (c := 16) (d := 0) rfl)
                  have hgy1964 := (hfvy32 (i + 17) (ne_o (i := i) (c := 17) (d := 0) rfl)).trans ha17
                  have hgy1965 := (hfvy34 (i + 17) (ne_o (i := i) (c := 17) (d := 0) rfl)).trans hgy1964
                  have hgy1966 := (hfvy1466 (i + 17) (ne_o (i := i) (c := 17) (d := 0) rfl)).trans hgy1965
                  have hgy1967 := (hfvy1468 (i + 17) (ne_o (i := i) (c := 17) (d := 0) rfl)).trans hgy1966
                  have hgy1968 := up_n egy1474 hgy1967 (ne_o (i := i) (c := 17) (d := 19) rfl)
                  have hgy1969 := up_n egy1485 hgy1968 (ne_o (i := i) (c := 17) (d := 20) rfl)
                  have hgy1970 := up_n egy1497 hgy1969 (ne_o (i := i) (c := 17) (d := 21) rfl)
                  have hgy1971 := up_n egy1918 hgy1970 (ne_o (i := i) (c := 17) (d := 20) rfl)
                  have hgy1972 := (hfvy1928 (i + 17) (ne_o (i := i) (c := 17) (d := 0) rfl)).trans hgy1971
                  have hgy1973 := up_n egy1935 hgy1972 (ne_o (i := i) (c := 17) (d := 0) rfl)
                  have hgy1974 := (hfvy32 (i + 18) (ne_o (i := i) (c := 18) (d := 0) rfl)).trans ha18
                  have hgy1975 := (hfvy34 (i + 18) (ne_o (i := i) (c := 18) (d := 0) rfl)).trans hgy1974
                  have hgy1976 := (hfvy1466 (i + 18) (ne_o (i := i) (c := 18) (d := 0) rfl)).trans hgy1975
                  have hgy1977 := (hfvy1468 (i + 18) (ne_o (i := i) (c := 18) (d := 0) rfl)).trans hgy1976
                  have hgy1978 := up_n egy1474 hgy1977 (ne_o (i := i) (c := 18) (d := 19) rfl)
                  have hgy1979 := up_n egy1485 hgy1978 (ne_o (i := i) (c := 18) (d := 20) rfl)
                  have hgy1980 := up_n egy1497 hgy1979 (ne_o (i := i) (c := 18) (d := 21) rfl)
                  have hgy1981 := up_n egy1918 hgy1980 (ne_o (i := i) (c := 18) (d := 20) rfl)
                  have hgy1982 := (hfvy1928 (i + 18) (ne_o (i := i) (c := 18) (d := 0) rfl)).trans hgy1981
                  have hgy1983 := up_n egy1935 hgy1982 (ne_o (i := i) (c := 18) (d := 0) rfl)
                  have hgy1984 := up_n egy1485 hgy1475 (ne_o (i := i) (c := 19) (d := 20) rfl)
                  have hgy1985 := up_n egy1497 hgy1984 (ne_o (i := i) (c := 19) (d := 21) rfl)
                  have hgy1986 := up_n egy1918 hgy1985 (ne_o (i := i) (c := 19) (d := 20) rfl)
                  have hgy1987 := (hfvy1928 (i + 19) (ne_o (i := i) (c := 19) (d := 0) rfl)).trans hgy1986
                  have hgy1988 := up_n egy1935 hgy1987 (ne_o (i := i) (c := 19) (d := 0) rfl)
                  have hgy1989 := up_n egy1935 hgy1929 (ne_o (i := i) (c := 20) (d := 0) rfl)
                  have hgy1990 := up_n egy1918 hgy1498 (ne_o (i := i) (c := 21) (d := 20) rfl)
                  have hgy1991 := (hfvy1928 (i + 21) (ne_o (i := i) (c := 21) (d := 0) rfl)).trans hgy1990
                  have hgy1992 := up_n egy1935 hgy1991 (ne_o (i := i) (c := 21) (d := 0) rfl)
                  have hgy1993 := (hfvy32 (i + 22) (ne_o (i := i) (c := 22) (d := 0) rfl)).trans ha22
                  have hgy1994 := (hfvy34 (i + 22) (ne_o (i := i) (c := 22) (d := 0) rfl)).trans hgy1993
                  have hgy1995 := (hfvy1466 (i + 22) (ne_o (i := i) (c := 22) (d := 0) rfl)).trans hgy1994
                  have hgy1996 := (hfvy1468 (i + 22) (ne_o (i := i) (c := 22) (d := 0) rfl)).trans hgy1995
                  have hgy1997 := up_n egy1474 hgy1996 (ne_o (i := i) (c := 22) (d := 19) rfl)
                  have hgy1998 := up_n egy1485 hgy1997 (ne_o (i := i) (c := 22) (d := 20) rfl)
                  have hgy1999 := up_n egy1497 hgy1998 (ne_o (i := i) (c := 22) (d := 21) rfl)
                  have hgy2000 := up_n egy1918 hgy1999 (ne_o (i := i) (c := 22) (d := 20) rfl)
                  have hgy2001 := (hfvy1928 (i + 22) (ne_o (i := i) (c := 22) (d := 0) rfl)).trans hgy2000
                  have hgy2002 := up_n egy1935 hgy2001 (ne_o (i := i) (c := 22) (d := 0) rfl)
                  have hgy2003 := (hfvy32 (i + 23) (ne_o (i := i) (c := 23) (d := 0) rfl)).trans ha23
                  have hgy2004 := (hfvy34 (i + 23) (ne_o (i := i) (c := 23) (d := 0) rfl)).trans hgy2003
                  have hgy2005 := (hfvy1466 (i + 23) (ne_o (i := i) (c := 23) (d := 0) rfl)).trans hgy2004
                  have hgy2006 := (hfvy1468 (i + 23) (ne_o (i := i) (c := 23) (d := 0) rfl)).trans hgy2005
                  have hgy2007 := up_n egy1474 hgy2006 (ne_o (i := i) (c := 23) (d := 19) rfl)
                  have hgy2008 := up_n egy1485 hgy2007 (ne_o (i := i) (c := 23) (d := 20) rfl)
                  have hgy2009 := up_n egy1497 hgy2008 (ne_o (i := i) (c := 23) (d := 21) rfl)
                  have hgy2010 := up_n egy1918 hgy2009 (ne_o (i := i) (c := 23) (d := 20) rfl)
                  have hgy2011 := (hfvy1928 (i + 23) (ne_o (i := i) (c := 23) (d := 0) rfl)).trans hgy2010
                  have hgy2012 := up_n egy1935 hgy2011 (ne_o (i := i) (c := 23) (d := 0) rfl)
                  have htxy2013 : okTx cs gy1934 i (uZ Fvy1928 48 ((F 48) + 1)) := ⟨_, _, _, _, _, _, _, _, ⟨hgy1963, hgy1973, hgy1983, hgy1988, hgy1989, hgy1992, hgy2002, hgy2012⟩, ⟨⟨by omega, by omega, by omega⟩, hop1, hmn1, haky1945, haky1948, htb1, hlay1953⟩⟩
                  exact z_vret C hr hlk dX10_hour1_207 (by decide) (by decide) ⟨rfl, rfl, rfl, ⟨_, hgy1936, (RD.put hdvy1928 (by decide)), by omega, by omega, hFy1937, htxy2013⟩, fun j j1 j2 => by rw [egy1935, va_up_ne _ _ (by omega)]; rw [hfvy1928 _ (by omega)]; rw [egy1918, va_up_ne _ _ (by omega)]; rw [egy1497, va_up_ne _ _ (by omega)]; rw [egy1485, va_up_ne _ _ (by omega)]; rw [egy1474, va_up_ne _ _ (by omega)]; rw [hfvy1468 _ (by omega)]; rw [hfvy1466 _ (by omega)]; rw [hfvy34 _ (by omega)]; rw [hfvy32 _ (by omega)]⟩
                · refine z_aload_n C 2 dX10_hour1_181 rfl ?_
                  refine z_get (v := .ref (ad (i + 21))) C (by omega) hay1 hcvy1928 rfl inA_X10 44 (by decide) q_1503 rfl rfl dX10_hour1_182 ?_
                  refine z_aload_n C 2 dX10_hour1_185 rfl ?_
                  refine z_get (v := .int (zI (F 48))) C (by omega) hay1 hcvy1928 rfl inA_X10 48 (by decide) q_1507 rfl (fv (F := Fvy1928) (f := 48) ((hFvy1928 48 (by decide) (by decide) (by decide) (by decide) (by decide)).trans ((hFvy1468 48 (by decide) (by decide) (by decide) (by decide) (by decide) (by decide) (by decide)).trans ((hFvy1466 48 (by decide) (by decide) (by decide) (by decide) (by decide)).trans ((hFvy34 48 (by decide) (by decide) (by decide) (by decide) (by decide)).trans (hFvy32 48 (by decide) (by decide))))))) dX10_hour1_186 ?_
                  refine z_aload_n C 2 dX10_hour1_189 rfl ?_
                  refine z_iconst (z := 1) C dX10_hour1_190 rfl ?_
                  refine z_bipush (z := 50) C dX10_hour1_191 (by decide) ?_
                  have hgy2014 := (hfvy1928 (i + 13) (ne_o (i := i) (c := 13) (d := 0) rfl)).trans hgy1927
                  refine z_cV (As := [.int (zI (1)), .int (zI (50))]) (rest := [.int (zI (F 48)), .ref (ad (i + 21))]) (ci := 12) C (c_X10_number l D A cs tt N ad _ i hN _ hcvy1928 _ hgy2014 htp hdvy1928 (1) (by omega) (50) (by omega)) (by omega) hay1 hcvy1928 rfl rfl mv_yX10_number q_1682 hd_yX10_number (by decide) (Nat.le_of_ble_eq_true rfl) (by decide) dX10_hour1_193 rfl (kI0 fun vy2015 gvy2015 hvy2015 => ?_)
                  obtain ⟨hrvy2015, ⟨Fvy2015, hcvy2015, hdvy2015, hlvy2015, hsvy2015, hFvy2015⟩, hfvy2015⟩ := hvy2015
                  rw [show Fvy1928 32 = Fvy1928 32 from rfl] at hlvy2015
                  rw [show Fvy1928 38 = 0 from ((hFvy1928 38 (by decide) (by decide) (by decide) (by decide) (by decide)).trans hxvy1468), show Fvy1928 35 = Fvy1928 35 from rfl] at hsvy2015
                  have h34vy2015 : Fvy2015 34 = F 34 := (hFvy2015 34 (by decide) (by decide) (by decide) (by decide) (by decide) (by decide) (by decide)).trans (((hFvy1928 34 (by decide) (by decide) (by decide) (by decide) (by decide)).trans ((hFvy1468 34 (by decide) (by decide) (by decide) (by decide) (by decide) (by decide) (by decide)).trans ((hFvy1466 34 (by decide) (by decide) (by decide) (by decide) (by decide)).trans ((hFvy34 34 (by decide) (by decide) (by decide) (by decide) (by decide)).trans (hFvy32 34 (by decide) (by decide)))))))
                  obtain ⟨d32vy2015, -, d35vy2015, d36vy2015, -, d37vy2015, d38vy2015⟩ := id hdvy2015
                  clear hsvy2015
                  have hgy2016 := up_n egy1918 hgy1498 (ne_o (i := i) (c := 21) (d := 20) rfl)
                  have hgy2017 := (hfvy1928 (i + 21) (ne_o (i := i) (c := 21) (d := 0) rfl)).trans hgy2016
                  have hgy2018 := (hfvy2015 (i + 21) (ne_o (i := i) (c := 21) (d := 0) rfl)).trans hgy2017
                  refine z_iast C (by omega) hay8 hgy2018 ((F 48).toNat) (by omega) (by omega) (by decide) dX10_hour1_196 (fun gy2019 egy2020 => ?_)
                  have hgy2021 := up_s egy2020
                  obtain ⟨ry2022, hvy2023⟩ : ∃ rZ9 : Nat → Int, rZ9 = uZ ry1499 ((F 48).toNat) (vy2015) := ⟨_, rfl⟩
                  rw [← hvy2023] at hgy2021
                  refine z_aload_n C 2 dX10_hour1_197 rfl ?_
                  refine z_dup C dX10_hour1_198 rfl ?_
                  have hgy2024 := up_n egy2020 hcvy2015 (ne_o (i := i) (c := 0) (d := 21) rfl)
                  refine z_get (v := .int (zI (F 48))) C (by omega) hay1 hgy2024 rfl inA_X10 48 (by decide) q_1507 rfl (fv (F := Fvy2015) (f := 48) ((hFvy2015 48 (by decide) (by decide) (by decide) (by decide) (by decide) (by decide) (by decide)).trans ((hFvy1928 48 (by decide) (by decide) (by decide) (by decide) (by decide)).trans ((hFvy1468 48 (by decide) (by decide) (by decide) (by decide) (by decide) (by decide) (by decide)).trans ((hFvy1466 48 (by decide) (by decide) (by decide) (by decide) (by decide)).trans ((hFvy34 48 (by decide) (by decide) (by decide) (by decide) (by decide)).trans (hFvy32 48 (by decide) (by decide)))))))) dX10_hour1_199 ?_
                  refine z_iconst (z := 1) C dX10_hour1_202 rfl ?_
                  refine z_iadd C dX10_hour1_203 ?_
                  refine z_put (fs' := mF ad (i) (uZ Fvy2015 48 ((F 48) + 1))) C (by omega) hay1 hgy2024 tyX10 tyX10_ok nmX10 rfl inA_X10 48 (by decide) q_1507 rfl rfl rfl rfl (Nat.le_of_ble_eq_true rfl) rfl dX10_hour1_204 (fun gy2025 egy2026 => ?_)
                  have hgy2027 := up_s egy2026
                  have hFy2028 : ∀ f, f ≠ 24 → f ≠ 32 → f ≠ 33 → f ≠ 35 → f ≠ 36 → f ≠ 37 → f ≠ 38 → f ≠ 47 → f ≠ 48 → f ≠ 49 → (uZ Fvy2015 48 ((F 48) + 1)) f = F f := fun f n24 n32 n33 n35 n36 n37 n38 n47 n48 n49 => ((uZ_n _ _ n48).trans ((hFvy2015 f n24 n32 n33 n35 n36 n37 n38).trans ((hFvy1928 f n32 n33 n35 n36 n37).trans ((hFvy1468 f n24 n32 n33 n35 n36 n37 n38).trans ((hFvy1466 f n32 n33 n35 n36 n37).trans ((hFvy34 f n32 n33 n35 n36 n37).trans (hFvy32 f n24 n38)))))))
                  have hey2029 : (uZ Fvy2015 48 ((F 48) + 1)) 32 = Fvy2015 32 := (fn rfl (by decide))
                  have hey2030 : (uZ Fvy2015 48 ((F 48) + 1)) 35 = Fvy2015 35 := (fn rfl (by decide))
                  have hey2031 : (uZ Fvy2015 48 ((F 48) + 1)) 38 = Fvy2015 38 := (fn rfl (by decide))
                  have hey2032 : (uZ Fvy2015 48 ((F 48) + 1)) 32 = Fvy2015 32 := (fn rfl (by decide))
                  have hey2033 : (uZ Fvy2015 48 ((F 48) + 1)) 47 = F 47 := (fn ((hFvy2015 47 (by decide) (by decide) (by decide) (by decide) (by decide) (by decide) (by decide)).trans ((hFvy1928 47 (by decide) (by decide) (by decide) (by decide) (by decide)).trans ((hFvy1468 47 (by decide) (by decide) (by decide) (by decide) (by decide) (by decide) (by decide)).trans ((hFvy1466 47 (by decide) (by decide) (by decide) (by decide) (by decide)).trans ((hFvy34 47 (by decide) (by decide) (by decide) (by decide) (by decide)).trans (hFvy32 47 (by decide) (by decide))))))) (by decide))
                  have hey2034 : (uZ Fvy2015 48 ((F 48) + 1)) 48 = (F 48) + 1 := (uZ_s _ _ _)
                  have hey2035 : (uZ Fvy2015 48 ((F 48) + 1)) 49 = F 49 := (fn ((hFvy2015 49 (by decide) (by decide) (by decide) (by decide) (by decide) (by decide) (by decide)).trans ((hFvy1928 49 (by decide) (by decide) (by decide) (by decide) (by decide)).trans ((hFvy1468 49 (by decide) (by decide) (by decide) (by decide) (by decide) (by decide) (by decide)).trans ((hFvy1466 49 (by decide) (by decide) (by decide) (by decide) (by decide)).trans ((hFvy34 49 (by decide) (by decide) (by decide) (by decide) (by decide)).trans (hFvy32 49 (by decide) (by decide))))))) (by decide))
                  have hfry2037 : ∀ j, j ≠ (F 48).toNat → ry1476 j = ai1 j := fun j n0 => (congrFun hvy1477 _).trans ((uZ_n _ _ n0).trans (rfl))
                  have hwy2038 : ry1476 ((F 48).toNat) = -(vy1468) := (congrFun hvy1477 _).trans (uZ_s _ _ _)
                  have haky2036 : ∀ k, k < 24 → -300 ≤ ry1476 k ∧ ry1476 k ≤ 100 := by
                    intro k hk
                    by_cases e : k = (F 48).toNat
                    · rw [e]; have hk0 := hai1 ((F 48).toNat) (by omega); omega
                    · have hk0 := hai1 k hk; rw [hfry2037 k e]; exact hk0
                  have hfry2040 : ∀ j, j ≠ (F 48).toNat → ry1920 j = fa1 j := fun j n0 => (congrFun hvy1921 _).trans ((uZ_n _ _ n0).trans ((congrFun hvy1488 _).trans ((uZ_n _ _ n0).trans (rfl))))
                  have hfry2041 : ∀ j, j ≠ (F 48).toNat → ry2022 j = mu1 j := fun j n0 => (congrFun hvy2023 _).trans ((uZ_n _ _ n0).trans ((congrFun hvy1500 _).trans ((uZ_n _ _ n0).trans (rfl))))
                  have hwy2042 : ry1920 ((F 48).toNat) = ((Fvy1468 37) - 3) + 1 := (congrFun hvy1921 _).trans (uZ_s _ _ _)
                  have hwy2043 : ry2022 ((F 48).toNat) = vy2015 := (congrFun hvy2023 _).trans (uZ_s _ _ _)
                  have haky2039 : ∀ k, k < 24 → (0 ≤ ry1920 k ∧ ry1920 k ≤ 3) ∧ (0 ≤ ry2022 k ∧ ry2022 k ≤ 50) ∧ (ry1920 k = 1 ∨ ry1920 k = 2 → 1 ≤ ry2022 k) := by
                    intro k hk
                    by_cases e : k = (F 48).toNat
                    · rw [e]; have hk0 := hfa1 ((F 48).toNat) (by omega); omega
                    · have hk0 := hfa1 k hk; rw [hfry2040 k e]; rw [hfry2041 k e]; exact hk0
                  have hlay2044 : ∀ s l : Nat, (s : Int) < (uZ Fvy2015 48 ((F 48) + 1)) 47 → (l : Int) < mn1 s → lyT ly1 (84 * s + 7 * l) := fun s l a1 a2 => hly1 s l (by omega) a2
                  have hgy2045 := (hfvy32 (i + 16) (ne_o (i := i) (c := 16) (d := 0) rfl)).trans ha16
                  have hgy2046 := (hfvy34 (i + 16) (ne_o (i := i) (c := 16) (d := 0) rfl)).trans hgy2045
                  have hgy2047 := (hfvy1466 (i + 16) (ne_o (i := i) (c := 16) (d := 0) rfl)).trans hgy2046
                  have hgy2048 := (hfvy1468 (i + 16) (ne_o (i := i) (c := 16) (d := 0) rfl)).trans hgy2047
                  have hgy2049 := up_n egy1474 hgy2048 (ne_o (i := i) (c := 16) (d := 19) rfl)
                  have hgy2050 := up_n egy1485 hgy2049 (ne_o (i := i) (c := 16) (d := 20) rfl)
                  have hgy2051 := up_n egy1497 hgy2050 (ne_o (i := i) (c := 16) (d := 21) rfl)
                  have hgy2052 := up_n egy1918 hgy2051 (ne_o (i := i) (c := 16) (d := 20) rfl)
                  have hgy2053 := (hfvy1928 (i + 16) (ne_o (i := i) (c := 16) (d := 0) rfl)).trans hgy2052
                  have hgy2054 := (hfvy2015 (i + 16) (ne_o (i := i) (c := 16) (d := 0) rfl)).trans hgy2053
                  have hgy2055 := up_n egy2020 hgy2054 (ne_o (i := i) (c := 16) (d := 21) rfl)
                  have hgy2056 := up_n egy2026 hgy2055 (ne_o (i := i) (c := 16) (d := 0) rfl)
                  have hgy2057 := (hfvy32 (i + 17) (ne_o (i := i) (c := 17) (d := 0) rfl)).trans ha17
                  have hgy2058 := (hfvy34 (i + 17) (ne_o (i := i) (c := 17) (d := 0) rfl)).trans hgy2057
                  have hgy2059 := (hfvy1466 (i + 17) (ne_o (i := i) (c := 17) (d := 0) rfl)).trans hgy2058
                  have hgy2060 := (hfvy1468 (i + 17) (ne_o (i := i) (c := 17) (d := 0) rfl)).trans hgy2059
                  have hgy2061 := up_n egy1474 hgy2060 (ne_o (i := i) (c := 17) (d := 19) rfl)
                  have hgy2062 := up_n egy1485 hgy2061 (ne_o (i := i) (c := 17) (d := 20) rfl)
                  have hgy2063 := up_n egy1497 hgy2062 (ne_o (i := i) (c := 17) (d := 21) rfl)
                  have hgy2064 := up_n egy1918 hgy2063 (ne_o (i := i) (c := 17) (d := 20) rfl)
                  have hgy2065 := (hfvy1928 (i + 17) (ne_o (i := i) (c := 17) (d := 0) rfl)).trans hgy2064
                  have hgy2066 := (hfvy2015 (i + 17) (ne_o (i := i) (c := 17) (d := 0) rfl)).trans hgy2065
                  have hgy2067 := up_n egy2020 hgy2066 (ne_o (i := i) (c := 17) (d := 21) rfl)
                  have hgy2068 := up_n egy2026 hgy2067 (ne_o (i := i) (c := 17) (d := 0) rfl)
                  have hgy2069 := (hfvy32 (i + 18) (ne_o (i := i) (c := 18) (d := 0) rfl)).trans ha18
                  have hgy2070 := (hfvy34 (i + 18) (ne_o (i := i) (c := 18) (d := 0) rfl)).trans hgy2069
                  have hgy2071 := (hfvy1466 (i + 18) (ne_o (i := i) (c := 18) (d := 0) rfl)).trans hgy2070
                  have hgy2072 := (hfvy1468 (i + 18) (ne_o (i := i) (c := 18) (d := 0) rfl)).trans hgy2071
                  have hgy2073 := up_n egy1474 hgy2072 (ne_o (i := i) (c := 18) (d := 19) rfl)
                  have hgy2074 := up_n egy1485 hgy2073 (ne_o (i := i) (c := 18) (d := 20) rfl)
                  have hgy2075 := up_n egy1497 hgy2074 (ne_o (i := i) (c := 18) (d := 21) rfl)
                  have hgy2076 := up_n egy1918 hgy2075 (ne_o (i := i) (c := 18) (d := 20) rfl)
                  have hgy2077 := (hfvy1928 (i + 18) (ne_o (i := i) (c := 18) (d := 0) rfl)).trans hgy2076
                  have hgy2078 := (hfvy2015 (i + 18) (ne_o (i := i) (c := 18) (d := 0) rfl)).trans hgy2077
                  have hgy2079 := up_n egy2020 hgy2078 (ne_o (i := i) (c := 18) (d := 21) rfl)
                  have hgy2080 := up_n egy2026 hgy2079 (ne_o (i := i) (c := 18) (d := 0) rfl)
                  have hgy2081 := up_n egy1485 hgy1475 (ne_o (i := i) (c := 19) (d := 20) rfl)
                  have hgy2082 := up_n egy1497 hgy2081 (ne_o (i := i) (c := 19) (d := 21) rfl)
                  have hgy2083 := up_n egy1918 hgy2082 (ne_o (i := i) (c := 19) (d := 20) rfl)
                  have hgy2084 := (hfvy1928 (i + 19) (ne_o (i := i) (c := 19) (d := 0) rfl)).trans hgy2083
                  have hgy2085 := (hfvy2015 (i + 19) (ne_o (i := i) (c := 19) (d := 0) rfl)).trans hgy2084
                  have hgy2086 := up_n egy2020 hgy2085 (ne_o (i := i) (c := 19) (d := 21) rfl)
                  have hgy2087 := up_n egy2026 hgy2086 (ne_o (i := i) (c := 19) (d := 0) rfl)
                  have hgy2088 := (hfvy2015 (i + 20) (ne_o (i := i) (c := 20) (d := 0) rfl)).trans hgy1929
                  have hgy2089 := up_n egy2020 hgy2088 (ne_o (i := i) (c := 20) (d := 21) rfl)
                  have hgy2090 := up_n egy2026 hgy2089 (ne_o (i := i) (c := 20) (d := 0) rfl)
                  have hgy2091 := up_n egy2026 hgy2021 (ne_o (i := i) (c := 21) (d := 0) rfl)
                  have hgy2092 := (hfvy32 (i + 22) (ne_o (i := i) (c := 22) (d := 0) rfl)).trans ha22
                  have hgy2093 := (hfvy34 (i + 22) (ne_o (i := i) (c := 22) (d := 0) rfl)).trans hgy2092
                  have hgy2094 := (hfvy1466 (i + 22) (ne_o (i := i) (c := 22) (d := 0) rfl)).trans hgy2093
                  have hgy2095 := (hfvy1468 (i + 22) (ne_o (i := i) (c := 22) (d := 0) rfl)).trans hgy2094
                  have hgy2096 := up_n egy1474 hgy2095 (ne_o (i := i) (c := 22) (d := 19) rfl)
                  have hgy2097 := up_n egy1485 hgy2096 (ne_o (i := i) (c := 22) (d := 20) rfl)
                  have hgy2098 := up_n egy1497 hgy2097 (ne_o (i := i) (c := 22) (d := 21) rfl)
                  have hgy2099 := up_n egy1918 hgy2098 (ne_o (i := i) (c := 22) (d := 20) rfl)
                  have hgy2100 := (hfvy1928 (i + 22) (ne_o (i := i) (c := 22) (d := 0) rfl)).trans hgy2099
                  have hgy2101 := (hfvy2015 (i + 22) (ne_o (i := i) (c := 22) (d := 0) rfl)).trans hgy2100
                  have hgy2102 := up_n egy2020 hgy2101 (ne_o (i := i) (c := 22) (d := 21) rfl)
                  have hgy2103 := up_n egy2026 hgy2102 (ne_o (i := i) (c := 22) (d := 0) rfl)
                  have hgy2104 := (hfvy32 (i + 23) (ne_o (i := i) (c := 23) (d := 0) rfl)).trans ha23
                  have hgy2105 := (hfvy34 (i + 23) (ne_o (i := i) (c := 23) (d := 0) rfl)).trans hgy2104
                  have hgy2106 := (hfvy1466 (i + 23) (ne_o (i := i) (c := 23) (d := 0) rfl)).trans hgy2105
                  have hgy2107 := (hfvy1468 (i + 23) (ne_o (i := i) (c := 23) (d := 0) rfl)).trans hgy2106
                  have hgy2108 := up_n egy1474 hgy2107 (ne_o (i := i) (c := 23) (d := 19) rfl)
                  have hgy2109 := up_n egy1485 hgy2108 (ne_o (i := i) (c := 23) (d := 20) rfl)
                  have hgy2110 := up_n egy1497 hgy2109 (ne_o (i := i) (c := 23) (d := 21) rfl)
                  have hgy2111 := up_n egy1918 hgy2110 (ne_o (i := i) (c := 23) (d := 20) rfl)
                  have hgy2112 := (hfvy1928 (i + 23) (ne_o (i := i) (c := 23) (d := 0) rfl)).trans hgy2111
                  have hgy2113 := (hfvy2015 (i + 23) (ne_o (i := i) (c := 23) (d := 0) rfl)).trans hgy2112
                  have hgy2114 := up_n egy2020 hgy2113 (ne_o (i := i) (c := 23) (d := 21) rfl)
                  have hgy2115 := up_n egy2026 hgy2114 (ne_o (i := i) (c := 23) (d := 0) rfl)
                  have htxy2116 : okTx cs gy2025 i (uZ Fvy2015 48 ((F 48) + 1)) := ⟨_, _, _, _, _, _, _, _, ⟨hgy2056, hgy2068, hgy2080, hgy2087, hgy2090, hgy2091, hgy2103, hgy2115⟩, ⟨⟨by omega, by omega, by omega⟩, hop1, hmn1, haky2036, haky2039, htb1, hlay2044⟩⟩
                  exact z_vret C hr hlk dX10_hour1_207 (by decide) (by decide) ⟨rfl, rfl, rfl, ⟨_, hgy2027, (RD.put hdvy2015 (by decide)), by omega, by omega, hFy2028, htxy2116⟩, fun j j1 j2 => by rw [egy2026, va_up_ne _ _ (by omega)]; rw [egy2020, va_up_ne _ _ (by omega)]; rw [hfvy2015 _ (by omega)]; rw [hfvy1928 _ (by omega)]; rw [egy1918, va_up_ne _ _ (by omega)]; rw [egy1497, va_up_ne _ _ (by omega)]; rw [egy1485, va_up_ne _ _ (by omega)]; rw [egy1474, va_up_ne _ _ (by omega)]; rw [hfvy1468 _ (by omega)]; rw [hfvy1466 _ (by omega)]; rw [hfvy34 _ (by omega)]; rw [hfvy32 _ (by omega)]⟩
              · clear hqvy1912
                refine z_if_eq (tgt := 197) C dX10_hour1_144 (by decide) (by omega) (fun _ => ?_) (fun h => absurd h (by omega))
                refine z_aload_n C 2 dX10_hour1_197 rfl ?_
                refine z_dup C dX10_hour1_198 rfl ?_
                refine z_get (v := .int (zI (F 48))) C (by omega) hay1 hgy1501 rfl inA_X10 48 (by decide) q_1507 rfl (fv (F := Fvy1468) (f := 48) ((hFvy1468 48 (by decide) (by decide) (by decide) (by decide) (by decide) (by decide) (by decide)).trans ((hFvy1466 48 (by decide) (by decide) (by decide) (by decide) (by decide)).trans ((hFvy34 48 (by decide) (by decide) (by decide) (by decide) (by decide)).trans (hFvy32 48 (by decide) (by decide)))))) dX10_hour1_199 ?_
                refine z_iconst (z := 1) C dX10_hour1_202 rfl ?_
                refine z_iadd C dX10_hour1_203 ?_
                refine z_put (fs' := mF ad (i) (uZ Fvy1468 48 ((F 48) + 1))) C (by omega) hay1 hgy1501 tyX10 tyX10_ok nmX10 rfl inA_X10 48 (by decide) q_1507 rfl rfl rfl rfl (Nat.le_of_ble_eq_true rfl) rfl dX10_hour1_204 (fun gy2117 egy2118 => ?_)
                have hgy2119 := up_s egy2118
                have hFy2120 : ∀ f, f ≠ 24 → f ≠ 32 → f ≠ 33 → f ≠ 35 → f ≠ 36 → f ≠ 37 → f ≠ 38 → f ≠ 47 → f ≠ 48 → f ≠ 49 → (uZ Fvy1468 48 ((F 48) + 1)) f = F f := fun f n24 n32 n33 n35 n36 n37 n38 n47 n48 n49 => ((uZ_n _ _ n48).trans ((hFvy1468 f n24 n32 n33 n35 n36 n37 n38).trans ((hFvy1466 f n32 n33 n35 n36 n37).trans ((hFvy34 f n32 n33 n35 n36 n37).trans (hFvy32 f n24 n38)))))
                have hey2121 : (uZ Fvy1468 48 ((F 48) + 1)) 32 = Fvy1468 32 := (fn rfl (by decide))
                have hey2122 : (uZ Fvy1468 48 ((F 48) + 1)) 35 = Fvy1468 35 := (fn rfl (by decide))
                have hey2123 : (uZ Fvy1468 48 ((F 48) + 1)) 38 = 0 := (fn hxvy1468 (by decide))
                have hey2124 : (uZ Fvy1468 48 ((F 48) + 1)) 32 = Fvy1468 32 := (fn rfl (by decide))
                have hey2125 : (uZ Fvy1468 48 ((F 48) + 1)) 47 = F 47 := (fn ((hFvy1468 47 (by decide) (by decide) (by decide) (by decide) (by decide) (by decide) (by decide)).trans ((hFvy1466 47 (by decide) (by decide) (by decide) (by decide) (by decide)).trans ((hFvy34 47 (by decide) (by decide) (by decide) (by decide) (by decide)).trans (hFvy32 47 (by decide) (by decide))))) (by decide))
                have hey2126 : (uZ Fvy1468 48 ((F 48) + 1)) 48 = (F 48) + 1 := (uZ_s _ _ _)
                have hey2127 : (uZ Fvy1468 48 ((F 48) + 1)) 49 = F 49 := (fn ((hFvy1468 49 (by decide) (by decide) (by decide) (by decide) (by decide) (by decide) (by decide)).trans ((hFvy1466 49 (by decide) (by decide) (by decide) (by decide) (by decide)).trans ((hFvy34 49 (by decide) (by decide) (by decide) (by decide) (by decide)).trans (hFvy32 49 (by decide) (by decide))))) (by decide))
                have hfry2129 : ∀ j, j ≠ (F 48).toNat → ry1476 j = ai1 j := fun j n0 => (congrFun hvy1477 _).trans ((uZ_n _ _ n0).trans (rfl))
                have hwy2130 : ry1476 ((F 48).toNat) = -(vy1468) := (congrFun hvy1477 _).trans (uZ_s _ _ _)
                have haky2128 : ∀ k, k < 24 → -300 ≤ ry1476 k ∧ ry1476 k ≤ 100 := by
                  intro k hk
                  by_cases e : k = (F 48).toNat
                  · rw [e]; have hk0 := hai1 ((F 48).toNat) (by omega); omega
                  · have hk0 := hai1 k hk; rw [hfry2129 k e]; exact hk0
                have hfry2132 : ∀ j, j ≠ (F 48).toNat → ry1487 j = fa1 j := fun j n0 => (congrFun hvy1488 _).trans ((uZ_n _ _ n0).trans (rfl))
                have hfry2133 : ∀ j, j ≠ (F 48).toNat → ry1499 j = mu1 j := fun j n0 => (congrFun hvy1500 _).trans ((uZ_n _ _ n0).trans (rfl))
                have hwy2134 : ry1487 ((F 48).toNat) = 0 := (congrFun hvy1488 _).trans (uZ_s _ _ _)
                have hwy2135 : ry1499 ((F 48).toNat) = 0 := (congrFun hvy1500 _).trans (uZ_s _ _ _)
                have haky2131 : ∀ k, k < 24 → (0 ≤ ry1487 k ∧ ry1487 k ≤ 3) ∧ (0 ≤ ry1499 k ∧ ry1499 k ≤ 50) ∧ (ry1487 k = 1 ∨ ry1487 k = 2 → 1 ≤ ry1499 k) := by
                  intro k hk
                  by_cases e : k = (F 48).toNat
                  · rw [e]; have hk0 := hfa1 ((F 48).toNat) (by omega); omega
                  · have hk0 := hfa1 k hk; rw [hfry2132 k e]; rw [hfry2133 k e]; exact hk0
                have hlay2136 : ∀ s l : Nat, (s : Int) < (uZ Fvy1468 48 ((F 48) + 1)) 47 → (l : Int) < mn1 s → lyT ly1 (84 * s + 7 * l) := fun s l a1 a2 => hly1 s l (by omega) a2
                have hgy2137 := (hfvy32 (i + 16) (ne_o (i := i) (c := 16) (d := 0) rfl)).trans ha16
                have hgy2138 := (hfvy34 (i + 16) (ne_o (i := i) (c := 16) (d := 0) rfl)).trans hgy2137
                have hgy2139 := (hfvy1466 (i + 16) (ne_o (i := i) (c := 16) (d := 0) rfl)).trans hgy2138
                have hgy2140 := (hfvy1468 (i + 16) (ne_o (i := i) (c := 16) (d := 0) rfl)).trans hgy2139
                have hgy2141 := up_n egy1474 hgy2140 (ne_o (i := i) (c := 16) (d := 19) rfl)
                have hgy2142 := up_n egy1485 hgy2141 (ne_o (i := i) (c := 16) (d := 20) rfl)
                have hgy2143 := up_n egy1497 hgy2142 (ne_o (i := i) (c := 16) (d := 21) rfl)
                have hgy2144 := up_n egy2118 hgy2143 (ne_o (i := i) (c := 16) (d := 0) rfl)
                have hgy2145 := (hfvy32 (i + 17) (ne_o (i := i) (c := 17) (d := 0) rfl)).trans ha17
                have hgy2146 := (hfvy34 (i + 17) (ne_o (i := i) (c := 17) (d := 0) rfl)).trans hgy2145
                have hgy2147 := (hfvy1466 (i + 17) (ne_o (i := i) (c := 17) (d := 0) rfl)).trans hgy2146
                have hgy2148 := (hfvy1468 (i + 17) (ne_o (i := i) (c := 17) (d := 0) rfl)).trans hgy2147
                have hgy2149 := up_n egy1474 hgy2148 (ne_o (i := i) (c := 17) (d := 19) rfl)
                have hgy2150 := up_n egy1485 hgy2149 (ne_o (i := i) (c := 17) (d := 20) rfl)
                have hgy2151 := up_n egy1497 hgy2150 (ne_o (i := i) (c := 17) (d := 21) rfl)
                have hgy2152 := up_n egy2118 hgy2151 (ne_o (i := i) (c := 17) (d := 0) rfl)
                have hgy2153 := (hfvy32 (i + 18) (ne_o (i := i) (c := 18) (d := 0) rfl)).trans ha18
                have hgy2154 := (hfvy34 (i + 18) (ne_o (i := i) (c := 18) (d := 0) rfl)).trans hgy2153
                have hgy2155 := (hfvy1466 (i + 18) (ne_o (i := i) (c := 18) (d := 0) rfl)).trans hgy2154
                have hgy2156 := (hfvy1468 (i + 18) (ne_o (i := i) (c := 18) (d := 0) rfl)).trans hgy2155
                have hgy2157 := up_n egy1474 hgy2156 (ne_o (i := i) (c := 18) (d := 19) rfl)
                have hgy2158 := up_n egy1485 hgy2157 (ne_o (i := i) (c := 18) (d := 20) rfl)
                have hgy2159 := up_n egy1497 hgy2158 (ne_o (i := i) (c := 18) (d := 21) rfl)
                have hgy2160 := up_n egy2118 hgy2159 (ne_o (i := i) (c := 18) (d := 0) rfl)
                have hgy2161 := up_n egy1485 hgy1475 (ne_o (i := i) (c := 19) (d := 20) rfl)
                have hgy2162 := up_n egy1497 hgy2161 (ne_o (i := i) (c := 19) (d := 21) rfl)
                have hgy2163 := up_n egy2118 hgy2162 (ne_o (i := i) (c := 19) (d := 0) rfl)
                have hgy2164 := up_n egy1497 hgy1486 (ne_o (i := i) (c := 20) (d := 21) rfl)
                have hgy2165 := up_n egy2118 hgy2164 (ne_o (i := i) (c := 20) (d := 0) rfl)
                have hgy2166 := up_n egy2118 hgy1498 (ne_o (i := i) (c := 21) (d := 0) rfl)
                have hgy2167 := (hfvy32 (i + 22) (ne_o (i := i) (c := 22) (d := 0) rfl)).trans ha22
                have hgy2168 := (hfvy34 (i + 22) (ne_o (i := i) (c := 22) (d := 0) rfl)).trans hgy2167
                have hgy2169 := (hfvy1466 (i + 22) (ne_o (i := i) (c := 22) (d := 0) rfl)).trans hgy2168
                have hgy2170 := (hfvy1468 (i + 22) (ne_o (i := i) (c := 22) (d := 0) rfl)).trans hgy2169
                have hgy2171 := up_n egy1474 hgy2170 (ne_o (i := i) (c := 22) (d := 19) rfl)
                have hgy2172 := up_n egy1485 hgy2171 (ne_o (i := i) (c := 22) (d := 20) rfl)
                have hgy2173 := up_n egy1497 hgy2172 (ne_o (i := i) (c := 22) (d := 21) rfl)
                have hgy2174 := up_n egy2118 hgy2173 (ne_o (i := i) (c := 22) (d := 0) rfl)
                have hgy2175 := (hfvy32 (i + 23) (ne_o (i := i) (c := 23) (d := 0) rfl)).trans ha23
                have hgy2176 := (hfvy34 (i + 23) (ne_o (i := i) (c := 23) (d := 0) rfl)).trans hgy2175
                have hgy2177 := (hfvy1466 (i + 23) (ne_o (i := i) (c := 23) (d := 0) rfl)).trans hgy2176
                have hgy2178 := (hfvy1468 (i + 23) (ne_o (i := i) (c := 23) (d := 0) rfl)).trans hgy2177
                have hgy2179 := up_n egy1474 hgy2178 (ne_o (i := i) (c := 23) (d := 19) rfl)
                have hgy2180 := up_n egy1485 hgy2179 (ne_o (i := i) (c := 23) (d := 20) rfl)
                have hgy2181 := up_n egy1497 hgy2180 (ne_o (i := i) (c := 23) (d := 21) rfl)
                have hgy2182 := up_n egy2118 hgy2181 (ne_o (i := i) (c := 23) (d := 0) rfl)
                have htxy2183 : okTx cs gy2117 i (uZ Fvy1468 48 ((F 48) + 1)) := ⟨_, _, _, _, _, _, _, _, ⟨hgy2144, hgy2152, hgy2160, hgy2163, hgy2165, hgy2166, hgy2174, hgy2182⟩, ⟨⟨by omega, by omega, by omega⟩, hop1, hmn1, haky2128, haky2131, htb1, hlay2136⟩⟩
                exact z_vret C hr hlk dX10_hour1_207 (by decide) (by decide) ⟨rfl, rfl, rfl, ⟨_, hgy2119, (RD.put hdvy1468 (by decide)), by omega, by omega, hFy2120, htxy2183⟩, fun j j1 j2 => by rw [egy2118, va_up_ne _ _ (by omega)]; rw [egy1497, va_up_ne _ _ (by omega)]; rw [egy1485, va_up_ne _ _ (by omega)]; rw [egy1474, va_up_ne _ _ (by omega)]; rw [hfvy1468 _ (by omega)]; rw [hfvy1466 _ (by omega)]; rw [hfvy34 _ (by omega)]; rw [hfvy32 _ (by omega)]⟩
        · clear hsvy1468
          have hpvy1468 : 1 ≤ Fvy1468 38 := by omega
          clear hxvy1468
          refine z_istore_n (lv' := [(2, .int (zI (vy1468))), (1, .int (zI (1))), (0, .ref (ad i))]) C dX10_hour1_75 rfl (by decide) rfl ?_
          refine z_aload_n C 2 dX10_hour1_76 rfl ?_
          refine z_get (v := .int (zI (Fvy1468 38))) C (by omega) hay1 hcvy1468 rfl inA_X10 38 (by decide) q_1497 rfl (fv (F := Fvy1468) (f := 38) rfl) dX10_hour1_77 ?_
          refine z_if_eq (tgt := 84) C dX10_hour1_80 (by decide) (by omega) (fun h => absurd h (by omega)) (fun _ => ?_)
          have hFy2184 : ∀ f, f ≠ 24 → f ≠ 32 → f ≠ 33 → f ≠ 35 → f ≠ 36 → f ≠ 37 → f ≠ 38 → f ≠ 47 → f ≠ 48 → f ≠ 49 → Fvy1468 f = F f := fun f n24 n32 n33 n35 n36 n37 n38 n47 n48 n49 => ((hFvy1468 f n24 n32 n33 n35 n36 n37 n38).trans ((hFvy1466 f n32 n33 n35 n36 n37).trans ((hFvy34 f n32 n33 n35 n36 n37).trans (hFvy32 f n24 n38))))
          have hey2185 : Fvy1468 32 = Fvy1468 32 := rfl
          have hey2186 : Fvy1468 35 = Fvy1468 35 := rfl
          have hey2187 : Fvy1468 38 = Fvy1468 38 := rfl
          have hey2188 : Fvy1468 32 = Fvy1468 32 := rfl
          have hey2189 : Fvy1468 47 = F 47 := ((hFvy1468 47 (by decide) (by decide) (by decide) (by decide) (by decide) (by decide) (by decide)).trans ((hFvy1466 47 (by decide) (by decide) (by decide) (by decide) (by decide)).trans ((hFvy34 47 (by decide) (by decide) (by decide) (by decide) (by decide)).trans (hFvy32 47 (by decide) (by decide)))))
          have hey2190 : Fvy1468 48 = F 48 := ((hFvy1468 48 (by decide) (by decide) (by decide) (by decide) (by decide) (by decide) (by decide)).trans ((hFvy1466 48 (by decide) (by decide) (by decide) (by decide) (by decide)).trans ((hFvy34 48 (by decide) (by decide) (by decide) (by decide) (by decide)).trans (hFvy32 48 (by decide) (by decide)))))
          have hey2191 : Fvy1468 49 = F 49 := ((hFvy1468 49 (by decide) (by decide) (by decide) (by decide) (by decide) (by decide) (by decide)).trans ((hFvy1466 49 (by decide) (by decide) (by decide) (by decide) (by decide)).trans ((hFvy34 49 (by decide) (by decide) (by decide) (by decide) (by decide)).trans (hFvy32 49 (by decide) (by decide)))))
          have hlay2193 : ∀ s l : Nat, (s : Int) < Fvy1468 47 → (l : Int) < mn1 s → lyT ly1 (84 * s + 7 * l) := fun s l a1 a2 => hly1 s l (by omega) a2
          have hgy2194 := (hfvy32 (i + 16) (ne_o (i := i) (c := 16) (d := 0) rfl)).trans ha16
          have hgy2195 := (hfvy34 (i + 16) (ne_o (i := i) (c := 16) (d := 0) rfl)).trans hgy2194
          have hgy2196 := (hfvy1466 (i + 16) (ne_o (i := i) (c := 16) (d := 0) rfl)).trans hgy2195
          have hgy2197 := (hfvy1468 (i + 16) (ne_o (i := i) (c := 16) (d := 0) rfl)).trans hgy2196
          have hgy2198 := (hfvy32 (i + 17) (ne_o (i := i) (c := 17) (d := 0) rfl)).trans ha17
          have hgy2199 := (hfvy34 (i + 17) (ne_o (i := i) (c := 17) (d := 0) rfl)).trans hgy2198
          have hgy2200 := (hfvy1466 (i + 17) (ne_o (i := i) (c := 17) (d := 0) rfl)).trans hgy2199
          have hgy2201 := (hfvy1468 (i + 17) (ne_o (i := i) (c := 17) (d := 0) rfl)).trans hgy2200
          have hgy2202 := (hfvy32 (i + 18) (ne_o (i := i) (c := 18) (d := 0) rfl)).trans ha18
          have hgy2203 := (hfvy34 (i + 18) (ne_o (i := i) (c := 18) (d := 0) rfl)).trans hgy2202
          have hgy2204 := (hfvy1466 (i + 18) (ne_o (i := i) (c := 18) (d := 0) rfl)).trans hgy2203
          have hgy2205 := (hfvy1468 (i + 18) (ne_o (i := i) (c := 18) (d := 0) rfl)).trans hgy2204
          have hgy2206 := (hfvy32 (i + 19) (ne_o (i := i) (c := 19) (d := 0) rfl)).trans ha19
          have hgy2207 := (hfvy34 (i + 19) (ne_o (i := i) (c := 19) (d := 0) rfl)).trans hgy2206
          have hgy2208 := (hfvy1466 (i + 19) (ne_o (i := i) (c := 19) (d := 0) rfl)).trans hgy2207
          have hgy2209 := (hfvy1468 (i + 19) (ne_o (i := i) (c := 19) (d := 0) rfl)).trans hgy2208
          have hgy2210 := (hfvy32 (i + 20) (ne_o (i := i) (c := 20) (d := 0) rfl)).trans ha20
          have hgy2211 := (hfvy34 (i + 20) (ne_o (i := i) (c := 20) (d := 0) rfl)).trans hgy2210
          have hgy2212 := (hfvy1466 (i + 20) (ne_o (i := i) (c := 20) (d := 0) rfl)).trans hgy2211
          have hgy2213 := (hfvy1468 (i + 20) (ne_o (i := i) (c := 20) (d := 0) rfl)).trans hgy2212
          have hgy2214 := (hfvy32 (i + 21) (ne_o (i := i) (c := 21) (d := 0) rfl)).trans ha21
          have hgy2215 := (hfvy34 (i + 21) (ne_o (i := i) (c := 21) (d := 0) rfl)).trans hgy2214
          have hgy2216 := (hfvy1466 (i + 21) (ne_o (i := i) (c := 21) (d := 0) rfl)).trans hgy2215
          have hgy2217 := (hfvy1468 (i + 21) (ne_o (i := i) (c := 21) (d := 0) rfl)).trans hgy2216
          have hgy2218 := (hfvy32 (i + 22) (ne_o (i := i) (c := 22) (d := 0) rfl)).trans ha22
          have hgy2219 := (hfvy34 (i + 22) (ne_o (i := i) (c := 22) (d := 0) rfl)).trans hgy2218
          have hgy2220 := (hfvy1466 (i + 22) (ne_o (i := i) (c := 22) (d := 0) rfl)).trans hgy2219
          have hgy2221 := (hfvy1468 (i + 22) (ne_o (i := i) (c := 22) (d := 0) rfl)).trans hgy2220
          have hgy2222 := (hfvy32 (i + 23) (ne_o (i := i) (c := 23) (d := 0) rfl)).trans ha23
          have hgy2223 := (hfvy34 (i + 23) (ne_o (i := i) (c := 23) (d := 0) rfl)).trans hgy2222
          have hgy2224 := (hfvy1466 (i + 23) (ne_o (i := i) (c := 23) (d := 0) rfl)).trans hgy2223
          have hgy2225 := (hfvy1468 (i + 23) (ne_o (i := i) (c := 23) (d := 0) rfl)).trans hgy2224
          have htxy2226 : okTx cs gvy1468 i Fvy1468 := ⟨_, _, _, _, _, _, _, _, ⟨hgy2197, hgy2201, hgy2205, hgy2209, hgy2213, hgy2217, hgy2221, hgy2225⟩, ⟨⟨by omega, by omega, by omega⟩, hop1, hmn1, hai1, hfa1, htb1, hlay2193⟩⟩
          exact z_vret C hr hlk dX10_hour1_83 (by decide) (by decide) ⟨rfl, rfl, rfl, ⟨_, hcvy1468, hdvy1468, by omega, by omega, hFy2184, htxy2226⟩, fun j j1 j2 => by rw [hfvy1468 _ (by omega)]; rw [hfvy1466 _ (by omega)]; rw [hfvy34 _ (by omega)]; rw [hfvy32 _ (by omega)]⟩

