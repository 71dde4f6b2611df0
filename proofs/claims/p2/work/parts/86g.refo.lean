set_option maxRecDepth 100000 in
set_option maxHeartbeats 4000000 in
theorem c_X10_hour1 (l : Launch) (D : va_G) (A : Nat → Prop) (cs : Nat → ClassId) (tt : Nat) (N : Nat) (ad : Nat → Nat) (g : Nat → va_E) (i : Nat) (hN : i + 30 ≤ N) (F : Nat → Int) (hg : g i = mC ad i F) (tp : Nat → Int) (ha13 : g (i + 13) = iA cs 900 tp) (htp : ∀ k, k < 900 → 0 ≤ tp k ∧ tp k ≤ 255) (hRD : RD F) (h38 : F 38 = 0) (hTx : okTx cs g i F) : zM l yX10_hour1 cX10_hour1 3 none ({ frames := 5, cells := 0, slots := 0, locals := 300 } : Room) D A cs tt N ad g [.ref (ad i)] (rV0 N ad fun g' => (∃ F' : Nat → Int, g' i = mC ad i F' ∧ RD F' ∧ F 32 ≤ F' 32 ∧ (F' 38 = 0 → F' 35 ≠ 0 → F 32 < F' 32) ∧ (∀ f, f ≠ 24 → f ≠ 32 → f ≠ 33 → f ≠ 35 → f ≠ 36 → f ≠ 37 → f ≠ 38 → f ≠ 47 → f ≠ 48 → f ≠ 49 → F' f = F f) ∧ okTx cs g' i F') ∧ ∀ j, j ≠ i → j < i + 16 ∨ i + 23 < j → g' j = g j) := by
  have hay1 : zAt ad (i) (ad i) := rfl
  have hay2 : zAt ad (i + 13) (ad (i + 13)) := rfl
  obtain ⟨d32, d33, d35, d36, d2, d37, d38⟩ := id hRD
  obtain ⟨st1, op1, mn1, ai1, fa1, mu1, tb1, ly1, ⟨ha16, ha17, ha18, ha19, ha20, ha21, ha22, ha23⟩, ⟨⟨t47, t48, t49⟩, hop1, hmn1, hai1, hfa1, htb1, hly1⟩⟩ := id hTx
  have hay3 : zAt ad (i + 16) (ad (i + 16)) := rfl
  have hay4 : zAt ad (i + 17) (ad (i + 17)) := rfl
  have hay5 : zAt ad (i + 18) (ad (i + 18)) := rfl
  have hay6 : zAt ad (i + 19) (ad (i + 19)) := rfl
  have hay7 : zAt ad (i + 20) (ad (i + 20)) := rfl
  have hay8 : zAt ad (i + 21) (ad (i + 21)) := rfl
  have hay9 : zAt ad (i + 22) (ad (i + 22)) := rfl
  have hay10 : zAt ad (i + 23) (ad (i + 23)) := rfl
  refine z_of (by decide) (Nat.le_of_ble_eq_true rfl) ?_
  intro pZ eZ sZ mZ below meth cZ C hr hlk hnm
  refine z_lv (lv' := [(0, .ref (ad i))]) [0] rfl ?_
  refine z_aload_n C 0 dX10_hour1_0 rfl ?_
  refine z_aload_n C 0 dX10_hour1_1 rfl ?_
  refine z_get (v := .int (zI (F 48))) C (by omega) hay1 hg rfl inA_X10 48 (by decide) q_1507 rfl (fv (F := F) (f := 48) rfl) dX10_hour1_2 ?_
  refine z_bipush (z := 24) C dX10_hour1_5 (by decide) ?_
  refine z_icmp_ge (tgt := 14) C dX10_hour1_7 (by decide) (by omega) (by omega) (fun hby11 => ?_) (fun hby11 => ?_)
  · refine z_iconst (z := 0) C dX10_hour1_14 rfl ?_
    refine z_iconst (z := 2) C dX10_hour1_15 rfl ?_
    have h38vy12 : F 38 = 0 := h38
    refine z_cV (As := [.int (zI (0)), .int (zI (2))]) (rest := []) (ci := 12) C (c_X10_wants l D A cs tt N ad _ i hN _ hg (by omega) (0) (by omega) (2) (by omega)) (by omega) hay1 hg rfl rfl mv_yX10_wants q_1678 hd_yX10_wants (by decide) (Nat.le_of_ble_eq_true rfl) (by decide) dX10_hour1_16 rfl (kI0 fun vy12 gvy12 hvy12 => ?_)
    obtain ⟨⟨Fvy12, hcvy12, hqvy12, hbvy12, hFvy12⟩, hfvy12⟩ := hvy12
    have hdvy12 : RD Fvy12 := RD.w hRD hFvy12 hbvy12
    obtain rfl : vy12 = 0 := by omega
    have e38vy12 : 1 ≤ Fvy12 38 := by omega
    clear hqvy12
    refine z_if_ne (tgt := 23) C dX10_hour1_19 (by decide) (by omega) (fun h => absurd h (by omega)) (fun _ => ?_)
    have hFy13 : ∀ f, f ≠ 24 → f ≠ 32 → f ≠ 33 → f ≠ 35 → f ≠ 36 → f ≠ 37 → f ≠ 38 → f ≠ 47 → f ≠ 48 → f ≠ 49 → Fvy12 f = F f := fun f n24 n32 n33 n35 n36 n37 n38 n47 n48 n49 => (hFvy12 f n24 n38)
    have hey14 : Fvy12 32 = F 32 := (hFvy12 32 (by decide) (by decide))
    have hey15 : Fvy12 35 = F 35 := (hFvy12 35 (by decide) (by decide))
    have hey16 : Fvy12 38 = Fvy12 38 := rfl
    have hey17 : Fvy12 32 = F 32 := (hFvy12 32 (by decide) (by decide))
    have hey18 : Fvy12 47 = F 47 := (hFvy12 47 (by decide) (by decide))
    have hey19 : Fvy12 48 = F 48 := (hFvy12 48 (by decide) (by decide))
    have hey20 : Fvy12 49 = F 49 := (hFvy12 49 (by decide) (by decide))
    have hlay22 : ∀ s l : Nat, (s : Int) < Fvy12 47 → (l : Int) < mn1 s → lyT ly1 (84 * s + 7 * l) := fun s l a1 a2 => hly1 s l (by omega) a2
    have hgy23 := (hfvy12 (i + 16) (ne_o (i := i) (c := 16) (d := 0) rfl)).trans ha16
    have hgy24 := (hfvy12 (i + 17) (ne_o (i := i) (c := 17) (d := 0) rfl)).trans ha17
    have hgy25 := (hfvy12 (i + 18) (ne_o (i := i) (c := 18) (d := 0) rfl)).trans ha18
    have hgy26 := (hfvy12 (i + 19) (ne_o (i := i) (c := 19) (d := 0) rfl)).trans ha19
    have hgy27 := (hfvy12 (i + 20) (ne_o (i := i) (c := 20) (d := 0) rfl)).trans ha20
    have hgy28 := (hfvy12 (i + 21) (ne_o (i := i) (c := 21) (d := 0) rfl)).trans ha21
    have hgy29 := (hfvy12 (i + 22) (ne_o (i := i) (c := 22) (d := 0) rfl)).trans ha22
    have hgy30 := (hfvy12 (i + 23) (ne_o (i := i) (c := 23) (d := 0) rfl)).trans ha23
    have htxy31 : okTx cs gvy12 i Fvy12 := ⟨_, _, _, _, _, _, _, _, ⟨hgy23, hgy24, hgy25, hgy26, hgy27, hgy28, hgy29, hgy30⟩, ⟨⟨by omega, by omega, by omega⟩, hop1, hmn1, hai1, hfa1, htb1, hlay22⟩⟩
    exact z_vret C hr hlk dX10_hour1_22 (by decide) (by decide) ⟨rfl, rfl, rfl, ⟨_, hcvy12, hdvy12, by omega, by omega, hFy13, htxy31⟩, fun j j1 j2 => by rw [hfvy12 _ (by omega)]⟩
  · refine z_iconst (z := 1) C dX10_hour1_10 rfl ?_
    refine z_goto (tgt := 15) C dX10_hour1_11 (by decide) ?_
    refine z_iconst (z := 2) C dX10_hour1_15 rfl ?_
    have h38vy32 : F 38 = 0 := h38
    refine z_cV (As := [.int (zI (1)), .int (zI (2))]) (rest := []) (ci := 12) C (c_X10_wants l D A cs tt N ad _ i hN _ hg (by omega) (1) (by omega) (2) (by omega)) (by omega) hay1 hg rfl rfl mv_yX10_wants q_1678 hd_yX10_wants (by decide) (Nat.le_of_ble_eq_true rfl) (by decide) dX10_hour1_16 rfl (kI0 fun vy32 gvy32 hvy32 => ?_)
    obtain ⟨⟨Fvy32, hcvy32, hqvy32, hbvy32, hFvy32⟩, hfvy32⟩ := hvy32
    have hdvy32 : RD Fvy32 := RD.w hRD hFvy32 hbvy32
    obtain rfl : vy32 = 1 := by omega
    have e38vy32 : Fvy32 38 = 0 := by omega
    clear hqvy32
    refine z_if_ne (tgt := 23) C dX10_hour1_19 (by decide) (by omega) (fun _ => ?_) (fun h => absurd h (by omega))
    refine z_aload_n C 0 dX10_hour1_23 rfl ?_
    have hgy33 := (hfvy32 (i + 13) (ne_o (i := i) (c := 13) (d := 0) rfl)).trans ha13
    refine z_cV (As := []) (rest := []) (ci := 12) C (c_X10_go l D A cs tt N ad _ i hN _ hcvy32 _ hgy33 htp hdvy32) (by omega) hay1 hcvy32 rfl rfl mv_yX10_go q_1652 hd_yX10_go (by decide) (Nat.le_of_ble_eq_true rfl) (by decide) dX10_hour1_24 rfl (kV0 fun gvy34 hvy34 => ?_)
    obtain ⟨⟨Fvy34, hcvy34, hdvy34, hlvy34, hsvy34, hFvy34⟩, hfvy34⟩ := hvy34
    rw [show Fvy32 32 = F 32 from (hFvy32 32 (by decide) (by decide))] at hlvy34 hsvy34
    have h34vy34 : Fvy34 34 = F 34 := (hFvy34 34 (by decide) (by decide) (by decide) (by decide) (by decide)).trans ((hFvy32 34 (by decide) (by decide)))
    obtain ⟨d32vy34, -, d35vy34, d36vy34, -, d37vy34, d38vy34⟩ := id hdvy34
    have h38vy34 : Fvy34 38 = 0 := ((hFvy34 38 (by decide) (by decide) (by decide) (by decide) (by decide)).trans e38vy32)
    refine z_aload_n C 0 dX10_hour1_27 rfl ?_
    refine z_get (v := .int (zI (Fvy34 35))) C (by omega) hay1 hcvy34 rfl inA_X10 35 (by decide) q_1494 rfl (fv (F := Fvy34) (f := 35) rfl) dX10_hour1_28 ?_
    refine z_iconst (z := 3) C dX10_hour1_31 rfl ?_
    refine z_icmp_ne (tgt := 48) C dX10_hour1_32 (by decide) (by omega) (by omega) (fun hby35 => ?_) (fun hby35 => ?_)
    · refine z_iconst (z := 0) C dX10_hour1_48 rfl ?_
      refine z_istore_n (lv' := [(1, .int (zI (0))), (0, .ref (ad i))]) C dX10_hour1_49 rfl (by decide) rfl ?_
      refine z_iload_n C 0 dX10_hour1_50 rfl ?_
      refine z_if_eq (tgt := 58) C dX10_hour1_51 (by decide) (by omega) (fun _ => ?_) (fun h => absurd h (by omega))
      refine z_aload_n C 1 dX10_hour1_58 rfl ?_
      refine z_iconst (z := 0) C dX10_hour1_59 rfl ?_
      refine z_iload_n C 0 dX10_hour1_60 rfl ?_
      refine z_if_eq (tgt := 70) C dX10_hour1_61 (by decide) (by omega) (fun _ => ?_) (fun h => absurd h (by omega))
      refine z_bipush (z := 100) C dX10_hour1_70 (by decide) ?_
      have hgy36 := (hfvy34 (i + 13) (ne_o (i := i) (c := 13) (d := 0) rfl)).trans hgy33
      refine z_cV (As := [.int (zI (0)), .int (zI (100))]) (rest := []) (ci := 12) C (c_X10_number l D A cs tt N ad _ i hN _ hcvy34 _ hgy36 htp hdvy34 (0) (by omega) (100) (by omega)) (by omega) hay1 hcvy34 rfl rfl mv_yX10_number q_1682 hd_yX10_number (by decide) (Nat.le_of_ble_eq_true rfl) (by decide) dX10_hour1_72 rfl (kI0 fun vy37 gvy37 hvy37 => ?_)
      obtain ⟨hrvy37, ⟨Fvy37, hcvy37, hdvy37, hlvy37, hsvy37, hFvy37⟩, hfvy37⟩ := hvy37
      rw [show Fvy34 32 = Fvy34 32 from rfl] at hlvy37
      rw [show Fvy34 38 = 0 from ((hFvy34 38 (by decide) (by decide) (by decide) (by decide) (by decide)).trans e38vy32), show Fvy34 35 = Fvy34 35 from rfl] at hsvy37
      have h34vy37 : Fvy37 34 = F 34 := (hFvy37 34 (by decide) (by decide) (by decide) (by decide) (by decide) (by decide) (by decide)).trans (((hFvy34 34 (by decide) (by decide) (by decide) (by decide) (by decide)).trans (hFvy32 34 (by decide) (by decide))))
      obtain ⟨d32vy37, -, d35vy37, d36vy37, -, d37vy37, d38vy37⟩ := id hdvy37
      rcases (show Fvy37 38 = 0 ∨ Fvy37 38 ≠ 0 by omega) with hxvy37 | hxvy37
      · have hqvy37 := hsvy37 hxvy37
        clear hsvy37
        refine z_istore_n (lv' := [(2, .int (zI (vy37))), (1, .int (zI (0))), (0, .ref (ad i))]) C dX10_hour1_75 rfl (by decide) rfl ?_
        refine z_aload_n C 2 dX10_hour1_76 rfl ?_
        refine z_get (v := .int (zI (0))) C (by omega) hay1 hcvy37 rfl inA_X10 38 (by decide) q_1497 rfl (fv (F := Fvy37) (f := 38) hxvy37) dX10_hour1_77 ?_
        refine z_if_eq (tgt := 84) C dX10_hour1_80 (by decide) (by omega) (fun _ => ?_) (fun h => absurd h (by omega))
        refine z_aload_n C 2 dX10_hour1_84 rfl ?_
        refine z_get (v := .ref (ad (i + 19))) C (by omega) hay1 hcvy37 rfl inA_X10 42 (by decide) q_1501 rfl rfl dX10_hour1_85 ?_
        refine z_aload_n C 2 dX10_hour1_88 rfl ?_
        refine z_get (v := .int (zI (F 48))) C (by omega) hay1 hcvy37 rfl inA_X10 48 (by decide) q_1507 rfl (fv (F := Fvy37) (f := 48) ((hFvy37 48 (by decide) (by decide) (by decide) (by decide) (by decide) (by decide) (by decide)).trans ((hFvy34 48 (by decide) (by decide) (by decide) (by decide) (by decide)).trans (hFvy32 48 (by decide) (by decide))))) dX10_hour1_89 ?_
        refine z_iload_n C 1 dX10_hour1_92 rfl ?_
        refine z_if_eq (tgt := 101) C dX10_hour1_93 (by decide) (by omega) (fun _ => ?_) (fun h => absurd h (by omega))
        refine z_iload_n C 0 dX10_hour1_101 rfl ?_
        have hgy38 := (hfvy32 (i + 19) (ne_o (i := i) (c := 19) (d := 0) rfl)).trans ha19
        have hgy39 := (hfvy34 (i + 19) (ne_o (i := i) (c := 19) (d := 0) rfl)).trans hgy38
        have hgy40 := (hfvy37 (i + 19) (ne_o (i := i) (c := 19) (d := 0) rfl)).trans hgy39
        refine z_iast C (by omega) hay6 hgy40 ((F 48).toNat) (by omega) (by omega) (by decide) dX10_hour1_102 (fun gy41 egy42 => ?_)
        have hgy43 := up_s egy42
        obtain ⟨ry44, hvy45⟩ : ∃ rZ9 : Nat → Int, rZ9 = uZ ai1 ((F 48).toNat) (vy37) := ⟨_, rfl⟩
        rw [← hvy45] at hgy43
        refine z_aload_n C 2 dX10_hour1_103 rfl ?_
        have hgy46 := up_n egy42 hcvy37 (ne_o (i := i) (c := 0) (d := 19) rfl)
        refine z_get (v := .ref (ad (i + 20))) C (by omega) hay1 hgy46 rfl inA_X10 43 (by decide) q_1502 rfl rfl dX10_hour1_104 ?_
        refine z_aload_n C 2 dX10_hour1_107 rfl ?_
        refine z_get (v := .int (zI (F 48))) C (by omega) hay1 hgy46 rfl inA_X10 48 (by decide) q_1507 rfl (fv (F := Fvy37) (f := 48) ((hFvy37 48 (by decide) (by decide) (by decide) (by decide) (by decide) (by decide) (by decide)).trans ((hFvy34 48 (by decide) (by decide) (by decide) (by decide) (by decide)).trans (hFvy32 48 (by decide) (by decide))))) dX10_hour1_108 ?_
        refine z_iconst (z := 0) C dX10_hour1_111 rfl ?_
        have hgy47 := (hfvy32 (i + 20) (ne_o (i := i) (c := 20) (d := 0) rfl)).trans ha20
        have hgy48 := (hfvy34 (i + 20) (ne_o (i := i) (c := 20) (d := 0) rfl)).trans hgy47
        have hgy49 := (hfvy37 (i + 20) (ne_o (i := i) (c := 20) (d := 0) rfl)).trans hgy48
        have hgy50 := up_n egy42 hgy49 (ne_o (i := i) (c := 20) (d := 19) rfl)
        refine z_iast C (by omega) hay7 hgy50 ((F 48).toNat) (by omega) (by omega) (by decide) dX10_hour1_112 (fun gy51 egy52 => ?_)
        have hgy53 := up_s egy52
        obtain ⟨ry54, hvy55⟩ : ∃ rZ9 : Nat → Int, rZ9 = uZ fa1 ((F 48).toNat) (0) := ⟨_, rfl⟩
        rw [← hvy55] at hgy53
        refine z_aload_n C 2 dX10_hour1_113 rfl ?_
        have hgy56 := up_n egy52 hgy46 (ne_o (i := i) (c := 0) (d := 20) rfl)
        refine z_get (v := .ref (ad (i + 21))) C (by omega) hay1 hgy56 rfl inA_X10 44 (by decide) q_1503 rfl rfl dX10_hour1_114 ?_
        refine z_aload_n C 2 dX10_hour1_117 rfl ?_
        refine z_get (v := .int (zI (F 48))) C (by omega) hay1 hgy56 rfl inA_X10 48 (by decide) q_1507 rfl (fv (F := Fvy37) (f := 48) ((hFvy37 48 (by decide) (by decide) (by decide) (by decide) (by decide) (by decide) (by decide)).trans ((hFvy34 48 (by decide) (by decide) (by decide) (by decide) (by decide)).trans (hFvy32 48 (by decide) (by decide))))) dX10_hour1_118 ?_
        refine z_iconst (z := 0) C dX10_hour1_121 rfl ?_
        have hgy57 := (hfvy32 (i + 21) (ne_o (i := i) (c := 21) (d := 0) rfl)).trans ha21
        have hgy58 := (hfvy34 (i + 21) (ne_o (i := i) (c := 21) (d := 0) rfl)).trans hgy57
        have hgy59 := (hfvy37 (i + 21) (ne_o (i := i) (c := 21) (d := 0) rfl)).trans hgy58
        have hgy60 := up_n egy42 hgy59 (ne_o (i := i) (c := 21) (d := 19) rfl)
        have hgy61 := up_n egy52 hgy60 (ne_o (i := i) (c := 21) (d := 20) rfl)
        refine z_iast C (by omega) hay8 hgy61 ((F 48).toNat) (by omega) (by omega) (by decide) dX10_hour1_122 (fun gy62 egy63 => ?_)
        have hgy64 := up_s egy63
        obtain ⟨ry65, hvy66⟩ : ∃ rZ9 : Nat → Int, rZ9 = uZ mu1 ((F 48).toNat) (0) := ⟨_, rfl⟩
        rw [← hvy66] at hgy64
        refine z_aload_n C 2 dX10_hour1_123 rfl ?_
        refine z_iconst (z := 3) C dX10_hour1_124 rfl ?_
        have hgy67 := up_n egy63 hgy56 (ne_o (i := i) (c := 0) (d := 21) rfl)
        have hey69 : Fvy37 38 = 0 := hxvy37
        have hey70 : Fvy37 35 = Fvy37 35 := rfl
        have hey71 : Fvy37 37 = Fvy37 37 := rfl
        refine z_cV (As := [.int (zI (3))]) (rest := []) (ci := 12) C (c_X10_is l D A cs tt N ad _ i hN _ hgy67 hdvy37 (3) (by omega)) (by omega) hay1 hgy67 rfl rfl mv_yX10_is q_1705 hd_yX10_is (by decide) (Nat.le_of_ble_eq_true rfl) (by decide) dX10_hour1_125 rfl (kI0 fun vy68 gvy68 hvy68 => ?_)
        rw [hey69, hey70, hey71] at hvy68
        clear hey69 hey70 hey71
        obtain ⟨hrvy68, hqvy68, rfl⟩ := hvy68
        rcases (show vy68 = 1 ∨ vy68 = 0 by omega) with rfl | rfl
        · have hkvy68 := hqvy68 rfl
          clear hqvy68
          refine z_if_ne (tgt := 147) C dX10_hour1_128 (by decide) (by omega) (fun _ => ?_) (fun h => absurd h (by omega))
          refine z_aload_n C 2 dX10_hour1_147 rfl ?_
          refine z_get (v := .ref (ad (i + 20))) C (by omega) hay1 hgy67 rfl inA_X10 43 (by decide) q_1502 rfl rfl dX10_hour1_148 ?_
          refine z_aload_n C 2 dX10_hour1_151 rfl ?_
          refine z_get (v := .int (zI (F 48))) C (by omega) hay1 hgy67 rfl inA_X10 48 (by decide) q_1507 rfl (fv (F := Fvy37) (f := 48) ((hFvy37 48 (by decide) (by decide) (by decide) (by decide) (by decide) (by decide) (by decide)).trans ((hFvy34 48 (by decide) (by decide) (by decide) (by decide) (by decide)).trans (hFvy32 48 (by decide) (by decide))))) dX10_hour1_152 ?_
          refine z_aload_n C 2 dX10_hour1_155 rfl ?_
          refine z_get (v := .int (zI (Fvy37 37))) C (by omega) hay1 hgy67 rfl inA_X10 37 (by decide) q_1496 rfl (fv (F := Fvy37) (f := 37) rfl) dX10_hour1_156 ?_
          refine z_iconst (z := 3) C dX10_hour1_159 rfl ?_
          refine z_isub C dX10_hour1_160 ?_
          refine z_iconst (z := 1) C dX10_hour1_161 rfl ?_
          refine z_iadd C dX10_hour1_162 ?_
          have hgy72 := up_n egy63 hgy53 (ne_o (i := i) (c := 20) (d := 21) rfl)
          refine z_iast C (by omega) hay7 hgy72 ((F 48).toNat) (by omega) (by omega) (by decide) dX10_hour1_163 (fun gy73 egy74 => ?_)
          have hgy75 := up_s egy74
          obtain ⟨ry76, hvy77⟩ : ∃ rZ9 : Nat → Int, rZ9 = uZ ry54 ((F 48).toNat) (((Fvy37 37) - 3) + 1) := ⟨_, rfl⟩
          rw [← hvy77] at hgy75
          refine z_aload_n C 2 dX10_hour1_164 rfl ?_
          have hgy78 := up_n egy74 hgy67 (ne_o (i := i) (c := 0) (d := 20) rfl)
          have hgy79 := (hfvy37 (i + 13) (ne_o (i := i) (c := 13) (d := 0) rfl)).trans hgy36
          have hgy80 := up_n egy42 hgy79 (ne_o (i := i) (c := 13) (d := 19) rfl)
          have hgy81 := up_n egy52 hgy80 (ne_o (i := i) (c := 13) (d := 20) rfl)
          have hgy82 := up_n egy63 hgy81 (ne_o (i := i) (c := 13) (d := 21) rfl)
          have hgy83 := up_n egy74 hgy82 (ne_o (i := i) (c := 13) (d := 20) rfl)
          refine z_cV (As := []) (rest := []) (ci := 12) C (c_X10_go l D A cs tt N ad _ i hN _ hgy78 _ hgy83 htp hdvy37) (by omega) hay1 hgy78 rfl rfl mv_yX10_go q_1652 hd_yX10_go (by decide) (Nat.le_of_ble_eq_true rfl) (by decide) dX10_hour1_165 rfl (kV0 fun gvy84 hvy84 => ?_)
          obtain ⟨⟨Fvy84, hcvy84, hdvy84, hlvy84, hsvy84, hFvy84⟩, hfvy84⟩ := hvy84
          rw [show Fvy37 32 = Fvy37 32 from rfl] at hlvy84 hsvy84
          have h34vy84 : Fvy84 34 = F 34 := (hFvy84 34 (by decide) (by decide) (by decide) (by decide) (by decide)).trans (((hFvy37 34 (by decide) (by decide) (by decide) (by decide) (by decide) (by decide) (by decide)).trans ((hFvy34 34 (by decide) (by decide) (by decide) (by decide) (by decide)).trans (hFvy32 34 (by decide) (by decide)))))
          obtain ⟨d32vy84, -, d35vy84, d36vy84, -, d37vy84, d38vy84⟩ := id hdvy84
          have h38vy84 : Fvy84 38 = 0 := ((hFvy84 38 (by decide) (by decide) (by decide) (by decide) (by decide)).trans hxvy37)
          clear hsvy84
          refine z_aload_n C 2 dX10_hour1_168 rfl ?_
          refine z_get (v := .ref (ad (i + 20))) C (by omega) hay1 hcvy84 rfl inA_X10 43 (by decide) q_1502 rfl rfl dX10_hour1_169 ?_
          refine z_aload_n C 2 dX10_hour1_172 rfl ?_
          refine z_get (v := .int (zI (F 48))) C (by omega) hay1 hcvy84 rfl inA_X10 48 (by decide) q_1507 rfl (fv (F := Fvy84) (f := 48) ((hFvy84 48 (by decide) (by decide) (by decide) (by decide) (by decide)).trans ((hFvy37 48 (by decide) (by decide) (by decide) (by decide) (by decide) (by decide) (by decide)).trans ((hFvy34 48 (by decide) (by decide) (by decide) (by decide) (by decide)).trans (hFvy32 48 (by decide) (by decide)))))) dX10_hour1_173 ?_
          have hgy85 := (hfvy84 (i + 20) (ne_o (i := i) (c := 20) (d := 0) rfl)).trans hgy75
          refine z_iald C (by omega) hay7 hgy85 ((F 48).toNat) (by omega) (by omega) (by decide) dX10_hour1_176 ?_
          rw [show ry76 ((F 48).toNat) = ((Fvy37 37) - 3) + 1 from (congrFun hvy77 _).trans (uZ_s _ _ _)]
          refine z_iconst (z := 3) C dX10_hour1_177 rfl ?_
          refine z_icmp_ge (tgt := 197) C dX10_hour1_178 (by decide) (by omega) (by omega) (fun hby86 => ?_) (fun hby86 => ?_)
          · refine z_aload_n C 2 dX10_hour1_197 rfl ?_
            refine z_dup C dX10_hour1_198 rfl ?_
            refine z_get (v := .int (zI (F 48))) C (by omega) hay1 hcvy84 rfl inA_X10 48 (by decide) q_1507 rfl (fv (F := Fvy84) (f := 48) ((hFvy84 48 (by decide) (by decide) (by decide) (by decide) (by decide)).trans ((hFvy37 48 (by decide) (by decide) (by decide) (by decide) (by decide) (by decide) (by decide)).trans ((hFvy34 48 (by decide) (by decide) (by decide) (by decide) (by decide)).trans (hFvy32 48 (by decide) (by decide)))))) dX10_hour1_199 ?_
            refine z_iconst (z := 1) C dX10_hour1_202 rfl ?_
            refine z_iadd C dX10_hour1_203 ?_
            refine z_put (fs' := mF ad (i) (uZ Fvy84 48 ((F 48) + 1))) C (by omega) hay1 hcvy84 tyX10 tyX10_ok nmX10 rfl inA_X10 48 (by decide) q_1507 rfl rfl rfl rfl (Nat.le_of_ble_eq_true rfl) rfl dX10_hour1_204 (fun gy87 egy88 => ?_)
            have hgy89 := up_s egy88
            have hFy90 : ∀ f, f ≠ 24 → f ≠ 32 → f ≠ 33 → f ≠ 35 → f ≠ 36 → f ≠ 37 → f ≠ 38 → f ≠ 47 → f ≠ 48 → f ≠ 49 → (uZ Fvy84 48 ((F 48) + 1)) f = F f := fun f n24 n32 n33 n35 n36 n37 n38 n47 n48 n49 => ((uZ_n _ _ n48).trans ((hFvy84 f n32 n33 n35 n36 n37).trans ((hFvy37 f n24 n32 n33 n35 n36 n37 n38).trans ((hFvy34 f n32 n33 n35 n36 n37).trans (hFvy32 f n24 n38)))))
            have hey91 : (uZ Fvy84 48 ((F 48) + 1)) 32 = Fvy84 32 := (fn rfl (by decide))
            have hey92 : (uZ Fvy84 48 ((F 48) + 1)) 35 = Fvy84 35 := (fn rfl (by decide))
            have hey93 : (uZ Fvy84 48 ((F 48) + 1)) 38 = 0 := (fn ((hFvy84 38 (by decide) (by decide) (by decide) (by decide) (by decide)).trans hxvy37) (by decide))
            have hey94 : (uZ Fvy84 48 ((F 48) + 1)) 32 = Fvy84 32 := (fn rfl (by decide))
            have hey95 : (uZ Fvy84 48 ((F 48) + 1)) 47 = F 47 := (fn ((hFvy84 47 (by decide) (by decide) (by decide) (by decide) (by decide)).trans ((hFvy37 47 (by decide) (by decide) (by decide) (by decide) (by decide) (by decide) (by decide)).trans ((hFvy34 47 (by decide) (by decide) (by decide) (by decide) (by decide)).trans (hFvy32 47 (by decide) (by decide))))) (by decide))
            have hey96 : (uZ Fvy84 48 ((F 48) + 1)) 48 = (F 48) + 1 := (uZ_s _ _ _)
            have hey97 : (uZ Fvy84 48 ((F 48) + 1)) 49 = F 49 := (fn ((hFvy84 49 (by decide) (by decide) (by decide) (by decide) (by decide)).trans ((hFvy37 49 (by decide) (by decide) (by decide) (by decide) (by decide) (by decide) (by decide)).trans ((hFvy34 49 (by decide) (by decide) (by decide) (by decide) (by decide)).trans (hFvy32 49 (by decide) (by decide))))) (by decide))
            have hfry99 : ∀ j, j ≠ (F 48).toNat → ry44 j = ai1 j := fun j n0 => (congrFun hvy45 _).trans ((uZ_n _ _ n0).trans (rfl))
            have hwy100 : ry44 ((F 48).toNat) = vy37 := (congrFun hvy45 _).trans (uZ_s _ _ _)
            have haky98 : ∀ k, k < 24 → -300 ≤ ry44 k ∧ ry44 k ≤ 100 := by
              intro k hk
              by_cases e : k = (F 48).toNat
              · rw [e]; have hk0 := hai1 ((F 48).toNat) (by omega); omega
              · have hk0 := hai1 k hk; rw [hfry99 k e]; exact hk0
            have hfry102 : ∀ j, j ≠ (F 48).toNat → ry76 j = fa1 j := fun j n0 => (congrFun hvy77 _).trans ((uZ_n _ _ n0).trans ((congrFun hvy55 _).trans ((uZ_n _ _ n0).trans (rfl))))
            have hfry103 : ∀ j, j ≠ (F 48).toNat → ry65 j = mu1 j := fun j n0 => (congrFun hvy66 _).trans ((uZ_n _ _ n0).trans (rfl))
            have hwy104 : ry76 ((F 48).toNat) = ((Fvy37 37) - 3) + 1 := (congrFun hvy77 _).trans (uZ_s _ _ _)
            have hwy105 : ry65 ((F 48).toNat) = 0 := (congrFun hvy66 _).trans (uZ_s _ _ _)
            have haky101 : ∀ k, k < 24 → (0 ≤ ry76 k ∧ ry76 k ≤ 3) ∧ (0 ≤ ry65 k ∧ ry65 k ≤ 50) ∧ (ry76 k = 1 ∨ ry76 k = 2 → 1 ≤ ry65 k) := by
              intro k hk
              by_cases e : k = (F 48).toNat
              · rw [e]; have hk0 := hfa1 ((F 48).toNat) (by omega); omega
              · have hk0 := hfa1 k hk; rw [hfry102 k e]; rw [hfry103 k e]; exact hk0
            have hlay106 : ∀ s l : Nat, (s : Int) < (uZ Fvy84 48 ((F 48) + 1)) 47 → (l : Int) < mn1 s → lyT ly1 (84 * s + 7 * l) := fun s l a1 a2 => hly1 s l (by omega) a2
            have hgy107 := (hfvy32 (i + 16) (ne_o (i := i) (c := 16) (d := 0) rfl)).trans ha16
            have hgy108 := (hfvy34 (i + 16) (ne_o (i := i) (c := 16) (d := 0) rfl)).trans hgy107
            have hgy109 := (hfvy37 (i + 16) (ne_o (i := i) (c := 16) (d := 0) rfl)).trans hgy108
            have hgy110 := up_n egy42 hgy109 (ne_o (i := i) (c := 16) (d := 19) rfl)
            have hgy111 := up_n egy52 hgy110 (ne_o (i := i) (c := 16) (d := 20) rfl)
            have hgy112 := up_n egy63 hgy111 (ne_o (i := i) (c := 16) (d := 21) rfl)
            have hgy113 := up_n egy74 hgy112 (ne_o (i := i) (c := 16) (d := 20) rfl)
            have hgy114 := (hfvy84 (i + 16) (ne_o (i := i) (c := 16) (d := 0) rfl)).trans hgy113
            have hgy115 := up_n egy88 hgy114 (ne_o (i := i) (c := 16) (d := 0) rfl)
            have hgy116 := (hfvy32 (i + 17) (ne_o (i := i) (c := 17) (d := 0) rfl)).trans ha17
            have hgy117 := (hfvy34 (i + 17) (ne_o (i := i) (c := 17) (d := 0) rfl)).trans hgy116
            have hgy118 := (hfvy37 (i + 17) (ne_o (i := i) (c := 17) (d := 0) rfl)).trans hgy117
            have hgy119 := up_n egy42 hgy118 (ne_o (i := i) (c := 17) (d := 19) rfl)
            have hgy120 := up_n egy52 hgy119 (ne_o (i := i) (c := 17) (d := 20) rfl)
            have hgy121 := up_n egy63 hgy120 (ne_o (i := i) (c := 17) (d := 21) rfl)
            have hgy122 := up_n egy74 hgy121 (ne_o (i := i) (c := 17) (d := 20) rfl)
            have hgy123 := (hfvy84 (i + 17) (ne_o (i := i) (c := 17) (d := 0) rfl)).trans hgy122
            have hgy124 := up_n egy88 hgy123 (ne_o (i := i) (c := 17) (d := 0) rfl)
            have hgy125 := (hfvy32 (i + 18) (ne_o (i := i) (c := 18) (d := 0) rfl)).trans ha18
            have hgy126 := (hfvy34 (i + 18) (ne_o (i := i) (c := 18) (d := 0) rfl)).trans hgy125
            have hgy127 := (hfvy37 (i + 18) (ne_o (i := i) (c := 18) (d := 0) rfl)).trans hgy126
            have hgy128 := up_n egy42 hgy127 (ne_o (i := i) (c := 18) (d := 19) rfl)
            have hgy129 := up_n egy52 hgy128 (ne_o (i := i) (c := 18) (d := 20) rfl)
            have hgy130 := up_n egy63 hgy129 (ne_o (i := i) (c := 18) (d := 21) rfl)
            have hgy131 := up_n egy74 hgy130 (ne_o (i := i) (c := 18) (d := 20) rfl)
            have hgy132 := (hfvy84 (i + 18) (ne_o (i := i) (c := 18) (d := 0) rfl)).trans hgy131
            have hgy133 := up_n egy88 hgy132 (ne_o (i := i) (c := 18) (d := 0) rfl)
            have hgy134 := up_n egy52 hgy43 (ne_o (i := i) (c := 19) (d := 20) rfl)
            have hgy135 := up_n egy63 hgy134 (ne_o (i := i) (c := 19) (d := 21) rfl)
            have hgy136 := up_n egy74 hgy135 (ne_o (i := i) (c := 19) (d := 20) rfl)
            have hgy137 := (hfvy84 (i + 19) (ne_o (i := i) (c := 19) (d := 0) rfl)).trans hgy136
            have hgy138 := up_n egy88 hgy137 (ne_o (i := i) (c := 19) (d := 0) rfl)
            have hgy139 := up_n egy88 hgy85 (ne_o (i := i) (c := 20) (d := 0) rfl)
            have hgy140 := up_n egy74 hgy64 (ne_o (i := i) (c := 21) (d := 20) rfl)
            have hgy141 := (hfvy84 (i + 21) (ne_o (i := i) (c := 21) (d := 0) rfl)).trans hgy140
            have hgy142 := up_n egy88 hgy141 (ne_o (i := i) (c := 21) (d := 0) rfl)
            have hgy143 := (hfvy32 (i + 22) (ne_o (i := i) (c := 22) (d := 0) rfl)).trans ha22
            have hgy144 := (hfvy34 (i + 22) (ne_o (i := i) (c := 22) (d := 0) rfl)).trans hgy143
            have hgy145 := (hfvy37 (i + 22) (ne_o (i := i) (c := 22) (d := 0) rfl)).trans hgy144
            have hgy146 := up_n egy42 hgy145 (ne_o (i := i) (c := 22) (d := 19) rfl)
            have hgy147 := up_n egy52 hgy146 (ne_o (i := i) (c := 22) (d := 20) rfl)
            have hgy148 := up_n egy63 hgy147 (ne_o (i := i) (c := 22) (d := 21) rfl)
            have hgy149 := up_n egy74 hgy148 (ne_o (i := i) (c := 22) (d := 20) rfl)
            have hgy150 := (hfvy84 (i + 22) (ne_o (i := i) (c := 22) (d := 0) rfl)).trans hgy149
            have hgy151 := up_n egy88 hgy150 (ne_o (i := i) (c := 22) (d := 0) rfl)
            have hgy152 := (hfvy32 (i + 23) (ne_o (i := i) (c := 23) (d := 0) rfl)).trans ha23
            have hgy153 := (hfvy34 (i + 23) (ne_o (i := i) (c := 23) (d := 0) rfl)).trans hgy152
            have hgy154 := (hfvy37 (i + 23) (ne_o (i := i) (c := 23) (d := 0) rfl)).trans hgy153
            have hgy155 := up_n egy42 hgy154 (ne_o (i := i) (c := 23) (d := 19) rfl)
            have hgy156 := up_n egy52 hgy155 (ne_o (i := i) (c := 23) (d := 20) rfl)
            have hgy157 := up_n egy63 hgy156 (ne_o (i := i) (c := 23) (d := 21) rfl)
            have hgy158 := up_n egy74 hgy157 (ne_o (i := i) (c := 23) (d := 20) rfl)
            have hgy159 := (hfvy84 (i + 23) (ne_o (i := i) (c := 23) (d := 0) rfl)).trans hgy158
            have hgy160 := up_n egy88 hgy159 (ne_o (i := i) (c := 23) (d := 0) rfl)
            have htxy161 : okTx cs gy87 i (uZ Fvy84 48 ((F 48) + 1)) := ⟨_, _, _, _, _, _, _, _, ⟨hgy115, hgy124, hgy133, hgy138, hgy139, hgy142, hgy151, hgy160⟩, ⟨⟨by omega, by omega, by omega⟩, hop1, hmn1, haky98, haky101, htb1, hlay106⟩⟩
            exact z_vret C hr hlk dX10_hour1_207 (by decide) (by decide) ⟨rfl, rfl, rfl, ⟨_, hgy89, (RD.put hdvy84 (by decide)), by omega, by omega, hFy90, htxy161⟩, fun j j1 j2 => by rw [egy88, va_up_ne _ _ (by omega)]; rw [hfvy84 _ (by omega)]; rw [egy74, va_up_ne _ _ (by omega)]; rw [egy63, va_up_ne _ _ (by omega)]; rw [egy52, va_up_ne _ _ (by omega)]; rw [egy42, va_up_ne _ _ (by omega)]; rw [hfvy37 _ (by omega)]; rw [hfvy34 _ (by omega)]; rw [hfvy32 _ (by omega)]⟩
          · refine z_aload_n C 2 dX10_hour1_181 rfl ?_
            refine z_get (v := .ref (ad (i + 21))) C (by omega) hay1 hcvy84 rfl inA_X10 44 (by decide) q_1503 rfl rfl dX10_hour1_182 ?_
            refine z_aload_n C 2 dX10_hour1_185 rfl ?_
            refine z_get (v := .int (zI (F 48))) C (by omega) hay1 hcvy84 rfl inA_X10 48 (by decide) q_1507 rfl (fv (F := Fvy84) (f := 48) ((hFvy84 48 (by decide) (by decide) (by decide) (by decide) (by decide)).trans ((hFvy37 48 (by decide) (by decide) (by decide) (by decide) (by decide) (by decide) (by decide)).trans ((hFvy34 48 (by decide) (by decide) (by decide) (by decide) (by decide)).trans (hFvy32 48 (by decide) (by decide)))))) dX10_hour1_186 ?_
            refine z_aload_n C 2 dX10_hour1_189 rfl ?_
            refine z_iconst (z := 1) C dX10_hour1_190 rfl ?_
            refine z_bipush (z := 50) C dX10_hour1_191 (by decide) ?_
            have hgy162 := (hfvy84 (i + 13) (ne_o (i := i) (c := 13) (d := 0) rfl)).trans hgy83
            refine z_cV (As := [.int (zI (1)), .int (zI (50))]) (rest := [.int (zI (F 48)), .ref (ad (i + 21))]) (ci := 12) C (c_X10_number l D A cs tt N ad _ i hN _ hcvy84 _ hgy162 htp hdvy84 (1) (by omega) (50) (by omega)) (by omega) hay1 hcvy84 rfl rfl mv_yX10_number q_1682 hd_yX10_number (by decide) (Nat.le_of_ble_eq_true rfl) (by decide) dX10_hour1_193 rfl (kI0 fun vy163 gvy163 hvy163 => ?_)
            obtain ⟨hrvy163, ⟨Fvy163, hcvy163, hdvy163, hlvy163, hsvy163, hFvy163⟩, hfvy163⟩ := hvy163
            rw [show Fvy84 32 = Fvy84 32 from rfl] at hlvy163
            rw [show Fvy84 38 = 0 from ((hFvy84 38 (by decide) (by decide) (by decide) (by decide) (by decide)).trans hxvy37), show Fvy84 35 = Fvy84 35 from rfl] at hsvy163
            have h34vy163 : Fvy163 34 = F 34 := (hFvy163 34 (by decide) (by decide) (by decide) (by decide) (by decide) (by decide) (by decide)).trans (((hFvy84 34 (by decide) (by decide) (by decide) (by decide) (by decide)).trans ((hFvy37 34 (by decide) (by decide) (by decide) (by decide) (by decide) (by decide) (by decide)).trans ((hFvy34 34 (by decide) (by decide) (by decide) (by decide) (by decide)).trans (hFvy32 34 (by decide) (by decide))))))
            obtain ⟨d32vy163, -, d35vy163, d36vy163, -, d37vy163, d38vy163⟩ := id hdvy163
            clear hsvy163
            have hgy164 := up_n egy74 hgy64 (ne_o (i := i) (c := 21) (d := 20) rfl)
            have hgy165 := (hfvy84 (i + 21) (ne_o (i := i) (c := 21) (d := 0) rfl)).trans hgy164
            have hgy166 := (hfvy163 (i + 21) (ne_o (i := i) (c := 21) (d := 0) rfl)).trans hgy165
            refine z_iast C (by omega) hay8 hgy166 ((F 48).toNat) (by omega) (by omega) (by decide) dX10_hour1_196 (fun gy167 egy168 => ?_)
            have hgy169 := up_s egy168
            obtain ⟨ry170, hvy171⟩ : ∃ rZ9 : Nat → Int, rZ9 = uZ ry65 ((F 48).toNat) (vy163) := ⟨_, rfl⟩
            rw [← hvy171] at hgy169
            refine z_aload_n C 2 dX10_hour1_197 rfl ?_
            refine z_dup C dX10_hour1_198 rfl ?_
            have hgy172 := up_n egy168 hcvy163 (ne_o (i := i) (c := 0) (d := 21) rfl)
            refine z_get (v := .int (zI (F 48))) C (by omega) hay1 hgy172 rfl inA_X10 48 (by decide) q_1507 rfl (fv (F := Fvy163) (f := 48) ((hFvy163 48 (by decide) (by decide) (by decide) (by decide) (by decide) (by decide) (by decide)).trans ((hFvy84 48 (by decide) (by decide) (by decide) (by decide) (by decide)).trans ((hFvy37 48 (by decide) (by decide) (by decide) (by decide) (by decide) (by decide) (by decide)).trans ((hFvy34 48 (by decide) (by decide) (by decide) (by decide) (by decide)).trans (hFvy32 48 (by decide) (by decide))))))) dX10_hour1_199 ?_
            refine z_iconst (z := 1) C dX10_hour1_202 rfl ?_
            refine z_iadd C dX10_hour1_203 ?_
            refine z_put (fs' := mF ad (i) (uZ Fvy163 48 ((F 48) + 1))) C (by omega) hay1 hgy172 tyX10 tyX10_ok nmX10 rfl inA_X10 48 (by decide) q_1507 rfl rfl rfl rfl (Nat.le_of_ble_eq_true rfl) rfl dX10_hour1_204 (fun gy173 egy174 => ?_)
            have hgy175 := up_s egy174
            have hFy176 : ∀ f, f ≠ 24 → f ≠ 32 → f ≠ 33 → f ≠ 35 → f ≠ 36 → f ≠ 37 → f ≠ 38 → f ≠ 47 → f ≠ 48 → f ≠ 49 → (uZ Fvy163 48 ((F 48) + 1)) f = F f := fun f n24 n32 n33 n35 n36 n37 n38 n47 n48 n49 => ((uZ_n _ _ n48).trans ((hFvy163 f n24 n32 n33 n35 n36 n37 n38).trans ((hFvy84 f n32 n33 n35 n36 n37).trans ((hFvy37 f n24 n32 n33 n35 n36 n37 n38).trans ((hFvy34 f n32 n33 n35 n36 n37).trans (hFvy32 f n24 n38))))))
            have hey177 : (uZ Fvy163 48 ((F 48) + 1)) 32 = Fvy163 32 := (fn rfl (by decide))
            have hey178 : (uZ Fvy163 48 ((F 48) + 1)) 35 = Fvy163 35 := (fn rfl (by decide))
            have hey179 : (uZ Fvy163 48 ((F 48) + 1)) 38 = Fvy163 38 := (fn rfl (by decide))
            have hey180 : (uZ Fvy163 48 ((F 48) + 1)) 32 = Fvy163 32 := (fn rfl (by decide))
            have hey181 : (uZ Fvy163 48 ((F 48) + 1)) 47 = F 47 := (fn ((hFvy163 47 (by decide) (by decide) (by decide) (by decide) (by decide) (by decide) (by decide)).trans ((hFvy84 47 (by decide) (by decide) (by decide) (by decide) (by decide)).trans ((hFvy37 47 (by decide) (by decide) (by decide) (by decide) (by decide) (by decide) (by decide)).trans ((hFvy34 47 (by decide) (by decide) (by decide) (by decide) (by decide)).trans (hFvy32 47 (by decide) (by decide)))))) (by decide))
            have hey182 : (uZ Fvy163 48 ((F 48) + 1)) 48 = (F 48) + 1 := (uZ_s _ _ _)
            have hey183 : (uZ Fvy163 48 ((F 48) + 1)) 49 = F 49 := (fn ((hFvy163 49 (by decide) (by decide) (by decide) (by decide) (by decide) (by decide) (by decide)).trans ((hFvy84 49 (by decide) (by decide) (by decide) (by decide) (by decide)).trans ((hFvy37 49 (by decide) (by decide) (by decide) (by decide) (by decide) (by decide) (by decide)).trans ((hFvy34 49 (by decide) (by decide) (by decide) (by decide) (by decide)).trans (hFvy32 49 (by decide) (by decide)))))) (by decide))
            have hfry185 : ∀ j, j ≠ (F 48).toNat → ry44 j = ai1 j := fun j n0 => (congrFun hvy45 _).trans ((uZ_n _ _ n0).trans (rfl))
            have hwy186 : ry44 ((F 48).toNat) = vy37 := (congrFun hvy45 _).trans (uZ_s _ _ _)
            have haky184 : ∀ k, k < 24 → -300 ≤ ry44 k ∧ ry44 k ≤ 100 := by
              intro k hk
              by_cases e : k = (F 48).toNat
              · rw [e]; have hk0 := hai1 ((F 48).toNat) (by omega); omega
              · have hk0 := hai1 k hk; rw [hfry185 k e]; exact hk0
            have hfry188 : ∀ j, j ≠ (F 48).toNat → ry76 j = fa1 j := fun j n0 => (congrFun hvy77 _).trans ((uZ_n _ _ n0).trans ((congrFun hvy55 _).trans ((uZ_n _ _ n0).trans (rfl))))
            have hfry189 : ∀ j, j ≠ (F 48).toNat → ry170 j = mu1 j := fun j n0 => (congrFun hvy171 _).trans ((uZ_n _ _ n0).trans ((congrFun hvy66 _).trans ((uZ_n _ _ n0).trans (rfl))))
            have hwy190 : ry76 ((F 48).toNat) = ((Fvy37 37) - 3) + 1 := (congrFun hvy77 _).trans (uZ_s _ _ _)
            have hwy191 : ry170 ((F 48).toNat) = vy163 := (congrFun hvy171 _).trans (uZ_s _ _ _)
            have haky187 : ∀ k, k < 24 → (0 ≤ ry76 k ∧ ry76 k ≤ 3) ∧ (0 ≤ ry170 k ∧ ry170 k ≤ 50) ∧ (ry76 k = 1 ∨ ry76 k = 2 → 1 ≤ ry170 k) := by
              intro k hk
              by_cases e : k = (F 48).toNat
              · rw [e]; have hk0 := hfa1 ((F 48).toNat) (by omega); omega
              · have hk0 := hfa1 k hk; rw [hfry188 k e]; rw [hfry189 k e]; exact hk0
            have hlay192 : ∀ s l : Nat, (s : Int) < (uZ Fvy163 48 ((F 48) + 1)) 47 → (l : Int) < mn1 s → lyT ly1 (84 * s + 7 * l) := fun s l a1 a2 => hly1 s l (by omega) a2
            have hgy193 := (hfvy32 (i + 16) (ne_o (i := i) (c := 16) (d := 0) rfl)).trans ha16
            have hgy194 := (hfvy34 (i + 16) (ne_o (i := i) (c := 16) (d := 0) rfl)).trans hgy193
            have hgy195 := (hfvy37 (i + 16) (ne_o (i := i) (c := 16) (d := 0) rfl)).trans hgy194
            have hgy196 := up_n egy42 hgy195 (ne_o (i := i) (c := 16) (d := 19) rfl)
            have hgy197 := up_n egy52 hgy196 (ne_o (i := i) (c := 16) (d := 20) rfl)
            have hgy198 := up_n egy63 hgy197 (ne_o (i := i) (c := 16) (d := 21) rfl)
            have hgy199 := up_n egy74 hgy198 (ne_o (i := i) (c := 16) (d := 20) rfl)
            have hgy200 := (hfvy84 (i + 16) (ne_o (i := i) (c := 16) (d := 0) rfl)).trans hgy199
            have hgy201 := (hfvy163 (i + 16) (ne_o (i := i) (c := 16) (d := 0) rfl)).trans hgy200
            have hgy202 := up_n egy168 hgy201 (ne_o (i := i) (c := 16) (d := 21) rfl)
            have hgy203 := up_n egy174 hgy202 (ne_o (i := i) (c := 16) (d := 0) rfl)
            have hgy204 := (hfvy32 (i + 17) (ne_o (i := i) (c := 17) (d := 0) rfl)).trans ha17
            have hgy205 := (hfvy34 (i + 17) (ne_o (i := i) (c := 17) (d := 0) rfl)).trans hgy204
            have hgy206 := (hfvy37 (i + 17) (ne_o (i := i) (c := 17) (d := 0) rfl)).trans hgy205
            have hgy207 := up_n egy42 hgy206 (ne_o (i := i) (c := 17) (d := 19) rfl)
            have hgy208 := up_n egy52 hgy207 (ne_o (i := i) (c := 17) (d := 20) rfl)
            have hgy209 := up_n egy63 hgy208 (ne_o (i := i) (c := 17) (d := 21) rfl)
            have hgy210 := up_n egy74 hgy209 (ne_o (i := i) (c := 17) (d := 20) rfl)
            have hgy211 := (hfvy84 (i + 17) (ne_o (i := i) (c := 17) (d := 0) rfl)).trans hgy210
            have hgy212 := (hfvy163 (i + 17) (ne_o (i := i) (c := 17) (d := 0) rfl)).trans hgy211
            have hgy213 := up_n egy168 hgy212 (ne_o (i := i) (c := 17) (d := 21) rfl)
            have hgy214 := up_n egy174 hgy213 (ne_o (i := i) (c := 17) (d := 0) rfl)
            have hgy215 := (hfvy32 (i + 18) (ne_o (i := i) (c := 18) (d := 0) rfl)).trans ha18
            have hgy216 := (hfvy34 (i + 18) (ne_o (i := i) (c := 18) (d := 0) rfl)).trans hgy215
            have hgy217 := (hfvy37 (i + 18) (ne_o (i := i) (c := 18) (d := 0) rfl)).trans hgy216
            have hgy218 := up_n egy42 hgy217 (ne_o (i := i) (c := 18) (d := 19) rfl)
            have hgy219 := up_n egy52 hgy218 (ne_o (i := i) (c := 18) (d := 20) rfl)
            have hgy220 := up_n egy63 hgy219 (ne_o (i := i) (c := 18) (d := 21) rfl)
            have hgy221 := up_n egy74 hgy220 (ne_o (i := i) (c := 18) (d := 20) rfl)
            have hgy222 := (hfvy84 (i + 18) (ne_o (i := i) (c := 18) (d := 0) rfl)).trans hgy221
            have hgy223 := (hfvy163 (i + 18) (ne_o (i := i) (c := 18) (d := 0) rfl)).trans hgy222
            have hgy224 := up_n egy168 hgy223 (ne_o (i := i) (c := 18) (d := 21) rfl)
            have hgy225 := up_n egy174 hgy224 (ne_o (i := i) (c := 18) (d := 0) rfl)
            have hgy226 := up_n egy52 hgy43 (ne_o (i := i) (c := 19) (d := 20) rfl)
            have hgy227 := up_n egy63 hgy226 (ne_o (i := i) (c := 19) (d := 21) rfl)
            have hgy228 := up_n egy74 hgy227 (ne_o (i := i) (c := 19) (d := 20) rfl)
            have hgy229 := (hfvy84 (i + 19) (ne_o (i := i) (c := 19) (d := 0) rfl)).trans hgy228
            have hgy230 := (hfvy163 (i + 19) (ne_o (i := i) (c := 19) (d := 0) rfl)).trans hgy229
            have hgy231 := up_n egy168 hgy230 (ne_o (i := i) (c := 19) (d := 21) rfl)
            have hgy232 := up_n egy174 hgy231 (ne_o (i := i) (c := 19) (d := 0) rfl)
            have hgy233 := (hfvy163 (i + 20) (ne_o (i := i) (c := 20) (d := 0) rfl)).trans hgy85
            have hgy234 := up_n egy168 hgy233 (ne_o (i := i) (c := 20) (d := 21) rfl)
            have hgy235 := up_n egy174 hgy234 (ne_o (i := i) (c := 20) (d := 0) rfl)
            have hgy236 := up_n egy174 hgy169 (ne_o (i := i) (c := 21) (d := 0) rfl)
            have hgy237 := (hfvy32 (i + 22) (ne_o (i := i) (c := 22) (d := 0) rfl)).trans ha22
            have hgy238 := (hfvy34 (i + 22) (ne_o (i := i) (c := 22) (d := 0) rfl)).trans hgy237
            have hgy239 := (hfvy37 (i + 22) (ne_o (i := i) (c := 22) (d := 0) rfl)).trans hgy238
            have hgy240 := up_n egy42 hgy239 (ne_o (i := i) (c := 22) (d := 19) rfl)
            have hgy241 := up_n egy52 hgy240 (ne_o (i := i) (c := 22) (d := 20) rfl)
            have hgy242 := up_n egy63 hgy241 (ne_o (i := i) (c := 22) (d := 21) rfl)
            have hgy243 := up_n egy74 hgy242 (ne_o (i := i) (c := 22) (d := 20) rfl)
            have hgy244 := (hfvy84 (i + 22) (ne_o (i := i) (c := 22) (d := 0) rfl)).trans hgy243
            have hgy245 := (hfvy163 (i + 22) (ne_o (i := i) (c := 22) (d := 0) rfl)).trans hgy244
            have hgy246 := up_n egy168 hgy245 (ne_o (i := i) (c := 22) (d := 21) rfl)
            have hgy247 := up_n egy174 hgy246 (ne_o (i := i) (c := 22) (d := 0) rfl)
            have hgy248 := (hfvy32 (i + 23) (ne_o (i := i) (c := 23) (d := 0) rfl)).trans ha23
            have hgy249 := (hfvy34 (i + 23) (ne_o (i := i) (c := 23) (d := 0) rfl)).trans hgy248
            have hgy250 := (hfvy37 (i + 23) (ne_o (i := i) (c := 23) (d := 0) rfl)).trans hgy249
            have hgy251 := up_n egy42 hgy250 (ne_o (i := i) (c := 23) (d := 19) rfl)
            have hgy252 := up_n egy52 hgy251 (ne_o (i := i) (c := 23) (d := 20) rfl)
            have hgy253 := up_n egy63 hgy252 (ne_o (i := i) (c := 23) (d := 21) rfl)
            have hgy254 := up_n egy74 hgy253 (ne_o (i := i) (c := 23) (d := 20) rfl)
            have hgy255 := (hfvy84 (i + 23) (ne_o (i := i) (c := 23) (d := 0) rfl)).trans hgy254
            have hgy256 := (hfvy163 (i + 23) (ne_o (i := i) (c := 23) (d := 0) rfl)).trans hgy255
            have hgy257 := up_n egy168 hgy256 (ne_o (i := i) (c := 23) (d := 21) rfl)
            have hgy258 := up_n egy174 hgy257 (ne_o (i := i) (c := 23) (d := 0) rfl)
            have htxy259 : okTx cs gy173 i (uZ Fvy163 48 ((F 48) + 1)) := ⟨_, _, _, _, _, _, _, _, ⟨hgy203, hgy214, hgy225, hgy232, hgy235, hgy236, hgy247, hgy258⟩, ⟨⟨by omega, by omega, by omega⟩, hop1, hmn1, haky184, haky187, htb1, hlay192⟩⟩
            exact z_vret C hr hlk dX10_hour1_207 (by decide) (by decide) ⟨rfl, rfl, rfl, ⟨_, hgy175, (RD.put hdvy163 (by decide)), by omega, by omega, hFy176, htxy259⟩, fun j j1 j2 => by rw [egy174, va_up_ne _ _ (by omega)]; rw [egy168, va_up_ne _ _ (by omega)]; rw [hfvy163 _ (by omega)]; rw [hfvy84 _ (by omega)]; rw [egy74, va_up_ne _ _ (by omega)]; rw [egy63, va_up_ne _ _ (by omega)]; rw [egy52, va_up_ne _ _ (by omega)]; rw [egy42, va_up_ne _ _ (by omega)]; rw [hfvy37 _ (by omega)]; rw [hfvy34 _ (by omega)]; rw [hfvy32 _ (by omega)]⟩
        · clear hqvy68
          refine z_if_ne (tgt := 147) C dX10_hour1_128 (by decide) (by omega) (fun h => absurd h (by omega)) (fun _ => ?_)
          refine z_aload_n C 2 dX10_hour1_131 rfl ?_
          refine z_iconst (z := 4) C dX10_hour1_132 rfl ?_
          have hey261 : Fvy37 38 = 0 := hxvy37
          have hey262 : Fvy37 35 = Fvy37 35 := rfl
          have hey263 : Fvy37 37 = Fvy37 37 := rfl
          refine z_cV (As := [.int (zI (4))]) (rest := []) (ci := 12) C (c_X10_is l D A cs tt N ad _ i hN _ hgy67 hdvy37 (4) (by omega)) (by omega) hay1 hgy67 rfl rfl mv_yX10_is q_1705 hd_yX10_is (by decide) (Nat.le_of_ble_eq_true rfl) (by decide) dX10_hour1_133 rfl (kI0 fun vy260 gvy260 hvy260 => ?_)
          rw [hey261, hey262, hey263] at hvy260
          clear hey261 hey262 hey263
          obtain ⟨hrvy260, hqvy260, rfl⟩ := hvy260
          rcases (show vy260 = 1 ∨ vy260 = 0 by omega) with rfl | rfl
          · have hkvy260 := hqvy260 rfl
            clear hqvy260
            refine z_if_ne (tgt := 147) C dX10_hour1_136 (by decide) (by omega) (fun _ => ?_) (fun h => absurd h (by omega))
            refine z_aload_n C 2 dX10_hour1_147 rfl ?_
            refine z_get (v := .ref (ad (i + 20))) C (by omega) hay1 hgy67 rfl inA_X10 43 (by decide) q_1502 rfl rfl dX10_hour1_148 ?_
            refine z_aload_n C 2 dX10_hour1_151 rfl ?_
            refine z_get (v := .int (zI (F 48))) C (by omega) hay1 hgy67 rfl inA_X10 48 (by decide) q_1507 rfl (fv (F := Fvy37) (f := 48) ((hFvy37 48 (by decide) (by decide) (by decide) (by decide) (by decide) (by decide) (by decide)).trans ((hFvy34 48 (by decide) (by decide) (by decide) (by decide) (by decide)).trans (hFvy32 48 (by decide) (by decide))))) dX10_hour1_152 ?_
            refine z_aload_n C 2 dX10_hour1_155 rfl ?_
            refine z_get (v := .int (zI (Fvy37 37))) C (by omega) hay1 hgy67 rfl inA_X10 37 (by decide) q_1496 rfl (fv (F := Fvy37) (f := 37) rfl) dX10_hour1_156 ?_
            refine z_iconst (z := 3) C dX10_hour1_159 rfl ?_
            refine z_isub C dX10_hour1_160 ?_
            refine z_iconst (z := 1) C dX10_hour1_161 rfl ?_
            refine z_iadd C dX10_hour1_162 ?_
            have hgy264 := up_n egy63 hgy53 (ne_o (i := i) (c := 20) (d := 21) rfl)
            refine z_iast C (by omega) hay7 hgy264 ((F 48).toNat) (by omega) (by omega) (by decide) dX10_hour1_163 (fun gy265 egy266 => ?_)
            have hgy267 := up_s egy266
            obtain ⟨ry268, hvy269⟩ : ∃ rZ9 : Nat → Int, rZ9 = uZ ry54 ((F 48).toNat) (((Fvy37 37) - 3) + 1) := ⟨_, rfl⟩
            rw [← hvy269] at hgy267
            refine z_aload_n C 2 dX10_hour1_164 rfl ?_
            have hgy270 := up_n egy266 hgy67 (ne_o (i := i) (c := 0) (d := 20) rfl)
            have hgy271 := (hfvy37 (i + 13) (ne_o (i := i) (c := 13) (d := 0) rfl)).trans hgy36
            have hgy272 := up_n egy42 hgy271 (ne_o (i := i) (c := 13) (d := 19) rfl)
            have hgy273 := up_n egy52 hgy272 (ne_o (i := i) (c := 13) (d := 20) rfl)
            have hgy274 := up_n egy63 hgy273 (ne_o (i := i) (c := 13) (d := 21) rfl)
            have hgy275 := up_n egy266 hgy274 (ne_o (i := i) (c := 13) (d := 20) rfl)
            refine z_cV (As := []) (rest := []) (ci := 12) C (c_X10_go l D A cs tt N ad _ i hN _ hgy270 _ hgy275 htp hdvy37) (by omega) hay1 hgy270 rfl rfl mv_yX10_go q_1652 hd_yX10_go (by decide) (Nat.le_of_ble_eq_true rfl) (by decide) dX10_hour1_165 rfl (kV0 fun gvy276 hvy276 => ?_)
            obtain ⟨⟨Fvy276, hcvy276, hdvy276, hlvy276, hsvy276, hFvy276⟩, hfvy276⟩ := hvy276
            rw [show Fvy37 32 = Fvy37 32 from rfl] at hlvy276 hsvy276
            have h34vy276 : Fvy276 34 = F 34 := (hFvy276 34 (by decide) (by decide) (by decide) (by decide) (by decide)).trans (((hFvy37 34 (by decide) (by decide) (by decide) (by decide) (by decide) (by decide) (by decide)).trans ((hFvy34 34 (by decide) (by decide) (by decide) (by decide) (by decide)).trans (hFvy32 34 (by decide) (by decide)))))
            obtain ⟨d32vy276, -, d35vy276, d36vy276, -, d37vy276, d38vy276⟩ := id hdvy276
            have h38vy276 : Fvy276 38 = 0 := ((hFvy276 38 (by decide) (by decide) (by decide) (by decide) (by decide)).trans hxvy37)
            clear hsvy276
            refine z_aload_n C 2 dX10_hour1_168 rfl ?_
            refine z_get (v := .ref (ad (i + 20))) C (by omega) hay1 hcvy276 rfl inA_X10 43 (by decide) q_1502 rfl rfl dX10_hour1_169 ?_
            refine z_aload_n C 2 dX10_hour1_172 rfl ?_
            refine z_get (v := .int (zI (F 48))) C (by omega) hay1 hcvy276 rfl inA_X10 48 (by decide) q_1507 rfl (fv (F := Fvy276) (f := 48) ((hFvy276 48 (by decide) (by decide) (by decide) (by decide) (by decide)).trans ((hFvy37 48 (by decide) (by decide) (by decide) (by decide) (by decide) (by decide) (by decide)).trans ((hFvy34 48 (by decide) (by decide) (by decide) (by decide) (by decide)).trans (hFvy32 48 (by decide) (by decide)))))) dX10_hour1_173 ?_
            have hgy277 := (hfvy276 (i + 20) (ne_o (i := i) (c := 20) (d := 0) rfl)).trans hgy267
            refine z_iald C (by omega) hay7 hgy277 ((F 48).toNat) (by omega) (by omega) (by decide) dX10_hour1_176 ?_
            rw [show ry268 ((F 48).toNat) = ((Fvy37 37) - 3) + 1 from (congrFun hvy269 _).trans (uZ_s _ _ _)]
            refine z_iconst (z := 3) C dX10_hour1_177 rfl ?_
            refine z_icmp_ge (tgt := 197) C dX10_hour1_178 (by decide) (by omega) (by omega) (fun hby278 => ?_) (fun hby278 => ?_)
            · refine z_aload_n C 2 dX10_hour1_197 rfl ?_
              refine z_dup C dX10_hour1_198 rfl ?_
              refine z_get (v := .int (zI (F 48))) C (by omega) hay1 hcvy276 rfl inA_X10 48 (by decide) q_1507 rfl (fv (F := Fvy276) (f := 48) ((hFvy276 48 (by decide) (by decide) (by decide) (by decide) (by decide)).trans ((hFvy37 48 (by decide) (by decide) (by decide) (by decide) (by decide) (by decide) (by decide)).trans ((hFvy34 48 (by decide) (by decide) (by decide) (by decide) (by decide)).trans (hFvy32 48 (by decide) (by decide)))))) dX10_hour1_199 ?_
              refine z_iconst (z := 1) C dX10_hour1_202 rfl ?_
              refine z_iadd C dX10_hour1_203 ?_
              refine z_put (fs' := mF ad (i) (uZ Fvy276 48 ((F 48) + 1))) C (by omega) hay1 hcvy276 tyX10 tyX10_ok nmX10 rfl inA_X10 48 (by decide) q_1507 rfl rfl rfl rfl (Nat.le_of_ble_eq_true rfl) rfl dX10_hour1_204 (fun gy279 egy280 => ?_)
              have hgy281 := up_s egy280
              have hFy282 : ∀ f, f ≠ 24 → f ≠ 32 → f ≠ 33 → f ≠ 35 → f ≠ 36 → f ≠ 37 → f ≠ 38 → f ≠ 47 → f ≠ 48 → f ≠ 49 → (uZ Fvy276 48 ((F 48) + 1)) f = F f := fun f n24 n32 n33 n35 n36 n37 n38 n47 n48 n49 => ((uZ_n _ _ n48).trans ((hFvy276 f n32 n33 n35 n36 n37).trans ((hFvy37 f n24 n32 n33 n35 n36 n37 n38).trans ((hFvy34 f n32 n33 n35 n36 n37).trans (hFvy32 f n24 n38)))))
              have hey283 : (uZ Fvy276 48 ((F 48) + 1)) 32 = Fvy276 32 := (fn rfl (by decide))
              have hey284 : (uZ Fvy276 48 ((F 48) + 1)) 35 = Fvy276 35 := (fn rfl (by decide))
              have hey285 : (uZ Fvy276 48 ((F 48) + 1)) 38 = 0 := (fn ((hFvy276 38 (by decide) (by decide) (by decide) (by decide) (by decide)).trans hxvy37) (by decide))
              have hey286 : (uZ Fvy276 48 ((F 48) + 1)) 32 = Fvy276 32 := (fn rfl (by decide))
              have hey287 : (uZ Fvy276 48 ((F 48) + 1)) 47 = F 47 := (fn ((hFvy276 47 (by decide) (by decide) (by decide) (by decide) (by decide)).trans ((hFvy37 47 (by decide) (by decide) (by decide) (by decide) (by decide) (by decide) (by decide)).trans ((hFvy34 47 (by decide) (by decide) (by decide) (by decide) (by decide)).trans (hFvy32 47 (by decide) (by decide))))) (by decide))
              have hey288 : (uZ Fvy276 48 ((F 48) + 1)) 48 = (F 48) + 1 := (uZ_s _ _ _)
              have hey289 : (uZ Fvy276 48 ((F 48) + 1)) 49 = F 49 := (fn ((hFvy276 49 (by decide) (by decide) (by decide) (by decide) (by decide)).trans ((hFvy37 49 (by decide) (by decide) (by decide) (by decide) (by decide) (by decide) (by decide)).trans ((hFvy34 49 (by decide) (by decide) (by decide) (by decide) (by decide)).trans (hFvy32 49 (by decide) (by decide))))) (by decide))
              have hfry291 : ∀ j, j ≠ (F 48).toNat → ry44 j = ai1 j := fun j n0 => (congrFun hvy45 _).trans ((uZ_n _ _ n0).trans (rfl))
              have hwy292 : ry44 ((F 48).toNat) = vy37 := (congrFun hvy45 _).trans (uZ_s _ _ _)
              have haky290 : ∀ k, k < 24 → -300 ≤ ry44 k ∧ ry44 k ≤ 100 := by
                intro k hk
                by_cases e : k = (F 48).toNat
                · rw [e]; have hk0 := hai1 ((F 48).toNat) (by omega); omega
                · have hk0 := hai1 k hk; rw [hfry291 k e]; exact hk0
              have hfry294 : ∀ j, j ≠ (F 48).toNat → ry268 j = fa1 j := fun j n0 => (congrFun hvy269 _).trans ((uZ_n _ _ n0).trans ((congrFun hvy55 _).trans ((uZ_n _ _ n0).trans (rfl))))
              have hfry295 : ∀ j, j ≠ (F 48).toNat → ry65 j = mu1 j := fun j n0 => (congrFun hvy66 _).trans ((uZ_n _ _ n0).trans (rfl))
              have hwy296 : ry268 ((F 48).toNat) = ((Fvy37 37) - 3) + 1 := (congrFun hvy269 _).trans (uZ_s _ _ _)
              have hwy297 : ry65 ((F 48).toNat) = 0 := (congrFun hvy66 _).trans (uZ_s _ _ _)
              have haky293 : ∀ k, k < 24 → (0 ≤ ry268 k ∧ ry268 k ≤ 3) ∧ (0 ≤ ry65 k ∧ ry65 k ≤ 50) ∧ (ry268 k = 1 ∨ ry268 k = 2 → 1 ≤ ry65 k) := by
                intro k hk
                by_cases e : k = (F 48).toNat
                · rw [e]; have hk0 := hfa1 ((F 48).toNat) (by omega); omega
                · have hk0 := hfa1 k hk; rw [hfry294 k e]; rw [hfry295 k e]; exact hk0
              have hlay298 : ∀ s l : Nat, (s : Int) < (uZ Fvy276 48 ((F 48) + 1)) 47 → (l : Int) < mn1 s → lyT ly1 (84 * s + 7 * l) := fun s l a1 a2 => hly1 s l (by omega) a2
              have hgy299 := (hfvy32 (i + 16) (ne_o (i := i) (c := 16) (d := 0) rfl)).trans ha16
              have hgy300 := (hfvy34 (i + 16) (ne_o (i := i) (c := 16) (d := 0) rfl)).trans hgy299
              have hgy301 := (hfvy37 (i + 16) (ne_o (i := i) (c := 16) (d := 0) rfl)).trans hgy300
              have hgy302 := up_n egy42 hgy301 (ne_o (i := i) (c := 16) (d := 19) rfl)
              have hgy303 := up_n egy52 hgy302 (ne_o (i := i) (c := 16) (d := 20) rfl)
              have hgy304 := up_n egy63 hgy303 (ne_o (i := i) (c := 16) (d := 21) rfl)
              have hgy305 := up_n egy266 hgy304 (ne_o (i := i) (c := 16) (d := 20) rfl)
              have hgy306 := (hfvy276 (i + 16) (ne_o (i := i) (c := 16) (d := 0) rfl)).trans hgy305
              have hgy307 := up_n egy280 hgy306 (ne_o (i := i) (c := 16) (d := 0) rfl)
              have hgy308 := (hfvy32 (i + 17) (ne_o (i := i) (c := 17) (d := 0) rfl)).trans ha17
              have hgy309 := (hfvy34 (i + 17) (ne_o (i := i) (c := 17) (d := 0) rfl)).trans hgy308
              have hgy310 := (hfvy37 (i + 17) (ne_o (i := i) (c := 17) (d := 0) rfl)).trans hgy309
              have hgy311 := up_n egy42 hgy310 (ne_o (i := i) (c := 17) (d := 19) rfl)
              have hgy312 := up_n egy52 hgy311 (ne_o (i := i) (c := 17) (d := 20) rfl)
              have hgy313 := up_n egy63 hgy312 (ne_o (i := i) (c := 17) (d := 21) rfl)
              have hgy314 := up_n egy266 hgy313 (ne_o (i := i) (c := 17) (d := 20) rfl)
              have hgy315 := (hfvy276 (i + 17) (ne_o (i := i) (c := 17) (d := 0) rfl)).trans hgy314
              have hgy316 := up_n egy280 hgy315 (ne_o (i := i) (c := 17) (d := 0) rfl)
              have hgy317 := (hfvy32 (i + 18) (ne_o (i := i) (c := 18) (d := 0) rfl)).trans ha18
              have hgy318 := (hfvy34 (i + 18) (ne_o (i := i) (c := 18) (d := 0) rfl)).trans hgy317
              have hgy319 := (hfvy37 (i + 18) (ne_o (i := i) (c := 18) (d := 0) rfl)).trans hgy318
              have hgy320 := up_n egy42 hgy319 (ne_o (i := i) (c := 18) (d := 19) rfl)
              have hgy321 := up_n egy52 hgy320 (ne_o (i := i) (c := 18) (d := 20) rfl)
              have hgy322 := up_n egy63 hgy321 (ne_o (i := i) (c := 18) (d := 21) rfl)
              have hgy323 := up_n egy266 hgy322 (ne_o (i := i) (c := 18) (d := 20) rfl)
              have hgy324 := (hfvy276 (i + 18) (ne_o (i := i) (c := 18) (d := 0) rfl)).trans hgy323
              have hgy325 := up_n egy280 hgy324 (ne_o (i := i) (c := 18) (d := 0) rfl)
              have hgy326 := up_n egy52 hgy43 (ne_o (i := i) (c := 19) (d := 20) rfl)
              have hgy327 := up_n egy63 hgy326 (ne_o (i := i) (c := 19) (d := 21) rfl)
              have hgy328 := up_n egy266 hgy327 (ne_o (i := i) (c := 19) (d := 20) rfl)
              have hgy329 := (hfvy276 (i + 19) (ne_o (i := i) (c := 19) (d := 0) rfl)).trans hgy328
              have hgy330 := up_n egy280 hgy329 (ne_o (i := i) (c := 19) (d := 0) rfl)
              have hgy331 := up_n egy280 hgy277 (ne_o (i := i) (c := 20) (d := 0) rfl)
              have hgy332 := up_n egy266 hgy64 (ne_o (i := i) (c := 21) (d := 20) rfl)
              have hgy333 := (hfvy276 (i + 21) (ne_o (i := i) (c := 21) (d := 0) rfl)).trans hgy332
              have hgy334 := up_n egy280 hgy333 (ne_o (i := i) (c := 21) (d := 0) rfl)
              have hgy335 := (hfvy32 (i + 22) (ne_o (i := i) (c := 22) (d := 0) rfl)).trans ha22
              have hgy336 := (hfvy34 (i + 22) (ne_o (i := i) (c := 22) (d := 0) rfl)).trans hgy335
              have hgy337 := (hfvy37 (i + 22) (ne_o (i := i) (c := 22) (d := 0) rfl)).trans hgy336
              have hgy338 := up_n egy42 hgy337 (ne_o (i := i) (c := 22) (d := 19) rfl)
              have hgy339 := up_n egy52 hgy338 (ne_o (i := i) (c := 22) (d := 20) rfl)
              have hgy340 := up_n egy63 hgy339 (ne_o (i := i) (c := 22) (d := 21) rfl)
              have hgy341 := up_n egy266 hgy340 (ne_o (i := i) (c := 22) (d := 20) rfl)
              have hgy342 := (hfvy276 (i + 22) (ne_o (i := i) (c := 22) (d := 0) rfl)).trans hgy341
              have hgy343 := up_n egy280 hgy342 (ne_o (i := i) (c := 22) (d := 0) rfl)
              have hgy344 := (hfvy32 (i + 23) (ne_o (i := i) (c := 23) (d := 0) rfl)).trans ha23
              have hgy345 := (hfvy34 (i + 23) (ne_o (i := i) (c := 23) (d := 0) rfl)).trans hgy344
              have hgy346 := (hfvy37 (i + 23) (ne_o (i := i) (c := 23) (d := 0) rfl)).trans hgy345
              have hgy347 := up_n egy42 hgy346 (ne_o (i := i) (c := 23) (d := 19) rfl)
              have hgy348 := up_n egy52 hgy347 (ne_o (i := i) (c := 23) (d := 20) rfl)
              have hgy349 := up_n egy63 hgy348 (ne_o (i := i) (c := 23) (d := 21) rfl)
              have hgy350 := up_n egy266 hgy349 (ne_o (i := i) (c := 23) (d := 20) rfl)
              have hgy351 := (hfvy276 (i + 23) (ne_o (i := i) (c := 23) (d := 0) rfl)).trans hgy350
              have hgy352 := up_n egy280 hgy351 (ne_o (i := i) (c := 23) (d := 0) rfl)
              have htxy353 : okTx cs gy279 i (uZ Fvy276 48 ((F 48) + 1)) := ⟨_, _, _, _, _, _, _, _, ⟨hgy307, hgy316, hgy325, hgy330, hgy331, hgy334, hgy343, hgy352⟩, ⟨⟨by omega, by omega, by omega⟩, hop1, hmn1, haky290, haky293, htb1, hlay298⟩⟩
              exact z_vret C hr hlk dX10_hour1_207 (by decide) (by decide) ⟨rfl, rfl, rfl, ⟨_, hgy281, (RD.put hdvy276 (by decide)), by omega, by omega, hFy282, htxy353⟩, fun j j1 j2 => by rw [egy280, va_up_ne _ _ (by omega)]; rw [hfvy276 _ (by omega)]; rw [egy266, va_up_ne _ _ (by omega)]; rw [egy63, va_up_ne _ _ (by omega)]; rw [egy52, va_up_ne _ _ (by omega)]; rw [egy42, va_up_ne _ _ (by omega)]; rw [hfvy37 _ (by omega)]; rw [hfvy34 _ (by omega)]; rw [hfvy32 _ (by omega)]⟩
            · refine z_aload_n C 2 dX10_hour1_181 rfl ?_
              refine z_get (v := .ref (ad (i + 21))) C (by omega) hay1 hcvy276 rfl inA_X10 44 (by decide) q_1503 rfl rfl dX10_hour1_182 ?_
              refine z_aload_n C 2 dX10_hour1_185 rfl ?_
              refine z_get (v := .int (zI (F 48))) C (by omega) hay1 hcvy276 rfl inA_X10 48 (by decide) q_1507 rfl (fv (F := Fvy276) (f := 48) ((hFvy276 48 (by decide) (by decide) (by decide) (by decide) (by decide)).trans ((hFvy37 48 (by decide) (by decide) (by decide) (by decide) (by decide) (by decide) (by decide)).trans ((hFvy34 48 (by decide) (by decide) (by decide) (by decide) (by decide)).trans (hFvy32 48 (by decide) (by decide)))))) dX10_hour1_186 ?_
              refine z_aload_n C 2 dX10_hour1_189 rfl ?_
              refine z_iconst (z := 1) C dX10_hour1_190 rfl ?_
              refine z_bipush (z := 50) C dX10_hour1_191 (by decide) ?_
              have hgy354 := (hfvy276 (i + 13) (ne_o (i := i) (c := 13) (d := 0) rfl)).trans hgy275
              refine z_cV (As := [.int (zI (1)), .int (zI (50))]) (rest := [.int (zI (F 48)), .ref (ad (i + 21))]) (ci := 12) C (c_X10_number l D A cs tt N ad _ i hN _ hcvy276 _ hgy354 htp hdvy276 (1) (by omega) (50) (by omega)) (by omega) hay1 hcvy276 rfl rfl mv_yX10_number q_1682 hd_yX10_number (by decide) (Nat.le_of_ble_eq_true rfl) (by decide) dX10_hour1_193 rfl (kI0 fun vy355 gvy355 hvy355 => ?_)
              obtain ⟨hrvy355, ⟨Fvy355, hcvy355, hdvy355, hlvy355, hsvy355, hFvy355⟩, hfvy355⟩ := hvy355
              rw [show Fvy276 32 = Fvy276 32 from rfl] at hlvy355
              rw [show Fvy276 38 = 0 from ((hFvy276 38 (by decide) (by decide) (by decide) (by decide) (by decide)).trans hxvy37), show Fvy276 35 = Fvy276 35 from rfl] at hsvy355
              have h34vy355 : Fvy355 34 = F 34 := (hFvy355 34 (by decide) (by decide) (by decide) (by decide) (by decide) (by decide) (by decide)).trans (((hFvy276 34 (by decide) (by decide) (by decide) (by decide) (by decide)).trans ((hFvy37 34 (by decide) (by decide) (by decide) (by decide) (by decide) (by decide) (by decide)).trans ((hFvy34 34 (by decide) (by decide) (by decide) (by decide) (by decide)).trans (hFvy32 34 (by decide) (by decide))))))
              obtain ⟨d32vy355, -, d35vy355, d36vy355, -, d37vy355, d38vy355⟩ := id hdvy355
              clear hsvy355
              have hgy356 := up_n egy266 hgy64 (ne_o (i := i) (c := 21) (d := 20) rfl)
              have hgy357 := (hfvy276 (i + 21) (ne_o (i := i) (c := 21) (d := 0) rfl)).trans hgy356
              have hgy358 := (hfvy355 (i + 21) (ne_o (i := i) (c := 21) (d := 0) rfl)).trans hgy357
              refine z_iast C (by omega) hay8 hgy358 ((F 48).toNat) (by omega) (by omega) (by decide) dX10_hour1_196 (fun gy359 egy360 => ?_)
              have hgy361 := up_s egy360
              obtain ⟨ry362, hvy363⟩ : ∃ rZ9 : Nat → Int, rZ9 = uZ ry65 ((F 48).toNat) (vy355) := ⟨_, rfl⟩
              rw [← hvy363] at hgy361
              refine z_aload_n C 2 dX10_hour1_197 rfl ?_
              refine z_dup C dX10_hour1_198 rfl ?_
              have hgy364 := up_n egy360 hcvy355 (ne_o (i := i) (c := 0) (d := 21) rfl)
              refine z_get (v := .int (zI (F 48))) C (by omega) hay1 hgy364 rfl inA_X10 48 (by decide) q_1507 rfl (fv (F := Fvy355) (f := 48) ((hFvy355 48 (by decide) (by decide) (by decide) (by decide) (by decide) (by decide) (by decide)).trans ((hFvy276 48 (by decide) (by decide) (by decide) (by decide) (by decide)).trans ((hFvy37 48 (by decide) (by decide) (by decide) (by decide) (by decide) (by decide) (by decide)).trans ((hFvy34 48 (by decide) (by decide) (by decide) (by decide) (by decide)).trans (hFvy32 48 (by decide) (by decide))))))) dX10_hour1_199 ?_
              refine z_iconst (z := 1) C dX10_hour1_202 rfl ?_
              refine z_iadd C dX10_hour1_203 ?_
              refine z_put (fs' := mF ad (i) (uZ Fvy355 48 ((F 48) + 1))) C (by omega) hay1 hgy364 tyX10 tyX10_ok nmX10 rfl inA_X10 48 (by decide) q_1507 rfl rfl rfl rfl (Nat.le_of_ble_eq_true rfl) rfl dX10_hour1_204 (fun gy365 egy366 => ?_)
              have hgy367 := up_s egy366
              have hFy368 : ∀ f, f ≠ 24 → f ≠ 32 → f ≠ 33 → f ≠ 35 → f ≠ 36 → f ≠ 37 → f ≠ 38 → f ≠ 47 → f ≠ 48 → f ≠ 49 → (uZ Fvy355 48 ((F 48) + 1)) f = F f := fun f n24 n32 n33 n35 n36 n37 n38 n47 n48 n49 => ((uZ_n _ _ n48).trans ((hFvy355 f n24 n32 n33 n35 n36 n37 n38).trans ((hFvy276 f n32 n33 n35 n36 n37).trans ((hFvy37 f n24 n32 n33 n35 n36 n37 n38).trans ((hFvy34 f n32 n33 n35 n36 n37).trans (hFvy32 f n24 n38))))))
              have hey369 : (uZ Fvy355 48 ((F 48) + 1)) 32 = Fvy355 32 := (fn rfl (by decide))
              have hey370 : (uZ Fvy355 48 ((F 48) + 1)) 35 = Fvy355 35 := (fn rfl (by decide))
              have hey371 : (uZ Fvy355 48 ((F 48) + 1)) 38 = Fvy355 38 := (fn rfl (by decide))
              have hey372 : (uZ Fvy355 48 ((F 48) + 1)) 32 = Fvy355 32 := (fn rfl (by decide))
              have hey373 : (uZ Fvy355 48 ((F 48) + 1)) 47 = F 47 := (fn ((hFvy355 47 (by decide) (by decide) (by decide) (by decide) (by decide) (by decide) (by decide)).trans ((hFvy276 47 (by decide) (by decide) (by decide) (by decide) (by decide)).trans ((hFvy37 47 (by decide) (by decide) (by decide) (by decide) (by decide) (by decide) (by decide)).trans ((hFvy34 47 (by decide) (by decide) (by decide) (by decide) (by decide)).trans (hFvy32 47 (by decide) (by decide)))))) (by decide))
              have hey374 : (uZ Fvy355 48 ((F 48) + 1)) 48 = (F 48) + 1 := (uZ_s _ _ _)
              have hey375 : (uZ Fvy355 48 ((F 48) + 1)) 49 = F 49 := (fn ((hFvy355 49 (by decide) (by decide) (by decide) (by decide) (by decide) (by decide) (by decide)).trans ((hFvy276 49 (by decide) (by decide) (by decide) (by decide) (by decide)).trans ((hFvy37 49 (by decide) (by decide) (by decide) (by decide) (by decide) (by decide) (by decide)).trans ((hFvy34 49 (by decide) (by decide) (by decide) (by decide) (by decide)).trans (hFvy32 49 (by decide) (by decide)))))) (by decide))
              have hfry377 : ∀ j, j ≠ (F 48).toNat → ry44 j = ai1 j := fun j n0 => (congrFun hvy45 _).trans ((uZ_n _ _ n0).trans (rfl))
              have hwy378 : ry44 ((F 48).toNat) = vy37 := (congrFun hvy45 _).trans (uZ_s _ _ _)
              have haky376 : ∀ k, k < 24 → -300 ≤ ry44 k ∧ ry44 k ≤ 100 := by
                intro k hk
                by_cases e : k = (F 48).toNat
                · rw [e]; have hk0 := hai1 ((F 48).toNat) (by omega); omega
                · have hk0 := hai1 k hk; rw [hfry377 k e]; exact hk0
              have hfry380 : ∀ j, j ≠ (F 48).toNat → ry268 j = fa1 j := fun j n0 => (congrFun hvy269 _).trans ((uZ_n _ _ n0).trans ((congrFun hvy55 _).trans ((uZ_n _ _ n0).trans (rfl))))
              have hfry381 : ∀ j, j ≠ (F 48).toNat → ry362 j = mu1 j := fun j n0 => (congrFun hvy363 _).trans ((uZ_n _ _ n0).trans ((congrFun hvy66 _).trans ((uZ_n _ _ n0).trans (rfl))))
              have hwy382 : ry268 ((F 48).toNat) = ((Fvy37 37) - 3) + 1 := (congrFun hvy269 _).trans (uZ_s _ _ _)
              have hwy383 : ry362 ((F 48).toNat) = vy355 := (congrFun hvy363 _).trans (uZ_s _ _ _)
              have haky379 : ∀ k, k < 24 → (0 ≤ ry268 k ∧ ry268 k ≤ 3) ∧ (0 ≤ ry362 k ∧ ry362 k ≤ 50) ∧ (ry268 k = 1 ∨ ry268 k = 2 → 1 ≤ ry362 k) := by
                intro k hk
                by_cases e : k = (F 48).toNat
                · rw [e]; have hk0 := hfa1 ((F 48).toNat) (by omega); omega
                · have hk0 := hfa1 k hk; rw [hfry380 k e]; rw [hfry381 k e]; exact hk0
              have hlay384 : ∀ s l : Nat, (s : Int) < (uZ Fvy355 48 ((F 48) + 1)) 47 → (l : Int) < mn1 s → lyT ly1 (84 * s + 7 * l) := fun s l a1 a2 => hly1 s l (by omega) a2
              have hgy385 := (hfvy32 (i + 16) (ne_o (i := i) (c := 16) (d := 0) rfl)).trans ha16
              have hgy386 := (hfvy34 (i + 16) (ne_o (i := i) (c := 16) (d := 0) rfl)).trans hgy385
              have hgy387 := (hfvy37 (i + 16) (ne_o (i := i) (c := 16) (d := 0) rfl)).trans hgy386
              have hgy388 := up_n egy42 hgy387 (ne_o (i := i) (c := 16) (d := 19) rfl)
              have hgy389 := up_n egy52 hgy388 (ne_o (i := i) (c := 16) (d := 20) rfl)
              have hgy390 := up_n egy63 hgy389 (ne_o (i := i) (c := 16) (d := 21) rfl)
              have hgy391 := up_n egy266 hgy390 (ne_o (i := i) (c := 16) (d := 20) rfl)
              have hgy392 := (hfvy276 (i + 16) (ne_o (i := i) (c := 16) (d := 0) rfl)).trans hgy391
              have hgy393 := (hfvy355 (i + 16) (ne_o (i := i) (c := 16) (d := 0) rfl)).trans hgy392
              have hgy394 := up_n egy360 hgy393 (ne_o (i := i) (c := 16) (d := 21) rfl)
              have hgy395 := up_n egy366 hgy394 (ne_o (i := i) (c := 16) (d := 0) rfl)
              have hgy396 := (hfvy32 (i + 17) (ne_o (i := i) (c := 17) (d := 0) rfl)).trans ha17
              have hgy397 := (hfvy34 (i + 17) (ne_o (i := i) (c := 17) (d := 0) rfl)).trans hgy396
              have hgy398 := (hfvy37 (i + 17) (ne_o (i := i) (c := 17) (d := 0) rfl)).trans hgy397
              have hgy399 := up_n egy42 hgy398 (ne_o (i := i) (c := 17) (d := 19) rfl)
              have hgy400 := up_n egy52 hgy399 (ne_o (i := i) (c := 17) (d := 20) rfl)
              have hgy401 := up_n egy63 hgy400 (ne_o (i := i) (c := 17) (d := 21) rfl)
              have hgy402 := up_n egy266 hgy401 (ne_o (i := i) (c := 17) (d := 20) rfl)
              have hgy403 := (hfvy276 (i + 17) (ne_o (i := i) (c := 17) (d := 0) rfl)).trans hgy402
              have hgy404 := (hfvy355 (i + 17) (ne_o (i := i) (c := 17) (d := 0) rfl)).trans hgy403
              have hgy405 := up_n egy360 hgy404 (ne_o (i := i) (c := 17) (d := 21) rfl)
              have hgy406 := up_n egy366 hgy405 (ne_o (i := i) (c := 17) (d := 0) rfl)
              have hgy407 := (hfvy32 (i + 18) (ne_o (i := i) (c := 18) (d := 0) rfl)).trans ha18
              have hgy408 := (hfvy34 (i + 18) (ne_o (i := i) (c := 18) (d := 0) rfl)).trans hgy407
              have hgy409 := (hfvy37 (i + 18) (ne_o (i := i) (c := 18) (d := 0) rfl)).trans hgy408
              have hgy410 := up_n egy42 hgy409 (ne_o (i := i) (c := 18) (d := 19) rfl)
              have hgy411 := up_n egy52 hgy410 (ne_o (i := i) (c := 18) (d := 20) rfl)
              have hgy412 := up_n egy63 hgy411 (ne_o (i := i) (c := 18) (d := 21) rfl)
              have hgy413 := up_n egy266 hgy412 (ne_o (i := i) (c := 18) (d := 20) rfl)
              have hgy414 := (hfvy276 (i + 18) (ne_o (i := i) (c := 18) (d := 0) rfl)).trans hgy413
              have hgy415 := (hfvy355 (i + 18) (ne_o (i := i) (c := 18) (d := 0) rfl)).trans hgy414
              have hgy416 := up_n egy360 hgy415 (ne_o (i := i) (c := 18) (d := 21) rfl)
              have hgy417 := up_n egy366 hgy416 (ne_o (i := i) (c := 18) (d := 0) rfl)
              have hgy418 := up_n egy52 hgy43 (ne_o (i := i) (c := 19) (d := 20) rfl)
              have hgy419 := up_n egy63 hgy418 (ne_o (i := i) (c := 19) (d := 21) rfl)
              have hgy420 := up_n egy266 hgy419 (ne_o (i := i) (c := 19) (d := 20) rfl)
              have hgy421 := (hfvy276 (i + 19) (ne_o (i := i) (c := 19) (d := 0) rfl)).trans hgy420
              have hgy422 := (hfvy355 (i + 19) (ne_o (i := i) (c := 19) (d := 0) rfl)).trans hgy421
              have hgy423 := up_n egy360 hgy422 (ne_o (i := i) (c := 19) (d := 21) rfl)
              have hgy424 := up_n egy366 hgy423 (ne_o (i := i) (c := 19) (d := 0) rfl)
              have hgy425 := (hfvy355 (i + 20) (ne_o (i := i) (c := 20) (d := 0) rfl)).trans hgy277
              have hgy426 := up_n egy360 hgy425 (ne_o (i := i) (c := 20) (d := 21) rfl)
              have hgy427 := up_n egy366 hgy426 (ne_o (i := i) (c := 20) (d := 0) rfl)
              have hgy428 := up_n egy366 hgy361 (ne_o (i := i) (c := 21) (d := 0) rfl)
              have hgy429 := (hfvy32 (i + 22) (ne_o (i := i) (c := 22) (d := 0) rfl)).trans ha22
              have hgy430 := (hfvy34 (i + 22) (ne_o (i := i) (c := 22) (d := 0) rfl)).trans hgy429
              have hgy431 := (hfvy37 (i + 22) (ne_o (i := i) (c := 22) (d := 0) rfl)).trans hgy430
              have hgy432 := up_n egy42 hgy431 (ne_o (i := i) (c := 22) (d := 19) rfl)
              have hgy433 := up_n egy52 hgy432 (ne_o (i := i) (c := 22) (d := 20) rfl)
              have hgy434 := up_n egy63 hgy433 (ne_o (i := i) (c := 22) (d := 21) rfl)
              have hgy435 := up_n egy266 hgy434 (ne_o (i := i) (c := 22) (d := 20) rfl)
              have hgy436 := (hfvy276 (i + 22) (ne_o (i := i) (c := 22) (d := 0) rfl)).trans hgy435
              have hgy437 := (hfvy355 (i + 22) (ne_o (i := i) (c := 22) (d := 0) rfl)).trans hgy436
              have hgy438 := up_n egy360 hgy437 (ne_o (i := i) (c := 22) (d := 21) rfl)
              have hgy439 := up_n egy366 hgy438 (ne_o (i := i) (c := 22) (d := 0) rfl)
              have hgy440 := (hfvy32 (i + 23) (ne_o (i := i) (c := 23) (d := 0) rfl)).trans ha23
              have hgy441 := (hfvy34 (i + 23) (ne_o (i := i) (c := 23) (d := 0) rfl)).trans hgy440
              have hgy442 := (hfvy37 (i + 23) (ne_o (i := i) (c := 23) (d := 0) rfl)).trans hgy441
              have hgy443 := up_n egy42 hgy442 (ne_o (i := i) (c := 23) (d := 19) rfl)
              have hgy444 := up_n egy52 hgy443 (ne_o (i := i) (c := 23) (d := 20) rfl)
              have hgy445 := up_n egy63 hgy444 (ne_o (i := i) (c := 23) (d := 21) rfl)
              have hgy446 := up_n egy266 hgy445 (ne_o (i := i) (c := 23) (d := 20) rfl)
              have hgy447 := (hfvy276 (i + 23) (ne_o (i := i) (c := 23) (d := 0) rfl)).trans hgy446
              have hgy448 := (hfvy355 (i + 23) (ne_o (i := i) (c := 23) (d := 0) rfl)).trans hgy447
              have hgy449 := up_n egy360 hgy448 (ne_o (i := i) (c := 23) (d := 21) rfl)
              have hgy450 := up_n egy366 hgy449 (ne_o (i := i) (c := 23) (d := 0) rfl)
              have htxy451 : okTx cs gy365 i (uZ Fvy355 48 ((F 48) + 1)) := ⟨_, _, _, _, _, _, _, _, ⟨hgy395, hgy406, hgy417, hgy424, hgy427, hgy428, hgy439, hgy450⟩, ⟨⟨by omega, by omega, by omega⟩, hop1, hmn1, haky376, haky379, htb1, hlay384⟩⟩
              exact z_vret C hr hlk dX10_hour1_207 (by decide) (by decide) ⟨rfl, rfl, rfl, ⟨_, hgy367, (RD.put hdvy355 (by decide)), by omega, by omega, hFy368, htxy451⟩, fun j j1 j2 => by rw [egy366, va_up_ne _ _ (by omega)]; rw [egy360, va_up_ne _ _ (by omega)]; rw [hfvy355 _ (by omega)]; rw [hfvy276 _ (by omega)]; rw [egy266, va_up_ne _ _ (by omega)]; rw [egy63, va_up_ne _ _ (by omega)]; rw [egy52, va_up_ne _ _ (by omega)]; rw [egy42, va_up_ne _ _ (by omega)]; rw [hfvy37 _ (by omega)]; rw [hfvy34 _ (by omega)]; rw [hfvy32 _ (by omega)]⟩
          · clear hqvy260
            refine z_if_ne (tgt := 147) C dX10_hour1_136 (by decide) (by omega) (fun h => absurd h (by omega)) (fun _ => ?_)
            refine z_aload_n C 2 dX10_hour1_139 rfl ?_
            refine z_iconst (z := 5) C dX10_hour1_140 rfl ?_
            have hey453 : Fvy37 38 = 0 := hxvy37
            have hey454 : Fvy37 35 = Fvy37 35 := rfl
            have hey455 : Fvy37 37 = Fvy37 37 := rfl
            refine z_cV (As := [.int (zI (5))]) (rest := []) (ci := 12) C (c_X10_is l D A cs tt N ad _ i hN _ hgy67 hdvy37 (5) (by omega)) (by omega) hay1 hgy67 rfl rfl mv_yX10_is q_1705 hd_yX10_is (by decide) (Nat.le_of_ble_eq_true rfl) (by decide) dX10_hour1_141 rfl (kI0 fun vy452 gvy452 hvy452 => ?_)
            rw [hey453, hey454, hey455] at hvy452
            clear hey453 hey454 hey455
            obtain ⟨hrvy452, hqvy452, rfl⟩ := hvy452
            rcases (show vy452 = 1 ∨ vy452 = 0 by omega) with rfl | rfl
            · have hkvy452 := hqvy452 rfl
              clear hqvy452
              refine z_if_eq (tgt := 197) C dX10_hour1_144 (by decide) (by omega) (fun h => absurd h (by omega)) (fun _ => ?_)
              refine z_aload_n C 2 dX10_hour1_147 rfl ?_
              refine z_get (v := .ref (ad (i + 20))) C (by omega) hay1 hgy67 rfl inA_X10 43 (by decide) q_1502 rfl rfl dX10_hour1_148 ?_
              refine z_aload_n C 2 dX10_hour1_151 rfl ?_
              refine z_get (v := .int (zI (F 48))) C (by omega) hay1 hgy67 rfl inA_X10 48 (by decide) q_1507 rfl (fv (F := Fvy37) (f := 48) ((hFvy37 48 (by decide) (by decide) (by decide) (by decide) (by decide) (by decide) (by decide)).trans ((hFvy34 48 (by decide) (by decide) (by decide) (by decide) (by decide)).trans (hFvy32 48 (by decide) (by decide))))) dX10_hour1_152 ?_
              refine z_aload_n C 2 dX10_hour1_155 rfl ?_
              refine z_get (v := .int (zI (Fvy37 37))) C (by omega) hay1 hgy67 rfl inA_X10 37 (by decide) q_1496 rfl (fv (F := Fvy37) (f := 37) rfl) dX10_hour1_156 ?_
              refine z_iconst (z := 3) C dX10_hour1_159 rfl ?_
              refine z_isub C dX10_hour1_160 ?_
              refine z_iconst (z := 1) C dX10_hour1_161 rfl ?_
              refine z_iadd C dX10_hour1_162 ?_
              have hgy456 := up_n egy63 hgy53 (ne_o (i := i) (c := 20) (d := 21) rfl)
              refine z_iast C (by omega) hay7 hgy456 ((F 48).toNat) (by omega) (by omega) (by decide) dX10_hour1_163 (fun gy457 egy458 => ?_)
              have hgy459 := up_s egy458
              obtain ⟨ry460, hvy461⟩ : ∃ rZ9 : Nat → Int, rZ9 = uZ ry54 ((F 48).toNat) (((Fvy37 37) - 3) + 1) := ⟨_, rfl⟩
              rw [← hvy461] at hgy459
              refine z_aload_n C 2 dX10_hour1_164 rfl ?_
              have hgy462 := up_n egy458 hgy67 (ne_o (i := i) (c := 0) (d := 20) rfl)
              have hgy463 := (hfvy37 (i + 13) (ne_o (i := i) (c := 13) (d := 0) rfl)).trans hgy36
              have hgy464 := up_n egy42 hgy463 (ne_o (i := i) (c := 13) (d := 19) rfl)
              have hgy465 := up_n egy52 hgy464 (ne_o (i := i) (c := 13) (d := 20) rfl)
              have hgy466 := up_n egy63 hgy465 (ne_o (i := i) (c := 13) (d := 21) rfl)
              have hgy467 := up_n egy458 hgy466 (ne_o (i := i) (c := 13) (d := 20) rfl)
              refine z_cV (As := []) (rest := []) (ci := 12) C (c_X10_go l D A cs tt N ad _ i hN _ hgy462 _ hgy467 htp hdvy37) (by omega) hay1 hgy462 rfl rfl mv_yX10_go q_1652 hd_yX10_go (by decide) (Nat.le_of_ble_eq_true rfl) (by decide) dX10_hour1_165 rfl (kV0 fun gvy468 hvy468 => ?_)
              obtain ⟨⟨Fvy468, hcvy468, hdvy468, hlvy468, hsvy468, hFvy468⟩, hfvy468⟩ := hvy468
              rw [show Fvy37 32 = Fvy37 32 from rfl] at hlvy468 hsvy468
              have h34vy468 : Fvy468 34 = F 34 := (hFvy468 34 (by decide) (by decide) (by decide) (by decide) (by decide)).trans (((hFvy37 34 (by decide) (by decide) (by decide) (by decide) (by decide) (by decide) (by decide)).trans ((hFvy34 34 (by decide) (by decide) (by decide) (by decide) (by decide)).trans (hFvy32 34 (by decide) (by decide)))))
              obtain ⟨d32vy468, -, d35vy468, d36vy468, -, d37vy468, d38vy468⟩ := id hdvy468
              have h38vy468 : Fvy468 38 = 0 := ((hFvy468 38 (by decide) (by decide) (by decide) (by decide) (by decide)).trans hxvy37)
              clear hsvy468
              refine z_aload_n C 2 dX10_hour1_168 rfl ?_
              refine z_get (v := .ref (ad (i + 20))) C (by omega) hay1 hcvy468 rfl inA_X10 43 (by decide) q_1502 rfl rfl dX10_hour1_169 ?_
              refine z_aload_n C 2 dX10_hour1_172 rfl ?_
              refine z_get (v := .int (zI (F 48))) C (by omega) hay1 hcvy468 rfl inA_X10 48 (by decide) q_1507 rfl (fv (F := Fvy468) (f := 48) ((hFvy468 48 (by decide) (by decide) (by decide) (by decide) (by decide)).trans ((hFvy37 48 (by decide) (by decide) (by decide) (by decide) (by decide) (by decide) (by decide)).trans ((hFvy34 48 (by decide) (by decide) (by decide) (by decide) (by decide)).trans (hFvy32 48 (by decide) (by decide)))))) dX10_hour1_173 ?_
              have hgy469 := (hfvy468 (i + 20) (ne_o (i := i) (c := 20) (d := 0) rfl)).trans hgy459
              refine z_iald C (by omega) hay7 hgy469 ((F 48).toNat) (by omega) (by omega) (by decide) dX10_hour1_176 ?_
              rw [show ry460 ((F 48).toNat) = ((Fvy37 37) - 3) + 1 from (congrFun hvy461 _).trans (uZ_s _ _ _)]
              refine z_iconst (z := 3) C dX10_hour1_177 rfl ?_
              refine z_icmp_ge (tgt := 197) C dX10_hour1_178 (by decide) (by omega) (by omega) (fun hby470 => ?_) (fun hby470 => ?_)
              · refine z_aload_n C 2 dX10_hour1_197 rfl ?_
                refine z_dup C dX10_hour1_198 rfl ?_
                refine z_get (v := .int (zI (F 48))) C (by omega) hay1 hcvy468 rfl inA_X10 48 (by decide) q_1507 rfl (fv (F := Fvy468) (f := 48) ((hFvy468 48 (by decide) (by decide) (by decide) (by decide) (by decide)).trans ((hFvy37 48 (by decide) (by decide) (by decide) (by decide) (by decide) (by decide) (by decide)).trans ((hFvy34 48 (by decide) (by decide) (by decide) (by decide) (by decide)).trans (hFvy32 48 (by decide) (by decide)))))) dX10_hour1_199 ?_
                refine z_iconst (z := 1) C dX10_hour1_202 rfl ?_
                refine z_iadd C dX10_hour1_203 ?_
                refine z_put (fs' := mF ad (i) (uZ Fvy468 48 ((F 48) + 1))) C (by omega) hay1 hcvy468 tyX10 tyX10_ok nmX10 rfl inA_X10 48 (by decide) q_1507 rfl rfl rfl rfl (Nat.le_of_ble_eq_true rfl) rfl dX10_hour1_204 (fun gy471 egy472 => ?_)
                have hgy473 := up_s egy472
                have hFy474 : ∀ f, f ≠ 24 → f ≠ 32 → f ≠ 33 → f ≠ 35 → f ≠ 36 → f ≠ 37 → f ≠ 38 → f ≠ 47 → f ≠ 48 → f ≠ 49 → (uZ Fvy468 48 ((F 48) + 1)) f = F f := fun f n24 n32 n33 n35 n36 n37 n38 n47 n48 n49 => ((uZ_n _ _ n48).trans ((hFvy468 f n32 n33 n35 n36 n37).trans ((hFvy37 f n24 n32 n33 n35 n36 n37 n38).trans ((hFvy34 f n32 n33 n35 n36 n37).trans (hFvy32 f n24 n38)))))
                have hey475 : (uZ Fvy468 48 ((F 48) + 1)) 32 = Fvy468 32 := (fn rfl (by decide))
                have hey476 : (uZ Fvy468 48 ((F 48) + 1)) 35 = Fvy468 35 := (fn rfl (by decide))
                have hey477 : (uZ Fvy468 48 ((F 48) + 1)) 38 = 0 := (fn ((hFvy468 38 (by decide) (by decide) (by decide) (by decide) (by decide)).trans hxvy37) (by decide))
                have hey478 : (uZ Fvy468 48 ((F 48) + 1)) 32 = Fvy468 32 := (fn rfl (by decide))
                have hey479 : (uZ Fvy468 48 ((F 48) + 1)) 47 = F 47 := (fn ((hFvy468 47 (by decide) (by decide) (by decide) (by decide) (by decide)).trans ((hFvy37 47 (by decide) (by decide) (by decide) (by decide) (by decide) (by decide) (by decide)).trans ((hFvy34 47 (by decide) (by decide) (by decide) (by decide) (by decide)).trans (hFvy32 47 (by decide) (by decide))))) (by decide))
                have hey480 : (uZ Fvy468 48 ((F 48) + 1)) 48 = (F 48) + 1 := (uZ_s _ _ _)
                have hey481 : (uZ Fvy468 48 ((F 48) + 1)) 49 = F 49 := (fn ((hFvy468 49 (by decide) (by decide) (by decide) (by decide) (by decide)).trans ((hFvy37 49 (by decide) (by decide) (by decide) (by decide) (by decide) (by decide) (by decide)).trans ((hFvy34 49 (by decide) (by decide) (by decide) (by decide) (by decide)).trans (hFvy32 49 (by decide) (by decide))))) (by decide))
                have hfry483 : ∀ j, j ≠ (F 48).toNat → ry44 j = ai1 j := fun j n0 => (congrFun hvy45 _).trans ((uZ_n _ _ n0).trans (rfl))
                have hwy484 : ry44 ((F 48).toNat) = vy37 := (congrFun hvy45 _).trans (uZ_s _ _ _)
                have haky482 : ∀ k, k < 24 → -300 ≤ ry44 k ∧ ry44 k ≤ 100 := by
                  intro k hk
                  by_cases e : k = (F 48).toNat
                  · rw [e]; have hk0 := hai1 ((F 48).toNat) (by omega); omega
                  · have hk0 := hai1 k hk; rw [hfry483 k e]; exact hk0
                have hfry486 : ∀ j, j ≠ (F 48).toNat → ry460 j = fa1 j := fun j n0 => (congrFun hvy461 _).trans ((uZ_n _ _ n0).trans ((congrFun hvy55 _).trans ((uZ_n _ _ n0).trans (rfl))))
                have hfry487 : ∀ j, j ≠ (F 48).toNat → ry65 j = mu1 j := fun j n0 => (congrFun hvy66 _).trans ((uZ_n _ _ n0).trans (rfl))
                have hwy488 : ry460 ((F 48).toNat) = ((Fvy37 37) - 3) + 1 := (congrFun hvy461 _).trans (uZ_s _ _ _)
                have hwy489 : ry65 ((F 48).toNat) = 0 := (congrFun hvy66 _).trans (uZ_s _ _ _)
                have haky485 : ∀ k, k < 24 → (0 ≤ ry460 k ∧ ry460 k ≤ 3) ∧ (0 ≤ ry65 k ∧ ry65 k ≤ 50) ∧ (ry460 k = 1 ∨ ry460 k = 2 → 1 ≤ ry65 k) := by
                  intro k hk
                  by_cases e : k = (F 48).toNat
                  · rw [e]; have hk0 := hfa1 ((F 48).toNat) (by omega); omega
                  · have hk0 := hfa1 k hk; rw [hfry486 k e]; rw [hfry487 k e]; exact hk0
                have hlay490 : ∀ s l : Nat, (s : Int) < (uZ Fvy468 48 ((F 48) + 1)) 47 → (l : Int) < mn1 s → lyT ly1 (84 * s + 7 * l) := fun s l a1 a2 => hly1 s l (by omega) a2
                have hgy491 := (hfvy32 (i + 16) (ne_o (i := i) (c := 16) (d := 0) rfl)).trans ha16
                have hgy492 := (hfvy34 (i + 16) (ne_o (i := i) (c := 16) (d := 0) rfl)).trans hgy491
                have hgy493 := (hfvy37 (i + 16) (ne_o (i := i) (c := 16) (d := 0) rfl)).trans hgy492
                have hgy494 := up_n egy42 hgy493 (ne_o (i := i) (c := 16) (d := 19) rfl)
                have hgy495 := up_n egy52 hgy494 (ne_o (i := i) (c := 16) (d := 20) rfl)
                have hgy496 := up_n egy63 hgy495 (ne_o (i := i) (c := 16) (d := 21) rfl)
                have hgy497 := up_n egy458 hgy496 (ne_o (i := i) (c := 16) (d := 20) rfl)
                have hgy498 := (hfvy468 (i + 16) (ne_o (i := i) (c := 16) (d := 0) rfl)).trans hgy497
                have hgy499 := up_n egy472 hgy498 (ne_o (i := i) (c := 16) (d := 0) rfl)
                have hgy500 := (hfvy32 (i + 17) (ne_o (i := i) (c := 17) (d := 0) rfl)).trans ha17
                have hgy501 := (hfvy34 (i + 17) (ne_o (i := i) (c := 17) (d := 0) rfl)).trans hgy500
                have hgy502 := (hfvy37 (i + 17) (ne_o (i := i) (c := 17) (d := 0) rfl)).trans hgy501
                have hgy503 := up_n egy42 hgy502 (ne_o (i := i) (c := 17) (d := 19) rfl)
                have hgy504 := up_n egy52 hgy503 (ne_o (i := i) (c := 17) (d := 20) rfl)
                have hgy505 := up_n egy63 hgy504 (ne_o (i := i) (c := 17) (d := 21) rfl)
                have hgy506 := up_n egy458 hgy505 (ne_o (i := i) (c := 17) (d := 20) rfl)
                have hgy507 := (hfvy468 (i + 17) (ne_o (i := i) (c := 17) (d := 0) rfl)).trans hgy506
                have hgy508 := up_n egy472 hgy507 (ne_o (i := i) (c := 17) (d := 0) rfl)
                have hgy509 := (hfvy32 (i + 18) (ne_o (i := i) (c := 18) (d := 0) rfl)).trans ha18
                have hgy510 := (hfvy34 (i + 18) (ne_o (i := i) (c := 18) (d := 0) rfl)).trans hgy509
                have hgy511 := (hfvy37 (i + 18) (ne_o (i := i) (c := 18) (d := 0) rfl)).trans hgy510
                have hgy512 := up_n egy42 hgy511 (ne_o (i := i) (c := 18) (d := 19) rfl)
                have hgy513 := up_n egy52 hgy512 (ne_o (i := i) (c := 18) (d := 20) rfl)
                have hgy514 := up_n egy63 hgy513 (ne_o (i := i) (c := 18) (d := 21) rfl)
                have hgy515 := up_n egy458 hgy514 (ne_o (i := i) (c := 18) (d := 20) rfl)
                have hgy516 := (hfvy468 (i + 18) (ne_o (i := i) (c := 18) (d := 0) rfl)).trans hgy515
                have hgy517 := up_n egy472 hgy516 (ne_o (i := i) (c := 18) (d := 0) rfl)
                have hgy518 := up_n egy52 hgy43 (ne_o (i := i) (c := 19) (d := 20) rfl)
                have hgy519 := up_n egy63 hgy518 (ne_o (i := i) (c := 19) (d := 21) rfl)
                have hgy520 := up_n egy458 hgy519 (ne_o (i := i) (c := 19) (d := 20) rfl)
                have hgy521 := (hfvy468 (i + 19) (ne_o (i := i) (c := 19) (d := 0) rfl)).trans hgy520
                have hgy522 := up_n egy472 hgy521 (ne_o (i := i) (c := 19) (d := 0) rfl)
                have hgy523 := up_n egy472 hgy469 (ne_o (i := i) (c := 20) (d := 0) rfl)
                have hgy524 := up_n egy458 hgy64 (ne_o (i := i) (c := 21) (d := 20) rfl)
                have hgy525 := (hfvy468 (i + 21) (ne_o (i := i) (c := 21) (d := 0) rfl)).trans hgy524
                have hgy526 := up_n egy472 hgy525 (ne_o (i := i) (c := 21) (d := 0) rfl)
                have hgy527 := (hfvy32 (i + 22) (ne_o (i := i) (c := 22) (d := 0) rfl)).trans ha22
                have hgy528 := (hfvy34 (i + 22) (ne_o (i := i) (c := 22) (d := 0) rfl)).trans hgy527
                have hgy529 := (hfvy37 (i + 22) (ne_o (i := i) (c := 22) (d := 0) rfl)).trans hgy528
                have hgy530 := up_n egy42 hgy529 (ne_o (i := i) (c := 22) (d := 19) rfl)
                have hgy531 := up_n egy52 hgy530 (ne_o (i := i) (c := 22) (d := 20) rfl)
                have hgy532 := up_n egy63 hgy531 (ne_o (i := i) (c := 22) (d := 21) rfl)
                have hgy533 := up_n egy458 hgy532 (ne_o (i := i) (c := 22) (d := 20) rfl)
                have hgy534 := (hfvy468 (i + 22) (ne_o (i := i) (c := 22) (d := 0) rfl)).trans hgy533
                have hgy535 := up_n egy472 hgy534 (ne_o (i := i) (c := 22) (d := 0) rfl)
                have hgy536 := (hfvy32 (i + 23) (ne_o (i := i) (c := 23) (d := 0) rfl)).trans ha23
                have hgy537 := (hfvy34 (i + 23) (ne_o (i := i) (c := 23) (d := 0) rfl)).trans hgy536
                have hgy538 := (hfvy37 (i + 23) (ne_o (i := i) (c := 23) (d := 0) rfl)).trans hgy537
                have hgy539 := up_n egy42 hgy538 (ne_o (i := i) (c := 23) (d := 19) rfl)
                have hgy540 := up_n egy52 hgy539 (ne_o (i := i) (c := 23) (d := 20) rfl)
                have hgy541 := up_n egy63 hgy540 (ne_o (i := i) (c := 23) (d := 21) rfl)
                have hgy542 := up_n egy458 hgy541 (ne_o (i := i) (c := 23) (d := 20) rfl)
                have hgy543 := (hfvy468 (i + 23) (ne_o (i := i) (c := 23) (d := 0) rfl)).trans hgy542
                have hgy544 := up_n egy472 hgy543 (ne_o (i := i) (c := 23) (d := 0) rfl)
                have htxy545 : okTx cs gy471 i (uZ Fvy468 48 ((F 48) + 1)) := ⟨_, _, _, _, _, _, _, _, ⟨hgy499, hgy508, hgy517, hgy522, hgy523, hgy526, hgy535, hgy544⟩, ⟨⟨by omega, by omega, by omega⟩, hop1, hmn1, haky482, haky485, htb1, hlay490⟩⟩
                exact z_vret C hr hlk dX10_hour1_207 (by decide) (by decide) ⟨rfl, rfl, rfl, ⟨_, hgy473, (RD.put hdvy468 (by decide)), by omega, by omega, hFy474, htxy545⟩, fun j j1 j2 => by rw [egy472, va_up_ne _ _ (by omega)]; rw [hfvy468 _ (by omega)]; rw [egy458, va_up_ne _ _ (by omega)]; rw [egy63, va_up_ne _ _ (by omega)]; rw [egy52, va_up_ne _ _ (by omega)]; rw [egy42, va_up_ne _ _ (by omega)]; rw [hfvy37 _ (by omega)]; rw [hfvy34 _ (by omega)]; rw [hfvy32 _ (by omega)]⟩
              · refine z_aload_n C 2 dX10_hour1_181 rfl ?_
                refine z_get (v := .ref (ad (i + 21))) C (by omega) hay1 hcvy468 rfl inA_X10 44 (by decide) q_1503 rfl rfl dX10_hour1_182 ?_
                refine z_aload_n C 2 dX10_hour1_185 rfl ?_
                refine z_get (v := .int (zI (F 48))) C (by omega) hay1 hcvy468 rfl inA_X10 48 (by decide) q_1507 rfl (fv (F := Fvy468) (f := 48) ((hFvy468 48 (by decide) (by decide) (by decide) (by decide) (by decide)).trans ((hFvy37 48 (by decide) (by decide) (by decide) (by decide) (by decide) (by decide) (by decide)).trans ((hFvy34 48 (by decide) (by decide) (by decide) (by decide) (by decide)).trans (hFvy32 48 (by decide) (by decide)))))) dX10_hour1_186 ?_
                refine z_aload_n C 2 dX10_hour1_189 rfl ?_
                refine z_iconst (z := 1) C dX10_hour1_190 rfl ?_
                refine z_bipush (z := 50) C dX10_hour1_191 (by decide) ?_
                have hgy546 := (hfvy468 (i + 13) (ne_o (i := i) (c := 13) (d := 0) rfl)).trans hgy467
                refine z_cV (As := [.int (zI (1)), .int (zI (50))]) (rest := [.int (zI (F 48)), .ref (ad (i + 21))]) (ci := 12) C (c_X10_number l D A cs tt N ad _ i hN _ hcvy468 _ hgy546 htp hdvy468 (1) (by omega) (50) (by omega)) (by omega) hay1 hcvy468 rfl rfl mv_yX10_number q_1682 hd_yX10_number (by decide) (Nat.le_of_ble_eq_true rfl) (by decide) dX10_hour1_193 rfl (kI0 fun vy547 gvy547 hvy547 => ?_)
                obtain ⟨hrvy547, ⟨Fvy547, hcvy547, hdvy547, hlvy547, hsvy547, hFvy547⟩, hfvy547⟩ := hvy547
                rw [show Fvy468 32 = Fvy468 32 from rfl] at hlvy547
                rw [show Fvy468 38 = 0 from ((hFvy468 38 (by decide) (by decide) (by decide) (by decide) (by decide)).trans hxvy37), show Fvy468 35 = Fvy468 35 from rfl] at hsvy547
                have h34vy547 : Fvy547 34 = F 34 := (hFvy547 34 (by decide) (by decide) (by decide) (by decide) (by decide) (by decide) (by decide)).trans (((hFvy468 34 (by decide) (by decide) (by decide) (by decide) (by decide)).trans ((hFvy37 34 (by decide) (by decide) (by decide) (by decide) (by decide) (by decide) (by decide)).trans ((hFvy34 34 (by decide) (by decide) (by decide) (by decide) (by decide)).trans (hFvy32 34 (by decide) (by decide))))))
                obtain ⟨d32vy547, -, d35vy547, d36vy547, -, d37vy547, d38vy547⟩ := id hdvy547
                clear hsvy547
                have hgy548 := up_n egy458 hgy64 (ne_o (i := i) (c := 21) (d := 20) rfl)
                have hgy549 := (hfvy468 (i + 21) (ne_o (i := i) (c := 21) (d := 0) rfl)).trans hgy548
                have hgy550 := (hfvy547 (i + 21) (ne_o (i := i) (c := 21) (d := 0) rfl)).trans hgy549
                refine z_iast C (by omega) hay8 hgy550 ((F 48).toNat) (by omega) (by omega) (by decide) dX10_hour1_196 (fun gy551 egy552 => ?_)
                have hgy553 := up_s egy552
                obtain ⟨ry554, hvy555⟩ : ∃ rZ9 : Nat → Int, rZ9 = uZ ry65 ((F 48).toNat) (vy547) := ⟨_, rfl⟩
                rw [← hvy555] at hgy553
                refine z_aload_n C 2 dX10_hour1_197 rfl ?_
                refine z_dup C dX10_hour1_198 rfl ?_
                have hgy556 := up_n egy552 hcvy547 (ne_o (i := i) (c := 0) (d := 21) rfl)
                refine z_get (v := .int (zI (F 48))) C (by omega) hay1 hgy556 rfl inA_X10 48 (by decide) q_1507 rfl (fv (F := Fvy547) (f := 48) ((hFvy547 48 (by decide) (by decide) (by decide) (by decide) (by decide) (by decide) (by decide)).trans ((hFvy468 48 (by decide) (by decide) (by decide) (by decide) (by decide)).trans ((hFvy37 48 (by decide) (by decide) (by decide) (by decide) (by decide) (by decide) (by decide)).trans ((hFvy34 48 (by decide) (by decide) (by decide) (by decide) (by decide)).trans (hFvy32 48 (by decide) (by decide))))))) dX10_hour1_199 ?_
                refine z_iconst (z := 1) C dX10_hour1_202 rfl ?_
                refine z_iadd C dX10_hour1_203 ?_
                refine z_put (fs' := mF ad (i) (uZ Fvy547 48 ((F 48) + 1))) C (by omega) hay1 hgy556 tyX10 tyX10_ok nmX10 rfl inA_X10 48 (by decide) q_1507 rfl rfl rfl rfl (Nat.le_of_ble_eq_true rfl) rfl dX10_hour1_204 (fun gy557 egy558 => ?_)
                have hgy559 := up_s egy558
                have hFy560 : ∀ f, f ≠ 24 → f ≠ 32 → f ≠ 33 → f ≠ 35 → f ≠ 36 → f ≠ 37 → f ≠ 38 → f ≠ 47 → f ≠ 48 → f ≠ 49 → (uZ Fvy547 48 ((F 48) + 1)) f = F f := fun f n24 n32 n33 n35 n36 n37 n38 n47 n48 n49 => ((uZ_n _ _ n48).trans ((hFvy547 f n24 n32 n33 n35 n36 n37 n38).trans ((hFvy468 f n32 n33 n35 n36 n37).trans ((hFvy37 f n24 n32 n33 n35 n36 n37 n38).trans ((hFvy34 f n32 n33 n35 n36 n37).trans (hFvy32 f n24 n38))))))
                have hey561 : (uZ Fvy547 48 ((F 48) + 1)) 32 = Fvy547 32 := (fn rfl (by decide))
                have hey562 : (uZ Fvy547 48 ((F 48) + 1)) 35 = Fvy547 35 := (fn rfl (by decide))
                have hey563 : (uZ Fvy547 48 ((F 48) + 1)) 38 = Fvy547 38 := (fn rfl (by decide))
                have hey564 : (uZ Fvy547 48 ((F 48) + 1)) 32 = Fvy547 32 := (fn rfl (by decide))
                have hey565 : (uZ Fvy547 48 ((F 48) + 1)) 47 = F 47 := (fn ((hFvy547 47 (by decide) (by decide) (by decide) (by decide) (by decide) (by decide) (by decide)).trans ((hFvy468 47 (by decide) (by decide) (by decide) (by decide) (by decide)).trans ((hFvy37 47 (by decide) (by decide) (by decide) (by decide) (by decide) (by decide) (by decide)).trans ((hFvy34 47 (by decide) (by decide) (by decide) (by decide) (by decide)).trans (hFvy32 47 (by decide) (by decide)))))) (by decide))
                have hey566 : (uZ Fvy547 48 ((F 48) + 1)) 48 = (F 48) + 1 := (uZ_s _ _ _)
                have hey567 : (uZ Fvy547 48 ((F 48) + 1)) 49 = F 49 := (fn ((hFvy547 49 (by decide) (by decide) (by decide) (by decide) (by decide) (by decide) (by decide)).trans ((hFvy468 49 (by decide) (by decide) (by decide) (by decide) (by decide)).trans ((hFvy37 49 (by decide) (by decide) (by decide) (by decide) (by decide) (by decide) (by decide)).trans ((hFvy34 49 (by decide) (by decide) (by decide) (by decide) (by decide)).trans (hFvy32 49 (by decide) (by decide)))))) (by decide))
                have hfry569 : ∀ j, j ≠ (F 48).toNat → ry44 j = ai1 j := fun j n0 => (congrFun hvy45 _).trans ((uZ_n _ _ n0).trans (rfl))
                have hwy570 : ry44 ((F 48).toNat) = vy37 := (congrFun hvy45 _).trans (uZ_s _ _ _)
                have haky568 : ∀ k, k < 24 → -300 ≤ ry44 k ∧ ry44 k ≤ 100 := by
                  intro k hk
                  by_cases e : k = (F 48).toNat
                  · rw [e]; have hk0 := hai1 ((F 48).toNat) (by omega); omega
                  · have hk0 := hai1 k hk; rw [hfry569 k e]; exact hk0
                have hfry572 : ∀ j, j ≠ (F 48).toNat → ry460 j = fa1 j := fun j n0 => (congrFun hvy461 _).trans ((uZ_n _ _ n0).trans ((congrFun hvy55 _).trans ((uZ_n _ _ n0).trans (rfl))))
                have hfry573 : ∀ j, j ≠ (F 48).toNat → ry554 j = mu1 j := fun j n0 => (congrFun hvy555 _).trans ((uZ_n _ _ n0).trans ((congrFun hvy66 _).trans ((uZ_n _ _ n0).trans (rfl))))
                have hwy574 : ry460 ((F 48).toNat) = ((Fvy37 37) - 3) + 1 := (congrFun hvy461 _).trans (uZ_s _ _ _)
                have hwy575 : ry554 ((F 48).toNat) = vy547 := (congrFun hvy555 _).trans (uZ_s _ _ _)
                have haky571 : ∀ k, k < 24 → (0 ≤ ry460 k ∧ ry460 k ≤ 3) ∧ (0 ≤ ry554 k ∧ ry554 k ≤ 50) ∧ (ry460 k = 1 ∨ ry460 k = 2 → 1 ≤ ry554 k) := by
                  intro k hk
                  by_cases e : k = (F 48).toNat
                  · rw [e]; have hk0 := hfa1 ((F 48).toNat) (by omega); omega
                  · have hk0 := hfa1 k hk; rw [hfry572 k e]; rw [hfry573 k e]; exact hk0
                have hlay576 : ∀ s l : Nat, (s : Int) < (uZ Fvy547 48 ((F 48) + 1)) 47 → (l : Int) < mn1 s → lyT ly1 (84 * s + 7 * l) := fun s l a1 a2 => hly1 s l (by omega) a2
                have hgy577 := (hfvy32 (i + 16) (ne_o (i := i) (c := 16) (d := 0) rfl)).trans ha16
                have hgy578 := (hfvy34 (i + 16) (ne_o (i := i) (c := 16) (d := 0) rfl)).trans hgy577
                have hgy579 := (hfvy37 (i + 16) (ne_o (i := i) (c := 16) (d := 0) rfl)).trans hgy578
                have hgy580 := up_n egy42 hgy579 (ne_o (i := i) (c := 16) (d := 19) rfl)
                have hgy581 := up_n egy52 hgy580 (ne_o (i := i) (c := 16) (d := 20) rfl)
                have hgy582 := up_n egy63 hgy581 (ne_o (i := i) (c := 16) (d := 21) rfl)
                have hgy583 := up_n egy458 hgy582 (ne_o (i := i) (c := 16) (d := 20) rfl)
                have hgy584 := (hfvy468 (i + 16) (ne_o (i := i) (c := 16) (d := 0) rfl)).trans hgy583
                have hgy585 := (hfvy547 (i + 16) (ne_o (i := i) (c := 16) (d := 0) rfl)).trans hgy584
                have hgy586 := up_n egy552 hgy585 (ne_o (i := i) (c := 16) (d := 21) rfl)
                have hgy587 := up_n egy558 hgy586 (ne_o (i := i) (c := 16) (d := 0) rfl)
                have hgy588 := (hfvy32 (i + 17) (ne_o (i := i) (c := 17) (d := 0) rfl)).trans ha17
                have hgy589 := (hfvy34 (i + 17) (ne_o (i := i) (c := 17) (d := 0) rfl)).trans hgy588
                have hgy590 := (hfvy37 (i + 17) (ne_o (i := i) (c := 17) (d := 0) rfl)).trans hgy589
                have hgy591 := up_n egy42 hgy590 (ne_o (i := i) (c := 17) (d := 19) rfl)
                have hgy592 := up_n egy52 hgy591 (ne_o (i := i) (c := 17) (d := 20) rfl)
                have hgy593 := up_n egy63 hgy592 (ne_o (i := i) (c := 17) (d := 21) rfl)
                have hgy594 := up_n egy458 hgy593 (ne_o (i := i) (c := 17) (d := 20) rfl)
                have hgy595 := (hfvy468 (i + 17) (ne_o (i := i) (c := 17) (d := 0) rfl)).trans hgy594
                have hgy596 := (hfvy547 (i + 17) (ne_o (i := i) (c := 17) (d := 0) rfl)).trans hgy595
                have hgy597 := up_n egy552 hgy596 (ne_o (i := i) (c := 17) (d := 21) rfl)
                have hgy598 := up_n egy558 hgy597 (ne_o (i := i) (c := 17) (d := 0) rfl)
                have hgy599 := (hfvy32 (i + 18) (ne_o (i := i) (c := 18) (d := 0) rfl)).trans ha18
                have hgy600 := (hfvy34 (i + 18) (ne_o (i := i) (c := 18) (d := 0) rfl)).trans hgy599
                have hgy601 := (hfvy37 (i + 18) (ne_o (i := i) (c := 18) (d := 0) rfl)).trans hgy600
                have hgy602 := up_n egy42 hgy601 (ne_o (i := i) (c := 18) (d := 19) rfl)
                have hgy603 := up_n egy52 hgy602 (ne_o (i := i) (c := 18) (d := 20) rfl)
                have hgy604 := up_n egy63 hgy603 (ne_o (i := i) (c := 18) (d := 21) rfl)
                have hgy605 := up_n egy458 hgy604 (ne_o (i := i) (c := 18) (d := 20) rfl)
                have hgy606 := (hfvy468 (i + 18) (ne_o (i := i) (c := 18) (d := 0) rfl)).trans hgy605
                have hgy607 := (hfvy547 (i + 18) (ne_o (i := i) (c := 18) (d := 0) rfl)).trans hgy606
                have hgy608 := up_n egy552 hgy607 (ne_o (i := i) (c := 18) (d := 21) rfl)
                have hgy609 := up_n egy558 hgy608 (ne_o (i := i) (c := 18) (d := 0) rfl)
                have hgy610 := up_n egy52 hgy43 (ne_o (i := i) (c := 19) (d := 20) rfl)
                have hgy611 := up_n egy63 hgy610 (ne_o (i := i) (c := 19) (d := 21) rfl)
                have hgy612 := up_n egy458 hgy611 (ne_o (i := i) (c := 19) (d := 20) rfl)
                have hgy613 := (hfvy468 (i + 19) (ne_o (i := i) (c := 19) (d := 0) rfl)).trans hgy612
                have hgy614 := (hfvy547 (i + 19) (ne_o (i := i) (c := 19) (d := 0) rfl)).trans hgy613
                have hgy615 := up_n egy552 hgy614 (ne_o (i := i) (c := 19) (d := 21) rfl)
                have hgy616 := up_n egy558 hgy615 (ne_o (i := i) (c := 19) (d := 0) rfl)
                have hgy617 := (hfvy547 (i + 20) (ne_o (i := i) (c := 20) (d := 0) rfl)).trans hgy469
                have hgy618 := up_n egy552 hgy617 (ne_o (i := i) (c := 20) (d := 21) rfl)
                have hgy619 := up_n egy558 hgy618 (ne_o (i := i) (c := 20) (d := 0) rfl)
                have hgy620 := up_n egy558 hgy553 (ne_o (i := i) (c := 21) (d := 0) rfl)
                have hgy621 := (hfvy32 (i + 22) (ne_o (i := i) (c := 22) (d := 0) rfl)).trans ha22
                have hgy622 := (hfvy34 (i + 22) (ne_o (i := i) (c := 22) (d := 0) rfl)).trans hgy621
                have hgy623 := (hfvy37 (i + 22) (ne_o (i := i) (c := 22) (d := 0) rfl)).trans hgy622
                have hgy624 := up_n egy42 hgy623 (ne_o (i := i) (c := 22) (d := 19) rfl)
                have hgy625 := up_n egy52 hgy624 (ne_o (i := i) (c := 22) (d := 20) rfl)
                have hgy626 := up_n egy63 hgy625 (ne_o (i := i) (c := 22) (d := 21) rfl)
                have hgy627 := up_n egy458 hgy626 (ne_o (i := i) (c := 22) (d := 20) rfl)
                have hgy628 := (hfvy468 (i + 22) (ne_o (i := i) (c := 22) (d := 0) rfl)).trans hgy627
                have hgy629 := (hfvy547 (i + 22) (ne_o (i := i) (c := 22) (d := 0) rfl)).trans hgy628
                have hgy630 := up_n egy552 hgy629 (ne_o (i := i) (c := 22) (d := 21) rfl)
                have hgy631 := up_n egy558 hgy630 (ne_o (i := i) (c := 22) (d := 0) rfl)
                have hgy632 := (hfvy32 (i + 23) (ne_o (i := i) (c := 23) (d := 0) rfl)).trans ha23
                have hgy633 := (hfvy34 (i + 23) (ne_o (i := i) (c := 23) (d := 0) rfl)).trans hgy632
                have hgy634 := (hfvy37 (i + 23) (ne_o (i := i) (c := 23) (d := 0) rfl)).trans hgy633
                have hgy635 := up_n egy42 hgy634 (ne_o (i := i) (c := 23) (d := 19) rfl)
                have hgy636 := up_n egy52 hgy635 (ne_o (i := i) (c := 23) (d := 20) rfl)
                have hgy637 := up_n egy63 hgy636 (ne_o (i := i) (c := 23) (d := 21) rfl)
                have hgy638 := up_n egy458 hgy637 (ne_o (i := i) (c := 23) (d := 20) rfl)
                have hgy639 := (hfvy468 (i + 23) (ne_o (i := i) (c := 23) (d := 0) rfl)).trans hgy638
                have hgy640 := (hfvy547 (i + 23) (ne_o (i := i) (c := 23) (d := 0) rfl)).trans hgy639
                have hgy641 := up_n egy552 hgy640 (ne_o (i := i) (c := 23) (d := 21) rfl)
                have hgy642 := up_n egy558 hgy641 (ne_o (i := i) (c := 23) (d := 0) rfl)
                have htxy643 : okTx cs gy557 i (uZ Fvy547 48 ((F 48) + 1)) := ⟨_, _, _, _, _, _, _, _, ⟨hgy587, hgy598, hgy609, hgy616, hgy619, hgy620, hgy631, hgy642⟩, ⟨⟨by omega, by omega, by omega⟩, hop1, hmn1, haky568, haky571, htb1, hlay576⟩⟩
                exact z_vret C hr hlk dX10_hour1_207 (by decide) (by decide) ⟨rfl, rfl, rfl, ⟨_, hgy559, (RD.put hdvy547 (by decide)), by omega, by omega, hFy560, htxy643⟩, fun j j1 j2 => by rw [egy558, va_up_ne _ _ (by omega)]; rw [egy552, va_up_ne _ _ (by omega)]; rw [hfvy547 _ (by omega)]; rw [hfvy468 _ (by omega)]; rw [egy458, va_up_ne _ _ (by omega)]; rw [egy63, va_up_ne _ _ (by omega)]; rw [egy52, va_up_ne _ _ (by omega)]; rw [egy42, va_up_ne _ _ (by omega)]; rw [hfvy37 _ (by omega)]; rw [hfvy34 _ (by omega)]; rw [hfvy32 _ (by omega)]⟩
            · clear hqvy452
              refine z_if_eq (tgt := 197) C dX10_hour1_144 (by decide) (by omega) (fun _ => ?_) (fun h => absurd h (by omega))
              refine z_aload_n C 2 dX10_hour1_197 rfl ?_
              refine z_dup C dX10_hour1_198 rfl ?_
              refine z_get (v := .int (zI (F 48))) C (by omega) hay1 hgy67 rfl inA_X10 48 (by decide) q_1507 rfl (fv (F := Fvy37) (f := 48) ((hFvy37 48 (by decide) (by decide) (by decide) (by decide) (by decide) (by decide) (by decide)).trans ((hFvy34 48 (by decide) (by decide) (by decide) (by decide) (by decide)).trans (hFvy32 48 (by decide) (by decide))))) dX10_hour1_199 ?_
              refine z_iconst (z := 1) C dX10_hour1_202 rfl ?_
              refine z_iadd C dX10_hour1_203 ?_
              refine z_put (fs' := mF ad (i) (uZ Fvy37 48 ((F 48) + 1))) C (by omega) hay1 hgy67 tyX10 tyX10_ok nmX10 rfl inA_X10 48 (by decide) q_1507 rfl rfl rfl rfl (Nat.le_of_ble_eq_true rfl) rfl dX10_hour1_204 (fun gy644 egy645 => ?_)
              have hgy646 := up_s egy645
              have hFy647 : ∀ f, f ≠ 24 → f ≠ 32 → f ≠ 33 → f ≠ 35 → f ≠ 36 → f ≠ 37 → f ≠ 38 → f ≠ 47 → f ≠ 48 → f ≠ 49 → (uZ Fvy37 48 ((F 48) + 1)) f = F f := fun f n24 n32 n33 n35 n36 n37 n38 n47 n48 n49 => ((uZ_n _ _ n48).trans ((hFvy37 f n24 n32 n33 n35 n36 n37 n38).trans ((hFvy34 f n32 n33 n35 n36 n37).trans (hFvy32 f n24 n38))))
              have hey648 : (uZ Fvy37 48 ((F 48) + 1)) 32 = Fvy37 32 := (fn rfl (by decide))
              have hey649 : (uZ Fvy37 48 ((F 48) + 1)) 35 = Fvy37 35 := (fn rfl (by decide))
              have hey650 : (uZ Fvy37 48 ((F 48) + 1)) 38 = 0 := (fn hxvy37 (by decide))
              have hey651 : (uZ Fvy37 48 ((F 48) + 1)) 32 = Fvy37 32 := (fn rfl (by decide))
              have hey652 : (uZ Fvy37 48 ((F 48) + 1)) 47 = F 47 := (fn ((hFvy37 47 (by decide) (by decide) (by decide) (by decide) (by decide) (by decide) (by decide)).trans ((hFvy34 47 (by decide) (by decide) (by decide) (by decide) (by decide)).trans (hFvy32 47 (by decide) (by decide)))) (by decide))
              have hey653 : (uZ Fvy37 48 ((F 48) + 1)) 48 = (F 48) + 1 := (uZ_s _ _ _)
              have hey654 : (uZ Fvy37 48 ((F 48) + 1)) 49 = F 49 := (fn ((hFvy37 49 (by decide) (by decide) (by decide) (by decide) (by decide) (by decide) (by decide)).trans ((hFvy34 49 (by decide) (by decide) (by decide) (by decide) (by decide)).trans (hFvy32 49 (by decide) (by decide)))) (by decide))
              have hfry656 : ∀ j, j ≠ (F 48).toNat → ry44 j = ai1 j := fun j n0 => (congrFun hvy45 _).trans ((uZ_n _ _ n0).trans (rfl))
              have hwy657 : ry44 ((F 48).toNat) = vy37 := (congrFun hvy45 _).trans (uZ_s _ _ _)
              have haky655 : ∀ k, k < 24 → -300 ≤ ry44 k ∧ ry44 k ≤ 100 := by
                intro k hk
                by_cases e : k = (F 48).toNat
                · rw [e]; have hk0 := hai1 ((F 48).toNat) (by omega); omega
                · have hk0 := hai1 k hk; rw [hfry656 k e]; exact hk0
              have hfry659 : ∀ j, j ≠ (F 48).toNat → ry54 j = fa1 j := fun j n0 => (congrFun hvy55 _).trans ((uZ_n _ _ n0).trans (rfl))
              have hfry660 : ∀ j, j ≠ (F 48).toNat → ry65 j = mu1 j := fun j n0 => (congrFun hvy66 _).trans ((uZ_n _ _ n0).trans (rfl))
              have hwy661 : ry54 ((F 48).toNat) = 0 := (congrFun hvy55 _).trans (uZ_s _ _ _)
              have hwy662 : ry65 ((F 48).toNat) = 0 := (congrFun hvy66 _).trans (uZ_s _ _ _)
              have haky658 : ∀ k, k < 24 → (0 ≤ ry54 k ∧ ry54 k ≤ 3) ∧ (0 ≤ ry65 k ∧ ry65 k ≤ 50) ∧ (ry54 k = 1 ∨ ry54 k = 2 → 1 ≤ ry65 k) := by
                intro k hk
                by_cases e : k = (F 48).toNat
                · rw [e]; have hk0 := hfa1 ((F 48).toNat) (by omega); omega
                · have hk0 := hfa1 k hk; rw [hfry659 k e]; rw [hfry660 k e]; exact hk0
              have hlay663 : ∀ s l : Nat, (s : Int) < (uZ Fvy37 48 ((F 48) + 1)) 47 → (l : Int) < mn1 s → lyT ly1 (84 * s + 7 * l) := fun s l a1 a2 => hly1 s l (by omega) a2
              have hgy664 := (hfvy32 (i + 16) (ne_o (i := i) (c := 16) (d := 0) rfl)).trans ha16
              have hgy665 := (hfvy34 (i + 16) (ne_o (i := i) (c := 16) (d := 0) rfl)).trans hgy664
              have hgy666 := (hfvy37 (i + 16) (ne_o (i := i) (c := 16) (d := 0) rfl)).trans hgy665
              have hgy667 := up_n egy42 hgy666 (ne_o (i := i) (c := 16) (d := 19) rfl)
              have hgy668 := up_n egy52 hgy667 (ne_o (i := i) (c := 16) (d := 20) rfl)
              have hgy669 := up_n egy63 hgy668 (ne_o (i := i) (c := 16) (d := 21) rfl)
              have hgy670 := up_n egy645 hgy669 (ne_o (i := i) (c := 16) (d := 0) rfl)
              have hgy671 := (hfvy32 (i + 17) (ne_o (i := i) (c := 17) (d := 0) rfl)).trans ha17
              have hgy672 := (hfvy34 (i + 17) (ne_o (i := i) (c := 17) (d := 0) rfl)).trans hgy671
              have hgy673 := (hfvy37 (i + 17) (ne_o (i := i) (c := 17) (d := 0) rfl)).trans hgy672
              have hgy674 := up_n egy42 hgy673 (ne_o (i := i) (c := 17) (d := 19) rfl)
              have hgy675 := up_n egy52 hgy674 (ne_o (i := i) (c := 17) (d := 20) rfl)
              have hgy676 := up_n egy63 hgy675 (ne_o (i := i) (c := 17) (d := 21) rfl)
              have hgy677 := up_n egy645 hgy676 (ne_o (i := i) (c := 17) (d := 0) rfl)
              have hgy678 := (hfvy32 (i + 18) (ne_o (i := i) (c := 18) (d := 0) rfl)).trans ha18
              have hgy679 := (hfvy34 (i + 18) (ne_o (i := i) (c := 18) (d := 0) rfl)).trans hgy678
              have hgy680 := (hfvy37 (i + 18) (ne_o (i := i) (c := 18) (d := 0) rfl)).trans hgy679
              have hgy681 := up_n egy42 hgy680 (ne_o (i := i) (c := 18) (d := 19) rfl)
              have hgy682 := up_n egy52 hgy681 (ne_o (i := i) (c := 18) (d := 20) rfl)
              have hgy683 := up_n egy63 hgy682 (ne_o (i := i) (c := 18) (d := 21) rfl)
              have hgy684 := up_n egy645 hgy683 (ne_o (i := i) (c := 18) (d := 0) rfl)
              have hgy685 := up_n egy52 hgy43 (ne_o (i := i) (c := 19) (d := 20) rfl)
              have hgy686 := up_n egy63 hgy685 (ne_o (i := i) (c := 19) (d := 21) rfl)
              have hgy687 := up_n egy645 hgy686 (ne_o (i := i) (c := 19) (d := 0) rfl)
              have hgy688 := up_n egy63 hgy53 (ne_o (i := i) (c := 20) (d := 21) rfl)
              have hgy689 := up_n egy645 hgy688 (ne_o (i := i) (c := 20) (d := 0) rfl)
              have hgy690 := up_n egy645 hgy64 (ne_o (i := i) (c := 21) (d := 0) rfl)
              have hgy691 := (hfvy32 (i + 22) (ne_o (i := i) (c := 22) (d := 0) rfl)).trans ha22
              have hgy692 := (hfvy34 (i + 22) (ne_o (i := i) (c := 22) (d := 0) rfl)).trans hgy691
              have hgy693 := (hfvy37 (i + 22) (ne_o (i := i) (c := 22) (d := 0) rfl)).trans hgy692
              have hgy694 := up_n egy42 hgy693 (ne_o (i := i) (c := 22) (d := 19) rfl)
              have hgy695 := up_n egy52 hgy694 (ne_o (i := i) (c := 22) (d := 20) rfl)
              have hgy696 := up_n egy63 hgy695 (ne_o (i := i) (c := 22) (d := 21) rfl)
              have hgy697 := up_n egy645 hgy696 (ne_o (i := i) (c := 22) (d := 0) rfl)
              have hgy698 := (hfvy32 (i + 23) (ne_o (i := i) (c := 23) (d := 0) rfl)).trans ha23
              have hgy699 := (hfvy34 (i + 23) (ne_o (i := i) (c := 23) (d := 0) rfl)).trans hgy698
              have hgy700 := (hfvy37 (i + 23) (ne_o (i := i) (c := 23) (d := 0) rfl)).trans hgy699
              have hgy701 := up_n egy42 hgy700 (ne_o (i := i) (c := 23) (d := 19) rfl)
              have hgy702 := up_n egy52 hgy701 (ne_o (i := i) (c := 23) (d := 20) rfl)
              have hgy703 := up_n egy63 hgy702 (ne_o (i := i) (c := 23) (d := 21) rfl)
              have hgy704 := up_n egy645 hgy703 (ne_o (i := i) (c := 23) (d := 0) rfl)
              have htxy705 : okTx cs gy644 i (uZ Fvy37 48 ((F 48) + 1)) := ⟨_, _, _, _, _, _, _, _, ⟨hgy670, hgy677, hgy684, hgy687, hgy689, hgy690, hgy697, hgy704⟩, ⟨⟨by omega, by omega, by omega⟩, hop1, hmn1, haky655, haky658, htb1, hlay663⟩⟩
              exact z_vret C hr hlk dX10_hour1_207 (by decide) (by decide) ⟨rfl, rfl, rfl, ⟨_, hgy646, (RD.put hdvy37 (by decide)), by omega, by omega, hFy647, htxy705⟩, fun j j1 j2 => by rw [egy645, va_up_ne _ _ (by omega)]; rw [egy63, va_up_ne _ _ (by omega)]; rw [egy52, va_up_ne _ _ (by omega)]; rw [egy42, va_up_ne _ _ (by omega)]; rw [hfvy37 _ (by omega)]; rw [hfvy34 _ (by omega)]; rw [hfvy32 _ (by omega)]⟩
      · clear hsvy37
        have hpvy37 : 1 ≤ Fvy37 38 := by omega
        clear hxvy37
        refine z_istore_n (lv' := [(2, .int (zI (vy37))), (1, .int (zI (0))), (0, .ref (ad i))]) C dX10_hour1_75 rfl (by decide) rfl ?_
        refine z_aload_n C 2 dX10_hour1_76 rfl ?_
        refine z_get (v := .int (zI (Fvy37 38))) C (by omega) hay1 hcvy37 rfl inA_X10 38 (by decide) q_1497 rfl (fv (F := Fvy37) (f := 38) rfl) dX10_hour1_77 ?_
        refine z_if_eq (tgt := 84) C dX10_hour1_80 (by decide) (by omega) (fun h => absurd h (by omega)) (fun _ => ?_)
        have hFy706 : ∀ f, f ≠ 24 → f ≠ 32 → f ≠ 33 → f ≠ 35 → f ≠ 36 → f ≠ 37 → f ≠ 38 → f ≠ 47 → f ≠ 48 → f ≠ 49 → Fvy37 f = F f := fun f n24 n32 n33 n35 n36 n37 n38 n47 n48 n49 => ((hFvy37 f n24 n32 n33 n35 n36 n37 n38).trans ((hFvy34 f n32 n33 n35 n36 n37).trans (hFvy32 f n24 n38)))
        have hey707 : Fvy37 32 = Fvy37 32 := rfl
        have hey708 : Fvy37 35 = Fvy37 35 := rfl
        have hey709 : Fvy37 38 = Fvy37 38 := rfl
        have hey710 : Fvy37 32 = Fvy37 32 := rfl
        have hey711 : Fvy37 47 = F 47 := ((hFvy37 47 (by decide) (by decide) (by decide) (by decide) (by decide) (by decide) (by decide)).trans ((hFvy34 47 (by decide) (by decide) (by decide) (by decide) (by decide)).trans (hFvy32 47 (by decide) (by decide))))
        have hey712 : Fvy37 48 = F 48 := ((hFvy37 48 (by decide) (by decide) (by decide) (by decide) (by decide) (by decide) (by decide)).trans ((hFvy34 48 (by decide) (by decide) (by decide) (by decide) (by decide)).trans (hFvy32 48 (by decide) (by decide))))
        have hey713 : Fvy37 49 = F 49 := ((hFvy37 49 (by decide) (by decide) (by decide) (by decide) (by decide) (by decide) (by decide)).trans ((hFvy34 49 (by decide) (by decide) (by decide) (by decide) (by decide)).trans (hFvy32 49 (by decide) (by decide))))
        have hlay715 : ∀ s l : Nat, (s : Int) < Fvy37 47 → (l : Int) < mn1 s → lyT ly1 (84 * s + 7 * l) := fun s l a1 a2 => hly1 s l (by omega) a2
        have hgy716 := (hfvy32 (i + 16) (ne_o (i := i) (c := 16) (d := 0) rfl)).trans ha16
        have hgy717 := (hfvy34 (i + 16) (ne_o (i := i) (c := 16) (d := 0) rfl)).trans hgy716
        have hgy718 := (hfvy37 (i + 16) (ne_o (i := i) (c := 16) (d := 0) rfl)).trans hgy717
        have hgy719 := (hfvy32 (i + 17) (ne_o (i := i) (c := 17) (d := 0) rfl)).trans ha17
        have hgy720 := (hfvy34 (i + 17) (ne_o (i := i) (c := 17) (d := 0) rfl)).trans hgy719
        have hgy721 := (hfvy37 (i + 17) (ne_o (i := i) (c := 17) (d := 0) rfl)).trans hgy720
        have hgy722 := (hfvy32 (i + 18) (ne_o (i := i) (c := 18) (d := 0) rfl)).trans ha18
        have hgy723 := (hfvy34 (i + 18) (ne_o (i := i) (c := 18) (d := 0) rfl)).trans hgy722
        have hgy724 := (hfvy37 (i + 18) (ne_o (i := i) (c := 18) (d := 0) rfl)).trans hgy723
        have hgy725 := (hfvy32 (i + 19) (ne_o (i := i) (c := 19) (d := 0) rfl)).trans ha19
        have hgy726 := (hfvy34 (i + 19) (ne_o (i := i) (c := 19) (d := 0) rfl)).trans hgy725
        have hgy727 := (hfvy37 (i + 19) (ne_o (i := i) (c := 19) (d := 0) rfl)).trans hgy726
        have hgy728 := (hfvy32 (i + 20) (ne_o (i := i) (c := 20) (d := 0) rfl)).trans ha20
        have hgy729 := (hfvy34 (i + 20) (ne_o (i := i) (c := 20) (d := 0) rfl)).trans hgy728
        have hgy730 := (hfvy37 (i + 20) (ne_o (i := i) (c := 20) (d := 0) rfl)).trans hgy729
        have hgy731 := (hfvy32 (i + 21) (ne_o (i := i) (c := 21) (d := 0) rfl)).trans ha21
        have hgy732 := (hfvy34 (i + 21) (ne_o (i := i) (c := 21) (d := 0) rfl)).trans hgy731
        have hgy733 := (hfvy37 (i + 21) (ne_o (i := i) (c := 21) (d := 0) rfl)).trans hgy732
        have hgy734 := (hfvy32 (i + 22) (ne_o (i := i) (c := 22) (d := 0) rfl)).trans ha22
        have hgy735 := (hfvy34 (i + 22) (ne_o (i := i) (c := 22) (d := 0) rfl)).trans hgy734
        have hgy736 := (hfvy37 (i + 22) (ne_o (i := i) (c := 22) (d := 0) rfl)).trans hgy735
        have hgy737 := (hfvy32 (i + 23) (ne_o (i := i) (c := 23) (d := 0) rfl)).trans ha23
        have hgy738 := (hfvy34 (i + 23) (ne_o (i := i) (c := 23) (d := 0) rfl)).trans hgy737
        have hgy739 := (hfvy37 (i + 23) (ne_o (i := i) (c := 23) (d := 0) rfl)).trans hgy738
        have htxy740 : okTx cs gvy37 i Fvy37 := ⟨_, _, _, _, _, _, _, _, ⟨hgy718, hgy721, hgy724, hgy727, hgy730, hgy733, hgy736, hgy739⟩, ⟨⟨by omega, by omega, by omega⟩, hop1, hmn1, hai1, hfa1, htb1, hlay715⟩⟩
        exact z_vret C hr hlk dX10_hour1_83 (by decide) (by decide) ⟨rfl, rfl, rfl, ⟨_, hcvy37, hdvy37, by omega, by omega, hFy706, htxy740⟩, fun j j1 j2 => by rw [hfvy37 _ (by omega)]; rw [hfvy34 _ (by omega)]; rw [hfvy32 _ (by omega)]⟩
    · refine z_aload_n C 0 dX10_hour1_35 rfl ?_
      refine z_get (v := .int (zI (Fvy34 36))) C (by omega) hay1 hcvy34 rfl inA_X10 36 (by decide) q_1495 rfl (fv (F := Fvy34) (f := 36) rfl) dX10_hour1_36 ?_
      refine z_bipush (z := 45) C dX10_hour1_39 (by decide) ?_
      refine z_icmp_ne (tgt := 48) C dX10_hour1_41 (by decide) (by omega) (by omega) (fun hby741 => ?_) (fun hby741 => ?_)
      · refine z_iconst (z := 0) C dX10_hour1_48 rfl ?_
        refine z_istore_n (lv' := [(1, .int (zI (0))), (0, .ref (ad i))]) C dX10_hour1_49 rfl (by decide) rfl ?_
        refine z_iload_n C 0 dX10_hour1_50 rfl ?_
        refine z_if_eq (tgt := 58) C dX10_hour1_51 (by decide) (by omega) (fun _ => ?_) (fun h => absurd h (by omega))
        refine z_aload_n C 1 dX10_hour1_58 rfl ?_
        refine z_iconst (z := 0) C dX10_hour1_59 rfl ?_
        refine z_iload_n C 0 dX10_hour1_60 rfl ?_
        refine z_if_eq (tgt := 70) C dX10_hour1_61 (by decide) (by omega) (fun _ => ?_) (fun h => absurd h (by omega))
        refine z_bipush (z := 100) C dX10_hour1_70 (by decide) ?_
        have hgy742 := (hfvy34 (i + 13) (ne_o (i := i) (c := 13) (d := 0) rfl)).trans hgy33
        refine z_cV (As := [.int (zI (0)), .int (zI (100))]) (rest := []) (ci := 12) C (c_X10_number l D A cs tt N ad _ i hN _ hcvy34 _ hgy742 htp hdvy34 (0) (by omega) (100) (by omega)) (by omega) hay1 hcvy34 rfl rfl mv_yX10_number q_1682 hd_yX10_number (by decide) (Nat.le_of_ble_eq_true rfl) (by decide) dX10_hour1_72 rfl (kI0 fun vy743 gvy743 hvy743 => ?_)
        obtain ⟨hrvy743, ⟨Fvy743, hcvy743, hdvy743, hlvy743, hsvy743, hFvy743⟩, hfvy743⟩ := hvy743
        rw [show Fvy34 32 = Fvy34 32 from rfl] at hlvy743
        rw [show Fvy34 38 = 0 from ((hFvy34 38 (by decide) (by decide) (by decide) (by decide) (by decide)).trans e38vy32), show Fvy34 35 = Fvy34 35 from rfl] at hsvy743
        have h34vy743 : Fvy743 34 = F 34 := (hFvy743 34 (by decide) (by decide) (by decide) (by decide) (by decide) (by decide) (by decide)).trans (((hFvy34 34 (by decide) (by decide) (by decide) (by decide) (by decide)).trans (hFvy32 34 (by decide) (by decide))))
        obtain ⟨d32vy743, -, d35vy743, d36vy743, -, d37vy743, d38vy743⟩ := id hdvy743
        rcases (show Fvy743 38 = 0 ∨ Fvy743 38 ≠ 0 by omega) with hxvy743 | hxvy743
        · have hqvy743 := hsvy743 hxvy743
          clear hsvy743
          refine z_istore_n (lv' := [(2, .int (zI (vy743))), (1, .int (zI (0))), (0, .ref (ad i))]) C dX10_hour1_75 rfl (by decide) rfl ?_
          refine z_aload_n C 2 dX10_hour1_76 rfl ?_
          refine z_get (v := .int (zI (0))) C (by omega) hay1 hcvy743 rfl inA_X10 38 (by decide) q_1497 rfl (fv (F := Fvy743) (f := 38) hxvy743) dX10_hour1_77 ?_
          refine z_if_eq (tgt := 84) C dX10_hour1_80 (by decide) (by omega) (fun _ => ?_) (fun h => absurd h (by omega))
          refine z_aload_n C 2 dX10_hour1_84 rfl ?_
          refine z_get (v := .ref (ad (i + 19))) C (by omega) hay1 hcvy743 rfl inA_X10 42 (by decide) q_1501 rfl rfl dX10_hour1_85 ?_
          refine z_aload_n C 2 dX10_hour1_88 rfl ?_
          refine z_get (v := .int (zI (F 48))) C (by omega) hay1 hcvy743 rfl inA_X10 48 (by decide) q_1507 rfl (fv (F := Fvy743) (f := 48) ((hFvy743 48 (by decide) (by decide) (by decide) (by decide) (by decide) (by decide) (by decide)).trans ((hFvy34 48 (by decide) (by decide) (by decide) (by decide) (by decide)).trans (hFvy32 48 (by decide) (by decide))))) dX10_hour1_89 ?_
          refine z_iload_n C 1 dX10_hour1_92 rfl ?_
          refine z_if_eq (tgt := 101) C dX10_hour1_93 (by decide) (by omega) (fun _ => ?_) (fun h => absurd h (by omega))
          refine z_iload_n C 0 dX10_hour1_101 rfl ?_
          have hgy744 := (hfvy32 (i + 19) (ne_o (i := i) (c := 19) (d := 0) rfl)).trans ha19
          have hgy745 := (hfvy34 (i + 19) (ne_o (i := i) (c := 19) (d := 0) rfl)).trans hgy744
          have hgy746 := (hfvy743 (i + 19) (ne_o (i := i) (c := 19) (d := 0) rfl)).trans hgy745
          refine z_iast C (by omega) hay6 hgy746 ((F 48).toNat) (by omega) (by omega) (by decide) dX10_hour1_102 (fun gy747 egy748 => ?_)
          have hgy749 := up_s egy748
          obtain ⟨ry750, hvy751⟩ : ∃ rZ9 : Nat → Int, rZ9 = uZ ai1 ((F 48).toNat) (vy743) := ⟨_, rfl⟩
          rw [← hvy751] at hgy749
          refine z_aload_n C 2 dX10_hour1_103 rfl ?_
          have hgy752 := up_n egy748 hcvy743 (ne_o (i := i) (c := 0) (d := 19) rfl)
          refine z_get (v := .ref (ad (i + 20))) C (by omega) hay1 hgy752 rfl inA_X10 43 (by decide) q_1502 rfl rfl dX10_hour1_104 ?_
          refine z_aload_n C 2 dX10_hour1_107 rfl ?_
          refine z_get (v := .int (zI (F 48))) C (by omega) hay1 hgy752 rfl inA_X10 48 (by decide) q_1507 rfl (fv (F := Fvy743) (f := 48) ((hFvy743 48 (by decide) (by decide) (by decide) (by decide) (by decide) (by decide) (by decide)).trans ((hFvy34 48 (by decide) (by decide) (by decide) (by decide) (by decide)).trans (hFvy32 48 (by decide) (by decide))))) dX10_hour1_108 ?_
          refine z_iconst (z := 0) C dX10_hour1_111 rfl ?_
          have hgy753 := (hfvy32 (i + 20) (ne_o (i := i) (c := 20) (d := 0) rfl)).trans ha20
          have hgy754 := (hfvy34 (i + 20) (ne_o (i := i) (c := 20) (d := 0) rfl)).trans hgy753
          have hgy755 := (hfvy743 (i + 20) (ne_o (i := i) (c := 20) (d := 0) rfl)).trans hgy754
          have hgy756 := up_n egy748 hgy755 (ne_o (i := i) (c := 20) (d := 19) rfl)
          refine z_iast C (by omega) hay7 hgy756 ((F 48).toNat) (by omega) (by omega) (by decide) dX10_hour1_112 (fun gy757 egy758 => ?_)
          have hgy759 := up_s egy758
          obtain ⟨ry760, hvy761⟩ : ∃ rZ9 : Nat → Int, rZ9 = uZ fa1 ((F 48).toNat) (0) := ⟨_, rfl⟩
          rw [← hvy761] at hgy759
          refine z_aload_n C 2 dX10_hour1_113 rfl ?_
          have hgy762 := up_n egy758 hgy752 (ne_o (i := i) (c := 0) (d := 20) rfl)
          refine z_get (v := .ref (ad (i + 21))) C (by omega) hay1 hgy762 rfl inA_X10 44 (by decide) q_1503 rfl rfl dX10_hour1_114 ?_
          refine z_aload_n C 2 dX10_hour1_117 rfl ?_
          refine z_get (v := .int (zI (F 48))) C (by omega) hay1 hgy762 rfl inA_X10 48 (by decide) q_1507 rfl (fv (F := Fvy743) (f := 48) ((hFvy743 48 (by decide) (by decide) (by decide) (by decide) (by decide) (by decide) (by decide)).trans ((hFvy34 48 (by decide) (by decide) (by decide) (by decide) (by decide)).trans (hFvy32 48 (by decide) (by decide))))) dX10_hour1_118 ?_
          refine z_iconst (z := 0) C dX10_hour1_121 rfl ?_
          have hgy763 := (hfvy32 (i + 21) (ne_o (i := i) (c := 21) (d := 0) rfl)).trans ha21
          have hgy764 := (hfvy34 (i + 21) (ne_o (i := i) (c := 21) (d := 0) rfl)).trans hgy763
          have hgy765 := (hfvy743 (i + 21) (ne_o (i := i) (c := 21) (d := 0) rfl)).trans hgy764
          have hgy766 := up_n egy748 hgy765 (ne_o (i := i) (c := 21) (d := 19) rfl)
          have hgy767 := up_n egy758 hgy766 (ne_o (i := i) (c := 21) (d := 20) rfl)
          refine z_iast C (by omega) hay8 hgy767 ((F 48).toNat) (by omega) (by omega) (by decide) dX10_hour1_122 (fun gy768 egy769 => ?_)
          have hgy770 := up_s egy769
          obtain ⟨ry771, hvy772⟩ : ∃ rZ9 : Nat → Int, rZ9 = uZ mu1 ((F 48).toNat) (0) := ⟨_, rfl⟩
          rw [← hvy772] at hgy770
          refine z_aload_n C 2 dX10_hour1_123 rfl ?_
          refine z_iconst (z := 3) C dX10_hour1_124 rfl ?_
          have hgy773 := up_n egy769 hgy762 (ne_o (i := i) (c := 0) (d := 21) rfl)
          have hey775 : Fvy743 38 = 0 := hxvy743
          have hey776 : Fvy743 35 = Fvy743 35 := rfl
          have hey777 : Fvy743 37 = Fvy743 37 := rfl
          refine z_cV (As := [.int (zI (3))]) (rest := []) (ci := 12) C (c_X10_is l D A cs tt N ad _ i hN _ hgy773 hdvy743 (3) (by omega)) (by omega) hay1 hgy773 rfl rfl mv_yX10_is q_1705 hd_yX10_is (by decide) (Nat.le_of_ble_eq_true rfl) (by decide) dX10_hour1_125 rfl (kI0 fun vy774 gvy774 hvy774 => ?_)
          rw [hey775, hey776, hey777] at hvy774
          clear hey775 hey776 hey777
          obtain ⟨hrvy774, hqvy774, rfl⟩ := hvy774
          rcases (show vy774 = 1 ∨ vy774 = 0 by omega) with rfl | rfl
          · have hkvy774 := hqvy774 rfl
            clear hqvy774
            refine z_if_ne (tgt := 147) C dX10_hour1_128 (by decide) (by omega) (fun _ => ?_) (fun h => absurd h (by omega))
            refine z_aload_n C 2 dX10_hour1_147 rfl ?_
            refine z_get (v := .ref (ad (i + 20))) C (by omega) hay1 hgy773 rfl inA_X10 43 (by decide) q_1502 rfl rfl dX10_hour1_148 ?_
            refine z_aload_n C 2 dX10_hour1_151 rfl ?_
            refine z_get (v := .int (zI (F 48))) C (by omega) hay1 hgy773 rfl inA_X10 48 (by decide) q_1507 rfl (fv (F := Fvy743) (f := 48) ((hFvy743 48 (by decide) (by decide) (by decide) (by decide) (by decide) (by decide) (by decide)).trans ((hFvy34 48 (by decide) (by decide) (by decide) (by decide) (by decide)).trans (hFvy32 48 (by decide) (by decide))))) dX10_hour1_152 ?_
            refine z_aload_n C 2 dX10_hour1_155 rfl ?_
            refine z_get (v := .int (zI (Fvy743 37))) C (by omega) hay1 hgy773 rfl inA_X10 37 (by decide) q_1496 rfl (fv (F := Fvy743) (f := 37) rfl) dX10_hour1_156 ?_
            refine z_iconst (z := 3) C dX10_hour1_159 rfl ?_
            refine z_isub C dX10_hour1_160 ?_
            refine z_iconst (z := 1) C dX10_hour1_161 rfl ?_
            refine z_iadd C dX10_hour1_162 ?_
            have hgy778 := up_n egy769 hgy759 (ne_o (i := i) (c := 20) (d := 21) rfl)
            refine z_iast C (by omega) hay7 hgy778 ((F 48).toNat) (by omega) (by omega) (by decide) dX10_hour1_163 (fun gy779 egy780 => ?_)
            have hgy781 := up_s egy780
            obtain ⟨ry782, hvy783⟩ : ∃ rZ9 : Nat → Int, rZ9 = uZ ry760 ((F 48).toNat) (((Fvy743 37) - 3) + 1) := ⟨_, rfl⟩
            rw [← hvy783] at hgy781
            refine z_aload_n C 2 dX10_hour1_164 rfl ?_
            have hgy784 := up_n egy780 hgy773 (ne_o (i := i) (c := 0) (d := 20) rfl)
            have hgy785 := (hfvy743 (i + 13) (ne_o (i := i) (c := 13) (d := 0) rfl)).trans hgy742
            have hgy786 := up_n egy748 hgy785 (ne_o (i := i) (c := 13) (d := 19) rfl)
            have hgy787 := up_n egy758 hgy786 (ne_o (i := i) (c := 13) (d := 20) rfl)
            have hgy788 := up_n egy769 hgy787 (ne_o (i := i) (c := 13) (d := 21) rfl)
            have hgy789 := up_n egy780 hgy788 (ne_o (i := i) (c := 13) (d := 20) rfl)
            refine z_cV (As := []) (rest := []) (ci := 12) C (c_X10_go l D A cs tt N ad _ i hN _ hgy784 _ hgy789 htp hdvy743) (by omega) hay1 hgy784 rfl rfl mv_yX10_go q_1652 hd_yX10_go (by decide) (Nat.le_of_ble_eq_true rfl) (by decide) dX10_hour1_165 rfl (kV0 fun gvy790 hvy790 => ?_)
            obtain ⟨⟨Fvy790, hcvy790, hdvy790, hlvy790, hsvy790, hFvy790⟩, hfvy790⟩ := hvy790
            rw [show Fvy743 32 = Fvy743 32 from rfl] at hlvy790 hsvy790
            have h34vy790 : Fvy790 34 = F 34 := (hFvy790 34 (by decide) (by decide) (by decide) (by decide) (by decide)).trans (((hFvy743 34 (by decide) (by decide) (by decide) (by decide) (by decide) (by decide) (by decide)).trans ((hFvy34 34 (by decide) (by decide) (by decide) (by decide) (by decide)).trans (hFvy32 34 (by decide) (by decide)))))
            obtain ⟨d32vy790, -, d35vy790, d36vy790, -, d37vy790, d38vy790⟩ := id hdvy790
            have h38vy790 : Fvy790 38 = 0 := ((hFvy790 38 (by decide) (by decide) (by decide) (by decide) (by decide)).trans hxvy743)
            clear hsvy790
            refine z_aload_n C 2 dX10_hour1_168 rfl ?_
            refine z_get (v := .ref (ad (i + 20))) C (by omega) hay1 hcvy790 rfl inA_X10 43 (by decide) q_1502 rfl rfl dX10_hour1_169 ?_
            refine z_aload_n C 2 dX10_hour1_172 rfl ?_
            refine z_get (v := .int (zI (F 48))) C (by omega) hay1 hcvy790 rfl inA_X10 48 (by decide) q_1507 rfl (fv (F := Fvy790) (f := 48) ((hFvy790 48 (by decide) (by decide) (by decide) (by decide) (by decide)).trans ((hFvy743 48 (by decide) (by decide) (by decide) (by decide) (by decide) (by decide) (by decide)).trans ((hFvy34 48 (by decide) (by decide) (by decide) (by decide) (by decide)).trans (hFvy32 48 (by decide) (by decide)))))) dX10_hour1_173 ?_
            have hgy791 := (hfvy790 (i + 20) (ne_o (i := i) (c := 20) (d := 0) rfl)).trans hgy781
            refine z_iald C (by omega) hay7 hgy791 ((F 48).toNat) (by omega) (by omega) (by decide) dX10_hour1_176 ?_
            rw [show ry782 ((F 48).toNat) = ((Fvy743 37) - 3) + 1 from (congrFun hvy783 _).trans (uZ_s _ _ _)]
            refine z_iconst (z := 3) C dX10_hour1_177 rfl ?_
            refine z_icmp_ge (tgt := 197) C dX10_hour1_178 (by decide) (by omega) (by omega) (fun hby792 => ?_) (fun hby792 => ?_)
            · refine z_aload_n C 2 dX10_hour1_197 rfl ?_
              refine z_dup C dX10_hour1_198 rfl ?_
              refine z_get (v := .int (zI (F 48))) C (by omega) hay1 hcvy790 rfl inA_X10 48 (by decide) q_1507 rfl (fv (F := Fvy790) (f := 48) ((hFvy790 48 (by decide) (by decide) (by decide) (by decide) (by decide)).trans ((hFvy743 48 (by decide) (by decide) (by decide) (by decide) (by decide) (by decide) (by decide)).trans ((hFvy34 48 (by decide) (by decide) (by decide) (by decide) (by decide)).trans (hFvy32 48 (by decide) (by decide)))))) dX10_hour1_199 ?_
              refine z_iconst (z := 1) C dX10_hour1_202 rfl ?_
              refine z_iadd C dX10_hour1_203 ?_
              refine z_put (fs' := mF ad (i) (uZ Fvy790 48 ((F 48) + 1))) C (by omega) hay1 hcvy790 tyX10 tyX10_ok nmX10 rfl inA_X10 48 (by decide) q_1507 rfl rfl rfl rfl (Nat.le_of_ble_eq_true rfl) rfl dX10_hour1_204 (fun gy793 egy794 => ?_)
              have hgy795 := up_s egy794
              have hFy796 : ∀ f, f ≠ 24 → f ≠ 32 → f ≠ 33 → f ≠ 35 → f ≠ 36 → f ≠ 37 → f ≠ 38 → f ≠ 47 → f ≠ 48 → f ≠ 49 → (uZ Fvy790 48 ((F 48) + 1)) f = F f := fun f n24 n32 n33 n35 n36 n37 n38 n47 n48 n49 => ((uZ_n _ _ n48).trans ((hFvy790 f n32 n33 n35 n36 n37).trans ((hFvy743 f n24 n32 n33 n35 n36 n37 n38).trans ((hFvy34 f n32 n33 n35 n36 n37).trans (hFvy32 f n24 n38)))))
              have hey797 : (uZ Fvy790 48 ((F 48) + 1)) 32 = Fvy790 32 := (fn rfl (by decide))
              have hey798 : (uZ Fvy790 48 ((F 48) + 1)) 35 = Fvy790 35 := (fn rfl (by decide))
              have hey799 : (uZ Fvy790 48 ((F 48) + 1)) 38 = 0 := (fn ((hFvy790 38 (by decide) (by decide) (by decide) (by decide) (by decide)).trans hxvy743) (by decide))
              have hey800 : (uZ Fvy790 48 ((F 48) + 1)) 32 = Fvy790 32 := (fn rfl (by decide))
              have hey801 : (uZ Fvy790 48 ((F 48) + 1)) 47 = F 47 := (fn ((hFvy790 47 (by decide) (by decide) (by decide) (by decide) (by decide)).trans ((hFvy743 47 (by decide) (by decide) (by decide) (by decide) (by decide) (by decide) (by decide)).trans ((hFvy34 47 (by decide) (by decide) (by decide) (by decide) (by decide)).trans (hFvy32 47 (by decide) (by decide))))) (by decide))
              have hey802 : (uZ Fvy790 48 ((F 48) + 1)) 48 = (F 48) + 1 := (uZ_s _ _ _)
              have hey803 : (uZ Fvy790 48 ((F 48) + 1)) 49 = F 49 := (fn ((hFvy790 49 (by decide) (by decide) (by decide) (by decide) (by decide)).trans ((hFvy743 49 (by decide) (by decide) (by decide) (by decide) (by decide) (by decide) (by decide)).trans ((hFvy34 49 (by decide) (by decide) (by decide) (by decide) (by decide)).trans (hFvy32 49 (by decide) (by decide))))) (by decide))
              have hfry805 : ∀ j, j ≠ (F 48).toNat → ry750 j = ai1 j := fun j n0 => (congrFun hvy751 _).trans ((uZ_n _ _ n0).trans (rfl))
              have hwy806 : ry750 ((F 48).toNat) = vy743 := (congrFun hvy751 _).trans (uZ_s _ _ _)
              have haky804 : ∀ k, k < 24 → -300 ≤ ry750 k ∧ ry750 k ≤ 100 := by
                intro k hk
                by_cases e : k = (F 48).toNat
                · rw [e]; have hk0 := hai1 ((F 48).toNat) (by omega); omega
                · have hk0 := hai1 k hk; rw [hfry805 k e]; exact hk0
              have hfry808 : ∀ j, j ≠ (F 48).toNat → ry782 j = fa1 j := fun j n0 => (congrFun hvy783 _).trans ((uZ_n _ _ n0).trans ((congrFun hvy761 _).trans ((uZ_n _ _ n0).trans (rfl))))
              have hfry809 : ∀ j, j ≠ (F 48).toNat → ry771 j = mu1 j := fun j n0 => (congrFun hvy772 _).trans ((uZ_n _ _ n0).trans (rfl))
              have hwy810 : ry782 ((F 48).toNat) = ((Fvy743 37) - 3) + 1 := (congrFun hvy783 _).trans (uZ_s _ _ _)
              have hwy811 : ry771 ((F 48).toNat) = 0 := (congrFun hvy772 _).trans (uZ_s _ _ _)
              have haky807 : ∀ k, k < 24 → (0 ≤ ry782 k ∧ ry782 k ≤ 3) ∧ (0 ≤ ry771 k ∧ ry771 k ≤ 50) ∧ (ry782 k = 1 ∨ ry782 k = 2 → 1 ≤ ry771 k) := by
                intro k hk
                by_cases e : k = (F 48).toNat
                · rw [e]; have hk0 := hfa1 ((F 48).toNat) (by omega); omega
                · have hk0 := hfa1 k hk; rw [hfry808 k e]; rw [hfry809 k e]; exact hk0
              have hlay812 : ∀ s l : Nat, (s : Int) < (uZ Fvy790 48 ((F 48) + 1)) 47 → (l : Int) < mn1 s → lyT ly1 (84 * s + 7 * l) := fun s l a1 a2 => hly1 s l (by omega) a2
              have hgy813 := (hfvy32 (i + 16) (ne_o (i := i) (c := 16) (d := 0) rfl)).trans ha16
              have hgy814 := (hfvy34 (i + 16) (ne_o (i := i) (c := 16) (d := 0) rfl)).trans hgy813
              have hgy815 := (hfvy743 (i + 16) (ne_o (i := i) (c := 16) (d := 0) rfl)).trans hgy814
              have hgy816 := up_n egy748 hgy815 (ne_o (i := i) (c := 16) (d := 19) rfl)
              have hgy817 := up_n egy758 hgy816 (ne_o (i := i) (c := 16) (d := 20) rfl)
              have hgy818 := up_n egy769 hgy817 (ne_o (i := i) (c := 16) (d := 21) rfl)
              have hgy819 := up_n egy780 hgy818 (ne_o (i := i) (c := 16) (d := 20) rfl)
              have hgy820 := (hfvy790 (i + 16) (ne_o (i := i) (c := 16) (d := 0) rfl)).trans hgy819
              have hgy821 := up_n egy794 hgy820 (ne_o (i := i) (c := 16) (d := 0) rfl)
              have hgy822 := (hfvy32 (i + 17) (ne_o (i := i) (c := 17) (d := 0) rfl)).trans ha17
              have hgy823 := (hfvy34 (i + 17) (ne_o (i := i) (c := 17) (d := 0) rfl)).trans hgy822
              have hgy824 := (hfvy743 (i + 17) (ne_o (i := i) (c := 17) (d := 0) rfl)).trans hgy823
              have hgy825 := up_n egy748 hgy824 (ne_o (i := i) (c := 17) (d := 19) rfl)
              have hgy826 := up_n egy758 hgy825 (ne_o (i := i) (c := 17) (d := 20) rfl)
              have hgy827 := up_n egy769 hgy826 (ne_o (i := i) (c := 17) (d := 21) rfl)
              have hgy828 := up_n egy780 hgy827 (ne_o (i := i) (c := 17) (d := 20) rfl)
              have hgy829 := (hfvy790 (i + 17) (ne_o (i := i) (c := 17) (d := 0) rfl)).trans hgy828
              have hgy830 := up_n egy794 hgy829 (ne_o (i := i) (c := 17) (d := 0) rfl)
              have hgy831 := (hfvy32 (i + 18) (ne_o (i := i) (c := 18) (d := 0) rfl)).trans ha18
              have hgy832 := (hfvy34 (i + 18) (ne_o (i := i) (c := 18) (d := 0) rfl)).trans hgy831
              have hgy833 := (hfvy743 (i + 18) (ne_o (i := i) (c := 18) (d := 0) rfl)).trans hgy832
              have hgy834 := up_n egy748 hgy833 (ne_o (i := i) (c := 18) (d := 19) rfl)
              have hgy835 := up_n egy758 hgy834 (ne_o (i := i) (c := 18) (d := 20) rfl)
              have hgy836 := up_n egy769 hgy835 (ne_o (i := i) (c := 18) (d := 21) rfl)
              have hgy837 := up_n egy780 hgy836 (ne_o (i := i) (c := 18) (d := 20) rfl)
              have hgy838 := (hfvy790 (i + 18) (ne_o (i := i) (c := 18) (d := 0) rfl)).trans hgy837
              have hgy839 := up_n egy794 hgy838 (ne_o (i := i) (c := 18) (d := 0) rfl)
              have hgy840 := up_n egy758 hgy749 (ne_o (i := i) (c := 19) (d := 20) rfl)
              have hgy841 := up_n egy769 hgy840 (ne_o (i := i) (c := 19) (d := 21) rfl)
              have hgy842 := up_n egy780 hgy841 (ne_o (i := i) (c := 19) (d := 20) rfl)
              have hgy843 := (hfvy790 (i + 19) (ne_o (i := i) (c := 19) (d := 0) rfl)).trans hgy842
              have hgy844 := up_n egy794 hgy843 (ne_o (i := i) (c := 19) (d := 0) rfl)
              have hgy845 := up_n egy794 hgy791 (ne_o (i := i) (c := 20) (d := 0) rfl)
              have hgy846 := up_n egy780 hgy770 (ne_o (i := i) (c := 21) (d := 20) rfl)
              have hgy847 := (hfvy790 (i + 21) (ne_o (i := i) (c := 21) (d := 0) rfl)).trans hgy846
              have hgy848 := up_n egy794 hgy847 (ne_o (i := i) (c := 21) (d := 0) rfl)
              have hgy849 := (hfvy32 (i + 22) (ne_o (i := i) (c := 22) (d := 0) rfl)).trans ha22
              have hgy850 := (hfvy34 (i + 22) (ne_o (i := i) (c := 22) (d := 0) rfl)).trans hgy849
              have hgy851 := (hfvy743 (i + 22) (ne_o (i := i) (c := 22) (d := 0) rfl)).trans hgy850
              have hgy852 := up_n egy748 hgy851 (ne_o (i := i) (c := 22) (d := 19) rfl)
              have hgy853 := up_n egy758 hgy852 (ne_o (i := i) (c := 22) (d := 20) rfl)
              have hgy854 := up_n egy769 hgy853 (ne_o (i := i) (c := 22) (d := 21) rfl)
              have hgy855 := up_n egy780 hgy854 (ne_o (i := i) (c := 22) (d := 20) rfl)
              have hgy856 := (hfvy790 (i + 22) (ne_o (i := i) (c := 22) (d := 0) rfl)).trans hgy855
              have hgy857 := up_n egy794 hgy856 (ne_o (i := i) (c := 22) (d := 0) rfl)
              have hgy858 := (hfvy32 (i + 23) (ne_o (i := i) (c := 23) (d := 0) rfl)).trans ha23
              have hgy859 := (hfvy34 (i + 23) (ne_o (i := i) (c := 23) (d := 0) rfl)).trans hgy858
              have hgy860 := (hfvy743 (i + 23) (ne_o (i := i) (c := 23) (d := 0) rfl)).trans hgy859
              have hgy861 := up_n egy748 hgy860 (ne_o (i := i) (c := 23) (d := 19) rfl)
              have hgy862 := up_n egy758 hgy861 (ne_o (i := i) (c := 23) (d := 20) rfl)
              have hgy863 := up_n egy769 hgy862 (ne_o (i := i) (c := 23) (d := 21) rfl)
              have hgy864 := up_n egy780 hgy863 (ne_o (i := i) (c := 23) (d := 20) rfl)
              have hgy865 := (hfvy790 (i + 23) (ne_o (i := i) (c := 23) (d := 0) rfl)).trans hgy864
              have hgy866 := up_n egy794 hgy865 (ne_o (i := i) (c := 23) (d := 0) rfl)
              have htxy867 : okTx cs gy793 i (uZ Fvy790 48 ((F 48) + 1)) := ⟨_, _, _, _, _, _, _, _, ⟨hgy821, hgy830, hgy839, hgy844, hgy845, hgy848, hgy857, hgy866⟩, ⟨⟨by omega, by omega, by omega⟩, hop1, hmn1, haky804, haky807, htb1, hlay812⟩⟩
              exact z_vret C hr hlk dX10_hour1_207 (by decide) (by decide) ⟨rfl, rfl, rfl, ⟨_, hgy795, (RD.put hdvy790 (by decide)), by omega, by omega, hFy796, htxy867⟩, fun j j1 j2 => by rw [egy794, va_up_ne _ _ (by omega)]; rw [hfvy790 _ (by omega)]; rw [egy780, va_up_ne _ _ (by omega)]; rw [egy769, va_up_ne _ _ (by omega)]; rw [egy758, va_up_ne _ _ (by omega)]; rw [egy748, va_up_ne _ _ (by omega)]; rw [hfvy743 _ (by omega)]; rw [hfvy34 _ (by omega)]; rw [hfvy32 _ (by omega)]⟩
            · refine z_aload_n C 2 dX10_hour1_181 rfl ?_
              refine z_get (v := .ref (ad (i + 21))) C (by omega) hay1 hcvy790 rfl inA_X10 44 (by decide) q_1503 rfl rfl dX10_hour1_182 ?_
              refine z_aload_n C 2 dX10_hour1_185 rfl ?_
              refine z_get (v := .int (zI (F 48))) C (by omega) hay1 hcvy790 rfl inA_X10 48 (by decide) q_1507 rfl (fv (F := Fvy790) (f := 48) ((hFvy790 48 (by decide) (by decide) (by decide) (by decide) (by decide)).trans ((hFvy743 48 (by decide) (by decide) (by decide) (by decide) (by decide) (by decide) (by decide)).trans ((hFvy34 48 (by decide) (by decide) (by decide) (by decide) (by decide)).trans (hFvy32 48 (by decide) (by decide)))))) dX10_hour1_186 ?_
              refine z_aload_n C 2 dX10_hour1_189 rfl ?_
              refine z_iconst (z := 1) C dX10_hour1_190 rfl ?_
              refine z_bipush (z := 50) C dX10_hour1_191 (by decide) ?_
              have hgy868 := (hfvy790 (i + 13) (ne_o (i := i) (c := 13) (d := 0) rfl)).trans hgy789
              refine z_cV (As := [.int (zI (1)), .int (zI (50))]) (rest := [.int (zI (F 48)), .ref (ad (i + 21))]) (ci := 12) C (c_X10_number l D A cs tt N ad _ i hN _ hcvy790 _ hgy868 htp hdvy790 (1) (by omega) (50) (by omega)) (by omega) hay1 hcvy790 rfl rfl mv_yX10_number q_1682 hd_yX10_number (by decide) (Nat.le_of_ble_eq_true rfl) (by decide) dX10_hour1_193 rfl (kI0 fun vy869 gvy869 hvy869 => ?_)
              obtain ⟨hrvy869, ⟨Fvy869, hcvy869, hdvy869, hlvy869, hsvy869, hFvy869⟩, hfvy869⟩ := hvy869
              rw [show Fvy790 32 = Fvy790 32 from rfl] at hlvy869
              rw [show Fvy790 38 = 0 from ((hFvy790 38 (by decide) (by decide) (by decide) (by decide) (by decide)).trans hxvy743), show Fvy790 35 = Fvy790 35 from rfl] at hsvy869
              have h34vy869 : Fvy869 34 = F 34 := (hFvy869 34 (by decide) (by decide) (by decide) (by decide) (by decide) (by decide) (by decide)).trans (((hFvy790 34 (by decide) (by decide) (by decide) (by decide) (by decide)).trans ((hFvy743 34 (by decide) (by decide) (by decide) (by decide) (by decide) (by decide) (by decide)).trans ((hFvy34 34 (by decide) (by decide) (by decide) (by decide) (by decide)).trans (hFvy32 34 (by decide) (by decide))))))
              obtain ⟨d32vy869, -, d35vy869, d36vy869, -, d37vy869, d38vy869⟩ := id hdvy869
              clear hsvy869
              have hgy870 := up_n egy780 hgy770 (ne_o (i := i) (c := 21) (d := 20) rfl)
              have hgy871 := (hfvy790 (i + 21) (ne_o (i := i) (c := 21) (d := 0) rfl)).trans hgy870
              have hgy872 := (hfvy869 (i + 21) (ne_o (i := i) (c := 21) (d := 0) rfl)).trans hgy871
              refine z_iast C (by omega) hay8 hgy872 ((F 48).toNat) (by omega) (by omega) (by decide) dX10_hour1_196 (fun gy873 egy874 => ?_)
              have hgy875 := up_s egy874
              obtain ⟨ry876, hvy877⟩ : ∃ rZ9 : Nat → Int, rZ9 = uZ ry771 ((F 48).toNat) (vy869) := ⟨_, rfl⟩
              rw [← hvy877] at hgy875
              refine z_aload_n C 2 dX10_hour1_197 rfl ?_
              refine z_dup C dX10_hour1_198 rfl ?_
              have hgy878 := up_n egy874 hcvy869 (ne_o (i := i) (c := 0) (d := 21) rfl)
              refine z_get (v := .int (zI (F 48))) C (by omega) hay1 hgy878 rfl inA_X10 48 (by decide) q_1507 rfl (fv (F := Fvy869) (f := 48) ((hFvy869 48 (by decide) (by decide) (by decide) (by decide) (by decide) (by decide) (by decide)).trans ((hFvy790 48 (by decide) (by decide) (by decide) (by decide) (by decide)).trans ((hFvy743 48 (by decide) (by decide) (by decide) (by decide) (by decide) (by decide) (by decide)).trans ((hFvy34 48 (by decide) (by decide) (by decide) (by decide) (by decide)).trans (hFvy32 48 (by decide) (by decide))))))) dX10_hour1_199 ?_
              refine z_iconst (z := 1) C dX10_hour1_202 rfl ?_
              refine z_iadd C dX10_hour1_203 ?_
              refine z_put (fs' := mF ad (i) (uZ Fvy869 48 ((F 48) + 1))) C (by omega) hay1 hgy878 tyX10 tyX10_ok nmX10 rfl inA_X10 48 (by decide) q_1507 rfl rfl rfl rfl (Nat.le_of_ble_eq_true rfl) rfl dX10_hour1_204 (fun gy879 egy880 => ?_)
              have hgy881 := up_s egy880
              have hFy882 : ∀ f, f ≠ 24 → f ≠ 32 → f ≠ 33 → f ≠ 35 → f ≠ 36 → f ≠ 37 → f ≠ 38 → f ≠ 47 → f ≠ 48 → f ≠ 49 → (uZ Fvy869 48 ((F 48) + 1)) f = F f := fun f n24 n32 n33 n35 n36 n37 n38 n47 n48 n49 => ((uZ_n _ _ n48).trans ((hFvy869 f n24 n32 n33 n35 n36 n37 n38).trans ((hFvy790 f n32 n33 n35 n36 n37).trans ((hFvy743 f n24 n32 n33 n35 n36 n37 n38).trans ((hFvy34 f n32 n33 n35 n36 n37).trans (hFvy32 f n24 n38))))))
              have hey883 : (uZ Fvy869 48 ((F 48) + 1)) 32 = Fvy869 32 := (fn rfl (by decide))
              have hey884 : (uZ Fvy869 48 ((F 48) + 1)) 35 = Fvy869 35 := (fn rfl (by decide))
              have hey885 : (uZ Fvy869 48 ((F 48) + 1)) 38 = Fvy869 38 := (fn rfl (by decide))
              have hey886 : (uZ Fvy869 48 ((F 48) + 1)) 32 = Fvy869 32 := (fn rfl (by decide))
              have hey887 : (uZ Fvy869 48 ((F 48) + 1)) 47 = F 47 := (fn ((hFvy869 47 (by decide) (by decide) (by decide) (by decide) (by decide) (by decide) (by decide)).trans ((hFvy790 47 (by decide) (by decide) (by decide) (by decide) (by decide)).trans ((hFvy743 47 (by decide) (by decide) (by decide) (by decide) (by decide) (by decide) (by decide)).trans ((hFvy34 47 (by decide) (by decide) (by decide) (by decide) (by decide)).trans (hFvy32 47 (by decide) (by decide)))))) (by decide))
              have hey888 : (uZ Fvy869 48 ((F 48) + 1)) 48 = (F 48) + 1 := (uZ_s _ _ _)
              have hey889 : (uZ Fvy869 48 ((F 48) + 1)) 49 = F 49 := (fn ((hFvy869 49 (by decide) (by decide) (by decide) (by decide) (by decide) (by decide) (by decide)).trans ((hFvy790 49 (by decide) (by decide) (by decide) (by decide) (by decide)).trans ((hFvy743 49 (by decide) (by decide) (by decide) (by decide) (by decide) (by decide) (by decide)).trans ((hFvy34 49 (by decide) (by decide) (by decide) (by decide) (by decide)).trans (hFvy32 49 (by decide) (by decide)))))) (by decide))
              have hfry891 : ∀ j, j ≠ (F 48).toNat → ry750 j = ai1 j := fun j n0 => (congrFun hvy751 _).trans ((uZ_n _ _ n0).trans (rfl))
              have hwy892 : ry750 ((F 48).toNat) = vy743 := (congrFun hvy751 _).trans (uZ_s _ _ _)
              have haky890 : ∀ k, k < 24 → -300 ≤ ry750 k ∧ ry750 k ≤ 100 := by
                intro k hk
                by_cases e : k = (F 48).toNat
                · rw [e]; have hk0 := hai1 ((F 48).toNat) (by omega); omega
                · have hk0 := hai1 k hk; rw [hfry891 k e]; exact hk0
              have hfry894 : ∀ j, j ≠ (F 48).toNat → ry782 j = fa1 j := fun j n0 => (congrFun hvy783 _).trans ((uZ_n _ _ n0).trans ((congrFun hvy761 _).trans ((uZ_n _ _ n0).trans (rfl))))
              have hfry895 : ∀ j, j ≠ (F 48).toNat → ry876 j = mu1 j := fun j n0 => (congrFun hvy877 _).trans ((uZ_n _ _ n0).trans ((congrFun hvy772 _).trans ((uZ_n _ _ n0).trans (rfl))))
              have hwy896 : ry782 ((F 48).toNat) = ((Fvy743 37) - 3) + 1 := (congrFun hvy783 _).trans (uZ_s _ _ _)
              have hwy897 : ry876 ((F 48).toNat) = vy869 := (congrFun hvy877 _).trans (uZ_s _ _ _)
              have haky893 : ∀ k, k < 24 → (0 ≤ ry782 k ∧ ry782 k ≤ 3) ∧ (0 ≤ ry876 k ∧ ry876 k ≤ 50) ∧ (ry782 k = 1 ∨ ry782 k = 2 → 1 ≤ ry876 k) := by
                intro k hk
                by_cases e : k = (F 48).toNat
                · rw [e]; have hk0 := hfa1 ((F 48).toNat) (by omega); omega
                · have hk0 := hfa1 k hk; rw [hfry894 k e]; rw [hfry895 k e]; exact hk0
              have hlay898 : ∀ s l : Nat, (s : Int) < (uZ Fvy869 48 ((F 48) + 1)) 47 → (l : Int) < mn1 s → lyT ly1 (84 * s + 7 * l) := fun s l a1 a2 => hly1 s l (by omega) a2
              have hgy899 := (hfvy32 (i + 16) (ne_o (i := i) (c := 16) (d := 0) rfl)).trans ha16
              have hgy900 := (hfvy34 (i + 16) (ne_o (i := i) (c := 16) (d := 0) rfl)).trans hgy899
              have hgy901 := (hfvy743 (i + 16) (ne_o (i := i) (c := 16) (d := 0) rfl)).trans hgy900
              have hgy902 := up_n egy748 hgy901 (ne_o (i := i) (c := 16) (d := 19) rfl)
              have hgy903 := up_n egy758 hgy902 (ne_o (i := i) (c := 16) (d := 20) rfl)
              have hgy904 := up_n egy769 hgy903 (ne_o (i := i) (c := 16) (d := 21) rfl)
              have hgy905 := up_n egy780 hgy904 (ne_o (i := i) (c := 16) (d := 20) rfl)
              have hgy906 := (hfvy790 (i + 16) (ne_o (i := i) (c := 16) (d := 0) rfl)).trans hgy905
              have hgy907 := (hfvy869 (i + 16) (ne_o (i := i) (c := 16) (d := 0) rfl)).trans hgy906
              have hgy908 := up_n egy874 hgy907 (ne_o (i := i) (c := 16) (d := 21) rfl)
              have hgy909 := up_n egy880 hgy908 (ne_o (i := i) (c := 16) (d := 0) rfl)
              have hgy910 := (hfvy32 (i + 17) (ne_o (i := i) (c := 17) (d := 0) rfl)).trans ha17
              have hgy911 := (hfvy34 (i + 17) (ne_o (i := i) (c := 17) (d := 0) rfl)).trans hgy910
              have hgy912 := (hfvy743 (i + 17) (ne_o (i := i) (c := 17) (d := 0) rfl)).trans hgy911
              have hgy913 := up_n egy748 hgy912 (ne_o (i := i) (c := 17) (d := 19) rfl)
              have hgy914 := up_n egy758 hgy913 (ne_o (i := i) (c := 17) (d := 20) rfl)
              have hgy915 := up_n egy769 hgy914 (ne_o (i := i) (c := 17) (d := 21) rfl)
              have hgy916 := up_n egy780 hgy915 (ne_o (i := i) (c := 17) (d := 20) rfl)
              have hgy917 := (hfvy790 (i + 17) (ne_o (i := i) (c := 17) (d := 0) rfl)).trans hgy916
              have hgy918 := (hfvy869 (i + 17) (ne_o (i := i) (c := 17) (d := 0) rfl)).trans hgy917
              have hgy919 := up_n egy874 hgy918 (ne_o (i := i) (c := 17) (d := 21) rfl)
              have hgy920 := up_n egy880 hgy919 (ne_o (i := i) (c := 17) (d := 0) rfl)
              have hgy921 := (hfvy32 (i + 18) (ne_o (i := i) (c := 18) (d := 0) rfl)).trans ha18
              have hgy922 := (hfvy34 (i + 18) (ne_o (i := i) (c := 18) (d := 0) rfl)).trans hgy921
              have hgy923 := (hfvy743 (i + 18) (ne_o (i := i) (c := 18) (d := 0) rfl)).trans hgy922
              have hgy924 := up_n egy748 hgy923 (ne_o (i := i) (c := 18) (d := 19) rfl)
              have hgy925 := up_n egy758 hgy924 (ne_o (i := i) (c := 18) (d := 20) rfl)
              have hgy926 := up_n egy769 hgy925 (ne_o (i := i) (c := 18) (d := 21) rfl)
              have hgy927 := up_n egy780 hgy926 (ne_o (i := i) (c := 18) (d := 20) rfl)
              have hgy928 := (hfvy790 (i + 18) (ne_o (i := i) (c := 18) (d := 0) rfl)).trans hgy927
              have hgy929 := (hfvy869 (i + 18) (ne_o (i := i) (c := 18) (d := 0) rfl)).trans hgy928
              have hgy930 := up_n egy874 hgy929 (ne_o (i := i) (c := 18) (d := 21) rfl)
              have hgy931 := up_n egy880 hgy930 (ne_o (i := i) (c := 18) (d := 0) rfl)
              have hgy932 := up_n egy758 hgy749 (ne_o (i := i) (c := 19) (d := 20) rfl)
              have hgy933 := up_n egy769 hgy932 (ne_o (i := i) (c := 19) (d := 21) rfl)
              have hgy934 := up_n egy780 hgy933 (ne_o (i := i) (c := 19) (d := 20) rfl)
              have hgy935 := (hfvy790 (i + 19) (ne_o (i := i) (c := 19) (d := 0) rfl)).trans hgy934
              have hgy936 := (hfvy869 (i + 19) (ne_o (i := i) (c := 19) (d := 0) rfl)).trans hgy935
              have hgy937 := up_n egy874 hgy936 (ne_o (i := i) (c := 19) (d := 21) rfl)
              have hgy938 := up_n egy880 hgy937 (ne_o (i := i) (c := 19) (d := 0) rfl)
              have hgy939 := (hfvy869 (i + 20) (ne_o (i := i) (c := 20) (d := 0) rfl)).trans hgy791
              have hgy940 := up_n egy874 hgy939 (ne_o (i := i) (c := 20) (d := 21) rfl)
              have hgy941 := up_n egy880 hgy940 (ne_o (i := i) (c := 20) (d := 0) rfl)
              have hgy942 := up_n egy880 hgy875 (ne_o (i := i) (c := 21) (d := 0) rfl)
              have hgy943 := (hfvy32 (i + 22) (ne_o (i := i) (c := 22) (d := 0) rfl)).trans ha22
              have hgy944 := (hfvy34 (i + 22) (ne_o (i := i) (c := 22) (d := 0) rfl)).trans hgy943
              have hgy945 := (hfvy743 (i + 22) (ne_o (i := i) (c := 22) (d := 0) rfl)).trans hgy944
              have hgy946 := up_n egy748 hgy945 (ne_o (i := i) (c := 22) (d := 19) rfl)
              have hgy947 := up_n egy758 hgy946 (ne_o (i := i) (c := 22) (d := 20) rfl)
              have hgy948 := up_n egy769 hgy947 (ne_o (i := i) (c := 22) (d := 21) rfl)
              have hgy949 := up_n egy780 hgy948 (ne_o (i := i) (c := 22) (d := 20) rfl)
              have hgy950 := (hfvy790 (i + 22) (ne_o (i := i) (c := 22) (d := 0) rfl)).trans hgy949
              have hgy951 := (hfvy869 (i + 22) (ne_o (i := i) (c := 22) (d := 0) rfl)).trans hgy950
              have hgy952 := up_n egy874 hgy951 (ne_o (i := i) (c := 22) (d := 21) rfl)
              have hgy953 := up_n egy880 hgy952 (ne_o (i := i) (c := 22) (d := 0) rfl)
              have hgy954 := (hfvy32 (i + 23) (ne_o (i := i) (c := 23) (d := 0) rfl)).trans ha23
              have hgy955 := (hfvy34 (i + 23) (ne_o (i := i) (c := 23) (d := 0) rfl)).trans hgy954
              have hgy956 := (hfvy743 (i + 23) (ne_o (i := i) (c := 23) (d := 0) rfl)).trans hgy955
              have hgy957 := up_n egy748 hgy956 (ne_o (i := i) (c := 23) (d := 19) rfl)
              have hgy958 := up_n egy758 hgy957 (ne_o (i := i) (c := 23) (d := 20) rfl)
              have hgy959 := up_n egy769 hgy958 (ne_o (i := i) (c := 23) (d := 21) rfl)
              have hgy960 := up_n egy780 hgy959 (ne_o (i := i) (c := 23) (d := 20) rfl)
              have hgy961 := (hfvy790 (i + 23) (ne_o (i := i) (c := 23) (d := 0) rfl)).trans hgy960
              have hgy962 := (hfvy869 (i + 23) (ne_o (i := i) (c := 23) (d := 0) rfl)).trans hgy961
              have hgy963 := up_n egy874 hgy962 (ne_o (i := i) (c := 23) (d := 21) rfl)
              have hgy964 := up_n egy880 hgy963 (ne_o (i := i) (c := 23) (d := 0) rfl)
              have htxy965 : okTx cs gy879 i (uZ Fvy869 48 ((F 48) + 1)) := ⟨_, _, _, _, _, _, _, _, ⟨hgy909, hgy920, hgy931, hgy938, hgy941, hgy942, hgy953, hgy964⟩, ⟨⟨by omega, by omega, by omega⟩, hop1, hmn1, haky890, haky893, htb1, hlay898⟩⟩
              exact z_vret C hr hlk dX10_hour1_207 (by decide) (by decide) ⟨rfl, rfl, rfl, ⟨_, hgy881, (RD.put hdvy869 (by decide)), by omega, by omega, hFy882, htxy965⟩, fun j j1 j2 => by rw [egy880, va_up_ne _ _ (by omega)]; rw [egy874, va_up_ne _ _ (by omega)]; rw [hfvy869 _ (by omega)]; rw [hfvy790 _ (by omega)]; rw [egy780, va_up_ne _ _ (by omega)]; rw [egy769, va_up_ne _ _ (by omega)]; rw [egy758, va_up_ne _ _ (by omega)]; rw [egy748, va_up_ne _ _ (by omega)]; rw [hfvy743 _ (by omega)]; rw [hfvy34 _ (by omega)]; rw [hfvy32 _ (by omega)]⟩
          · clear hqvy774
            refine z_if_ne (tgt := 147) C dX10_hour1_128 (by decide) (by omega) (fun h => absurd h (by omega)) (fun _ => ?_)
            refine z_aload_n C 2 dX10_hour1_131 rfl ?_
            refine z_iconst (z := 4) C dX10_hour1_132 rfl ?_
            have hey967 : Fvy743 38 = 0 := hxvy743
            have hey968 : Fvy743 35 = Fvy743 35 := rfl
            have hey969 : Fvy743 37 = Fvy743 37 := rfl
            refine z_cV (As := [.int (zI (4))]) (rest := []) (ci := 12) C (c_X10_is l D A cs tt N ad _ i hN _ hgy773 hdvy743 (4) (by omega)) (by omega) hay1 hgy773 rfl rfl mv_yX10_is q_1705 hd_yX10_is (by decide) (Nat.le_of_ble_eq_true rfl) (by decide) dX10_hour1_133 rfl (kI0 fun vy966 gvy966 hvy966 => ?_)
            rw [hey967, hey968, hey969] at hvy966
            clear hey967 hey968 hey969
            obtain ⟨hrvy966, hqvy966, rfl⟩ := hvy966
            rcases (show vy966 = 1 ∨ vy966 = 0 by omega) with rfl | rfl
            · have hkvy966 := hqvy966 rfl
              clear hqvy966
              refine z_if_ne (tgt := 147) C dX10_hour1_136 (by decide) (by omega) (fun _ => ?_) (fun h => absurd h (by omega))
              refine z_aload_n C 2 dX10_hour1_147 rfl ?_
              refine z_get (v := .ref (ad (i + 20))) C (by omega) hay1 hgy773 rfl inA_X10 43 (by decide) q_1502 rfl rfl dX10_hour1_148 ?_
              refine z_aload_n C 2 dX10_hour1_151 rfl ?_
              refine z_get (v := .int (zI (F 48))) C (by omega) hay1 hgy773 rfl inA_X10 48 (by decide) q_1507 rfl (fv (F := Fvy743) (f := 48) ((hFvy743 48 (by decide) (by decide) (by decide) (by decide) (by decide) (by decide) (by decide)).trans ((hFvy34 48 (by decide) (by decide) (by decide) (by decide) (by decide)).trans (hFvy32 48 (by decide) (by decide))))) dX10_hour1_152 ?_
              refine z_aload_n C 2 dX10_hour1_155 rfl ?_
              refine z_get (v := .int (zI (Fvy743 37))) C (by omega) hay1 hgy773 rfl inA_X10 37 (by decide) q_1496 rfl (fv (F := Fvy743) (f := 37) rfl) dX10_hour1_156 ?_
              refine z_iconst (z := 3) C dX10_hour1_159 rfl ?_
              refine z_isub C dX10_hour1_160 ?_
              refine z_iconst (z := 1) C dX10_hour1_161 rfl ?_
              refine z_iadd C dX10_hour1_162 ?_
              have hgy970 := up_n egy769 hgy759 (ne_o (i := i) (c := 20) (d := 21) rfl)
              refine z_iast C (by omega) hay7 hgy970 ((F 48).toNat) (by omega) (by omega) (by decide) dX10_hour1_163 (fun gy971 egy972 => ?_)
              have hgy973 := up_s egy972
              obtain ⟨ry974, hvy975⟩ : ∃ rZ9 : Nat → Int, rZ9 = uZ ry760 ((F 48).toNat) (((Fvy743 37) - 3) + 1) := ⟨_, rfl⟩
              rw [← hvy975] at hgy973
              refine z_aload_n C 2 dX10_hour1_164 rfl ?_
              have hgy976 := up_n egy972 hgy773 (ne_o (i := i) (c := 0) (d := 20) rfl)
              have hgy977 := (hfvy743 (i + 13) (ne_o (i := i) (c := 13) (d := 0) rfl)).trans hgy742
              have hgy978 := up_n egy748 hgy977 (ne_o (i := i) (c := 13) (d := 19) rfl)
              have hgy979 := up_n egy758 hgy978 (ne_o (i := i) (c := 13) (d := 20) rfl)
              have hgy980 := up_n egy769 hgy979 (ne_o (i := i) (c := 13) (d := 21) rfl)
              have hgy981 := up_n egy972 hgy980 (ne_o (i := i) (c := 13) (d := 20) rfl)
              refine z_cV (As := []) (rest := []) (ci := 12) C (c_X10_go l D A cs tt N ad _ i hN _ hgy976 _ hgy981 htp hdvy743) (by omega) hay1 hgy976 rfl rfl mv_yX10_go q_1652 hd_yX10_go (by decide) (Nat.le_of_ble_eq_true rfl) (by decide) dX10_hour1_165 rfl (kV0 fun gvy982 hvy982 => ?_)
              obtain ⟨⟨Fvy982, hcvy982, hdvy982, hlvy982, hsvy982, hFvy982⟩, hfvy982⟩ := hvy982
              rw [show Fvy743 32 = Fvy743 32 from rfl] at hlvy982 hsvy982
              have h34vy982 : Fvy982 34 = F 34 := (hFvy982 34 (by decide) (by decide) (by decide) (by decide) (by decide)).trans (((hFvy743 34 (by decide) (by decide) (by decide) (by decide) (by decide) (by decide) (by decide)).trans ((hFvy34 34 (by decide) (by decide) (by decide) (by decide) (by decide)).trans (hFvy32 34 (by decide) (by decide)))))
              obtain ⟨d32vy982, -, d35vy982, d36vy982, -, d37vy982, d38vy982⟩ := id hdvy982
              have h38vy982 : Fvy982 38 = 0 := ((hFvy982 38 (by decide) (by decide) (by decide) (by decide) (by decide)).trans hxvy743)
              clear hsvy982
              refine z_aload_n C 2 dX10_hour1_168 rfl ?_
              refine z_get (v := .ref (ad (i + 20))) C (by omega) hay1 hcvy982 rfl inA_X10 43 (by decide) q_1502 rfl rfl dX10_hour1_169 ?_
              refine z_aload_n C 2 dX10_hour1_172 rfl ?_
              refine z_get (v := .int (zI (F 48))) C (by omega) hay1 hcvy982 rfl inA_X10 48 (by decide) q_1507 rfl (fv (F := Fvy982) (f := 48) ((hFvy982 48 (by decide) (by decide) (by decide) (by decide) (by decide)).trans ((hFvy743 48 (by decide) (by decide) (by decide) (by decide) (by decide) (by decide) (by decide)).trans ((hFvy34 48 (by decide) (by decide) (by decide) (by decide) (by decide)).trans (hFvy32 48 (by decide) (by decide)))))) dX10_hour1_173 ?_
              have hgy983 := (hfvy982 (i + 20) (ne_o (i := i) (c := 20) (d := 0) rfl)).trans hgy973
              refine z_iald C (by omega) hay7 hgy983 ((F 48).toNat) (by omega) (by omega) (by decide) dX10_hour1_176 ?_
              rw [show ry974 ((F 48).toNat) = ((Fvy743 37) - 3) + 1 from (congrFun hvy975 _).trans (uZ_s _ _ _)]
              refine z_iconst (z := 3) C dX10_hour1_177 rfl ?_
              refine z_icmp_ge (tgt := 197) C dX10_hour1_178 (by decide) (by omega) (by omega) (fun hby984 => ?_) (fun hby984 => ?_)
              · refine z_aload_n C 2 dX10_hour1_197 rfl ?_
                refine z_dup C dX10_hour1_198 rfl ?_
                refine z_get (v := .int (zI (F 48))) C (by omega) hay1 hcvy982 rfl inA_X10 48 (by decide) q_1507 rfl (fv (F := Fvy982) (f := 48) ((hFvy982 48 (by decide) (by decide) (by decide) (by decide) (by decide)).trans ((hFvy743 48 (by decide) (by decide) (by decide) (by decide) (by decide) (by decide) (by decide)).trans ((hFvy34 48 (by decide) (by decide) (by decide) (by decide) (by decide)).trans (hFvy32 48 (by decide) (by decide)))))) dX10_hour1_199 ?_
                refine z_iconst (z := 1) C dX10_hour1_202 rfl ?_
                refine z_iadd C dX10_hour1_203 ?_
                refine z_put (fs' := mF ad (i) (uZ Fvy982 48 ((F 48) + 1))) C (by omega) hay1 hcvy982 tyX10 tyX10_ok nmX10 rfl inA_X10 48 (by decide) q_1507 rfl rfl rfl rfl (Nat.le_of_ble_eq_true rfl) rfl dX10_hour1_204 (fun gy985 egy986 => ?_)
                have hgy987 := up_s egy986
                have hFy988 : ∀ f, f ≠ 24 → f ≠ 32 → f ≠ 33 → f ≠ 35 → f ≠ 36 → f ≠ 37 → f ≠ 38 → f ≠ 47 → f ≠ 48 → f ≠ 49 → (uZ Fvy982 48 ((F 48) + 1)) f = F f := fun f n24 n32 n33 n35 n36 n37 n38 n47 n48 n49 => ((uZ_n _ _ n48).trans ((hFvy982 f n32 n33 n35 n36 n37).trans ((hFvy743 f n24 n32 n33 n35 n36 n37 n38).trans ((hFvy34 f n32 n33 n35 n36 n37).trans (hFvy32 f n24 n38)))))
                have hey989 : (uZ Fvy982 48 ((F 48) + 1)) 32 = Fvy982 32 := (fn rfl (by decide))
                have hey990 : (uZ Fvy982 48 ((F 48) + 1)) 35 = Fvy982 35 := (fn rfl (by decide))
                have hey991 : (uZ Fvy982 48 ((F 48) + 1)) 38 = 0 := (fn ((hFvy982 38 (by decide) (by decide) (by decide) (by decide) (by decide)).trans hxvy743) (by decide))
                have hey992 : (uZ Fvy982 48 ((F 48) + 1)) 32 = Fvy982 32 := (fn rfl (by decide))
                have hey993 : (uZ Fvy982 48 ((F 48) + 1)) 47 = F 47 := (fn ((hFvy982 47 (by decide) (by decide) (by decide) (by decide) (by decide)).trans ((hFvy743 47 (by decide) (by decide) (by decide) (by decide) (by decide) (by decide) (by decide)).trans ((hFvy34 47 (by decide) (by decide) (by decide) (by decide) (by decide)).trans (hFvy32 47 (by decide) (by decide))))) (by decide))
                have hey994 : (uZ Fvy982 48 ((F 48) + 1)) 48 = (F 48) + 1 := (uZ_s _ _ _)
                have hey995 : (uZ Fvy982 48 ((F 48) + 1)) 49 = F 49 := (fn ((hFvy982 49 (by decide) (by decide) (by decide) (by decide) (by decide)).trans ((hFvy743 49 (by decide) (by decide) (by decide) (by decide) (by decide) (by decide) (by decide)).trans ((hFvy34 49 (by decide) (by decide) (by decide) (by decide) (by decide)).trans (hFvy32 49 (by decide) (by decide))))) (by decide))
                have hfry997 : ∀ j, j ≠ (F 48).toNat → ry750 j = ai1 j := fun j n0 => (congrFun hvy751 _).trans ((uZ_n _ _ n0).trans (rfl))
                have hwy998 : ry750 ((F 48).toNat) = vy743 := (congrFun hvy751 _).trans (uZ_s _ _ _)
                have haky996 : ∀ k, k < 24 → -300 ≤ ry750 k ∧ ry750 k ≤ 100 := by
                  intro k hk
                  by_cases e : k = (F 48).toNat
                  · rw [e]; have hk0 := hai1 ((F 48).toNat) (by omega); omega
                  · have hk0 := hai1 k hk; rw [hfry997 k e]; exact hk0
                have hfry1000 : ∀ j, j ≠ (F 48).toNat → ry974 j = fa1 j := fun j n0 => (congrFun hvy975 _).trans ((uZ_n _ _ n0).trans ((congrFun hvy761 _).trans ((uZ_n _ _ n0).trans (rfl))))
                have hfry1001 : ∀ j, j ≠ (F 48).toNat → ry771 j = mu1 j := fun j n0 => (congrFun hvy772 _).trans ((uZ_n _ _ n0).trans (rfl))
                have hwy1002 : ry974 ((F 48).toNat) = ((Fvy743 37) - 3) + 1 := (congrFun hvy975 _).trans (uZ_s _ _ _)
                have hwy1003 : ry771 ((F 48).toNat) = 0 := (congrFun hvy772 _).trans (uZ_s _ _ _)
                have haky999 : ∀ k, k < 24 → (0 ≤ ry974 k ∧ ry974 k ≤ 3) ∧ (0 ≤ ry771 k ∧ ry771 k ≤ 50) ∧ (ry974 k = 1 ∨ ry974 k = 2 → 1 ≤ ry771 k) := by
                  intro k hk
                  by_cases e : k = (F 48).toNat
                  · rw [e]; have hk0 := hfa1 ((F 48).toNat) (by omega); omega
                  · have hk0 := hfa1 k hk; rw [hfry1000 k e]; rw [hfry1001 k e]; exact hk0
                have hlay1004 : ∀ s l : Nat, (s : Int) < (uZ Fvy982 48 ((F 48) + 1)) 47 → (l : Int) < mn1 s → lyT ly1 (84 * s + 7 * l) := fun s l a1 a2 => hly1 s l (by omega) a2
                have hgy1005 := (hfvy32 (i + 16) (ne_o (i := i) (c := 16) (d := 0) rfl)).trans ha16
                have hgy1006 := (hfvy34 (i + 16) (ne_o (i := i) (c := 16) (d := 0) rfl)).trans hgy1005
                have hgy1007 := (hfvy743 (i + 16) (ne_o (i := i) (c := 16) (d := 0) rfl)).trans hgy1006
                have hgy1008 := up_n egy748 hgy1007 (ne_o (i := i) (c := 16) (d := 19) rfl)
                have hgy1009 := up_n egy758 hgy1008 (ne_o (i := i) (c := 16) (d := 20) rfl)
                have hgy1010 := up_n egy769 hgy1009 (ne_o (i := i) (c := 16) (d := 21) rfl)
                have hgy1011 := up_n egy972 hgy1010 (ne_o (i := i) (c := 16) (d := 20) rfl)
                have hgy1012 := (hfvy982 (i + 16) (ne_o (i := i) (c := 16) (d := 0) rfl)).trans hgy1011
                have hgy1013 := up_n egy986 hgy1012 (ne_o (i := i) (c := 16) (d := 0) rfl)
                have hgy1014 := (hfvy32 (i + 17) (ne_o (i := i) (c := 17) (d := 0) rfl)).trans ha17
                have hgy1015 := (hfvy34 (i + 17) (ne_o (i := i) (c := 17) (d := 0) rfl)).trans hgy1014
                have hgy1016 := (hfvy743 (i + 17) (ne_o (i := i) (c := 17) (d := 0) rfl)).trans hgy1015
                have hgy1017 := up_n egy748 hgy1016 (ne_o (i := i) (c := 17) (d := 19) rfl)
                have hgy1018 := up_n egy758 hgy1017 (ne_o (i := i) (c := 17) (d := 20) rfl)
                have hgy1019 := up_n egy769 hgy1018 (ne_o (i := i) (c := 17) (d := 21) rfl)
                have hgy1020 := up_n egy972 hgy1019 (ne_o (i := i) (c := 17) (d := 20) rfl)
                have hgy1021 := (hfvy982 (i + 17) (ne_o (i := i) (c := 17) (d := 0) rfl)).trans hgy1020
                have hgy1022 := up_n egy986 hgy1021 (ne_o (i := i) (c := 17) (d := 0) rfl)
                have hgy1023 := (hfvy32 (i + 18) (ne_o (i := i) (c := 18) (d := 0) rfl)).trans ha18
                have hgy1024 := (hfvy34 (i + 18) (ne_o (i := i) (c := 18) (d := 0) rfl)).trans hgy1023
                have hgy1025 := (hfvy743 (i + 18) (ne_o (i := i) (c := 18) (d := 0) rfl)).trans hgy1024
                have hgy1026 := up_n egy748 hgy1025 (ne_o (i := i) (c := 18) (d := 19) rfl)
                have hgy1027 := up_n egy758 hgy1026 (ne_o (i := i) (c := 18) (d := 20) rfl)
                have hgy1028 := up_n egy769 hgy1027 (ne_o (i := i) (c := 18) (d := 21) rfl)
                have hgy1029 := up_n egy972 hgy1028 (ne_o (i := i) (c := 18) (d := 20) rfl)
                have hgy1030 := (hfvy982 (i + 18) (ne_o (i := i) (c := 18) (d := 0) rfl)).trans hgy1029
                have hgy1031 := up_n egy986 hgy1030 (ne_o (i := i) (c := 18) (d := 0) rfl)
                have hgy1032 := up_n egy758 hgy749 (ne_o (i := i) (c := 19) (d := 20) rfl)
                have hgy1033 := up_n egy769 hgy1032 (ne_o (i := i) (c := 19) (d := 21) rfl)
                have hgy1034 := up_n egy972 hgy1033 (ne_o (i := i) (c := 19) (d := 20) rfl)
                have hgy1035 := (hfvy982 (i + 19) (ne_o (i := i) (c := 19) (d := 0) rfl)).trans hgy1034
                have hgy1036 := up_n egy986 hgy1035 (ne_o (i := i) (c := 19) (d := 0) rfl)
                have hgy1037 := up_n egy986 hgy983 (ne_o (i := i) (c := 20) (d := 0) rfl)
                have hgy1038 := up_n egy972 hgy770 (ne_o (i := i) (c := 21) (d := 20) rfl)
                have hgy1039 := (hfvy982 (i + 21) (ne_o (i := i) (c := 21) (d := 0) rfl)).trans hgy1038
                have hgy1040 := up_n egy986 hgy1039 (ne_o (i := i) (c := 21) (d := 0) rfl)
                have hgy1041 := (hfvy32 (i + 22) (ne_o (i := i) (c := 22) (d := 0) rfl)).trans ha22
                have hgy1042 := (hfvy34 (i + 22) (ne_o (i := i) (c := 22) (d := 0) rfl)).trans hgy1041
                have hgy1043 := (hfvy743 (i + 22) (ne_o (i := i) (c := 22) (d := 0) rfl)).trans hgy1042
                have hgy1044 := up_n egy748 hgy1043 (ne_o (i := i) (c := 22) (d := 19) rfl)
                have hgy1045 := up_n egy758 hgy1044 (ne_o (i := i) (c := 22) (d := 20) rfl)
                have hgy1046 := up_n egy769 hgy1045 (ne_o (i := i) (c := 22) (d := 21) rfl)
                have hgy1047 := up_n egy972 hgy1046 (ne_o (i := i) (c := 22) (d := 20) rfl)
                have hgy1048 := (hfvy982 (i + 22) (ne_o (i := i) (c := 22) (d := 0) rfl)).trans hgy1047
                have hgy1049 := up_n egy986 hgy1048 (ne_o (i := i) (c := 22) (d := 0) rfl)
                have hgy1050 := (hfvy32 (i + 23) (ne_o (i := i) (c := 23) (d := 0) rfl)).trans ha23
                have hgy1051 := (hfvy34 (i + 23) (ne_o (i := i) (c := 23) (d := 0) rfl)).trans hgy1050
                have hgy1052 := (hfvy743 (i + 23) (ne_o (i := i) (c := 23) (d := 0) rfl)).trans hgy1051
                have hgy1053 := up_n egy748 hgy1052 (ne_o (i := i) (c := 23) (d := 19) rfl)
                have hgy1054 := up_n egy758 hgy1053 (ne_o (i := i) (c := 23) (d := 20) rfl)
                have hgy1055 := up_n egy769 hgy1054 (ne_o (i := i) (c := 23) (d := 21) rfl)
                have hgy1056 := up_n egy972 hgy1055 (ne_o (i := i) (c := 23) (d := 20) rfl)
                have hgy1057 := (hfvy982 (i + 23) (ne_o (i := i) (c := 23) (d := 0) rfl)).trans hgy1056
                have hgy1058 := up_n egy986 hgy1057 (ne_o (i := i) (c := 23) (d := 0) rfl)
                have htxy1059 : okTx cs gy985 i (uZ Fvy982 48 ((F 48) + 1)) := ⟨_, _, _, _, _, _, _, _, ⟨hgy1013, hgy1022, hgy1031, hgy1036, hgy1037, hgy1040, hgy1049, hgy1058⟩, ⟨⟨by omega, by omega, by omega⟩, hop1, hmn1, haky996, haky999, htb1, hlay1004⟩⟩
                exact z_vret C hr hlk dX10_hour1_207 (by decide) (by decide) ⟨rfl, rfl, rfl, ⟨_, hgy987, (RD.put hdvy982 (by decide)), by omega, by omega, hFy988, htxy1059⟩, fun j j1 j2 => by rw [egy986, va_up_ne _ _ (by omega)]; rw [hfvy982 _ (by omega)]; rw [egy972, va_up_ne _ _ (by omega)]; rw [egy769, va_up_ne _ _ (by omega)]; rw [egy758, va_up_ne _ _ (by omega)]; rw [egy748, va_up_ne _ _ (by omega)]; rw [hfvy743 _ (by omega)]; rw [hfvy34 _ (by omega)]; rw [hfvy32 _ (by omega)]⟩
              · refine z_aload_n C 2 dX10_hour1_181 rfl ?_
                refine z_get (v := .ref (ad (i + 21))) C (by omega) hay1 hcvy982 rfl inA_X10 44 (by decide) q_1503 rfl rfl dX10_hour1_182 ?_
                refine z_aload_n C 2 dX10_hour1_185 rfl ?_
                refine z_get (v := .int (zI (F 48))) C (by omega) hay1 hcvy982 rfl inA_X10 48 (by decide) q_1507 rfl (fv (F := Fvy982) (f := 48) ((hFvy982 48 (by decide) (by decide) (by decide) (by decide) (by decide)).trans ((hFvy743 48 (by decide) (by decide) (by decide) (by decide) (by decide) (by decide) (by decide)).trans ((hFvy34 48 (by decide) (by decide) (by decide) (by decide) (by decide)).trans (hFvy32 48 (by decide) (by decide)))))) dX10_hour1_186 ?_
                refine z_aload_n C 2 dX10_hour1_189 rfl ?_
                refine z_iconst (z := 1) C dX10_hour1_190 rfl ?_
                refine z_bipush (z := 50) C dX10_hour1_191 (by decide) ?_
                have hgy1060 := (hfvy982 (i + 13) (ne_o (i := i) (c := 13) (d := 0) rfl)).trans hgy981
                refine z_cV (As := [.int (zI (1)), .int (zI (50))]) (rest := [.int (zI (F 48)), .ref (ad (i + 21))]) (ci := 12) C (c_X10_number l D A cs tt N ad _ i hN _ hcvy982 _ hgy1060 htp hdvy982 (1) (by omega) (50) (by omega)) (by omega) hay1 hcvy982 rfl rfl mv_yX10_number q_1682 hd_yX10_number (by decide) (Nat.le_of_ble_eq_true rfl) (by decide) dX10_hour1_193 rfl (kI0 fun vy1061 gvy1061 hvy1061 => ?_)
                obtain ⟨hrvy1061, ⟨Fvy1061, hcvy1061, hdvy1061, hlvy1061, hsvy1061, hFvy1061⟩, hfvy1061⟩ := hvy1061
                rw [show Fvy982 32 = Fvy982 32 from rfl] at hlvy1061
                rw [show Fvy982 38 = 0 from ((hFvy982 38 (by decide) (by decide) (by decide) (by decide) (by decide)).trans hxvy743), show Fvy982 35 = Fvy982 35 from rfl] at hsvy1061
                have h34vy1061 : Fvy1061 34 = F 34 := (hFvy1061 34 (by decide) (by decide) (by decide) (by decide) (by decide) (by decide) (by decide)).trans (((hFvy982 34 (by decide) (by decide) (by decide) (by decide) (by decide)).trans ((hFvy743 34 (by decide) (by decide) (by decide) (by decide) (by decide) (by decide) (by decide)).trans ((hFvy34 34 (by decide) (by decide) (by decide) (by decide) (by decide)).trans (hFvy32 34 (by decide) (by decide))))))
                obtain ⟨d32vy1061, -, d35vy1061, d36vy1061, -, d37vy1061, d38vy1061⟩ := id hdvy1061
                clear hsvy1061
                have hgy1062 := up_n egy972 hgy770 (ne_o (i := i) (c := 21) (d := 20) rfl)
                have hgy1063 := (hfvy982 (i + 21) (ne_o (i := i) (c := 21) (d := 0) rfl)).trans hgy1062
                have hgy1064 := (hfvy1061 (i + 21) (ne_o (i := i) (c := 21) (d := 0) rfl)).trans hgy1063
                refine z_iast C (by omega) hay8 hgy1064 ((F 48).toNat) (by omega) (by omega) (by decide) dX10_hour1_196 (fun gy1065 egy1066 => ?_)
                have hgy1067 := up_s egy1066
                obtain ⟨ry1068, hvy1069⟩ : ∃ rZ9 : Nat → Int, rZ9 = uZ ry771 ((F 48).toNat) (vy1061) := ⟨_, rfl⟩
                rw [← hvy1069] at hgy1067
                refine z_aload_n C 2 dX10_hour1_197 rfl ?_
                refine z_dup C dX10_hour1_198 rfl ?_
                have hgy1070 := up_n egy1066 hcvy1061 (ne_o (i := i) (c := 0) (d := 21) rfl)
                refine z_get (v := .int (zI (F 48))) C (by omega) hay1 hgy1070 rfl inA_X10 48 (by decide) q_1507 rfl (fv (F := Fvy1061) (f := 48) ((hFvy1061 48 (by decide) (by decide) (by decide) (by decide) (by decide) (by decide) (by decide)).trans ((hFvy982 48 (by decide) (by decide) (by decide) (by decide) (by decide)).trans ((hFvy743 48 (by decide) (by decide) (by decide) (by decide) (by decide) (by decide) (by decide)).trans ((hFvy34 48 (by decide) (by decide) (by decide) (by decide) (by decide)).trans (hFvy32 48 (by decide) (by decide))))))) dX10_hour1_199 ?_
                refine z_iconst (z := 1) C dX10_hour1_202 rfl ?_
                refine z_iadd C dX10_hour1_203 ?_
                refine z_put (fs' := mF ad (i) (uZ Fvy1061 48 ((F 48) + 1))) C (by omega) hay1 hgy1070 tyX10 tyX10_ok nmX10 rfl inA_X10 48 (by decide) q_1507 rfl rfl rfl rfl (Nat.le_of_ble_eq_true rfl) rfl dX10_hour1_204 (fun gy1071 egy1072 => ?_)
                have hgy1073 := up_s egy1072
                have hFy1074 : ∀ f, f ≠ 24 → f ≠ 32 → f ≠ 33 → f ≠ 35 → f ≠ 36 → f ≠ 37 → f ≠ 38 → f ≠ 47 → f ≠ 48 → f ≠ 49 → (uZ Fvy1061 48 ((F 48) + 1)) f = F f := fun f n24 n32 n33 n35 n36 n37 n38 n47 n48 n49 => ((uZ_n _ _ n48).trans ((hFvy1061 f n24 n32 n33 n35 n36 n37 n38).trans ((hFvy982 f n32 n33 n35 n36 n37).trans ((hFvy743 f n24 n32 n33 n35 n36 n37 n38).trans ((hFvy34 f n32 n33 n35 n36 n37).trans (hFvy32 f n24 n38))))))
                have hey1075 : (uZ Fvy1061 48 ((F 48) + 1)) 32 = Fvy1061 32 := (fn rfl (by decide))
                have hey1076 : (uZ Fvy1061 48 ((F 48) + 1)) 35 = Fvy1061 35 := (fn rfl (by decide))
                have hey1077 : (uZ Fvy1061 48 ((F 48) + 1)) 38 = Fvy1061 38 := (fn rfl (by decide))
                have hey1078 : (uZ Fvy1061 48 ((F 48) + 1)) 32 = Fvy1061 32 := (fn rfl (by decide))
                have hey1079 : (uZ Fvy1061 48 ((F 48) + 1)) 47 = F 47 := (fn ((hFvy1061 47 (by decide) (by decide) (by decide) (by decide) (by decide) (by decide) (by decide)).trans ((hFvy982 47 (by decide) (by decide) (by decide) (by decide) (by decide)).trans ((hFvy743 47 (by decide) (by decide) (by decide) (by decide) (by decide) (by decide) (by decide)).trans ((hFvy34 47 (by decide) (by decide) (by decide) (by decide) (by decide)).trans (hFvy32 47 (by decide) (by decide)))))) (by decide))
                have hey1080 : (uZ Fvy1061 48 ((F 48) + 1)) 48 = (F 48) + 1 := (uZ_s _ _ _)
                have hey1081 : (uZ Fvy1061 48 ((F 48) + 1)) 49 = F 49 := (fn ((hFvy1061 49 (by decide) (by decide) (by decide) (by decide) (by decide) (by decide) (by decide)).trans ((hFvy982 49 (by decide) (by decide) (by decide) (by decide) (by decide)).trans ((hFvy743 49 (by decide) (by decide) (by decide) (by decide) (by decide) (by decide) (by decide)).trans ((hFvy34 49 (by decide) (by decide) (by decide) (by decide) (by decide)).trans (hFvy32 49 (by decide) (by decide)))))) (by decide))
                have hfry1083 : ∀ j, j ≠ (F 48).toNat → ry750 j = ai1 j := fun j n0 => (congrFun hvy751 _).trans ((uZ_n _ _ n0).trans (rfl))
                have hwy1084 : ry750 ((F 48).toNat) = vy743 := (congrFun hvy751 _).trans (uZ_s _ _ _)
                have haky1082 : ∀ k, k < 24 → -300 ≤ ry750 k ∧ ry750 k ≤ 100 := by
                  intro k hk
                  by_cases e : k = (F 48).toNat
                  · rw [e]; have hk0 := hai1 ((F 48).toNat) (by omega); omega
                  · have hk0 := hai1 k hk; rw [hfry1083 k e]; exact hk0
                have hfry1086 : ∀ j, j ≠ (F 48).toNat → ry974 j = fa1 j := fun j n0 => (congrFun hvy975 _).trans ((uZ_n _ _ n0).trans ((congrFun hvy761 _).trans ((uZ_n _ _ n0).trans (rfl))))
                have hfry1087 : ∀ j, j ≠ (F 48).toNat → ry1068 j = mu1 j := fun j n0 => (congrFun hvy1069 _).trans ((uZ_n _ _ n0).trans ((congrFun hvy772 _).trans ((uZ_n _ _ n0).trans (rfl))))
                have hwy1088 : ry974 ((F 48).toNat) = ((Fvy743 37) - 3) + 1 := (congrFun hvy975 _).trans (uZ_s _ _ _)
                have hwy1089 : ry1068 ((F 48).toNat) = vy1061 := (congrFun hvy1069 _).trans (uZ_s _ _ _)
                have haky1085 : ∀ k, k < 24 → (0 ≤ ry974 k ∧ ry974 k ≤ 3) ∧ (0 ≤ ry1068 k ∧ ry1068 k ≤ 50) ∧ (ry974 k = 1 ∨ ry974 k = 2 → 1 ≤ ry1068 k) := by
                  intro k hk
                  by_cases e : k = (F 48).toNat
                  · rw [e]; have hk0 := hfa1 ((F 48).toNat) (by omega); omega
                  · have hk0 := hfa1 k hk; rw [hfry1086 k e]; rw [hfry1087 k e]; exact hk0
                have hlay1090 : ∀ s l : Nat, (s : Int) < (uZ Fvy1061 48 ((F 48) + 1)) 47 → (l : Int) < mn1 s → lyT ly1 (84 * s + 7 * l) := fun s l a1 a2 => hly1 s l (by omega) a2
                have hgy1091 := (hfvy32 (i + 16) (ne_o (i := i) (c := 16) (d := 0) rfl)).trans ha16
                have hgy1092 := (hfvy34 (i + 16) (ne_o (i := i) (c := 16) (d := 0) rfl)).trans hgy1091
                have hgy1093 := (hfvy743 (i + 16) (ne_o (i := i) (c := 16) (d := 0) rfl)).trans hgy1092
                have hgy1094 := up_n egy748 hgy1093 (ne_o (i := i) (c := 16) (d := 19) rfl)
                have hgy1095 := up_n egy758 hgy1094 (ne_o (i := i) (c := 16) (d := 20) rfl)
                have hgy1096 := up_n egy769 hgy1095 (ne_o (i := i) (c := 16) (d := 21) rfl)
                have hgy1097 := up_n egy972 hgy1096 (ne_o (i := i) (c := 16) (d := 20) rfl)
                have hgy1098 := (hfvy982 (i + 16) (ne_o (i := i) (c := 16) (d := 0) rfl)).trans hgy1097
                have hgy1099 := (hfvy1061 (i + 16) (ne_o (i := i) (c := 16) (d := 0) rfl)).trans hgy1098
                have hgy1100 := up_n egy1066 hgy1099 (ne_o (i := i) (c := 16) (d := 21) rfl)
                have hgy1101 := up_n egy1072 hgy1100 (ne_o (i := i) (c := 16) (d := 0) rfl)
                have hgy1102 := (hfvy32 (i + 17) (ne_o (i := i) (c := 17) (d := 0) rfl)).trans ha17
                have hgy1103 := (hfvy34 (i + 17) (ne_o (i := i) (c := 17) (d := 0) rfl)).trans hgy1102
                have hgy1104 := (hfvy743 (i + 17) (ne_o (i := i) (c := 17) (d := 0) rfl)).trans hgy1103
                have hgy1105 := up_n egy748 hgy1104 (ne_o (i := i) (c := 17) (d := 19) rfl)
                have hgy1106 := up_n egy758 hgy1105 (ne_o (i := i) (c := 17) (d := 20) rfl)
                have hgy1107 := up_n egy769 hgy1106 (ne_o (i := i) (c := 17) (d := 21) rfl)
                have hgy1108 := up_n egy972 hgy1107 (ne_o (i := i) (c := 17) (d := 20) rfl)
                have hgy1109 := (hfvy982 (i + 17) (ne_o (i := i) (c := 17) (d := 0) rfl)).trans hgy1108
                have hgy1110 := (hfvy1061 (i + 17) (ne_o (i := i) (c := 17) (d := 0) rfl)).trans hgy1109
                have hgy1111 := up_n egy1066 hgy1110 (ne_o (i := i) (c := 17) (d := 21) rfl)
                have hgy1112 := up_n egy1072 hgy1111 (ne_o (i := i) (c := 17) (d := 0) rfl)
                have hgy1113 := (hfvy32 (i + 18) (ne_o (i := i) (c := 18) (d := 0) rfl)).trans ha18
                have hgy1114 := (hfvy34 (i + 18) (ne_o (i := i) (c := 18) (d := 0) rfl)).trans hgy1113
                have hgy1115 := (hfvy743 (i + 18) (ne_o (i := i) (c := 18) (d := 0) rfl)).trans hgy1114
                have hgy1116 := up_n egy748 hgy1115 (ne_o (i := i) (c := 18) (d := 19) rfl)
                have hgy1117 := up_n egy758 hgy1116 (ne_o (i := i) (c := 18) (d := 20) rfl)
                have hgy1118 := up_n egy769 hgy1117 (ne_o (i := i) (c := 18) (d := 21) rfl)
                have hgy1119 := up_n egy972 hgy1118 (ne_o (i := i) (c := 18) (d := 20) rfl)
                have hgy1120 := (hfvy982 (i + 18) (ne_o (i := i) (c := 18) (d := 0) rfl)).trans hgy1119
                have hgy1121 := (hfvy1061 (i + 18) (ne_o (i := i) (c := 18) (d := 0) rfl)).trans hgy1120
                have hgy1122 := up_n egy1066 hgy1121 (ne_o (i := i) (c := 18) (d := 21) rfl)
                have hgy1123 := up_n egy1072 hgy1122 (ne_o (i := i) (c := 18) (d := 0) rfl)
                have hgy1124 := up_n egy758 hgy749 (ne_o (i := i) (c := 19) (d := 20) rfl)
                have hgy1125 := up_n egy769 hgy1124 (ne_o (i := i) (c := 19) (d := 21) rfl)
                have hgy1126 := up_n egy972 hgy1125 (ne_o (i := i) (c := 19) (d := 20) rfl)
                have hgy1127 := (hfvy982 (i + 19) (ne_o (i := i) (c := 19) (d := 0) rfl)).trans hgy1126
                have hgy1128 := (hfvy1061 (i + 19) (ne_o (i := i) (c := 19) (d := 0) rfl)).trans hgy1127
                have hgy1129 := up_n egy1066 hgy1128 (ne_o (i := i) (c := 19) (d := 21) rfl)
                have hgy1130 := up_n egy1072 hgy1129 (ne_o (i := i) (c := 19) (d := 0) rfl)
                have hgy1131 := (hfvy1061 (i + 20) (ne_o (i := i) (c := 20) (d := 0) rfl)).trans hgy983
                have hgy1132 := up_n egy1066 hgy1131 (ne_o (i := i) (c := 20) (d := 21) rfl)
                have hgy1133 := up_n egy1072 hgy1132 (ne_o (i := i) (c := 20) (d := 0) rfl)
                have hgy1134 := up_n egy1072 hgy1067 (ne_o (i := i) (c := 21) (d := 0) rfl)
                have hgy1135 := (hfvy32 (i + 22) (ne_o (i := i) (c := 22) (d := 0) rfl)).trans ha22
                have hgy1136 := (hfvy34 (i + 22) (ne_o (i := i) (c := 22) (d := 0) rfl)).trans hgy1135
                have hgy1137 := (hfvy743 (i + 22) (ne_o (i := i) (c := 22) (d := 0) rfl)).trans hgy1136
                have hgy1138 := up_n egy748 hgy1137 (ne_o (i := i) (c := 22) (d := 19) rfl)
                have hgy1139 := up_n egy758 hgy1138 (ne_o (i := i) (c := 22) (d := 20) rfl)
                have hgy1140 := up_n egy769 hgy1139 (ne_o (i := i) (c := 22) (d := 21) rfl)
                have hgy1141 := up_n egy972 hgy1140 (ne_o (i := i) (c := 22) (d := 20) rfl)
                have hgy1142 := (hfvy982 (i + 22) (ne_o (i := i) (c := 22) (d := 0) rfl)).trans hgy1141
                have hgy1143 := (hfvy1061 (i + 22) (ne_o (i := i) (c := 22) (d := 0) rfl)).trans hgy1142
                have hgy1144 := up_n egy1066 hgy1143 (ne_o (i := i) (c := 22) (d := 21) rfl)
                have hgy1145 := up_n egy1072 hgy1144 (ne_o (i := i) (c := 22) (d := 0) rfl)
                have hgy1146 := (hfvy32 (i + 23) (ne_o (i := i) (c := 23) (d := 0) rfl)).trans ha23
                have hgy1147 := (hfvy34 (i + 23) (ne_o (i := i) (c := 23) (d := 0) rfl)).trans hgy1146
                have hgy1148 := (hfvy743 (i + 23) (ne_o (i := i) (c := 23) (d := 0) rfl)).trans hgy1147
                have hgy1149 := up_n egy748 hgy1148 (ne_o (i := i) (c := 23) (d := 19) rfl)
                have hgy1150 := up_n egy758 hgy1149 (ne_o (i := i) (c := 23) (d := 20) rfl)
                have hgy1151 := up_n egy769 hgy1150 (ne_o (i := i) (c := 23) (d := 21) rfl)
                have hgy1152 := up_n egy972 hgy1151 (ne_o (i := i) (c := 23) (d := 20) rfl)
                have hgy1153 := (hfvy982 (i + 23) (ne_o (i := i) (c := 23) (d := 0) rfl)).trans hgy1152
                have hgy1154 := (hfvy1061 (i + 23) (ne_o (i := i) (c := 23) (d := 0) rfl)).trans hgy1153
                have hgy1155 := up_n egy1066 hgy1154 (ne_o (i := i) (c := 23) (d := 21) rfl)
                have hgy1156 := up_n egy1072 hgy1155 (ne_o (i := i) (c := 23) (d := 0) rfl)
                have htxy1157 : okTx cs gy1071 i (uZ Fvy1061 48 ((F 48) + 1)) := ⟨_, _, _, _, _, _, _, _, ⟨hgy1101, hgy1112, hgy1123, hgy1130, hgy1133, hgy1134, hgy1145, hgy1156⟩, ⟨⟨by omega, by omega, by omega⟩, hop1, hmn1, haky1082, haky1085, htb1, hlay1090⟩⟩
                exact z_vret C hr hlk dX10_hour1_207 (by decide) (by decide) ⟨rfl, rfl, rfl, ⟨_, hgy1073, (RD.put hdvy1061 (by decide)), by omega, by omega, hFy1074, htxy1157⟩, fun j j1 j2 => by rw [egy1072, va_up_ne _ _ (by omega)]; rw [egy1066, va_up_ne _ _ (by omega)]; rw [hfvy1061 _ (by omega)]; rw [hfvy982 _ (by omega)]; rw [egy972, va_up_ne _ _ (by omega)]; rw [egy769, va_up_ne _ _ (by omega)]; rw [egy758, va_up_ne _ _ (by omega)]; rw [egy748, va_up_ne _ _ (by omega)]; rw [hfvy743 _ (by omega)]; rw [hfvy34 _ (by omega)]; rw [hfvy32 _ (by omega)]⟩
            · clear hqvy966
              refine z_if_ne (tgt := 147) C dX10_hour1_136 (by decide) (by omega) (fun h => absurd h (by omega)) (fun _ => ?_)
              refine z_aload_n C 2 dX10_hour1_139 rfl ?_
              refine z_iconst (z := 5) C dX10_hour1_140 rfl ?_
              have hey1159 : Fvy743 38 = 0 := hxvy743
              have hey1160 : Fvy743 35 = Fvy743 35 := rfl
              have hey1161 : Fvy743 37 = Fvy743 37 := rfl
              refine z_cV (As := [.int (zI (5))]) (rest := []) (ci := 12) C (c_X10_is l D A cs tt N ad _ i hN _ hgy773 hdvy743 (5) (by omega)) (by omega) hay1 hgy773 rfl rfl mv_yX10_is q_1705 hd_yX10_is (by decide) (Nat.le_of_ble_eq_true rfl) (by decide) dX10_hour1_141 rfl (kI0 fun vy1158 gvy1158 hvy1158 => ?_)
              rw [hey1159, hey1160, hey1161] at hvy1158
              clear hey1159 hey1160 hey1161
              obtain ⟨hrvy1158, hqvy1158, rfl⟩ := hvy1158
              rcases (show vy1158 = 1 ∨ vy1158 = 0 by omega) with rfl | rfl
              · have hkvy1158 := hqvy1158 rfl
                clear hqvy1158
                refine z_if_eq (tgt := 197) C dX10_hour1_144 (by decide) (by omega) (fun h => absurd h (by omega)) (fun _ => ?_)
                refine z_aload_n C 2 dX10_hour1_147 rfl ?_
                refine z_get (v := .ref (ad (i + 20))) C (by omega) hay1 hgy773 rfl inA_X10 43 (by decide) q_1502 rfl rfl dX10_hour1_148 ?_
                refine z_aload_n C 2 dX10_hour1_151 rfl ?_
                refine z_get (v := .int (zI (F 48))) C (by omega) hay1 hgy773 rfl inA_X10 48 (by decide) q_1507 rfl (fv (F := Fvy743) (f := 48) ((hFvy743 48 (by decide) (by decide) (by decide) (by decide) (by decide) (by decide) (by decide)).trans ((hFvy34 48 (by decide) (by decide) (by decide) (by decide) (by decide)).trans (hFvy32 48 (by decide) (by decide))))) dX10_hour1_152 ?_
                refine z_aload_n C 2 dX10_hour1_155 rfl ?_
                refine z_get (v := .int (zI (Fvy743 37))) C (by omega) hay1 hgy773 rfl inA_X10 37 (by decide) q_1496 rfl (fv (F := Fvy743) (f := 37) rfl) dX10_hour1_156 ?_
                refine z_iconst (z := 3) C dX10_hour1_159 rfl ?_
                refine z_isub C dX10_hour1_160 ?_
                refine z_iconst (z := 1) C dX10_hour1_161 rfl ?_
                refine z_iadd C dX10_hour1_162 ?_
                have hgy1162 := up_n egy769 hgy759 (ne_o (i := i) (c := 20) (d := 21) rfl)
                refine z_iast C (by omega) hay7 hgy1162 ((F 48).toNat) (by omega) (by omega) (by decide) dX10_hour1_163 (fun gy1163 egy1164 => ?_)
                have hgy1165 := up_s egy1164
                obtain ⟨ry1166, hvy1167⟩ : ∃ rZ9 : Nat → Int, rZ9 = uZ ry760 ((F 48).toNat) (((Fvy743 37) - 3) + 1) := ⟨_, rfl⟩
                rw [← hvy1167] at hgy1165
                refine z_aload_n C 2 dX10_hour1_164 rfl ?_
                have hgy1168 := up_n egy1164 hgy773 (ne_o (i := i) (c := 0) (d := 20) rfl)
                have hgy1169 := (hfvy743 (i + 13) (ne_o (i := i) (c := 13) (d := 0) rfl)).trans hgy742
                have hgy1170 := up_n egy748 hgy1169 (ne_o (i := i) (c := 13) (d := 19) rfl)
                have hgy1171 := up_n egy758 hgy1170 (ne_o (i := i) (c := 13) (d := 20) rfl)
                have hgy1172 := up_n egy769 hgy1171 (ne_o (i := i) (c := 13) (d := 21) rfl)
                have hgy1173 := up_n egy1164 hgy1172 (ne_o (i := i) (c := 13) (d := 20) rfl)
                refine z_cV (As := []) (rest := []) (ci := 12) C (c_X10_go l D A cs tt N ad _ i hN _ hgy1168 _ hgy1173 htp hdvy743) (by omega) hay1 hgy1168 rfl rfl mv_yX10_go q_1652 hd_yX10_go (by decide) (Nat.le_of_ble_eq_true rfl) (by decide) dX10_hour1_165 rfl (kV0 fun gvy1174 hvy1174 => ?_)
                obtain ⟨⟨Fvy1174, hcvy1174, hdvy1174, hlvy1174, hsvy1174, hFvy1174⟩, hfvy1174⟩ := hvy1174
                rw [show Fvy743 32 = Fvy743 32 from rfl] at hlvy1174 hsvy1174
                have h34vy1174 : Fvy1174 34 = F 34 := (hFvy1174 34 (by decide) (by decide) (by decide) (by decide) (by decide)).trans (((hFvy743 34 (by decide) (by decide) (by decide) (by decide) (by decide) (by decide) (by decide)).trans ((hFvy34 34 (by decide) (by decide) (by decide) (by decide) (by decide)).trans (hFvy32 34 (by decide) (by decide)))))
                obtain ⟨d32vy1174, -, d35vy1174, d36vy1174, -, d37vy1174, d38vy1174⟩ := id hdvy1174
                have h38vy1174 : Fvy1174 38 = 0 := ((hFvy1174 38 (by decide) (by decide) (by decide) (by decide) (by decide)).trans hxvy743)
                clear hsvy1174
                refine z_aload_n C 2 dX10_hour1_168 rfl ?_
                refine z_get (v := .ref (ad (i + 20))) C (by omega) hay1 hcvy1174 rfl inA_X10 43 (by decide) q_1502 rfl rfl dX10_hour1_169 ?_
                refine z_aload_n C 2 dX10_hour1_172 rfl ?_
                refine z_get (v := .int (zI (F 48))) C (by omega) hay1 hcvy1174 rfl inA_X10 48 (by decide) q_1507 rfl (fv (F := Fvy1174) (f := 48) ((hFvy1174 48 (by decide) (by decide) (by decide) (by decide) (by decide)).trans ((hFvy743 48 (by decide) (by decide) (by decide) (by decide) (by decide) (by decide) (by decide)).trans ((hFvy34 48 (by decide) (by decide) (by decide) (by decide) (by decide)).trans (hFvy32 48 (by decide) (by decide)))))) dX10_hour1_173 ?_
                have hgy1175 := (hfvy1174 (i + 20) (ne_o (i := i) (c := 20) (d := 0) rfl)).trans hgy1165
                refine z_iald C (by omega) hay7 hgy1175 ((F 48).toNat) (by omega) (by omega) (by decide) dX10_hour1_176 ?_
                rw [show ry1166 ((F 48).toNat) = ((Fvy743 37) - 3) + 1 from (congrFun hvy1167 _).trans (uZ_s _ _ _)]
                refine z_iconst (z := 3) C dX10_hour1_177 rfl ?_
                refine z_icmp_ge (tgt := 197) C dX10_hour1_178 (by decide) (by omega) (by omega) (fun hby1176 => ?_) (fun hby1176 => ?_)
                · refine z_aload_n C 2 dX10_hour1_197 rfl ?_
                  refine z_dup C dX10_hour1_198 rfl ?_
                  refine z_get (v := .int (zI (F 48))) C (by omega) hay1 hcvy1174 rfl inA_X10 48 (by decide) q_1507 rfl (fv (F := Fvy1174) (f := 48) ((hFvy1174 48 (by decide) (by decide) (by decide) (by decide) (by decide)).trans ((hFvy743 48 (by decide) (by decide) (by decide) (by decide) (by decide) (by decide) (by decide)).trans ((hFvy34 48 (by decide) (by decide) (by decide) (by decide) (by decide)).trans (hFvy32 48 (by decide) (by decide)))))) dX10_hour1_199 ?_
                  refine z_iconst (z := 1) C dX10_hour1_202 rfl ?_
                  refine z_iadd C dX10_hour1_203 ?_
                  refine z_put (fs' := mF ad (i) (uZ Fvy1174 48 ((F 48) + 1))) C (by omega) hay1 hcvy1174 tyX10 tyX10_ok nmX10 rfl inA_X10 48 (by decide) q_1507 rfl rfl rfl rfl (Nat.le_of_ble_eq_true rfl) rfl dX10_hour1_204 (fun gy1177 egy1178 => ?_)
                  have hgy1179 := up_s egy1178
                  have hFy1180 : ∀ f, f ≠ 24 → f ≠ 32 → f ≠ 33 → f ≠ 35 → f ≠ 36 → f ≠ 37 → f ≠ 38 → f ≠ 47 → f ≠ 48 → f ≠ 49 → (uZ Fvy1174 48 ((F 48) + 1)) f = F f := fun f n24 n32 n33 n35 n36 n37 n38 n47 n48 n49 => ((uZ_n _ _ n48).trans ((hFvy1174 f n32 n33 n35 n36 n37).trans ((hFvy743 f n24 n32 n33 n35 n36 n37 n38).trans ((hFvy34 f n32 n33 n35 n36 n37).trans (hFvy32 f n24 n38)))))
                  have hey1181 : (uZ Fvy1174 48 ((F 48) + 1)) 32 = Fvy1174 32 := (fn rfl (by decide))
                  have hey1182 : (uZ Fvy1174 48 ((F 48) + 1)) 35 = Fvy1174 35 := (fn rfl (by decide))
                  have hey1183 : (uZ Fvy1174 48 ((F 48) + 1)) 38 = 0 := (fn ((hFvy1174 38 (by decide) (by decide) (by decide) (by decide) (by decide)).trans hxvy743) (by decide))
                  have hey1184 : (uZ Fvy1174 48 ((F 48) + 1)) 32 = Fvy1174 32 := (fn rfl (by decide))
                  have hey1185 : (uZ Fvy1174 48 ((F 48) + 1)) 47 = F 47 := (fn ((hFvy1174 47 (by decide) (by decide) (by decide) (by decide) (by decide)).trans ((hFvy743 47 (by decide) (by decide) (by decide) (by decide) (by decide) (by decide) (by decide)).trans ((hFvy34 47 (by decide) (by decide) (by decide) (by decide) (by decide)).trans (hFvy32 47 (by decide) (by decide))))) (by decide))
                  have hey1186 : (uZ Fvy1174 48 ((F 48) + 1)) 48 = (F 48) + 1 := (uZ_s _ _ _)
                  have hey1187 : (uZ Fvy1174 48 ((F 48) + 1)) 49 = F 49 := (fn ((hFvy1174 49 (by decide) (by decide) (by decide) (by decide) (by decide)).trans ((hFvy743 49 (by decide) (by decide) (by decide) (by decide) (by decide) (by decide) (by decide)).trans ((hFvy34 49 (by decide) (by decide) (by decide) (by decide) (by decide)).trans (hFvy32 49 (by decide) (by decide))))) (by decide))
                  have hfry1189 : ∀ j, j ≠ (F 48).toNat → ry750 j = ai1 j := fun j n0 => (congrFun hvy751 _).trans ((uZ_n _ _ n0).trans (rfl))
                  have hwy1190 : ry750 ((F 48).toNat) = vy743 := (congrFun hvy751 _).trans (uZ_s _ _ _)
                  have haky1188 : ∀ k, k < 24 → -300 ≤ ry750 k ∧ ry750 k ≤ 100 := by
                    intro k hk
                    by_cases e : k = (F 48).toNat
                    · rw [e]; have hk0 := hai1 ((F 48).toNat) (by omega); omega
                    · have hk0 := hai1 k hk; rw [hfry1189 k e]; exact hk0
                  have hfry1192 : ∀ j, j ≠ (F 48).toNat → ry1166 j = fa1 j := fun j n0 => (congrFun hvy1167 _).trans ((uZ_n _ _ n0).trans ((congrFun hvy761 _).trans ((uZ_n _ _ n0).trans (rfl))))
                  have hfry1193 : ∀ j, j ≠ (F 48).toNat → ry771 j = mu1 j := fun j n0 => (congrFun hvy772 _).trans ((uZ_n _ _ n0).trans (rfl))
                  have hwy1194 : ry1166 ((F 48).toNat) = ((Fvy743 37) - 3) + 1 := (congrFun hvy1167 _).trans (uZ_s _ _ _)
                  have hwy1195 : ry771 ((F 48).toNat) = 0 := (congrFun hvy772 _).trans (uZ_s _ _ _)
                  have haky1191 : ∀ k, k < 24 → (0 ≤ ry1166 k ∧ ry1166 k ≤ 3) ∧ (0 ≤ ry771 k ∧ ry771 k ≤ 50) ∧ (ry1166 k = 1 ∨ ry1166 k = 2 → 1 ≤ ry771 k) := by
                    intro k hk
                    by_cases e : k = (F 48).toNat
                    · rw [e]; have hk0 := hfa1 ((F 48).toNat) (by omega); omega
                    · have hk0 := hfa1 k hk; rw [hfry1192 k e]; rw [hfry1193 k e]; exact hk0
                  have hlay1196 : ∀ s l : Nat, (s : Int) < (uZ Fvy1174 48 ((F 48) + 1)) 47 → (l : Int) < mn1 s → lyT ly1 (84 * s + 7 * l) := fun s l a1 a2 => hly1 s l (by omega) a2
                  have hgy1197 := (hfvy32 (i + 16) (ne_o (i := i) (c := 16) (d := 0) rfl)).trans ha16
                  have hgy1198 := (hfvy34 (i + 16) (ne_o (i := i) (c := 16) (d := 0) rfl)).trans hgy1197
                  have hgy1199 := (hfvy743 (i + 16) (ne_o (i := i) (c := 16) (d := 0) rfl)).trans hgy1198
                  have hgy1200 := up_n egy748 hgy1199 (ne_o (i := i) (c := 16) (d := 19) rfl)
                  have hgy1201 := up_n egy758 hgy1200 (ne_o (i := i) (c := 16) (d := 20) rfl)
                  have hgy1202 := up_n egy769 hgy1201 (ne_o (i := i) (c := 16) (d := 21) rfl)
                  have hgy1203 := up_n egy1164 hgy1202 (ne_o (i := i) (c := 16) (d := 20) rfl)
                  have hgy1204 := (hfvy1174 (i + 16) (ne_o (i := i) (c := 16) (d := 0) rfl)).trans hgy1203
                  have hgy1205 := up_n egy1178 hgy1204 (ne_o (i := i) (c := 16) (d := 0) rfl)
                  have hgy1206 := (hfvy32 (i + 17) (ne_o (i := i) (c := 17) (d := 0) rfl)).trans ha17
                  have hgy1207 := (hfvy34 (i + 17) (ne_o (i := i) (c := 17) (d := 0) rfl)).trans hgy1206
                  have hgy1208 := (hfvy743 (i + 17) (ne_o (i := i) (c := 17) (d := 0) rfl)).trans hgy1207
                  have hgy1209 := up_n egy748 hgy1208 (ne_o (i := i) (c := 17) (d := 19) rfl)
                  have hgy1210 := up_n egy758 hgy1209 (ne_o (i := i) (c := 17) (d := 20) rfl)
                  have hgy1211 := up_n egy769 hgy1210 (ne_o (i := i) (c := 17) (d := 21) rfl)
                  have hgy1212 := up_n egy1164 hgy1211 (ne_o (i := i) (c := 17) (d := 20) rfl)
                  have hgy1213 := (hfvy1174 (i + 17) (ne_o (i := i) (c := 17) (d := 0) rfl)).trans hgy1212
                  have hgy1214 := up_n egy1178 hgy1213 (ne_o (i := i) (c := 17) (d := 0) rfl)
                  have hgy1215 := (hfvy32 (i + 18) (ne_o (i := i) (c := 18) (d := 0) rfl)).trans ha18
                  have hgy1216 := (hfvy34 (i + 18) (ne_o (i := i) (c := 18) (d := 0) rfl)).trans hgy1215
                  have hgy1217 := (hfvy743 (i + 18) (ne_o (i := i) (c := 18) (d := 0) rfl)).trans hgy1216
                  have hgy1218 := up_n egy748 hgy1217 (ne_o (i := i) (c := 18) (d := 19) rfl)
                  have hgy1219 := up_n egy758 hgy1218 (ne_o (i := i) (c := 18) (d := 20) rfl)
                  have hgy1220 := up_n egy769 hgy1219 (ne_o (i := i) (c := 18) (d := 21) rfl)
                  have hgy1221 := up_n egy1164 hgy1220 (ne_o (i := i) (c := 18) (d := 20) rfl)
                  have hgy1222 := (hfvy1174 (i + 18) (ne_o (i := i) (c := 18) (d := 0) rfl)).trans hgy1221
                  have hgy1223 := up_n egy1178 hgy1222 (ne_o (i := i) (c := 18) (d := 0) rfl)
                  have hgy1224 := up_n egy758 hgy749 (ne_o (i := i) (c := 19) (d := 20) rfl)
                  have hgy1225 := up_n egy769 hgy1224 (ne_o (i := i) (c := 19) (d := 21) rfl)
                  have hgy1226 := up_n egy1164 hgy1225 (ne_o (i := i) (c := 19) (d := 20) rfl)
                  have hgy1227 := (hfvy1174 (i + 19) (ne_o (i := i) (c := 19) (d := 0) rfl)).trans hgy1226
                  have hgy1228 := up_n egy1178 hgy1227 (ne_o (i := i) (c := 19) (d := 0) rfl)
                  have hgy1229 := up_n egy1178 hgy1175 (ne_o (i := i) (c := 20) (d := 0) rfl)
                  have hgy1230 := up_n egy1164 hgy770 (ne_o (i := i) (c := 21) (d := 20) rfl)
                  have hgy1231 := (hfvy1174 (i + 21) (ne_o (i := i) (c := 21) (d := 0) rfl)).trans hgy1230
                  have hgy1232 := up_n egy1178 hgy1231 (ne_o (i := i) (c := 21) (d := 0) rfl)
                  have hgy1233 := (hfvy32 (i + 22) (ne_o (i := i) (c := 22) (d := 0) rfl)).trans ha22
                  have hgy1234 := (hfvy34 (i + 22) (ne_o (i := i) (c := 22) (d := 0) rfl)).trans hgy1233
                  have hgy1235 := (hfvy743 (i + 22) (ne_o (i := i) (c := 22) (d := 0) rfl)).trans hgy1234
                  have hgy1236 := up_n egy748 hgy1235 (ne_o (i := i) (c := 22) (d := 19) rfl)
                  have hgy1237 := up_n egy758 hgy1236 (ne_o (i := i) (c := 22) (d := 20) rfl)
                  have hgy1238 := up_n egy769 hgy1237 (ne_o (i := i) (c := 22) (d := 21) rfl)
                  have hgy1239 := up_n egy1164 hgy1238 (ne_o (i := i) (c := 22) (d := 20) rfl)
                  have hgy1240 := (hfvy1174 (i + 22) (ne_o (i := i) (c := 22) (d := 0) rfl)).trans hgy1239
                  have hgy1241 := up_n egy1178 hgy1240 (ne_o (i := i) (c := 22) (d := 0) rfl)
                  have hgy1242 := (hfvy32 (i + 23) (ne_o (i := i) (c := 23) (d := 0) rfl)).trans ha23
                  have hgy1243 := (hfvy34 (i + 23) (ne_o (i := i) (c := 23) (d := 0) rfl)).trans hgy1242
                  have hgy1244 := (hfvy743 (i + 23) (ne_o (i := i) (c := 23) (d := 0) rfl)).trans hgy1243
                  have hgy1245 := up_n egy748 hgy1244 (ne_o (i := i) (c := 23) (d := 19) rfl)
                  have hgy1246 := up_n egy758 hgy1245 (ne_o (i := i) (c := 23) (d := 20) rfl)
                  have hgy1247 := up_n egy769 hgy1246 (ne_o (i := i) (c := 23) (d := 21) rfl)
                  have hgy1248 := up_n egy1164 hgy1247 (ne_o (i := i) (c := 23) (d := 20) rfl)
                  have hgy1249 := (hfvy1174 (i + 23) (ne_o (i := i) (c := 23) (d := 0) rfl)).trans hgy1248
                  have hgy1250 := up_n egy1178 hgy1249 (ne_o (i := i) (c := 23) (d := 0) rfl)
                  have htxy1251 : okTx cs gy1177 i (uZ Fvy1174 48 ((F 48) + 1)) := ⟨_, _, _, _, _, _, _, _, ⟨hgy1205, hgy1214, hgy1223, hgy1228, hgy1229, hgy1232, hgy1241, hgy1250⟩, ⟨⟨by omega, by omega, by omega⟩, hop1, hmn1, haky1188, haky1191, htb1, hlay1196⟩⟩
                  exact z_vret C hr hlk dX10_hour1_207 (by decide) (by decide) ⟨rfl, rfl, rfl, ⟨_, hgy1179, (RD.put hdvy1174 (by decide)), by omega, by omega, hFy1180, htxy1251⟩, fun j j1 j2 => by rw [egy1178, va_up_ne _ _ (by omega)]; rw [hfvy1174 _ (by omega)]; rw [egy1164, va_up_ne _ _ (by omega)]; rw [egy769, va_up_ne _ _ (by omega)]; rw [egy758, va_up_ne _ _ (by omega)]; rw [egy748, va_up_ne _ _ (by omega)]; rw [hfvy743 _ (by omega)]; rw [hfvy34 _ (by omega)]; rw [hfvy32 _ (by omega)]⟩
                · refine z_aload_n C 2 dX10_hour1_181 rfl ?_
                  refine z_get (v := .ref (ad (i + 21))) C (by omega) hay1 hcvy1174 rfl inA_X10 44 (by decide) q_1503 rfl rfl dX10_hour1_182 ?_
                  refine z_aload_n C 2 dX10_hour1_185 rfl ?_
                  refine z_get (v := .int (zI (F 48))) C (by omega) hay1 hcvy1174 rfl inA_X10 48 (by decide) q_1507 rfl (fv (F := Fvy1174) (f := 48) ((hFvy1174 48 (by decide) (by decide) (by decide) (by decide) (by decide)).trans ((hFvy743 48 (by decide) (by decide) (by decide) (by decide) (by decide) (by decide) (by decide)).trans ((hFvy34 48 (by decide) (by decide) (by decide) (by decide) (by decide)).trans (hFvy32 48 (by decide) (by decide)))))) dX10_hour1_186 ?_
                  refine z_aload_n C 2 dX10_hour1_189 rfl ?_
                  refine z_iconst (z := 1) C dX10_hour1_190 rfl ?_
                  refine z_bipush (z := 50) C dX10_hour1_191 (by decide) ?_
                  have hgy1252 := (hfvy1174 (i + 13) (ne_o (i := i) (c := 13) (d := 0) rfl)).trans hgy1173
                  refine z_cV (As := [.int (zI (1)), .int (zI (50))]) (rest := [.int (zI (F 48)), .ref (ad (i + 21))]) (ci := 12) C (c_X10_number l D A cs tt N ad _ i hN _ hcvy1174 _ hgy1252 htp hdvy1174 (1) (by omega) (50) (by omega)) (by omega) hay1 hcvy1174 rfl rfl mv_yX10_number q_1682 hd_yX10_number (by decide) (Nat.le_of_ble_eq_true rfl) (by decide) dX10_hour1_193 rfl (kI0 fun vy1253 gvy1253 hvy1253 => ?_)
                  obtain ⟨hrvy1253, ⟨Fvy1253, hcvy1253, hdvy1253, hlvy1253, hsvy1253, hFvy1253⟩, hfvy1253⟩ := hvy1253
                  rw [show Fvy1174 32 = Fvy1174 32 from rfl] at hlvy1253
                  rw [show Fvy1174 38 = 0 from ((hFvy1174 38 (by decide) (by decide) (by decide) (by decide) (by decide)).trans hxvy743), show Fvy1174 35 = Fvy1174 35 from rfl] at hsvy1253
                  have h34vy1253 : Fvy1253 34 = F 34 := (hFvy1253 34 (by decide) (by decide) (by decide) (by decide) (by decide) (by decide) (by decide)).trans (((hFvy1174 34 (by decide) (by decide) (by decide) (by decide) (by decide)).trans ((hFvy743 34 (by decide) (by decide) (by decide) (by decide) (by decide) (by decide) (by decide)).trans ((hFvy34 34 (by decide) (by decide) (by decide) (by decide) (by decide)).trans (hFvy32 34 (by decide) (by decide))))))
                  obtain ⟨d32vy1253, -, d35vy1253, d36vy1253, -, d37vy1253, d38vy1253⟩ := id hdvy1253
                  clear hsvy1253
                  have hgy1254 := up_n egy1164 hgy770 (ne_o (i := i) (c := 21) (d := 20) rfl)
                  have hgy1255 := (hfvy1174 (i + 21) (ne_o (i := i) (c := 21) (d := 0) rfl)).trans hgy1254
                  have hgy1256 := (hfvy1253 (i + 21) (ne_o (i := i) (c := 21) (d := 0) rfl)).trans hgy1255
                  refine z_iast C (by omega) hay8 hgy1256 ((F 48).toNat) (by omega) (by omega) (by decide) dX10_hour1_196 (fun gy1257 egy1258 => ?_)
                  have hgy1259 := up_s egy1258
                  obtain ⟨ry1260, hvy1261⟩ : ∃ rZ9 : Nat → Int, rZ9 = uZ ry771 ((F 48).toNat) (vy1253) := ⟨_, rfl⟩
                  rw [← hvy1261] at hgy1259
                  refine z_aload_n C 2 dX10_hour1_197 rfl ?_
                  refine z_dup C dX10_hour1_198 rfl ?_
                  have hgy1262 := up_n egy1258 hcvy1253 (ne_o (i := i) (c := 0) (d := 21) rfl)
                  refine z_get (v := .int (zI (F 48))) C (by omega) hay1 hgy1262 rfl inA_X10 48 (by decide) q_1507 rfl (fv (F := Fvy1253) (f := 48) ((hFvy1253 48 (by decide) (by decide) (by decide) (by decide) (by decide) (by decide) (by decide)).trans ((hFvy1174 48 (by decide) (by decide) (by decide) (by decide) (by decide)).trans ((hFvy743 48 (by decide) (by decide) (by decide) (by decide) (by decide) (by decide) (by decide)).trans ((hFvy34 48 (by decide) (by decide) (by decide) (by decide) (by decide)).trans (hFvy32 48 (by decide) (by decide))))))) dX10_hour1_199 ?_
                  refine z_iconst (z := 1) C dX10_hour1_202 rfl ?_
                  refine z_iadd C dX10_hour1_203 ?_
                  refine z_put (fs' := mF ad (i) (uZ Fvy1253 48 ((F 48) + 1))) C (by omega) hay1 hgy1262 tyX10 tyX10_ok nmX10 rfl inA_X10 48 (by decide) q_1507 rfl rfl rfl rfl (Nat.le_of_ble_eq_true rfl) rfl dX10_hour1_204 (fun gy1263 egy1264 => ?_)
                  have hgy1265 := up_s egy1264
                  have hFy1266 : ∀ f, f ≠ 24 → f ≠ 32 → f ≠ 33 → f ≠ 35 → f ≠ 36 → f ≠ 37 → f ≠ 38 → f ≠ 47 → f ≠ 48 → f ≠ 49 → (uZ Fvy1253 48 ((F 48) + 1)) f = F f := fun f n24 n32 n33 n35 n36 n37 n38 n47 n48 n49 => ((uZ_n _ _ n48).trans ((hFvy1253 f n24 n32 n33 n35 n36 n37 n38).trans ((hFvy1174 f n32 n33 n35 n36 n37).trans ((hFvy743 f n24 n32 n33 n35 n36 n37 n38).trans ((hFvy34 f n32 n33 n35 n36 n37).trans (hFvy32 f n24 n38))))))
                  have hey1267 : (uZ Fvy1253 48 ((F 48) + 1)) 32 = Fvy1253 32 := (fn rfl (by decide))
                  have hey1268 : (uZ Fvy1253 48 ((F 48) + 1)) 35 = Fvy1253 35 := (fn rfl (by decide))
                  have hey1269 : (uZ Fvy1253 48 ((F 48) + 1)) 38 = Fvy1253 38 := (fn rfl (by decide))
                  have hey1270 : (uZ Fvy1253 48 ((F 48) + 1)) 32 = Fvy1253 32 := (fn rfl (by decide))
                  have hey1271 : (uZ Fvy1253 48 ((F 48) + 1)) 47 = F 47 := (fn ((hFvy1253 47 (by decide) (by decide) (by decide) (by decide) (by decide) (by decide) (by decide)).trans ((hFvy1174 47 (by decide) (by decide) (by decide) (by decide) (by decide)).trans ((hFvy743 47 (by decide) (by decide) (by decide) (by decide) (by decide) (by decide) (by decide)).trans ((hFvy34 47 (by decide) (by decide) (by decide) (by decide) (by decide)).trans (hFvy32 47 (by decide) (by decide)))))) (by decide))
                  have hey1272 : (uZ Fvy1253 48 ((F 48) + 1)) 48 = (F 48) + 1 := (uZ_s _ _ _)
                  have hey1273 : (uZ Fvy1253 48 ((F 48) + 1)) 49 = F 49 := (fn ((hFvy1253 49 (by decide) (by decide) (by decide) (by decide) (by decide) (by decide) (by decide)).trans ((hFvy1174 49 (by decide) (by decide) (by decide) (by decide) (by decide)).trans ((hFvy743 49 (by decide) (by decide) (by decide) (by decide) (by decide) (by decide) (by decide)).trans ((hFvy34 49 (by decide) (by decide) (by decide) (by decide) (by decide)).trans (hFvy32 49 (by decide) (by decide)))))) (by decide))
                  have hfry1275 : ∀ j, j ≠ (F 48).toNat → ry750 j = ai1 j := fun j n0 => (congrFun hvy751 _).trans ((uZ_n _ _ n0).trans (rfl))
                  have hwy1276 : ry750 ((F 48).toNat) = vy743 := (congrFun hvy751 _).trans (uZ_s _ _ _)
                  have haky1274 : ∀ k, k < 24 → -300 ≤ ry750 k ∧ ry750 k ≤ 100 := by
                    intro k hk
                    by_cases e : k = (F 48).toNat
                    · rw [e]; have hk0 := hai1 ((F 48).toNat) (by omega); omega
                    · have hk0 := hai1 k hk; rw [hfry1275 k e]; exact hk0
                  have hfry1278 : ∀ j, j ≠ (F 48).toNat → ry1166 j = fa1 j := fun j n0 => (congrFun hvy1167 _).trans ((uZ_n _ _ n0).trans ((congrFun hvy761 _).trans ((uZ_n _ _ n0).trans (rfl))))
                  have hfry1279 : ∀ j, j ≠ (F 48).toNat → ry1260 j = mu1 j := fun j n0 => (congrFun hvy1261 _).trans ((uZ_n _ _ n0).trans ((congrFun hvy772 _).trans ((uZ_n _ _ n0).trans (rfl))))
                  have hwy1280 : ry1166 ((F 48).toNat) = ((Fvy743 37) - 3) + 1 := (congrFun hvy1167 _).trans (uZ_s _ _ _)
                  have hwy1281 : ry1260 ((F 48).toNat) = vy1253 := (congrFun hvy1261 _).trans (uZ_s _ _ _)
                  have haky1277 : ∀ k, k < 24 → (0 ≤ ry1166 k ∧ ry1166 k ≤ 3) ∧ (0 ≤ ry1260 k ∧ ry1260 k ≤ 50) ∧ (ry1166 k = 1 ∨ ry1166 k = 2 → 1 ≤ ry1260 k) := by
                    intro k hk
                    by_cases e : k = (F 48).toNat
                    · rw [e]; have hk0 := hfa1 ((F 48).toNat) (by omega); omega
                    · have hk0 := hfa1 k hk; rw [hfry1278 k e]; rw [hfry1279 k e]; exact hk0
                  have hlay1282 : ∀ s l : Nat, (s : Int) < (uZ Fvy1253 48 ((F 48) + 1)) 47 → (l : Int) < mn1 s → lyT ly1 (84 * s + 7 * l) := fun s l a1 a2 => hly1 s l (by omega) a2
                  have hgy1283 := (hfvy32 (i + 16) (ne_o (i := i) (c := 16) (d := 0) rfl)).trans ha16
                  have hgy1284 := (hfvy34 (i + 16) (ne_o (i := i) (c := 16) (d := 0) rfl)).trans hgy1283
                  have hgy1285 := (hfvy743 (i + 16) (ne_o (i := i) (c := 16) (d := 0) rfl)).trans hgy1284
                  have hgy1286 := up_n egy748 hgy1285 (ne_o (i := i) (c := 16) (d := 19) rfl)
                  have hgy1287 := up_n egy758 hgy1286 (ne_o (i := i) (c := 16) (d := 20) rfl)
                  have hgy1288 := up_n egy769 hgy1287 (ne_o (i := i) (c := 16) (d := 21) rfl)
                  have hgy1289 := up_n egy1164 hgy1288 (ne_o (i := i) (c := 16) (d := 20) rfl)
                  have hgy1290 := (hfvy1174 (i + 16) (ne_o (i := i) (c := 16) (d := 0) rfl)).trans hgy1289
                  have hgy1291 := (hfvy1253 (i + 16) (ne_o (i := i) (c := 16) (d := 0) rfl)).trans hgy1290
                  have hgy1292 := up_n egy1258 hgy1291 (ne_o (i := i) (c := 16) (d := 21) rfl)
                  have hgy1293 := up_n egy1264 hgy1292 (ne_o (i := i) (c := 16) (d := 0) rfl)
                  have hgy1294 := (hfvy32 (i + 17) (ne_o (i := i) (c := 17) (d := 0) rfl)).trans ha17
                  have hgy1295 := (hfvy34 (i + 17) (ne_o (i := i) (c := 17) (d := 0) rfl)).trans hgy1294
                  have hgy1296 := (hfvy743 (i + 17) (ne_o (i := i) (c := 17) (d := 0) rfl)).trans hgy1295
                  have hgy1297 := up_n egy748 hgy1296 (ne_o (i := i) (c := 17) (d := 19) rfl)
                  have hgy1298 := up_n egy758 hgy1297 (ne_o (i := i) (c := 17) (d := 20) rfl)
                  have hgy1299 := up_n egy769 hgy1298 (ne_o (i := i) (c := 17) (d := 21) rfl)
                  have hgy1300 := up_n egy1164 hgy1299 (ne_o (i := i) (c := 17) (d := 20) rfl)
                  have hgy1301 := (hfvy1174 (i + 17) (ne_o (i := i) (c := 17) (d := 0) rfl)).trans hgy1300
                  have hgy1302 := (hfvy1253 (i + 17) (ne_o (i := i) (c := 17) (d := 0) rfl)).trans hgy1301
                  have hgy1303 := up_n egy1258 hgy1302 (ne_o (i := i) (c := 17) (d := 21) rfl)
                  have hgy1304 := up_n egy1264 hgy1303 (ne_o (i := i) (c := 17) (d := 0) rfl)
                  have hgy1305 := (hfvy32 (i + 18) (ne_o (i := i) (c := 18) (d := 0) rfl)).trans ha18
                  have hgy1306 := (hfvy34 (i + 18) (ne_o (i := i) (c := 18) (d := 0) rfl)).trans hgy1305
                  have hgy1307 := (hfvy743 (i + 18) (ne_o (i := i) (c := 18) (d := 0) rfl)).trans hgy1306
                  have hgy1308 := up_n egy748 hgy1307 (ne_o (i := i) (c := 18) (d := 19) rfl)
                  have hgy1309 := up_n egy758 hgy1308 (ne_o (i := i) (c := 18) (d := 20) rfl)
                  have hgy1310 := up_n egy769 hgy1309 (ne_o (i := i) (c := 18) (d := 21) rfl)
                  have hgy1311 := up_n egy1164 hgy1310 (ne_o (i := i) (c := 18) (d := 20) rfl)
                  have hgy1312 := (hfvy1174 (i + 18) (ne_o (i := i) (c := 18) (d := 0) rfl)).trans hgy1311
                  have hgy1313 := (hfvy1253 (i + 18) (ne_o (i := i) (c := 18) (d := 0) rfl)).trans hgy1312
                  have hgy1314 := up_n egy1258 hgy1313 (ne_o (i := i) (c := 18) (d := 21) rfl)
                  have hgy1315 := up_n egy1264 hgy1314 (ne_o (i := i) (c := 18) (d := 0) rfl)
                  have hgy1316 := up_n egy758 hgy749 (ne_o (i := i) (c := 19) (d := 20) rfl)
                  have hgy1317 := up_n egy769 hgy1316 (ne_o (i := i) (c := 19) (d := 21) rfl)
                  have hgy1318 := up_n egy1164 hgy1317 (ne_o (i := i) (c := 19) (d := 20) rfl)
                  have hgy1319 := (hfvy1174 (i + 19) (ne_o (i := i) (c := 19) (d := 0) rfl)).trans hgy1318
                  have hgy1320 := (hfvy1253 (i + 19) (ne_o (i := i) (c := 19) (d := 0) rfl)).trans hgy1319
                  have hgy1321 := up_n egy1258 hgy1320 (ne_o (i := i) (c := 19) (d := 21) rfl)
                  have hgy1322 := up_n egy1264 hgy1321 (ne_o (i := i) (c := 19) (d := 0) rfl)
                  have hgy1323 := (hfvy1253 (i + 20) (ne_o (i := i) (c := 20) (d := 0) rfl)).trans hgy1175
                  have hgy1324 := up_n egy1258 hgy1323 (ne_o (i := i) (c := 20) (d := 21) rfl)
                  have hgy1325 := up_n egy1264 hgy1324 (ne_o (i := i) (c := 20) (d := 0) rfl)
                  have hgy1326 := up_n egy1264 hgy1259 (ne_o (i := i) (c := 21) (d := 0) rfl)
                  have hgy1327 := (hfvy32 (i + 22) (ne_o (i := i) (c := 22) (d := 0) rfl)).trans ha22
                  have hgy1328 := (hfvy34 (i + 22) (ne_o (i := i) (c := 22) (d := 0) rfl)).trans hgy1327
                  have hgy1329 := (hfvy743 (i + 22) (ne_o (i := i) (c := 22) (d := 0) rfl)).trans hgy1328
                  have hgy1330 := up_n egy748 hgy1329 (ne_o (i := i) (c := 22) (d := 19) rfl)
                  have hgy1331 := up_n egy758 hgy1330 (ne_o (i := i) (c := 22) (d := 20) rfl)
                  have hgy1332 := up_n egy769 hgy1331 (ne_o (i := i) (c := 22) (d := 21) rfl)
                  have hgy1333 := up_n egy1164 hgy1332 (ne_o (i := i) (c := 22) (d := 20) rfl)
                  have hgy1334 := (hfvy1174 (i + 22) (ne_o (i := i) (c := 22) (d := 0) rfl)).trans hgy1333
                  have hgy1335 := (hfvy1253 (i + 22) (ne_o (i := i) (c := 22) (d := 0) rfl)).trans hgy1334
                  have hgy1336 := up_n egy1258 hgy1335 (ne_o (i := i) (c := 22) (d := 21) rfl)
                  have hgy1337 := up_n egy1264 hgy1336 (ne_o (i := i) (c := 22) (d := 0) rfl)
                  have hgy1338 := (hfvy32 (i + 23) (ne_o (i := i) (c := 23) (d := 0) rfl)).trans ha23
                  have hgy1339 := (hfvy34 (i + 23) (ne_o (i := i) (c := 23) (d := 0) rfl)).trans hgy1338
                  have hgy1340 := (hfvy743 (i + 23) (ne_o (i := i) (c := 23) (d := 0) rfl)).trans hgy1339
                  have hgy1341 := up_n egy748 hgy1340 (ne_o (i := i) (c := 23) (d := 19) rfl)
                  have hgy1342 := up_n egy758 hgy1341 (ne_o (i := i) (c := 23) (d := 20) rfl)
                  have hgy1343 := up_n egy769 hgy1342 (ne_o (i := i) (c := 23) (d := 21) rfl)
                  have hgy1344 := up_n egy1164 hgy1343 (ne_o (i := i) (c := 23) (d := 20) rfl)
                  have hgy1345 := (hfvy1174 (i + 23) (ne_o (i := i) (c := 23) (d := 0) rfl)).trans hgy1344
                  have hgy1346 := (hfvy1253 (i + 23) (ne_o (i := i) (c := 23) (d := 0) rfl)).trans hgy1345
                  have hgy1347 := up_n egy1258 hgy1346 (ne_o (i := i) (c := 23) (d := 21) rfl)
                  have hgy1348 := up_n egy1264 hgy1347 (ne_o (i := i) (c := 23) (d := 0) rfl)
                  have htxy1349 : okTx cs gy1263 i (uZ Fvy1253 48 ((F 48) + 1)) := ⟨_, _, _, _, _, _, _, _, ⟨hgy1293, hgy1304, hgy1315, hgy1322, hgy1325, hgy1326, hgy1337, hgy1348⟩, ⟨⟨by omega, by omega, by omega⟩, hop1, hmn1, haky1274, haky1277, htb1, hlay1282⟩⟩
                  exact z_vret C hr hlk dX10_hour1_207 (by decide) (by decide) ⟨rfl, rfl, rfl, ⟨_, hgy1265, (RD.put hdvy1253 (by decide)), by omega, by omega, hFy1266, htxy1349⟩, fun j j1 j2 => by rw [egy1264, va_up_ne _ _ (by omega)]; rw [egy1258, va_up_ne _ _ (by omega)]; rw [hfvy1253 _ (by omega)]; rw [hfvy1174 _ (by omega)]; rw [egy1164, va_up_ne _ _ (by omega)]; rw [egy769, va_up_ne _ _ (by omega)]; rw [egy758, va_up_ne _ _ (by omega)]; rw [egy748, va_up_ne _ _ (by omega)]; rw [hfvy743 _ (by omega)]; rw [hfvy34 _ (by omega)]; rw [hfvy32 _ (by omega)]⟩
              · clear hqvy1158
                refine z_if_eq (tgt := 197) C dX10_hour1_144 (by decide) (by omega) (fun _ => ?_) (fun h => absurd h (by omega))
                refine z_aload_n C 2 dX10_hour1_197 rfl ?_
                refine z_dup C dX10_hour1_198 rfl ?_
                refine z_get (v := .int (zI (F 48))) C (by omega) hay1 hgy773 rfl inA_X10 48 (by decide) q_1507 rfl (fv (F := Fvy743) (f := 48) ((hFvy743 48 (by decide) (by decide) (by decide) (by decide) (by decide) (by decide) (by decide)).trans ((hFvy34 48 (by decide) (by decide) (by decide) (by decide) (by decide)).trans (hFvy32 48 (by decide) (by decide))))) dX10_hour1_199 ?_
                refine z_iconst (z := 1) C dX10_hour1_202 rfl ?_
                refine z_iadd C dX10_hour1_203 ?_
                refine z_put (fs' := mF ad (i) (uZ Fvy743 48 ((F 48) + 1))) C (by omega) hay1 hgy773 tyX10 tyX10_ok nmX10 rfl inA_X10 48 (by decide) q_1507 rfl rfl rfl rfl (Nat.le_of_ble_eq_true rfl) rfl dX10_hour1_204 (fun gy1350 egy1351 => ?_)
                have hgy1352 := up_s egy1351
                have hFy1353 : ∀ f, f ≠ 24 → f ≠ 32 → f ≠ 33 → f ≠ 35 → f ≠ 36 → f ≠ 37 → f ≠ 38 → f ≠ 47 → f ≠ 48 → f ≠ 49 → (uZ Fvy743 48 ((F 48) + 1)) f = F f := fun f n24 n32 n33 n35 n36 n37 n38 n47 n48 n49 => ((uZ_n _ _ n48).trans ((hFvy743 f n24 n32 n33 n35 n36 n37 n38).trans ((hFvy34 f n32 n33 n35 n36 n37).trans (hFvy32 f n24 n38))))
                have hey1354 : (uZ Fvy743 48 ((F 48) + 1)) 32 = Fvy743 32 := (fn rfl (by decide))
                have hey1355 : (uZ Fvy743 48 ((F 48) + 1)) 35 = Fvy743 35 := (fn rfl (by decide))
                have hey1356 : (uZ Fvy743 48 ((F 48) + 1)) 38 = 0 := (fn hxvy743 (by decide))
                have hey1357 : (uZ Fvy743 48 ((F 48) + 1)) 32 = Fvy743 32 := (fn rfl (by decide))
                have hey1358 : (uZ Fvy743 48 ((F 48) + 1)) 47 = F 47 := (fn ((hFvy743 47 (by decide) (by decide) (by decide) (by decide) (by decide) (by decide) (by decide)).trans ((hFvy34 47 (by decide) (by decide) (by decide) (by decide) (by decide)).trans (hFvy32 47 (by decide) (by decide)))) (by decide))
                have hey1359 : (uZ Fvy743 48 ((F 48) + 1)) 48 = (F 48) + 1 := (uZ_s _ _ _)
                have hey1360 : (uZ Fvy743 48 ((F 48) + 1)) 49 = F 49 := (fn ((hFvy743 49 (by decide) (by decide) (by decide) (by decide) (by decide) (by decide) (by decide)).trans ((hFvy34 49 (by decide) (by decide) (by decide) (by decide) (by decide)).trans (hFvy32 49 (by decide) (by decide)))) (by decide))
                have hfry1362 : ∀ j, j ≠ (F 48).toNat → ry750 j = ai1 j := fun j n0 => (congrFun hvy751 _).trans ((uZ_n _ _ n0).trans (rfl))
                have hwy1363 : ry750 ((F 48).toNat) = vy743 := (congrFun hvy751 _).trans (uZ_s _ _ _)
                have haky1361 : ∀ k, k < 24 → -300 ≤ ry750 k ∧ ry750 k ≤ 100 := by
                  intro k hk
                  by_cases e : k = (F 48).toNat
                  · rw [e]; have hk0 := hai1 ((F 48).toNat) (by omega); omega
                  · have hk0 := hai1 k hk; rw [hfry1362 k e]; exact hk0
                have hfry1365 : ∀ j, j ≠ (F 48).toNat → ry760 j = fa1 j := fun j n0 => (congrFun hvy761 _).trans ((uZ_n _ _ n0).trans (rfl))
                have hfry1366 : ∀ j, j ≠ (F 48).toNat → ry771 j = mu1 j := fun j n0 => (congrFun hvy772 _).trans ((uZ_n _ _ n0).trans (rfl))
                have hwy1367 : ry760 ((F 48).toNat) = 0 := (congrFun hvy761 _).trans (uZ_s _ _ _)
                have hwy1368 : ry771 ((F 48).toNat) = 0 := (congrFun hvy772 _).trans (uZ_s _ _ _)
                have haky1364 : ∀ k, k < 24 → (0 ≤ ry760 k ∧ ry760 k ≤ 3) ∧ (0 ≤ ry771 k ∧ ry771 k ≤ 50) ∧ (ry760 k = 1 ∨ ry760 k = 2 → 1 ≤ ry771 k) := by
                  intro k hk
                  by_cases e : k = (F 48).toNat
                  · rw [e]; have hk0 := hfa1 ((F 48).toNat) (by omega); omega
                  · have hk0 := hfa1 k hk; rw [hfry1365 k e]; rw [hfry1366 k e]; exact hk0
                have hlay1369 : ∀ s l : Nat, (s : Int) < (uZ Fvy743 48 ((F 48) + 1)) 47 → (l : Int) < mn1 s → lyT ly1 (84 * s + 7 * l) := fun s l a1 a2 => hly1 s l (by omega) a2
                have hgy1370 := (hfvy32 (i + 16) (ne_o (i := i) (c := 16) (d := 0) rfl)).trans ha16
                have hgy1371 := (hfvy34 (i + 16) (ne_o (i := i) (c := 16) (d := 0) rfl)).trans hgy1370
                have hgy1372 := (hfvy743 (i + 16) (ne_o (i := i) (c := 16) (d := 0) rfl)).trans hgy1371
                have hgy1373 := up_n egy748 hgy1372 (ne_o (i := i) (c := 16) (d := 19) rfl)
                have hgy1374 := up_n egy758 hgy1373 (ne_o (i := i) (c := 16) (d := 20) rfl)
                have hgy1375 := up_n egy769 hgy1374 (ne_o (i := i) (c := 16) (d := 21) rfl)
                have hgy1376 := up_n egy1351 hgy1375 (ne_o (i := i) (c := 16) (d := 0) rfl)
                have hgy1377 := (hfvy32 (i + 17) (ne_o (i := i) (c := 17) (d := 0) rfl)).trans ha17
                have hgy1378 := (hfvy34 (i + 17) (ne_o (i := i) (c := 17) (d := 0) rfl)).trans hgy1377
                have hgy1379 := (hfvy743 (i + 17) (ne_o (i := i) (c := 17) (d := 0) rfl)).trans hgy1378
                have hgy1380 := up_n egy748 hgy1379 (ne_o (i := i) (c := 17) (d := 19) rfl)
                have hgy1381 := up_n egy758 hgy1380 (ne_o (i := i) (c := 17) (d := 20) rfl)
                have hgy1382 := up_n egy769 hgy1381 (ne_o (i := i) (c := 17) (d := 21) rfl)
                have hgy1383 := up_n egy1351 hgy1382 (ne_o (i := i) (c := 17) (d := 0) rfl)
                have hgy1384 := (hfvy32 (i + 18) (ne_o (i := i) (c := 18) (d := 0) rfl)).trans ha18
                have hgy1385 := (hfvy34 (i + 18) (ne_o (i := i) (c := 18) (d := 0) rfl)).trans hgy1384
                have hgy1386 := (hfvy743 (i + 18) (ne_o (i := i) (c := 18) (d := 0) rfl)).trans hgy1385
                have hgy1387 := up_n egy748 hgy1386 (ne_o (i := i) (c := 18) (d := 19) rfl)
                have hgy1388 := up_n egy758 hgy1387 (ne_o (i := i) (c := 18) (d := 20) rfl)
                have hgy1389 := up_n egy769 hgy1388 (ne_o (i := i) (c := 18) (d := 21) rfl)
                have hgy1390 := up_n egy1351 hgy1389 (ne_o (i := i) (c := 18) (d := 0) rfl)
                have hgy1391 := up_n egy758 hgy749 (ne_o (i := i) (c := 19) (d := 20) rfl)
                have hgy1392 := up_n egy769 hgy1391 (ne_o (i := i) (c := 19) (d := 21) rfl)
                have hgy1393 := up_n egy1351 hgy1392 (ne_o (i := i) (c := 19) (d := 0) rfl)
                have hgy1394 := up_n egy769 hgy759 (ne_o (i := i) (c := 20) (d := 21) rfl)
                have hgy1395 := up_n egy1351 hgy1394 (ne_o (i := i) (c := 20) (d := 0) rfl)
                have hgy1396 := up_n egy1351 hgy770 (ne_o (i := i) (c := 21) (d := 0) rfl)
                have hgy1397 := (hfvy32 (i + 22) (ne_o (i := i) (c := 22) (d := 0) rfl)).trans ha22
                have hgy1398 := (hfvy34 (i + 22) (ne_o (i := i) (c := 22) (d := 0) rfl)).trans hgy1397
                have hgy1399 := (hfvy743 (i + 22) (ne_o (i := i) (c := 22) (d := 0) rfl)).trans hgy1398
                have hgy1400 := up_n egy748 hgy1399 (ne_o (i := i) (c := 22) (d := 19) rfl)
                have hgy1401 := up_n egy758 hgy1400 (ne_o (i := i) (c := 22) (d := 20) rfl)
                have hgy1402 := up_n egy769 hgy1401 (ne_o (i := i) (c := 22) (d := 21) rfl)
                have hgy1403 := up_n egy1351 hgy1402 (ne_o (i := i) (c := 22) (d := 0) rfl)
                have hgy1404 := (hfvy32 (i + 23) (ne_o (i := i) (c := 23) (d := 0) rfl)).trans ha23
                have hgy1405 := (hfvy34 (i + 23) (ne_o (i := i) (c := 23) (d := 0) rfl)).trans hgy1404
                have hgy1406 := (hfvy743 (i + 23) (ne_o (i := i) (c := 23) (d := 0) rfl)).trans hgy1405
                have hgy1407 := up_n egy748 hgy1406 (ne_o (i := i) (c := 23) (d := 19) rfl)
                have hgy1408 := up_n egy758 hgy1407 (ne_o (i := i) (c := 23) (d := 20) rfl)
                have hgy1409 := up_n egy769 hgy1408 (ne_o (i := i) (c := 23) (d := 21) rfl)
                have hgy1410 := up_n egy1351 hgy1409 (ne_o (i := i) (c := 23) (d := 0) rfl)
                have htxy1411 : okTx cs gy1350 i (uZ Fvy743 48 ((F 48) + 1)) := ⟨_, _, _, _, _, _, _, _, ⟨hgy1376, hgy1383, hgy1390, hgy1393, hgy1395, hgy1396, hgy1403, hgy1410⟩, ⟨⟨by omega, by omega, by omega⟩, hop1, hmn1, haky1361, haky1364, htb1, hlay1369⟩⟩
                exact z_vret C hr hlk dX10_hour1_207 (by decide) (by decide) ⟨rfl, rfl, rfl, ⟨_, hgy1352, (RD.put hdvy743 (by decide)), by omega, by omega, hFy1353, htxy1411⟩, fun j j1 j2 => by rw [egy1351, va_up_ne _ _ (by omega)]; rw [egy769, va_up_ne _ _ (by omega)]; rw [egy758, va_up_ne _ _ (by omega)]; rw [egy748, va_up_ne _ _ (by omega)]; rw [hfvy743 _ (by omega)]; rw [hfvy34 _ (by omega)]; rw [hfvy32 _ (by omega)]⟩
        · clear hsvy743
          have hpvy743 : 1 ≤ Fvy743 38 := by omega
          clear hxvy743
          refine z_istore_n (lv' := [(2, .int (zI (vy743))), (1, .int (zI (0))), (0, .ref (ad i))]) C dX10_hour1_75 rfl (by decide) rfl ?_
          refine z_aload_n C 2 dX10_hour1_76 rfl ?_
          refine z_get (v := .int (zI (Fvy743 38))) C (by omega) hay1 hcvy743 rfl inA_X10 38 (by decide) q_1497 rfl (fv (F := Fvy743) (f := 38) rfl) dX10_hour1_77 ?_
          refine z_if_eq (tgt := 84) C dX10_hour1_80 (by decide) (by omega) (fun h => absurd h (by omega)) (fun _ => ?_)
          have hFy1412 : ∀ f, f ≠ 24 → f ≠ 32 → f ≠ 33 → f ≠ 35 → f ≠ 36 → f ≠ 37 → f ≠ 38 → f ≠ 47 → f ≠ 48 → f ≠ 49 → Fvy743 f = F f := fun f n24 n32 n33 n35 n36 n37 n38 n47 n48 n49 => ((hFvy743 f n24 n32 n33 n35 n36 n37 n38).trans ((hFvy34 f n32 n33 n35 n36 n37).trans (hFvy32 f n24 n38)))
          have hey1413 : Fvy743 32 = Fvy743 32 := rfl
          have hey1414 : Fvy743 35 = Fvy743 35 := rfl
          have hey1415 : Fvy743 38 = Fvy743 38 := rfl
          have hey1416 : Fvy743 32 = Fvy743 32 := rfl
          have hey1417 : Fvy743 47 = F 47 := ((hFvy743 47 (by decide) (by decide) (by decide) (by decide) (by decide) (by decide) (by decide)).trans ((hFvy34 47 (by decide) (by decide) (by decide) (by decide) (by decide)).trans (hFvy32 47 (by decide) (by decide))))
          have hey1418 : Fvy743 48 = F 48 := ((hFvy743 48 (by decide) (by decide) (by decide) (by decide) (by decide) (by decide) (by decide)).trans ((hFvy34 48 (by decide) (by decide) (by decide) (by decide) (by decide)).trans (hFvy32 48 (by decide) (by decide))))
          have hey1419 : Fvy743 49 = F 49 := ((hFvy743 49 (by decide) (by decide) (by decide) (by decide) (by decide) (by decide) (by decide)).trans ((hFvy34 49 (by decide) (by decide) (by decide) (by decide) (by decide)).trans (hFvy32 49 (by decide) (by decide))))
          have hlay1421 : ∀ s l : Nat, (s : Int) < Fvy743 47 → (l : Int) < mn1 s → lyT ly1 (84 * s + 7 * l) := fun s l a1 a2 => hly1 s l (by omega) a2
          have hgy1422 := (hfvy32 (i + 16) (ne_o (i := i) (c := 16) (d := 0) rfl)).trans ha16
          have hgy1423 := (hfvy34 (i + 16) (ne_o (i := i) (c := 16) (d := 0) rfl)).trans hgy1422
          have hgy1424 := (hfvy743 (i + 16) (ne_o (i := i) (c := 16) (d := 0) rfl)).trans hgy1423
          have hgy1425 := (hfvy32 (i + 17) (ne_o (i := i) (c := 17) (d := 0) rfl)).trans ha17
          have hgy1426 := (hfvy34 (i + 17) (ne_o (i := i) (c := 17) (d := 0) rfl)).trans hgy1425
          have hgy1427 := (hfvy743 (i + 17) (ne_o (i := i) (c := 17) (d := 0) rfl)).trans hgy1426
          have hgy1428 := (hfvy32 (i + 18) (ne_o (i := i) (c := 18) (d := 0) rfl)).trans ha18
          have hgy1429 := (hfvy34 (i + 18) (ne_o (i := i) (c := 18) (d := 0) rfl)).trans hgy1428
          have hgy1430 := (hfvy743 (i + 18) (ne_o (i := i) (c := 18) (d := 0) rfl)).trans hgy1429
          have hgy1431 := (hfvy32 (i + 19) (ne_o (i := i) (c := 19) (d := 0) rfl)).trans ha19
          have hgy1432 := (hfvy34 (i + 19) (ne_o (i := i) (c := 19) (d := 0) rfl)).trans hgy1431
          have hgy1433 := (hfvy743 (i + 19) (ne_o (i := i) (c := 19) (d := 0) rfl)).trans hgy1432
          have hgy1434 := (hfvy32 (i + 20) (ne_o (i := i) (c := 20) (d := 0) rfl)).trans ha20
          have hgy1435 := (hfvy34 (i + 20) (ne_o (i := i) (c := 20) (d := 0) rfl)).trans hgy1434
          have hgy1436 := (hfvy743 (i + 20) (ne_o (i := i) (c := 20) (d := 0) rfl)).trans hgy1435
          have hgy1437 := (hfvy32 (i + 21) (ne_o (i := i) (c := 21) (d := 0) rfl)).trans ha21
          have hgy1438 := (hfvy34 (i + 21) (ne_o (i := i) (c := 21) (d := 0) rfl)).trans hgy1437
          have hgy1439 := (hfvy743 (i + 21) (ne_o (i := i) (c := 21) (d := 0) rfl)).trans hgy1438
          have hgy1440 := (hfvy32 (i + 22) (ne_o (i := i) (c := 22) (d := 0) rfl)).trans ha22
          have hgy1441 := (hfvy34 (i + 22) (ne_o (i := i) (c := 22) (d := 0) rfl)).trans hgy1440
          have hgy1442 := (hfvy743 (i + 22) (ne_o (i := i) (c := 22) (d := 0) rfl)).trans hgy1441
          have hgy1443 := (hfvy32 (i + 23) (ne_o (i := i) (c := 23) (d := 0) rfl)).trans ha23
          have hgy1444 := (hfvy34 (i + 23) (ne_o (i := i) (c := 23) (d := 0) rfl)).trans hgy1443
          have hgy1445 := (hfvy743 (i + 23) (ne_o (i := i) (c := 23) (d := 0) rfl)).trans hgy1444
          have htxy1446 : okTx cs gvy743 i Fvy743 := ⟨_, _, _, _, _, _, _, _, ⟨hgy1424, hgy1427, hgy1430, hgy1433, hgy1436, hgy1439, hgy1442, hgy1445⟩, ⟨⟨by omega, by omega, by omega⟩, hop1, hmn1, hai1, hfa1, htb1, hlay1421⟩⟩
          exact z_vret C hr hlk dX10_hour1_83 (by decide) (by decide) ⟨rfl, rfl, rfl, ⟨_, hcvy743, hdvy743, by omega, by omega, hFy1412, htxy1446⟩, fun j j1 j2 => by rw [hfvy743 _ (by omega)]; rw [hfvy34 _ (by omega)]; rw [hfvy32 _ (by omega)]⟩
      · refine z_iconst (z := 1) C dX10_hour1_44 rfl ?_
        refine z_goto (tgt := 49) C dX10_hour1_45 (by decide) ?_
        refine z_istore_n (lv' := [(1, .int (zI (1))), (0, .ref (ad i))]) C dX10_hour1_49 rfl (by decide) rfl ?_
        refine z_iload_n C 0 dX10_hour1_50 rfl ?_
        refine z_if_eq (tgt := 58) C dX10_hour1_51 (by decide) (by omega) (fun h => absurd h (by omega)) (fun _ => ?_)
        refine z_aload_n C 1 dX10_hour1_54 rfl ?_
        have hgy1447 := (hfvy34 (i + 13) (ne_o (i := i) (c := 13) (d := 0) rfl)).trans hgy33
        refine z_cV (As := []) (rest := []) (ci := 12) C (c_X10_go l D A cs tt N ad _ i hN _ hcvy34 _ hgy1447 htp hdvy34) (by omega) hay1 hcvy34 rfl rfl mv_yX10_go q_1652 hd_yX10_go (by decide) (Nat.le_of_ble_eq_true rfl) (by decide) dX10_hour1_55 rfl (kV0 fun gvy1448 hvy1448 => ?_)
        obtain ⟨⟨Fvy1448, hcvy1448, hdvy1448, hlvy1448, hsvy1448, hFvy1448⟩, hfvy1448⟩ := hvy1448
        rw [show Fvy34 32 = Fvy34 32 from rfl] at hlvy1448 hsvy1448
        have h34vy1448 : Fvy1448 34 = F 34 := (hFvy1448 34 (by decide) (by decide) (by decide) (by decide) (by decide)).trans (((hFvy34 34 (by decide) (by decide) (by decide) (by decide) (by decide)).trans (hFvy32 34 (by decide) (by decide))))
        obtain ⟨d32vy1448, -, d35vy1448, d36vy1448, -, d37vy1448, d38vy1448⟩ := id hdvy1448
        have h38vy1448 : Fvy1448 38 = 0 := ((hFvy1448 38 (by decide) (by decide) (by decide) (by decide) (by decide)).trans ((hFvy34 38 (by decide) (by decide) (by decide) (by decide) (by decide)).trans e38vy32))
        clear hsvy1448
        refine z_aload_n C 1 dX10_hour1_58 rfl ?_
        refine z_iconst (z := 0) C dX10_hour1_59 rfl ?_
        refine z_iload_n C 0 dX10_hour1_60 rfl ?_
        refine z_if_eq (tgt := 70) C dX10_hour1_61 (by decide) (by omega) (fun h => absurd h (by omega)) (fun _ => ?_)
        refine z_sipush (z := 300) C dX10_hour1_64 (by decide) ?_
        refine z_goto (tgt := 72) C dX10_hour1_67 (by decide) ?_
        have hgy1449 := (hfvy1448 (i + 13) (ne_o (i := i) (c := 13) (d := 0) rfl)).trans hgy1447
        refine z_cV (As := [.int (zI (0)), .int (zI (300))]) (rest := []) (ci := 12) C (c_X10_number l D A cs tt N ad _ i hN _ hcvy1448 _ hgy1449 htp hdvy1448 (0) (by omega) (300) (by omega)) (by omega) hay1 hcvy1448 rfl rfl mv_yX10_number q_1682 hd_yX10_number (by decide) (Nat.le_of_ble_eq_true rfl) (by decide) dX10_hour1_72 rfl (kI0 fun vy1450 gvy1450 hvy1450 => ?_)
        obtain ⟨hrvy1450, ⟨Fvy1450, hcvy1450, hdvy1450, hlvy1450, hsvy1450, hFvy1450⟩, hfvy1450⟩ := hvy1450
        rw [show Fvy1448 32 = Fvy1448 32 from rfl] at hlvy1450
        rw [show Fvy1448 38 = 0 from ((hFvy1448 38 (by decide) (by decide) (by decide) (by decide) (by decide)).trans ((hFvy34 38 (by decide) (by decide) (by decide) (by decide) (by decide)).trans e38vy32)), show Fvy1448 35 = Fvy1448 35 from rfl] at hsvy1450
        have h34vy1450 : Fvy1450 34 = F 34 := (hFvy1450 34 (by decide) (by decide) (by decide) (by decide) (by decide) (by decide) (by decide)).trans (((hFvy1448 34 (by decide) (by decide) (by decide) (by decide) (by decide)).trans ((hFvy34 34 (by decide) (by decide) (by decide) (by decide) (by decide)).trans (hFvy32 34 (by decide) (by decide)))))
        obtain ⟨d32vy1450, -, d35vy1450, d36vy1450, -, d37vy1450, d38vy1450⟩ := id hdvy1450
        rcases (show Fvy1450 38 = 0 ∨ Fvy1450 38 ≠ 0 by omega) with hxvy1450 | hxvy1450
        · have hqvy1450 := hsvy1450 hxvy1450
          clear hsvy1450
          refine z_istore_n (lv' := [(2, .int (zI (vy1450))), (1, .int (zI (1))), (0, .ref (ad i))]) C dX10_hour1_75 rfl (by decide) rfl ?_
          refine z_aload_n C 2 dX10_hour1_76 rfl ?_
          refine z_get (v := .int (zI (0))) C (by omega) hay1 hcvy1450 rfl inA_X10 38 (by decide) q_1497 rfl (fv (F := Fvy1450) (f := 38) hxvy1450) dX10_hour1_77 ?_
          refine z_if_eq (tgt := 84) C dX10_hour1_80 (by decide) (by omega) (fun _ => ?_) (fun h => absurd h (by omega))
          refine z_aload_n C 2 dX10_hour1_84 rfl ?_
          refine z_get (v := .ref (ad (i + 19))) C (by omega) hay1 hcvy1450 rfl inA_X10 42 (by decide) q_1501 rfl rfl dX10_hour1_85 ?_
          refine z_aload_n C 2 dX10_hour1_88 rfl ?_
          refine z_get (v := .int (zI (F 48))) C (by omega) hay1 hcvy1450 rfl inA_X10 48 (by decide) q_1507 rfl (fv (F := Fvy1450) (f := 48) ((hFvy1450 48 (by decide) (by decide) (by decide) (by decide) (by decide) (by decide) (by decide)).trans ((hFvy1448 48 (by decide) (by decide) (by decide) (by decide) (by decide)).trans ((hFvy34 48 (by decide) (by decide) (by decide) (by decide) (by decide)).trans (hFvy32 48 (by decide) (by decide)))))) dX10_hour1_89 ?_
          refine z_iload_n C 1 dX10_hour1_92 rfl ?_
          refine z_if_eq (tgt := 101) C dX10_hour1_93 (by decide) (by omega) (fun h => absurd h (by omega)) (fun _ => ?_)
          refine z_iload_n C 0 dX10_hour1_96 rfl ?_
          refine z_ineg C dX10_hour1_97 ?_
          refine z_goto (tgt := 102) C dX10_hour1_98 (by decide) ?_
          have hgy1451 := (hfvy32 (i + 19) (ne_o (i := i) (c := 19) (d := 0) rfl)).trans ha19
          have hgy1452 := (hfvy34 (i + 19) (ne_o (i := i) (c := 19) (d := 0) rfl)).trans hgy1451
          have hgy1453 := (hfvy1448 (i + 19) (ne_o (i := i) (c := 19) (d := 0) rfl)).trans hgy1452
          have hgy1454 := (hfvy1450 (i + 19) (ne_o (i := i) (c := 19) (d := 0) rfl)).trans hgy1453
          refine z_iast C (by omega) hay6 hgy1454 ((F 48).toNat) (by omega) (by omega) (by decide) dX10_hour1_102 (fun gy1455 egy1456 => ?_)
          have hgy1457 := up_s egy1456
          obtain ⟨ry1458, hvy1459⟩ : ∃ rZ9 : Nat → Int, rZ9 = uZ ai1 ((F 48).toNat) (-(vy1450)) := ⟨_, rfl⟩
          rw [← hvy1459] at hgy1457
          refine z_aload_n C 2 dX10_hour1_103 rfl ?_
          have hgy1460 := up_n egy1456 hcvy1450 (ne_o (i := i) (c := 0) (d := 19) rfl)
          refine z_get (v := .ref (ad (i + 20))) C (by omega) hay1 hgy1460 rfl inA_X10 43 (by decide) q_1502 rfl rfl dX10_hour1_104 ?_
          refine z_aload_n C 2 dX10_hour1_107 rfl ?_
          refine z_get (v := .int (zI (F 48))) C (by omega) hay1 hgy1460 rfl inA_X10 48 (by decide) q_1507 rfl (fv (F := Fvy1450) (f := 48) ((hFvy1450 48 (by decide) (by decide) (by decide) (by decide) (by decide) (by decide) (by decide)).trans ((hFvy1448 48 (by decide) (by decide) (by decide) (by decide) (by decide)).trans ((hFvy34 48 (by decide) (by decide) (by decide) (by decide) (by decide)).trans (hFvy32 48 (by decide) (by decide)))))) dX10_hour1_108 ?_
          refine z_iconst (z := 0) C dX10_hour1_111 rfl ?_
          have hgy1461 := (hfvy32 (i + 20) (ne_o (i := i) (c := 20) (d := 0) rfl)).trans ha20
          have hgy1462 := (hfvy34 (i + 20) (ne_o (i := i) (c := 20) (d := 0) rfl)).trans hgy1461
          have hgy1463 := (hfvy1448 (i + 20) (ne_o (i := i) (c := 20) (d := 0) rfl)).trans hgy1462
          have hgy1464 := (hfvy1450 (i + 20) (ne_o (i := i) (c := 20) (d := 0) rfl)).trans hgy1463
          have hgy1465 := up_n egy1456 hgy1464 (ne_o (i := i) (c := 20) (d := 19) rfl)
          refine z_iast C (by omega) hay7 hgy1465 ((F 48).toNat) (by omega) (by omega) (by decide) dX10_hour1_112 (fun gy1466 egy1467 => ?_)
          have hgy1468 := up_s egy1467
          obtain ⟨ry1469, hvy1470⟩ : ∃ rZ9 : Nat → Int, rZ9 = uZ fa1 ((F 48).toNat) (0) := ⟨_, rfl⟩
          rw [← hvy1470] at hgy1468
          refine z_aload_n C 2 dX10_hour1_113 rfl ?_
          have hgy1471 := up_n egy1467 hgy1460 (ne_o (i := i) (c := 0) (d := 20) rfl)
          refine z_get (v := .ref (ad (i + 21))) C (by omega) hay1 hgy1471 rfl inA_X10 44 (by decide) q_1503 rfl rfl dX10_hour1_114 ?_
          refine z_aload_n C 2 dX10_hour1_117 rfl ?_
          refine z_get (v := .int (zI (F 48))) C (by omega) hay1 hgy1471 rfl inA_X10 48 (by decide) q_1507 rfl (fv (F := Fvy1450) (f := 48) ((hFvy1450 48 (by decide) (by decide) (by decide) (by decide) (by decide) (by decide) (by decide)).trans ((hFvy1448 48 (by decide) (by decide) (by decide) (by decide) (by decide)).trans ((hFvy34 48 (by decide) (by decide) (by decide) (by decide) (by decide)).trans (hFvy32 48 (by decide) (by decide)))))) dX10_hour1_118 ?_
          refine z_iconst (z := 0) C dX10_hour1_121 rfl ?_
          have hgy1472 := (hfvy32 (i + 21) (ne_o (i := i) (c := 21) (d := 0) rfl)).trans ha21
          have hgy1473 := (hfvy34 (i + 21) (ne_o (i := i) (c := 21) (d := 0) rfl)).trans hgy1472
          have hgy1474 := (hfvy1448 (i + 21) (ne_o (i := i) (c := 21) (d := 0) rfl)).trans hgy1473
          have hgy1475 := (hfvy1450 (i + 21) (ne_o (i := i) (c := 21) (d := 0) rfl)).trans hgy1474
          have hgy1476 := up_n egy1456 hgy1475 (ne_o (i := i) (c := 21) (d := 19) rfl)
          have hgy1477 := up_n egy1467 hgy1476 (ne_o (i := i) (c := 21) (d := 20) rfl)
          refine z_iast C (by omega) hay8 hgy1477 ((F 48).toNat) (by omega) (by omega) (by decide) dX10_hour1_122 (fun gy1478 egy1479 => ?_)
          have hgy1480 := up_s egy1479
          obtain ⟨ry1481, hvy1482⟩ : ∃ rZ9 : Nat → Int, rZ9 = uZ mu1 ((F 48).toNat) (0) := ⟨_, rfl⟩
          rw [← hvy1482] at hgy1480
          refine z_aload_n C 2 dX10_hour1_123 rfl ?_
          refine z_iconst (z := 3) C dX10_hour1_124 rfl ?_
          have hgy1483 := up_n egy1479 hgy1471 (ne_o (i := i) (c := 0) (d := 21) rfl)
          have hey1485 : Fvy1450 38 = 0 := hxvy1450
          have hey1486 : Fvy1450 35 = Fvy1450 35 := rfl
          have hey1487 : Fvy1450 37 = Fvy1450 37 := rfl
          refine z_cV (As := [.int (zI (3))]) (rest := []) (ci := 12) C (c_X10_is l D A cs tt N ad _ i hN _ hgy1483 hdvy1450 (3) (by omega)) (by omega) hay1 hgy1483 rfl rfl mv_yX10_is q_1705 hd_yX10_is (by decide) (Nat.le_of_ble_eq_true rfl) (by decide) dX10_hour1_125 rfl (kI0 fun vy1484 gvy1484 hvy1484 => ?_)
          rw [hey1485, hey1486, hey1487] at hvy1484
          clear hey1485 hey1486 hey1487
          obtain ⟨hrvy1484, hqvy1484, rfl⟩ := hvy1484
          rcases (show vy1484 = 1 ∨ vy1484 = 0 by omega) with rfl | rfl
          · have hkvy1484 := hqvy1484 rfl
            clear hqvy1484
            refine z_if_ne (tgt := 147) C dX10_hour1_128 (by decide) (by omega) (fun _ => ?_) (fun h => absurd h (by omega))
            refine z_aload_n C 2 dX10_hour1_147 rfl ?_
            refine z_get (v := .ref (ad (i + 20))) C (by omega) hay1 hgy1483 rfl inA_X10 43 (by decide) q_1502 rfl rfl dX10_hour1_148 ?_
            refine z_aload_n C 2 dX10_hour1_151 rfl ?_
            refine z_get (v := .int (zI (F 48))) C (by omega) hay1 hgy1483 rfl inA_X10 48 (by decide) q_1507 rfl (fv (F := Fvy1450) (f := 48) ((hFvy1450 48 (by decide) (by decide) (by decide) (by decide) (by decide) (by decide) (by decide)).trans ((hFvy1448 48 (by decide) (by decide) (by decide) (by decide) (by decide)).trans ((hFvy34 48 (by decide) (by decide) (by decide) (by decide) (by decide)).trans (hFvy32 48 (by decide) (by decide)))))) dX10_hour1_152 ?_
            refine z_aload_n C 2 dX10_hour1_155 rfl ?_
            refine z_get (v := .int (zI (Fvy1450 37))) C (by omega) hay1 hgy1483 rfl inA_X10 37 (by decide) q_1496 rfl (fv (F := Fvy1450) (f := 37) rfl) dX10_hour1_156 ?_
            refine z_iconst (z := 3) C dX10_hour1_159 rfl ?_
            refine z_isub C dX10_hour1_160 ?_
            refine z_iconst (z := 1) C dX10_hour1_161 rfl ?_
            refine z_iadd C dX10_hour1_162 ?_
            have hgy1488 := up_n egy1479 hgy1468 (ne_o (i := i) (c := 20) (d := 21) rfl)
            refine z_iast C (by omega) hay7 hgy1488 ((F 48).toNat) (by omega) (by omega) (by decide) dX10_hour1_163 (fun gy1489 egy1490 => ?_)
            have hgy1491 := up_s egy1490
            obtain ⟨ry1492, hvy1493⟩ : ∃ rZ9 : Nat → Int, rZ9 = uZ ry1469 ((F 48).toNat) (((Fvy1450 37) - 3) + 1) := ⟨_, rfl⟩
            rw [← hvy1493] at hgy1491
            refine z_aload_n C 2 dX10_hour1_164 rfl ?_
            have hgy1494 := up_n egy1490 hgy1483 (ne_o (i := i) (c := 0) (d := 20) rfl)
            have hgy1495 := (hfvy1450 (i + 13) (ne_o (i := i) (c := 13) (d := 0) rfl)).trans hgy1449
            have hgy1496 := up_n egy1456 hgy1495 (ne_o (i := i) (c := 13) (d := 19) rfl)
            have hgy1497 := up_n egy1467 hgy1496 (ne_o (i := i) (c := 13) (d := 20) rfl)
            have hgy1498 := up_n egy1479 hgy1497 (ne_o (i := i) (c := 13) (d := 21) rfl)
            have hgy1499 := up_n egy1490 hgy1498 (ne_o (i := i) (c := 13) (d := 20) rfl)
            refine z_cV (As := []) (rest := []) (ci := 12) C (c_X10_go l D A cs tt N ad _ i hN _ hgy1494 _ hgy1499 htp hdvy1450) (by omega) hay1 hgy1494 rfl rfl mv_yX10_go q_1652 hd_yX10_go (by decide) (Nat.le_of_ble_eq_true rfl) (by decide) dX10_hour1_165 rfl (kV0 fun gvy1500 hvy1500 => ?_)
            obtain ⟨⟨Fvy1500, hcvy1500, hdvy1500, hlvy1500, hsvy1500, hFvy1500⟩, hfvy1500⟩ := hvy1500
            rw [show Fvy1450 32 = Fvy1450 32 from rfl] at hlvy1500 hsvy1500
            have h34vy1500 : Fvy1500 34 = F 34 := (hFvy1500 34 (by decide) (by decide) (by decide) (by decide) (by decide)).trans (((hFvy1450 34 (by decide) (by decide) (by decide) (by decide) (by decide) (by decide) (by decide)).trans ((hFvy1448 34 (by decide) (by decide) (by decide) (by decide) (by decide)).trans ((hFvy34 34 (by decide) (by decide) (by decide) (by decide) (by decide)).trans (hFvy32 34 (by decide) (by decide))))))
            obtain ⟨d32vy1500, -, d35vy1500, d36vy1500, -, d37vy1500, d38vy1500⟩ := id hdvy1500
            have h38vy1500 : Fvy1500 38 = 0 := ((hFvy1500 38 (by decide) (by decide) (by decide) (by decide) (by decide)).trans hxvy1450)
            clear hsvy1500
            refine z_aload_n C 2 dX10_hour1_168 rfl ?_
            refine z_get (v := .ref (ad (i + 20))) C (by omega) hay1 hcvy1500 rfl inA_X10 43 (by decide) q_1502 rfl rfl dX10_hour1_169 ?_
            refine z_aload_n C 2 dX10_hour1_172 rfl ?_
            refine z_get (v := .int (zI (F 48))) C (by omega) hay1 hcvy1500 rfl inA_X10 48 (by decide) q_1507 rfl (fv (F := Fvy1500) (f := 48) ((hFvy1500 48 (by decide) (by decide) (by decide) (by decide) (by decide)).trans ((hFvy1450 48 (by decide) (by decide) (by decide) (by decide) (by decide) (by decide) (by decide)).trans ((hFvy1448 48 (by decide) (by decide) (by decide) (by decide) (by decide)).trans ((hFvy34 48 (by decide) (by decide) (by decide) (by decide) (by decide)).trans (hFvy32 48 (by decide) (by decide))))))) dX10_hour1_173 ?_
            have hgy1501 := (hfvy1500 (i + 20) (ne_o (i := i) (c := 20) (d := 0) rfl)).trans hgy1491
            refine z_iald C (by omega) hay7 hgy1501 ((F 48).toNat) (by omega) (by omega) (by decide) dX10_hour1_176 ?_
            rw [show ry1492 ((F 48).toNat) = ((Fvy1450 37) - 3) + 1 from (congrFun hvy1493 _).trans (uZ_s _ _ _)]
            refine z_iconst (z := 3) C dX10_hour1_177 rfl ?_
            refine z_icmp_ge (tgt := 197) C dX10_hour1_178 (by decide) (by omega) (by omega) (fun hby1502 => ?_) (fun hby1502 => ?_)
            · refine z_aload_n C 2 dX10_hour1_197 rfl ?_
              refine z_dup C dX10_hour1_198 rfl ?_
              refine z_get (v := .int (zI (F 48))) C (by omega) hay1 hcvy1500 rfl inA_X10 48 (by decide) q_1507 rfl (fv (F := Fvy1500) (f := 48) ((hFvy1500 48 (by decide) (by decide) (by decide) (by decide) (by decide)).trans ((hFvy1450 48 (by decide) (by decide) (by decide) (by decide) (by decide) (by decide) (by decide)).trans ((hFvy1448 48 (by decide) (by decide) (by decide) (by decide) (by decide)).trans ((hFvy34 48 (by decide) (by decide) (by decide) (by decide) (by decide)).trans (hFvy32 48 (by decide) (by decide))))))) dX10_hour1_199 ?_
              refine z_iconst (z := 1) C dX10_hour1_202 rfl ?_
              refine z_iadd C dX10_hour1_203 ?_
              refine z_put (fs' := mF ad (i) (uZ Fvy1500 48 ((F 48) + 1))) C (by omega) hay1 hcvy1500 tyX10 tyX10_ok nmX10 rfl inA_X10 48 (by decide) q_1507 rfl rfl rfl rfl (Nat.le_of_ble_eq_true rfl) rfl dX10_hour1_204 (fun gy1503 egy1504 => ?_)
              have hgy1505 := up_s egy1504
              have hFy1506 : ∀ f, f ≠ 24 → f ≠ 32 → f ≠ 33 → f ≠ 35 → f ≠ 36 → f ≠ 37 → f ≠ 38 → f ≠ 47 → f ≠ 48 → f ≠ 49 → (uZ Fvy1500 48 ((F 48) + 1)) f = F f := fun f n24 n32 n33 n35 n36 n37 n38 n47 n48 n49 => ((uZ_n _ _ n48).trans ((hFvy1500 f n32 n33 n35 n36 n37).trans ((hFvy1450 f n24 n32 n33 n35 n36 n37 n38).trans ((hFvy1448 f n32 n33 n35 n36 n37).trans ((hFvy34 f n32 n33 n35 n36 n37).trans (hFvy32 f n24 n38))))))
              have hey1507 : (uZ Fvy1500 48 ((F 48) + 1)) 32 = Fvy1500 32 := (fn rfl (by decide))
              have hey1508 : (uZ Fvy1500 48 ((F 48) + 1)) 35 = Fvy1500 35 := (fn rfl (by decide))
              have hey1509 : (uZ Fvy1500 48 ((F 48) + 1)) 38 = 0 := (fn ((hFvy1500 38 (by decide) (by decide) (by decide) (by decide) (by decide)).trans hxvy1450) (by decide))
              have hey1510 : (uZ Fvy1500 48 ((F 48) + 1)) 32 = Fvy1500 32 := (fn rfl (by decide))
              have hey1511 : (uZ Fvy1500 48 ((F 48) + 1)) 47 = F 47 := (fn ((hFvy1500 47 (by decide) (by decide) (by decide) (by decide) (by decide)).trans ((hFvy1450 47 (by decide) (by decide) (by decide) (by decide) (by decide) (by decide) (by decide)).trans ((hFvy1448 47 (by decide) (by decide) (by decide) (by decide) (by decide)).trans ((hFvy34 47 (by decide) (by decide) (by decide) (by decide) (by decide)).trans (hFvy32 47 (by decide) (by decide)))))) (by decide))
              have hey1512 : (uZ Fvy1500 48 ((F 48) + 1)) 48 = (F 48) + 1 := (uZ_s _ _ _)
              have hey1513 : (uZ Fvy1500 48 ((F 48) + 1)) 49 = F 49 := (fn ((hFvy1500 49 (by decide) (by decide) (by decide) (by decide) (by decide)).trans ((hFvy1450 49 (by decide) (by decide) (by decide) (by decide) (by decide) (by decide) (by decide)).trans ((hFvy1448 49 (by decide) (by decide) (by decide) (by decide) (by decide)).trans ((hFvy34 49 (by decide) (by decide) (by decide) (by decide) (by decide)).trans (hFvy32 49 (by decide) (by decide)))))) (by decide))
              have hfry1515 : ∀ j, j ≠ (F 48).toNat → ry1458 j = ai1 j := fun j n0 => (congrFun hvy1459 _).trans ((uZ_n _ _ n0).trans (rfl))
              have hwy1516 : ry1458 ((F 48).toNat) = -(vy1450) := (congrFun hvy1459 _).trans (uZ_s _ _ _)
              have haky1514 : ∀ k, k < 24 → -300 ≤ ry1458 k ∧ ry1458 k ≤ 100 := by
                intro k hk
                by_cases e : k = (F 48).toNat
                · rw [e]; have hk0 := hai1 ((F 48).toNat) (by omega); omega
                · have hk0 := hai1 k hk; rw [hfry1515 k e]; exact hk0
              have hfry1518 : ∀ j, j ≠ (F 48).toNat → ry1492 j = fa1 j := fun j n0 => (congrFun hvy1493 _).trans ((uZ_n _ _ n0).trans ((congrFun hvy1470 _).trans ((uZ_n _ _ n0).trans (rfl))))
              have hfry1519 : ∀ j, j ≠ (F 48).toNat → ry1481 j = mu1 j := fun j n0 => (congrFun hvy1482 _).trans ((uZ_n _ _ n0).trans (rfl))
              have hwy1520 : ry1492 ((F 48).toNat) = ((Fvy1450 37) - 3) + 1 := (congrFun hvy1493 _).trans (uZ_s _ _ _)
              have hwy1521 : ry1481 ((F 48).toNat) = 0 := (congrFun hvy1482 _).trans (uZ_s _ _ _)
              have haky1517 : ∀ k, k < 24 → (0 ≤ ry1492 k ∧ ry1492 k ≤ 3) ∧ (0 ≤ ry1481 k ∧ ry1481 k ≤ 50) ∧ (ry1492 k = 1 ∨ ry1492 k = 2 → 1 ≤ ry1481 k) := by
                intro k hk
                by_cases e : k = (F 48).toNat
                · rw [e]; have hk0 := hfa1 ((F 48).toNat) (by omega); omega
                · have hk0 := hfa1 k hk; rw [hfry1518 k e]; rw [hfry1519 k e]; exact hk0
              have hlay1522 : ∀ s l : Nat, (s : Int) < (uZ Fvy1500 48 ((F 48) + 1)) 47 → (l : Int) < mn1 s → lyT ly1 (84 * s + 7 * l) := fun s l a1 a2 => hly1 s l (by omega) a2
              have hgy1523 := (hfvy32 (i + 16) (ne_o (i := i) (c := 16) (d := 0) rfl)).trans ha16
              have hgy1524 := (hfvy34 (i + 16) (ne_o (i := i) (c := 16) (d := 0) rfl)).trans hgy1523
              have hgy1525 := (hfvy1448 (i + 16) (ne_o (i := i) (c := 16) (d := 0) rfl)).trans hgy1524
              have hgy1526 := (hfvy1450 (i + 16) (ne_o (i := i) (c := 16) (d := 0) rfl)).trans hgy1525
              have hgy1527 := up_n egy1456 hgy1526 (ne_o (i := i) (c := 16) (d := 19) rfl)
              have hgy1528 := up_n egy1467 hgy1527 (ne_o (i := i) (c := 16) (d := 20) rfl)
              have hgy1529 := up_n egy1479 hgy1528 (ne_o (i := i) (c := 16) (d := 21) rfl)
              have hgy1530 := up_n egy1490 hgy1529 (ne_o (i := i) (c := 16) (d := 20) rfl)
              have hgy1531 := (hfvy1500 (i + 16) (ne_o (i := i) (c := 16) (d := 0) rfl)).trans hgy1530
              have hgy1532 := up_n egy1504 hgy1531 (ne_o (i := i) (c := 16) (d := 0) rfl)
              have hgy1533 := (hfvy32 (i + 17) (ne_o (i := i) (c := 17) (d := 0) rfl)).trans ha17
              have hgy1534 := (hfvy34 (i + 17) (ne_o (i := i) (c := 17) (d := 0) rfl)).trans hgy1533
              have hgy1535 := (hfvy1448 (i + 17) (ne_o (i := i) (c := 17) (d := 0) rfl)).trans hgy1534
              have hgy1536 := (hfvy1450 (i + 17) (ne_o (i := i) (c := 17) (d := 0) rfl)).trans hgy1535
              have hgy1537 := up_n egy1456 hgy1536 (ne_o (i := i) (c := 17) (d := 19) rfl)
              have hgy1538 := up_n egy1467 hgy1537 (ne_o (i := i) (c := 17) (d := 20) rfl)
              have hgy1539 := up_n egy1479 hgy1538 (ne_o (i := i) (c := 17) (d := 21) rfl)
              have hgy1540 := up_n egy1490 hgy1539 (ne_o (i := i) (c := 17) (d := 20) rfl)
              have hgy1541 := (hfvy1500 (i + 17) (ne_o (i := i) (c := 17) (d := 0) rfl)).trans hgy1540
              have hgy1542 := up_n egy1504 hgy1541 (ne_o (i := i) (c := 17) (d := 0) rfl)
              have hgy1543 := (hfvy32 (i + 18) (ne_o (i := i) (c := 18) (d := 0) rfl)).trans ha18
              have hgy1544 := (hfvy34 (i + 18) (ne_o (i := i) (c := 18) (d := 0) rfl)).trans hgy1543
              have hgy1545 := (hfvy1448 (i + 18) (ne_o (i := i) (c := 18) (d := 0) rfl)).trans hgy1544
              have hgy1546 := (hfvy1450 (i + 18) (ne_o (i := i) (c := 18) (d := 0) rfl)).trans hgy1545
              have hgy1547 := up_n egy1456 hgy1546 (ne_o (i := i) (c := 18) (d := 19) rfl)
              have hgy1548 := up_n egy1467 hgy1547 (ne_o (i := i) (c := 18) (d := 20) rfl)
              have hgy1549 := up_n egy1479 hgy1548 (ne_o (i := i) (c := 18) (d := 21) rfl)
              have hgy1550 := up_n egy1490 hgy1549 (ne_o (i := i) (c := 18) (d := 20) rfl)
              have hgy1551 := (hfvy1500 (i + 18) (ne_o (i := i) (c := 18) (d := 0) rfl)).trans hgy1550
              have hgy1552 := up_n egy1504 hgy1551 (ne_o (i := i) (c := 18) (d := 0) rfl)
              have hgy1553 := up_n egy1467 hgy1457 (ne_o (i := i) (c := 19) (d := 20) rfl)
              have hgy1554 := up_n egy1479 hgy1553 (ne_o (i := i) (c := 19) (d := 21) rfl)
              have hgy1555 := up_n egy1490 hgy1554 (ne_o (i := i) (c := 19) (d := 20) rfl)
              have hgy1556 := (hfvy1500 (i + 19) (ne_o (i := i) (c := 19) (d := 0) rfl)).trans hgy1555
              have hgy1557 := up_n egy1504 hgy1556 (ne_o (i := i) (c := 19) (d := 0) rfl)
              have hgy1558 := up_n egy1504 hgy1501 (ne_o (i := i) (c := 20) (d := 0) rfl)
              have hgy1559 := up_n egy1490 hgy1480 (ne_o (i := i) (c := 21) (d := 20) rfl)
              have hgy1560 := (hfvy1500 (i + 21) (ne_o (i := i) (c := 21) (d := 0) rfl)).trans hgy1559
              have hgy1561 := up_n egy1504 hgy1560 (ne_o (i := i) (c := 21) (d := 0) rfl)
              have hgy1562 := (hfvy32 (i + 22) (ne_o (i := i) (c := 22) (d := 0) rfl)).trans ha22
              have hgy1563 := (hfvy34 (i + 22) (ne_o (i := i) (c := 22) (d := 0) rfl)).trans hgy1562
              have hgy1564 := (hfvy1448 (i + 22) (ne_o (i := i) (c := 22) (d := 0) rfl)).trans hgy1563
              have hgy1565 := (hfvy1450 (i + 22) (ne_o (i := i) (c := 22) (d := 0) rfl)).trans hgy1564
              have hgy1566 := up_n egy1456 hgy1565 (ne_o (i := i) (c := 22) (d := 19) rfl)
              have hgy1567 := up_n egy1467 hgy1566 (ne_o (i := i) (c := 22) (d := 20) rfl)
              have hgy1568 := up_n egy1479 hgy1567 (ne_o (i := i) (c := 22) (d := 21) rfl)
              have hgy1569 := up_n egy1490 hgy1568 (ne_o (i := i) (c := 22) (d := 20) rfl)
              have hgy1570 := (hfvy1500 (i + 22) (ne_o (i := i) (c := 22) (d := 0) rfl)).trans hgy1569
              have hgy1571 := up_n egy1504 hgy1570 (ne_o (i := i) (c := 22) (d := 0) rfl)
              have hgy1572 := (hfvy32 (i + 23) (ne_o (i := i) (c := 23) (d := 0) rfl)).trans ha23
              have hgy1573 := (hfvy34 (i + 23) (ne_o (i := i) (c := 23) (d := 0) rfl)).trans hgy1572
              have hgy1574 := (hfvy1448 (i + 23) (ne_o (i := i) (c := 23) (d := 0) rfl)).trans hgy1573
              have hgy1575 := (hfvy1450 (i + 23) (ne_o (i := i) (c := 23) (d := 0) rfl)).trans hgy1574
              have hgy1576 := up_n egy1456 hgy1575 (ne_o (i := i) (c := 23) (d := 19) rfl)
              have hgy1577 := up_n egy1467 hgy1576 (ne_o (i := i) (c := 23) (d := 20) rfl)
              have hgy1578 := up_n egy1479 hgy1577 (ne_o (i := i) (c := 23) (d := 21) rfl)
              have hgy1579 := up_n egy1490 hgy1578 (ne_o (i := i) (c := 23) (d := 20) rfl)
              have hgy1580 := (hfvy1500 (i + 23) (ne_o (i := i) (c := 23) (d := 0) rfl)).trans hgy1579
              have hgy1581 := up_n egy1504 hgy1580 (ne_o (i := i) (c := 23) (d := 0) rfl)
              have htxy1582 : okTx cs gy1503 i (uZ Fvy1500 48 ((F 48) + 1)) := ⟨_, _, _, _, _, _, _, _, ⟨hgy1532, hgy1542, hgy1552, hgy1557, hgy1558, hgy1561, hgy1571, hgy1581⟩, ⟨⟨by omega, by omega, by omega⟩, hop1, hmn1, haky1514, haky1517, htb1, hlay1522⟩⟩
              exact z_vret C hr hlk dX10_hour1_207 (by decide) (by decide) ⟨rfl, rfl, rfl, ⟨_, hgy1505, (RD.put hdvy1500 (by decide)), by omega, by omega, hFy1506, htxy1582⟩, fun j j1 j2 => by rw [egy1504, va_up_ne _ _ (by omega)]; rw [hfvy1500 _ (by omega)]; rw [egy1490, va_up_ne _ _ (by omega)]; rw [egy1479, va_up_ne _ _ (by omega)]; rw [egy1467, va_up_ne _ _ (by omega)]; rw [egy1456, va_up_ne _ _ (by omega)]; rw [hfvy1450 _ (by omega)]; rw [hfvy1448 _ (by omega)]; rw [hfvy34 _ (by omega)]; rw [hfvy32 _ (by omega)]⟩
            · refine z_aload_n C 2 dX10_hour1_181 rfl ?_
              refine z_get (v := .ref (ad (i + 21))) C (by omega) hay1 hcvy1500 rfl inA_X10 44 (by decide) q_1503 rfl rfl dX10_hour1_182 ?_
              refine z_aload_n C 2 dX10_hour1_185 rfl ?_
              refine z_get (v := .int (zI (F 48))) C (by omega) hay1 hcvy1500 rfl inA_X10 48 (by decide) q_1507 rfl (fv (F := Fvy1500) (f := 48) ((hFvy1500 48 (by decide) (by decide) (by decide) (by decide) (by decide)).trans ((hFvy1450 48 (by decide) (by decide) (by decide) (by decide) (by decide) (by decide) (by decide)).trans ((hFvy1448 48 (by decide) (by decide) (by decide) (by decide) (by decide)).trans ((hFvy34 48 (by decide) (by decide) (by decide) (by decide) (by decide)).trans (hFvy32 48 (by decide) (by decide))))))) dX10_hour1_186 ?_
              refine z_aload_n C 2 dX10_hour1_189 rfl ?_
              refine z_iconst (z := 1) C dX10_hour1_190 rfl ?_
              refine z_bipush (z := 50) C dX10_hour1_191 (by decide) ?_
              have hgy1583 := (hfvy1500 (i + 13) (ne_o (i := i) (c := 13) (d := 0) rfl)).trans hgy1499
              refine z_cV (As := [.int (zI (1)), .int (zI (50))]) (rest := [.int (zI (F 48)), .ref (ad (i + 21))]) (ci := 12) C (c_X10_number l D A cs tt N ad _ i hN _ hcvy1500 _ hgy1583 htp hdvy1500 (1) (by omega) (50) (by omega)) (by omega) hay1 hcvy1500 rfl rfl mv_yX10_number q_1682 hd_yX10_number (by decide) (Nat.le_of_ble_eq_true rfl) (by decide) dX10_hour1_193 rfl (kI0 fun vy1584 gvy1584 hvy1584 => ?_)
              obtain ⟨hrvy1584, ⟨Fvy1584, hcvy1584, hdvy1584, hlvy1584, hsvy1584, hFvy1584⟩, hfvy1584⟩ := hvy1584
              rw [show Fvy1500 32 = Fvy1500 32 from rfl] at hlvy1584
              rw [show Fvy1500 38 = 0 from ((hFvy1500 38 (by decide) (by decide) (by decide) (by decide) (by decide)).trans hxvy1450), show Fvy1500 35 = Fvy1500 35 from rfl] at hsvy1584
              have h34vy1584 : Fvy1584 34 = F 34 := (hFvy1584 34 (by decide) (by decide) (by decide) (by decide) (by decide) (by decide) (by decide)).trans (((hFvy1500 34 (by decide) (by decide) (by decide) (by decide) (by decide)).trans ((hFvy1450 34 (by decide) (by decide) (by decide) (by decide) (by decide) (by decide) (by decide)).trans ((hFvy1448 34 (by decide) (by decide) (by decide) (by decide) (by decide)).trans ((hFvy34 34 (by decide) (by decide) (by decide) (by decide) (by decide)).trans (hFvy32 34 (by decide) (by decide)))))))
              obtain ⟨d32vy1584, -, d35vy1584, d36vy1584, -, d37vy1584, d38vy1584⟩ := id hdvy1584
              clear hsvy1584
              have hgy1585 := up_n egy1490 hgy1480 (ne_o (i := i) (c := 21) (d := 20) rfl)
              have hgy1586 := (hfvy1500 (i + 21) (ne_o (i := i) (c := 21) (d := 0) rfl)).trans hgy1585
              have hgy1587 := (hfvy1584 (i + 21) (ne_o (i := i) (c := 21) (d := 0) rfl)).trans hgy1586
              refine z_iast C (by omega) hay8 hgy1587 ((F 48).toNat) (by omega) (by omega) (by decide) dX10_hour1_196 (fun gy1588 egy1589 => ?_)
              have hgy1590 := up_s egy1589
              obtain ⟨ry1591, hvy1592⟩ : ∃ rZ9 : Nat → Int, rZ9 = uZ ry1481 ((F 48).toNat) (vy1584) := ⟨_, rfl⟩
              rw [← hvy1592] at hgy1590
              refine z_aload_n C 2 dX10_hour1_197 rfl ?_
              refine z_dup C dX10_hour1_198 rfl ?_
              have hgy1593 := up_n egy1589 hcvy1584 (ne_o (i := i) (c := 0) (d := 21) rfl)
              refine z_get (v := .int (zI (F 48))) C (by omega) hay1 hgy1593 rfl inA_X10 48 (by decide) q_1507 rfl (fv (F := Fvy1584) (f := 48) ((hFvy1584 48 (by decide) (by decide) (by decide) (by decide) (by decide) (by decide) (by decide)).trans ((hFvy1500 48 (by decide) (by decide) (by decide) (by decide) (by decide)).trans ((hFvy1450 48 (by decide) (by decide) (by decide) (by decide) (by decide) (by decide) (by decide)).trans ((hFvy1448 48 (by decide) (by decide) (by decide) (by decide) (by decide)).trans ((hFvy34 48 (by decide) (by decide) (by decide) (by decide) (by decide)).trans (hFvy32 48 (by decide) (by decide)))))))) dX10_hour1_199 ?_
              refine z_iconst (z := 1) C dX10_hour1_202 rfl ?_
              refine z_iadd C dX10_hour1_203 ?_
              refine z_put (fs' := mF ad (i) (uZ Fvy1584 48 ((F 48) + 1))) C (by omega) hay1 hgy1593 tyX10 tyX10_ok nmX10 rfl inA_X10 48 (by decide) q_1507 rfl rfl rfl rfl (Nat.le_of_ble_eq_true rfl) rfl dX10_hour1_204 (fun gy1594 egy1595 => ?_)
              have hgy1596 := up_s egy1595
              have hFy1597 : ∀ f, f ≠ 24 → f ≠ 32 → f ≠ 33 → f ≠ 35 → f ≠ 36 → f ≠ 37 → f ≠ 38 → f ≠ 47 → f ≠ 48 → f ≠ 49 → (uZ Fvy1584 48 ((F 48) + 1)) f = F f := fun f n24 n32 n33 n35 n36 n37 n38 n47 n48 n49 => ((uZ_n _ _ n48).trans ((hFvy1584 f n24 n32 n33 n35 n36 n37 n38).trans ((hFvy1500 f n32 n33 n35 n36 n37).trans ((hFvy1450 f n24 n32 n33 n35 n36 n37 n38).trans ((hFvy1448 f n32 n33 n35 n36 n37).trans ((hFvy34 f n32 n33 n35 n36 n37).trans (hFvy32 f n24 n38)))))))
              have hey1598 : (uZ Fvy1584 48 ((F 48) + 1)) 32 = Fvy1584 32 := (fn rfl (by decide))
              have hey1599 : (uZ Fvy1584 48 ((F 48) + 1)) 35 = Fvy1584 35 := (fn rfl (by decide))
              have hey1600 : (uZ Fvy1584 48 ((F 48) + 1)) 38 = Fvy1584 38 := (fn rfl (by decide))
              have hey1601 : (uZ Fvy1584 48 ((F 48) + 1)) 32 = Fvy1584 32 := (fn rfl (by decide))
              have hey1602 : (uZ Fvy1584 48 ((F 48) + 1)) 47 = F 47 := (fn ((hFvy1584 47 (by decide) (by decide) (by decide) (by decide) (by decide) (by decide) (by decide)).trans ((hFvy1500 47 (by decide) (by decide) (by decide) (by decide) (by decide)).trans ((hFvy1450 47 (by decide) (by decide) (by decide) (by decide) (by decide) (by decide) (by decide)).trans ((hFvy1448 47 (by decide) (by decide) (by decide) (by decide) (by decide)).trans ((hFvy34 47 (by decide) (by decide) (by decide) (by decide) (by decide)).trans (hFvy32 47 (by decide) (by decide))))))) (by decide))
              have hey1603 : (uZ Fvy1584 48 ((F 48) + 1)) 48 = (F 48) + 1 := (uZ_s _ _ _)
              have hey1604 : (uZ Fvy1584 48 ((F 48) + 1)) 49 = F 49 := (fn ((hFvy1584 49 (by decide) (by decide) (by decide) (by decide) (by decide) (by decide) (by decide)).trans ((hFvy1500 49 (by decide) (by decide) (by decide) (by decide) (by decide)).trans ((hFvy1450 49 (by decide) (by decide) (by decide) (by decide) (by decide) (by decide) (by decide)).trans ((hFvy1448 49 (by decide) (by decide) (by decide) (by decide) (by decide)).trans ((hFvy34 49 (by decide) (by decide) (by decide) (by decide) (by decide)).trans (hFvy32 49 (by decide) (by decide))))))) (by decide))
              have hfry1606 : ∀ j, j ≠ (F 48).toNat → ry1458 j = ai1 j := fun j n0 => (congrFun hvy1459 _).trans ((uZ_n _ _ n0).trans (rfl))
              have hwy1607 : ry1458 ((F 48).toNat) = -(vy1450) := (congrFun hvy1459 _).trans (uZ_s _ _ _)
              have haky1605 : ∀ k, k < 24 → -300 ≤ ry1458 k ∧ ry1458 k ≤ 100 := by
                intro k hk
                by_cases e : k = (F 48).toNat
                · rw [e]; have hk0 := hai1 ((F 48).toNat) (by omega); omega
                · have hk0 := hai1 k hk; rw [hfry1606 k e]; exact hk0
              have hfry1609 : ∀ j, j ≠ (F 48).toNat → ry1492 j = fa1 j := fun j n0 => (congrFun hvy1493 _).trans ((uZ_n _ _ n0).trans ((congrFun hvy1470 _).trans ((uZ_n _ _ n0).trans (rfl))))
              have hfry1610 : ∀ j, j ≠ (F 48).toNat → ry1591 j = mu1 j := fun j n0 => (congrFun hvy1592 _).trans ((uZ_n _ _ n0).trans ((congrFun hvy1482 _).trans ((uZ_n _ _ n0).trans (rfl))))
              have hwy1611 : ry1492 ((F 48).toNat) = ((Fvy1450 37) - 3) + 1 := (congrFun hvy1493 _).trans (uZ_s _ _ _)
              have hwy1612 : ry1591 ((F 48).toNat) = vy1584 := (congrFun hvy1592 _).trans (uZ_s _ _ _)
              have haky1608 : ∀ k, k < 24 → (0 ≤ ry1492 k ∧ ry1492 k ≤ 3) ∧ (0 ≤ ry1591 k ∧ ry1591 k ≤ 50) ∧ (ry1492 k = 1 ∨ ry1492 k = 2 → 1 ≤ ry1591 k) := by
                intro k hk
                by_cases e : k = (F 48).toNat
                · rw [e]; have hk0 := hfa1 ((F 48).toNat) (by omega); omega
                · have hk0 := hfa1 k hk; rw [hfry1609 k e]; rw [hfry1610 k e]; exact hk0
              have hlay1613 : ∀ s l : Nat, (s : Int) < (uZ Fvy1584 48 ((F 48) + 1)) 47 → (l : Int) < mn1 s → lyT ly1 (84 * s + 7 * l) := fun s l a1 a2 => hly1 s l (by omega) a2
              have hgy1614 := (hfvy32 (i + 16) (ne_o (i := i) (c := 16) (d := 0) rfl)).trans ha16
              have hgy1615 := (hfvy34 (i + 16) (ne_o (i := i) (c := 16) (d := 0) rfl)).trans hgy1614
              have hgy1616 := (hfvy1448 (i + 16) (ne_o (i := i) (c := 16) (d := 0) rfl)).trans hgy1615
              have hgy1617 := (hfvy1450 (i + 16) (ne_o (i := i) (c := 16) (d := 0) rfl)).trans hgy1616
              have hgy1618 := up_n egy1456 hgy1617 (ne_o (i := i) (c := 16) (d := 19) rfl)
              have hgy1619 := up_n egy1467 hgy1618 (ne_o (i := i) (c := 16) (d := 20) rfl)
              have hgy1620 := up_n egy1479 hgy1619 (ne_o (i := i) (c := 16) (d := 21) rfl)
              have hgy1621 := up_n egy1490 hgy1620 (ne_o (i := i) (c := 16) (d := 20) rfl)
              have hgy1622 := (hfvy1500 (i + 16) (ne_o (i := i) (c := 16) (d := 0) rfl)).trans hgy1621
              have hgy1623 := (hfvy1584 (i + 16) (ne_o (i := i) (c := 16) (d := 0) rfl)).trans hgy1622
              have hgy1624 := up_n egy1589 hgy1623 (ne_o (i := i) (c := 16) (d := 21) rfl)
              have hgy1625 := up_n egy1595 hgy1624 (ne_o (i := i) (c := 16) (d := 0) rfl)
              have hgy1626 := (hfvy32 (i + 17) (ne_o (i := i) (c := 17) (d := 0) rfl)).trans ha17
              have hgy1627 := (hfvy34 (i + 17) (ne_o (i := i) (c := 17) (d := 0) rfl)).trans hgy1626
              have hgy1628 := (hfvy1448 (i + 17) (ne_o (i := i) (c := 17) (d := 0) rfl)).trans hgy1627
              have hgy1629 := (hfvy1450 (i + 17) (ne_o (i := i) (c := 17) (d := 0) rfl)).trans hgy1628
              have hgy1630 := up_n egy1456 hgy1629 (ne_o (i := i) (c := 17) (d := 19) rfl)
              have hgy1631 := up_n egy1467 hgy1630 (ne_o (i := i) (c := 17) (d := 20) rfl)
              have hgy1632 := up_n egy1479 hgy1631 (ne_o (i := i) (c := 17) (d := 21) rfl)
              have hgy1633 := up_n egy1490 hgy1632 (ne_o (i := i) (c := 17) (d := 20) rfl)
              have hgy1634 := (hfvy1500 (i + 17) (ne_o (i := i) (c := 17) (d := 0) rfl)).trans hgy1633
              have hgy1635 := (hfvy1584 (i + 17) (ne_o (i := i) (c := 17) (d := 0) rfl)).trans hgy1634
              have hgy1636 := up_n egy1589 hgy1635 (ne_o (i := i) (c := 17) (d := 21) rfl)
              have hgy1637 := up_n egy1595 hgy1636 (ne_o (i := i) (c := 17) (d := 0) rfl)
              have hgy1638 := (hfvy32 (i + 18) (ne_o (i := i) (c := 18) (d := 0) rfl)).trans ha18
              have hgy1639 := (hfvy34 (i + 18) (ne_o (i := i) (c := 18) (d := 0) rfl)).trans hgy1638
              have hgy1640 := (hfvy1448 (i + 18) (ne_o (i := i) (c := 18) (d := 0) rfl)).trans hgy1639
              have hgy1641 := (hfvy1450 (i + 18) (ne_o (i := i) (c := 18) (d := 0) rfl)).trans hgy1640
              have hgy1642 := up_n egy1456 hgy1641 (ne_o (i := i) (c := 18) (d := 19) rfl)
              have hgy1643 := up_n egy1467 hgy1642 (ne_o (i := i) (c := 18) (d := 20) rfl)
              have hgy1644 := up_n egy1479 hgy1643 (ne_o (i := i) (c := 18) (d := 21) rfl)
              have hgy1645 := up_n egy1490 hgy1644 (ne_o (i := i) (c := 18) (d := 20) rfl)
              have hgy1646 := (hfvy1500 (i + 18) (ne_o (i := i) (c := 18) (d := 0) rfl)).trans hgy1645
              have hgy1647 := (hfvy1584 (i + 18) (ne_o (i := i) (c := 18) (d := 0) rfl)).trans hgy1646
              have hgy1648 := up_n egy1589 hgy1647 (ne_o (i := i) (c := 18) (d := 21) rfl)
              have hgy1649 := up_n egy1595 hgy1648 (ne_o (i := i) (c := 18) (d := 0) rfl)
              have hgy1650 := up_n egy1467 hgy1457 (ne_o (i := i) (c := 19) (d := 20) rfl)
              have hgy1651 := up_n egy1479 hgy1650 (ne_o (i := i) (c := 19) (d := 21) rfl)
              have hgy1652 := up_n egy1490 hgy1651 (ne_o (i := i) (c := 19) (d := 20) rfl)
              have hgy1653 := (hfvy1500 (i + 19) (ne_o (i := i) (c := 19) (d := 0) rfl)).trans hgy1652
              have hgy1654 := (hfvy1584 (i + 19) (ne_o (i := i) (c := 19) (d := 0) rfl)).trans hgy1653
              have hgy1655 := up_n egy1589 hgy1654 (ne_o (i := i) (c := 19) (d := 21) rfl)
              have hgy1656 := up_n egy1595 hgy1655 (ne_o (i := i) (c := 19) (d := 0) rfl)
              have hgy1657 := (hfvy1584 (i + 20) (ne_o (i := i) (c := 20) (d := 0) rfl)).trans hgy1501
              have hgy1658 := up_n egy1589 hgy1657 (ne_o (i := i) (c := 20) (d := 21) rfl)
              have hgy1659 := up_n egy1595 hgy1658 (ne_o (i := i) (c := 20) (d := 0) rfl)
              have hgy1660 := up_n egy1595 hgy1590 (ne_o (i := i) (c := 21) (d := 0) rfl)
              have hgy1661 := (hfvy32 (i + 22) (ne_o (i := i) (c := 22) (d := 0) rfl)).trans ha22
              have hgy1662 := (hfvy34 (i + 22) (ne_o (i := i) (c := 22) (d := 0) rfl)).trans hgy1661
              have hgy1663 := (hfvy1448 (i + 22) (ne_o (i := i) (c := 22) (d := 0) rfl)).trans hgy1662
              have hgy1664 := (hfvy1450 (i + 22) (ne_o (i := i) (c := 22) (d := 0) rfl)).trans hgy1663
              have hgy1665 := up_n egy1456 hgy1664 (ne_o (i := i) (c := 22) (d := 19) rfl)
              have hgy1666 := up_n egy1467 hgy1665 (ne_o (i := i) (c := 22) (d := 20) rfl)
              have hgy1667 := up_n egy1479 hgy1666 (ne_o (i := i) (c := 22) (d := 21) rfl)
              have hgy1668 := up_n egy1490 hgy1667 (ne_o (i := i) (c := 22) (d := 20) rfl)
              have hgy1669 := (hfvy1500 (i + 22) (ne_o (i := i) (c := 22) (d := 0) rfl)).trans hgy1668
              have hgy1670 := (hfvy1584 (i + 22) (ne_o (i := i) (c := 22) (d := 0) rfl)).trans hgy1669
              have hgy1671 := up_n egy1589 hgy1670 (ne_o (i := i) (c := 22) (d := 21) rfl)
              have hgy1672 := up_n egy1595 hgy1671 (ne_o (i := i) (c := 22) (d := 0) rfl)
              have hgy1673 := (hfvy32 (i + 23) (ne_o (i := i) (c := 23) (d := 0) rfl)).trans ha23
              have hgy1674 := (hfvy34 (i + 23) (ne_o (i := i) (c := 23) (d := 0) rfl)).trans hgy1673
              have hgy1675 := (hfvy1448 (i + 23) (ne_o (i := i) (c := 23) (d := 0) rfl)).trans hgy1674
              have hgy1676 := (hfvy1450 (i + 23) (ne_o (i := i) (c := 23) (d := 0) rfl)).trans hgy1675
              have hgy1677 := up_n egy1456 hgy1676 (ne_o (i := i) (c := 23) (d := 19) rfl)
              have hgy1678 := up_n egy1467 hgy1677 (ne_o (i := i) (c := 23) (d := 20) rfl)
              have hgy1679 := up_n egy1479 hgy1678 (ne_o (i := i) (c := 23) (d := 21) rfl)
              have hgy1680 := up_n egy1490 hgy1679 (ne_o (i := i) (c := 23) (d := 20) rfl)
              have hgy1681 := (hfvy1500 (i + 23) (ne_o (i := i) (c := 23) (d := 0) rfl)).trans hgy1680
              have hgy1682 := (hfvy1584 (i + 23) (ne_o (i := i) (c := 23) (d := 0) rfl)).trans hgy1681
              have hgy1683 := up_n egy1589 hgy1682 (ne_o (i := i) (c := 23) (d := 21) rfl)
              have hgy1684 := up_n egy1595 hgy1683 (ne_o (i := i) (c := 23) (d := 0) rfl)
              have htxy1685 : okTx cs gy1594 i (uZ Fvy1584 48 ((F 48) + 1)) := ⟨_, _, _, _, _, _, _, _, ⟨hgy1625, hgy1637, hgy1649, hgy1656, hgy1659, hgy1660, hgy1672, hgy1684⟩, ⟨⟨by omega, by omega, by omega⟩, hop1, hmn1, haky1605, haky1608, htb1, hlay1613⟩⟩
              exact z_vret C hr hlk dX10_hour1_207 (by decide) (by decide) ⟨rfl, rfl, rfl, ⟨_, hgy1596, (RD.put hdvy1584 (by decide)), by omega, by omega, hFy1597, htxy1685⟩, fun j j1 j2 => by rw [egy1595, va_up_ne _ _ (by omega)]; rw [egy1589, va_up_ne _ _ (by omega)]; rw [hfvy1584 _ (by omega)]; rw [hfvy1500 _ (by omega)]; rw [egy1490, va_up_ne _ _ (by omega)]; rw [egy1479, va_up_ne _ _ (by omega)]; rw [egy1467, va_up_ne _ _ (by omega)]; rw [egy1456, va_up_ne _ _ (by omega)]; rw [hfvy1450 _ (by omega)]; rw [hfvy1448 _ (by omega)]; rw [hfvy34 _ (by omega)]; rw [hfvy32 _ (by omega)]⟩
          · clear hqvy1484
            refine z_if_ne (tgt := 147) C dX10_hour1_128 (by decide) (by omega) (fun h => absurd h (by omega)) (fun _ => ?_)
            refine z_aload_n C 2 dX10_hour1_131 rfl ?_
            refine z_iconst (z := 4) C dX10_hour1_132 rfl ?_
            have hey1687 : Fvy1450 38 = 0 := hxvy1450
            have hey1688 : Fvy1450 35 = Fvy1450 35 := rfl
            have hey1689 : Fvy1450 37 = Fvy1450 37 := rfl
            refine z_cV (As := [.int (zI (4))]) (rest := []) (ci := 12) C (c_X10_is l D A cs tt N ad _ i hN _ hgy1483 hdvy1450 (4) (by omega)) (by omega) hay1 hgy1483 rfl rfl mv_yX10_is q_1705 hd_yX10_is (by decide) (Nat.le_of_ble_eq_true rfl) (by decide) dX10_hour1_133 rfl (kI0 fun vy1686 gvy1686 hvy1686 => ?_)
            rw [hey1687, hey1688, hey1689] at hvy1686
            clear hey1687 hey1688 hey1689
            obtain ⟨hrvy1686, hqvy1686, rfl⟩ := hvy1686
            rcases (show vy1686 = 1 ∨ vy1686 = 0 by omega) with rfl | rfl
            · have hkvy1686 := hqvy1686 rfl
              clear hqvy1686
              refine z_if_ne (tgt := 147) C dX10_hour1_136 (by decide) (by omega) (fun _ => ?_) (fun h => absurd h (by omega))
              refine z_aload_n C 2 dX10_hour1_147 rfl ?_
              refine z_get (v := .ref (ad (i + 20))) C (by omega) hay1 hgy1483 rfl inA_X10 43 (by decide) q_1502 rfl rfl dX10_hour1_148 ?_
              refine z_aload_n C 2 dX10_hour1_151 rfl ?_
              refine z_get (v := .int (zI (F 48))) C (by omega) hay1 hgy1483 rfl inA_X10 48 (by decide) q_1507 rfl (fv (F := Fvy1450) (f := 48) ((hFvy1450 48 (by decide) (by decide) (by decide) (by decide) (by decide) (by decide) (by decide)).trans ((hFvy1448 48 (by decide) (by decide) (by decide) (by decide) (by decide)).trans ((hFvy34 48 (by decide) (by decide) (by decide) (by decide) (by decide)).trans (hFvy32 48 (by decide) (by decide)))))) dX10_hour1_152 ?_
              refine z_aload_n C 2 dX10_hour1_155 rfl ?_
              refine z_get (v := .int (zI (Fvy1450 37))) C (by omega) hay1 hgy1483 rfl inA_X10 37 (by decide) q_1496 rfl (fv (F := Fvy1450) (f := 37) rfl) dX10_hour1_156 ?_
              refine z_iconst (z := 3) C dX10_hour1_159 rfl ?_
              refine z_isub C dX10_hour1_160 ?_
              refine z_iconst (z := 1) C dX10_hour1_161 rfl ?_
              refine z_iadd C dX10_hour1_162 ?_
              have hgy1690 := up_n egy1479 hgy1468 (ne_o (i := i) (c := 20) (d := 21) rfl)
              refine z_iast C (by omega) hay7 hgy1690 ((F 48).toNat) (by omega) (by omega) (by decide) dX10_hour1_163 (fun gy1691 egy1692 => ?_)
              have hgy1693 := up_s egy1692
              obtain ⟨ry1694, hvy1695⟩ : ∃ rZ9 : Nat → Int, rZ9 = uZ ry1469 ((F 48).toNat) (((Fvy1450 37) - 3) + 1) := ⟨_, rfl⟩
              rw [← hvy1695] at hgy1693
              refine z_aload_n C 2 dX10_hour1_164 rfl ?_
              have hgy1696 := up_n egy1692 hgy1483 (ne_o (i := i) (c := 0) (d := 20) rfl)
              have hgy1697 := (hfvy1450 (i + 13) (ne_o (i := i) (c := 13) (d := 0) rfl)).trans hgy1449
              have hgy1698 := up_n egy1456 hgy1697 (ne_o (i := i) (c := 13) (d := 19) rfl)
              have hgy1699 := up_n egy1467 hgy1698 (ne_o (i := i) (c := 13) (d := 20) rfl)
              have hgy1700 := up_n egy1479 hgy1699 (ne_o (i := i) (c := 13) (d := 21) rfl)
              have hgy1701 := up_n egy1692 hgy1700 (ne_o (i := i) (c := 13) (d := 20) rfl)
              refine z_cV (As := []) (rest := []) (ci := 12) C (c_X10_go l D A cs tt N ad _ i hN _ hgy1696 _ hgy1701 htp hdvy1450) (by omega) hay1 hgy1696 rfl rfl mv_yX10_go q_1652 hd_yX10_go (by decide) (Nat.le_of_ble_eq_true rfl) (by decide) dX10_hour1_165 rfl (kV0 fun gvy1702 hvy1702 => ?_)
              obtain ⟨⟨Fvy1702, hcvy1702, hdvy1702, hlvy1702, hsvy1702, hFvy1702⟩, hfvy1702⟩ := hvy1702
              rw [show Fvy1450 32 = Fvy1450 32 from rfl] at hlvy1702 hsvy1702
              have h34vy1702 : Fvy1702 34 = F 34 := (hFvy1702 34 (by decide) (by decide) (by decide) (by decide) (by decide)).trans (((hFvy1450 34 (by decide) (by decide) (by decide) (by decide) (by decide) (by decide) (by decide)).trans ((hFvy1448 34 (by decide) (by decide) (by decide) (by decide) (by decide)).trans ((hFvy34 34 (by decide) (by decide) (by decide) (by decide) (by decide)).trans (hFvy32 34 (by decide) (by decide))))))
              obtain ⟨d32vy1702, -, d35vy1702, d36vy1702, -, d37vy1702, d38vy1702⟩ := id hdvy1702
              have h38vy1702 : Fvy1702 38 = 0 := ((hFvy1702 38 (by decide) (by decide) (by decide) (by decide) (by decide)).trans hxvy1450)
              clear hsvy1702
              refine z_aload_n C 2 dX10_hour1_168 rfl ?_
              refine z_get (v := .ref (ad (i + 20))) C (by omega) hay1 hcvy1702 rfl inA_X10 43 (by decide) q_1502 rfl rfl dX10_hour1_169 ?_
              refine z_aload_n C 2 dX10_hour1_172 rfl ?_
              refine z_get (v := .int (zI (F 48))) C (by omega) hay1 hcvy1702 rfl inA_X10 48 (by decide) q_1507 rfl (fv (F := Fvy1702) (f := 48) ((hFvy1702 48 (by decide) (by decide) (by decide) (by decide) (by decide)).trans ((hFvy1450 48 (by decide) (by decide) (by decide) (by decide) (by decide) (by decide) (by decide)).trans ((hFvy1448 48 (by decide) (by decide) (by decide) (by decide) (by decide)).trans ((hFvy34 48 (by decide) (by decide) (by decide) (by decide) (by decide)).trans (hFvy32 48 (by decide) (by decide))))))) dX10_hour1_173 ?_
              have hgy1703 := (hfvy1702 (i + 20) (ne_o (i := i) (c := 20) (d := 0) rfl)).trans hgy1693
              refine z_iald C (by omega) hay7 hgy1703 ((F 48).toNat) (by omega) (by omega) (by decide) dX10_hour1_176 ?_
              rw [show ry1694 ((F 48).toNat) = ((Fvy1450 37) - 3) + 1 from (congrFun hvy1695 _).trans (uZ_s _ _ _)]
              refine z_iconst (z := 3) C dX10_hour1_177 rfl ?_
              refine z_icmp_ge (tgt := 197) C dX10_hour1_178 (by decide) (by omega) (by omega) (fun hby1704 => ?_) (fun hby1704 => ?_)
              · refine z_aload_n C 2 dX10_hour1_197 rfl ?_
                refine z_dup C dX10_hour1_198 rfl ?_
                refine z_get (v := .int (zI (F 48))) C (by omega) hay1 hcvy1702 rfl inA_X10 48 (by decide) q_1507 rfl (fv (F := Fvy1702) (f := 48) ((hFvy1702 48 (by decide) (by decide) (by decide) (by decide) (by decide)).trans ((hFvy1450 48 (by decide) (by decide) (by decide) (by decide) (by decide) (by decide) (by decide)).trans ((hFvy1448 48 (by decide) (by decide) (by decide) (by decide) (by decide)).trans ((hFvy34 48 (by decide) (by decide) (by decide) (by decide) (by decide)).trans (hFvy32 48 (by decide) (by decide))))))) dX10_hour1_199 ?_
                refine z_iconst (z := 1) C dX10_hour1_202 rfl ?_
                refine z_iadd C dX10_hour1_203 ?_
                refine z_put (fs' := mF ad (i) (uZ Fvy1702 48 ((F 48) + 1))) C (by omega) hay1 hcvy1702 tyX10 tyX10_ok nmX10 rfl inA_X10 48 (by decide) q_1507 rfl rfl rfl rfl (Nat.le_of_ble_eq_true rfl) rfl dX10_hour1_204 (fun gy1705 egy1706 => ?_)
                have hgy1707 := up_s egy1706
                have hFy1708 : ∀ f, f ≠ 24 → f ≠ 32 → f ≠ 33 → f ≠ 35 → f ≠ 36 → f ≠ 37 → f ≠ 38 → f ≠ 47 → f ≠ 48 → f ≠ 49 → (uZ Fvy1702 48 ((F 48) + 1)) f = F f := fun f n24 n32 n33 n35 n36 n37 n38 n47 n48 n49 => ((uZ_n _ _ n48).trans ((hFvy1702 f n32 n33 n35 n36 n37).trans ((hFvy1450 f n24 n32 n33 n35 n36 n37 n38).trans ((hFvy1448 f n32 n33 n35 n36 n37).trans ((hFvy34 f n32 n33 n35 n36 n37).trans (hFvy32 f n24 n38))))))
                have hey1709 : (uZ Fvy1702 48 ((F 48) + 1)) 32 = Fvy1702 32 := (fn rfl (by decide))
                have hey1710 : (uZ Fvy1702 48 ((F 48) + 1)) 35 = Fvy1702 35 := (fn rfl (by decide))
                have hey1711 : (uZ Fvy1702 48 ((F 48) + 1)) 38 = 0 := (fn ((hFvy1702 38 (by decide) (by decide) (by decide) (by decide) (by decide)).trans hxvy1450) (by decide))
                have hey1712 : (uZ Fvy1702 48 ((F 48) + 1)) 32 = Fvy1702 32 := (fn rfl (by decide))
                have hey1713 : (uZ Fvy1702 48 ((F 48) + 1)) 47 = F 47 := (fn ((hFvy1702 47 (by decide) (by decide) (by decide) (by decide) (by decide)).trans ((hFvy1450 47 (by decide) (by decide) (by decide) (by decide) (by decide) (by decide) (by decide)).trans ((hFvy1448 47 (by decide) (by decide) (by decide) (by decide) (by decide)).trans ((hFvy34 47 (by decide) (by decide) (by decide) (by decide) (by decide)).trans (hFvy32 47 (by decide) (by decide)))))) (by decide))
                have hey1714 : (uZ Fvy1702 48 ((F 48) + 1)) 48 = (F 48) + 1 := (uZ_s _ _ _)
                have hey1715 : (uZ Fvy1702 48 ((F 48) + 1)) 49 = F 49 := (fn ((hFvy1702 49 (by decide) (by decide) (by decide) (by decide) (by decide)).trans ((hFvy1450 49 (by decide) (by decide) (by decide) (by decide) (by decide) (by decide) (by decide)).trans ((hFvy1448 49 (by decide) (by decide) (by decide) (by decide) (by decide)).trans ((hFvy34 49 (by decide) (by decide) (by decide) (by decide) (by decide)).trans (hFvy32 49 (by decide) (by decide)))))) (by decide))
                have hfry1717 : ∀ j, j ≠ (F 48).toNat → ry1458 j = ai1 j := fun j n0 => (congrFun hvy1459 _).trans ((uZ_n _ _ n0).trans (rfl))
                have hwy1718 : ry1458 ((F 48).toNat) = -(vy1450) := (congrFun hvy1459 _).trans (uZ_s _ _ _)
                have haky1716 : ∀ k, k < 24 → -300 ≤ ry1458 k ∧ ry1458 k ≤ 100 := by
                  intro k hk
                  by_cases e : k = (F 48).toNat
                  · rw [e]; have hk0 := hai1 ((F 48).toNat) (by omega); omega
                  · have hk0 := hai1 k hk; rw [hfry1717 k e]; exact hk0
                have hfry1720 : ∀ j, j ≠ (F 48).toNat → ry1694 j = fa1 j := fun j n0 => (congrFun hvy1695 _).trans ((uZ_n _ _ n0).trans ((congrFun hvy1470 _).trans ((uZ_n _ _ n0).trans (rfl))))
                have hfry1721 : ∀ j, j ≠ (F 48).toNat → ry1481 j = mu1 j := fun j n0 => (congrFun hvy1482 _).trans ((uZ_n _ _ n0).trans (rfl))
                have hwy1722 : ry1694 ((F 48).toNat) = ((Fvy1450 37) - 3) + 1 := (congrFun hvy1695 _).trans (uZ_s _ _ _)
                have hwy1723 : ry1481 ((F 48).toNat) = 0 := (congrFun hvy1482 _).trans (uZ_s _ _ _)
                have haky1719 : ∀ k, k < 24 → (0 ≤ ry1694 k ∧ ry1694 k ≤ 3) ∧ (0 ≤ ry1481 k ∧ ry1481 k ≤ 50) ∧ (ry1694 k = 1 ∨ ry1694 k = 2 → 1 ≤ ry1481 k) := by
                  intro k hk
                  by_cases e : k = (F 48).toNat
                  · rw [e]; have hk0 := hfa1 ((F 48).toNat) (by omega); omega
                  · have hk0 := hfa1 k hk; rw [hfry1720 k e]; rw [hfry1721 k e]; exact hk0
                have hlay1724 : ∀ s l : Nat, (s : Int) < (uZ Fvy1702 48 ((F 48) + 1)) 47 → (l : Int) < mn1 s → lyT ly1 (84 * s + 7 * l) := fun s l a1 a2 => hly1 s l (by omega) a2
                have hgy1725 := (hfvy32 (i + 16) (ne_o (i := i) (c := 16) (d := 0) rfl)).trans ha16
                have hgy1726 := (hfvy34 (i + 16) (ne_o (i := i) (c := 16) (d := 0) rfl)).trans hgy1725
                have hgy1727 := (hfvy1448 (i + 16) (ne_o (i := i) (c := 16) (d := 0) rfl)).trans hgy1726
                have hgy1728 := (hfvy1450 (i + 16) (ne_o (i := i) (c := 16) (d := 0) rfl)).trans hgy1727
                have hgy1729 := up_n egy1456 hgy1728 (ne_o (i := i) (c := 16) (d := 19) rfl)
                have hgy1730 := up_n egy1467 hgy1729 (ne_o (i := i) (c := 16) (d := 20) rfl)
                have hgy1731 := up_n egy1479 hgy1730 (ne_o (i := i) (c := 16) (d := 21) rfl)
                have hgy1732 := up_n egy1692 hgy1731 (ne_o (i := i) (c := 16) (d := 20) rfl)
                have hgy1733 := (hfvy1702 (i + 16) (ne_o (i := i) (c := 16) (d := 0) rfl)).trans hgy1732
                have hgy1734 := up_n egy1706 hgy1733 (ne_o (i := i) (c := 16) (d := 0) rfl)
                have hgy1735 := (hfvy32 (i + 17) (ne_o (i := i) (c := 17) (d := 0) rfl)).trans ha17
                have hgy1736 := (hfvy34 (i + 17) (ne_o (i := i) (c := 17) (d := 0) rfl)).trans hgy1735
                have hgy1737 := (hfvy1448 (i + 17) (ne_o (i := i) (c := 17) (d := 0) rfl)).trans hgy1736
                have hgy1738 := (hfvy1450 (i + 17) (ne_o (i := i) (c := 17) (d := 0) rfl)).trans hgy1737
                have hgy1739 := up_n egy1456 hgy1738 (ne_o (i := i) (c := 17) (d := 19) rfl)
                have hgy1740 := up_n egy1467 hgy1739 (ne_o (i := i) (c := 17) (d := 20) rfl)
                have hgy1741 := up_n egy1479 hgy1740 (ne_o (i := i) (c := 17) (d := 21) rfl)
                have hgy1742 := up_n egy1692 hgy1741 (ne_o (i := i) (c := 17) (d := 20) rfl)
                have hgy1743 := (hfvy1702 (i + 17) (ne_o (i := i) (c := 17) (d := 0) rfl)).trans hgy1742
                have hgy1744 := up_n egy1706 hgy1743 (ne_o (i := i) (c := 17) (d := 0) rfl)
                have hgy1745 := (hfvy32 (i + 18) (ne_o (i := i) (c := 18) (d := 0) rfl)).trans ha18
                have hgy1746 := (hfvy34 (i + 18) (ne_o (i := i) (c := 18) (d := 0) rfl)).trans hgy1745
                have hgy1747 := (hfvy1448 (i + 18) (ne_o (i := i) (c := 18) (d := 0) rfl)).trans hgy1746
                have hgy1748 := (hfvy1450 (i + 18) (ne_o (i := i) (c := 18) (d := 0) rfl)).trans hgy1747
                have hgy1749 := up_n egy1456 hgy1748 (ne_o (i := i) (c := 18) (d := 19) rfl)
                have hgy1750 := up_n egy1467 hgy1749 (ne_o (i := i) (c := 18) (d := 20) rfl)
                have hgy1751 := up_n egy1479 hgy1750 (ne_o (i := i) (c := 18) (d := 21) rfl)
                have hgy1752 := up_n egy1692 hgy1751 (ne_o (i := i) (c := 18) (d := 20) rfl)
                have hgy1753 := (hfvy1702 (i + 18) (ne_o (i := i) (c := 18) (d := 0) rfl)).trans hgy1752
                have hgy1754 := up_n egy1706 hgy1753 (ne_o (i := i) (c := 18) (d := 0) rfl)
                have hgy1755 := up_n egy1467 hgy1457 (ne_o (i := i) (c := 19) (d := 20) rfl)
                have hgy1756 := up_n egy1479 hgy1755 (ne_o (i := i) (c := 19) (d := 21) rfl)
                have hgy1757 := up_n egy1692 hgy1756 (ne_o (i := i) (c := 19) (d := 20) rfl)
                have hgy1758 := (hfvy1702 (i + 19) (ne_o (i := i) (c := 19) (d := 0) rfl)).trans hgy1757
                have hgy1759 := up_n egy1706 hgy1758 (ne_o (i := i) (c := 19) (d := 0) rfl)
                have hgy1760 := up_n egy1706 hgy1703 (ne_o (i := i) (c := 20) (d := 0) rfl)
                have hgy1761 := up_n egy1692 hgy1480 (ne_o (i := i) (c := 21) (d := 20) rfl)
                have hgy1762 := (hfvy1702 (i + 21) (ne_o (i := i) (c := 21) (d := 0) rfl)).trans hgy1761
                have hgy1763 := up_n egy1706 hgy1762 (ne_o (i := i) (c := 21) (d := 0) rfl)
                have hgy1764 := (hfvy32 (i + 22) (ne_o (i := i) (c := 22) (d := 0) rfl)).trans ha22
                have hgy1765 := (hfvy34 (i + 22) (ne_o (i := i) (c := 22) (d := 0) rfl)).trans hgy1764
                have hgy1766 := (hfvy1448 (i + 22) (ne_o (i := i) (c := 22) (d := 0) rfl)).trans hgy1765
                have hgy1767 := (hfvy1450 (i + 22) (ne_o (i := i) (c := 22) (d := 0) rfl)).trans hgy1766
                have hgy1768 := up_n egy1456 hgy1767 (ne_o (i := i) (c := 22) (d := 19) rfl)
                have hgy1769 := up_n egy1467 hgy1768 (ne_o (i := i) (c := 22) (d := 20) rfl)
                have hgy1770 := up_n egy1479 hgy1769 (ne_o (i := i) (c := 22) (d := 21) rfl)
                have hgy1771 := up_n egy1692 hgy1770 (ne_o (i := i) (c := 22) (d := 20) rfl)
                have hgy1772 := (hfvy1702 (i + 22) (ne_o (i := i) (c := 22) (d := 0) rfl)).trans hgy1771
                have hgy1773 := up_n egy1706 hgy1772 (ne_o (i := i) (c := 22) (d := 0) rfl)
                have hgy1774 := (hfvy32 (i + 23) (ne_o (i := i) (c := 23) (d := 0) rfl)).trans ha23
                have hgy1775 := (hfvy34 (i + 23) (ne_o (i := i) (c := 23) (d := 0) rfl)).trans hgy1774
                have hgy1776 := (hfvy1448 (i + 23) (ne_o (i := i) (c := 23) (d := 0) rfl)).trans hgy1775
                have hgy1777 := (hfvy1450 (i + 23) (ne_o (i := i) (c := 23) (d := 0) rfl)).trans hgy1776
                have hgy1778 := up_n egy1456 hgy1777 (ne_o (i := i) (c := 23) (d := 19) rfl)
                have hgy1779 := up_n egy1467 hgy1778 (ne_o (i := i) (c := 23) (d := 20) rfl)
                have hgy1780 := up_n egy1479 hgy1779 (ne_o (i := i) (c := 23) (d := 21) rfl)
                have hgy1781 := up_n egy1692 hgy1780 (ne_o (i := i) (c := 23) (d := 20) rfl)
                have hgy1782 := (hfvy1702 (i + 23) (ne_o (i := i) (c := 23) (d := 0) rfl)).trans hgy1781
                have hgy1783 := up_n egy1706 hgy1782 (ne_o (i := i) (c := 23) (d := 0) rfl)
                have htxy1784 : okTx cs gy1705 i (uZ Fvy1702 48 ((F 48) + 1)) := ⟨_, _, _, _, _, _, _, _, ⟨hgy1734, hgy1744, hgy1754, hgy1759, hgy1760, hgy1763, hgy1773, hgy1783⟩, ⟨⟨by omega, by omega, by omega⟩, hop1, hmn1, haky1716, haky1719, htb1, hlay1724⟩⟩
                exact z_vret C hr hlk dX10_hour1_207 (by decide) (by decide) ⟨rfl, rfl, rfl, ⟨_, hgy1707, (RD.put hdvy1702 (by decide)), by omega, by omega, hFy1708, htxy1784⟩, fun j j1 j2 => by rw [egy1706, va_up_ne _ _ (by omega)]; rw [hfvy1702 _ (by omega)]; rw [egy1692, va_up_ne _ _ (by omega)]; rw [egy1479, va_up_ne _ _ (by omega)]; rw [egy1467, va_up_ne _ _ (by omega)]; rw [egy1456, va_up_ne _ _ (by omega)]; rw [hfvy1450 _ (by omega)]; rw [hfvy1448 _ (by omega)]; rw [hfvy34 _ (by omega)]; rw [hfvy32 _ (by omega)]⟩
              · refine z_aload_n C 2 dX10_hour1_181 rfl ?_
                refine z_get (v := .ref (ad (i + 21))) C (by omega) hay1 hcvy1702 rfl inA_X10 44 (by decide) q_1503 rfl rfl dX10_hour1_182 ?_
                refine z_aload_n C 2 dX10_hour1_185 rfl ?_
                refine z_get (v := .int (zI (F 48))) C (by omega) hay1 hcvy1702 rfl inA_X10 48 (by decide) q_1507 rfl (fv (F := Fvy1702) (f := 48) ((hFvy1702 48 (by decide) (by decide) (by decide) (by decide) (by decide)).trans ((hFvy1450 48 (by decide) (by decide) (by decide) (by decide) (by decide) (by decide) (by decide)).trans ((hFvy1448 48 (by decide) (by decide) (by decide) (by decide) (by decide)).trans ((hFvy34 48 (by decide) (by decide) (by decide) (by decide) (by decide)).trans (hFvy32 48 (by decide) (by decide))))))) dX10_hour1_186 ?_
                refine z_aload_n C 2 dX10_hour1_189 rfl ?_
                refine z_iconst (z := 1) C dX10_hour1_190 rfl ?_
                refine z_bipush (z := 50) C dX10_hour1_191 (by decide) ?_
                have hgy1785 := (hfvy1702 (i + 13) (ne_o (i := i) (c := 13) (d := 0) rfl)).trans hgy1701
                refine z_cV (As := [.int (zI (1)), .int (zI (50))]) (rest := [.int (zI (F 48)), .ref (ad (i + 21))]) (ci := 12) C (c_X10_number l D A cs tt N ad _ i hN _ hcvy1702 _ hgy1785 htp hdvy1702 (1) (by omega) (50) (by omega)) (by omega) hay1 hcvy1702 rfl rfl mv_yX10_number q_1682 hd_yX10_number (by decide) (Nat.le_of_ble_eq_true rfl) (by decide) dX10_hour1_193 rfl (kI0 fun vy1786 gvy1786 hvy1786 => ?_)
                obtain ⟨hrvy1786, ⟨Fvy1786, hcvy1786, hdvy1786, hlvy1786, hsvy1786, hFvy1786⟩, hfvy1786⟩ := hvy1786
                rw [show Fvy1702 32 = Fvy1702 32 from rfl] at hlvy1786
                rw [show Fvy1702 38 = 0 from ((hFvy1702 38 (by decide) (by decide) (by decide) (by decide) (by decide)).trans hxvy1450), show Fvy1702 35 = Fvy1702 35 from rfl] at hsvy1786
                have h34vy1786 : Fvy1786 34 = F 34 := (hFvy1786 34 (by decide) (by decide) (by decide) (by decide) (by decide) (by decide) (by decide)).trans (((hFvy1702 34 (by decide) (by decide) (by decide) (by decide) (by decide)).trans ((hFvy1450 34 (by decide) (by decide) (by decide) (by decide) (by decide) (by decide) (by decide)).trans ((hFvy1448 34 (by decide) (by decide) (by decide) (by decide) (by decide)).trans ((hFvy34 34 (by decide) (by decide) (by decide) (by decide) (by decide)).trans (hFvy32 34 (by decide) (by decide)))))))
                obtain ⟨d32vy1786, -, d35vy1786, d36vy1786, -, d37vy1786, d38vy1786⟩ := id hdvy1786
                clear hsvy1786
                have hgy1787 := up_n egy1692 hgy1480 (ne_o (i := i) (c := 21) (d := 20) rfl)
                have hgy1788 := (hfvy1702 (i + 21) (ne_o (i := i) (c := 21) (d := 0) rfl)).trans hgy1787
                have hgy1789 := (hfvy1786 (i + 21) (ne_o (i := i) (c := 21) (d := 0) rfl)).trans hgy1788
                refine z_iast C (by omega) hay8 hgy1789 ((F 48).toNat) (by omega) (by omega) (by decide) dX10_hour1_196 (fun gy1790 egy1791 => ?_)
                have hgy1792 := up_s egy1791
                obtain ⟨ry1793, hvy1794⟩ : ∃ rZ9 : Nat → Int, rZ9 = uZ ry1481 ((F 48).toNat) (vy1786) := ⟨_, rfl⟩
                rw [← hvy1794] at hgy1792
                refine z_aload_n C 2 dX10_hour1_197 rfl ?_
                refine z_dup C dX10_hour1_198 rfl ?_
                have hgy1795 := up_n egy1791 hcvy1786 (ne_o (i := i) (c := 0) (d := 21) rfl)
                refine z_get (v := .int (zI (F 48))) C (by omega) hay1 hgy1795 rfl inA_X10 48 (by decide) q_1507 rfl (fv (F := Fvy1786) (f := 48) ((hFvy1786 48 (by decide) (by decide) (by decide) (by decide) (by decide) (by decide) (by decide)).trans ((hFvy1702 48 (by decide) (by decide) (by decide) (by decide) (by decide)).trans ((hFvy1450 48 (by decide) (by decide) (by decide) (by decide) (by decide) (by decide) (by decide)).trans ((hFvy1448 48 (by decide) (by decide) (by decide) (by decide) (by decide)).trans ((hFvy34 48 (by decide) (by decide) (by decide) (by decide) (by decide)).trans (hFvy32 48 (by decide) (by decide)))))))) dX10_hour1_199 ?_
                refine z_iconst (z := 1) C dX10_hour1_202 rfl ?_
                refine z_iadd C dX10_hour1_203 ?_
                refine z_put (fs' := mF ad (i) (uZ Fvy1786 48 ((F 48) + 1))) C (by omega) hay1 hgy1795 tyX10 tyX10_ok nmX10 rfl inA_X10 48 (by decide) q_1507 rfl rfl rfl rfl (Nat.le_of_ble_eq_true rfl) rfl dX10_hour1_204 (fun gy1796 egy1797 => ?_)
                have hgy1798 := up_s egy1797
                have hFy1799 : ∀ f, f ≠ 24 → f ≠ 32 → f ≠ 33 → f ≠ 35 → f ≠ 36 → f ≠ 37 → f ≠ 38 → f ≠ 47 → f ≠ 48 → f ≠ 49 → (uZ Fvy1786 48 ((F 48) + 1)) f = F f := fun f n24 n32 n33 n35 n36 n37 n38 n47 n48 n49 => ((uZ_n _ _ n48).trans ((hFvy1786 f n24 n32 n33 n35 n36 n37 n38).trans ((hFvy1702 f n32 n33 n35 n36 n37).trans ((hFvy1450 f n24 n32 n33 n35 n36 n37 n38).trans ((hFvy1448 f n32 n33 n35 n36 n37).trans ((hFvy34 f n32 n33 n35 n36 n37).trans (hFvy32 f n24 n38)))))))
                have hey1800 : (uZ Fvy1786 48 ((F 48) + 1)) 32 = Fvy1786 32 := (fn rfl (by decide))
                have hey1801 : (uZ Fvy1786 48 ((F 48) + 1)) 35 = Fvy1786 35 := (fn rfl (by decide))
                have hey1802 : (uZ Fvy1786 48 ((F 48) + 1)) 38 = Fvy1786 38 := (fn rfl (by decide))
                have hey1803 : (uZ Fvy1786 48 ((F 48) + 1)) 32 = Fvy1786 32 := (fn rfl (by decide))
                have hey1804 : (uZ Fvy1786 48 ((F 48) + 1)) 47 = F 47 := (fn ((hFvy1786 47 (by decide) (by decide) (by decide) (by decide) (by decide) (by decide) (by decide)).trans ((hFvy1702 47 (by decide) (by decide) (by decide) (by decide) (by decide)).trans ((hFvy1450 47 (by decide) (by decide) (by decide) (by decide) (by decide) (by decide) (by decide)).trans ((hFvy1448 47 (by decide) (by decide) (by decide) (by decide) (by decide)).trans ((hFvy34 47 (by decide) (by decide) (by decide) (by decide) (by decide)).trans (hFvy32 47 (by decide) (by decide))))))) (by decide))
                have hey1805 : (uZ Fvy1786 48 ((F 48) + 1)) 48 = (F 48) + 1 := (uZ_s _ _ _)
                have hey1806 : (uZ Fvy1786 48 ((F 48) + 1)) 49 = F 49 := (fn ((hFvy1786 49 (by decide) (by decide) (by decide) (by decide) (by decide) (by decide) (by decide)).trans ((hFvy1702 49 (by decide) (by decide) (by decide) (by decide) (by decide)).trans ((hFvy1450 49 (by decide) (by decide) (by decide) (by decide) (by decide) (by decide) (by decide)).trans ((hFvy1448 49 (by decide) (by decide) (by decide) (by decide) (by decide)).trans ((hFvy34 49 (by decide) (by decide) (by decide) (by decide) (by decide)).trans (hFvy32 49 (by decide) (by decide))))))) (by decide))
                have hfry1808 : ∀ j, j ≠ (F 48).toNat → ry1458 j = ai1 j := fun j n0 => (congrFun hvy1459 _).trans ((uZ_n _ _ n0).trans (rfl))
                have hwy1809 : ry1458 ((F 48).toNat) = -(vy1450) := (congrFun hvy1459 _).trans (uZ_s _ _ _)
                have haky1807 : ∀ k, k < 24 → -300 ≤ ry1458 k ∧ ry1458 k ≤ 100 := by
                  intro k hk
                  by_cases e : k = (F 48).toNat
                  · rw [e]; have hk0 := hai1 ((F 48).toNat) (by omega); omega
                  · have hk0 := hai1 k hk; rw [hfry1808 k e]; exact hk0
                have hfry1811 : ∀ j, j ≠ (F 48).toNat → ry1694 j = fa1 j := fun j n0 => (congrFun hvy1695 _).trans ((uZ_n _ _ n0).trans ((congrFun hvy1470 _).trans ((uZ_n _ _ n0).trans (rfl))))
                have hfry1812 : ∀ j, j ≠ (F 48).toNat → ry1793 j = mu1 j := fun j n0 => (congrFun hvy1794 _).trans ((uZ_n _ _ n0).trans ((congrFun hvy1482 _).trans ((uZ_n _ _ n0).trans (rfl))))
                have hwy1813 : ry1694 ((F 48).toNat) = ((Fvy1450 37) - 3) + 1 := (congrFun hvy1695 _).trans (uZ_s _ _ _)
                have hwy1814 : ry1793 ((F 48).toNat) = vy1786 := (congrFun hvy1794 _).trans (uZ_s _ _ _)
                have haky1810 : ∀ k, k < 24 → (0 ≤ ry1694 k ∧ ry1694 k ≤ 3) ∧ (0 ≤ ry1793 k ∧ ry1793 k ≤ 50) ∧ (ry1694 k = 1 ∨ ry1694 k = 2 → 1 ≤ ry1793 k) := by
                  intro k hk
                  by_cases e : k = (F 48).toNat
                  · rw [e]; have hk0 := hfa1 ((F 48).toNat) (by omega); omega
                  · have hk0 := hfa1 k hk; rw [hfry1811 k e]; rw [hfry1812 k e]; exact hk0
                have hlay1815 : ∀ s l : Nat, (s : Int) < (uZ Fvy1786 48 ((F 48) + 1)) 47 → (l : Int) < mn1 s → lyT ly1 (84 * s + 7 * l) := fun s l a1 a2 => hly1 s l (by omega) a2
                have hgy1816 := (hfvy32 (i + 16) (ne_o (i := i) (c := 16) (d := 0) rfl)).trans ha16
                have hgy1817 := (hfvy34 (i + 16) (ne_o (i := i) (c := 16) (d := 0) rfl)).trans hgy1816
                have hgy1818 := (hfvy1448 (i + 16) (ne_o (i := i) (c := 16) (d := 0) rfl)).trans hgy1817
                have hgy1819 := (hfvy1450 (i + 16) (ne_o (i := i) (c := 16) (d := 0) rfl)).trans hgy1818
                have hgy1820 := up_n egy1456 hgy1819 (ne_o (i := i) (c := 16) (d := 19) rfl)
                have hgy1821 := up_n egy1467 hgy1820 (ne_o (i := i) (c := 16) (d := 20) rfl)
                have hgy1822 := up_n egy1479 hgy1821 (ne_o (i := i) (c := 16) (d := 21) rfl)
                have hgy1823 := up_n egy1692 hgy1822 (ne_o (i := i) (c := 16) (d := 20) rfl)
                have hgy1824 := (hfvy1702 (i + 16) (ne_o (i := i) (c := 16) (d := 0) rfl)).trans hgy1823
                have hgy1825 := (hfvy1786 (i + 16) (ne_o (i := i) (c := 16) (d := 0) rfl)).trans hgy1824
                have hgy1826 := up_n egy1791 hgy1825 (ne_o (i := i) (c := 16) (d := 21) rfl)
                have hgy1827 := up_n egy1797 hgy1826 (ne_o (i := i) (c := 16) (d := 0) rfl)
                have hgy1828 := (hfvy32 (i + 17) (ne_o (i := i) (c := 17) (d := 0) rfl)).trans ha17
                have hgy1829 := (hfvy34 (i + 17) (ne_o (i := i) (c := 17) (d := 0) rfl)).trans hgy1828
                have hgy1830 := (hfvy1448 (i + 17) (ne_o (i := i) (c := 17) (d := 0) rfl)).trans hgy1829
                have hgy1831 := (hfvy1450 (i + 17) (ne_o (i := i) (c := 17) (d := 0) rfl)).trans hgy1830
                have hgy1832 := up_n egy1456 hgy1831 (ne_o (i := i) (c := 17) (d := 19) rfl)
                have hgy1833 := up_n egy1467 hgy1832 (ne_o (i := i) (c := 17) (d := 20) rfl)
                have hgy1834 := up_n egy1479 hgy1833 (ne_o (i := i) (c := 17) (d := 21) rfl)
                have hgy1835 := up_n egy1692 hgy1834 (ne_o (i := i) (c := 17) (d := 20) rfl)
                have hgy1836 := (hfvy1702 (i + 17) (ne_o (i := i) (c := 17) (d := 0) rfl)).trans hgy1835
                have hgy1837 := (hfvy1786 (i + 17) (ne_o (i := i) (c := 17) (d := 0) rfl)).trans hgy1836
                have hgy1838 := up_n egy1791 hgy1837 (ne_o (i := i) (c := 17) (d := 21) rfl)
                have hgy1839 := up_n egy1797 hgy1838 (ne_o (i := i) (c := 17) (d := 0) rfl)
                have hgy1840 := (hfvy32 (i + 18) (ne_o (i := i) (c := 18) (d := 0) rfl)).trans ha18
                have hgy1841 := (hfvy34 (i + 18) (ne_o (i := i) (c := 18) (d := 0) rfl)).trans hgy1840
                have hgy1842 := (hfvy1448 (i + 18) (ne_o (i := i) (c := 18) (d := 0) rfl)).trans hgy1841
                have hgy1843 := (hfvy1450 (i + 18) (ne_o (i := i) (c := 18) (d := 0) rfl)).trans hgy1842
                have hgy1844 := up_n egy1456 hgy1843 (ne_o (i := i) (c := 18) (d := 19) rfl)
                have hgy1845 := up_n egy1467 hgy1844 (ne_o (i := i) (c := 18) (d := 20) rfl)
                have hgy1846 := up_n egy1479 hgy1845 (ne_o (i := i) (c := 18) (d := 21) rfl)
                have hgy1847 := up_n egy1692 hgy1846 (ne_o (i := i) (c := 18) (d := 20) rfl)
                have hgy1848 := (hfvy1702 (i + 18) (ne_o (i := i) (c := 18) (d := 0) rfl)).trans hgy1847
                have hgy1849 := (hfvy1786 (i + 18) (ne_o (i := i) (c := 18) (d := 0) rfl)).trans hgy1848
                have hgy1850 := up_n egy1791 hgy1849 (ne_o (i := i) (c := 18) (d := 21) rfl)
                have hgy1851 := up_n egy1797 hgy1850 (ne_o (i := i) (c := 18) (d := 0) rfl)
                have hgy1852 := up_n egy1467 hgy1457 (ne_o (i := i) (c := 19) (d := 20) rfl)
                have hgy1853 := up_n egy1479 hgy1852 (ne_o (i := i) (c := 19) (d := 21) rfl)
                have hgy1854 := up_n egy1692 hgy1853 (ne_o (i := i) (c := 19) (d := 20) rfl)
                have hgy1855 := (hfvy1702 (i + 19) (ne_o (i := i) (c := 19) (d := 0) rfl)).trans hgy1854
                have hgy1856 := (hfvy1786 (i + 19) (ne_o (i := i) (c := 19) (d := 0) rfl)).trans hgy1855
                have hgy1857 := up_n egy1791 hgy1856 (ne_o (i := i) (c := 19) (d := 21) rfl)
                have hgy1858 := up_n egy1797 hgy1857 (ne_o (i := i) (c := 19) (d := 0) rfl)
                have hgy1859 := (hfvy1786 (i + 20) (ne_o (i := i) (c := 20) (d := 0) rfl)).trans hgy1703
                have hgy1860 := up_n egy1791 hgy1859 (ne_o (i := i) (c := 20) (d := 21) rfl)
                have hgy1861 := up_n egy1797 hgy1860 (ne_o (i := i) (c := 20) (d := 0) rfl)
                have hgy1862 := up_n egy1797 hgy1792 (ne_o (i := i) (c := 21) (d := 0) rfl)
                have hgy1863 := (hfvy32 (i + 22) (ne_o (i := i) (c := 22) (d := 0) rfl)).trans ha22
                have hgy1864 := (hfvy34 (i + 22) (ne_o (i := i) (c := 22) (d := 0) rfl)).trans hgy1863
                have hgy1865 := (hfvy1448 (i + 22) (ne_o (i := i) (c := 22) (d := 0) rfl)).trans hgy1864
                have hgy1866 := (hfvy1450 (i + 22) (ne_o (i := i) (c := 22) (d := 0) rfl)).trans hgy1865
                have hgy1867 := up_n egy1456 hgy1866 (ne_o (i := i) (c := 22) (d := 19) rfl)
                have hgy1868 := up_n egy1467 hgy1867 (ne_o (i := i) (c := 22) (d := 20) rfl)
                have hgy1869 := up_n egy1479 hgy1868 (ne_o (i := i) (c := 22) (d := 21) rfl)
                have hgy1870 := up_n egy1692 hgy1869 (ne_o (i := i) (c := 22) (d := 20) rfl)
                have hgy1871 := (hfvy1702 (i + 22) (ne_o (i := i) (c := 22) (d := 0) rfl)).trans hgy1870
                have hgy1872 := (hfvy1786 (i + 22) (ne_o (i := i) (c := 22) (d := 0) rfl)).trans hgy1871
                have hgy1873 := up_n egy1791 hgy1872 (ne_o (i := i) (c := 22) (d := 21) rfl)
                have hgy1874 := up_n egy1797 hgy1873 (ne_o (i := i) (c := 22) (d := 0) rfl)
                have hgy1875 := (hfvy32 (i + 23) (ne_o (i := i) (c := 23) (d := 0) rfl)).trans ha23
                have hgy1876 := (hfvy34 (i + 23) (ne_o (i := i) (c := 23) (d := 0) rfl)).trans hgy1875
                have hgy1877 := (hfvy1448 (i + 23) (ne_o (i := i) (c := 23) (d := 0) rfl)).trans hgy1876
                have hgy1878 := (hfvy1450 (i + 23) (ne_o (i := i) (c := 23) (d := 0) rfl)).trans hgy1877
                have hgy1879 := up_n egy1456 hgy1878 (ne_o (i := i) (c := 23) (d := 19) rfl)
                have hgy1880 := up_n egy1467 hgy1879 (ne_o (i := i) (c := 23) (d := 20) rfl)
                have hgy1881 := up_n egy1479 hgy1880 (ne_o (i := i) (c := 23) (d := 21) rfl)
                have hgy1882 := up_n egy1692 hgy1881 (ne_o (i := i) (c := 23) (d := 20) rfl)
                have hgy1883 := (hfvy1702 (i + 23) (ne_o (i := i) (c := 23) (d := 0) rfl)).trans hgy1882
                have hgy1884 := (hfvy1786 (i + 23) (ne_o (i := i) (c := 23) (d := 0) rfl)).trans hgy1883
                have hgy1885 := up_n egy1791 hgy1884 (ne_o (i := i) (c := 23) (d := 21) rfl)
                have hgy1886 := up_n egy1797 hgy1885 (ne_o (i := i) (c := 23) (d := 0) rfl)
                have htxy1887 : okTx cs gy1796 i (uZ Fvy1786 48 ((F 48) + 1)) := ⟨_, _, _, _, _, _, _, _, ⟨hgy1827, hgy1839, hgy1851, hgy1858, hgy1861, hgy1862, hgy1874, hgy1886⟩, ⟨⟨by omega, by omega, by omega⟩, hop1, hmn1, haky1807, haky1810, htb1, hlay1815⟩⟩
                exact z_vret C hr hlk dX10_hour1_207 (by decide) (by decide) ⟨rfl, rfl, rfl, ⟨_, hgy1798, (RD.put hdvy1786 (by decide)), by omega, by omega, hFy1799, htxy1887⟩, fun j j1 j2 => by rw [egy1797, va_up_ne _ _ (by omega)]; rw [egy1791, va_up_ne _ _ (by omega)]; rw [hfvy1786 _ (by omega)]; rw [hfvy1702 _ (by omega)]; rw [egy1692, va_up_ne _ _ (by omega)]; rw [egy1479, va_up_ne _ _ (by omega)]; rw [egy1467, va_up_ne _ _ (by omega)]; rw [egy1456, va_up_ne _ _ (by omega)]; rw [hfvy1450 _ (by omega)]; rw [hfvy1448 _ (by omega)]; rw [hfvy34 _ (by omega)]; rw [hfvy32 _ (by omega)]⟩
            · clear hqvy1686
              refine z_if_ne (tgt := 147) C dX10_hour1_136 (by decide) (by omega) (fun h => absurd h (by omega)) (fun _ => ?_)
              refine z_aload_n C 2 dX10_hour1_139 rfl ?_
              refine z_iconst (z := 5) C dX10_hour1_140 rfl ?_
              have hey1889 : Fvy1450 38 = 0 := hxvy1450
              have hey1890 : Fvy1450 35 = Fvy1450 35 := rfl
              have hey1891 : Fvy1450 37 = Fvy1450 37 := rfl
              refine z_cV (As := [.int (zI (5))]) (rest := []) (ci := 12) C (c_X10_is l D A cs tt N ad _ i hN _ hgy1483 hdvy1450 (5) (by omega)) (by omega) hay1 hgy1483 rfl rfl mv_yX10_is q_1705 hd_yX10_is (by decide) (Nat.le_of_ble_eq_true rfl) (by decide) dX10_hour1_141 rfl (kI0 fun vy1888 gvy1888 hvy1888 => ?_)
              rw [hey1889, hey1890, hey1891] at hvy1888
              clear hey1889 hey1890 hey1891
              obtain ⟨hrvy1888, hqvy1888, rfl⟩ := hvy1888
              rcases (show vy1888 = 1 ∨ vy1888 = 0 by omega) with rfl | rfl
              · have hkvy1888 := hqvy1888 rfl
                clear hqvy1888
                refine z_if_eq (tgt := 197) C dX10_hour1_144 (by decide) (by omega) (fun h => absurd h (by omega)) (fun _ => ?_)
                refine z_aload_n C 2 dX10_hour1_147 rfl ?_
                refine z_get (v := .ref (ad (i + 20))) C (by omega) hay1 hgy1483 rfl inA_X10 43 (by decide) q_1502 rfl rfl dX10_hour1_148 ?_
                refine z_aload_n C 2 dX10_hour1_151 rfl ?_
                refine z_get (v := .int (zI (F 48))) C (by omega) hay1 hgy1483 rfl inA_X10 48 (by decide) q_1507 rfl (fv (F := Fvy1450) (f := 48) ((hFvy1450 48 (by decide) (by decide) (by decide) (by decide) (by decide) (by decide) (by decide)).trans ((hFvy1448 48 (by decide) (by decide) (by decide) (by decide) (by decide)).trans ((hFvy34 48 (by decide) (by decide) (by decide) (by decide) (by decide)).trans (hFvy32 48 (by decide) (by decide)))))) dX10_hour1_152 ?_
                refine z_aload_n C 2 dX10_hour1_155 rfl ?_
                refine z_get (v := .int (zI (Fvy1450 37))) C (by omega) hay1 hgy1483 rfl inA_X10 37 (by decide) q_1496 rfl (fv (F := Fvy1450) (f := 37) rfl) dX10_hour1_156 ?_
                refine z_iconst (z := 3) C dX10_hour1_159 rfl ?_
                refine z_isub C dX10_hour1_160 ?_
                refine z_iconst (z := 1) C dX10_hour1_161 rfl ?_
                refine z_iadd C dX10_hour1_162 ?_
                have hgy1892 := up_n egy1479 hgy1468 (ne_o (i := i) (c := 20) (d := 21) rfl)
                refine z_iast C (by omega) hay7 hgy1892 ((F 48).toNat) (by omega) (by omega) (by decide) dX10_hour1_163 (fun gy1893 egy1894 => ?_)
                have hgy1895 := up_s egy1894
                obtain ⟨ry1896, hvy1897⟩ : ∃ rZ9 : Nat → Int, rZ9 = uZ ry1469 ((F 48).toNat) (((Fvy1450 37) - 3) + 1) := ⟨_, rfl⟩
                rw [← hvy1897] at hgy1895
                refine z_aload_n C 2 dX10_hour1_164 rfl ?_
                have hgy1898 := up_n egy1894 hgy1483 (ne_o (i := i) (c := 0) (d := 20) rfl)
                have hgy1899 := (hfvy1450 (i + 13) (ne_o (i := i) (c := 13) (d := 0) rfl)).trans hgy1449
                have hgy1900 := up_n egy1456 hgy1899 (ne_o (i := i) (c := 13) (d := 19) rfl)
                have hgy1901 := up_n egy1467 hgy1900 (ne_o (i := i) (c := 13) (d := 20) rfl)
                have hgy1902 := up_n egy1479 hgy1901 (ne_o (i := i) (c := 13) (d := 21) rfl)
                have hgy1903 := up_n egy1894 hgy1902 (ne_o (i := i) (c := 13) (d := 20) rfl)
                refine z_cV (As := []) (rest := []) (ci := 12) C (c_X10_go l D A cs tt N ad _ i hN _ hgy1898 _ hgy1903 htp hdvy1450) (by omega) hay1 hgy1898 rfl rfl mv_yX10_go q_1652 hd_yX10_go (by decide) (Nat.le_of_ble_eq_true rfl) (by decide) dX10_hour1_165 rfl (kV0 fun gvy1904 hvy1904 => ?_)
                obtain ⟨⟨Fvy1904, hcvy1904, hdvy1904, hlvy1904, hsvy1904, hFvy1904⟩, hfvy1904⟩ := hvy1904
                rw [show Fvy1450 32 = Fvy1450 32 from rfl] at hlvy1904 hsvy1904
                have h34vy1904 : Fvy1904 34 = F 34 := (hFvy1904 34 (by decide) (by decide) (by decide) (by decide) (by decide)).trans (((hFvy1450 34 (by decide) (by decide) (by decide) (by decide) (by decide) (by decide) (by decide)).trans ((hFvy1448 34 (by decide) (by decide) (by decide) (by decide) (by decide)).trans ((hFvy34 34 (by decide) (by decide) (by decide) (by decide) (by decide)).trans (hFvy32 34 (by decide) (by decide))))))
                obtain ⟨d32vy1904, -, d35vy1904, d36vy1904, -, d37vy1904, d38vy1904⟩ := id hdvy1904
                have h38vy1904 : Fvy1904 38 = 0 := ((hFvy1904 38 (by decide) (by decide) (by decide) (by decide) (by decide)).trans hxvy1450)
                clear hsvy1904
                refine z_aload_n C 2 dX10_hour1_168 rfl ?_
                refine z_get (v := .ref (ad (i + 20))) C (by omega) hay1 hcvy1904 rfl inA_X10 43 (by decide) q_1502 rfl rfl dX10_hour1_169 ?_
                refine z_aload_n C 2 dX10_hour1_172 rfl ?_
                refine z_get (v := .int (zI (F 48))) C (by omega) hay1 hcvy1904 rfl inA_X10 48 (by decide) q_1507 rfl (fv (F := Fvy1904) (f := 48) ((hFvy1904 48 (by decide) (by decide) (by decide) (by decide) (by decide)).trans ((hFvy1450 48 (by decide) (by decide) (by decide) (by decide) (by decide) (by decide) (by decide)).trans ((hFvy1448 48 (by decide) (by decide) (by decide) (by decide) (by decide)).trans ((hFvy34 48 (by decide) (by decide) (by decide) (by decide) (by decide)).trans (hFvy32 48 (by decide) (by decide))))))) dX10_hour1_173 ?_
                have hgy1905 := (hfvy1904 (i + 20) (ne_o (i := i) (c := 20) (d := 0) rfl)).trans hgy1895
                refine z_iald C (by omega) hay7 hgy1905 ((F 48).toNat) (by omega) (by omega) (by decide) dX10_hour1_176 ?_
                rw [show ry1896 ((F 48).toNat) = ((Fvy1450 37) - 3) + 1 from (congrFun hvy1897 _).trans (uZ_s _ _ _)]
                refine z_iconst (z := 3) C dX10_hour1_177 rfl ?_
                refine z_icmp_ge (tgt := 197) C dX10_hour1_178 (by decide) (by omega) (by omega) (fun hby1906 => ?_) (fun hby1906 => ?_)
                · refine z_aload_n C 2 dX10_hour1_197 rfl ?_
                  refine z_dup C dX10_hour1_198 rfl ?_
                  refine z_get (v := .int (zI (F 48))) C (by omega) hay1 hcvy1904 rfl inA_X10 48 (by decide) q_1507 rfl (fv (F := Fvy1904) (f := 48) ((hFvy1904 48 (by decide) (by decide) (by decide) (by decide) (by decide)).trans ((hFvy1450 48 (by decide) (by decide) (by decide) (by decide) (by decide) (by decide) (by decide)).trans ((hFvy1448 48 (by decide) (by decide) (by decide) (by decide) (by decide)).trans ((hFvy34 48 (by decide) (by decide) (by decide) (by decide) (by decide)).trans (hFvy32 48 (by decide) (by decide))))))) dX10_hour1_199 ?_
                  refine z_iconst (z := 1) C dX10_hour1_202 rfl ?_
                  refine z_iadd C dX10_hour1_203 ?_
                  refine z_put (fs' := mF ad (i) (uZ Fvy1904 48 ((F 48) + 1))) C (by omega) hay1 hcvy1904 tyX10 tyX10_ok nmX10 rfl inA_X10 48 (by decide) q_1507 rfl rfl rfl rfl (Nat.le_of_ble_eq_true rfl) rfl dX10_hour1_204 (fun gy1907 egy1908 => ?_)
                  have hgy1909 := up_s egy1908
                  have hFy1910 : ∀ f, f ≠ 24 → f ≠ 32 → f ≠ 33 → f ≠ 35 → f ≠ 36 → f ≠ 37 → f ≠ 38 → f ≠ 47 → f ≠ 48 → f ≠ 49 → (uZ Fvy1904 48 ((F 48) + 1)) f = F f := fun f n24 n32 n33 n35 n36 n37 n38 n47 n48 n49 => ((uZ_n _ _ n48).trans ((hFvy1904 f n32 n33 n35 n36 n37).trans ((hFvy1450 f n24 n32 n33 n35 n36 n37 n38).trans ((hFvy1448 f n32 n33 n35 n36 n37).trans ((hFvy34 f n32 n33 n35 n36 n37).trans (hFvy32 f n24 n38))))))
                  have hey1911 : (uZ Fvy1904 48 ((F 48) + 1)) 32 = Fvy1904 32 := (fn rfl (by decide))
                  have hey1912 : (uZ Fvy1904 48 ((F 48) + 1)) 35 = Fvy1904 35 := (fn rfl (by decide))
                  have hey1913 : (uZ Fvy1904 48 ((F 48) + 1)) 38 = 0 := (fn ((hFvy1904 38 (by decide) (by decide) (by decide) (by decide) (by decide)).trans hxvy1450) (by decide))
                  have hey1914 : (uZ Fvy1904 48 ((F 48) + 1)) 32 = Fvy1904 32 := (fn rfl (by decide))
                  have hey1915 : (uZ Fvy1904 48 ((F 48) + 1)) 47 = F 47 := (fn ((hFvy1904 47 (by decide) (by decide) (by decide) (by decide) (by decide)).trans ((hFvy1450 47 (by decide) (by decide) (by decide) (by decide) (by decide) (by decide) (by decide)).trans ((hFvy1448 47 (by decide) (by decide) (by decide) (by decide) (by decide)).trans ((hFvy34 47 (by decide) (by decide) (by decide) (by decide) (by decide)).trans (hFvy32 47 (by decide) (by decide)))))) (by decide))
                  have hey1916 : (uZ Fvy1904 48 ((F 48) + 1)) 48 = (F 48) + 1 := (uZ_s _ _ _)
                  have hey1917 : (uZ Fvy1904 48 ((F 48) + 1)) 49 = F 49 := (fn ((hFvy1904 49 (by decide) (by decide) (by decide) (by decide) (by decide)).trans ((hFvy1450 49 (by decide) (by decide) (by decide) (by decide) (by decide) (by decide) (by decide)).trans ((hFvy1448 49 (by decide) (by decide) (by decide) (by decide) (by decide)).trans ((hFvy34 49 (by decide) (by decide) (by decide) (by decide) (by decide)).trans (hFvy32 49 (by decide) (by decide)))))) (by decide))
                  have hfry1919 : ∀ j, j ≠ (F 48).toNat → ry1458 j = ai1 j := fun j n0 => (congrFun hvy1459 _).trans ((uZ_n _ _ n0).trans (rfl))
                  have hwy1920 : ry1458 ((F 48).toNat) = -(vy1450) := (congrFun hvy1459 _).trans (uZ_s _ _ _)
                  have haky1918 : ∀ k, k < 24 → -300 ≤ ry1458 k ∧ ry1458 k ≤ 100 := by
                    intro k hk
                    by_cases e : k = (F 48).toNat
                    · rw [e]; have hk0 := hai1 ((F 48).toNat) (by omega); omega
                    · have hk0 := hai1 k hk; rw [hfry1919 k e]; exact hk0
                  have hfry1922 : ∀ j, j ≠ (F 48).toNat → ry1896 j = fa1 j := fun j n0 => (congrFun hvy1897 _).trans ((uZ_n _ _ n0).trans ((congrFun hvy1470 _).trans ((uZ_n _ _ n0).trans (rfl))))
                  have hfry1923 : ∀ j, j ≠ (F 48).toNat → ry1481 j = mu1 j := fun j n0 => (congrFun hvy1482 _).trans ((uZ_n _ _ n0).trans (rfl))
                  have hwy1924 : ry1896 ((F 48).toNat) = ((Fvy1450 37) - 3) + 1 := (congrFun hvy1897 _).trans (uZ_s _ _ _)
                  have hwy1925 : ry1481 ((F 48).toNat) = 0 := (congrFun hvy1482 _).trans (uZ_s _ _ _)
                  have haky1921 : ∀ k, k < 24 → (0 ≤ ry1896 k ∧ ry1896 k ≤ 3) ∧ (0 ≤ ry1481 k ∧ ry1481 k ≤ 50) ∧ (ry1896 k = 1 ∨ ry1896 k = 2 → 1 ≤ ry1481 k) := by
                    intro k hk
                    by_cases e : k = (F 48).toNat
                    · rw [e]; have hk0 := hfa1 ((F 48).toNat) (by omega); omega
                    · have hk0 := hfa1 k hk; rw [hfry1922 k e]; rw [hfry1923 k e]; exact hk0
                  have hlay1926 : ∀ s l : Nat, (s : Int) < (uZ Fvy1904 48 ((F 48) + 1)) 47 → (l : Int) < mn1 s → lyT ly1 (84 * s + 7 * l) := fun s l a1 a2 => hly1 s l (by omega) a2
                  have hgy1927 := (hfvy32 (i + 16) (ne_o (i := i) (c := 16) (d := 0) rfl)).trans ha16
                  have hgy1928 := (hfvy34 (i + 16) (ne_o (i := i) (c := 16) (d := 0) rfl)).trans hgy1927
                  have hgy1929 := (hfvy1448 (i + 16) (ne_o (i := i) (c := 16) (d := 0) rfl)).trans hgy1928
                  have hgy1930 := (hfvy1450 (i + 16) (ne_o (i := i) (c := 16) (d := 0) rfl)).trans hgy1929
                  have hgy1931 := up_n egy1456 hgy1930 (ne_o (i := i) (c := 16) (d := 19) rfl)
                  have hgy1932 := up_n egy1467 hgy1931 (ne_o (i := i) (c := 16) (d := 20) rfl)
                  have hgy1933 := up_n egy1479 hgy1932 (ne_o (i := i) (c := 16) (d := 21) rfl)
                  have hgy1934 := up_n egy1894 hgy1933 (ne_o (i := i) (c := 16) (d := 20) rfl)
                  have hgy1935 := (hfvy1904 (i + 16) (ne_o (i := i) (c := 16) (d := 0) rfl)).trans hgy1934
                  have hgy1936 := up_n egy1908 hgy1935 (ne_o (i := i) (c := 16) (d := 0) rfl)
                  have hgy1937 := (hfvy32 (i + 17) (ne_o (i := i) (c := 17) (d := 0) rfl)).trans ha17
                  have hgy1938 := (hfvy34 (i + 17) (ne_o (i := i) (c := 17) (d := 0) rfl)).trans hgy1937
                  have hgy1939 := (hfvy1448 (i + 17) (ne_o (i := i) (c := 17) (d := 0) rfl)).trans hgy1938
                  have hgy1940 := (hfvy1450 (i + 17) (ne_o (i := i) (c := 17) (d := 0) rfl)).trans hgy1939
                  have hgy1941 := up_n egy1456 hgy1940 (ne_o (i := i) (c := 17) (d := 19) rfl)
                  have hgy1942 := up_n egy1467 hgy1941 (ne_o (i := i) (c := 17) (d := 20) rfl)
                  have hgy1943 := up_n egy1479 hgy1942 (ne_o (i := i) (c := 17) (d := 21) rfl)
                  have hgy1944 := up_n egy1894 hgy1943 (ne_o (i := i) (c := 17) (d := 20) rfl)
                  have hgy1945 := (hfvy1904 (i + 17) (ne_o (i := i) (c := 17) (d := 0) rfl)).trans hgy1944
                  have hgy1946 := up_n egy1908 hgy1945 (ne_o (i := i) (c := 17) (d := 0) rfl)
                  have hgy1947 := (hfvy32 (i + 18) (ne_o (i := i) (c := 18) (d := 0) rfl)).trans ha18
                  have hgy1948 := (hfvy34 (i + 18) (ne_o (i := i) (c := 18) (d := 0) rfl)).trans hgy1947
                  have hgy1949 := (hfvy1448 (i + 18) (ne_o (i := i) (c := 18) (d := 0) rfl)).trans hgy1948
                  have hgy1950 := (hfvy1450 (i + 18) (ne_o (i := i) (c := 18) (d := 0) rfl)).trans hgy1949
                  have hgy1951 := up_n egy1456 hgy1950 (ne_o (i := i) (c := 18) (d := 19) rfl)
                  have hgy1952 := up_n egy1467 hgy1951 (ne_o (i := i) (c := 18) (d := 20) rfl)
                  have hgy1953 := up_n egy1479 hgy1952 (ne_o (i := i) (c := 18) (d := 21) rfl)
                  have hgy1954 := up_n egy1894 hgy1953 (ne_o (i := i) (c := 18) (d := 20) rfl)
                  have hgy1955 := (hfvy1904 (i + 18) (ne_o (i := i) (c := 18) (d := 0) rfl)).trans hgy1954
                  have hgy1956 := up_n egy1908 hgy1955 (ne_o (i := i) (c := 18) (d := 0) rfl)
                  have hgy1957 := up_n egy1467 hgy1457 (ne_o (i := i) (c := 19) (d := 20) rfl)
                  have hgy1958 := up_n egy1479 hgy1957 (ne_o (i := i) (c := 19) (d := 21) rfl)
                  have hgy1959 := up_n egy1894 hgy1958 (ne_o (i := i) (c := 19) (d := 20) rfl)
                  have hgy1960 := (hfvy1904 (i + 19) (ne_o (i := i) (c := 19) (d := 0) rfl)).trans hgy1959
                  have hgy1961 := up_n egy1908 hgy1960 (ne_o (i := i) (c := 19) (d := 0) rfl)
                  have hgy1962 := up_n egy1908 hgy1905 (ne_o (i := i) (c := 20) (d := 0) rfl)
                  have hgy1963 := up_n egy1894 hgy1480 (ne_o (i := i) (c := 21) (d := 20) rfl)
                  have hgy1964 := (hfvy1904 (i + 21) (ne_o (i := i) (c := 21) (d := 0) rfl)).trans hgy1963
                  have hgy1965 := up_n egy1908 hgy1964 (ne_o (i := i) (c := 21) (d := 0) rfl)
                  have hgy1966 := (hfvy32 (i + 22) (ne_o (i := i) (c := 22) (d := 0) rfl)).trans ha22
                  have hgy1967 := (hfvy34 (i + 22) (ne_o (i := i) (c := 22) (d := 0) rfl)).trans hgy1966
                  have hgy1968 := (hfvy1448 (i + 22) (ne_o (i := i) (c := 22) (d := 0) rfl)).trans hgy1967
                  have hgy1969 := (hfvy1450 (i + 22) (ne_o (i := i) (c := 22) (d := 0) rfl)).trans hgy1968
                  have hgy1970 := up_n egy1456 hgy1969 (ne_o (i := i) (c := 22) (d := 19) rfl)
                  have hgy1971 := up_n egy1467 hgy1970 (ne_o (i := i) (c := 22) (d := 20) rfl)
                  have hgy1972 := up_n egy1479 hgy1971 (ne_o (i := i) (c := 22) (d := 21) rfl)
                  have hgy1973 := up_n egy1894 hgy1972 (ne_o (i := i) (c := 22) (d := 20) rfl)
                  have hgy1974 := (hfvy1904 (i + 22) (ne_o (i := i) (c := 22) (d := 0) rfl)).trans hgy1973
                  have hgy1975 := up_n egy1908 hgy1974 (ne_o (i := i) (c := 22) (d := 0) rfl)
                  have hgy1976 := (hfvy32 (i + 23) (ne_o (i := i) (c := 23) (d := 0) rfl)).trans ha23
                  have hgy1977 := (hfvy34 (i + 23) (ne_o (i := i) (c := 23) (d := 0) rfl)).trans hgy1976
                  have hgy1978 := (hfvy1448 (i + 23) (ne_o (i := i) (c := 23) (d := 0) rfl)).trans hgy1977
                  have hgy1979 := (hfvy1450 (i + 23) (ne_o (i := i) (c := 23) (d := 0) rfl)).trans hgy1978
                  have hgy1980 := up_n egy1456 hgy1979 (ne_o (i := i) (c := 23) (d := 19) rfl)
                  have hgy1981 := up_n egy1467 hgy1980 (ne_o (i := i) (c := 23) (d := 20) rfl)
                  have hgy1982 := up_n egy1479 hgy1981 (ne_o (i := i) (c := 23) (d := 21) rfl)
                  have hgy1983 := up_n egy1894 hgy1982 (ne_o (i := i) (c := 23) (d := 20) rfl)
                  have hgy1984 := (hfvy1904 (i + 23) (ne_o (i := i) (c := 23) (d := 0) rfl)).trans hgy1983
                  have hgy1985 := up_n egy1908 hgy1984 (ne_o (i := i) (c := 23) (d := 0) rfl)
                  have htxy1986 : okTx cs gy1907 i (uZ Fvy1904 48 ((F 48) + 1)) := ⟨_, _, _, _, _, _, _, _, ⟨hgy1936, hgy1946, hgy1956, hgy1961, hgy1962, hgy1965, hgy1975, hgy1985⟩, ⟨⟨by omega, by omega, by omega⟩, hop1, hmn1, haky1918, haky1921, htb1, hlay1926⟩⟩
                  exact z_vret C hr hlk dX10_hour1_207 (by decide) (by decide) ⟨rfl, rfl, rfl, ⟨_, hgy1909, (RD.put hdvy1904 (by decide)), by omega, by omega, hFy1910, htxy1986⟩, fun j j1 j2 => by rw [egy1908, va_up_ne _ _ (by omega)]; rw [hfvy1904 _ (by omega)]; rw [egy1894, va_up_ne _ _ (by omega)]; rw [egy1479, va_up_ne _ _ (by omega)]; rw [egy1467, va_up_ne _ _ (by omega)]; rw [egy1456, va_up_ne _ _ (by omega)]; rw [hfvy1450 _ (by omega)]; rw [hfvy1448 _ (by omega)]; rw [hfvy34 _ (by omega)]; rw [hfvy32 _ (by omega)]⟩
                · refine z_aload_n C 2 dX10_hour1_181 rfl ?_
                  refine z_get (v := .ref (ad (i + 21))) C (by omega) hay1 hcvy1904 rfl inA_X10 44 (by decide) q_1503 rfl rfl dX10_hour1_182 ?_
                  refine z_aload_n C 2 dX10_hour1_185 rfl ?_
                  refine z_get (v := .int (zI (F 48))) C (by omega) hay1 hcvy1904 rfl inA_X10 48 (by decide) q_1507 rfl (fv (F := Fvy1904) (f := 48) ((hFvy1904 48 (by decide) (by decide) (by decide) (by decide) (by decide)).trans ((hFvy1450 48 (by decide) (by decide) (by decide) (by decide) (by decide) (by decide) (by decide)).trans ((hFvy1448 48 (by decide) (by decide) (by decide) (by decide) (by decide)).trans ((hFvy34 48 (by decide) (by decide) (by decide) (by decide) (by decide)).trans (hFvy32 48 (by decide) (by decide))))))) dX10_hour1_186 ?_
                  refine z_aload_n C 2 dX10_hour1_189 rfl ?_
                  refine z_iconst (z := 1) C dX10_hour1_190 rfl ?_
                  refine z_bipush (z := 50) C dX10_hour1_191 (by decide) ?_
                  have hgy1987 := (hfvy1904 (i + 13) (ne_o (i := i) (c := 13) (d := 0) rfl)).trans hgy1903
                  refine z_cV (As := [.int (zI (1)), .int (zI (50))]) (rest := [.int (zI (F 48)), .ref (ad (i + 21))]) (ci := 12) C (c_X10_number l D A cs tt N ad _ i hN _ hcvy1904 _ hgy1987 htp hdvy1904 (1) (by omega) (50) (by omega)) (by omega) hay1 hcvy1904 rfl rfl mv_yX10_number q_1682 hd_yX10_number (by decide) (Nat.le_of_ble_eq_true rfl) (by decide) dX10_hour1_193 rfl (kI0 fun vy1988 gvy1988 hvy1988 => ?_)
                  obtain ⟨hrvy1988, ⟨Fvy1988, hcvy1988, hdvy1988, hlvy1988, hsvy1988, hFvy1988⟩, hfvy1988⟩ := hvy1988
                  rw [show Fvy1904 32 = Fvy1904 32 from rfl] at hlvy1988
                  rw [show Fvy1904 38 = 0 from ((hFvy1904 38 (by decide) (by decide) (by decide) (by decide) (by decide)).trans hxvy1450), show Fvy1904 35 = Fvy1904 35 from rfl] at hsvy1988
                  have h34vy1988 : Fvy1988 34 = F 34 := (hFvy1988 34 (by decide) (by decide) (by decide) (by decide) (by decide) (by decide) (by decide)).trans (((hFvy1904 34 (by decide) (by decide) (by decide) (by decide) (by decide)).trans ((hFvy1450 34 (by decide) (by decide) (by decide) (by decide) (by decide) (by decide) (by decide)).trans ((hFvy1448 34 (by decide) (by decide) (by decide) (by decide) (by decide)).trans ((hFvy34 34 (by decide) (by decide) (by decide) (by decide) (by decide)).trans (hFvy32 34 (by decide) (by decide)))))))
                  obtain ⟨d32vy1988, -, d35vy1988, d36vy1988, -, d37vy1988, d38vy1988⟩ := id hdvy1988
                  clear hsvy1988
                  have hgy1989 := up_n egy1894 hgy1480 (ne_o (i := i) (c := 21) (d := 20) rfl)
                  have hgy1990 := (hfvy1904 (i + 21) (ne_o (i := i) (c := 21) (d := 0) rfl)).trans hgy1989
                  have hgy1991 := (hfvy1988 (i + 21) (ne_o (i := i) (c := 21) (d := 0) rfl)).trans hgy1990
                  refine z_iast C (by omega) hay8 hgy1991 ((F 48).toNat) (by omega) (by omega) (by decide) dX10_hour1_196 (fun gy1992 egy1993 => ?_)
                  have hgy1994 := up_s egy1993
                  obtain ⟨ry1995, hvy1996⟩ : ∃ rZ9 : Nat → Int, rZ9 = uZ ry1481 ((F 48).toNat) (vy1988) := ⟨_, rfl⟩
                  rw [← hvy1996] at hgy1994
                  refine z_aload_n C 2 dX10_hour1_197 rfl ?_
                  refine z_dup C dX10_hour1_198 rfl ?_
                  have hgy1997 := up_n egy1993 hcvy1988 (ne_o (i := i) (c := 0) (d := 21) rfl)
                  refine z_get (v := .int (zI (F 48))) C (by omega) hay1 hgy1997 rfl inA_X10 48 (by decide) q_1507 rfl (fv (F := Fvy1988) (f := 48) ((hFvy1988 48 (by decide) (by decide) (by decide) (by decide) (by decide) (by decide) (by decide)).trans ((hFvy1904 48 (by decide) (by decide) (by decide) (by decide) (by decide)).trans ((hFvy1450 48 (by decide) (by decide) (by decide) (by decide) (by decide) (by decide) (by decide)).trans ((hFvy1448 48 (by decide) (by decide) (by decide) (by decide) (by decide)).trans ((hFvy34 48 (by decide) (by decide) (by decide) (by decide) (by decide)).trans (hFvy32 48 (by decide) (by decide)))))))) dX10_hour1_199 ?_
                  refine z_iconst (z := 1) C dX10_hour1_202 rfl ?_
                  refine z_iadd C dX10_hour1_203 ?_
                  refine z_put (fs' := mF ad (i) (uZ Fvy1988 48 ((F 48) + 1))) C (by omega) hay1 hgy1997 tyX10 tyX10_ok nmX10 rfl inA_X10 48 (by decide) q_1507 rfl rfl rfl rfl (Nat.le_of_ble_eq_true rfl) rfl dX10_hour1_204 (fun gy1998 egy1999 => ?_)
                  have hgy2000 := up_s egy1999
                  have hFy2001 : ∀ f, f ≠ 24 → f ≠ 32 → f ≠ 33 → f ≠ 35 → f ≠ 36 → f ≠ 37 → f ≠ 38 → f ≠ 47 → f ≠ 48 → f ≠ 49 → (uZ Fvy1988 48 ((F 48) + 1)) f = F f := fun f n24 n32 n33 n35 n36 n37 n38 n47 n48 n49 => ((uZ_n _ _ n48).trans ((hFvy1988 f n24 n32 n33 n35 n36 n37 n38).trans ((hFvy1904 f n32 n33 n35 n36 n37).trans ((hFvy1450 f n24 n32 n33 n35 n36 n37 n38).trans ((hFvy1448 f n32 n33 n35 n36 n37).trans ((hFvy34 f n32 n33 n35 n36 n37).trans (hFvy32 f n24 n38)))))))
                  have hey2002 : (uZ Fvy1988 48 ((F 48) + 1)) 32 = Fvy1988 32 := (fn rfl (by decide))
                  have hey2003 : (uZ Fvy1988 48 ((F 48) + 1)) 35 = Fvy1988 35 := (fn rfl (by decide))
                  have hey2004 : (uZ Fvy1988 48 ((F 48) + 1)) 38 = Fvy1988 38 := (fn rfl (by decide))
                  have hey2005 : (uZ Fvy1988 48 ((F 48) + 1)) 32 = Fvy1988 32 := (fn rfl (by decide))
                  have hey2006 : (uZ Fvy1988 48 ((F 48) + 1)) 47 = F 47 := (fn ((hFvy1988 47 (by decide) (by decide) (by decide) (by decide) (by decide) (by decide) (by decide)).trans ((hFvy1904 47 (by decide) (by decide) (by decide) (by decide) (by decide)).trans ((hFvy1450 47 (by decide) (by decide) (by decide) (by decide) (by decide) (by decide) (by decide)).trans ((hFvy1448 47 (by decide) (by decide) (by decide) (by decide) (by decide)).trans ((hFvy34 47 (by decide) (by decide) (by decide) (by decide) (by decide)).trans (hFvy32 47 (by decide) (by decide))))))) (by decide))
                  have hey2007 : (uZ Fvy1988 48 ((F 48) + 1)) 48 = (F 48) + 1 := (uZ_s _ _ _)
                  have hey2008 : (uZ Fvy1988 48 ((F 48) + 1)) 49 = F 49 := (fn ((hFvy1988 49 (by decide) (by decide) (by decide) (by decide) (by decide) (by decide) (by decide)).trans ((hFvy1904 49 (by decide) (by decide) (by decide) (by decide) (by decide)).trans ((hFvy1450 49 (by decide) (by decide) (by decide) (by decide) (by decide) (by decide) (by decide)).trans ((hFvy1448 49 (by decide) (by decide) (by decide) (by decide) (by decide)).trans ((hFvy34 49 (by decide) (by decide) (by decide) (by decide) (by decide)).trans (hFvy32 49 (by decide) (by decide))))))) (by decide))
                  have hfry2010 : ∀ j, j ≠ (F 48).toNat → ry1458 j = ai1 j := fun j n0 => (congrFun hvy1459 _).trans ((uZ_n _ _ n0).trans (rfl))
                  have hwy2011 : ry1458 ((F 48).toNat) = -(vy1450) := (congrFun hvy1459 _).trans (uZ_s _ _ _)
                  have haky2009 : ∀ k, k < 24 → -300 ≤ ry1458 k ∧ ry1458 k ≤ 100 := by
                    intro k hk
                    by_cases e : k = (F 48).toNat
                    · rw [e]; have hk0 := hai1 ((F 48).toNat) (by omega); omega
                    · have hk0 := hai1 k hk; rw [hfry2010 k e]; exact hk0
                  have hfry2013 : ∀ j, j ≠ (F 48).toNat → ry1896 j = fa1 j := fun j n0 => (congrFun hvy1897 _).trans ((uZ_n _ _ n0).trans ((congrFun hvy1470 _).trans ((uZ_n _ _ n0).trans (rfl))))
                  have hfry2014 : ∀ j, j ≠ (F 48).toNat → ry1995 j = mu1 j := fun j n0 => (congrFun hvy1996 _).trans ((uZ_n _ _ n0).trans ((congrFun hvy1482 _).trans ((uZ_n _ _ n0).trans (rfl))))
                  have hwy2015 : ry1896 ((F 48).toNat) = ((Fvy1450 37) - 3) + 1 := (congrFun hvy1897 _).trans (uZ_s _ _ _)
                  have hwy2016 : ry1995 ((F 48).toNat) = vy1988 := (congrFun hvy1996 _).trans (uZ_s _ _ _)
                  have haky2012 : ∀ k, k < 24 → (0 ≤ ry1896 k ∧ ry1896 k ≤ 3) ∧ (0 ≤ ry1995 k ∧ ry1995 k ≤ 50) ∧ (ry1896 k = 1 ∨ ry1896 k = 2 → 1 ≤ ry1995 k) := by
                    intro k hk
                    by_cases e : k = (F 48).toNat
                    · rw [e]; have hk0 := hfa1 ((F 48).toNat) (by omega); omega
                    · have hk0 := hfa1 k hk; rw [hfry2013 k e]; rw [hfry2014 k e]; exact hk0
                  have hlay2017 : ∀ s l : Nat, (s : Int) < (uZ Fvy1988 48 ((F 48) + 1)) 47 → (l : Int) < mn1 s → lyT ly1 (84 * s + 7 * l) := fun s l a1 a2 => hly1 s l (by omega) a2
                  have hgy2018 := (hfvy32 (i + 16) (ne_o (i := i) (c := 16) (d := 0) rfl)).trans ha16
                  have hgy2019 := (hfvy34 (i + 16) (ne_o (i := i) (c := 16) (d := 0) rfl)).trans hgy2018
                  have hgy2020 := (hfvy1448 (i + 16) (ne_o (i := i) (c := 16) (d := 0) rfl)).trans hgy2019
                  have hgy2021 := (hfvy1450 (i + 16) (ne_o (i := i) (c := 16) (d := 0) rfl)).trans hgy2020
                  have hgy2022 := up_n egy1456 hgy2021 (ne_o (i := i) (c := 16) (d := 19) rfl)
                  have hgy2023 := up_n egy1467 hgy2022 (ne_o (i := i) (c := 16) (d := 20) rfl)
                  have hgy2024 := up_n egy1479 hgy2023 (ne_o (i := i) (c := 16) (d := 21) rfl)
                  have hgy2025 := up_n egy1894 hgy2024 (ne_o (i := i) (c := 16) (d := 20) rfl)
                  have hgy2026 := (hfvy1904 (i + 16) (ne_o (i := i) (c := 16) (d := 0) rfl)).trans hgy2025
                  have hgy2027 := (hfvy1988 (i + 16) (ne_o (i := i) (c := 16) (d := 0) rfl)).trans hgy2026
                  have hgy2028 := up_n egy1993 hgy2027 (ne_o (i := i) (c := 16) (d := 21) rfl)
                  have hgy2029 := up_n egy1999 hgy2028 (ne_o (i := i) (c := 16) (d := 0) rfl)
                  have hgy2030 := (hfvy32 (i + 17) (ne_o (i := i) (c := 17) (d := 0) rfl)).trans ha17
                  have hgy2031 := (hfvy34 (i + 17) (ne_o (i := i) (c := 17) (d := 0) rfl)).trans hgy2030
                  have hgy2032 := (hfvy1448 (i + 17) (ne_o (i := i) (c := 17) (d := 0) rfl)).trans hgy2031
                  have hgy2033 := (hfvy1450 (i + 17) (ne_o (i := i) (c := 17) (d := 0) rfl)).trans hgy2032
                  have hgy2034 := up_n egy1456 hgy2033 (ne_o (i := i) (c := 17) (d := 19) rfl)
                  have hgy2035 := up_n egy1467 hgy2034 (ne_o (i := i) (c := 17) (d := 20) rfl)
                  have hgy2036 := up_n egy1479 hgy2035 (ne_o (i := i) (c := 17) (d := 21) rfl)
                  have hgy2037 := up_n egy1894 hgy2036 (ne_o (i := i) (c := 17) (d := 20) rfl)
                  have hgy2038 := (hfvy1904 (i + 17) (ne_o (i := i) (c := 17) (d := 0) rfl)).trans hgy2037
                  have hgy2039 := (hfvy1988 (i + 17) (ne_o (i := i) (c := 17) (d := 0) rfl)).trans hgy2038
                  have hgy2040 := up_n egy1993 hgy2039 (ne_o (i := i) (c := 17) (d := 21) rfl)
                  have hgy2041 := up_n egy1999 hgy2040 (ne_o (i := i) (c := 17) (d := 0) rfl)
                  have hgy2042 := (hfvy32 (i + 18) (ne_o (i := i) (c := 18) (d := 0) rfl)).trans ha18
                  have hgy2043 := (hfvy34 (i + 18) (ne_o (i := i) (c := 18) (d := 0) rfl)).trans hgy2042
                  have hgy2044 := (hfvy1448 (i + 18) (ne_o (i := i) (c := 18) (d := 0) rfl)).trans hgy2043
                  have hgy2045 := (hfvy1450 (i + 18) (ne_o (i := i) (c := 18) (d := 0) rfl)).trans hgy2044
                  have hgy2046 := up_n egy1456 hgy2045 (ne_o (i := i) (c := 18) (d := 19) rfl)
                  have hgy2047 := up_n egy1467 hgy2046 (ne_o (i := i) (c := 18) (d := 20) rfl)
                  have hgy2048 := up_n egy1479 hgy2047 (ne_o (i := i) (c := 18) (d := 21) rfl)
                  have hgy2049 := up_n egy1894 hgy2048 (ne_o (i := i) (c := 18) (d := 20) rfl)
                  have hgy2050 := (hfvy1904 (i + 18) (ne_o (i := i) (c := 18) (d := 0) rfl)).trans hgy2049
                  have hgy2051 := (hfvy1988 (i + 18) (ne_o (i := i) (c := 18) (d := 0) rfl)).trans hgy2050
                  have hgy2052 := up_n egy1993 hgy2051 (ne_o (i := i) (c := 18) (d := 21) rfl)
                  have hgy2053 := up_n egy1999 hgy2052 (ne_o (i := i) (c := 18) (d := 0) rfl)
                  have hgy2054 := up_n egy1467 hgy1457 (ne_o (i := i) (c := 19) (d := 20) rfl)
                  have hgy2055 := up_n egy1479 hgy2054 (ne_o (i := i) (c := 19) (d := 21) rfl)
                  have hgy2056 := up_n egy1894 hgy2055 (ne_o (i := i) (c := 19) (d := 20) rfl)
                  have hgy2057 := (hfvy1904 (i + 19) (ne_o (i := i) (c := 19) (d := 0) rfl)).trans hgy2056
                  have hgy2058 := (hfvy1988 (i + 19) (ne_o (i := i) (c := 19) (d := 0) rfl)).trans hgy2057
                  have hgy2059 := up_n egy1993 hgy2058 (ne_o (i := i) (c := 19) (d := 21) rfl)
                  have hgy2060 := up_n egy1999 hgy2059 (ne_o (i := i) (c := 19) (d := 0) rfl)
                  have hgy2061 := (hfvy1988 (i + 20) (ne_o (i := i) (c := 20) (d := 0) rfl)).trans hgy1905
                  have hgy2062 := up_n egy1993 hgy2061 (ne_o (i := i) (c := 20) (d := 21) rfl)
                  have hgy2063 := up_n egy1999 hgy2062 (ne_o (i := i) (c := 20) (d := 0) rfl)
                  have hgy2064 := up_n egy1999 hgy1994 (ne_o (i := i) (c := 21) (d := 0) rfl)
                  have hgy2065 := (hfvy32 (i + 22) (ne_o (i := i) (c := 22) (d := 0) rfl)).trans ha22
                  have hgy2066 := (hfvy34 (i + 22) (ne_o (i := i) (c := 22) (d := 0) rfl)).trans hgy2065
                  have hgy2067 := (hfvy1448 (i + 22) (ne_o (i := i) (c := 22) (d := 0) rfl)).trans hgy2066
                  have hgy2068 := (hfvy1450 (i + 22) (ne_o (i := i) (c := 22) (d := 0) rfl)).trans hgy2067
                  have hgy2069 := up_n egy1456 hgy2068 (ne_o (i := i) (c := 22) (d := 19) rfl)
                  have hgy2070 := up_n egy1467 hgy2069 (ne_o (i := i) (c := 22) (d := 20) rfl)
                  have hgy2071 := up_n egy1479 hgy2070 (ne_o (i := i) (c := 22) (d := 21) rfl)
                  have hgy2072 := up_n egy1894 hgy2071 (ne_o (i := i) (c := 22) (d := 20) rfl)
                  have hgy2073 := (hfvy1904 (i + 22) (ne_o (i := i) (c := 22) (d := 0) rfl)).trans hgy2072
                  have hgy2074 := (hfvy1988 (i + 22) (ne_o (i := i) (c := 22) (d := 0) rfl)).trans hgy2073
                  have hgy2075 := up_n egy1993 hgy2074 (ne_o (i := i) (c := 22) (d := 21) rfl)
                  have hgy2076 := up_n egy1999 hgy2075 (ne_o (i := i) (c := 22) (d := 0) rfl)
                  have hgy2077 := (hfvy32 (i + 23) (ne_o (i := i) (c := 23) (d := 0) rfl)).trans ha23
                  have hgy2078 := (hfvy34 (i + 23) (ne_o (i := i) (c := 23) (d := 0) rfl)).trans hgy2077
                  have hgy2079 := (hfvy1448 (i + 23) (ne_o (i := i) (c := 23) (d := 0) rfl)).trans hgy2078
                  have hgy2080 := (hfvy1450 (i + 23) (ne_o (i := i) (c := 23) (d := 0) rfl)).trans hgy2079
                  have hgy2081 := up_n egy1456 hgy2080 (ne_o (i := i) (c := 23) (d := 19) rfl)
                  have hgy2082 := up_n egy1467 hgy2081 (ne_o (i := i) (c := 23) (d := 20) rfl)
                  have hgy2083 := up_n egy1479 hgy2082 (ne_o (i := i) (c := 23) (d := 21) rfl)
                  have hgy2084 := up_n egy1894 hgy2083 (ne_o (i := i) (c := 23) (d := 20) rfl)
                  have hgy2085 := (hfvy1904 (i + 23) (ne_o (i := i) (c := 23) (d := 0) rfl)).trans hgy2084
                  have hgy2086 := (hfvy1988 (i + 23) (ne_o (i := i) (c := 23) (d := 0) rfl)).trans hgy2085
                  have hgy2087 := up_n egy1993 hgy2086 (ne_o (i := i) (c := 23) (d := 21) rfl)
                  have hgy2088 := up_n egy1999 hgy2087 (ne_o (i := i) (c := 23) (d := 0) rfl)
                  have htxy2089 : okTx cs gy1998 i (uZ Fvy1988 48 ((F 48) + 1)) := ⟨_, _, _, _, _, _, _, _, ⟨hgy2029, hgy2041, hgy2053, hgy2060, hgy2063, hgy2064, hgy2076, hgy2088⟩, ⟨⟨by omega, by omega, by omega⟩, hop1, hmn1, haky2009, haky2012, htb1, hlay2017⟩⟩
                  exact z_vret C hr hlk dX10_hour1_207 (by decide) (by decide) ⟨rfl, rfl, rfl, ⟨_, hgy2000, (RD.put hdvy1988 (by decide)), by omega, by omega, hFy2001, htxy2089⟩, fun j j1 j2 => by rw [egy1999, va_up_ne _ _ (by omega)]; rw [egy1993, va_up_ne _ _ (by omega)]; rw [hfvy1988 _ (by omega)]; rw [hfvy1904 _ (by omega)]; rw [egy1894, va_up_ne _ _ (by omega)]; rw [egy1479, va_up_ne _ _ (by omega)]; rw [egy1467, va_up_ne _ _ (by omega)]; rw [egy1456, va_up_ne _ _ (by omega)]; rw [hfvy1450 _ (by omega)]; rw [hfvy1448 _ (by omega)]; rw [hfvy34 _ (by omega)]; rw [hfvy32 _ (by omega)]⟩
              · clear hqvy1888
                refine z_if_eq (tgt := 197) C dX10_hour1_144 (by decide) (by omega) (fun _ => ?_) (fun h => absurd h (by omega))
                refine z_aload_n C 2 dX10_hour1_197 rfl ?_
                refine z_dup C dX10_hour1_198 rfl ?_
                refine z_get (v := .int (zI (F 48))) C (by omega) hay1 hgy1483 rfl inA_X10 48 (by decide) q_1507 rfl (fv (F := Fvy1450) (f := 48) ((hFvy1450 48 (by decide) (by decide) (by decide) (by decide) (by decide) (by decide) (by decide)).trans ((hFvy1448 48 (by decide) (by decide) (by decide) (by decide) (by decide)).trans ((hFvy34 48 (by decide) (by decide) (by decide) (by decide) (by decide)).trans (hFvy32 48 (by decide) (by decide)))))) dX10_hour1_199 ?_
                refine z_iconst (z := 1) C dX10_hour1_202 rfl ?_
                refine z_iadd C dX10_hour1_203 ?_
                refine z_put (fs' := mF ad (i) (uZ Fvy1450 48 ((F 48) + 1))) C (by omega) hay1 hgy1483 tyX10 tyX10_ok nmX10 rfl inA_X10 48 (by decide) q_1507 rfl rfl rfl rfl (Nat.le_of_ble_eq_true rfl) rfl dX10_hour1_204 (fun gy2090 egy2091 => ?_)
                have hgy2092 := up_s egy2091
                have hFy2093 : ∀ f, f ≠ 24 → f ≠ 32 → f ≠ 33 → f ≠ 35 → f ≠ 36 → f ≠ 37 → f ≠ 38 → f ≠ 47 → f ≠ 48 → f ≠ 49 → (uZ Fvy1450 48 ((F 48) + 1)) f = F f := fun f n24 n32 n33 n35 n36 n37 n38 n47 n48 n49 => ((uZ_n _ _ n48).trans ((hFvy1450 f n24 n32 n33 n35 n36 n37 n38).trans ((hFvy1448 f n32 n33 n35 n36 n37).trans ((hFvy34 f n32 n33 n35 n36 n37).trans (hFvy32 f n24 n38)))))
                have hey2094 : (uZ Fvy1450 48 ((F 48) + 1)) 32 = Fvy1450 32 := (fn rfl (by decide))
                have hey2095 : (uZ Fvy1450 48 ((F 48) + 1)) 35 = Fvy1450 35 := (fn rfl (by decide))
                have hey2096 : (uZ Fvy1450 48 ((F 48) + 1)) 38 = 0 := (fn hxvy1450 (by decide))
                have hey2097 : (uZ Fvy1450 48 ((F 48) + 1)) 32 = Fvy1450 32 := (fn rfl (by decide))
                have hey2098 : (uZ Fvy1450 48 ((F 48) + 1)) 47 = F 47 := (fn ((hFvy1450 47 (by decide) (by decide) (by decide) (by decide) (by decide) (by decide) (by decide)).trans ((hFvy1448 47 (by decide) (by decide) (by decide) (by decide) (by decide)).trans ((hFvy34 47 (by decide) (by decide) (by decide) (by decide) (by decide)).trans (hFvy32 47 (by decide) (by decide))))) (by decide))
                have hey2099 : (uZ Fvy1450 48 ((F 48) + 1)) 48 = (F 48) + 1 := (uZ_s _ _ _)
                have hey2100 : (uZ Fvy1450 48 ((F 48) + 1)) 49 = F 49 := (fn ((hFvy1450 49 (by decide) (by decide) (by decide) (by decide) (by decide) (by decide) (by decide)).trans ((hFvy1448 49 (by decide) (by decide) (by decide) (by decide) (by decide)).trans ((hFvy34 49 (by decide) (by decide) (by decide) (by decide) (by decide)).trans (hFvy32 49 (by decide) (by decide))))) (by decide))
                have hfry2102 : ∀ j, j ≠ (F 48).toNat → ry1458 j = ai1 j := fun j n0 => (congrFun hvy1459 _).trans ((uZ_n _ _ n0).trans (rfl))
                have hwy2103 : ry1458 ((F 48).toNat) = -(vy1450) := (congrFun hvy1459 _).trans (uZ_s _ _ _)
                have haky2101 : ∀ k, k < 24 → -300 ≤ ry1458 k ∧ ry1458 k ≤ 100 := by
                  intro k hk
                  by_cases e : k = (F 48).toNat
                  · rw [e]; have hk0 := hai1 ((F 48).toNat) (by omega); omega
                  · have hk0 := hai1 k hk; rw [hfry2102 k e]; exact hk0
                have hfry2105 : ∀ j, j ≠ (F 48).toNat → ry1469 j = fa1 j := fun j n0 => (congrFun hvy1470 _).trans ((uZ_n _ _ n0).trans (rfl))
                have hfry2106 : ∀ j, j ≠ (F 48).toNat → ry1481 j = mu1 j := fun j n0 => (congrFun hvy1482 _).trans ((uZ_n _ _ n0).trans (rfl))
                have hwy2107 : ry1469 ((F 48).toNat) = 0 := (congrFun hvy1470 _).trans (uZ_s _ _ _)
                have hwy2108 : ry1481 ((F 48).toNat) = 0 := (congrFun hvy1482 _).trans (uZ_s _ _ _)
                have haky2104 : ∀ k, k < 24 → (0 ≤ ry1469 k ∧ ry1469 k ≤ 3) ∧ (0 ≤ ry1481 k ∧ ry1481 k ≤ 50) ∧ (ry1469 k = 1 ∨ ry1469 k = 2 → 1 ≤ ry1481 k) := by
                  intro k hk
                  by_cases e : k = (F 48).toNat
                  · rw [e]; have hk0 := hfa1 ((F 48).toNat) (by omega); omega
                  · have hk0 := hfa1 k hk; rw [hfry2105 k e]; rw [hfry2106 k e]; exact hk0
                have hlay2109 : ∀ s l : Nat, (s : Int) < (uZ Fvy1450 48 ((F 48) + 1)) 47 → (l : Int) < mn1 s → lyT ly1 (84 * s + 7 * l) := fun s l a1 a2 => hly1 s l (by omega) a2
                have hgy2110 := (hfvy32 (i + 16) (ne_o (i := i) (c := 16) (d := 0) rfl)).trans ha16
                have hgy2111 := (hfvy34 (i + 16) (ne_o (i := i) (c := 16) (d := 0) rfl)).trans hgy2110
                have hgy2112 := (hfvy1448 (i + 16) (ne_o (i := i) (c := 16) (d := 0) rfl)).trans hgy2111
                have hgy2113 := (hfvy1450 (i + 16) (ne_o (i := i) (c := 16) (d := 0) rfl)).trans hgy2112
                have hgy2114 := up_n egy1456 hgy2113 (ne_o (i := i) (c := 16) (d := 19) rfl)
                have hgy2115 := up_n egy1467 hgy2114 (ne_o (i := i) (c := 16) (d := 20) rfl)
                have hgy2116 := up_n egy1479 hgy2115 (ne_o (i := i) (c := 16) (d := 21) rfl)
                have hgy2117 := up_n egy2091 hgy2116 (ne_o (i := i) (c := 16) (d := 0) rfl)
                have hgy2118 := (hfvy32 (i + 17) (ne_o (i := i) (c := 17) (d := 0) rfl)).trans ha17
                have hgy2119 := (hfvy34 (i + 17) (ne_o (i := i) (c := 17) (d := 0) rfl)).trans hgy2118
                have hgy2120 := (hfvy1448 (i + 17) (ne_o (i := i) (c := 17) (d := 0) rfl)).trans hgy2119
                have hgy2121 := (hfvy1450 (i + 17) (ne_o (i := i) (c := 17) (d := 0) rfl)).trans hgy2120
                have hgy2122 := up_n egy1456 hgy2121 (ne_o (i := i) (c := 17) (d := 19) rfl)
                have hgy2123 := up_n egy1467 hgy2122 (ne_o (i := i) (c := 17) (d := 20) rfl)
                have hgy2124 := up_n egy1479 hgy2123 (ne_o (i := i) (c := 17) (d := 21) rfl)
                have hgy2125 := up_n egy2091 hgy2124 (ne_o (i := i) (c := 17) (d := 0) rfl)
                have hgy2126 := (hfvy32 (i + 18) (ne_o (i := i) (c := 18) (d := 0) rfl)).trans ha18
                have hgy2127 := (hfvy34 (i + 18) (ne_o (i := i) (c := 18) (d := 0) rfl)).trans hgy2126
                have hgy2128 := (hfvy1448 (i + 18) (ne_o (i := i) (c := 18) (d := 0) rfl)).trans hgy2127
                have hgy2129 := (hfvy1450 (i + 18) (ne_o (i := i) (c := 18) (d := 0) rfl)).trans hgy2128
                have hgy2130 := up_n egy1456 hgy2129 (ne_o (i := i) (c := 18) (d := 19) rfl)
                have hgy2131 := up_n egy1467 hgy2130 (ne_o (i := i) (c := 18) (d := 20) rfl)
                have hgy2132 := up_n egy1479 hgy2131 (ne_o (i := i) (c := 18) (d := 21) rfl)
                have hgy2133 := up_n egy2091 hgy2132 (ne_o (i := i) (c := 18) (d := 0) rfl)
                have hgy2134 := up_n egy1467 hgy1457 (ne_o (i := i) (c := 19) (d := 20) rfl)
                have hgy2135 := up_n egy1479 hgy2134 (ne_o (i := i) (c := 19) (d := 21) rfl)
                have hgy2136 := up_n egy2091 hgy2135 (ne_o (i := i) (c := 19) (d := 0) rfl)
                have hgy2137 := up_n egy1479 hgy1468 (ne_o (i := i) (c := 20) (d := 21) rfl)
                have hgy2138 := up_n egy2091 hgy2137 (ne_o (i := i) (c := 20) (d := 0) rfl)
                have hgy2139 := up_n egy2091 hgy1480 (ne_o (i := i) (c := 21) (d := 0) rfl)
                have hgy2140 := (hfvy32 (i + 22) (ne_o (i := i) (c := 22) (d := 0) rfl)).trans ha22
                have hgy2141 := (hfvy34 (i + 22) (ne_o (i := i) (c := 22) (d := 0) rfl)).trans hgy2140
                have hgy2142 := (hfvy1448 (i + 22) (ne_o (i := i) (c := 22) (d := 0) rfl)).trans hgy2141
                have hgy2143 := (hfvy1450 (i + 22) (ne_o (i := i) (c := 22) (d := 0) rfl)).trans hgy2142
                have hgy2144 := up_n egy1456 hgy2143 (ne_o (i := i) (c := 22) (d := 19) rfl)
                have hgy2145 := up_n egy1467 hgy2144 (ne_o (i := i) (c := 22) (d := 20) rfl)
                have hgy2146 := up_n egy1479 hgy2145 (ne_o (i := i) (c := 22) (d := 21) rfl)
                have hgy2147 := up_n egy2091 hgy2146 (ne_o (i := i) (c := 22) (d := 0) rfl)
                have hgy2148 := (hfvy32 (i + 23) (ne_o (i := i) (c := 23) (d := 0) rfl)).trans ha23
                have hgy2149 := (hfvy34 (i + 23) (ne_o (i := i) (c := 23) (d := 0) rfl)).trans hgy2148
                have hgy2150 := (hfvy1448 (i + 23) (ne_o (i := i) (c := 23) (d := 0) rfl)).trans hgy2149
                have hgy2151 := (hfvy1450 (i + 23) (ne_o (i := i) (c := 23) (d := 0) rfl)).trans hgy2150
                have hgy2152 := up_n egy1456 hgy2151 (ne_o (i := i) (c := 23) (d := 19) rfl)
                have hgy2153 := up_n egy1467 hgy2152 (ne_o (i := i) (c := 23) (d := 20) rfl)
                have hgy2154 := up_n egy1479 hgy2153 (ne_o (i := i) (c := 23) (d := 21) rfl)
                have hgy2155 := up_n egy2091 hgy2154 (ne_o (i := i) (c := 23) (d := 0) rfl)
                have htxy2156 : okTx cs gy2090 i (uZ Fvy1450 48 ((F 48) + 1)) := ⟨_, _, _, _, _, _, _, _, ⟨hgy2117, hgy2125, hgy2133, hgy2136, hgy2138, hgy2139, hgy2147, hgy2155⟩, ⟨⟨by omega, by omega, by omega⟩, hop1, hmn1, haky2101, haky2104, htb1, hlay2109⟩⟩
                exact z_vret C hr hlk dX10_hour1_207 (by decide) (by decide) ⟨rfl, rfl, rfl, ⟨_, hgy2092, (RD.put hdvy1450 (by decide)), by omega, by omega, hFy2093, htxy2156⟩, fun j j1 j2 => by rw [egy2091, va_up_ne _ _ (by omega)]; rw [egy1479, va_up_ne _ _ (by omega)]; rw [egy1467, va_up_ne _ _ (by omega)]; rw [egy1456, va_up_ne _ _ (by omega)]; rw [hfvy1450 _ (by omega)]; rw [hfvy1448 _ (by omega)]; rw [hfvy34 _ (by omega)]; rw [hfvy32 _ (by omega)]⟩
        · clear hsvy1450
          have hpvy1450 : 1 ≤ Fvy1450 38 := by omega
          clear hxvy1450
          refine z_istore_n (lv' := [(2, .int (zI (vy1450))), (1, .int (zI (1))), (0, .ref (ad i))]) C dX10_hour1_75 rfl (by decide) rfl ?_
          refine z_aload_n C 2 dX10_hour1_76 rfl ?_
          refine z_get (v := .int (zI (Fvy1450 38))) C (by omega) hay1 hcvy1450 rfl inA_X10 38 (by decide) q_1497 rfl (fv (F := Fvy1450) (f := 38) rfl) dX10_hour1_77 ?_
          refine z_if_eq (tgt := 84) C dX10_hour1_80 (by decide) (by omega) (fun h => absurd h (by omega)) (fun _ => ?_)
          have hFy2157 : ∀ f, f ≠ 24 → f ≠ 32 → f ≠ 33 → f ≠ 35 → f ≠ 36 → f ≠ 37 → f ≠ 38 → f ≠ 47 → f ≠ 48 → f ≠ 49 → Fvy1450 f = F f := fun f n24 n32 n33 n35 n36 n37 n38 n47 n48 n49 => ((hFvy1450 f n24 n32 n33 n35 n36 n37 n38).trans ((hFvy1448 f n32 n33 n35 n36 n37).trans ((hFvy34 f n32 n33 n35 n36 n37).trans (hFvy32 f n24 n38))))
          have hey2158 : Fvy1450 32 = Fvy1450 32 := rfl
          have hey2159 : Fvy1450 35 = Fvy1450 35 := rfl
          have hey2160 : Fvy1450 38 = Fvy1450 38 := rfl
          have hey2161 : Fvy1450 32 = Fvy1450 32 := rfl
          have hey2162 : Fvy1450 47 = F 47 := ((hFvy1450 47 (by decide) (by decide) (by decide) (by decide) (by decide) (by decide) (by decide)).trans ((hFvy1448 47 (by decide) (by decide) (by decide) (by decide) (by decide)).trans ((hFvy34 47 (by decide) (by decide) (by decide) (by decide) (by decide)).trans (hFvy32 47 (by decide) (by decide)))))
          have hey2163 : Fvy1450 48 = F 48 := ((hFvy1450 48 (by decide) (by decide) (by decide) (by decide) (by decide) (by decide) (by decide)).trans ((hFvy1448 48 (by decide) (by decide) (by decide) (by decide) (by decide)).trans ((hFvy34 48 (by decide) (by decide) (by decide) (by decide) (by decide)).trans (hFvy32 48 (by decide) (by decide)))))
          have hey2164 : Fvy1450 49 = F 49 := ((hFvy1450 49 (by decide) (by decide) (by decide) (by decide) (by decide) (by decide) (by decide)).trans ((hFvy1448 49 (by decide) (by decide) (by decide) (by decide) (by decide)).trans ((hFvy34 49 (by decide) (by decide) (by decide) (by decide) (by decide)).trans (hFvy32 49 (by decide) (by decide)))))
          have hlay2166 : ∀ s l : Nat, (s : Int) < Fvy1450 47 → (l : Int) < mn1 s → lyT ly1 (84 * s + 7 * l) := fun s l a1 a2 => hly1 s l (by omega) a2
          have hgy2167 := (hfvy32 (i + 16) (ne_o (i := i) (c := 16) (d := 0) rfl)).trans ha16
          have hgy2168 := (hfvy34 (i + 16) (ne_o (i := i) (c := 16) (d := 0) rfl)).trans hgy2167
          have hgy2169 := (hfvy1448 (i + 16) (ne_o (i := i) (c := 16) (d := 0) rfl)).trans hgy2168
          have hgy2170 := (hfvy1450 (i + 16) (ne_o (i := i) (c := 16) (d := 0) rfl)).trans hgy2169
          have hgy2171 := (hfvy32 (i + 17) (ne_o (i := i) (c := 17) (d := 0) rfl)).trans ha17
          have hgy2172 := (hfvy34 (i + 17) (ne_o (i := i) (c := 17) (d := 0) rfl)).trans hgy2171
          have hgy2173 := (hfvy1448 (i + 17) (ne_o (i := i) (c := 17) (d := 0) rfl)).trans hgy2172
          have hgy2174 := (hfvy1450 (i + 17) (ne_o (i := i) (c := 17) (d := 0) rfl)).trans hgy2173
          have hgy2175 := (hfvy32 (i + 18) (ne_o (i := i) (c := 18) (d := 0) rfl)).trans ha18
          have hgy2176 := (hfvy34 (i + 18) (ne_o (i := i) (c := 18) (d := 0) rfl)).trans hgy2175
          have hgy2177 := (hfvy1448 (i + 18) (ne_o (i := i) (c := 18) (d := 0) rfl)).trans hgy2176
          have hgy2178 := (hfvy1450 (i + 18) (ne_o (i := i) (c := 18) (d := 0) rfl)).trans hgy2177
          have hgy2179 := (hfvy32 (i + 19) (ne_o (i := i) (c := 19) (d := 0) rfl)).trans ha19
          have hgy2180 := (hfvy34 (i + 19) (ne_o (i := i) (c := 19) (d := 0) rfl)).trans hgy2179
          have hgy2181 := (hfvy1448 (i + 19) (ne_o (i := i) (c := 19) (d := 0) rfl)).trans hgy2180
          have hgy2182 := (hfvy1450 (i + 19) (ne_o (i := i) (c := 19) (d := 0) rfl)).trans hgy2181
          have hgy2183 := (hfvy32 (i + 20) (ne_o (i := i) (c := 20) (d := 0) rfl)).trans ha20
          have hgy2184 := (hfvy34 (i + 20) (ne_o (i := i) (c := 20) (d := 0) rfl)).trans hgy2183
          have hgy2185 := (hfvy1448 (i + 20) (ne_o (i := i) (c := 20) (d := 0) rfl)).trans hgy2184
          have hgy2186 := (hfvy1450 (i + 20) (ne_o (i := i) (c := 20) (d := 0) rfl)).trans hgy2185
          have hgy2187 := (hfvy32 (i + 21) (ne_o (i := i) (c := 21) (d := 0) rfl)).trans ha21
          have hgy2188 := (hfvy34 (i + 21) (ne_o (i := i) (c := 21) (d := 0) rfl)).trans hgy2187
          have hgy2189 := (hfvy1448 (i + 21) (ne_o (i := i) (c := 21) (d := 0) rfl)).trans hgy2188
          have hgy2190 := (hfvy1450 (i + 21) (ne_o (i := i) (c := 21) (d := 0) rfl)).trans hgy2189
          have hgy2191 := (hfvy32 (i + 22) (ne_o (i := i) (c := 22) (d := 0) rfl)).trans ha22
          have hgy2192 := (hfvy34 (i + 22) (ne_o (i := i) (c := 22) (d := 0) rfl)).trans hgy2191
          have hgy2193 := (hfvy1448 (i + 22) (ne_o (i := i) (c := 22) (d := 0) rfl)).trans hgy2192
          have hgy2194 := (hfvy1450 (i + 22) (ne_o (i := i) (c := 22) (d := 0) rfl)).trans hgy2193
          have hgy2195 := (hfvy32 (i + 23) (ne_o (i := i) (c := 23) (d := 0) rfl)).trans ha23
          have hgy2196 := (hfvy34 (i + 23) (ne_o (i := i) (c := 23) (d := 0) rfl)).trans hgy2195
          have hgy2197 := (hfvy1448 (i + 23) (ne_o (i := i) (c := 23) (d := 0) rfl)).trans hgy2196
          have hgy2198 := (hfvy1450 (i + 23) (ne_o (i := i) (c := 23) (d := 0) rfl)).trans hgy2197
          have htxy2199 : okTx cs gvy1450 i Fvy1450 := ⟨_, _, _, _, _, _, _, _, ⟨hgy2170, hgy2174, hgy2178, hgy2182, hgy2186, hgy2190, hgy2194, hgy2198⟩, ⟨⟨by omega, by omega, by omega⟩, hop1, hmn1, hai1, hfa1, htb1, hlay2166⟩⟩
          exact z_vret C hr hlk dX10_hour1_83 (by decide) (by decide) ⟨rfl, rfl, rfl, ⟨_, hcvy1450, hdvy1450, by omega, by omega, hFy2157, htxy2199⟩, fun j j1 j2 => by rw [hfvy1450 _ (by omega)]; rw [hfvy1448 _ (by omega)]; rw [hfvy34 _ (by omega)]; rw [hfvy32 _ (by omega)]⟩

