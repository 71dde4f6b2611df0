set_option maxRecDepth 100000 in
set_option maxHeartbeats 4000000 in
theorem c_X10_table1 (l : Launch) (D : va_G) (A : Nat → Prop) (cs : Nat → ClassId) (tt : Nat) (N : Nat) (ad : Nat → Nat) (g : Nat → va_E) (i : Nat) (hN : i + 30 ≤ N) (F : Nat → Int) (hg : g i = mC ad i F) (tp : Nat → Int) (ha13 : g (i + 13) = iA cs 900 tp) (htp : ∀ k, k < 900 → 0 ≤ tp k ∧ tp k ≤ 255) (hRD : RD F) (h38 : F 38 = 0) (hTx : okTx cs g i F) (h37 : 6 ≤ F 37 ∧ F 37 ≤ 8) : zM l yX10_table1 cX10_table1 3 none ({ frames := 5, cells := 0, slots := 0, locals := 300 } : Room) D A cs tt N ad g [.ref (ad i)] (rV0 N ad fun g' => (∃ F' : Nat → Int, g' i = mC ad i F' ∧ RD F' ∧ F 32 ≤ F' 32 ∧ (F' 38 = 0 → F' 35 ≠ 0 → F 32 < F' 32) ∧ (∀ f, f ≠ 24 → f ≠ 32 → f ≠ 33 → f ≠ 35 → f ≠ 36 → f ≠ 37 → f ≠ 38 → f ≠ 47 → f ≠ 48 → f ≠ 49 → F' f = F f) ∧ okTx cs g' i F') ∧ ∀ j, j ≠ i → j < i + 16 ∨ i + 23 < j → g' j = g j) := by
  have hay1 : zAt ad (i) (ad i) := rfl
  have hay2 : zAt ad (i + 13) (ad (i + 13)) := rfl
  obtain ⟨d32, d33, d35, d36, d2, d37, d38⟩ := id hRD
  obtain ⟨st1, op1, mn1, ai1, fa1, mu1, tb1, ly1, ⟨ha16, ha17, ha18, ha19, ha20, ha21, ha22, ha23⟩, ⟨⟨t47, t48, t49⟩, hop1, hmn1, hai1, hfa1, htb1, hly1⟩⟩ := id hTx
  have hay3 : zAt ad (i + 16) (ad (i + 16)) := rfl
  have hay4 : zAt ad (i + 17) (ad (i + 17)) := rfl
  have hay5 : zAt ad (i + 18) (ad (i + 18)) := rfl
  have hay6 : zAt ad (i + 19) (ad (i + 19)) := rfl
  have hay7 : zAt ad (i + 20) (ad (i + 20)) := rfl
  have hay8 : zAt ad (i + 21) (ad (i + 21)) := rfl
  have hay9 : zAt ad (i + 22) (ad (i + 22)) := rfl
  have hay10 : zAt ad (i + 23) (ad (i + 23)) := rfl
  refine z_of (by decide) (Nat.le_of_ble_eq_true rfl) ?_
  intro pZ eZ sZ mZ below meth cZ C hr hlk hnm
  refine z_lv (lv' := [(0, .ref (ad i))]) [0] rfl ?_
  refine z_aload_n C 0 dX10_table1_0 rfl ?_
  refine z_get (v := .int (zI (F 37))) C (by omega) hay1 hg rfl inA_X10 37 (by decide) q_1496 rfl (fv (F := F) (f := 37) rfl) dX10_table1_1 ?_
  refine z_bipush (z := 6) C dX10_table1_4 (by decide) ?_
  refine z_isub C dX10_table1_6 ?_
  refine z_istore_n (lv' := [(1, .int (zI ((F 37) - 6))), (0, .ref (ad i))]) C dX10_table1_7 rfl (by decide) rfl ?_
  refine z_aload_n C 1 dX10_table1_8 rfl ?_
  refine z_cV (As := []) (rest := []) (ci := 12) C (c_X10_go l D A cs tt N ad _ i hN _ hg _ ha13 htp hRD) (by omega) hay1 hg rfl rfl mv_yX10_go q_1652 hd_yX10_go (by decide) (Nat.le_of_ble_eq_true rfl) (by decide) dX10_table1_9 rfl (kV0 fun gvy11 hvy11 => ?_)
  obtain ⟨⟨Fvy11, hcvy11, hdvy11, hlvy11, hsvy11, hFvy11⟩, hfvy11⟩ := hvy11
  have h34vy11 : Fvy11 34 = F 34 := (hFvy11 34 (by decide) (by decide) (by decide) (by decide) (by decide)).trans (rfl)
  obtain ⟨d32vy11, -, d35vy11, d36vy11, -, d37vy11, d38vy11⟩ := id hdvy11
  have h38vy11 : Fvy11 38 = 0 := ((hFvy11 38 (by decide) (by decide) (by decide) (by decide) (by decide)).trans h38)
  refine z_aload_n C 1 dX10_table1_12 rfl ?_
  refine z_aload_n C 1 dX10_table1_13 rfl ?_
  have hey13 : Fvy11 35 = Fvy11 35 := rfl
  have hey14 : Fvy11 37 = Fvy11 37 := rfl
  refine z_cV (As := []) (rest := [.ref (ad i)]) (ci := 12) C (c_X10_isKind l D A cs tt N ad _ i hN _ hcvy11 hdvy11 ) (by omega) hay1 hcvy11 rfl rfl mv_yX10_isKind q_1693 hd_yX10_isKind (by decide) (Nat.le_of_ble_eq_true rfl) (by decide) dX10_table1_14 rfl (kI0 fun vy12 gvy12 hvy12 => ?_)
  rw [hey13, hey14] at hvy12
  clear hey13 hey14
  obtain ⟨hrvy12, hqvy12, rfl⟩ := hvy12
  rcases (show vy12 = 1 ∨ vy12 = 0 by omega) with rfl | rfl
  · have hkvy12 := hqvy12 rfl
    clear hqvy12
    refine z_iconst (z := 1) C dX10_table1_17 rfl ?_
    have h38vy15 : Fvy11 38 = 0 := ((hFvy11 38 (by decide) (by decide) (by decide) (by decide) (by decide)).trans h38)
    refine z_cV (As := [.int (zI (1)), .int (zI (1))]) (rest := []) (ci := 12) C (c_X10_wants l D A cs tt N ad _ i hN _ hcvy11 (by omega) (1) (by omega) (1) (by omega)) (by omega) hay1 hcvy11 rfl rfl mv_yX10_wants q_1678 hd_yX10_wants (by decide) (Nat.le_of_ble_eq_true rfl) (by decide) dX10_table1_18 rfl (kI0 fun vy15 gvy15 hvy15 => ?_)
    obtain ⟨⟨Fvy15, hcvy15, hqvy15, hbvy15, hFvy15⟩, hfvy15⟩ := hvy15
    have hdvy15 : RD Fvy15 := RD.w hdvy11 hFvy15 hbvy15
    obtain rfl : vy15 = 1 := by omega
    have e38vy15 : Fvy15 38 = 0 := by omega
    clear hqvy15
    refine z_if_ne (tgt := 25) C dX10_table1_21 (by decide) (by omega) (fun _ => ?_) (fun h => absurd h (by omega))
    refine z_iconst (z := 5) C dX10_table1_25 rfl ?_
    refine z_iload_n C 0 dX10_table1_26 rfl ?_
    refine z_imul C dX10_table1_27 ?_
    refine z_aload_n C 1 dX10_table1_28 rfl ?_
    have hey17 : Fvy15 37 = Fvy11 37 := (hFvy15 37 (by decide) (by decide))
    refine z_cV (As := []) (rest := [.int (zI (5 * ((F 37) - 6)))]) (ci := 12) C (c_X10_kindHere l D A cs tt N ad _ i hN _ hcvy15 hdvy15 ) (by omega) hay1 hcvy15 rfl rfl mv_yX10_kindHere q_1697 hd_yX10_kindHere (by decide) (Nat.le_of_ble_eq_true rfl) (by decide) dX10_table1_29 rfl (kI0 fun vy16 gvy16 hvy16 => ?_)
    rw [hey17] at hvy16
    clear hey17
    obtain ⟨hrvy16, rfl⟩ := hvy16
    have hkvy16 : 0 ≤ vy16 ∧ vy16 ≤ 4 := by omega
    clear hrvy16
    refine z_iadd C dX10_table1_32 ?_
    obtain ⟨kty18, hkty18⟩ : ∃ n9 : Nat, (5 * ((F 37) - 6)) + vy16 = (n9 : Int) := ⟨((5 * ((F 37) - 6)) + vy16).toNat, by omega⟩
    rw [hkty18]
    refine z_istore_n (lv' := [(2, .int (zI ((kty18 : Int)))), (1, .int (zI ((F 37) - 6))), (0, .ref (ad i))]) C dX10_table1_33 rfl (by decide) rfl ?_
    refine z_aload_n C 2 dX10_table1_34 rfl ?_
    refine z_aload_n C 2 dX10_table1_35 rfl ?_
    refine z_get (v := .ref (ad (i + 22))) C (by omega) hay1 hcvy15 rfl inA_X10 45 (by decide) q_1504 rfl rfl dX10_table1_36 ?_
    refine z_iload_n C 0 dX10_table1_39 rfl ?_
    have hgy19 := (hfvy11 (i + 22) (ne_o (i := i) (c := 22) (d := 0) rfl)).trans ha22
    have hgy20 := (hfvy15 (i + 22) (ne_o (i := i) (c := 22) (d := 0) rfl)).trans hgy19
    refine z_iald C (by omega) hay9 hgy20 (kty18) (by omega) (by omega) (by decide) dX10_table1_40 ?_
    refine z_iconst (z := -1) C dX10_table1_41 rfl ?_
    obtain ⟨xy21, exy22, hxy23⟩ := zI_of (zI (tb1 (kty18)))
    rw [exy22]
    refine z_icmp_ne (tgt := 49) C dX10_table1_42 (by decide) (by omega) (by omega) (fun hby24 => ?_) (fun hby24 => ?_)
    · refine z_iconst (z := 0) C dX10_table1_49 rfl ?_
      refine z_iconst (z := 4) C dX10_table1_50 rfl ?_
      have h38vy25 : Fvy15 38 = 0 := e38vy15
      refine z_cV (As := [.int (zI (0)), .int (zI (4))]) (rest := []) (ci := 12) C (c_X10_wants l D A cs tt N ad _ i hN _ hcvy15 (by omega) (0) (by omega) (4) (by omega)) (by omega) hay1 hcvy15 rfl rfl mv_yX10_wants q_1678 hd_yX10_wants (by decide) (Nat.le_of_ble_eq_true rfl) (by decide) dX10_table1_51 rfl (kI0 fun vy25 gvy25 hvy25 => ?_)
      obtain ⟨⟨Fvy25, hcvy25, hqvy25, hbvy25, hFvy25⟩, hfvy25⟩ := hvy25
      have hdvy25 : RD Fvy25 := RD.w hdvy15 hFvy25 hbvy25
      obtain rfl : vy25 = 0 := by omega
      have e38vy25 : 1 ≤ Fvy25 38 := by omega
      clear hqvy25
      refine z_if_ne (tgt := 58) C dX10_table1_54 (by decide) (by omega) (fun h => absurd h (by omega)) (fun _ => ?_)
      have hFy26 : ∀ f, f ≠ 24 → f ≠ 32 → f ≠ 33 → f ≠ 35 → f ≠ 36 → f ≠ 37 → f ≠ 38 → f ≠ 47 → f ≠ 48 → f ≠ 49 → Fvy25 f = F f := fun f n24 n32 n33 n35 n36 n37 n38 n47 n48 n49 => ((hFvy25 f n24 n38).trans ((hFvy15 f n24 n38).trans (hFvy11 f n32 n33 n35 n36 n37)))
      have hey27 : Fvy25 32 = Fvy11 32 := ((hFvy25 32 (by decide) (by decide)).trans (hFvy15 32 (by decide) (by decide)))
      have hey28 : Fvy25 35 = Fvy11 35 := ((hFvy25 35 (by decide) (by decide)).trans (hFvy15 35 (by decide) (by decide)))
      have hey29 : Fvy25 38 = Fvy25 38 := rfl
      have hey30 : Fvy25 32 = Fvy11 32 := ((hFvy25 32 (by decide) (by decide)).trans (hFvy15 32 (by decide) (by decide)))
      have hey31 : Fvy25 47 = F 47 := ((hFvy25 47 (by decide) (by decide)).trans ((hFvy15 47 (by decide) (by decide)).trans (hFvy11 47 (by decide) (by decide) (by decide) (by decide) (by decide))))
      have hey32 : Fvy25 48 = F 48 := ((hFvy25 48 (by decide) (by decide)).trans ((hFvy15 48 (by decide) (by decide)).trans (hFvy11 48 (by decide) (by decide) (by decide) (by decide) (by decide))))
      have hey33 : Fvy25 49 = F 49 := ((hFvy25 49 (by decide) (by decide)).trans ((hFvy15 49 (by decide) (by decide)).trans (hFvy11 49 (by decide) (by decide) (by decide) (by decide) (by decide))))
      have hlay35 : ∀ s l : Nat, (s : Int) < Fvy25 47 → (l : Int) < mn1 s → lyT ly1 (84 * s + 7 * l) := fun s l a1 a2 => hly1 s l (by omega) a2
      have hgy36 := (hfvy11 (i + 16) (ne_o (i := i) (c := 16) (d := 0) rfl)).trans ha16
      have hgy37 := (hfvy15 (i + 16) (ne_o (i := i) (c := 16) (d := 0) rfl)).trans hgy36
      have hgy38 := (hfvy25 (i + 16) (ne_o (i := i) (c := 16) (d := 0) rfl)).trans hgy37
      have hgy39 := (hfvy11 (i + 17) (ne_o (i := i) (c := 17) (d := 0) rfl)).trans ha17
      have hgy40 := (hfvy15 (i + 17) (ne_o (i := i) (c := 17) (d := 0) rfl)).trans hgy39
      have hgy41 := (hfvy25 (i + 17) (ne_o (i := i) (c := 17) (d := 0) rfl)).trans hgy40
      have hgy42 := (hfvy11 (i + 18) (ne_o (i := i) (c := 18) (d := 0) rfl)).trans ha18
      have hgy43 := (hfvy15 (i + 18) (ne_o (i := i) (c := 18) (d := 0) rfl)).trans hgy42
      have hgy44 := (hfvy25 (i + 18) (ne_o (i := i) (c := 18) (d := 0) rfl)).trans hgy43
      have hgy45 := (hfvy11 (i + 19) (ne_o (i := i) (c := 19) (d := 0) rfl)).trans ha19
      have hgy46 := (hfvy15 (i + 19) (ne_o (i := i) (c := 19) (d := 0) rfl)).trans hgy45
      have hgy47 := (hfvy25 (i + 19) (ne_o (i := i) (c := 19) (d := 0) rfl)).trans hgy46
      have hgy48 := (hfvy11 (i + 20) (ne_o (i := i) (c := 20) (d := 0) rfl)).trans ha20
      have hgy49 := (hfvy15 (i + 20) (ne_o (i := i) (c := 20) (d := 0) rfl)).trans hgy48
      have hgy50 := (hfvy25 (i + 20) (ne_o (i := i) (c := 20) (d := 0) rfl)).trans hgy49
      have hgy51 := (hfvy11 (i + 21) (ne_o (i := i) (c := 21) (d := 0) rfl)).trans ha21
      have hgy52 := (hfvy15 (i + 21) (ne_o (i := i) (c := 21) (d := 0) rfl)).trans hgy51
      have hgy53 := (hfvy25 (i + 21) (ne_o (i := i) (c := 21) (d := 0) rfl)).trans hgy52
      have hgy54 := (hfvy25 (i + 22) (ne_o (i := i) (c := 22) (d := 0) rfl)).trans hgy20
      have hgy55 := (hfvy11 (i + 23) (ne_o (i := i) (c := 23) (d := 0) rfl)).trans ha23
      have hgy56 := (hfvy15 (i + 23) (ne_o (i := i) (c := 23) (d := 0) rfl)).trans hgy55
      have hgy57 := (hfvy25 (i + 23) (ne_o (i := i) (c := 23) (d := 0) rfl)).trans hgy56
      have htxy58 : okTx cs gvy25 i Fvy25 := ⟨_, _, _, _, _, _, _, _, ⟨hgy38, hgy41, hgy44, hgy47, hgy50, hgy53, hgy54, hgy57⟩, ⟨⟨by omega, by omega, by omega⟩, hop1, hmn1, hai1, hfa1, htb1, hlay35⟩⟩
      exact z_vret C hr hlk dX10_table1_57 (by decide) (by decide) ⟨rfl, rfl, rfl, ⟨_, hcvy25, hdvy25, by omega, by omega, hFy26, htxy58⟩, fun j j1 j2 => by rw [hfvy25 _ (by omega)]; rw [hfvy15 _ (by omega)]; rw [hfvy11 _ (by omega)]⟩
    · refine z_iconst (z := 1) C dX10_table1_45 rfl ?_
      refine z_goto (tgt := 50) C dX10_table1_46 (by decide) ?_
      refine z_iconst (z := 4) C dX10_table1_50 rfl ?_
      have h38vy59 : Fvy15 38 = 0 := e38vy15
      refine z_cV (As := [.int (zI (1)), .int (zI (4))]) (rest := []) (ci := 12) C (c_X10_wants l D A cs tt N ad _ i hN _ hcvy15 (by omega) (1) (by omega) (4) (by omega)) (by omega) hay1 hcvy15 rfl rfl mv_yX10_wants q_1678 hd_yX10_wants (by decide) (Nat.le_of_ble_eq_true rfl) (by decide) dX10_table1_51 rfl (kI0 fun vy59 gvy59 hvy59 => ?_)
      obtain ⟨⟨Fvy59, hcvy59, hqvy59, hbvy59, hFvy59⟩, hfvy59⟩ := hvy59
      have hdvy59 : RD Fvy59 := RD.w hdvy15 hFvy59 hbvy59
      obtain rfl : vy59 = 1 := by omega
      have e38vy59 : Fvy59 38 = 0 := by omega
      clear hqvy59
      refine z_if_ne (tgt := 58) C dX10_table1_54 (by decide) (by omega) (fun _ => ?_) (fun h => absurd h (by omega))
      refine z_aload_n C 2 dX10_table1_58 rfl ?_
      have hgy60 := (hfvy11 (i + 13) (ne_o (i := i) (c := 13) (d := 0) rfl)).trans ha13
      have hgy61 := (hfvy15 (i + 13) (ne_o (i := i) (c := 13) (d := 0) rfl)).trans hgy60
      have hgy62 := (hfvy59 (i + 13) (ne_o (i := i) (c := 13) (d := 0) rfl)).trans hgy61
      refine z_cV (As := []) (rest := []) (ci := 12) C (c_X10_go l D A cs tt N ad _ i hN _ hcvy59 _ hgy62 htp hdvy59) (by omega) hay1 hcvy59 rfl rfl mv_yX10_go q_1652 hd_yX10_go (by decide) (Nat.le_of_ble_eq_true rfl) (by decide) dX10_table1_59 rfl (kV0 fun gvy63 hvy63 => ?_)
      obtain ⟨⟨Fvy63, hcvy63, hdvy63, hlvy63, hsvy63, hFvy63⟩, hfvy63⟩ := hvy63
      rw [show Fvy59 32 = Fvy11 32 from ((hFvy59 32 (by decide) (by decide)).trans (hFvy15 32 (by decide) (by decide)))] at hlvy63 hsvy63
      have h34vy63 : Fvy63 34 = F 34 := (hFvy63 34 (by decide) (by decide) (by decide) (by decide) (by decide)).trans (((hFvy59 34 (by decide) (by decide)).trans ((hFvy15 34 (by decide) (by decide)).trans (hFvy11 34 (by decide) (by decide) (by decide) (by decide) (by decide)))))
      obtain ⟨d32vy63, -, d35vy63, d36vy63, -, d37vy63, d38vy63⟩ := id hdvy63
      have h38vy63 : Fvy63 38 = 0 := ((hFvy63 38 (by decide) (by decide) (by decide) (by decide) (by decide)).trans e38vy59)
      clear hsvy63
      refine z_aload_n C 2 dX10_table1_62 rfl ?_
      refine z_get (v := .ref (ad (i + 22))) C (by omega) hay1 hcvy63 rfl inA_X10 45 (by decide) q_1504 rfl rfl dX10_table1_63 ?_
      refine z_iload_n C 0 dX10_table1_66 rfl ?_
      refine z_aload_n C 2 dX10_table1_67 rfl ?_
      refine z_iload_n C 1 dX10_table1_68 rfl ?_
      refine z_iconst (z := 2) C dX10_table1_69 rfl ?_
      refine z_icmp_ne (tgt := 77) C dX10_table1_70 (by decide) (by omega) (by omega) (fun hby64 => ?_) (fun hby64 => ?_)
      · refine z_iconst (z := 0) C dX10_table1_77 rfl ?_
        refine z_iload_n C 1 dX10_table1_78 rfl ?_
        refine z_iconst (z := 2) C dX10_table1_79 rfl ?_
        refine z_icmp_ne (tgt := 89) C dX10_table1_80 (by decide) (by omega) (by omega) (fun hby65 => ?_) (fun hby65 => ?_)
        · refine z_bipush (z := 99) C dX10_table1_89 (by decide) ?_
          have hgy66 := (hfvy63 (i + 13) (ne_o (i := i) (c := 13) (d := 0) rfl)).trans hgy62
          refine z_cV (As := [.int (zI (0)), .int (zI (99))]) (rest := [.int (zI ((kty18 : Int))), .ref (ad (i + 22))]) (ci := 12) C (c_X10_number l D A cs tt N ad _ i hN _ hcvy63 _ hgy66 htp hdvy63 (0) (by omega) (99) (by omega)) (by omega) hay1 hcvy63 rfl rfl mv_yX10_number q_1682 hd_yX10_number (by decide) (Nat.le_of_ble_eq_true rfl) (by decide) dX10_table1_91 rfl (kI0 fun vy67 gvy67 hvy67 => ?_)
          obtain ⟨hrvy67, ⟨Fvy67, hcvy67, hdvy67, hlvy67, hsvy67, hFvy67⟩, hfvy67⟩ := hvy67
          rw [show Fvy63 32 = Fvy63 32 from rfl] at hlvy67
          rw [show Fvy63 38 = 0 from ((hFvy63 38 (by decide) (by decide) (by decide) (by decide) (by decide)).trans e38vy59), show Fvy63 35 = Fvy63 35 from rfl] at hsvy67
          have h34vy67 : Fvy67 34 = F 34 := (hFvy67 34 (by decide) (by decide) (by decide) (by decide) (by decide) (by decide) (by decide)).trans (((hFvy63 34 (by decide) (by decide) (by decide) (by decide) (by decide)).trans ((hFvy59 34 (by decide) (by decide)).trans ((hFvy15 34 (by decide) (by decide)).trans (hFvy11 34 (by decide) (by decide) (by decide) (by decide) (by decide))))))
          obtain ⟨d32vy67, -, d35vy67, d36vy67, -, d37vy67, d38vy67⟩ := id hdvy67
          have hgy68 := (hfvy59 (i + 22) (ne_o (i := i) (c := 22) (d := 0) rfl)).trans hgy20
          have hgy69 := (hfvy63 (i + 22) (ne_o (i := i) (c := 22) (d := 0) rfl)).trans hgy68
          have hgy70 := (hfvy67 (i + 22) (ne_o (i := i) (c := 22) (d := 0) rfl)).trans hgy69
          refine z_iast C (by omega) hay9 hgy70 (kty18) (by omega) (by omega) (by decide) dX10_table1_94 (fun gy71 egy72 => ?_)
          have hgy73 := up_s egy72
          obtain ⟨ry74, hvy75⟩ : ∃ rZ9 : Nat → Int, rZ9 = uZ tb1 (kty18) (vy67) := ⟨_, rfl⟩
          rw [← hvy75] at hgy73
          have hgy76 := up_n egy72 hcvy67 (ne_o (i := i) (c := 0) (d := 22) rfl)
          have hFy77 : ∀ f, f ≠ 24 → f ≠ 32 → f ≠ 33 → f ≠ 35 → f ≠ 36 → f ≠ 37 → f ≠ 38 → f ≠ 47 → f ≠ 48 → f ≠ 49 → Fvy67 f = F f := fun f n24 n32 n33 n35 n36 n37 n38 n47 n48 n49 => ((hFvy67 f n24 n32 n33 n35 n36 n37 n38).trans ((hFvy63 f n32 n33 n35 n36 n37).trans ((hFvy59 f n24 n38).trans ((hFvy15 f n24 n38).trans (hFvy11 f n32 n33 n35 n36 n37)))))
          have hey78 : Fvy67 32 = Fvy67 32 := rfl
          have hey79 : Fvy67 35 = Fvy67 35 := rfl
          have hey80 : Fvy67 38 = Fvy67 38 := rfl
          have hey81 : Fvy67 32 = Fvy67 32 := rfl
          have hey82 : Fvy67 47 = F 47 := ((hFvy67 47 (by decide) (by decide) (by decide) (by decide) (by decide) (by decide) (by decide)).trans ((hFvy63 47 (by decide) (by decide) (by decide) (by decide) (by decide)).trans ((hFvy59 47 (by decide) (by decide)).trans ((hFvy15 47 (by decide) (by decide)).trans (hFvy11 47 (by decide) (by decide) (by decide) (by decide) (by decide))))))
          have hey83 : Fvy67 48 = F 48 := ((hFvy67 48 (by decide) (by decide) (by decide) (by decide) (by decide) (by decide) (by decide)).trans ((hFvy63 48 (by decide) (by decide) (by decide) (by decide) (by decide)).trans ((hFvy59 48 (by decide) (by decide)).trans ((hFvy15 48 (by decide) (by decide)).trans (hFvy11 48 (by decide) (by decide) (by decide) (by decide) (by decide))))))
          have hey84 : Fvy67 49 = F 49 := ((hFvy67 49 (by decide) (by decide) (by decide) (by decide) (by decide) (by decide) (by decide)).trans ((hFvy63 49 (by decide) (by decide) (by decide) (by decide) (by decide)).trans ((hFvy59 49 (by decide) (by decide)).trans ((hFvy15 49 (by decide) (by decide)).trans (hFvy11 49 (by decide) (by decide) (by decide) (by decide) (by decide))))))
          have hfry87 : ∀ j, j ≠ kty18 → ry74 j = tb1 j := fun j n0 => (congrFun hvy75 _).trans ((uZ_n _ _ n0).trans (rfl))
          have hwy88 : ry74 (kty18) = vy67 := (congrFun hvy75 _).trans (uZ_s _ _ _)
          have haky86 : ∀ k, k < 15 → ry74 k = -1 ∨ ((0 ≤ ry74 k ∧ ry74 k ≤ 9999) ∧ (10 ≤ k → 1 ≤ ry74 k)) := by
            intro k hk
            by_cases e : k = kty18
            · rw [e]; have hk0 := htb1 (kty18) (by omega); omega
            · have hk0 := htb1 k hk; rw [hfry87 k e]; exact hk0
          have hlay89 : ∀ s l : Nat, (s : Int) < Fvy67 47 → (l : Int) < mn1 s → lyT ly1 (84 * s + 7 * l) := fun s l a1 a2 => hly1 s l (by omega) a2
          have hgy90 := (hfvy11 (i + 16) (ne_o (i := i) (c := 16) (d := 0) rfl)).trans ha16
          have hgy91 := (hfvy15 (i + 16) (ne_o (i := i) (c := 16) (d := 0) rfl)).trans hgy90
          have hgy92 := (hfvy59 (i + 16) (ne_o (i := i) (c := 16) (d := 0) rfl)).trans hgy91
          have hgy93 := (hfvy63 (i + 16) (ne_o (i := i) (c := 16) (d := 0) rfl)).trans hgy92
          have hgy94 := (hfvy67 (i + 16) (ne_o (i := i) (c := 16) (d := 0) rfl)).trans hgy93
          have hgy95 := up_n egy72 hgy94 (ne_o (i := i) (c := 16) (d := 22) rfl)
          have hgy96 := (hfvy11 (i + 17) (ne_o (i := i) (c := 17) (d := 0) rfl)).trans ha17
          have hgy97 := (hfvy15 (i + 17) (ne_o (i := i) (c := 17) (d := 0) rfl)).trans hgy96
          have hgy98 := (hfvy59 (i + 17) (ne_o (i := i) (c := 17) (d := 0) rfl)).trans hgy97
          have hgy99 := (hfvy63 (i + 17) (ne_o (i := i) (c := 17) (d := 0) rfl)).trans hgy98
          have hgy100 := (hfvy67 (i + 17) (ne_o (i := i) (c := 17) (d := 0) rfl)).trans hgy99
          have hgy101 := up_n egy72 hgy100 (ne_o (i := i) (c := 17) (d := 22) rfl)
          have hgy102 := (hfvy11 (i + 18) (ne_o (i := i) (c := 18) (d := 0) rfl)).trans ha18
          have hgy103 := (hfvy15 (i + 18) (ne_o (i := i) (c := 18) (d := 0) rfl)).trans hgy102
          have hgy104 := (hfvy59 (i + 18) (ne_o (i := i) (c := 18) (d := 0) rfl)).trans hgy103
          have hgy105 := (hfvy63 (i + 18) (ne_o (i := i) (c := 18) (d := 0) rfl)).trans hgy104
          have hgy106 := (hfvy67 (i + 18) (ne_o (i := i) (c := 18) (d := 0) rfl)).trans hgy105
          have hgy107 := up_n egy72 hgy106 (ne_o (i := i) (c := 18) (d := 22) rfl)
          have hgy108 := (hfvy11 (i + 19) (ne_o (i := i) (c := 19) (d := 0) rfl)).trans ha19
          have hgy109 := (hfvy15 (i + 19) (ne_o (i := i) (c := 19) (d := 0) rfl)).trans hgy108
          have hgy110 := (hfvy59 (i + 19) (ne_o (i := i) (c := 19) (d := 0) rfl)).trans hgy109
          have hgy111 := (hfvy63 (i + 19) (ne_o (i := i) (c := 19) (d := 0) rfl)).trans hgy110
          have hgy112 := (hfvy67 (i + 19) (ne_o (i := i) (c := 19) (d := 0) rfl)).trans hgy111
          have hgy113 := up_n egy72 hgy112 (ne_o (i := i) (c := 19) (d := 22) rfl)
          have hgy114 := (hfvy11 (i + 20) (ne_o (i := i) (c := 20) (d := 0) rfl)).trans ha20
          have hgy115 := (hfvy15 (i + 20) (ne_o (i := i) (c := 20) (d := 0) rfl)).trans hgy114
          have hgy116 := (hfvy59 (i + 20) (ne_o (i := i) (c := 20) (d := 0) rfl)).trans hgy115
          have hgy117 := (hfvy63 (i + 20) (ne_o (i := i) (c := 20) (d := 0) rfl)).trans hgy116
          have hgy118 := (hfvy67 (i + 20) (ne_o (i := i) (c := 20) (d := 0) rfl)).trans hgy117
          have hgy119 := up_n egy72 hgy118 (ne_o (i := i) (c := 20) (d := 22) rfl)
          have hgy120 := (hfvy11 (i + 21) (ne_o (i := i) (c := 21) (d := 0) rfl)).trans ha21
          have hgy121 := (hfvy15 (i + 21) (ne_o (i := i) (c := 21) (d := 0) rfl)).trans hgy120
          have hgy122 := (hfvy59 (i + 21) (ne_o (i := i) (c := 21) (d := 0) rfl)).trans hgy121
          have hgy123 := (hfvy63 (i + 21) (ne_o (i := i) (c := 21) (d := 0) rfl)).trans hgy122
          have hgy124 := (hfvy67 (i + 21) (ne_o (i := i) (c := 21) (d := 0) rfl)).trans hgy123
          have hgy125 := up_n egy72 hgy124 (ne_o (i := i) (c := 21) (d := 22) rfl)
          have hgy126 := (hfvy11 (i + 23) (ne_o (i := i) (c := 23) (d := 0) rfl)).trans ha23
          have hgy127 := (hfvy15 (i + 23) (ne_o (i := i) (c := 23) (d := 0) rfl)).trans hgy126
          have hgy128 := (hfvy59 (i + 23) (ne_o (i := i) (c := 23) (d := 0) rfl)).trans hgy127
          have hgy129 := (hfvy63 (i + 23) (ne_o (i := i) (c := 23) (d := 0) rfl)).trans hgy128
          have hgy130 := (hfvy67 (i + 23) (ne_o (i := i) (c := 23) (d := 0) rfl)).trans hgy129
          have hgy131 := up_n egy72 hgy130 (ne_o (i := i) (c := 23) (d := 22) rfl)
          have htxy132 : okTx cs gy71 i Fvy67 := ⟨_, _, _, _, _, _, _, _, ⟨hgy95, hgy101, hgy107, hgy113, hgy119, hgy125, hgy73, hgy131⟩, ⟨⟨by omega, by omega, by omega⟩, hop1, hmn1, hai1, hfa1, haky86, hlay89⟩⟩
          exact z_vret C hr hlk dX10_table1_95 (by decide) (by decide) ⟨rfl, rfl, rfl, ⟨_, hgy76, hdvy67, by omega, by omega, hFy77, htxy132⟩, fun j j1 j2 => by rw [egy72, va_up_ne _ _ (by omega)]; rw [hfvy67 _ (by omega)]; rw [hfvy63 _ (by omega)]; rw [hfvy59 _ (by omega)]; rw [hfvy15 _ (by omega)]; rw [hfvy11 _ (by omega)]⟩
        · refine z_sipush (z := 9999) C dX10_table1_83 (by decide) ?_
          refine z_goto (tgt := 91) C dX10_table1_86 (by decide) ?_
          have hgy133 := (hfvy63 (i + 13) (ne_o (i := i) (c := 13) (d := 0) rfl)).trans hgy62
          refine z_cV (As := [.int (zI (0)), .int (zI (9999))]) (rest := [.int (zI ((kty18 : Int))), .ref (ad (i + 22))]) (ci := 12) C (c_X10_number l D A cs tt N ad _ i hN _ hcvy63 _ hgy133 htp hdvy63 (0) (by omega) (9999) (by omega)) (by omega) hay1 hcvy63 rfl rfl mv_yX10_number q_1682 hd_yX10_number (by decide) (Nat.le_of_ble_eq_true rfl) (by decide) dX10_table1_91 rfl (kI0 fun vy134 gvy134 hvy134 => ?_)
          obtain ⟨hrvy134, ⟨Fvy134, hcvy134, hdvy134, hlvy134, hsvy134, hFvy134⟩, hfvy134⟩ := hvy134
          rw [show Fvy63 32 = Fvy63 32 from rfl] at hlvy134
          rw [show Fvy63 38 = 0 from ((hFvy63 38 (by decide) (by decide) (by decide) (by decide) (by decide)).trans e38vy59), show Fvy63 35 = Fvy63 35 from rfl] at hsvy134
          have h34vy134 : Fvy134 34 = F 34 := (hFvy134 34 (by decide) (by decide) (by decide) (by decide) (by decide) (by decide) (by decide)).trans (((hFvy63 34 (by decide) (by decide) (by decide) (by decide) (by decide)).trans ((hFvy59 34 (by decide) (by decide)).trans ((hFvy15 34 (by decide) (by decide)).trans (hFvy11 34 (by decide) (by decide) (by decide) (by decide) (by decide))))))
          obtain ⟨d32vy134, -, d35vy134, d36vy134, -, d37vy134, d38vy134⟩ := id hdvy134
          have hgy135 := (hfvy59 (i + 22) (ne_o (i := i) (c := 22) (d := 0) rfl)).trans hgy20
          have hgy136 := (hfvy63 (i + 22) (ne_o (i := i) (c := 22) (d := 0) rfl)).trans hgy135
          have hgy137 := (hfvy134 (i + 22) (ne_o (i := i) (c := 22) (d := 0) rfl)).trans hgy136
          refine z_iast C (by omega) hay9 hgy137 (kty18) (by omega) (by omega) (by decide) dX10_table1_94 (fun gy138 egy139 => ?_)
          have hgy140 := up_s egy139
          obtain ⟨ry141, hvy142⟩ : ∃ rZ9 : Nat → Int, rZ9 = uZ tb1 (kty18) (vy134) := ⟨_, rfl⟩
          rw [← hvy142] at hgy140
          have hgy143 := up_n egy139 hcvy134 (ne_o (i := i) (c := 0) (d := 22) rfl)
          have hFy144 : ∀ f, f ≠ 24 → f ≠ 32 → f ≠ 33 → f ≠ 35 → f ≠ 36 → f ≠ 37 → f ≠ 38 → f ≠ 47 → f ≠ 48 → f ≠ 49 → Fvy134 f = F f := fun f n24 n32 n33 n35 n36 n37 n38 n47 n48 n49 => ((hFvy134 f n24 n32 n33 n35 n36 n37 n38).trans ((hFvy63 f n32 n33 n35 n36 n37).trans ((hFvy59 f n24 n38).trans ((hFvy15 f n24 n38).trans (hFvy11 f n32 n33 n35 n36 n37)))))
          have hey145 : Fvy134 32 = Fvy134 32 := rfl
          have hey146 : Fvy134 35 = Fvy134 35 := rfl
          have hey147 : Fvy134 38 = Fvy134 38 := rfl
          have hey148 : Fvy134 32 = Fvy134 32 := rfl
          have hey149 : Fvy134 47 = F 47 := ((hFvy134 47 (by decide) (by decide) (by decide) (by decide) (by decide) (by decide) (by decide)).trans ((hFvy63 47 (by decide) (by decide) (by decide) (by decide) (by decide)).trans ((hFvy59 47 (by decide) (by decide)).trans ((hFvy15 47 (by decide) (by decide)).trans (hFvy11 47 (by decide) (by decide) (by decide) (by decide) (by decide))))))
          have hey150 : Fvy134 48 = F 48 := ((hFvy134 48 (by decide) (by decide) (by decide) (by decide) (by decide) (by decide) (by decide)).trans ((hFvy63 48 (by decide) (by decide) (by decide) (by decide) (by decide)).trans ((hFvy59 48 (by decide) (by decide)).trans ((hFvy15 48 (by decide) (by decide)).trans (hFvy11 48 (by decide) (by decide) (by decide) (by decide) (by decide))))))
          have hey151 : Fvy134 49 = F 49 := ((hFvy134 49 (by decide) (by decide) (by decide) (by decide) (by decide) (by decide) (by decide)).trans ((hFvy63 49 (by decide) (by decide) (by decide) (by decide) (by decide)).trans ((hFvy59 49 (by decide) (by decide)).trans ((hFvy15 49 (by decide) (by decide)).trans (hFvy11 49 (by decide) (by decide) (by decide) (by decide) (by decide))))))
          have hfry154 : ∀ j, j ≠ kty18 → ry141 j = tb1 j := fun j n0 => (congrFun hvy142 _).trans ((uZ_n _ _ n0).trans (rfl))
          have hwy155 : ry141 (kty18) = vy134 := (congrFun hvy142 _).trans (uZ_s _ _ _)
          have haky153 : ∀ k, k < 15 → ry141 k = -1 ∨ ((0 ≤ ry141 k ∧ ry141 k ≤ 9999) ∧ (10 ≤ k → 1 ≤ ry141 k)) := by
            intro k hk
            by_cases e : k = kty18
            · rw [e]; have hk0 := htb1 (kty18) (by omega); omega
            · have hk0 := htb1 k hk; rw [hfry154 k e]; exact hk0
          have hlay156 : ∀ s l : Nat, (s : Int) < Fvy134 47 → (l : Int) < mn1 s → lyT ly1 (84 * s + 7 * l) := fun s l a1 a2 => hly1 s l (by omega) a2
          have hgy157 := (hfvy11 (i + 16) (ne_o (i := i) (c := 16) (d := 0) rfl)).trans ha16
          have hgy158 := (hfvy15 (i + 16) (ne_o (i := i) (c := 16) (d := 0) rfl)).trans hgy157
          have hgy159 := (hfvy59 (i + 16) (ne_o (i := i) (c := 16) (d := 0) rfl)).trans hgy158
          have hgy160 := (hfvy63 (i + 16) (ne_o (i := i) (c := 16) (d := 0) rfl)).trans hgy159
          have hgy161 := (hfvy134 (i + 16) (ne_o (i := i) (c := 16) (d := 0) rfl)).trans hgy160
          have hgy162 := up_n egy139 hgy161 (ne_o (i := i) (c := 16) (d := 22) rfl)
          have hgy163 := (hfvy11 (i + 17) (ne_o (i := i) (c := 17) (d := 0) rfl)).trans ha17
          have hgy164 := (hfvy15 (i + 17) (ne_o (i := i) (c := 17) (d := 0) rfl)).trans hgy163
          have hgy165 := (hfvy59 (i + 17) (ne_o (i := i) (c := 17) (d := 0) rfl)).trans hgy164
          have hgy166 := (hfvy63 (i + 17) (ne_o (i := i) (c := 17) (d := 0) rfl)).trans hgy165
          have hgy167 := (hfvy134 (i + 17) (ne_o (i := i) (c := 17) (d := 0) rfl)).trans hgy166
          have hgy168 := up_n egy139 hgy167 (ne_o (i := i) (c := 17) (d := 22) rfl)
          have hgy169 := (hfvy11 (i + 18) (ne_o (i := i) (c := 18) (d := 0) rfl)).trans ha18
          have hgy170 := (hfvy15 (i + 18) (ne_o (i := i) (c := 18) (d := 0) rfl)).trans hgy169
          have hgy171 := (hfvy59 (i + 18) (ne_o (i := i) (c := 18) (d := 0) rfl)).trans hgy170
          have hgy172 := (hfvy63 (i + 18) (ne_o (i := i) (c := 18) (d := 0) rfl)).trans hgy171
          have hgy173 := (hfvy134 (i + 18) (ne_o (i := i) (c := 18) (d := 0) rfl)).trans hgy172
          have hgy174 := up_n egy139 hgy173 (ne_o (i := i) (c := 18) (d := 22) rfl)
          have hgy175 := (hfvy11 (i + 19) (ne_o (i := i) (c := 19) (d := 0) rfl)).trans ha19
          have hgy176 := (hfvy15 (i + 19) (ne_o (i := i) (c := 19) (d := 0) rfl)).trans hgy175
          have hgy177 := (hfvy59 (i + 19) (ne_o (i := i) (c := 19) (d := 0) rfl)).trans hgy176
          have hgy178 := (hfvy63 (i + 19) (ne_o (i := i) (c := 19) (d := 0) rfl)).trans hgy177
          have hgy179 := (hfvy134 (i + 19) (ne_o (i := i) (c := 19) (d := 0) rfl)).trans hgy178
          have hgy180 := up_n egy139 hgy179 (ne_o (i := i) (c := 19) (d := 22) rfl)
          have hgy181 := (hfvy11 (i + 20) (ne_o (i := i) (c := 20) (d := 0) rfl)).trans ha20
          have hgy182 := (hfvy15 (i + 20) (ne_o (i := i) (c := 20) (d := 0) rfl)).trans hgy181
          have hgy183 := (hfvy59 (i + 20) (ne_o (i := i) (c := 20) (d := 0) rfl)).trans hgy182
          have hgy184 := (hfvy63 (i + 20) (ne_o (i := i) (c := 20) (d := 0) rfl)).trans hgy183
          have hgy185 := (hfvy134 (i + 20) (ne_o (i := i) (c := 20) (d := 0) rfl)).trans hgy184
          have hgy186 := up_n egy139 hgy185 (ne_o (i := i) (c := 20) (d := 22) rfl)
          have hgy187 := (hfvy11 (i + 21) (ne_o (i := i) (c := 21) (d := 0) rfl)).trans ha21
          have hgy188 := (hfvy15 (i + 21) (ne_o (i := i) (c := 21) (d := 0) rfl)).trans hgy187
          have hgy189 := (hfvy59 (i + 21) (ne_o (i := i) (c := 21) (d := 0) rfl)).trans hgy188
          have hgy190 := (hfvy63 (i + 21) (ne_o (i := i) (c := 21) (d := 0) rfl)).trans hgy189
          have hgy191 := (hfvy134 (i + 21) (ne_o (i := i) (c := 21) (d := 0) rfl)).trans hgy190
          have hgy192 := up_n egy139 hgy191 (ne_o (i := i) (c := 21) (d := 22) rfl)
          have hgy193 := (hfvy11 (i + 23) (ne_o (i := i) (c := 23) (d := 0) rfl)).trans ha23
          have hgy194 := (hfvy15 (i + 23) (ne_o (i := i) (c := 23) (d := 0) rfl)).trans hgy193
          have hgy195 := (hfvy59 (i + 23) (ne_o (i := i) (c := 23) (d := 0) rfl)).trans hgy194
          have hgy196 := (hfvy63 (i + 23) (ne_o (i := i) (c := 23) (d := 0) rfl)).trans hgy195
          have hgy197 := (hfvy134 (i + 23) (ne_o (i := i) (c := 23) (d := 0) rfl)).trans hgy196
          have hgy198 := up_n egy139 hgy197 (ne_o (i := i) (c := 23) (d := 22) rfl)
          have htxy199 : okTx cs gy138 i Fvy134 := ⟨_, _, _, _, _, _, _, _, ⟨hgy162, hgy168, hgy174, hgy180, hgy186, hgy192, hgy140, hgy198⟩, ⟨⟨by omega, by omega, by omega⟩, hop1, hmn1, hai1, hfa1, haky153, hlay156⟩⟩
          exact z_vret C hr hlk dX10_table1_95 (by decide) (by decide) ⟨rfl, rfl, rfl, ⟨_, hgy143, hdvy134, by omega, by omega, hFy144, htxy199⟩, fun j j1 j2 => by rw [egy139, va_up_ne _ _ (by omega)]; rw [hfvy134 _ (by omega)]; rw [hfvy63 _ (by omega)]; rw [hfvy59 _ (by omega)]; rw [hfvy15 _ (by omega)]; rw [hfvy11 _ (by omega)]⟩
      · refine z_iconst (z := 1) C dX10_table1_73 rfl ?_
        refine z_goto (tgt := 78) C dX10_table1_74 (by decide) ?_
        refine z_iload_n C 1 dX10_table1_78 rfl ?_
        refine z_iconst (z := 2) C dX10_table1_79 rfl ?_
        refine z_icmp_ne (tgt := 89) C dX10_table1_80 (by decide) (by omega) (by omega) (fun hby200 => ?_) (fun hby200 => ?_)
        · refine z_bipush (z := 99) C dX10_table1_89 (by decide) ?_
          have hgy201 := (hfvy63 (i + 13) (ne_o (i := i) (c := 13) (d := 0) rfl)).trans hgy62
          refine z_cV (As := [.int (zI (1)), .int (zI (99))]) (rest := [.int (zI ((kty18 : Int))), .ref (ad (i + 22))]) (ci := 12) C (c_X10_number l D A cs tt N ad _ i hN _ hcvy63 _ hgy201 htp hdvy63 (1) (by omega) (99) (by omega)) (by omega) hay1 hcvy63 rfl rfl mv_yX10_number q_1682 hd_yX10_number (by decide) (Nat.le_of_ble_eq_true rfl) (by decide) dX10_table1_91 rfl (kI0 fun vy202 gvy202 hvy202 => ?_)
          obtain ⟨hrvy202, ⟨Fvy202, hcvy202, hdvy202, hlvy202, hsvy202, hFvy202⟩, hfvy202⟩ := hvy202
          rw [show Fvy63 32 = Fvy63 32 from rfl] at hlvy202
          rw [show Fvy63 38 = 0 from ((hFvy63 38 (by decide) (by decide) (by decide) (by decide) (by decide)).trans e38vy59), show Fvy63 35 = Fvy63 35 from rfl] at hsvy202
          have h34vy202 : Fvy202 34 = F 34 := (hFvy202 34 (by decide) (by decide) (by decide) (by decide) (by decide) (by decide) (by decide)).trans (((hFvy63 34 (by decide) (by decide) (by decide) (by decide) (by decide)).trans ((hFvy59 34 (by decide) (by decide)).trans ((hFvy15 34 (by decide) (by decide)).trans (hFvy11 34 (by decide) (by decide) (by decide) (by decide) (by decide))))))
          obtain ⟨d32vy202, -, d35vy202, d36vy202, -, d37vy202, d38vy202⟩ := id hdvy202
          have hgy203 := (hfvy59 (i + 22) (ne_o (i := i) (c := 22) (d := 0) rfl)).trans hgy20
          have hgy204 := (hfvy63 (i + 22) (ne_o (i := i) (c := 22) (d := 0) rfl)).trans hgy203
          have hgy205 := (hfvy202 (i + 22) (ne_o (i := i) (c := 22) (d := 0) rfl)).trans hgy204
          refine z_iast C (by omega) hay9 hgy205 (kty18) (by omega) (by omega) (by decide) dX10_table1_94 (fun gy206 egy207 => ?_)
          have hgy208 := up_s egy207
          obtain ⟨ry209, hvy210⟩ : ∃ rZ9 : Nat → Int, rZ9 = uZ tb1 (kty18) (vy202) := ⟨_, rfl⟩
          rw [← hvy210] at hgy208
          have hgy211 := up_n egy207 hcvy202 (ne_o (i := i) (c := 0) (d := 22) rfl)
          have hFy212 : ∀ f, f ≠ 24 → f ≠ 32 → f ≠ 33 → f ≠ 35 → f ≠ 36 → f ≠ 37 → f ≠ 38 → f ≠ 47 → f ≠ 48 → f ≠ 49 → Fvy202 f = F f := fun f n24 n32 n33 n35 n36 n37 n38 n47 n48 n49 => ((hFvy202 f n24 n32 n33 n35 n36 n37 n38).trans ((hFvy63 f n32 n33 n35 n36 n37).trans ((hFvy59 f n24 n38).trans ((hFvy15 f n24 n38).trans (hFvy11 f n32 n33 n35 n36 n37)))))
          have hey213 : Fvy202 32 = Fvy202 32 := rfl
          have hey214 : Fvy202 35 = Fvy202 35 := rfl
          have hey215 : Fvy202 38 = Fvy202 38 := rfl
          have hey216 : Fvy202 32 = Fvy202 32 := rfl
          have hey217 : Fvy202 47 = F 47 := ((hFvy202 47 (by decide) (by decide) (by decide) (by decide) (by decide) (by decide) (by decide)).trans ((hFvy63 47 (by decide) (by decide) (by decide) (by decide) (by decide)).trans ((hFvy59 47 (by decide) (by decide)).trans ((hFvy15 47 (by decide) (by decide)).trans (hFvy11 47 (by decide) (by decide) (by decide) (by decide) (by decide))))))
          have hey218 : Fvy202 48 = F 48 := ((hFvy202 48 (by decide) (by decide) (by decide) (by decide) (by decide) (by decide) (by decide)).trans ((hFvy63 48 (by decide) (by decide) (by decide) (by decide) (by decide)).trans ((hFvy59 48 (by decide) (by decide)).trans ((hFvy15 48 (by decide) (by decide)).trans (hFvy11 48 (by decide) (by decide) (by decide) (by decide) (by decide))))))
          have hey219 : Fvy202 49 = F 49 := ((hFvy202 49 (by decide) (by decide) (by decide) (by decide) (by decide) (by decide) (by decide)).trans ((hFvy63 49 (by decide) (by decide) (by decide) (by decide) (by decide)).trans ((hFvy59 49 (by decide) (by decide)).trans ((hFvy15 49 (by decide) (by decide)).trans (hFvy11 49 (by decide) (by decide) (by decide) (by decide) (by decide))))))
          have hfry222 : ∀ j, j ≠ kty18 → ry209 j = tb1 j := fun j n0 => (congrFun hvy210 _).trans ((uZ_n _ _ n0).trans (rfl))
          have hwy223 : ry209 (kty18) = vy202 := (congrFun hvy210 _).trans (uZ_s _ _ _)
          have haky221 : ∀ k, k < 15 → ry209 k = -1 ∨ ((0 ≤ ry209 k ∧ ry209 k ≤ 9999) ∧ (10 ≤ k → 1 ≤ ry209 k)) := by
            intro k hk
            by_cases e : k = kty18
            · rw [e]; have hk0 := htb1 (kty18) (by omega); omega
            · have hk0 := htb1 k hk; rw [hfry222 k e]; exact hk0
          have hlay224 : ∀ s l : Nat, (s : Int) < Fvy202 47 → (l : Int) < mn1 s → lyT ly1 (84 * s + 7 * l) := fun s l a1 a2 => hly1 s l (by omega) a2
          have hgy225 := (hfvy11 (i + 16) (ne_o (i := i) (c := 16) (d := 0) rfl)).trans ha16
          have hgy226 := (hfvy15 (i + 16) (ne_o (i := i) (c := 16) (d := 0) rfl)).trans hgy225
          have hgy227 := (hfvy59 (i + 16) (ne_o (i := i) (c := 16) (d := 0) rfl)).trans hgy226
          have hgy228 := (hfvy63 (i + 16) (ne_o (i := i) (c := 16) (d := 0) rfl)).trans hgy227
          have hgy229 := (hfvy202 (i + 16) (ne_o (i := i) (c := 16) (d := 0) rfl)).trans hgy228
          have hgy230 := up_n egy207 hgy229 (ne_o (i := i) (c := 16) (d := 22) rfl)
          have hgy231 := (hfvy11 (i + 17) (ne_o (i := i) (c := 17) (d := 0) rfl)).trans ha17
          have hgy232 := (hfvy15 (i + 17) (ne_o (i := i) (c := 17) (d := 0) rfl)).trans hgy231
          have hgy233 := (hfvy59 (i + 17) (ne_o (i := i) (c := 17) (d := 0) rfl)).trans hgy232
          have hgy234 := (hfvy63 (i + 17) (ne_o (i := i) (c := 17) (d := 0) rfl)).trans hgy233
          have hgy235 := (hfvy202 (i + 17) (ne_o (i := i) (c := 17) (d := 0) rfl)).trans hgy234
          have hgy236 := up_n egy207 hgy235 (ne_o (i := i) (c := 17) (d := 22) rfl)
          have hgy237 := (hfvy11 (i + 18) (ne_o (i := i) (c := 18) (d := 0) rfl)).trans ha18
          have hgy238 := (hfvy15 (i + 18) (ne_o (i := i) (c := 18) (d := 0) rfl)).trans hgy237
          have hgy239 := (hfvy59 (i + 18) (ne_o (i := i) (c := 18) (d := 0) rfl)).trans hgy238
          have hgy240 := (hfvy63 (i + 18) (ne_o (i := i) (c := 18) (d := 0) rfl)).trans hgy239
          have hgy241 := (hfvy202 (i + 18) (ne_o (i := i) (c := 18) (d := 0) rfl)).trans hgy240
          have hgy242 := up_n egy207 hgy241 (ne_o (i := i) (c := 18) (d := 22) rfl)
          have hgy243 := (hfvy11 (i + 19) (ne_o (i := i) (c := 19) (d := 0) rfl)).trans ha19
          have hgy244 := (hfvy15 (i + 19) (ne_o (i := i) (c := 19) (d := 0) rfl)).trans hgy243
          have hgy245 := (hfvy59 (i + 19) (ne_o (i := i) (c := 19) (d := 0) rfl)).trans hgy244
          have hgy246 := (hfvy63 (i + 19) (ne_o (i := i) (c := 19) (d := 0) rfl)).trans hgy245
          have hgy247 := (hfvy202 (i + 19) (ne_o (i := i) (c := 19) (d := 0) rfl)).trans hgy246
          have hgy248 := up_n egy207 hgy247 (ne_o (i := i) (c := 19) (d := 22) rfl)
          have hgy249 := (hfvy11 (i + 20) (ne_o (i := i) (c := 20) (d := 0) rfl)).trans ha20
          have hgy250 := (hfvy15 (i + 20) (ne_o (i := i) (c := 20) (d := 0) rfl)).trans hgy249
          have hgy251 := (hfvy59 (i + 20) (ne_o (i := i) (c := 20) (d := 0) rfl)).trans hgy250
          have hgy252 := (hfvy63 (i + 20) (ne_o (i := i) (c := 20) (d := 0) rfl)).trans hgy251
          have hgy253 := (hfvy202 (i + 20) (ne_o (i := i) (c := 20) (d := 0) rfl)).trans hgy252
          have hgy254 := up_n egy207 hgy253 (ne_o (i := i) (c := 20) (d := 22) rfl)
          have hgy255 := (hfvy11 (i + 21) (ne_o (i := i) (c := 21) (d := 0) rfl)).trans ha21
          have hgy256 := (hfvy15 (i + 21) (ne_o (i := i) (c := 21) (d := 0) rfl)).trans hgy255
          have hgy257 := (hfvy59 (i + 21) (ne_o (i := i) (c := 21) (d := 0) rfl)).trans hgy256
          have hgy258 := (hfvy63 (i + 21) (ne_o (i := i) (c := 21) (d := 0) rfl)).trans hgy257
          have hgy259 := (hfvy202 (i + 21) (ne_o (i := i) (c := 21) (d := 0) rfl)).trans hgy258
          have hgy260 := up_n egy207 hgy259 (ne_o (i := i) (c := 21) (d := 22) rfl)
          have hgy261 := (hfvy11 (i + 23) (ne_o (i := i) (c := 23) (d := 0) rfl)).trans ha23
          have hgy262 := (hfvy15 (i + 23) (ne_o (i := i) (c := 23) (d := 0) rfl)).trans hgy261
          have hgy263 := (hfvy59 (i + 23) (ne_o (i := i) (c := 23) (d := 0) rfl)).trans hgy262
          have hgy264 := (hfvy63 (i + 23) (ne_o (i := i) (c := 23) (d := 0) rfl)).trans hgy263
          have hgy265 := (hfvy202 (i + 23) (ne_o (i := i) (c := 23) (d := 0) rfl)).trans hgy264
          have hgy266 := up_n egy207 hgy265 (ne_o (i := i) (c := 23) (d := 22) rfl)
          have htxy267 : okTx cs gy206 i Fvy202 := ⟨_, _, _, _, _, _, _, _, ⟨hgy230, hgy236, hgy242, hgy248, hgy254, hgy260, hgy208, hgy266⟩, ⟨⟨by omega, by omega, by omega⟩, hop1, hmn1, hai1, hfa1, haky221, hlay224⟩⟩
          exact z_vret C hr hlk dX10_table1_95 (by decide) (by decide) ⟨rfl, rfl, rfl, ⟨_, hgy211, hdvy202, by omega, by omega, hFy212, htxy267⟩, fun j j1 j2 => by rw [egy207, va_up_ne _ _ (by omega)]; rw [hfvy202 _ (by omega)]; rw [hfvy63 _ (by omega)]; rw [hfvy59 _ (by omega)]; rw [hfvy15 _ (by omega)]; rw [hfvy11 _ (by omega)]⟩
        · refine z_sipush (z := 9999) C dX10_table1_83 (by decide) ?_
          refine z_goto (tgt := 91) C dX10_table1_86 (by decide) ?_
          have hgy268 := (hfvy63 (i + 13) (ne_o (i := i) (c := 13) (d := 0) rfl)).trans hgy62
          refine z_cV (As := [.int (zI (1)), .int (zI (9999))]) (rest := [.int (zI ((kty18 : Int))), .ref (ad (i + 22))]) (ci := 12) C (c_X10_number l D A cs tt N ad _ i hN _ hcvy63 _ hgy268 htp hdvy63 (1) (by omega) (9999) (by omega)) (by omega) hay1 hcvy63 rfl rfl mv_yX10_number q_1682 hd_yX10_number (by decide) (Nat.le_of_ble_eq_true rfl) (by decide) dX10_table1_91 rfl (kI0 fun vy269 gvy269 hvy269 => ?_)
          obtain ⟨hrvy269, ⟨Fvy269, hcvy269, hdvy269, hlvy269, hsvy269, hFvy269⟩, hfvy269⟩ := hvy269
          rw [show Fvy63 32 = Fvy63 32 from rfl] at hlvy269
          rw [show Fvy63 38 = 0 from ((hFvy63 38 (by decide) (by decide) (by decide) (by decide) (by decide)).trans e38vy59), show Fvy63 35 = Fvy63 35 from rfl] at hsvy269
          have h34vy269 : Fvy269 34 = F 34 := (hFvy269 34 (by decide) (by decide) (by decide) (by decide) (by decide) (by decide) (by decide)).trans (((hFvy63 34 (by decide) (by decide) (by decide) (by decide) (by decide)).trans ((hFvy59 34 (by decide) (by decide)).trans ((hFvy15 34 (by decide) (by decide)).trans (hFvy11 34 (by decide) (by decide) (by decide) (by decide) (by decide))))))
          obtain ⟨d32vy269, -, d35vy269, d36vy269, -, d37vy269, d38vy269⟩ := id hdvy269
          have hgy270 := (hfvy59 (i + 22) (ne_o (i := i) (c := 22) (d := 0) rfl)).trans hgy20
          have hgy271 := (hfvy63 (i + 22) (ne_o (i := i) (c := 22) (d := 0) rfl)).trans hgy270
          have hgy272 := (hfvy269 (i + 22) (ne_o (i := i) (c := 22) (d := 0) rfl)).trans hgy271
          refine z_iast C (by omega) hay9 hgy272 (kty18) (by omega) (by omega) (by decide) dX10_table1_94 (fun gy273 egy274 => ?_)
          have hgy275 := up_s egy274
          obtain ⟨ry276, hvy277⟩ : ∃ rZ9 : Nat → Int, rZ9 = uZ tb1 (kty18) (vy269) := ⟨_, rfl⟩
          rw [← hvy277] at hgy275
          have hgy278 := up_n egy274 hcvy269 (ne_o (i := i) (c := 0) (d := 22) rfl)
          have hFy279 : ∀ f, f ≠ 24 → f ≠ 32 → f ≠ 33 → f ≠ 35 → f ≠ 36 → f ≠ 37 → f ≠ 38 → f ≠ 47 → f ≠ 48 → f ≠ 49 → Fvy269 f = F f := fun f n24 n32 n33 n35 n36 n37 n38 n47 n48 n49 => ((hFvy269 f n24 n32 n33 n35 n36 n37 n38).trans ((hFvy63 f n32 n33 n35 n36 n37).trans ((hFvy59 f n24 n38).trans ((hFvy15 f n24 n38).trans (hFvy11 f n32 n33 n35 n36 n37)))))
          have hey280 : Fvy269 32 = Fvy269 32 := rfl
          have hey281 : Fvy269 35 = Fvy269 35 := rfl
          have hey282 : Fvy269 38 = Fvy269 38 := rfl
          have hey283 : Fvy269 32 = Fvy269 32 := rfl
          have hey284 : Fvy269 47 = F 47 := ((hFvy269 47 (by decide) (by decide) (by decide) (by decide) (by decide) (by decide) (by decide)).trans ((hFvy63 47 (by decide) (by decide) (by decide) (by decide) (by decide)).trans ((hFvy59 47 (by decide) (by decide)).trans ((hFvy15 47 (by decide) (by decide)).trans (hFvy11 47 (by decide) (by decide) (by decide) (by decide) (by decide))))))
          have hey285 : Fvy269 48 = F 48 := ((hFvy269 48 (by decide) (by decide) (by decide) (by decide) (by decide) (by decide) (by decide)).trans ((hFvy63 48 (by decide) (by decide) (by decide) (by decide) (by decide)).trans ((hFvy59 48 (by decide) (by decide)).trans ((hFvy15 48 (by decide) (by decide)).trans (hFvy11 48 (by decide) (by decide) (by decide) (by decide) (by decide))))))
          have hey286 : Fvy269 49 = F 49 := ((hFvy269 49 (by decide) (by decide) (by decide) (by decide) (by decide) (by decide) (by decide)).trans ((hFvy63 49 (by decide) (by decide) (by decide) (by decide) (by decide)).trans ((hFvy59 49 (by decide) (by decide)).trans ((hFvy15 49 (by decide) (by decide)).trans (hFvy11 49 (by decide) (by decide) (by decide) (by decide) (by decide))))))
          have hfry289 : ∀ j, j ≠ kty18 → ry276 j = tb1 j := fun j n0 => (congrFun hvy277 _).trans ((uZ_n _ _ n0).trans (rfl))
          have hwy290 : ry276 (kty18) = vy269 := (congrFun hvy277 _).trans (uZ_s _ _ _)
          have haky288 : ∀ k, k < 15 → ry276 k = -1 ∨ ((0 ≤ ry276 k ∧ ry276 k ≤ 9999) ∧ (10 ≤ k → 1 ≤ ry276 k)) := by
            intro k hk
            by_cases e : k = kty18
            · rw [e]; have hk0 := htb1 (kty18) (by omega); omega
            · have hk0 := htb1 k hk; rw [hfry289 k e]; exact hk0
          have hlay291 : ∀ s l : Nat, (s : Int) < Fvy269 47 → (l : Int) < mn1 s → lyT ly1 (84 * s + 7 * l) := fun s l a1 a2 => hly1 s l (by omega) a2
          have hgy292 := (hfvy11 (i + 16) (ne_o (i := i) (c := 16) (d := 0) rfl)).trans ha16
          have hgy293 := (hfvy15 (i + 16) (ne_o (i := i) (c := 16) (d := 0) rfl)).trans hgy292
          have hgy294 := (hfvy59 (i + 16) (ne_o (i := i) (c := 16) (d := 0) rfl)).trans hgy293
          have hgy295 := (hfvy63 (i + 16) (ne_o (i := i) (c := 16) (d := 0) rfl)).trans hgy294
          have hgy296 := (hfvy269 (i + 16) (ne_o (i := i) (c := 16) (d := 0) rfl)).trans hgy295
          have hgy297 := up_n egy274 hgy296 (ne_o (i := i) (c := 16) (d := 22) rfl)
          have hgy298 := (hfvy11 (i + 17) (ne_o (i := i) (c := 17) (d := 0) rfl)).trans ha17
          have hgy299 := (hfvy15 (i + 17) (ne_o (i := i) (c := 17) (d := 0) rfl)).trans hgy298
          have hgy300 := (hfvy59 (i + 17) (ne_o (i := i) (c := 17) (d := 0) rfl)).trans hgy299
          have hgy301 := (hfvy63 (i + 17) (ne_o (i := i) (c := 17) (d := 0) rfl)).trans hgy300
          have hgy302 := (hfvy269 (i + 17) (ne_o (i := i) (c := 17) (d := 0) rfl)).trans hgy301
          have hgy303 := up_n egy274 hgy302 (ne_o (i := i) (c := 17) (d := 22) rfl)
          have hgy304 := (hfvy11 (i + 18) (ne_o (i := i) (c := 18) (d := 0) rfl)).trans ha18
          have hgy305 := (hfvy15 (i + 18) (ne_o (i := i) (c := 18) (d := 0) rfl)).trans hgy304
          have hgy306 := (hfvy59 (i + 18) (ne_o (i := i) (c := 18) (d := 0) rfl)).trans hgy305
          have hgy307 := (hfvy63 (i + 18) (ne_o (i := i) (c := 18) (d := 0) rfl)).trans hgy306
          have hgy308 := (hfvy269 (i + 18) (ne_o (i := i) (c := 18) (d := 0) rfl)).trans hgy307
          have hgy309 := up_n egy274 hgy308 (ne_o (i := i) (c := 18) (d := 22) rfl)
          have hgy310 := (hfvy11 (i + 19) (ne_o (i := i) (c := 19) (d := 0) rfl)).trans ha19
          have hgy311 := (hfvy15 (i + 19) (ne_o (i := i) (c := 19) (d := 0) rfl)).trans hgy310
          have hgy312 := (hfvy59 (i + 19) (ne_o (i := i) (c := 19) (d := 0) rfl)).trans hgy311
          have hgy313 := (hfvy63 (i + 19) (ne_o (i := i) (c := 19) (d := 0) rfl)).trans hgy312
          have hgy314 := (hfvy269 (i + 19) (ne_o (i := i) (c := 19) (d := 0) rfl)).trans hgy313
          have hgy315 := up_n egy274 hgy314 (ne_o (i := i) (c := 19) (d := 22) rfl)
          have hgy316 := (hfvy11 (i + 20) (ne_o (i := i) (c := 20) (d := 0) rfl)).trans ha20
          have hgy317 := (hfvy15 (i + 20) (ne_o (i := i) (c := 20) (d := 0) rfl)).trans hgy316
          have hgy318 := (hfvy59 (i + 20) (ne_o (i := i) (c := 20) (d := 0) rfl)).trans hgy317
          have hgy319 := (hfvy63 (i + 20) (ne_o (i := i) (c := 20) (d := 0) rfl)).trans hgy318
          have hgy320 := (hfvy269 (i + 20) (ne_o (i := i) (c := 20) (d := 0) rfl)).trans hgy319
          have hgy321 := up_n egy274 hgy320 (ne_o (i := i) (c := 20) (d := 22) rfl)
          have hgy322 := (hfvy11 (i + 21) (ne_o (i := i) (c := 21) (d := 0) rfl)).trans ha21
          have hgy323 := (hfvy15 (i + 21) (ne_o (i := i) (c := 21) (d := 0) rfl)).trans hgy322
          have hgy324 := (hfvy59 (i + 21) (ne_o (i := i) (c := 21) (d := 0) rfl)).trans hgy323
          have hgy325 := (hfvy63 (i + 21) (ne_o (i := i) (c := 21) (d := 0) rfl)).trans hgy324
          have hgy326 := (hfvy269 (i + 21) (ne_o (i := i) (c := 21) (d := 0) rfl)).trans hgy325
          have hgy327 := up_n egy274 hgy326 (ne_o (i := i) (c := 21) (d := 22) rfl)
          have hgy328 := (hfvy11 (i + 23) (ne_o (i := i) (c := 23) (d := 0) rfl)).trans ha23
          have hgy329 := (hfvy15 (i + 23) (ne_o (i := i) (c := 23) (d := 0) rfl)).trans hgy328
          have hgy330 := (hfvy59 (i + 23) (ne_o (i := i) (c := 23) (d := 0) rfl)).trans hgy329
          have hgy331 := (hfvy63 (i + 23) (ne_o (i := i) (c := 23) (d := 0) rfl)).trans hgy330
          have hgy332 := (hfvy269 (i + 23) (ne_o (i := i) (c := 23) (d := 0) rfl)).trans hgy331
          have hgy333 := up_n egy274 hgy332 (ne_o (i := i) (c := 23) (d := 22) rfl)
          have htxy334 : okTx cs gy273 i Fvy269 := ⟨_, _, _, _, _, _, _, _, ⟨hgy297, hgy303, hgy309, hgy315, hgy321, hgy327, hgy275, hgy333⟩, ⟨⟨by omega, by omega, by omega⟩, hop1, hmn1, hai1, hfa1, haky288, hlay291⟩⟩
          exact z_vret C hr hlk dX10_table1_95 (by decide) (by decide) ⟨rfl, rfl, rfl, ⟨_, hgy278, hdvy269, by omega, by omega, hFy279, htxy334⟩, fun j j1 j2 => by rw [egy274, va_up_ne _ _ (by omega)]; rw [hfvy269 _ (by omega)]; rw [hfvy63 _ (by omega)]; rw [hfvy59 _ (by omega)]; rw [hfvy15 _ (by omega)]; rw [hfvy11 _ (by omega)]⟩
  · clear hqvy12
    refine z_iconst (z := 1) C dX10_table1_17 rfl ?_
    have h38vy335 : Fvy11 38 = 0 := ((hFvy11 38 (by decide) (by decide) (by decide) (by decide) (by decide)).trans h38)
    refine z_cV (As := [.int (zI (0)), .int (zI (1))]) (rest := []) (ci := 12) C (c_X10_wants l D A cs tt N ad _ i hN _ hcvy11 (by omega) (0) (by omega) (1) (by omega)) (by omega) hay1 hcvy11 rfl rfl mv_yX10_wants q_1678 hd_yX10_wants (by decide) (Nat.le_of_ble_eq_true rfl) (by decide) dX10_table1_18 rfl (kI0 fun vy335 gvy335 hvy335 => ?_)
    obtain ⟨⟨Fvy335, hcvy335, hqvy335, hbvy335, hFvy335⟩, hfvy335⟩ := hvy335
    have hdvy335 : RD Fvy335 := RD.w hdvy11 hFvy335 hbvy335
    obtain rfl : vy335 = 0 := by omega
    have e38vy335 : 1 ≤ Fvy335 38 := by omega
    clear hqvy335
    refine z_if_ne (tgt := 25) C dX10_table1_21 (by decide) (by omega) (fun h => absurd h (by omega)) (fun _ => ?_)
    have hFy336 : ∀ f, f ≠ 24 → f ≠ 32 → f ≠ 33 → f ≠ 35 → f ≠ 36 → f ≠ 37 → f ≠ 38 → f ≠ 47 → f ≠ 48 → f ≠ 49 → Fvy335 f = F f := fun f n24 n32 n33 n35 n36 n37 n38 n47 n48 n49 => ((hFvy335 f n24 n38).trans (hFvy11 f n32 n33 n35 n36 n37))
    have hey337 : Fvy335 32 = Fvy11 32 := (hFvy335 32 (by decide) (by decide))
    have hey338 : Fvy335 35 = Fvy11 35 := (hFvy335 35 (by decide) (by decide))
    have hey339 : Fvy335 38 = Fvy335 38 := rfl
    have hey340 : Fvy335 32 = Fvy11 32 := (hFvy335 32 (by decide) (by decide))
    have hey341 : Fvy335 47 = F 47 := ((hFvy335 47 (by decide) (by decide)).trans (hFvy11 47 (by decide) (by decide) (by decide) (by decide) (by decide)))
    have hey342 : Fvy335 48 = F 48 := ((hFvy335 48 (by decide) (by decide)).trans (hFvy11 48 (by decide) (by decide) (by decide) (by decide) (by decide)))
    have hey343 : Fvy335 49 = F 49 := ((hFvy335 49 (by decide) (by decide)).trans (hFvy11 49 (by decide) (by decide) (by decide) (by decide) (by decide)))
    have hlay345 : ∀ s l : Nat, (s : Int) < Fvy335 47 → (l : Int) < mn1 s → lyT ly1 (84 * s + 7 * l) := fun s l a1 a2 => hly1 s l (by omega) a2
    have hgy346 := (hfvy11 (i + 16) (ne_o (i := i) (c := 16) (d := 0) rfl)).trans ha16
    have hgy347 := (hfvy335 (i + 16) (ne_o (i := i) (c := 16) (d := 0) rfl)).trans hgy346
    have hgy348 := (hfvy11 (i + 17) (ne_o (i := i) (c := 17) (d := 0) rfl)).trans ha17
    have hgy349 := (hfvy335 (i + 17) (ne_o (i := i) (c := 17) (d := 0) rfl)).trans hgy348
    have hgy350 := (hfvy11 (i + 18) (ne_o (i := i) (c := 18) (d := 0) rfl)).trans ha18
    have hgy351 := (hfvy335 (i + 18) (ne_o (i := i) (c := 18) (d := 0) rfl)).trans hgy350
    have hgy352 := (hfvy11 (i + 19) (ne_o (i := i) (c := 19) (d := 0) rfl)).trans ha19
    have hgy353 := (hfvy335 (i + 19) (ne_o (i := i) (c := 19) (d := 0) rfl)).trans hgy352
    have hgy354 := (hfvy11 (i + 20) (ne_o (i := i) (c := 20) (d := 0) rfl)).trans ha20
    have hgy355 := (hfvy335 (i + 20) (ne_o (i := i) (c := 20) (d := 0) rfl)).trans hgy354
    have hgy356 := (hfvy11 (i + 21) (ne_o (i := i) (c := 21) (d := 0) rfl)).trans ha21
    have hgy357 := (hfvy335 (i + 21) (ne_o (i := i) (c := 21) (d := 0) rfl)).trans hgy356
    have hgy358 := (hfvy11 (i + 22) (ne_o (i := i) (c := 22) (d := 0) rfl)).trans ha22
    have hgy359 := (hfvy335 (i + 22) (ne_o (i := i) (c := 22) (d := 0) rfl)).trans hgy358
    have hgy360 := (hfvy11 (i + 23) (ne_o (i := i) (c := 23) (d := 0) rfl)).trans ha23
    have hgy361 := (hfvy335 (i + 23) (ne_o (i := i) (c := 23) (d := 0) rfl)).trans hgy360
    have htxy362 : okTx cs gvy335 i Fvy335 := ⟨_, _, _, _, _, _, _, _, ⟨hgy347, hgy349, hgy351, hgy353, hgy355, hgy357, hgy359, hgy361⟩, ⟨⟨by omega, by omega, by omega⟩, hop1, hmn1, hai1, hfa1, htb1, hlay345⟩⟩
    exact z_vret C hr hlk dX10_table1_24 (by decide) (by decide) ⟨rfl, rfl, rfl, ⟨_, hcvy335, hdvy335, by omega, by omega, hFy336, htxy362⟩, fun j j1 j2 => by rw [hfvy335 _ (by omega)]; rw [hfvy11 _ (by omega)]⟩

set_option maxRecDepth 100000 in
set_option maxHeartbeats 4000000 in
theorem c_X10_clause1 (l : Launch) (D : va_G) (A : Nat → Prop) (cs : Nat → ClassId) (tt : Nat) (N : Nat) (ad : Nat → Nat) (g : Nat → va_E) (i : Nat) (hN : i + 30 ≤ N) (F : Nat → Int) (hg : g i = mC ad i F) (tp : Nat → Int) (ha13 : g (i + 13) = iA cs 900 tp) (htp : ∀ k, k < 900 → 0 ≤ tp k ∧ tp k ≤ 255) (hRD : RD F) (h38 : F 38 = 0) (hTx : okTx cs g i F) (h35 : F 35 ≠ 0) : zM l yX10_clause1 cX10_clause1 2 none ({ frames := 6, cells := 0, slots := 0, locals := 360 } : Room) D A cs tt N ad g [.ref (ad i)] (rV0 N ad fun g' => (∃ F' : Nat → Int, g' i = mC ad i F' ∧ RD F' ∧ F 32 ≤ F' 32 ∧ (F' 38 = 0 → F' 35 ≠ 0 → F 32 < F' 32) ∧ (∀ f, f ≠ 24 → f ≠ 32 → f ≠ 33 → f ≠ 35 → f ≠ 36 → f ≠ 37 → f ≠ 38 → f ≠ 47 → f ≠ 48 → f ≠ 49 → F' f = F f) ∧ okTx cs g' i F') ∧ ∀ j, j ≠ i → j < i + 16 ∨ i + 23 < j → g' j = g j) := by
  have hay1 : zAt ad (i) (ad i) := rfl
  have hay2 : zAt ad (i + 13) (ad (i + 13)) := rfl
  obtain ⟨d32, d33, d35, d36, d2, d37, d38⟩ := id hRD
  refine z_of (by decide) (Nat.le_of_ble_eq_true rfl) ?_
  intro pZ eZ sZ mZ below meth cZ C hr hlk hnm
  refine z_lv (lv' := [(0, .ref (ad i))]) [0] rfl ?_
  refine z_aload_n C 0 dX10_clause1_0 rfl ?_
  refine z_get (v := .int (zI (F 35))) C (by omega) hay1 hg rfl inA_X10 35 (by decide) q_1494 rfl (fv (F := F) (f := 35) rfl) dX10_clause1_1 ?_
  refine z_iconst (z := 1) C dX10_clause1_4 rfl ?_
  refine z_icmp_ne (tgt := 15) C dX10_clause1_5 (by decide) (by omega) (by omega) (fun hby3 => ?_) (fun hby3 => ?_)
  · refine z_iconst (z := -1) C dX10_clause1_15 rfl ?_
    refine z_istore_n (lv' := [(1, .int (zI (-1))), (0, .ref (ad i))]) C dX10_clause1_16 rfl (by decide) rfl ?_
    refine z_iload_n C 0 dX10_clause1_17 rfl ?_
    refine z_if_ne (tgt := 28) C dX10_clause1_18 (by decide) (by omega) (fun _ => ?_) (fun h => absurd h (by omega))
    refine z_iload_n C 0 dX10_clause1_28 rfl ?_
    refine z_iconst (z := 1) C dX10_clause1_29 rfl ?_
    refine z_icmp_ne (tgt := 40) C dX10_clause1_30 (by decide) (by omega) (by omega) (fun _ => ?_) (fun h => absurd h (by omega))
    refine z_iload_n C 0 dX10_clause1_40 rfl ?_
    refine z_iconst (z := 2) C dX10_clause1_41 rfl ?_
    refine z_icmp_ne (tgt := 52) C dX10_clause1_42 (by decide) (by omega) (by omega) (fun _ => ?_) (fun h => absurd h (by omega))
    refine z_iload_n C 0 dX10_clause1_52 rfl ?_
    refine z_bipush (z := 6) C dX10_clause1_53 (by decide) ?_
    refine z_bipush (z := 8) C dX10_clause1_55 (by decide) ?_
    refine z_cS (As := [.int (zI (-1)), .int (zI (6)), .int (zI (8))]) (rest := []) C (c_X10_within l D A cs tt N ad _ (-1) (by omega) (6) (by omega) (8) (by omega)) ms_yX10_within q_1686 hd_yX10_within (by decide) (Nat.le_of_ble_eq_true rfl) (by decide) dX10_clause1_57 rfl (kI0 fun vy4 gvy4 hvy4 => ?_)
    obtain ⟨hvy4, rfl⟩ := hvy4
    rcases hvy4 with ⟨rfl, hxvy4⟩ | ⟨rfl, hxvy4⟩
    · refine z_if_eq (tgt := 70) C dX10_clause1_60 (by decide) (by omega) (fun h => absurd h (by omega)) (fun _ => ?_)
      refine z_aload_n C 1 dX10_clause1_63 rfl ?_
      have hey6 : F 32 = F 32 := rfl
      have hey7 : F 35 = F 35 := rfl
      have hey8 : F 37 = F 37 := rfl
      have hey9 : F 47 = F 47 := rfl
      have hey10 : F 48 = F 48 := rfl
      have hey11 : F 49 = F 49 := rfl
      refine z_cV (As := []) (rest := []) (ci := 12) C (c_X10_table1 l D A cs tt N ad _ i hN _ hg _ ha13 htp hRD h38 hTx (by omega)) (by omega) hay1 hg rfl rfl mv_yX10_table1 q_1709 hd_yX10_table1 (by decide) (Nat.le_of_ble_eq_true rfl) (by decide) dX10_clause1_64 rfl (kV0 fun gvy5 hvy5 => ?_)
      obtain ⟨⟨Fvy5, hcvy5, hdvy5, hlvy5, hsvy5, hFvy5, hxvy5⟩, hfvy5⟩ := hvy5
      have h34vy5 : Fvy5 34 = F 34 := (hFvy5 34 (by decide) (by decide) (by decide) (by decide) (by decide) (by decide) (by decide) (by decide) (by decide) (by decide)).trans (rfl)
      obtain ⟨d32vy5, d33vy5, d35vy5, d36vy5, d2vy5, d37vy5, d38vy5⟩ := id hdvy5
      refine z_goto (tgt := 77) C dX10_clause1_67 (by decide) ?_
      have hFy12 : ∀ f, f ≠ 24 → f ≠ 32 → f ≠ 33 → f ≠ 35 → f ≠ 36 → f ≠ 37 → f ≠ 38 → f ≠ 47 → f ≠ 48 → f ≠ 49 → Fvy5 f = F f := fun f n24 n32 n33 n35 n36 n37 n38 n47 n48 n49 => (hFvy5 f n24 n32 n33 n35 n36 n37 n38 n47 n48 n49)
      have hey13 : Fvy5 32 = Fvy5 32 := rfl
      have hey14 : Fvy5 35 = Fvy5 35 := rfl
      have hey15 : Fvy5 38 = Fvy5 38 := rfl
      exact z_vret C hr hlk dX10_clause1_77 (by decide) (by decide) ⟨rfl, rfl, rfl, ⟨_, hcvy5, hdvy5, by omega, by omega, hFy12, hxvy5⟩, fun j j1 j2 => by rw [hfvy5 _ (by omega) (by omega)]⟩
    · clear hxvy4
      refine z_if_eq (tgt := 70) C dX10_clause1_60 (by decide) (by omega) (fun _ => ?_) (fun h => absurd h (by omega))
      refine z_aload_n C 1 dX10_clause1_70 rfl ?_
      refine z_iconst (z := 0) C dX10_clause1_71 rfl ?_
      refine z_iconst (z := 1) C dX10_clause1_72 rfl ?_
      have h38vy16 : F 38 = 0 := h38
      refine z_cV (As := [.int (zI (0)), .int (zI (1))]) (rest := []) (ci := 12) C (c_X10_wants l D A cs tt N ad _ i hN _ hg (by omega) (0) (by omega) (1) (by omega)) (by omega) hay1 hg rfl rfl mv_yX10_wants q_1678 hd_yX10_wants (by decide) (Nat.le_of_ble_eq_true rfl) (by decide) dX10_clause1_73 rfl (kI0 fun vy16 gvy16 hvy16 => ?_)
      obtain ⟨⟨Fvy16, hcvy16, hqvy16, hbvy16, hFvy16⟩, hfvy16⟩ := hvy16
      have hdvy16 : RD Fvy16 := RD.w hRD hFvy16 hbvy16
      obtain rfl : vy16 = 0 := by omega
      have e38vy16 : 1 ≤ Fvy16 38 := by omega
      clear hqvy16
      refine z_pop C dX10_clause1_76 rfl ?_
      have hFy17 : ∀ f, f ≠ 24 → f ≠ 32 → f ≠ 33 → f ≠ 35 → f ≠ 36 → f ≠ 37 → f ≠ 38 → f ≠ 47 → f ≠ 48 → f ≠ 49 → Fvy16 f = F f := fun f n24 n32 n33 n35 n36 n37 n38 n47 n48 n49 => (hFvy16 f n24 n38)
      have hey18 : Fvy16 32 = F 32 := (hFvy16 32 (by decide) (by decide))
      have hey19 : Fvy16 35 = F 35 := (hFvy16 35 (by decide) (by decide))
      have hey20 : Fvy16 38 = Fvy16 38 := rfl
      have hey21 : Fvy16 47 = F 47 := (hFvy16 47 (by decide) (by decide))
      have hey22 : Fvy16 48 = F 48 := (hFvy16 48 (by decide) (by decide))
      have hey23 : Fvy16 49 = F 49 := (hFvy16 49 (by decide) (by decide))
      have htx9 : okTx cs gvy16 i Fvy16 := hTx.mv (fun j j1 j2 => by rw [hfvy16 _ (by omega)]) ⟨by omega, by omega, by omega, by omega⟩
      exact z_vret C hr hlk dX10_clause1_77 (by decide) (by decide) ⟨rfl, rfl, rfl, ⟨_, hcvy16, hdvy16, by omega, by omega, hFy17, htx9⟩, fun j j1 j2 => by rw [hfvy16 _ (by omega)]⟩
  · refine z_aload_n C 0 dX10_clause1_8 rfl ?_
    refine z_get (v := .int (zI (F 37))) C (by omega) hay1 hg rfl inA_X10 37 (by decide) q_1496 rfl (fv (F := F) (f := 37) rfl) dX10_clause1_9 ?_
    refine z_goto (tgt := 16) C dX10_clause1_12 (by decide) ?_
    refine z_istore_n (lv' := [(1, .int (zI (F 37))), (0, .ref (ad i))]) C dX10_clause1_16 rfl (by decide) rfl ?_
    refine z_iload_n C 0 dX10_clause1_17 rfl ?_
    refine z_if_ne (tgt := 28) C dX10_clause1_18 (by decide) (by omega) (fun hby24 => ?_) (fun hby24 => ?_)
    · refine z_iload_n C 0 dX10_clause1_28 rfl ?_
      refine z_iconst (z := 1) C dX10_clause1_29 rfl ?_
      refine z_icmp_ne (tgt := 40) C dX10_clause1_30 (by decide) (by omega) (by omega) (fun hby25 => ?_) (fun hby25 => ?_)
      · refine z_iload_n C 0 dX10_clause1_40 rfl ?_
        refine z_iconst (z := 2) C dX10_clause1_41 rfl ?_
        refine z_icmp_ne (tgt := 52) C dX10_clause1_42 (by decide) (by omega) (by omega) (fun hby26 => ?_) (fun hby26 => ?_)
        · refine z_iload_n C 0 dX10_clause1_52 rfl ?_
          refine z_bipush (z := 6) C dX10_clause1_53 (by decide) ?_
          refine z_bipush (z := 8) C dX10_clause1_55 (by decide) ?_
          refine z_cS (As := [.int (zI (F 37)), .int (zI (6)), .int (zI (8))]) (rest := []) C (c_X10_within l D A cs tt N ad _ (F 37) (by omega) (6) (by omega) (8) (by omega)) ms_yX10_within q_1686 hd_yX10_within (by decide) (Nat.le_of_ble_eq_true rfl) (by decide) dX10_clause1_57 rfl (kI0 fun vy27 gvy27 hvy27 => ?_)
          obtain ⟨hvy27, rfl⟩ := hvy27
          rcases hvy27 with ⟨rfl, hxvy27⟩ | ⟨rfl, hxvy27⟩
          · refine z_if_eq (tgt := 70) C dX10_clause1_60 (by decide) (by omega) (fun h => absurd h (by omega)) (fun _ => ?_)
            refine z_aload_n C 1 dX10_clause1_63 rfl ?_
            have hey29 : F 32 = F 32 := rfl
            have hey30 : F 35 = F 35 := rfl
            have hey31 : F 37 = F 37 := rfl
            have hey32 : F 47 = F 47 := rfl
            have hey33 : F 48 = F 48 := rfl
            have hey34 : F 49 = F 49 := rfl
            refine z_cV (As := []) (rest := []) (ci := 12) C (c_X10_table1 l D A cs tt N ad _ i hN _ hg _ ha13 htp hRD h38 hTx (by omega)) (by omega) hay1 hg rfl rfl mv_yX10_table1 q_1709 hd_yX10_table1 (by decide) (Nat.le_of_ble_eq_true rfl) (by decide) dX10_clause1_64 rfl (kV0 fun gvy28 hvy28 => ?_)
            obtain ⟨⟨Fvy28, hcvy28, hdvy28, hlvy28, hsvy28, hFvy28, hxvy28⟩, hfvy28⟩ := hvy28
            have h34vy28 : Fvy28 34 = F 34 := (hFvy28 34 (by decide) (by decide) (by decide) (by decide) (by decide) (by decide) (by decide) (by decide) (by decide) (by decide)).trans (rfl)
            obtain ⟨d32vy28, d33vy28, d35vy28, d36vy28, d2vy28, d37vy28, d38vy28⟩ := id hdvy28
            refine z_goto (tgt := 77) C dX10_clause1_67 (by decide) ?_
            have hFy35 : ∀ f, f ≠ 24 → f ≠ 32 → f ≠ 33 → f ≠ 35 → f ≠ 36 → f ≠ 37 → f ≠ 38 → f ≠ 47 → f ≠ 48 → f ≠ 49 → Fvy28 f = F f := fun f n24 n32 n33 n35 n36 n37 n38 n47 n48 n49 => (hFvy28 f n24 n32 n33 n35 n36 n37 n38 n47 n48 n49)
            have hey36 : Fvy28 32 = Fvy28 32 := rfl
            have hey37 : Fvy28 35 = Fvy28 35 := rfl
            have hey38 : Fvy28 38 = Fvy28 38 := rfl
            exact z_vret C hr hlk dX10_clause1_77 (by decide) (by decide) ⟨rfl, rfl, rfl, ⟨_, hcvy28, hdvy28, by omega, by omega, hFy35, hxvy28⟩, fun j j1 j2 => by rw [hfvy28 _ (by omega) (by omega)]⟩
          · clear hxvy27
            refine z_if_eq (tgt := 70) C dX10_clause1_60 (by decide) (by omega) (fun _ => ?_) (fun h => absurd h (by omega))
            refine z_aload_n C 1 dX10_clause1_70 rfl ?_
            refine z_iconst (z := 0) C dX10_clause1_71 rfl ?_
            refine z_iconst (z := 1) C dX10_clause1_72 rfl ?_
            have h38vy39 : F 38 = 0 := h38
            refine z_cV (As := [.int (zI (0)), .int (zI (1))]) (rest := []) (ci := 12) C (c_X10_wants l D A cs tt N ad _ i hN _ hg (by omega) (0) (by omega) (1) (by omega)) (by omega) hay1 hg rfl rfl mv_yX10_wants q_1678 hd_yX10_wants (by decide) (Nat.le_of_ble_eq_true rfl) (by decide) dX10_clause1_73 rfl (kI0 fun vy39 gvy39 hvy39 => ?_)
            obtain ⟨⟨Fvy39, hcvy39, hqvy39, hbvy39, hFvy39⟩, hfvy39⟩ := hvy39
            have hdvy39 : RD Fvy39 := RD.w hRD hFvy39 hbvy39
            obtain rfl : vy39 = 0 := by omega
            have e38vy39 : 1 ≤ Fvy39 38 := by omega
            clear hqvy39
            refine z_pop C dX10_clause1_76 rfl ?_
            have hFy40 : ∀ f, f ≠ 24 → f ≠ 32 → f ≠ 33 → f ≠ 35 → f ≠ 36 → f ≠ 37 → f ≠ 38 → f ≠ 47 → f ≠ 48 → f ≠ 49 → Fvy39 f = F f := fun f n24 n32 n33 n35 n36 n37 n38 n47 n48 n49 => (hFvy39 f n24 n38)
            have hey41 : Fvy39 32 = F 32 := (hFvy39 32 (by decide) (by decide))
            have hey42 : Fvy39 35 = F 35 := (hFvy39 35 (by decide) (by decide))
            have hey43 : Fvy39 38 = Fvy39 38 := rfl
            have hey44 : Fvy39 47 = F 47 := (hFvy39 47 (by decide) (by decide))
            have hey45 : Fvy39 48 = F 48 := (hFvy39 48 (by decide) (by decide))
            have hey46 : Fvy39 49 = F 49 := (hFvy39 49 (by decide) (by decide))
            have htx9 : okTx cs gvy39 i Fvy39 := hTx.mv (fun j j1 j2 => by rw [hfvy39 _ (by omega)]) ⟨by omega, by omega, by omega, by omega⟩
            exact z_vret C hr hlk dX10_clause1_77 (by decide) (by decide) ⟨rfl, rfl, rfl, ⟨_, hcvy39, hdvy39, by omega, by omega, hFy40, htx9⟩, fun j j1 j2 => by rw [hfvy39 _ (by omega)]⟩
        · refine z_aload_n C 1 dX10_clause1_45 rfl ?_
          have hey48 : F 32 = F 32 := rfl
          have hey49 : F 35 = F 35 := rfl
          have hey50 : F 37 = F 37 := rfl
          have hey51 : F 47 = F 47 := rfl
          have hey52 : F 48 = F 48 := rfl
          have hey53 : F 49 = F 49 := rfl
          refine z_cV (As := []) (rest := []) (ci := 12) C (c_X10_hour1 l D A cs tt N ad _ i hN _ hg _ ha13 htp hRD h38 hTx) (by omega) hay1 hg rfl rfl mv_yX10_hour1 q_1701 hd_yX10_hour1 (by decide) (Nat.le_of_ble_eq_true rfl) (by decide) dX10_clause1_46 rfl (kV0 fun gvy47 hvy47 => ?_)
          obtain ⟨⟨Fvy47, hcvy47, hdvy47, hlvy47, hsvy47, hFvy47, hxvy47⟩, hfvy47⟩ := hvy47
          have h34vy47 : Fvy47 34 = F 34 := (hFvy47 34 (by decide) (by decide) (by decide) (by decide) (by decide) (by decide) (by decide) (by decide) (by decide) (by decide)).trans (rfl)
          obtain ⟨d32vy47, d33vy47, d35vy47, d36vy47, d2vy47, d37vy47, d38vy47⟩ := id hdvy47
          refine z_goto (tgt := 77) C dX10_clause1_49 (by decide) ?_
          have hFy54 : ∀ f, f ≠ 24 → f ≠ 32 → f ≠ 33 → f ≠ 35 → f ≠ 36 → f ≠ 37 → f ≠ 38 → f ≠ 47 → f ≠ 48 → f ≠ 49 → Fvy47 f = F f := fun f n24 n32 n33 n35 n36 n37 n38 n47 n48 n49 => (hFvy47 f n24 n32 n33 n35 n36 n37 n38 n47 n48 n49)
          have hey55 : Fvy47 32 = Fvy47 32 := rfl
          have hey56 : Fvy47 35 = Fvy47 35 := rfl
          have hey57 : Fvy47 38 = Fvy47 38 := rfl
          exact z_vret C hr hlk dX10_clause1_77 (by decide) (by decide) ⟨rfl, rfl, rfl, ⟨_, hcvy47, hdvy47, by omega, by omega, hFy54, hxvy47⟩, fun j j1 j2 => by rw [hfvy47 _ (by omega) (by omega)]⟩
      · refine z_aload_n C 1 dX10_clause1_33 rfl ?_
        have hey59 : F 32 = F 32 := rfl
        have hey60 : F 35 = F 35 := rfl
        have hey61 : F 37 = F 37 := rfl
        have hey62 : F 47 = F 47 := rfl
        have hey63 : F 48 = F 48 := rfl
        have hey64 : F 49 = F 49 := rfl
        refine z_cV (As := []) (rest := []) (ci := 12) C (c_X10_layer1 l D A cs tt N ad _ i hN _ hg _ ha13 htp hRD h38 hTx) (by omega) hay1 hg rfl rfl mv_yX10_layer1 q_1689 hd_yX10_layer1 (by decide) (Nat.le_of_ble_eq_true rfl) (by decide) dX10_clause1_34 rfl (kV0 fun gvy58 hvy58 => ?_)
        obtain ⟨⟨Fvy58, hcvy58, hdvy58, hlvy58, hsvy58, hFvy58, hxvy58⟩, hfvy58⟩ := hvy58
        have h34vy58 : Fvy58 34 = F 34 := (hFvy58 34 (by decide) (by decide) (by decide) (by decide) (by decide) (by decide) (by decide) (by decide) (by decide) (by decide)).trans (rfl)
        obtain ⟨d32vy58, d33vy58, d35vy58, d36vy58, d2vy58, d37vy58, d38vy58⟩ := id hdvy58
        refine z_goto (tgt := 77) C dX10_clause1_37 (by decide) ?_
        have hFy65 : ∀ f, f ≠ 24 → f ≠ 32 → f ≠ 33 → f ≠ 35 → f ≠ 36 → f ≠ 37 → f ≠ 38 → f ≠ 47 → f ≠ 48 → f ≠ 49 → Fvy58 f = F f := fun f n24 n32 n33 n35 n36 n37 n38 n47 n48 n49 => (hFvy58 f n24 n32 n33 n35 n36 n37 n38 n47 n48 n49)
        have hey66 : Fvy58 32 = Fvy58 32 := rfl
        have hey67 : Fvy58 35 = Fvy58 35 := rfl
        have hey68 : Fvy58 38 = Fvy58 38 := rfl
        exact z_vret C hr hlk dX10_clause1_77 (by decide) (by decide) ⟨rfl, rfl, rfl, ⟨_, hcvy58, hdvy58, by omega, by omega, hFy65, hxvy58⟩, fun j j1 j2 => by rw [hfvy58 _ (by omega) (by omega)]⟩
    · refine z_aload_n C 1 dX10_clause1_21 rfl ?_
      have hey70 : F 32 = F 32 := rfl
      have hey71 : F 35 = F 35 := rfl
      have hey72 : F 37 = F 37 := rfl
      have hey73 : F 47 = F 47 := rfl
      have hey74 : F 48 = F 48 := rfl
      have hey75 : F 49 = F 49 := rfl
      refine z_cV (As := []) (rest := []) (ci := 12) C (c_X10_slope1 l D A cs tt N ad _ i hN _ hg _ ha13 htp hRD h38 hTx) (by omega) hay1 hg rfl rfl mv_yX10_slope1 q_1674 hd_yX10_slope1 (by decide) (Nat.le_of_ble_eq_true rfl) (by decide) dX10_clause1_22 rfl (kV0 fun gvy69 hvy69 => ?_)
      obtain ⟨⟨Fvy69, hcvy69, hdvy69, hlvy69, hsvy69, hFvy69, hxvy69⟩, hfvy69⟩ := hvy69
      have h34vy69 : Fvy69 34 = F 34 := (hFvy69 34 (by decide) (by decide) (by decide) (by decide) (by decide) (by decide) (by decide) (by decide) (by decide) (by decide)).trans (rfl)
      obtain ⟨d32vy69, d33vy69, d35vy69, d36vy69, d2vy69, d37vy69, d38vy69⟩ := id hdvy69
      refine z_goto (tgt := 77) C dX10_clause1_25 (by decide) ?_
      have hFy76 : ∀ f, f ≠ 24 → f ≠ 32 → f ≠ 33 → f ≠ 35 → f ≠ 36 → f ≠ 37 → f ≠ 38 → f ≠ 47 → f ≠ 48 → f ≠ 49 → Fvy69 f = F f := fun f n24 n32 n33 n35 n36 n37 n38 n47 n48 n49 => (hFvy69 f n24 n32 n33 n35 n36 n37 n38 n47 n48 n49)
      have hey77 : Fvy69 32 = Fvy69 32 := rfl
      have hey78 : Fvy69 35 = Fvy69 35 := rfl
      have hey79 : Fvy69 38 = Fvy69 38 := rfl
      exact z_vret C hr hlk dX10_clause1_77 (by decide) (by decide) ⟨rfl, rfl, rfl, ⟨_, hcvy69, hdvy69, by omega, by omega, hFy76, hxvy69⟩, fun j j1 j2 => by rw [hfvy69 _ (by omega) (by omega)]⟩

