set_option maxRecDepth 100000 in
set_option maxHeartbeats 4000000 in
theorem c_X10_layer1 (l : Launch) (D : va_G) (A : Nat → Prop) (cs : Nat → ClassId) (tt : Nat) (N : Nat) (ad : Nat → Nat) (g : Nat → va_E) (i : Nat) (hN : i + 30 ≤ N) (F : Nat → Int) (hg : g i = mC ad i F) (tp : Nat → Int) (ha13 : g (i + 13) = iA cs 900 tp) (htp : ∀ k, k < 900 → 0 ≤ tp k ∧ tp k ≤ 255) (hRD : RD F) (h38 : F 38 = 0) (hTx : okTx cs g i F) : zM l yX10_layer1 cX10_layer1 3 none ({ frames := 5, cells := 0, slots := 0, locals := 300 } : Room) D A cs tt N ad g [.ref (ad i)] (rV0 N ad fun g' => (∃ F' : Nat → Int, g' i = mC ad i F' ∧ RD F' ∧ F 32 ≤ F' 32 ∧ (F' 38 = 0 → F' 35 ≠ 0 → F 32 < F' 32) ∧ (∀ f, f ≠ 24 → f ≠ 32 → f ≠ 33 → f ≠ 35 → f ≠ 36 → f ≠ 37 → f ≠ 38 → f ≠ 47 → f ≠ 48 → f ≠ 49 → F' f = F f) ∧ okTx cs g' i F') ∧ ∀ j, j ≠ i → j < i + 16 ∨ i + 23 < j → g' j = g j) := by
  have hay1 : zAt ad (i) (ad i) := rfl
  have hay2 : zAt ad (i + 13) (ad (i + 13)) := rfl
  obtain ⟨d32, d33, d35, d36, d2, d37, d38⟩ := id hRD
  obtain ⟨st1, op1, mn1, ai1, fa1, mu1, tb1, ly1, ⟨ha16, ha17, ha18, ha19, ha20, ha21, ha22, ha23⟩, ⟨⟨t47, t48, t49⟩, hop1, hmn1, hai1, hfa1, htb1, hly1⟩⟩ := id hTx
  have hay3 : zAt ad (i + 16) (ad (i + 16)) := rfl
  have hay4 : zAt ad (i + 17) (ad (i + 17)) := rfl
  have hay5 : zAt ad (i + 18) (ad (i + 18)) := rfl
  have hay6 : zAt ad (i + 19) (ad (i + 19)) := rfl
  have hay7 : zAt ad (i + 20) (ad (i + 20)) := rfl
  have hay8 : zAt ad (i + 21) (ad (i + 21)) := rfl
  have hay9 : zAt ad (i + 22) (ad (i + 22)) := rfl
  have hay10 : zAt ad (i + 23) (ad (i + 23)) := rfl
  refine z_of (by decide) (Nat.le_of_ble_eq_true rfl) ?_
  intro pZ eZ sZ mZ below meth cZ C hr hlk hnm
  refine z_lv (lv' := [(0, .ref (ad i))]) [0] rfl ?_
  refine z_aload_n C 0 dX10_layer1_0 rfl ?_
  refine z_cV (As := []) (rest := []) (ci := 12) C (c_X10_go l D A cs tt N ad _ i hN _ hg _ ha13 htp hRD) (by omega) hay1 hg rfl rfl mv_yX10_go q_1652 hd_yX10_go (by decide) (Nat.le_of_ble_eq_true rfl) (by decide) dX10_layer1_1 rfl (kV0 fun gvy11 hvy11 => ?_)
  obtain ⟨⟨Fvy11, hcvy11, hdvy11, hlvy11, hsvy11, hFvy11⟩, hfvy11⟩ := hvy11
  have h34vy11 : Fvy11 34 = F 34 := (hFvy11 34 (by decide) (by decide) (by decide) (by decide) (by decide)).trans (rfl)
  obtain ⟨d32vy11, -, d35vy11, d36vy11, d2vy11, d37vy11, d38vy11⟩ := id hdvy11
  have h38vy11 : Fvy11 38 = 0 := ((hFvy11 38 (by decide) (by decide) (by decide) (by decide) (by decide)).trans h38)
  refine z_aload_n C 0 dX10_layer1_4 rfl ?_
  refine z_aload_n C 0 dX10_layer1_5 rfl ?_
  refine z_get (v := .int (zI (Fvy11 35))) C (by omega) hay1 hcvy11 rfl inA_X10 35 (by decide) q_1494 rfl (fv (F := Fvy11) (f := 35) rfl) dX10_layer1_6 ?_
  refine z_iconst (z := 2) C dX10_layer1_9 rfl ?_
  refine z_icmp_ne (tgt := 17) C dX10_layer1_10 (by decide) (by omega) (by omega) (fun hby12 => ?_) (fun hby12 => ?_)
  · refine z_iconst (z := 0) C dX10_layer1_17 rfl ?_
    refine z_iconst (z := 1) C dX10_layer1_18 rfl ?_
    have h38vy13 : Fvy11 38 = 0 := ((hFvy11 38 (by decide) (by decide) (by decide) (by decide) (by decide)).trans h38)
    refine z_cV (As := [.int (zI (0)), .int (zI (1))]) (rest := []) (ci := 12) C (c_X10_wants l D A cs tt N ad _ i hN _ hcvy11 (by omega) (0) (by omega) (1) (by omega)) (by omega) hay1 hcvy11 rfl rfl mv_yX10_wants q_1678 hd_yX10_wants (by decide) (Nat.le_of_ble_eq_true rfl) (by decide) dX10_layer1_19 rfl (kI0 fun vy13 gvy13 hvy13 => ?_)
    obtain ⟨⟨Fvy13, hcvy13, hqvy13, hbvy13, hFvy13⟩, hfvy13⟩ := hvy13
    have hdvy13 : RD Fvy13 := RD.w hdvy11 hFvy13 hbvy13
    obtain rfl : vy13 = 0 := by omega
    have e38vy13 : 1 ≤ Fvy13 38 := by omega
    clear hqvy13
    refine z_if_eq (tgt := 97) C dX10_layer1_22 (by decide) (by omega) (fun _ => ?_) (fun h => absurd h (by omega))
    have hFy14 : ∀ f, f ≠ 24 → f ≠ 32 → f ≠ 33 → f ≠ 35 → f ≠ 36 → f ≠ 37 → f ≠ 38 → f ≠ 47 → f ≠ 48 → f ≠ 49 → Fvy13 f = F f := fun f n24 n32 n33 n35 n36 n37 n38 n47 n48 n49 => ((hFvy13 f n24 n38).trans (hFvy11 f n32 n33 n35 n36 n37))
    have hey15 : Fvy13 32 = Fvy11 32 := (hFvy13 32 (by decide) (by decide))
    have hey16 : Fvy13 35 = Fvy11 35 := (hFvy13 35 (by decide) (by decide))
    have hey17 : Fvy13 38 = Fvy13 38 := rfl
    have hey18 : Fvy13 32 = Fvy11 32 := (hFvy13 32 (by decide) (by decide))
    have hey19 : Fvy13 47 = F 47 := ((hFvy13 47 (by decide) (by decide)).trans (hFvy11 47 (by decide) (by decide) (by decide) (by decide) (by decide)))
    have hey20 : Fvy13 48 = F 48 := ((hFvy13 48 (by decide) (by decide)).trans (hFvy11 48 (by decide) (by decide) (by decide) (by decide) (by decide)))
    have hey21 : Fvy13 49 = F 49 := ((hFvy13 49 (by decide) (by decide)).trans (hFvy11 49 (by decide) (by decide) (by decide) (by decide) (by decide)))
    have hlay23 : ∀ s l : Nat, (s : Int) < Fvy13 47 → (l : Int) < mn1 s → lyT ly1 (84 * s + 7 * l) := fun s l a1 a2 => hly1 s l (by omega) a2
    have hgy24 := (hfvy11 (i + 16) (ne_o (i := i) (c := 16) (d := 0) rfl)).trans ha16
    have hgy25 := (hfvy13 (i + 16) (ne_o (i := i) (c := 16) (d := 0) rfl)).trans hgy24
    have hgy26 := (hfvy11 (i + 17) (ne_o (i := i) (c := 17) (d := 0) rfl)).trans ha17
    have hgy27 := (hfvy13 (i + 17) (ne_o (i := i) (c := 17) (d := 0) rfl)).trans hgy26
    have hgy28 := (hfvy11 (i + 18) (ne_o (i := i) (c := 18) (d := 0) rfl)).trans ha18
    have hgy29 := (hfvy13 (i + 18) (ne_o (i := i) (c := 18) (d := 0) rfl)).trans hgy28
    have hgy30 := (hfvy11 (i + 19) (ne_o (i := i) (c := 19) (d := 0) rfl)).trans ha19
    have hgy31 := (hfvy13 (i + 19) (ne_o (i := i) (c := 19) (d := 0) rfl)).trans hgy30
    have hgy32 := (hfvy11 (i + 20) (ne_o (i := i) (c := 20) (d := 0) rfl)).trans ha20
    have hgy33 := (hfvy13 (i + 20) (ne_o (i := i) (c := 20) (d := 0) rfl)).trans hgy32
    have hgy34 := (hfvy11 (i + 21) (ne_o (i := i) (c := 21) (d := 0) rfl)).trans ha21
    have hgy35 := (hfvy13 (i + 21) (ne_o (i := i) (c := 21) (d := 0) rfl)).trans hgy34
    have hgy36 := (hfvy11 (i + 22) (ne_o (i := i) (c := 22) (d := 0) rfl)).trans ha22
    have hgy37 := (hfvy13 (i + 22) (ne_o (i := i) (c := 22) (d := 0) rfl)).trans hgy36
    have hgy38 := (hfvy11 (i + 23) (ne_o (i := i) (c := 23) (d := 0) rfl)).trans ha23
    have hgy39 := (hfvy13 (i + 23) (ne_o (i := i) (c := 23) (d := 0) rfl)).trans hgy38
    have htxy40 : okTx cs gvy13 i Fvy13 := ⟨_, _, _, _, _, _, _, _, ⟨hgy25, hgy27, hgy29, hgy31, hgy33, hgy35, hgy37, hgy39⟩, ⟨⟨by omega, by omega, by omega⟩, hop1, hmn1, hai1, hfa1, htb1, hlay23⟩⟩
    exact z_vret C hr hlk dX10_layer1_97 (by decide) (by decide) ⟨rfl, rfl, rfl, ⟨_, hcvy13, hdvy13, by omega, by omega, hFy14, htxy40⟩, fun j j1 j2 => by rw [hfvy13 _ (by omega)]; rw [hfvy11 _ (by omega)]⟩
  · refine z_iconst (z := 1) C dX10_layer1_13 rfl ?_
    refine z_goto (tgt := 18) C dX10_layer1_14 (by decide) ?_
    refine z_iconst (z := 1) C dX10_layer1_18 rfl ?_
    have h38vy41 : Fvy11 38 = 0 := ((hFvy11 38 (by decide) (by decide) (by decide) (by decide) (by decide)).trans h38)
    refine z_cV (As := [.int (zI (1)), .int (zI (1))]) (rest := []) (ci := 12) C (c_X10_wants l D A cs tt N ad _ i hN _ hcvy11 (by omega) (1) (by omega) (1) (by omega)) (by omega) hay1 hcvy11 rfl rfl mv_yX10_wants q_1678 hd_yX10_wants (by decide) (Nat.le_of_ble_eq_true rfl) (by decide) dX10_layer1_19 rfl (kI0 fun vy41 gvy41 hvy41 => ?_)
    obtain ⟨⟨Fvy41, hcvy41, hqvy41, hbvy41, hFvy41⟩, hfvy41⟩ := hvy41
    have hdvy41 : RD Fvy41 := RD.w hdvy11 hFvy41 hbvy41
    obtain rfl : vy41 = 1 := by omega
    have e38vy41 : Fvy41 38 = 0 := by omega
    clear hqvy41
    refine z_if_eq (tgt := 97) C dX10_layer1_22 (by decide) (by omega) (fun h => absurd h (by omega)) (fun _ => ?_)
    refine z_aload_n C 0 dX10_layer1_25 rfl ?_
    refine z_aload_n C 0 dX10_layer1_26 rfl ?_
    refine z_get (v := .int (zI (Fvy11 36))) C (by omega) hay1 hcvy41 rfl inA_X10 36 (by decide) q_1495 rfl (fv (F := Fvy41) (f := 36) (hFvy41 36 (by decide) (by decide))) dX10_layer1_27 ?_
    refine z_iconst (z := 4) C dX10_layer1_30 rfl ?_
    refine z_icmp_ge (tgt := 38) C dX10_layer1_31 (by decide) (by omega) (by omega) (fun hby42 => ?_) (fun hby42 => ?_)
    · refine z_iconst (z := 0) C dX10_layer1_38 rfl ?_
      refine z_iconst (z := 2) C dX10_layer1_39 rfl ?_
      have h38vy43 : Fvy41 38 = 0 := e38vy41
      refine z_cV (As := [.int (zI (0)), .int (zI (2))]) (rest := []) (ci := 12) C (c_X10_wants l D A cs tt N ad _ i hN _ hcvy41 (by omega) (0) (by omega) (2) (by omega)) (by omega) hay1 hcvy41 rfl rfl mv_yX10_wants q_1678 hd_yX10_wants (by decide) (Nat.le_of_ble_eq_true rfl) (by decide) dX10_layer1_40 rfl (kI0 fun vy43 gvy43 hvy43 => ?_)
      obtain ⟨⟨Fvy43, hcvy43, hqvy43, hbvy43, hFvy43⟩, hfvy43⟩ := hvy43
      have hdvy43 : RD Fvy43 := RD.w hdvy41 hFvy43 hbvy43
      obtain rfl : vy43 = 0 := by omega
      have e38vy43 : 1 ≤ Fvy43 38 := by omega
      clear hqvy43
      refine z_if_eq (tgt := 97) C dX10_layer1_43 (by decide) (by omega) (fun _ => ?_) (fun h => absurd h (by omega))
      have hFy44 : ∀ f, f ≠ 24 → f ≠ 32 → f ≠ 33 → f ≠ 35 → f ≠ 36 → f ≠ 37 → f ≠ 38 → f ≠ 47 → f ≠ 48 → f ≠ 49 → Fvy43 f = F f := fun f n24 n32 n33 n35 n36 n37 n38 n47 n48 n49 => ((hFvy43 f n24 n38).trans ((hFvy41 f n24 n38).trans (hFvy11 f n32 n33 n35 n36 n37)))
      have hey45 : Fvy43 32 = Fvy11 32 := ((hFvy43 32 (by decide) (by decide)).trans (hFvy41 32 (by decide) (by decide)))
      have hey46 : Fvy43 35 = Fvy11 35 := ((hFvy43 35 (by decide) (by decide)).trans (hFvy41 35 (by decide) (by decide)))
      have hey47 : Fvy43 38 = Fvy43 38 := rfl
      have hey48 : Fvy43 32 = Fvy11 32 := ((hFvy43 32 (by decide) (by decide)).trans (hFvy41 32 (by decide) (by decide)))
      have hey49 : Fvy43 47 = F 47 := ((hFvy43 47 (by decide) (by decide)).trans ((hFvy41 47 (by decide) (by decide)).trans (hFvy11 47 (by decide) (by decide) (by decide) (by decide) (by decide))))
      have hey50 : Fvy43 48 = F 48 := ((hFvy43 48 (by decide) (by decide)).trans ((hFvy41 48 (by decide) (by decide)).trans (hFvy11 48 (by decide) (by decide) (by decide) (by decide) (by decide))))
      have hey51 : Fvy43 49 = F 49 := ((hFvy43 49 (by decide) (by decide)).trans ((hFvy41 49 (by decide) (by decide)).trans (hFvy11 49 (by decide) (by decide) (by decide) (by decide) (by decide))))
      have hlay53 : ∀ s l : Nat, (s : Int) < Fvy43 47 → (l : Int) < mn1 s → lyT ly1 (84 * s + 7 * l) := fun s l a1 a2 => hly1 s l (by omega) a2
      have hgy54 := (hfvy11 (i + 16) (ne_o (i := i) (c := 16) (d := 0) rfl)).trans ha16
      have hgy55 := (hfvy41 (i + 16) (ne_o (i := i) (c := 16) (d := 0) rfl)).trans hgy54
      have hgy56 := (hfvy43 (i + 16) (ne_o (i := i) (c := 16) (d := 0) rfl)).trans hgy55
      have hgy57 := (hfvy11 (i + 17) (ne_o (i := i) (c := 17) (d := 0) rfl)).trans ha17
      have hgy58 := (hfvy41 (i + 17) (ne_o (i := i) (c := 17) (d := 0) rfl)).trans hgy57
      have hgy59 := (hfvy43 (i + 17) (ne_o (i := i) (c := 17) (d := 0) rfl)).trans hgy58
      have hgy60 := (hfvy11 (i + 18) (ne_o (i := i) (c := 18) (d := 0) rfl)).trans ha18
      have hgy61 := (hfvy41 (i + 18) (ne_o (i := i) (c := 18) (d := 0) rfl)).trans hgy60
      have hgy62 := (hfvy43 (i + 18) (ne_o (i := i) (c := 18) (d := 0) rfl)).trans hgy61
      have hgy63 := (hfvy11 (i + 19) (ne_o (i := i) (c := 19) (d := 0) rfl)).trans ha19
      have hgy64 := (hfvy41 (i + 19) (ne_o (i := i) (c := 19) (d := 0) rfl)).trans hgy63
      have hgy65 := (hfvy43 (i + 19) (ne_o (i := i) (c := 19) (d := 0) rfl)).trans hgy64
      have hgy66 := (hfvy11 (i + 20) (ne_o (i := i) (c := 20) (d := 0) rfl)).trans ha20
      have hgy67 := (hfvy41 (i + 20) (ne_o (i := i) (c := 20) (d := 0) rfl)).trans hgy66
      have hgy68 := (hfvy43 (i + 20) (ne_o (i := i) (c := 20) (d := 0) rfl)).trans hgy67
      have hgy69 := (hfvy11 (i + 21) (ne_o (i := i) (c := 21) (d := 0) rfl)).trans ha21
      have hgy70 := (hfvy41 (i + 21) (ne_o (i := i) (c := 21) (d := 0) rfl)).trans hgy69
      have hgy71 := (hfvy43 (i + 21) (ne_o (i := i) (c := 21) (d := 0) rfl)).trans hgy70
      have hgy72 := (hfvy11 (i + 22) (ne_o (i := i) (c := 22) (d := 0) rfl)).trans ha22
      have hgy73 := (hfvy41 (i + 22) (ne_o (i := i) (c := 22) (d := 0) rfl)).trans hgy72
      have hgy74 := (hfvy43 (i + 22) (ne_o (i := i) (c := 22) (d := 0) rfl)).trans hgy73
      have hgy75 := (hfvy11 (i + 23) (ne_o (i := i) (c := 23) (d := 0) rfl)).trans ha23
      have hgy76 := (hfvy41 (i + 23) (ne_o (i := i) (c := 23) (d := 0) rfl)).trans hgy75
      have hgy77 := (hfvy43 (i + 23) (ne_o (i := i) (c := 23) (d := 0) rfl)).trans hgy76
      have htxy78 : okTx cs gvy43 i Fvy43 := ⟨_, _, _, _, _, _, _, _, ⟨hgy56, hgy59, hgy62, hgy65, hgy68, hgy71, hgy74, hgy77⟩, ⟨⟨by omega, by omega, by omega⟩, hop1, hmn1, hai1, hfa1, htb1, hlay53⟩⟩
      exact z_vret C hr hlk dX10_layer1_97 (by decide) (by decide) ⟨rfl, rfl, rfl, ⟨_, hcvy43, hdvy43, by omega, by omega, hFy44, htxy78⟩, fun j j1 j2 => by rw [hfvy43 _ (by omega)]; rw [hfvy41 _ (by omega)]; rw [hfvy11 _ (by omega)]⟩
    · refine z_iconst (z := 1) C dX10_layer1_34 rfl ?_
      refine z_goto (tgt := 39) C dX10_layer1_35 (by decide) ?_
      refine z_iconst (z := 2) C dX10_layer1_39 rfl ?_
      have h38vy79 : Fvy41 38 = 0 := e38vy41
      refine z_cV (As := [.int (zI (1)), .int (zI (2))]) (rest := []) (ci := 12) C (c_X10_wants l D A cs tt N ad _ i hN _ hcvy41 (by omega) (1) (by omega) (2) (by omega)) (by omega) hay1 hcvy41 rfl rfl mv_yX10_wants q_1678 hd_yX10_wants (by decide) (Nat.le_of_ble_eq_true rfl) (by decide) dX10_layer1_40 rfl (kI0 fun vy79 gvy79 hvy79 => ?_)
      obtain ⟨⟨Fvy79, hcvy79, hqvy79, hbvy79, hFvy79⟩, hfvy79⟩ := hvy79
      have hdvy79 : RD Fvy79 := RD.w hdvy41 hFvy79 hbvy79
      obtain rfl : vy79 = 1 := by omega
      have e38vy79 : Fvy79 38 = 0 := by omega
      clear hqvy79
      refine z_if_eq (tgt := 97) C dX10_layer1_43 (by decide) (by omega) (fun h => absurd h (by omega)) (fun _ => ?_)
      refine z_aload_n C 0 dX10_layer1_46 rfl ?_
      refine z_aload_n C 0 dX10_layer1_47 rfl ?_
      refine z_get (v := .int (zI (Fvy11 36))) C (by omega) hay1 hcvy79 rfl inA_X10 36 (by decide) q_1495 rfl (fv (F := Fvy79) (f := 36) ((hFvy79 36 (by decide) (by decide)).trans (hFvy41 36 (by decide) (by decide)))) dX10_layer1_48 ?_
      refine z_aload_n C 0 dX10_layer1_51 rfl ?_
      refine z_get (v := .int (zI (F 47))) C (by omega) hay1 hcvy79 rfl inA_X10 47 (by decide) q_1506 rfl (fv (F := Fvy79) (f := 47) ((hFvy79 47 (by decide) (by decide)).trans ((hFvy41 47 (by decide) (by decide)).trans (hFvy11 47 (by decide) (by decide) (by decide) (by decide) (by decide))))) dX10_layer1_52 ?_
      refine z_icmp_ge (tgt := 62) C dX10_layer1_55 (by decide) (by omega) (by omega) (fun hby80 => ?_) (fun hby80 => ?_)
      · refine z_iconst (z := 0) C dX10_layer1_62 rfl ?_
        refine z_iconst (z := 3) C dX10_layer1_63 rfl ?_
        have h38vy81 : Fvy79 38 = 0 := e38vy79
        refine z_cV (As := [.int (zI (0)), .int (zI (3))]) (rest := []) (ci := 12) C (c_X10_wants l D A cs tt N ad _ i hN _ hcvy79 (by omega) (0) (by omega) (3) (by omega)) (by omega) hay1 hcvy79 rfl rfl mv_yX10_wants q_1678 hd_yX10_wants (by decide) (Nat.le_of_ble_eq_true rfl) (by decide) dX10_layer1_64 rfl (kI0 fun vy81 gvy81 hvy81 => ?_)
        obtain ⟨⟨Fvy81, hcvy81, hqvy81, hbvy81, hFvy81⟩, hfvy81⟩ := hvy81
        have hdvy81 : RD Fvy81 := RD.w hdvy79 hFvy81 hbvy81
        obtain rfl : vy81 = 0 := by omega
        have e38vy81 : 1 ≤ Fvy81 38 := by omega
        clear hqvy81
        refine z_if_eq (tgt := 97) C dX10_layer1_67 (by decide) (by omega) (fun _ => ?_) (fun h => absurd h (by omega))
        have hFy82 : ∀ f, f ≠ 24 → f ≠ 32 → f ≠ 33 → f ≠ 35 → f ≠ 36 → f ≠ 37 → f ≠ 38 → f ≠ 47 → f ≠ 48 → f ≠ 49 → Fvy81 f = F f := fun f n24 n32 n33 n35 n36 n37 n38 n47 n48 n49 => ((hFvy81 f n24 n38).trans ((hFvy79 f n24 n38).trans ((hFvy41 f n24 n38).trans (hFvy11 f n32 n33 n35 n36 n37))))
        have hey83 : Fvy81 32 = Fvy11 32 := ((hFvy81 32 (by decide) (by decide)).trans ((hFvy79 32 (by decide) (by decide)).trans (hFvy41 32 (by decide) (by decide))))
        have hey84 : Fvy81 35 = Fvy11 35 := ((hFvy81 35 (by decide) (by decide)).trans ((hFvy79 35 (by decide) (by decide)).trans (hFvy41 35 (by decide) (by decide))))
        have hey85 : Fvy81 38 = Fvy81 38 := rfl
        have hey86 : Fvy81 32 = Fvy11 32 := ((hFvy81 32 (by decide) (by decide)).trans ((hFvy79 32 (by decide) (by decide)).trans (hFvy41 32 (by decide) (by decide))))
        have hey87 : Fvy81 47 = F 47 := ((hFvy81 47 (by decide) (by decide)).trans ((hFvy79 47 (by decide) (by decide)).trans ((hFvy41 47 (by decide) (by decide)).trans (hFvy11 47 (by decide) (by decide) (by decide) (by decide) (by decide)))))
        have hey88 : Fvy81 48 = F 48 := ((hFvy81 48 (by decide) (by decide)).trans ((hFvy79 48 (by decide) (by decide)).trans ((hFvy41 48 (by decide) (by decide)).trans (hFvy11 48 (by decide) (by decide) (by decide) (by decide) (by decide)))))
        have hey89 : Fvy81 49 = F 49 := ((hFvy81 49 (by decide) (by decide)).trans ((hFvy79 49 (by decide) (by decide)).trans ((hFvy41 49 (by decide) (by decide)).trans (hFvy11 49 (by decide) (by decide) (by decide) (by decide) (by decide)))))
        have hlay91 : ∀ s l : Nat, (s : Int) < Fvy81 47 → (l : Int) < mn1 s → lyT ly1 (84 * s + 7 * l) := fun s l a1 a2 => hly1 s l (by omega) a2
        have hgy92 := (hfvy11 (i + 16) (ne_o (i := i) (c := 16) (d := 0) rfl)).trans ha16
        have hgy93 := (hfvy41 (i + 16) (ne_o (i := i) (c := 16) (d := 0) rfl)).trans hgy92
        have hgy94 := (hfvy79 (i + 16) (ne_o (i := i) (c := 16) (d := 0) rfl)).trans hgy93
        have hgy95 := (hfvy81 (i + 16) (ne_o (i := i) (c := 16) (d := 0) rfl)).trans hgy94
        have hgy96 := (hfvy11 (i + 17) (ne_o (i := i) (c := 17) (d := 0) rfl)).trans ha17
        have hgy97 := (hfvy41 (i + 17) (ne_o (i := i) (c := 17) (d := 0) rfl)).trans hgy96
        have hgy98 := (hfvy79 (i + 17) (ne_o (i := i) (c := 17) (d := 0) rfl)).trans hgy97
        have hgy99 := (hfvy81 (i + 17) (ne_o (i := i) (c := 17) (d := 0) rfl)).trans hgy98
        have hgy100 := (hfvy11 (i + 18) (ne_o (i := i) (c := 18) (d := 0) rfl)).trans ha18
        have hgy101 := (hfvy41 (i + 18) (ne_o (i := i) (c := 18) (d := 0) rfl)).trans hgy100
        have hgy102 := (hfvy79 (i + 18) (ne_o (i := i) (c := 18) (d := 0) rfl)).trans hgy101
        have hgy103 := (hfvy81 (i + 18) (ne_o (i := i) (c := 18) (d := 0) rfl)).trans hgy102
        have hgy104 := (hfvy11 (i + 19) (ne_o (i := i) (c := 19) (d := 0) rfl)).trans ha19
        have hgy105 := (hfvy41 (i + 19) (ne_o (i := i) (c := 19) (d := 0) rfl)).trans hgy104
        have hgy106 := (hfvy79 (i + 19) (ne_o (i := i) (c := 19) (d := 0) rfl)).trans hgy105
        have hgy107 := (hfvy81 (i + 19) (ne_o (i := i) (c := 19) (d := 0) rfl)).trans hgy106
        have hgy108 := (hfvy11 (i + 20) (ne_o (i := i) (c := 20) (d := 0) rfl)).trans ha20
        have hgy109 := (hfvy41 (i + 20) (ne_o (i := i) (c := 20) (d := 0) rfl)).trans hgy108
        have hgy110 := (hfvy79 (i + 20) (ne_o (i := i) (c := 20) (d := 0) rfl)).trans hgy109
        have hgy111 := (hfvy81 (i + 20) (ne_o (i := i) (c := 20) (d := 0) rfl)).trans hgy110
        have hgy112 := (hfvy11 (i + 21) (ne_o (i := i) (c := 21) (d := 0) rfl)).trans ha21
        have hgy113 := (hfvy41 (i + 21) (ne_o (i := i) (c := 21) (d := 0) rfl)).trans hgy112
        have hgy114 := (hfvy79 (i + 21) (ne_o (i := i) (c := 21) (d := 0) rfl)).trans hgy113
        have hgy115 := (hfvy81 (i + 21) (ne_o (i := i) (c := 21) (d := 0) rfl)).trans hgy114
        have hgy116 := (hfvy11 (i + 22) (ne_o (i := i) (c := 22) (d := 0) rfl)).trans ha22
        have hgy117 := (hfvy41 (i + 22) (ne_o (i := i) (c := 22) (d := 0) rfl)).trans hgy116
        have hgy118 := (hfvy79 (i + 22) (ne_o (i := i) (c := 22) (d := 0) rfl)).trans hgy117
        have hgy119 := (hfvy81 (i + 22) (ne_o (i := i) (c := 22) (d := 0) rfl)).trans hgy118
        have hgy120 := (hfvy11 (i + 23) (ne_o (i := i) (c := 23) (d := 0) rfl)).trans ha23
        have hgy121 := (hfvy41 (i + 23) (ne_o (i := i) (c := 23) (d := 0) rfl)).trans hgy120
        have hgy122 := (hfvy79 (i + 23) (ne_o (i := i) (c := 23) (d := 0) rfl)).trans hgy121
        have hgy123 := (hfvy81 (i + 23) (ne_o (i := i) (c := 23) (d := 0) rfl)).trans hgy122
        have htxy124 : okTx cs gvy81 i Fvy81 := ⟨_, _, _, _, _, _, _, _, ⟨hgy95, hgy99, hgy103, hgy107, hgy111, hgy115, hgy119, hgy123⟩, ⟨⟨by omega, by omega, by omega⟩, hop1, hmn1, hai1, hfa1, htb1, hlay91⟩⟩
        exact z_vret C hr hlk dX10_layer1_97 (by decide) (by decide) ⟨rfl, rfl, rfl, ⟨_, hcvy81, hdvy81, by omega, by omega, hFy82, htxy124⟩, fun j j1 j2 => by rw [hfvy81 _ (by omega)]; rw [hfvy79 _ (by omega)]; rw [hfvy41 _ (by omega)]; rw [hfvy11 _ (by omega)]⟩
      · refine z_iconst (z := 1) C dX10_layer1_58 rfl ?_
        refine z_goto (tgt := 63) C dX10_layer1_59 (by decide) ?_
        refine z_iconst (z := 3) C dX10_layer1_63 rfl ?_
        have h38vy125 : Fvy79 38 = 0 := e38vy79
        refine z_cV (As := [.int (zI (1)), .int (zI (3))]) (rest := []) (ci := 12) C (c_X10_wants l D A cs tt N ad _ i hN _ hcvy79 (by omega) (1) (by omega) (3) (by omega)) (by omega) hay1 hcvy79 rfl rfl mv_yX10_wants q_1678 hd_yX10_wants (by decide) (Nat.le_of_ble_eq_true rfl) (by decide) dX10_layer1_64 rfl (kI0 fun vy125 gvy125 hvy125 => ?_)
        obtain ⟨⟨Fvy125, hcvy125, hqvy125, hbvy125, hFvy125⟩, hfvy125⟩ := hvy125
        have hdvy125 : RD Fvy125 := RD.w hdvy79 hFvy125 hbvy125
        obtain rfl : vy125 = 1 := by omega
        have e38vy125 : Fvy125 38 = 0 := by omega
        clear hqvy125
        refine z_if_eq (tgt := 97) C dX10_layer1_67 (by decide) (by omega) (fun h => absurd h (by omega)) (fun _ => ?_)
        refine z_aload_n C 0 dX10_layer1_70 rfl ?_
        refine z_aload_n C 0 dX10_layer1_71 rfl ?_
        refine z_get (v := .ref (ad (i + 18))) C (by omega) hay1 hcvy125 rfl inA_X10 41 (by decide) q_1500 rfl rfl dX10_layer1_72 ?_
        refine z_aload_n C 0 dX10_layer1_75 rfl ?_
        refine z_get (v := .int (zI (Fvy11 36))) C (by omega) hay1 hcvy125 rfl inA_X10 36 (by decide) q_1495 rfl (fv (F := Fvy125) (f := 36) ((hFvy125 36 (by decide) (by decide)).trans ((hFvy79 36 (by decide) (by decide)).trans (hFvy41 36 (by decide) (by decide))))) dX10_layer1_76 ?_
        obtain ⟨ny126, hny126⟩ : ∃ n9 : Nat, Fvy11 36 = (n9 : Int) := ⟨(Fvy11 36).toNat, by omega⟩
        rw [hny126]
        have hgy127 := (hfvy11 (i + 18) (ne_o (i := i) (c := 18) (d := 0) rfl)).trans ha18
        have hgy128 := (hfvy41 (i + 18) (ne_o (i := i) (c := 18) (d := 0) rfl)).trans hgy127
        have hgy129 := (hfvy79 (i + 18) (ne_o (i := i) (c := 18) (d := 0) rfl)).trans hgy128
        have hgy130 := (hfvy125 (i + 18) (ne_o (i := i) (c := 18) (d := 0) rfl)).trans hgy129
        refine z_iald C (by omega) hay5 hgy130 (ny126) (by omega) (by omega) (by decide) dX10_layer1_79 ?_
        have hrfy131 := hmn1 (ny126) (by omega)
        refine z_bipush (z := 12) C dX10_layer1_80 (by decide) ?_
        refine z_icmp_ge (tgt := 89) C dX10_layer1_82 (by decide) (by omega) (by omega) (fun hby132 => ?_) (fun hby132 => ?_)
        · refine z_iconst (z := 0) C dX10_layer1_89 rfl ?_
          refine z_iconst (z := 2) C dX10_layer1_90 rfl ?_
          have h38vy133 : Fvy125 38 = 0 := e38vy125
          refine z_cV (As := [.int (zI (0)), .int (zI (2))]) (rest := []) (ci := 12) C (c_X10_wants l D A cs tt N ad _ i hN _ hcvy125 (by omega) (0) (by omega) (2) (by omega)) (by omega) hay1 hcvy125 rfl rfl mv_yX10_wants q_1678 hd_yX10_wants (by decide) (Nat.le_of_ble_eq_true rfl) (by decide) dX10_layer1_91 rfl (kI0 fun vy133 gvy133 hvy133 => ?_)
          obtain ⟨⟨Fvy133, hcvy133, hqvy133, hbvy133, hFvy133⟩, hfvy133⟩ := hvy133
          have hdvy133 : RD Fvy133 := RD.w hdvy125 hFvy133 hbvy133
          obtain rfl : vy133 = 0 := by omega
          have e38vy133 : 1 ≤ Fvy133 38 := by omega
          clear hqvy133
          refine z_if_ne (tgt := 98) C dX10_layer1_94 (by decide) (by omega) (fun h => absurd h (by omega)) (fun _ => ?_)
          have hFy134 : ∀ f, f ≠ 24 → f ≠ 32 → f ≠ 33 → f ≠ 35 → f ≠ 36 → f ≠ 37 → f ≠ 38 → f ≠ 47 → f ≠ 48 → f ≠ 49 → Fvy133 f = F f := fun f n24 n32 n33 n35 n36 n37 n38 n47 n48 n49 => ((hFvy133 f n24 n38).trans ((hFvy125 f n24 n38).trans ((hFvy79 f n24 n38).trans ((hFvy41 f n24 n38).trans (hFvy11 f n32 n33 n35 n36 n37)))))
          have hey135 : Fvy133 32 = Fvy11 32 := ((hFvy133 32 (by decide) (by decide)).trans ((hFvy125 32 (by decide) (by decide)).trans ((hFvy79 32 (by decide) (by decide)).trans (hFvy41 32 (by decide) (by decide)))))
          have hey136 : Fvy133 35 = Fvy11 35 := ((hFvy133 35 (by decide) (by decide)).trans ((hFvy125 35 (by decide) (by decide)).trans ((hFvy79 35 (by decide) (by decide)).trans (hFvy41 35 (by decide) (by decide)))))
          have hey137 : Fvy133 38 = Fvy133 38 := rfl
          have hey138 : Fvy133 32 = Fvy11 32 := ((hFvy133 32 (by decide) (by decide)).trans ((hFvy125 32 (by decide) (by decide)).trans ((hFvy79 32 (by decide) (by decide)).trans (hFvy41 32 (by decide) (by decide)))))
          have hey139 : Fvy133 47 = F 47 := ((hFvy133 47 (by decide) (by decide)).trans ((hFvy125 47 (by decide) (by decide)).trans ((hFvy79 47 (by decide) (by decide)).trans ((hFvy41 47 (by decide) (by decide)).trans (hFvy11 47 (by decide) (by decide) (by decide) (by decide) (by decide))))))
          have hey140 : Fvy133 48 = F 48 := ((hFvy133 48 (by decide) (by decide)).trans ((hFvy125 48 (by decide) (by decide)).trans ((hFvy79 48 (by decide) (by decide)).trans ((hFvy41 48 (by decide) (by decide)).trans (hFvy11 48 (by decide) (by decide) (by decide) (by decide) (by decide))))))
          have hey141 : Fvy133 49 = F 49 := ((hFvy133 49 (by decide) (by decide)).trans ((hFvy125 49 (by decide) (by decide)).trans ((hFvy79 49 (by decide) (by decide)).trans ((hFvy41 49 (by decide) (by decide)).trans (hFvy11 49 (by decide) (by decide) (by decide) (by decide) (by decide))))))
          have hlay143 : ∀ s l : Nat, (s : Int) < Fvy133 47 → (l : Int) < mn1 s → lyT ly1 (84 * s + 7 * l) := fun s l a1 a2 => hly1 s l (by omega) a2
          have hgy144 := (hfvy11 (i + 16) (ne_o (i := i) (c := 16) (d := 0) rfl)).trans ha16
          have hgy145 := (hfvy41 (i + 16) (ne_o (i := i) (c := 16) (d := 0) rfl)).trans hgy144
          have hgy146 := (hfvy79 (i + 16) (ne_o (i := i) (c := 16) (d := 0) rfl)).trans hgy145
          have hgy147 := (hfvy125 (i + 16) (ne_o (i := i) (c := 16) (d := 0) rfl)).trans hgy146
          have hgy148 := (hfvy133 (i + 16) (ne_o (i := i) (c := 16) (d := 0) rfl)).trans hgy147
          have hgy149 := (hfvy11 (i + 17) (ne_o (i := i) (c := 17) (d := 0) rfl)).trans ha17
          have hgy150 := (hfvy41 (i + 17) (ne_o (i := i) (c := 17) (d := 0) rfl)).trans hgy149
          have hgy151 := (hfvy79 (i + 17) (ne_o (i := i) (c := 17) (d := 0) rfl)).trans hgy150
          have hgy152 := (hfvy125 (i + 17) (ne_o (i := i) (c := 17) (d := 0) rfl)).trans hgy151
          have hgy153 := (hfvy133 (i + 17) (ne_o (i := i) (c := 17) (d := 0) rfl)).trans hgy152
          have hgy154 := (hfvy133 (i + 18) (ne_o (i := i) (c := 18) (d := 0) rfl)).trans hgy130
          have hgy155 := (hfvy11 (i + 19) (ne_o (i := i) (c := 19) (d := 0) rfl)).trans ha19
          have hgy156 := (hfvy41 (i + 19) (ne_o (i := i) (c := 19) (d := 0) rfl)).trans hgy155
          have hgy157 := (hfvy79 (i + 19) (ne_o (i := i) (c := 19) (d := 0) rfl)).trans hgy156
          have hgy158 := (hfvy125 (i + 19) (ne_o (i := i) (c := 19) (d := 0) rfl)).trans hgy157
          have hgy159 := (hfvy133 (i + 19) (ne_o (i := i) (c := 19) (d := 0) rfl)).trans hgy158
          have hgy160 := (hfvy11 (i + 20) (ne_o (i := i) (c := 20) (d := 0) rfl)).trans ha20
          have hgy161 := (hfvy41 (i + 20) (ne_o (i := i) (c := 20) (d := 0) rfl)).trans hgy160
          have hgy162 := (hfvy79 (i + 20) (ne_o (i := i) (c := 20) (d := 0) rfl)).trans hgy161
          have hgy163 := (hfvy125 (i + 20) (ne_o (i := i) (c := 20) (d := 0) rfl)).trans hgy162
          have hgy164 := (hfvy133 (i + 20) (ne_o (i := i) (c := 20) (d := 0) rfl)).trans hgy163
          have hgy165 := (hfvy11 (i + 21) (ne_o (i := i) (c := 21) (d := 0) rfl)).trans ha21
          have hgy166 := (hfvy41 (i + 21) (ne_o (i := i) (c := 21) (d := 0) rfl)).trans hgy165
          have hgy167 := (hfvy79 (i + 21) (ne_o (i := i) (c := 21) (d := 0) rfl)).trans hgy166
          have hgy168 := (hfvy125 (i + 21) (ne_o (i := i) (c := 21) (d := 0) rfl)).trans hgy167
          have hgy169 := (hfvy133 (i + 21) (ne_o (i := i) (c := 21) (d := 0) rfl)).trans hgy168
          have hgy170 := (hfvy11 (i + 22) (ne_o (i := i) (c := 22) (d := 0) rfl)).trans ha22
          have hgy171 := (hfvy41 (i + 22) (ne_o (i := i) (c := 22) (d := 0) rfl)).trans hgy170
          have hgy172 := (hfvy79 (i + 22) (ne_o (i := i) (c := 22) (d := 0) rfl)).trans hgy171
          have hgy173 := (hfvy125 (i + 22) (ne_o (i := i) (c := 22) (d := 0) rfl)).trans hgy172
          have hgy174 := (hfvy133 (i + 22) (ne_o (i := i) (c := 22) (d := 0) rfl)).trans hgy173
          have hgy175 := (hfvy11 (i + 23) (ne_o (i := i) (c := 23) (d := 0) rfl)).trans ha23
          have hgy176 := (hfvy41 (i + 23) (ne_o (i := i) (c := 23) (d := 0) rfl)).trans hgy175
          have hgy177 := (hfvy79 (i + 23) (ne_o (i := i) (c := 23) (d := 0) rfl)).trans hgy176
          have hgy178 := (hfvy125 (i + 23) (ne_o (i := i) (c := 23) (d := 0) rfl)).trans hgy177
          have hgy179 := (hfvy133 (i + 23) (ne_o (i := i) (c := 23) (d := 0) rfl)).trans hgy178
          have htxy180 : okTx cs gvy133 i Fvy133 := ⟨_, _, _, _, _, _, _, _, ⟨hgy148, hgy153, hgy154, hgy159, hgy164, hgy169, hgy174, hgy179⟩, ⟨⟨by omega, by omega, by omega⟩, hop1, hmn1, hai1, hfa1, htb1, hlay143⟩⟩
          exact z_vret C hr hlk dX10_layer1_97 (by decide) (by decide) ⟨rfl, rfl, rfl, ⟨_, hcvy133, hdvy133, by omega, by omega, hFy134, htxy180⟩, fun j j1 j2 => by rw [hfvy133 _ (by omega)]; rw [hfvy125 _ (by omega)]; rw [hfvy79 _ (by omega)]; rw [hfvy41 _ (by omega)]; rw [hfvy11 _ (by omega)]⟩
        · refine z_iconst (z := 1) C dX10_layer1_85 rfl ?_
          refine z_goto (tgt := 90) C dX10_layer1_86 (by decide) ?_
          refine z_iconst (z := 2) C dX10_layer1_90 rfl ?_
          have h38vy181 : Fvy125 38 = 0 := e38vy125
          refine z_cV (As := [.int (zI (1)), .int (zI (2))]) (rest := []) (ci := 12) C (c_X10_wants l D A cs tt N ad _ i hN _ hcvy125 (by omega) (1) (by omega) (2) (by omega)) (by omega) hay1 hcvy125 rfl rfl mv_yX10_wants q_1678 hd_yX10_wants (by decide) (Nat.le_of_ble_eq_true rfl) (by decide) dX10_layer1_91 rfl (kI0 fun vy181 gvy181 hvy181 => ?_)
          obtain ⟨⟨Fvy181, hcvy181, hqvy181, hbvy181, hFvy181⟩, hfvy181⟩ := hvy181
          have hdvy181 : RD Fvy181 := RD.w hdvy125 hFvy181 hbvy181
          obtain rfl : vy181 = 1 := by omega
          have e38vy181 : Fvy181 38 = 0 := by omega
          clear hqvy181
          refine z_if_ne (tgt := 98) C dX10_layer1_94 (by decide) (by omega) (fun _ => ?_) (fun h => absurd h (by omega))
          refine z_aload_n C 0 dX10_layer1_98 rfl ?_
          refine z_get (v := .int (zI (Fvy11 36))) C (by omega) hay1 hcvy181 rfl inA_X10 36 (by decide) q_1495 rfl (fv (F := Fvy181) (f := 36) ((hFvy181 36 (by decide) (by decide)).trans ((hFvy125 36 (by decide) (by decide)).trans ((hFvy79 36 (by decide) (by decide)).trans (hFvy41 36 (by decide) (by decide)))))) dX10_layer1_99 ?_
          rw [hny126]
          refine z_istore_n (lv' := [(1, .int (zI ((ny126 : Int)))), (0, .ref (ad i))]) C dX10_layer1_102 rfl (by decide) rfl ?_
          refine z_bipush (z := 84) C dX10_layer1_103 (by decide) ?_
          refine z_iload_n C 0 dX10_layer1_105 rfl ?_
          refine z_imul C dX10_layer1_106 ?_
          refine z_bipush (z := 7) C dX10_layer1_107 (by decide) ?_
          refine z_aload_n C 1 dX10_layer1_109 rfl ?_
          refine z_get (v := .ref (ad (i + 18))) C (by omega) hay1 hcvy181 rfl inA_X10 41 (by decide) q_1500 rfl rfl dX10_layer1_110 ?_
          refine z_iload_n C 0 dX10_layer1_113 rfl ?_
          have hgy182 := (hfvy181 (i + 18) (ne_o (i := i) (c := 18) (d := 0) rfl)).trans hgy130
          refine z_iald C (by omega) hay5 hgy182 (ny126) (by omega) (by omega) (by decide) dX10_layer1_114 ?_
          have hrfy183 := hmn1 (ny126) (by omega)
          refine z_imul C dX10_layer1_115 ?_
          refine z_iadd C dX10_layer1_116 ?_
          obtain ⟨kqy184, hkqy184⟩ : ∃ n9 : Nat, (84 * ((ny126 : Int))) + (7 * (mn1 (ny126))) = (n9 : Int) := ⟨((84 * ((ny126 : Int))) + (7 * (mn1 (ny126)))).toNat, by omega⟩
          rw [hkqy184]
          refine z_istore_n (lv' := [(2, .int (zI ((kqy184 : Int)))), (1, .int (zI ((ny126 : Int)))), (0, .ref (ad i))]) C dX10_layer1_117 rfl (by decide) rfl ?_
          refine z_aload_n C 2 dX10_layer1_118 rfl ?_
          have hgy185 := (hfvy11 (i + 13) (ne_o (i := i) (c := 13) (d := 0) rfl)).trans ha13
          have hgy186 := (hfvy41 (i + 13) (ne_o (i := i) (c := 13) (d := 0) rfl)).trans hgy185
          have hgy187 := (hfvy79 (i + 13) (ne_o (i := i) (c := 13) (d := 0) rfl)).trans hgy186
          have hgy188 := (hfvy125 (i + 13) (ne_o (i := i) (c := 13) (d := 0) rfl)).trans hgy187
          have hgy189 := (hfvy181 (i + 13) (ne_o (i := i) (c := 13) (d := 0) rfl)).trans hgy188
          refine z_cV (As := []) (rest := []) (ci := 12) C (c_X10_go l D A cs tt N ad _ i hN _ hcvy181 _ hgy189 htp hdvy181) (by omega) hay1 hcvy181 rfl rfl mv_yX10_go q_1652 hd_yX10_go (by decide) (Nat.le_of_ble_eq_true rfl) (by decide) dX10_layer1_119 rfl (kV0 fun gvy190 hvy190 => ?_)
          obtain ⟨⟨Fvy190, hcvy190, hdvy190, hlvy190, hsvy190, hFvy190⟩, hfvy190⟩ := hvy190
          rw [show Fvy181 32 = Fvy11 32 from ((hFvy181 32 (by decide) (by decide)).trans ((hFvy125 32 (by decide) (by decide)).trans ((hFvy79 32 (by decide) (by decide)).trans (hFvy41 32 (by decide) (by decide)))))] at hlvy190 hsvy190
          have h34vy190 : Fvy190 34 = F 34 := (hFvy190 34 (by decide) (by decide) (by decide) (by decide) (by decide)).trans (((hFvy181 34 (by decide) (by decide)).trans ((hFvy125 34 (by decide) (by decide)).trans ((hFvy79 34 (by decide) (by decide)).trans ((hFvy41 34 (by decide) (by decide)).trans (hFvy11 34 (by decide) (by decide) (by decide) (by decide) (by decide)))))))
          obtain ⟨d32vy190, -, d35vy190, d36vy190, -, d37vy190, d38vy190⟩ := id hdvy190
          have h38vy190 : Fvy190 38 = 0 := ((hFvy190 38 (by decide) (by decide) (by decide) (by decide) (by decide)).trans e38vy181)
          clear hsvy190
          refine z_aload_n C 2 dX10_layer1_122 rfl ?_
          refine z_aload_n C 2 dX10_layer1_123 rfl ?_
          have hey192 : Fvy190 35 = Fvy190 35 := rfl
          have hey193 : Fvy190 37 = Fvy190 37 := rfl
          refine z_cV (As := []) (rest := [.ref (ad i)]) (ci := 12) C (c_X10_isKind l D A cs tt N ad _ i hN _ hcvy190 hdvy190 ) (by omega) hay1 hcvy190 rfl rfl mv_yX10_isKind q_1693 hd_yX10_isKind (by decide) (Nat.le_of_ble_eq_true rfl) (by decide) dX10_layer1_124 rfl (kI0 fun vy191 gvy191 hvy191 => ?_)
          rw [hey192, hey193] at hvy191
          clear hey192 hey193
          obtain ⟨hrvy191, hqvy191, rfl⟩ := hvy191
          rcases (show vy191 = 1 ∨ vy191 = 0 by omega) with rfl | rfl
          · have hkvy191 := hqvy191 rfl
            clear hqvy191
            refine z_iconst (z := 1) C dX10_layer1_127 rfl ?_
            have h38vy194 : Fvy190 38 = 0 := ((hFvy190 38 (by decide) (by decide) (by decide) (by decide) (by decide)).trans e38vy181)
            refine z_cV (As := [.int (zI (1)), .int (zI (1))]) (rest := []) (ci := 12) C (c_X10_wants l D A cs tt N ad _ i hN _ hcvy190 (by omega) (1) (by omega) (1) (by omega)) (by omega) hay1 hcvy190 rfl rfl mv_yX10_wants q_1678 hd_yX10_wants (by decide) (Nat.le_of_ble_eq_true rfl) (by decide) dX10_layer1_128 rfl (kI0 fun vy194 gvy194 hvy194 => ?_)
            obtain ⟨⟨Fvy194, hcvy194, hqvy194, hbvy194, hFvy194⟩, hfvy194⟩ := hvy194
            have hdvy194 : RD Fvy194 := RD.w hdvy190 hFvy194 hbvy194
            obtain rfl : vy194 = 1 := by omega
            have e38vy194 : Fvy194 38 = 0 := by omega
            clear hqvy194
            refine z_if_ne (tgt := 135) C dX10_layer1_131 (by decide) (by omega) (fun _ => ?_) (fun h => absurd h (by omega))
            refine z_aload_n C 2 dX10_layer1_135 rfl ?_
            refine z_get (v := .ref (ad (i + 23))) C (by omega) hay1 hcvy194 rfl inA_X10 46 (by decide) q_1505 rfl rfl dX10_layer1_136 ?_
            refine z_iload_n C 0 dX10_layer1_139 rfl ?_
            refine z_iconst (z := 0) C dX10_layer1_140 rfl ?_
            refine z_iadd C dX10_layer1_141 ?_
            refine z_aload_n C 2 dX10_layer1_142 rfl ?_
            have hey196 : Fvy194 37 = Fvy190 37 := (hFvy194 37 (by decide) (by decide))
            refine z_cV (As := []) (rest := [.int (zI (((kqy184 : Int)) + 0)), .ref (ad (i + 23))]) (ci := 12) C (c_X10_kindHere l D A cs tt N ad _ i hN _ hcvy194 hdvy194 ) (by omega) hay1 hcvy194 rfl rfl mv_yX10_kindHere q_1697 hd_yX10_kindHere (by decide) (Nat.le_of_ble_eq_true rfl) (by decide) dX10_layer1_143 rfl (kI0 fun vy195 gvy195 hvy195 => ?_)
            rw [hey196] at hvy195
            clear hey196
            obtain ⟨hrvy195, rfl⟩ := hvy195
            have hkvy195 : 0 ≤ vy195 ∧ vy195 ≤ 4 := by omega
            clear hrvy195
            have hgy197 := (hfvy11 (i + 23) (ne_o (i := i) (c := 23) (d := 0) rfl)).trans ha23
            have hgy198 := (hfvy41 (i + 23) (ne_o (i := i) (c := 23) (d := 0) rfl)).trans hgy197
            have hgy199 := (hfvy79 (i + 23) (ne_o (i := i) (c := 23) (d := 0) rfl)).trans hgy198
            have hgy200 := (hfvy125 (i + 23) (ne_o (i := i) (c := 23) (d := 0) rfl)).trans hgy199
            have hgy201 := (hfvy181 (i + 23) (ne_o (i := i) (c := 23) (d := 0) rfl)).trans hgy200
            have hgy202 := (hfvy190 (i + 23) (ne_o (i := i) (c := 23) (d := 0) rfl)).trans hgy201
            have hgy203 := (hfvy194 (i + 23) (ne_o (i := i) (c := 23) (d := 0) rfl)).trans hgy202
            refine z_iast C (by omega) hay10 hgy203 (kqy184) (by omega) (by omega) (by decide) dX10_layer1_146 (fun gy204 egy205 => ?_)
            have hgy206 := up_s egy205
            obtain ⟨ry207, hvy208⟩ : ∃ rZ9 : Nat → Int, rZ9 = uZ ly1 (kqy184) (vy195) := ⟨_, rfl⟩
            rw [← hvy208] at hgy206
            refine z_aload_n C 2 dX10_layer1_147 rfl ?_
            have hgy209 := up_n egy205 hcvy194 (ne_o (i := i) (c := 0) (d := 23) rfl)
            have hgy210 := (hfvy190 (i + 13) (ne_o (i := i) (c := 13) (d := 0) rfl)).trans hgy189
            have hgy211 := (hfvy194 (i + 13) (ne_o (i := i) (c := 13) (d := 0) rfl)).trans hgy210
            have hgy212 := up_n egy205 hgy211 (ne_o (i := i) (c := 13) (d := 23) rfl)
            refine z_cV (As := []) (rest := []) (ci := 12) C (c_X10_go l D A cs tt N ad _ i hN _ hgy209 _ hgy212 htp hdvy194) (by omega) hay1 hgy209 rfl rfl mv_yX10_go q_1652 hd_yX10_go (by decide) (Nat.le_of_ble_eq_true rfl) (by decide) dX10_layer1_148 rfl (kV0 fun gvy213 hvy213 => ?_)
            obtain ⟨⟨Fvy213, hcvy213, hdvy213, hlvy213, hsvy213, hFvy213⟩, hfvy213⟩ := hvy213
            rw [show Fvy194 32 = Fvy190 32 from (hFvy194 32 (by decide) (by decide))] at hlvy213 hsvy213
            have h34vy213 : Fvy213 34 = F 34 := (hFvy213 34 (by decide) (by decide) (by decide) (by decide) (by decide)).trans (((hFvy194 34 (by decide) (by decide)).trans ((hFvy190 34 (by decide) (by decide) (by decide) (by decide) (by decide)).trans ((hFvy181 34 (by decide) (by decide)).trans ((hFvy125 34 (by decide) (by decide)).trans ((hFvy79 34 (by decide) (by decide)).trans ((hFvy41 34 (by decide) (by decide)).trans (hFvy11 34 (by decide) (by decide) (by decide) (by decide) (by decide)))))))))
            obtain ⟨d32vy213, -, d35vy213, d36vy213, -, d37vy213, d38vy213⟩ := id hdvy213
            have h38vy213 : Fvy213 38 = 0 := ((hFvy213 38 (by decide) (by decide) (by decide) (by decide) (by decide)).trans e38vy194)
            clear hsvy213
            refine z_aload_n C 2 dX10_layer1_151 rfl ?_
            refine z_get (v := .ref (ad (i + 23))) C (by omega) hay1 hcvy213 rfl inA_X10 46 (by decide) q_1505 rfl rfl dX10_layer1_152 ?_
            refine z_iload_n C 0 dX10_layer1_155 rfl ?_
            refine z_iconst (z := 1) C dX10_layer1_156 rfl ?_
            refine z_iadd C dX10_layer1_157 ?_
            refine z_aload_n C 2 dX10_layer1_158 rfl ?_
            refine z_iconst (z := 1) C dX10_layer1_159 rfl ?_
            refine z_bipush (z := 99) C dX10_layer1_160 (by decide) ?_
            have hgy214 := (hfvy213 (i + 13) (ne_o (i := i) (c := 13) (d := 0) rfl)).trans hgy212
            refine z_cV (As := [.int (zI (1)), .int (zI (99))]) (rest := [.int (zI (((kqy184 : Int)) + 1)), .ref (ad (i + 23))]) (ci := 12) C (c_X10_number l D A cs tt N ad _ i hN _ hcvy213 _ hgy214 htp hdvy213 (1) (by omega) (99) (by omega)) (by omega) hay1 hcvy213 rfl rfl mv_yX10_number q_1682 hd_yX10_number (by decide) (Nat.le_of_ble_eq_true rfl) (by decide) dX10_layer1_162 rfl (kI0 fun vy215 gvy215 hvy215 => ?_)
            obtain ⟨hrvy215, ⟨Fvy215, hcvy215, hdvy215, hlvy215, hsvy215, hFvy215⟩, hfvy215⟩ := hvy215
            rw [show Fvy213 32 = Fvy213 32 from rfl] at hlvy215
            rw [show Fvy213 38 = 0 from ((hFvy213 38 (by decide) (by decide) (by decide) (by decide) (by decide)).trans e38vy194), show Fvy213 35 = Fvy213 35 from rfl] at hsvy215
            have h34vy215 : Fvy215 34 = F 34 := (hFvy215 34 (by decide) (by decide) (by decide) (by decide) (by decide) (by decide) (by decide)).trans (((hFvy213 34 (by decide) (by decide) (by decide) (by decide) (by decide)).trans ((hFvy194 34 (by decide) (by decide)).trans ((hFvy190 34 (by decide) (by decide) (by decide) (by decide) (by decide)).trans ((hFvy181 34 (by decide) (by decide)).trans ((hFvy125 34 (by decide) (by decide)).trans ((hFvy79 34 (by decide) (by decide)).trans ((hFvy41 34 (by decide) (by decide)).trans (hFvy11 34 (by decide) (by decide) (by decide) (by decide) (by decide))))))))))
            obtain ⟨d32vy215, -, d35vy215, d36vy215, -, d37vy215, d38vy215⟩ := id hdvy215
            rcases (show Fvy215 38 = 0 ∨ Fvy215 38 ≠ 0 by omega) with hxvy215 | hxvy215
            · have hqvy215 := hsvy215 hxvy215
              clear hsvy215
              have hgy216 := (hfvy213 (i + 23) (ne_o (i := i) (c := 23) (d := 0) rfl)).trans hgy206
              have hgy217 := (hfvy215 (i + 23) (ne_o (i := i) (c := 23) (d := 0) rfl)).trans hgy216
              refine z_iast C (by omega) hay10 hgy217 (kqy184 + 1) (by omega) (by omega) (by decide) dX10_layer1_165 (fun gy218 egy219 => ?_)
              have hgy220 := up_s egy219
              obtain ⟨ry221, hvy222⟩ : ∃ rZ9 : Nat → Int, rZ9 = uZ ry207 (kqy184 + 1) (vy215) := ⟨_, rfl⟩
              rw [← hvy222] at hgy220
              refine z_aload_n C 2 dX10_layer1_166 rfl ?_
              have hgy223 := up_n egy219 hcvy215 (ne_o (i := i) (c := 0) (d := 23) rfl)
              refine z_get (v := .int (zI (0))) C (by omega) hay1 hgy223 rfl inA_X10 38 (by decide) q_1497 rfl (fv (F := Fvy215) (f := 38) hxvy215) dX10_layer1_167 ?_
              refine z_if_ne (tgt := 188) C dX10_layer1_170 (by decide) (by omega) (fun h => absurd h (by omega)) (fun _ => ?_)
              refine z_aload_n C 2 dX10_layer1_173 rfl ?_
              refine z_get (v := .ref (ad (i + 23))) C (by omega) hay1 hgy223 rfl inA_X10 46 (by decide) q_1505 rfl rfl dX10_layer1_174 ?_
              refine z_iload_n C 0 dX10_layer1_177 rfl ?_
              refine z_iconst (z := 2) C dX10_layer1_178 rfl ?_
              refine z_iadd C dX10_layer1_179 ?_
              refine z_aload_n C 2 dX10_layer1_180 rfl ?_
              refine z_iconst (z := 0) C dX10_layer1_181 rfl ?_
              refine z_bipush (z := 99) C dX10_layer1_182 (by decide) ?_
              have hgy224 := (hfvy215 (i + 13) (ne_o (i := i) (c := 13) (d := 0) rfl)).trans hgy214
              have hgy225 := up_n egy219 hgy224 (ne_o (i := i) (c := 13) (d := 23) rfl)
              refine z_cV (As := [.int (zI (0)), .int (zI (99))]) (rest := [.int (zI (((kqy184 : Int)) + 2)), .ref (ad (i + 23))]) (ci := 12) C (c_X10_number l D A cs tt N ad _ i hN _ hgy223 _ hgy225 htp hdvy215 (0) (by omega) (99) (by omega)) (by omega) hay1 hgy223 rfl rfl mv_yX10_number q_1682 hd_yX10_number (by decide) (Nat.le_of_ble_eq_true rfl) (by decide) dX10_layer1_184 rfl (kI0 fun vy226 gvy226 hvy226 => ?_)
              obtain ⟨hrvy226, ⟨Fvy226, hcvy226, hdvy226, hlvy226, hsvy226, hFvy226⟩, hfvy226⟩ := hvy226
              rw [show Fvy215 32 = Fvy215 32 from rfl] at hlvy226
              rw [show Fvy215 38 = 0 from hxvy215, show Fvy215 35 = Fvy215 35 from rfl] at hsvy226
              have h34vy226 : Fvy226 34 = F 34 := (hFvy226 34 (by decide) (by decide) (by decide) (by decide) (by decide) (by decide) (by decide)).trans (((hFvy215 34 (by decide) (by decide) (by decide) (by decide) (by decide) (by decide) (by decide)).trans ((hFvy213 34 (by decide) (by decide) (by decide) (by decide) (by decide)).trans ((hFvy194 34 (by decide) (by decide)).trans ((hFvy190 34 (by decide) (by decide) (by decide) (by decide) (by decide)).trans ((hFvy181 34 (by decide) (by decide)).trans ((hFvy125 34 (by decide) (by decide)).trans ((hFvy79 34 (by decide) (by decide)).trans ((hFvy41 34 (by decide) (by decide)).trans (hFvy11 34 (by decide) (by decide) (by decide) (by decide) (by decide)))))))))))
              obtain ⟨d32vy226, -, d35vy226, d36vy226, -, d37vy226, d38vy226⟩ := id hdvy226
              rcases (show Fvy226 38 = 0 ∨ Fvy226 38 ≠ 0 by omega) with hxvy226 | hxvy226
              · have hqvy226 := hsvy226 hxvy226
                clear hsvy226
                have hgy227 := (hfvy226 (i + 23) (ne_o (i := i) (c := 23) (d := 0) rfl)).trans hgy220
                refine z_iast C (by omega) hay10 hgy227 (kqy184 + 2) (by omega) (by omega) (by decide) dX10_layer1_187 (fun gy228 egy229 => ?_)
                have hgy230 := up_s egy229
                obtain ⟨ry231, hvy232⟩ : ∃ rZ9 : Nat → Int, rZ9 = uZ ry221 (kqy184 + 2) (vy226) := ⟨_, rfl⟩
                rw [← hvy232] at hgy230
                refine z_aload_n C 2 dX10_layer1_188 rfl ?_
                have hgy233 := up_n egy229 hcvy226 (ne_o (i := i) (c := 0) (d := 23) rfl)
                refine z_get (v := .int (zI (0))) C (by omega) hay1 hgy233 rfl inA_X10 38 (by decide) q_1497 rfl (fv (F := Fvy226) (f := 38) hxvy226) dX10_layer1_189 ?_
                refine z_if_ne (tgt := 272) C dX10_layer1_192 (by decide) (by omega) (fun h => absurd h (by omega)) (fun _ => ?_)
                refine z_aload_n C 2 dX10_layer1_195 rfl ?_
                refine z_aload_n C 2 dX10_layer1_196 rfl ?_
                refine z_get (v := .int (zI (Fvy226 35))) C (by omega) hay1 hgy233 rfl inA_X10 35 (by decide) q_1494 rfl (fv (F := Fvy226) (f := 35) rfl) dX10_layer1_197 ?_
                refine z_iconst (z := 2) C dX10_layer1_200 rfl ?_
                refine z_icmp_ne (tgt := 208) C dX10_layer1_201 (by decide) (by omega) (by omega) (fun hby234 => ?_) (fun hby234 => ?_)
                · refine z_iconst (z := 0) C dX10_layer1_208 rfl ?_
                  refine z_iconst (z := 1) C dX10_layer1_209 rfl ?_
                  have h38vy235 : Fvy226 38 = 0 := hxvy226
                  refine z_cV (As := [.int (zI (0)), .int (zI (1))]) (rest := []) (ci := 12) C (c_X10_wants l D A cs tt N ad _ i hN _ hgy233 (by omega) (0) (by omega) (1) (by omega)) (by omega) hay1 hgy233 rfl rfl mv_yX10_wants q_1678 hd_yX10_wants (by decide) (Nat.le_of_ble_eq_true rfl) (by decide) dX10_layer1_210 rfl (kI0 fun vy235 gvy235 hvy235 => ?_)
                  obtain ⟨⟨Fvy235, hcvy235, hqvy235, hbvy235, hFvy235⟩, hfvy235⟩ := hvy235
                  have hdvy235 : RD Fvy235 := RD.w hdvy226 hFvy235 hbvy235
                  obtain rfl : vy235 = 0 := by omega
                  have e38vy235 : 1 ≤ Fvy235 38 := by omega
                  clear hqvy235
                  refine z_if_eq (tgt := 272) C dX10_layer1_213 (by decide) (by omega) (fun _ => ?_) (fun h => absurd h (by omega))
                  have hFy236 : ∀ f, f ≠ 24 → f ≠ 32 → f ≠ 33 → f ≠ 35 → f ≠ 36 → f ≠ 37 → f ≠ 38 → f ≠ 47 → f ≠ 48 → f ≠ 49 → Fvy235 f = F f := fun f n24 n32 n33 n35 n36 n37 n38 n47 n48 n49 => ((hFvy235 f n24 n38).trans ((hFvy226 f n24 n32 n33 n35 n36 n37 n38).trans ((hFvy215 f n24 n32 n33 n35 n36 n37 n38).trans ((hFvy213 f n32 n33 n35 n36 n37).trans ((hFvy194 f n24 n38).trans ((hFvy190 f n32 n33 n35 n36 n37).trans ((hFvy181 f n24 n38).trans ((hFvy125 f n24 n38).trans ((hFvy79 f n24 n38).trans ((hFvy41 f n24 n38).trans (hFvy11 f n32 n33 n35 n36 n37)))))))))))
                  have hey237 : Fvy235 32 = Fvy226 32 := (hFvy235 32 (by decide) (by decide))
                  have hey238 : Fvy235 35 = Fvy226 35 := (hFvy235 35 (by decide) (by decide))
                  have hey239 : Fvy235 38 = Fvy235 38 := rfl
                  have hey240 : Fvy235 32 = Fvy226 32 := (hFvy235 32 (by decide) (by decide))
                  have hey241 : Fvy235 47 = F 47 := ((hFvy235 47 (by decide) (by decide)).trans ((hFvy226 47 (by decide) (by decide) (by decide) (by decide) (by decide) (by decide) (by decide)).trans ((hFvy215 47 (by decide) (by decide) (by decide) (by decide) (by decide) (by decide) (by decide)).trans ((hFvy213 47 (by decide) (by decide) (by decide) (by decide) (by decide)).trans ((hFvy194 47 (by decide) (by decide)).trans ((hFvy190 47 (by decide) (by decide) (by decide) (by decide) (by decide)).trans ((hFvy181 47 (by decide) (by decide)).trans ((hFvy125 47 (by decide) (by decide)).trans ((hFvy79 47 (by decide) (by decide)).trans ((hFvy41 47 (by decide) (by decide)).trans (hFvy11 47 (by decide) (by decide) (by decide) (by decide) (by decide))))))))))))
                  have hey242 : Fvy235 48 = F 48 := ((hFvy235 48 (by decide) (by decide)).trans ((hFvy226 48 (by decide) (by decide) (by decide) (by decide) (by decide) (by decide) (by decide)).trans ((hFvy215 48 (by decide) (by decide) (by decide) (by decide) (by decide) (by decide) (by decide)).trans ((hFvy213 48 (by decide) (by decide) (by decide) (by decide) (by decide)).trans ((hFvy194 48 (by decide) (by decide)).trans ((hFvy190 48 (by decide) (by decide) (by decide) (by decide) (by decide)).trans ((hFvy181 48 (by decide) (by decide)).trans ((hFvy125 48 (by decide) (by decide)).trans ((hFvy79 48 (by decide) (by decide)).trans ((hFvy41 48 (by decide) (by decide)).trans (hFvy11 48 (by decide) (by decide) (by decide) (by decide) (by decide))))))))))))
                  have hey243 : Fvy235 49 = F 49 := ((hFvy235 49 (by decide) (by decide)).trans ((hFvy226 49 (by decide) (by decide) (by decide) (by decide) (by decide) (by decide) (by decide)).trans ((hFvy215 49 (by decide) (by decide) (by decide) (by decide) (by decide) (by decide) (by decide)).trans ((hFvy213 49 (by decide) (by decide) (by decide) (by decide) (by decide)).trans ((hFvy194 49 (by decide) (by decide)).trans ((hFvy190 49 (by decide) (by decide) (by decide) (by decide) (by decide)).trans ((hFvy181 49 (by decide) (by decide)).trans ((hFvy125 49 (by decide) (by decide)).trans ((hFvy79 49 (by decide) (by decide)).trans ((hFvy41 49 (by decide) (by decide)).trans (hFvy11 49 (by decide) (by decide) (by decide) (by decide) (by decide))))))))))))
                  have hfry246 : ∀ j, j ≠ kqy184 + 2 → j ≠ kqy184 + 1 → j ≠ kqy184 → ry231 j = ly1 j := fun j n0 n1 n2 => (congrFun hvy232 _).trans ((uZ_n _ _ n0).trans ((congrFun hvy222 _).trans ((uZ_n _ _ n1).trans ((congrFun hvy208 _).trans ((uZ_n _ _ n2).trans (rfl))))))
                  have hlay245 : ∀ s l : Nat, (s : Int) < Fvy235 47 → (l : Int) < mn1 s → lyT ry231 (84 * s + 7 * l) := by
                    intro s l a1 a2
                    have hm9 := hmn1 s (by omega)
                    by_cases e : s = ny126
                    · subst e; exact (hly1 s l (by omega) a2).ext (fun j b1 b2 => hfry246 j (by omega) (by omega) (by omega))
                    · exact (hly1 s l (by omega) a2).ext (fun j b1 b2 => hfry246 j (by omega) (by omega) (by omega))
                  have hgy247 := (hfvy11 (i + 16) (ne_o (i := i) (c := 16) (d := 0) rfl)).trans ha16
                  have hgy248 := (hfvy41 (i + 16) (ne_o (i := i) (c := 16) (d := 0) rfl)).trans hgy247
                  have hgy249 := (hfvy79 (i + 16) (ne_o (i := i) (c := 16) (d := 0) rfl)).trans hgy248
                  have hgy250 := (hfvy125 (i + 16) (ne_o (i := i) (c := 16) (d := 0) rfl)).trans hgy249
                  have hgy251 := (hfvy181 (i + 16) (ne_o (i := i) (c := 16) (d := 0) rfl)).trans hgy250
                  have hgy252 := (hfvy190 (i + 16) (ne_o (i := i) (c := 16) (d := 0) rfl)).trans hgy251
                  have hgy253 := (hfvy194 (i + 16) (ne_o (i := i) (c := 16) (d := 0) rfl)).trans hgy252
                  have hgy254 := up_n egy205 hgy253 (ne_o (i := i) (c := 16) (d := 23) rfl)
                  have hgy255 := (hfvy213 (i + 16) (ne_o (i := i) (c := 16) (d := 0) rfl)).trans hgy254
                  have hgy256 := (hfvy215 (i + 16) (ne_o (i := i) (c := 16) (d := 0) rfl)).trans hgy255
                  have hgy257 := up_n egy219 hgy256 (ne_o (i := i) (c := 16) (d := 23) rfl)
                  have hgy258 := (hfvy226 (i + 16) (ne_o (i := i) (c := 16) (d := 0) rfl)).trans hgy257
                  have hgy259 := up_n egy229 hgy258 (ne_o (i := i) (c := 16) (d := 23) rfl)
                  have hgy260 := (hfvy235 (i + 16) (ne_o (i := i) (c := 16) (d := 0) rfl)).trans hgy259
                  have hgy261 := (hfvy11 (i + 17) (ne_o (i := i) (c := 17) (d := 0) rfl)).trans ha17
                  have hgy262 := (hfvy41 (i + 17) (ne_o (i := i) (c := 17) (d := 0) rfl)).trans hgy261
                  have hgy263 := (hfvy79 (i + 17) (ne_o (i := i) (c := 17) (d := 0) rfl)).trans hgy262
                  have hgy264 := (hfvy125 (i + 17) (ne_o (i := i) (c := 17) (d := 0) rfl)).trans hgy263
                  have hgy265 := (hfvy181 (i + 17) (ne_o (i := i) (c := 17) (d := 0) rfl)).trans hgy264
                  have hgy266 := (hfvy190 (i + 17) (ne_o (i := i) (c := 17) (d := 0) rfl)).trans hgy265
                  have hgy267 := (hfvy194 (i + 17) (ne_o (i := i) (c := 17) (d := 0) rfl)).trans hgy266
                  have hgy268 := up_n egy205 hgy267 (ne_o (i := i) (c := 17) (d := 23) rfl)
                  have hgy269 := (hfvy213 (i + 17) (ne_o (i := i) (c := 17) (d := 0) rfl)).trans hgy268
                  have hgy270 := (hfvy215 (i + 17) (ne_o (i := i) (c := 17) (d := 0) rfl)).trans hgy269
                  have hgy271 := up_n egy219 hgy270 (ne_o (i := i) (c := 17) (d := 23) rfl)
                  have hgy272 := (hfvy226 (i + 17) (ne_o (i := i) (c := 17) (d := 0) rfl)).trans hgy271
                  have hgy273 := up_n egy229 hgy272 (ne_o (i := i) (c := 17) (d := 23) rfl)
                  have hgy274 := (hfvy235 (i + 17) (ne_o (i := i) (c := 17) (d := 0) rfl)).trans hgy273
                  have hgy275 := (hfvy190 (i + 18) (ne_o (i := i) (c := 18) (d := 0) rfl)).trans hgy182
                  have hgy276 := (hfvy194 (i + 18) (ne_o (i := i) (c := 18) (d := 0) rfl)).trans hgy275
                  have hgy277 := up_n egy205 hgy276 (ne_o (i := i) (c := 18) (d := 23) rfl)
                  have hgy278 := (hfvy213 (i + 18) (ne_o (i := i) (c := 18) (d := 0) rfl)).trans hgy277
                  have hgy279 := (hfvy215 (i + 18) (ne_o (i := i) (c := 18) (d := 0) rfl)).trans hgy278
                  have hgy280 := up_n egy219 hgy279 (ne_o (i := i) (c := 18) (d := 23) rfl)
                  have hgy281 := (hfvy226 (i + 18) (ne_o (i := i) (c := 18) (d := 0) rfl)).trans hgy280
                  have hgy282 := up_n egy229 hgy281 (ne_o (i := i) (c := 18) (d := 23) rfl)
                  have hgy283 := (hfvy235 (i + 18) (ne_o (i := i) (c := 18) (d := 0) rfl)).trans hgy282
                  have hgy284 := (hfvy11 (i + 19) (ne_o (i := i) (c := 19) (d := 0) rfl)).trans ha19
                  have hgy285 := (hfvy41 (i + 19) (ne_o (i := i) (c := 19) (d := 0) rfl)).trans hgy284
                  have hgy286 := (hfvy79 (i + 19) (ne_o (i := i) (c := 19) (d := 0) rfl)).trans hgy285
                  have hgy287 := (hfvy125 (i + 19) (ne_o (i := i) (c := 19) (d := 0) rfl)).trans hgy286
                  have hgy288 := (hfvy181 (i + 19) (ne_o (i := i) (c := 19) (d := 0) rfl)).trans hgy287
                  have hgy289 := (hfvy190 (i + 19) (ne_o (i := i) (c := 19) (d := 0) rfl)).trans hgy288
                  have hgy290 := (hfvy194 (i + 19) (ne_o (i := i) (c := 19) (d := 0) rfl)).trans hgy289
                  have hgy291 := up_n egy205 hgy290 (ne_o (i := i) (c := 19) (d := 23) rfl)
                  have hgy292 := (hfvy213 (i + 19) (ne_o (i := i) (c := 19) (d := 0) rfl)).trans hgy291
                  have hgy293 := (hfvy215 (i + 19) (ne_o (i := i) (c := 19) (d := 0) rfl)).trans hgy292
                  have hgy294 := up_n egy219 hgy293 (ne_o (i := i) (c := 19) (d := 23) rfl)
                  have hgy295 := (hfvy226 (i + 19) (ne_o (i := i) (c := 19) (d := 0) rfl)).trans hgy294
                  have hgy296 := up_n egy229 hgy295 (ne_o (i := i) (c := 19) (d := 23) rfl)
                  have hgy297 := (hfvy235 (i + 19) (ne_o (i := i) (c := 19) (d := 0) rfl)).trans hgy296
                  have hgy298 := (hfvy11 (i + 20) (ne_o (i := i) (c := 20) (d := 0) rfl)).trans ha20
                  have hgy299 := (hfvy41 (i + 20) (ne_o (i := i) (c := 20) (d := 0) rfl)).trans hgy298
                  have hgy300 := (hfvy79 (i + 20) (ne_o (i := i) (c := 20) (d := 0) rfl)).trans hgy299
                  have hgy301 := (hfvy125 (i + 20) (ne_o (i := i) (c := 20) (d := 0) rfl)).trans hgy300
                  have hgy302 := (hfvy181 (i + 20) (ne_o (i := i) (c := 20) (d := 0) rfl)).trans hgy301
                  have hgy303 := (hfvy190 (i + 20) (ne_o (i := i) (c := 20) (d := 0) rfl)).trans hgy302
                  have hgy304 := (hfvy194 (i + 20) (ne_o (i := i) (c := 20) (d := 0) rfl)).trans hgy303
                  have hgy305 := up_n egy205 hgy304 (ne_o (i := i) (c := 20) (d := 23) rfl)
                  have hgy306 := (hfvy213 (i + 20) (ne_o (i := i) (c := 20) (d := 0) rfl)).trans hgy305
                  have hgy307 := (hfvy215 (i + 20) (ne_o (i := i) (c := 20) (d := 0) rfl)).trans hgy306
                  have hgy308 := up_n egy219 hgy307 (ne_o (i := i) (c := 20) (d := 23) rfl)
                  have hgy309 := (hfvy226 (i + 20) (ne_o (i := i) (c := 20) (d := 0) rfl)).trans hgy308
                  have hgy310 := up_n egy229 hgy309 (ne_o (i := i) (c := 20) (d := 23) rfl)
                  have hgy311 := (hfvy235 (i + 20) (ne_o (i := i) (c := 20) (d := 0) rfl)).trans hgy310
                  have hgy312 := (hfvy11 (i + 21) (ne_o (i := i) (c := 21) (d := 0) rfl)).trans ha21
                  have hgy313 := (hfvy41 (i + 21) (ne_o (i := i) (c := 21) (d := 0) rfl)).trans hgy312
                  have hgy314 := (hfvy79 (i + 21) (ne_o (i := i) (c := 21) (d := 0) rfl)).trans hgy313
                  have hgy315 := (hfvy125 (i + 21) (ne_o (i := i) (c := 21) (d := 0) rfl)).trans hgy314
                  have hgy316 := (hfvy181 (i + 21) (ne_o (i := i) (c := 21) (d := 0) rfl)).trans hgy315
                  have hgy317 := (hfvy190 (i + 21) (ne_o (i := i) (c := 21) (d := 0) rfl)).trans hgy316
                  have hgy318 := (hfvy194 (i + 21) (ne_o (i := i) (c := 21) (d := 0) rfl)).trans hgy317
                  have hgy319 := up_n egy205 hgy318 (ne_o (i := i) (c := 21) (d := 23) rfl)
                  have hgy320 := (hfvy213 (i + 21) (ne_o (i := i) (c := 21) (d := 0) rfl)).trans hgy319
                  have hgy321 := (hfvy215 (i + 21) (ne_o (i := i) (c := 21) (d := 0) rfl)).trans hgy320
                  have hgy322 := up_n egy219 hgy321 (ne_o (i := i) (c := 21) (d := 23) rfl)
                  have hgy323 := (hfvy226 (i + 21) (ne_o (i := i) (c := 21) (d := 0) rfl)).trans hgy322
                  have hgy324 := up_n egy229 hgy323 (ne_o (i := i) (c := 21) (d := 23) rfl)
                  have hgy325 := (hfvy235 (i + 21) (ne_o (i := i) (c := 21) (d := 0) rfl)).trans hgy324
                  have hgy326 := (hfvy11 (i + 22) (ne_o (i := i) (c := 22) (d := 0) rfl)).trans ha22
                  have hgy327 := (hfvy41 (i + 22) (ne_o (i := i) (c := 22) (d := 0) rfl)).trans hgy326
                  have hgy328 := (hfvy79 (i + 22) (ne_o (i := i) (c := 22) (d := 0) rfl)).trans hgy327
                  have hgy329 := (hfvy125 (i + 22) (ne_o (i := i) (c := 22) (d := 0) rfl)).trans hgy328
                  have hgy330 := (hfvy181 (i + 22) (ne_o (i := i) (c := 22) (d := 0) rfl)).trans hgy329
                  have hgy331 := (hfvy190 (i + 22) (ne_o (i := i) (c := 22) (d := 0) rfl)).trans hgy330
                  have hgy332 := (hfvy194 (i + 22) (ne_o (i := i) (c := 22) (d := 0) rfl)).trans hgy331
                  have hgy333 := up_n egy205 hgy332 (ne_o (i := i) (c := 22) (d := 23) rfl)
                  have hgy334 := (hfvy213 (i + 22) (ne_o (i := i) (c := 22) (d := 0) rfl)).trans hgy333
                  have hgy335 := (hfvy215 (i + 22) (ne_o (i := i) (c := 22) (d := 0) rfl)).trans hgy334
                  have hgy336 := up_n egy219 hgy335 (ne_o (i := i) (c := 22) (d := 23) rfl)
                  have hgy337 := (hfvy226 (i + 22) (ne_o (i := i) (c := 22) (d := 0) rfl)).trans hgy336
                  have hgy338 := up_n egy229 hgy337 (ne_o (i := i) (c := 22) (d := 23) rfl)
                  have hgy339 := (hfvy235 (i + 22) (ne_o (i := i) (c := 22) (d := 0) rfl)).trans hgy338
                  have hgy340 := (hfvy235 (i + 23) (ne_o (i := i) (c := 23) (d := 0) rfl)).trans hgy230
                  have htxy341 : okTx cs gvy235 i Fvy235 := ⟨_, _, _, _, _, _, _, _, ⟨hgy260, hgy274, hgy283, hgy297, hgy311, hgy325, hgy339, hgy340⟩, ⟨⟨by omega, by omega, by omega⟩, hop1, hmn1, hai1, hfa1, htb1, hlay245⟩⟩
                  exact z_vret C hr hlk dX10_layer1_272 (by decide) (by decide) ⟨rfl, rfl, rfl, ⟨_, hcvy235, hdvy235, by omega, by omega, hFy236, htxy341⟩, fun j j1 j2 => by rw [hfvy235 _ (by omega)]; rw [egy229, va_up_ne _ _ (by omega)]; rw [hfvy226 _ (by omega)]; rw [egy219, va_up_ne _ _ (by omega)]; rw [hfvy215 _ (by omega)]; rw [hfvy213 _ (by omega)]; rw [egy205, va_up_ne _ _ (by omega)]; rw [hfvy194 _ (by omega)]; rw [hfvy190 _ (by omega)]; rw [hfvy181 _ (by omega)]; rw [hfvy125 _ (by omega)]; rw [hfvy79 _ (by omega)]; rw [hfvy41 _ (by omega)]; rw [hfvy11 _ (by omega)]⟩
                · refine z_iconst (z := 1) C dX10_layer1_204 rfl ?_
                  refine z_goto (tgt := 209) C dX10_layer1_205 (by decide) ?_
                  refine z_iconst (z := 1) C dX10_layer1_209 rfl ?_
                  have h38vy342 : Fvy226 38 = 0 := hxvy226
                  refine z_cV (As := [.int (zI (1)), .int (zI (1))]) (rest := []) (ci := 12) C (c_X10_wants l D A cs tt N ad _ i hN _ hgy233 (by omega) (1) (by omega) (1) (by omega)) (by omega) hay1 hgy233 rfl rfl mv_yX10_wants q_1678 hd_yX10_wants (by decide) (Nat.le_of_ble_eq_true rfl) (by decide) dX10_layer1_210 rfl (kI0 fun vy342 gvy342 hvy342 => ?_)
                  obtain ⟨⟨Fvy342, hcvy342, hqvy342, hbvy342, hFvy342⟩, hfvy342⟩ := hvy342
                  have hdvy342 : RD Fvy342 := RD.w hdvy226 hFvy342 hbvy342
                  obtain rfl : vy342 = 1 := by omega
                  have e38vy342 : Fvy342 38 = 0 := by omega
                  clear hqvy342
                  refine z_if_eq (tgt := 272) C dX10_layer1_213 (by decide) (by omega) (fun h => absurd h (by omega)) (fun _ => ?_)
                  refine z_aload_n C 2 dX10_layer1_216 rfl ?_
                  refine z_aload_n C 2 dX10_layer1_217 rfl ?_
                  refine z_get (v := .int (zI (Fvy226 36))) C (by omega) hay1 hcvy342 rfl inA_X10 36 (by decide) q_1495 rfl (fv (F := Fvy342) (f := 36) (hFvy342 36 (by decide) (by decide))) dX10_layer1_218 ?_
                  refine z_iconst (z := 1) C dX10_layer1_221 rfl ?_
                  refine z_sipush (z := 999) C dX10_layer1_222 (by decide) ?_
                  refine z_cS (As := [.int (zI (Fvy226 36)), .int (zI (1)), .int (zI (999))]) (rest := [.ref (ad i)]) C (c_X10_within l D A cs tt N ad _ (Fvy226 36) (by omega) (1) (by omega) (999) (by omega)) ms_yX10_within q_1686 hd_yX10_within (by decide) (Nat.le_of_ble_eq_true rfl) (by decide) dX10_layer1_225 rfl (kI0 fun vy343 gvy343 hvy343 => ?_)
                  obtain ⟨hvy343, rfl⟩ := hvy343
                  rcases hvy343 with ⟨rfl, hxvy343⟩ | ⟨rfl, hxvy343⟩
                  · refine z_iconst (z := 2) C dX10_layer1_228 rfl ?_
                    have h38vy344 : Fvy342 38 = 0 := e38vy342
                    refine z_cV (As := [.int (zI (1)), .int (zI (2))]) (rest := []) (ci := 12) C (c_X10_wants l D A cs tt N ad _ i hN _ hcvy342 (by omega) (1) (by omega) (2) (by omega)) (by omega) hay1 hcvy342 rfl rfl mv_yX10_wants q_1678 hd_yX10_wants (by decide) (Nat.le_of_ble_eq_true rfl) (by decide) dX10_layer1_229 rfl (kI0 fun vy344 gvy344 hvy344 => ?_)
                    obtain ⟨⟨Fvy344, hcvy344, hqvy344, hbvy344, hFvy344⟩, hfvy344⟩ := hvy344
                    have hdvy344 : RD Fvy344 := RD.w hdvy342 hFvy344 hbvy344
                    obtain rfl : vy344 = 1 := by omega
                    have e38vy344 : Fvy344 38 = 0 := by omega
                    clear hqvy344
                    refine z_if_eq (tgt := 272) C dX10_layer1_232 (by decide) (by omega) (fun h => absurd h (by omega)) (fun _ => ?_)
                    refine z_aload_n C 2 dX10_layer1_235 rfl ?_
                    refine z_aload_n C 2 dX10_layer1_236 rfl ?_
                    refine z_get (v := .int (zI (Fvy226 36))) C (by omega) hay1 hcvy344 rfl inA_X10 36 (by decide) q_1495 rfl (fv (F := Fvy344) (f := 36) ((hFvy344 36 (by decide) (by decide)).trans (hFvy342 36 (by decide) (by decide)))) dX10_layer1_237 ?_
                    refine z_aload_n C 2 dX10_layer1_240 rfl ?_
                    refine z_get (v := .ref (ad (i + 23))) C (by omega) hay1 hcvy344 rfl inA_X10 46 (by decide) q_1505 rfl rfl dX10_layer1_241 ?_
                    refine z_iload_n C 0 dX10_layer1_244 rfl ?_
                    refine z_iconst (z := 1) C dX10_layer1_245 rfl ?_
                    refine z_iadd C dX10_layer1_246 ?_
                    have hgy345 := (hfvy342 (i + 23) (ne_o (i := i) (c := 23) (d := 0) rfl)).trans hgy230
                    have hgy346 := (hfvy344 (i + 23) (ne_o (i := i) (c := 23) (d := 0) rfl)).trans hgy345
                    refine z_iald C (by omega) hay10 hgy346 (kqy184 + 1) (by omega) (by omega) (by decide) dX10_layer1_247 ?_
                    rw [show ry231 (kqy184 + 1) = vy215 from (congrFun hvy232 _).trans ((uZ_n _ _ (by omega)).trans ((congrFun hvy222 _).trans (uZ_s _ _ _)))]
                    refine z_aload_n C 2 dX10_layer1_248 rfl ?_
                    refine z_get (v := .ref (ad (i + 23))) C (by omega) hay1 hcvy344 rfl inA_X10 46 (by decide) q_1505 rfl rfl dX10_layer1_249 ?_
                    refine z_iload_n C 0 dX10_layer1_252 rfl ?_
                    refine z_iconst (z := 2) C dX10_layer1_253 rfl ?_
                    refine z_iadd C dX10_layer1_254 ?_
                    refine z_iald C (by omega) hay10 hgy346 (kqy184 + 2) (by omega) (by omega) (by decide) dX10_layer1_255 ?_
                    rw [show ry231 (kqy184 + 2) = vy226 from (congrFun hvy232 _).trans (uZ_s _ _ _)]
                    refine z_iadd C dX10_layer1_256 ?_
                    refine z_icmp_lt (tgt := 264) C dX10_layer1_257 (by decide) (by omega) (by omega) (fun hby347 => ?_) (fun hby347 => ?_)
                    · refine z_iconst (z := 0) C dX10_layer1_264 rfl ?_
                      refine z_iconst (z := 5) C dX10_layer1_265 rfl ?_
                      have h38vy348 : Fvy344 38 = 0 := e38vy344
                      refine z_cV (As := [.int (zI (0)), .int (zI (5))]) (rest := []) (ci := 12) C (c_X10_wants l D A cs tt N ad _ i hN _ hcvy344 (by omega) (0) (by omega) (5) (by omega)) (by omega) hay1 hcvy344 rfl rfl mv_yX10_wants q_1678 hd_yX10_wants (by decide) (Nat.le_of_ble_eq_true rfl) (by decide) dX10_layer1_266 rfl (kI0 fun vy348 gvy348 hvy348 => ?_)
                      obtain ⟨⟨Fvy348, hcvy348, hqvy348, hbvy348, hFvy348⟩, hfvy348⟩ := hvy348
                      have hdvy348 : RD Fvy348 := RD.w hdvy344 hFvy348 hbvy348
                      obtain rfl : vy348 = 0 := by omega
                      have e38vy348 : 1 ≤ Fvy348 38 := by omega
                      clear hqvy348
                      refine z_if_ne (tgt := 273) C dX10_layer1_269 (by decide) (by omega) (fun h => absurd h (by omega)) (fun _ => ?_)
                      have hFy349 : ∀ f, f ≠ 24 → f ≠ 32 → f ≠ 33 → f ≠ 35 → f ≠ 36 → f ≠ 37 → f ≠ 38 → f ≠ 47 → f ≠ 48 → f ≠ 49 → Fvy348 f = F f := fun f n24 n32 n33 n35 n36 n37 n38 n47 n48 n49 => ((hFvy348 f n24 n38).trans ((hFvy344 f n24 n38).trans ((hFvy342 f n24 n38).trans ((hFvy226 f n24 n32 n33 n35 n36 n37 n38).trans ((hFvy215 f n24 n32 n33 n35 n36 n37 n38).trans ((hFvy213 f n32 n33 n35 n36 n37).trans ((hFvy194 f n24 n38).trans ((hFvy190 f n32 n33 n35 n36 n37).trans ((hFvy181 f n24 n38).trans ((hFvy125 f n24 n38).trans ((hFvy79 f n24 n38).trans ((hFvy41 f n24 n38).trans (hFvy11 f n32 n33 n35 n36 n37)))))))))))))
                      have hey350 : Fvy348 32 = Fvy226 32 := ((hFvy348 32 (by decide) (by decide)).trans ((hFvy344 32 (by decide) (by decide)).trans (hFvy342 32 (by decide) (by decide))))
                      have hey351 : Fvy348 35 = Fvy226 35 := ((hFvy348 35 (by decide) (by decide)).trans ((hFvy344 35 (by decide) (by decide)).trans (hFvy342 35 (by decide) (by decide))))
                      have hey352 : Fvy348 38 = Fvy348 38 := rfl
                      have hey353 : Fvy348 32 = Fvy226 32 := ((hFvy348 32 (by decide) (by decide)).trans ((hFvy344 32 (by decide) (by decide)).trans (hFvy342 32 (by decide) (by decide))))
                      have hey354 : Fvy348 47 = F 47 := ((hFvy348 47 (by decide) (by decide)).trans ((hFvy344 47 (by decide) (by decide)).trans ((hFvy342 47 (by decide) (by decide)).trans ((hFvy226 47 (by decide) (by decide) (by decide) (by decide) (by decide) (by decide) (by decide)).trans ((hFvy215 47 (by decide) (by decide) (by decide) (by decide) (by decide) (by decide) (by decide)).trans ((hFvy213 47 (by decide) (by decide) (by decide) (by decide) (by decide)).trans ((hFvy194 47 (by decide) (by decide)).trans ((hFvy190 47 (by decide) (by decide) (by decide) (by decide) (by decide)).trans ((hFvy181 47 (by decide) (by decide)).trans ((hFvy125 47 (by decide) (by decide)).trans ((hFvy79 47 (by decide) (by decide)).trans ((hFvy41 47 (by decide) (by decide)).trans (hFvy11 47 (by decide) (by decide) (by decide) (by decide) (by decide))))))))))))))
                      have hey355 : Fvy348 48 = F 48 := ((hFvy348 48 (by decide) (by decide)).trans ((hFvy344 48 (by decide) (by decide)).trans ((hFvy342 48 (by decide) (by decide)).trans ((hFvy226 48 (by decide) (by decide) (by decide) (by decide) (by decide) (by decide) (by decide)).trans ((hFvy215 48 (by decide) (by decide) (by decide) (by decide) (by decide) (by decide) (by decide)).trans ((hFvy213 48 (by decide) (by decide) (by decide) (by decide) (by decide)).trans ((hFvy194 48 (by decide) (by decide)).trans ((hFvy190 48 (by decide) (by decide) (by decide) (by decide) (by decide)).trans ((hFvy181 48 (by decide) (by decide)).trans ((hFvy125 48 (by decide) (by decide)).trans ((hFvy79 48 (by decide) (by decide)).trans ((hFvy41 48 (by decide) (by decide)).trans (hFvy11 48 (by decide) (by decide) (by decide) (by decide) (by decide))))))))))))))
                      have hey356 : Fvy348 49 = F 49 := ((hFvy348 49 (by decide) (by decide)).trans ((hFvy344 49 (by decide) (by decide)).trans ((hFvy342 49 (by decide) (by decide)).trans ((hFvy226 49 (by decide) (by decide) (by decide) (by decide) (by decide) (by decide) (by decide)).trans ((hFvy215 49 (by decide) (by decide) (by decide) (by decide) (by decide) (by decide) (by decide)).trans ((hFvy213 49 (by decide) (by decide) (by decide) (by decide) (by decide)).trans ((hFvy194 49 (by decide) (by decide)).trans ((hFvy190 49 (by decide) (by decide) (by decide) (by decide) (by decide)).trans ((hFvy181 49 (by decide) (by decide)).trans ((hFvy125 49 (by decide) (by decide)).trans ((hFvy79 49 (by decide) (by decide)).trans ((hFvy41 49 (by decide) (by decide)).trans (hFvy11 49 (by decide) (by decide) (by decide) (by decide) (by decide))))))))))))))
                      have hfry359 : ∀ j, j ≠ kqy184 + 2 → j ≠ kqy184 + 1 → j ≠ kqy184 → ry231 j = ly1 j := fun j n0 n1 n2 => (congrFun hvy232 _).trans ((uZ_n _ _ n0).trans ((congrFun hvy222 _).trans ((uZ_n _ _ n1).trans ((congrFun hvy208 _).trans ((uZ_n _ _ n2).trans (rfl))))))
                      have hlay358 : ∀ s l : Nat, (s : Int) < Fvy348 47 → (l : Int) < mn1 s → lyT ry231 (84 * s + 7 * l) := by
                        intro s l a1 a2
                        have hm9 := hmn1 s (by omega)
                        by_cases e : s = ny126
                        · subst e; exact (hly1 s l (by omega) a2).ext (fun j b1 b2 => hfry359 j (by omega) (by omega) (by omega))
                        · exact (hly1 s l (by omega) a2).ext (fun j b1 b2 => hfry359 j (by omega) (by omega) (by omega))
                      have hgy360 := (hfvy11 (i + 16) (ne_o (i := i) (c := 16) (d := 0) rfl)).trans ha16
                      have hgy361 := (hfvy41 (i + 16) (ne_o (i := i) (c := 16) (d := 0) rfl)).trans hgy360
                      have hgy362 := (hfvy79 (i + 16) (ne_o (i := i) (c := 16) (d := 0) rfl)).trans hgy361
                      have hgy363 := (hfvy125 (i + 16) (ne_o (i := i) (c := 16) (d := 0) rfl)).trans hgy362
                      have hgy364 := (hfvy181 (i + 16) (ne_o (i := i) (c := 16) (d := 0) rfl)).trans hgy363
                      have hgy365 := (hfvy190 (i + 16) (ne_o (i := i) (c := 16) (d := 0) rfl)).trans hgy364
                      have hgy366 := (hfvy194 (i + 16) (ne_o (i := i) (c := 16) (d := 0) rfl)).trans hgy365
                      have hgy367 := up_n egy205 hgy366 (ne_o (i := i) (c := 16) (d := 23) rfl)
                      have hgy368 := (hfvy213 (i + 16) (ne_o (i := i) (c := 16) (d := 0) rfl)).trans hgy367
                      have hgy369 := (hfvy215 (i + 16) (ne_o (i := i) (c := 16) (d := 0) rfl)).trans hgy368
                      have hgy370 := up_n egy219 hgy369 (ne_o (i := i) (c := 16) (d := 23) rfl)
                      have hgy371 := (hfvy226 (i + 16) (ne_o (i := i) (c := 16) (d := 0) rfl)).trans hgy370
                      have hgy372 := up_n egy229 hgy371 (ne_o (i := i) (c := 16) (d := 23) rfl)
                      have hgy373 := (hfvy342 (i + 16) (ne_o (i := i) (c := 16) (d := 0) rfl)).trans hgy372
                      have hgy374 := (hfvy344 (i + 16) (ne_o (i := i) (c := 16) (d := 0) rfl)).trans hgy373
                      have hgy375 := (hfvy348 (i + 16) (ne_o (i := i) (c := 16) (d := 0) rfl)).trans hgy374
                      have hgy376 := (hfvy11 (i + 17) (ne_o (i := i) (c := 17) (d := 0) rfl)).trans ha17
                      have hgy377 := (hfvy41 (i + 17) (ne_o (i := i) (c := 17) (d := 0) rfl)).trans hgy376
                      have hgy378 := (hfvy79 (i + 17) (ne_o (i := i) (c := 17) (d := 0) rfl)).trans hgy377
                      have hgy379 := (hfvy125 (i + 17) (ne_o (i := i) (c := 17) (d := 0) rfl)).trans hgy378
                      have hgy380 := (hfvy181 (i + 17) (ne_o (i := i) (c := 17) (d := 0) rfl)).trans hgy379
                      have hgy381 := (hfvy190 (i + 17) (ne_o (i := i) (c := 17) (d := 0) rfl)).trans hgy380
                      have hgy382 := (hfvy194 (i + 17) (ne_o (i := i) (c := 17) (d := 0) rfl)).trans hgy381
                      have hgy383 := up_n egy205 hgy382 (ne_o (i := i) (c := 17) (d := 23) rfl)
                      have hgy384 := (hfvy213 (i + 17) (ne_o (i := i) (c := 17) (d := 0) rfl)).trans hgy383
                      have hgy385 := (hfvy215 (i + 17) (ne_o (i := i) (c := 17) (d := 0) rfl)).trans hgy384
                      have hgy386 := up_n egy219 hgy385 (ne_o (i := i) (c := 17) (d := 23) rfl)
                      have hgy387 := (hfvy226 (i + 17) (ne_o (i := i) (c := 17) (d := 0) rfl)).trans hgy386
                      have hgy388 := up_n egy229 hgy387 (ne_o (i := i) (c := 17) (d := 23) rfl)
                      have hgy389 := (hfvy342 (i + 17) (ne_o (i := i) (c := 17) (d := 0) rfl)).trans hgy388
                      have hgy390 := (hfvy344 (i + 17) (ne_o (i := i) (c := 17) (d := 0) rfl)).trans hgy389
                      have hgy391 := (hfvy348 (i + 17) (ne_o (i := i) (c := 17) (d := 0) rfl)).trans hgy390
                      have hgy392 := (hfvy190 (i + 18) (ne_o (i := i) (c := 18) (d := 0) rfl)).trans hgy182
                      have hgy393 := (hfvy194 (i + 18) (ne_o (i := i) (c := 18) (d := 0) rfl)).trans hgy392
                      have hgy394 := up_n egy205 hgy393 (ne_o (i := i) (c := 18) (d := 23) rfl)
                      have hgy395 := (hfvy213 (i + 18) (ne_o (i := i) (c := 18) (d := 0) rfl)).trans hgy394
                      have hgy396 := (hfvy215 (i + 18) (ne_o (i := i) (c := 18) (d := 0) rfl)).trans hgy395
                      have hgy397 := up_n egy219 hgy396 (ne_o (i := i) (c := 18) (d := 23) rfl)
                      have hgy398 := (hfvy226 (i + 18) (ne_o (i := i) (c := 18) (d := 0) rfl)).trans hgy397
                      have hgy399 := up_n egy229 hgy398 (ne_o (i := i) (c := 18) (d := 23) rfl)
                      have hgy400 := (hfvy342 (i + 18) (ne_o (i := i) (c := 18) (d := 0) rfl)).trans hgy399
                      have hgy401 := (hfvy344 (i + 18) (ne_o (i := i) (c := 18) (d := 0) rfl)).trans hgy400
                      have hgy402 := (hfvy348 (i + 18) (ne_o (i := i) (c := 18) (d := 0) rfl)).trans hgy401
                      have hgy403 := (hfvy11 (i + 19) (ne_o (i := i) (c := 19) (d := 0) rfl)).trans ha19
                      have hgy404 := (hfvy41 (i + 19) (ne_o (i := i) (c := 19) (d := 0) rfl)).trans hgy403
                      have hgy405 := (hfvy79 (i + 19) (ne_o (i := i) (c := 19) (d := 0) rfl)).trans hgy404
                      have hgy406 := (hfvy125 (i + 19) (ne_o (i := i) (c := 19) (d := 0) rfl)).trans hgy405
                      have hgy407 := (hfvy181 (i + 19) (ne_o (i := i) (c := 19) (d := 0) rfl)).trans hgy406
                      have hgy408 := (hfvy190 (i + 19) (ne_o (i := i) (c := 19) (d := 0) rfl)).trans hgy407
                      have hgy409 := (hfvy194 (i + 19) (ne_o (i := i) (c := 19) (d := 0) rfl)).trans hgy408
                      have hgy410 := up_n egy205 hgy409 (ne_o (i := i) (c := 19) (d := 23) rfl)
                      have hgy411 := (hfvy213 (i + 19) (ne_o (i := i) (c := 19) (d := 0) rfl)).trans hgy410
                      have hgy412 := (hfvy215 (i + 19) (ne_o (i := i) (c := 19) (d := 0) rfl)).trans hgy411
                      have hgy413 := up_n egy219 hgy412 (ne_o (i := i) (c := 19) (d := 23) rfl)
                      have hgy414 := (hfvy226 (i + 19) (ne_o (i := i) (c := 19) (d := 0) rfl)).trans hgy413
                      have hgy415 := up_n egy229 hgy414 (ne_o (i := i) (c := 19) (d := 23) rfl)
                      have hgy416 := (hfvy342 (i + 19) (ne_o (i := i) (c := 19) (d := 0) rfl)).trans hgy415
                      have hgy417 := (hfvy344 (i + 19) (ne_o (i := i) (c := 19) (d := 0) rfl)).trans hgy416
                      have hgy418 := (hfvy348 (i + 19) (ne_o (i := i) (c := 19) (d := 0) rfl)).trans hgy417
                      have hgy419 := (hfvy11 (i + 20) (ne_o (i := i) (c := 20) (d := 0) rfl)).trans ha20
                      have hgy420 := (hfvy41 (i + 20) (ne_o (i := i) (c := 20) (d := 0) rfl)).trans hgy419
                      have hgy421 := (hfvy79 (i + 20) (ne_o (i := i) (c := 20) (d := 0) rfl)).trans hgy420
                      have hgy422 := (hfvy125 (i + 20) (ne_o (i := i) (c := 20) (d := 0) rfl)).trans hgy421
                      have hgy423 := (hfvy181 (i + 20) (ne_o (i := i) (c := 20) (d := 0) rfl)).trans hgy422
                      have hgy424 := (hfvy190 (i + 20) (ne_o (i := i) (c := 20) (d := 0) rfl)).trans hgy423
                      have hgy425 := (hfvy194 (i + 20) (ne_o (i := i) (c := 20) (d := 0) rfl)).trans hgy424
                      have hgy426 := up_n egy205 hgy425 (ne_o (i := i) (c := 20) (d := 23) rfl)
                      have hgy427 := (hfvy213 (i + 20) (ne_o (i := i) (c := 20) (d := 0) rfl)).trans hgy426
                      have hgy428 := (hfvy215 (i + 20) (ne_o (i := i) (c := 20) (d := 0) rfl)).trans hgy427
                      have hgy429 := up_n egy219 hgy428 (ne_o (i := i) (c := 20) (d := 23) rfl)
                      have hgy430 := (hfvy226 (i + 20) (ne_o (i := i) (c := 20) (d := 0) rfl)).trans hgy429
                      have hgy431 := up_n egy229 hgy430 (ne_o (i := i) (c := 20) (d := 23) rfl)
                      have hgy432 := (hfvy342 (i + 20) (ne_o (i := i) (c := 20) (d := 0) rfl)).trans hgy431
                      have hgy433 := (hfvy344 (i + 20) (ne_o (i := i) (c := 20) (d := 0) rfl)).trans hgy432
                      have hgy434 := (hfvy348 (i + 20) (ne_o (i := i) (c := 20) (d := 0) rfl)).trans hgy433
                      have hgy435 := (hfvy11 (i + 21) (ne_o (i := i) (c := 21) (d := 0) rfl)).trans ha21
                      have hgy436 := (hfvy41 (i + 21) (ne_o (i := i) (c := 21) (d := 0) rfl)).trans hgy435
                      have hgy437 := (hfvy79 (i + 21) (ne_o (i := i) (c := 21) (d := 0) rfl)).trans hgy436
                      have hgy438 := (hfvy125 (i + 21) (ne_o (i := i) (c := 21) (d := 0) rfl)).trans hgy437
                      have hgy439 := (hfvy181 (i + 21) (ne_o (i := i) (c := 21) (d := 0) rfl)).trans hgy438
                      have hgy440 := (hfvy190 (i + 21) (ne_o (i := i) (c := 21) (d := 0) rfl)).trans hgy439
                      have hgy441 := (hfvy194 (i + 21) (ne_o (i := i) (c := 21) (d := 0) rfl)).trans hgy440
                      have hgy442 := up_n egy205 hgy441 (ne_o (i := i) (c := 21) (d := 23) rfl)
                      have hgy443 := (hfvy213 (i + 21) (ne_o (i := i) (c := 21) (d := 0) rfl)).trans hgy442
                      have hgy444 := (hfvy215 (i + 21) (ne_o (i := i) (c := 21) (d := 0) rfl)).trans hgy443
                      have hgy445 := up_n egy219 hgy444 (ne_o (i := i) (c := 21) (d := 23) rfl)
                      have hgy446 := (hfvy226 (i + 21) (ne_o (i := i) (c := 21) (d := 0) rfl)).trans hgy445
                      have hgy447 := up_n egy229 hgy446 (ne_o (i := i) (c := 21) (d := 23) rfl)
                      have hgy448 := (hfvy342 (i + 21) (ne_o (i := i) (c := 21) (d := 0) rfl)).trans hgy447
                      have hgy449 := (hfvy344 (i + 21) (ne_o (i := i) (c := 21) (d := 0) rfl)).trans hgy448
                      have hgy450 := (hfvy348 (i + 21) (ne_o (i := i) (c := 21) (d := 0) rfl)).trans hgy449
                      have hgy451 := (hfvy11 (i + 22) (ne_o (i := i) (c := 22) (d := 0) rfl)).trans ha22
                      have hgy452 := (hfvy41 (i + 22) (ne_o (i := i) (c := 22) (d := 0) rfl)).trans hgy451
                      have hgy453 := (hfvy79 (i + 22) (ne_o (i := i) (c := 22) (d := 0) rfl)).trans hgy452
                      have hgy454 := (hfvy125 (i + 22) (ne_o (i := i) (c := 22) (d := 0) rfl)).trans hgy453
                      have hgy455 := (hfvy181 (i + 22) (ne_o (i := i) (c := 22) (d := 0) rfl)).trans hgy454
                      have hgy456 := (hfvy190 (i + 22) (ne_o (i := i) (c := 22) (d := 0) rfl)).trans hgy455
                      have hgy457 := (hfvy194 (i + 22) (ne_o (i := i) (c := 22) (d := 0) rfl)).trans hgy456
                      have hgy458 := up_n egy205 hgy457 (ne_o (i := i) (c := 22) (d := 23) rfl)
                      have hgy459 := (hfvy213 (i + 22) (ne_o (i := i) (c := 22) (d := 0) rfl)).trans hgy458
                      have hgy460 := (hfvy215 (i + 22) (ne_o (i := i) (c := 22) (d := 0) rfl)).trans hgy459
                      have hgy461 := up_n egy219 hgy460 (ne_o (i := i) (c := 22) (d := 23) rfl)
                      have hgy462 := (hfvy226 (i + 22) (ne_o (i := i) (c := 22) (d := 0) rfl)).trans hgy461
                      have hgy463 := up_n egy229 hgy462 (ne_o (i := i) (c := 22) (d := 23) rfl)
                      have hgy464 := (hfvy342 (i + 22) (ne_o (i := i) (c := 22) (d := 0) rfl)).trans hgy463
                      have hgy465 := (hfvy344 (i + 22) (ne_o (i := i) (c := 22) (d := 0) rfl)).trans hgy464
                      have hgy466 := (hfvy348 (i + 22) (ne_o (i := i) (c := 22) (d := 0) rfl)).trans hgy465
                      have hgy467 := (hfvy348 (i + 23) (ne_o (i := i) (c := 23) (d := 0) rfl)).trans hgy346
                      have htxy468 : okTx cs gvy348 i Fvy348 := ⟨_, _, _, _, _, _, _, _, ⟨hgy375, hgy391, hgy402, hgy418, hgy434, hgy450, hgy466, hgy467⟩, ⟨⟨by omega, by omega, by omega⟩, hop1, hmn1, hai1, hfa1, htb1, hlay358⟩⟩
                      exact z_vret C hr hlk dX10_layer1_272 (by decide) (by decide) ⟨rfl, rfl, rfl, ⟨_, hcvy348, hdvy348, by omega, by omega, hFy349, htxy468⟩, fun j j1 j2 => by rw [hfvy348 _ (by omega)]; rw [hfvy344 _ (by omega)]; rw [hfvy342 _ (by omega)]; rw [egy229, va_up_ne _ _ (by omega)]; rw [hfvy226 _ (by omega)]; rw [egy219, va_up_ne _ _ (by omega)]; rw [hfvy215 _ (by omega)]; rw [hfvy213 _ (by omega)]; rw [egy205, va_up_ne _ _ (by omega)]; rw [hfvy194 _ (by omega)]; rw [hfvy190 _ (by omega)]; rw [hfvy181 _ (by omega)]; rw [hfvy125 _ (by omega)]; rw [hfvy79 _ (by omega)]; rw [hfvy41 _ (by omega)]; rw [hfvy11 _ (by omega)]⟩
                    · refine z_iconst (z := 1) C dX10_layer1_260 rfl ?_
                      refine z_goto (tgt := 265) C dX10_layer1_261 (by decide) ?_
                      refine z_iconst (z := 5) C dX10_layer1_265 rfl ?_
                      have h38vy469 : Fvy344 38 = 0 := e38vy344
                      refine z_cV (As := [.int (zI (1)), .int (zI (5))]) (rest := []) (ci := 12) C (c_X10_wants l D A cs tt N ad _ i hN _ hcvy344 (by omega) (1) (by omega) (5) (by omega)) (by omega) hay1 hcvy344 rfl rfl mv_yX10_wants q_1678 hd_yX10_wants (by decide) (Nat.le_of_ble_eq_true rfl) (by decide) dX10_layer1_266 rfl (kI0 fun vy469 gvy469 hvy469 => ?_)
                      obtain ⟨⟨Fvy469, hcvy469, hqvy469, hbvy469, hFvy469⟩, hfvy469⟩ := hvy469
                      have hdvy469 : RD Fvy469 := RD.w hdvy344 hFvy469 hbvy469
                      obtain rfl : vy469 = 1 := by omega
                      have e38vy469 : Fvy469 38 = 0 := by omega
                      clear hqvy469
                      refine z_if_ne (tgt := 273) C dX10_layer1_269 (by decide) (by omega) (fun _ => ?_) (fun h => absurd h (by omega))
                      refine z_aload_n C 2 dX10_layer1_273 rfl ?_
                      refine z_get (v := .ref (ad (i + 23))) C (by omega) hay1 hcvy469 rfl inA_X10 46 (by decide) q_1505 rfl rfl dX10_layer1_274 ?_
                      refine z_iload_n C 0 dX10_layer1_277 rfl ?_
                      refine z_iconst (z := 3) C dX10_layer1_278 rfl ?_
                      refine z_iadd C dX10_layer1_279 ?_
                      refine z_aload_n C 2 dX10_layer1_280 rfl ?_
                      refine z_get (v := .int (zI (Fvy226 36))) C (by omega) hay1 hcvy469 rfl inA_X10 36 (by decide) q_1495 rfl (fv (F := Fvy469) (f := 36) ((hFvy469 36 (by decide) (by decide)).trans ((hFvy344 36 (by decide) (by decide)).trans (hFvy342 36 (by decide) (by decide))))) dX10_layer1_281 ?_
                      have hgy470 := (hfvy469 (i + 23) (ne_o (i := i) (c := 23) (d := 0) rfl)).trans hgy346
                      refine z_iast C (by omega) hay10 hgy470 (kqy184 + 3) (by omega) (by omega) (by decide) dX10_layer1_284 (fun gy471 egy472 => ?_)
                      have hgy473 := up_s egy472
                      obtain ⟨ry474, hvy475⟩ : ∃ rZ9 : Nat → Int, rZ9 = uZ ry231 (kqy184 + 3) (Fvy226 36) := ⟨_, rfl⟩
                      rw [← hvy475] at hgy473
                      refine z_aload_n C 2 dX10_layer1_285 rfl ?_
                      have hgy476 := up_n egy472 hcvy469 (ne_o (i := i) (c := 0) (d := 23) rfl)
                      have hgy477 := (hfvy226 (i + 13) (ne_o (i := i) (c := 13) (d := 0) rfl)).trans hgy225
                      have hgy478 := up_n egy229 hgy477 (ne_o (i := i) (c := 13) (d := 23) rfl)
                      have hgy479 := (hfvy342 (i + 13) (ne_o (i := i) (c := 13) (d := 0) rfl)).trans hgy478
                      have hgy480 := (hfvy344 (i + 13) (ne_o (i := i) (c := 13) (d := 0) rfl)).trans hgy479
                      have hgy481 := (hfvy469 (i + 13) (ne_o (i := i) (c := 13) (d := 0) rfl)).trans hgy480
                      have hgy482 := up_n egy472 hgy481 (ne_o (i := i) (c := 13) (d := 23) rfl)
                      refine z_cV (As := []) (rest := []) (ci := 12) C (c_X10_go l D A cs tt N ad _ i hN _ hgy476 _ hgy482 htp hdvy469) (by omega) hay1 hgy476 rfl rfl mv_yX10_go q_1652 hd_yX10_go (by decide) (Nat.le_of_ble_eq_true rfl) (by decide) dX10_layer1_286 rfl (kV0 fun gvy483 hvy483 => ?_)
                      obtain ⟨⟨Fvy483, hcvy483, hdvy483, hlvy483, hsvy483, hFvy483⟩, hfvy483⟩ := hvy483
                      rw [show Fvy469 32 = Fvy226 32 from ((hFvy469 32 (by decide) (by decide)).trans ((hFvy344 32 (by decide) (by decide)).trans (hFvy342 32 (by decide) (by decide))))] at hlvy483 hsvy483
                      have h34vy483 : Fvy483 34 = F 34 := (hFvy483 34 (by decide) (by decide) (by decide) (by decide) (by decide)).trans (((hFvy469 34 (by decide) (by decide)).trans ((hFvy344 34 (by decide) (by decide)).trans ((hFvy342 34 (by decide) (by decide)).trans ((hFvy226 34 (by decide) (by decide) (by decide) (by decide) (by decide) (by decide) (by decide)).trans ((hFvy215 34 (by decide) (by decide) (by decide) (by decide) (by decide) (by decide) (by decide)).trans ((hFvy213 34 (by decide) (by decide) (by decide) (by decide) (by decide)).trans ((hFvy194 34 (by decide) (by decide)).trans ((hFvy190 34 (by decide) (by decide) (by decide) (by decide) (by decide)).trans ((hFvy181 34 (by decide) (by decide)).trans ((hFvy125 34 (by decide) (by decide)).trans ((hFvy79 34 (by decide) (by decide)).trans ((hFvy41 34 (by decide) (by decide)).trans (hFvy11 34 (by decide) (by decide) (by decide) (by decide) (by decide)))))))))))))))
                      obtain ⟨d32vy483, -, d35vy483, d36vy483, -, d37vy483, d38vy483⟩ := id hdvy483
                      have h38vy483 : Fvy483 38 = 0 := ((hFvy483 38 (by decide) (by decide) (by decide) (by decide) (by decide)).trans e38vy469)
                      clear hsvy483
                      refine z_aload_n C 2 dX10_layer1_289 rfl ?_
                      refine z_get (v := .ref (ad (i + 23))) C (by omega) hay1 hcvy483 rfl inA_X10 46 (by decide) q_1505 rfl rfl dX10_layer1_290 ?_
                      refine z_iload_n C 0 dX10_layer1_293 rfl ?_
                      refine z_iconst (z := 4) C dX10_layer1_294 rfl ?_
                      refine z_iadd C dX10_layer1_295 ?_
                      refine z_aload_n C 2 dX10_layer1_296 rfl ?_
                      refine z_iconst (z := 0) C dX10_layer1_297 rfl ?_
                      refine z_sipush (z := 300) C dX10_layer1_298 (by decide) ?_
                      have hgy484 := (hfvy483 (i + 13) (ne_o (i := i) (c := 13) (d := 0) rfl)).trans hgy482
                      refine z_cV (As := [.int (zI (0)), .int (zI (300))]) (rest := [.int (zI (((kqy184 : Int)) + 4)), .ref (ad (i + 23))]) (ci := 12) C (c_X10_number l D A cs tt N ad _ i hN _ hcvy483 _ hgy484 htp hdvy483 (0) (by omega) (300) (by omega)) (by omega) hay1 hcvy483 rfl rfl mv_yX10_number q_1682 hd_yX10_number (by decide) (Nat.le_of_ble_eq_true rfl) (by decide) dX10_layer1_301 rfl (kI0 fun vy485 gvy485 hvy485 => ?_)
                      obtain ⟨hrvy485, ⟨Fvy485, hcvy485, hdvy485, hlvy485, hsvy485, hFvy485⟩, hfvy485⟩ := hvy485
                      rw [show Fvy483 32 = Fvy483 32 from rfl] at hlvy485
                      rw [show Fvy483 38 = 0 from ((hFvy483 38 (by decide) (by decide) (by decide) (by decide) (by decide)).trans e38vy469), show Fvy483 35 = Fvy483 35 from rfl] at hsvy485
                      have h34vy485 : Fvy485 34 = F 34 := (hFvy485 34 (by decide) (by decide) (by decide) (by decide) (by decide) (by decide) (by decide)).trans (((hFvy483 34 (by decide) (by decide) (by decide) (by decide) (by decide)).trans ((hFvy469 34 (by decide) (by decide)).trans ((hFvy344 34 (by decide) (by decide)).trans ((hFvy342 34 (by decide) (by decide)).trans ((hFvy226 34 (by decide) (by decide) (by decide) (by decide) (by decide) (by decide) (by decide)).trans ((hFvy215 34 (by decide) (by decide) (by decide) (by decide) (by decide) (by decide) (by decide)).trans ((hFvy213 34 (by decide) (by decide) (by decide) (by decide) (by decide)).trans ((hFvy194 34 (by decide) (by decide)).trans ((hFvy190 34 (by decide) (by decide) (by decide) (by decide) (by decide)).trans ((hFvy181 34 (by decide) (by decide)).trans ((hFvy125 34 (by decide) (by decide)).trans ((hFvy79 34 (by decide) (by decide)).trans ((hFvy41 34 (by decide) (by decide)).trans (hFvy11 34 (by decide) (by decide) (by decide) (by decide) (by decide))))))))))))))))
                      obtain ⟨d32vy485, -, d35vy485, d36vy485, -, d37vy485, d38vy485⟩ := id hdvy485
                      rcases (show Fvy485 38 = 0 ∨ Fvy485 38 ≠ 0 by omega) with hxvy485 | hxvy485
                      · have hqvy485 := hsvy485 hxvy485
                        clear hsvy485
                        refine z_ineg C dX10_layer1_304 ?_
                        have hgy486 := (hfvy483 (i + 23) (ne_o (i := i) (c := 23) (d := 0) rfl)).trans hgy473
                        have hgy487 := (hfvy485 (i + 23) (ne_o (i := i) (c := 23) (d := 0) rfl)).trans hgy486
                        refine z_iast C (by omega) hay10 hgy487 (kqy184 + 4) (by omega) (by omega) (by decide) dX10_layer1_305 (fun gy488 egy489 => ?_)
                        have hgy490 := up_s egy489
                        obtain ⟨ry491, hvy492⟩ : ∃ rZ9 : Nat → Int, rZ9 = uZ ry474 (kqy184 + 4) (-(vy485)) := ⟨_, rfl⟩
                        rw [← hvy492] at hgy490
                        refine z_aload_n C 2 dX10_layer1_306 rfl ?_
                        have hgy493 := up_n egy489 hcvy485 (ne_o (i := i) (c := 0) (d := 23) rfl)
                        refine z_get (v := .ref (ad (i + 23))) C (by omega) hay1 hgy493 rfl inA_X10 46 (by decide) q_1505 rfl rfl dX10_layer1_307 ?_
                        refine z_iload_n C 0 dX10_layer1_310 rfl ?_
                        refine z_iconst (z := 5) C dX10_layer1_311 rfl ?_
                        refine z_iadd C dX10_layer1_312 ?_
                        refine z_iconst (z := 0) C dX10_layer1_313 rfl ?_
                        refine z_iast C (by omega) hay10 hgy490 (kqy184 + 5) (by omega) (by omega) (by decide) dX10_layer1_314 (fun gy494 egy495 => ?_)
                        have hgy496 := up_s egy495
                        obtain ⟨ry497, hvy498⟩ : ∃ rZ9 : Nat → Int, rZ9 = uZ ry491 (kqy184 + 5) (0) := ⟨_, rfl⟩
                        rw [← hvy498] at hgy496
                        refine z_aload_n C 2 dX10_layer1_315 rfl ?_
                        have hgy499 := up_n egy495 hgy493 (ne_o (i := i) (c := 0) (d := 23) rfl)
                        refine z_get (v := .ref (ad (i + 23))) C (by omega) hay1 hgy499 rfl inA_X10 46 (by decide) q_1505 rfl rfl dX10_layer1_316 ?_
                        refine z_iload_n C 0 dX10_layer1_319 rfl ?_
                        refine z_bipush (z := 6) C dX10_layer1_320 (by decide) ?_
                        refine z_iadd C dX10_layer1_322 ?_
                        refine z_aload_n C 2 dX10_layer1_323 rfl ?_
                        refine z_get (v := .int (zI (F 49))) C (by omega) hay1 hgy499 rfl inA_X10 49 (by decide) q_1508 rfl (fv (F := Fvy485) (f := 49) ((hFvy485 49 (by decide) (by decide) (by decide) (by decide) (by decide) (by decide) (by decide)).trans ((hFvy483 49 (by decide) (by decide) (by decide) (by decide) (by decide)).trans ((hFvy469 49 (by decide) (by decide)).trans ((hFvy344 49 (by decide) (by decide)).trans ((hFvy342 49 (by decide) (by decide)).trans ((hFvy226 49 (by decide) (by decide) (by decide) (by decide) (by decide) (by decide) (by decide)).trans ((hFvy215 49 (by decide) (by decide) (by decide) (by decide) (by decide) (by decide) (by decide)).trans ((hFvy213 49 (by decide) (by decide) (by decide) (by decide) (by decide)).trans ((hFvy194 49 (by decide) (by decide)).trans ((hFvy190 49 (by decide) (by decide) (by decide) (by decide) (by decide)).trans ((hFvy181 49 (by decide) (by decide)).trans ((hFvy125 49 (by decide) (by decide)).trans ((hFvy79 49 (by decide) (by decide)).trans ((hFvy41 49 (by decide) (by decide)).trans (hFvy11 49 (by decide) (by decide) (by decide) (by decide) (by decide))))))))))))))))) dX10_layer1_324 ?_
                        refine z_iast C (by omega) hay10 hgy496 (kqy184 + 6) (by omega) (by omega) (by decide) dX10_layer1_327 (fun gy500 egy501 => ?_)
                        have hgy502 := up_s egy501
                        obtain ⟨ry503, hvy504⟩ : ∃ rZ9 : Nat → Int, rZ9 = uZ ry497 (kqy184 + 6) (F 49) := ⟨_, rfl⟩
                        rw [← hvy504] at hgy502
                        refine z_aload_n C 2 dX10_layer1_328 rfl ?_
                        have hgy505 := up_n egy501 hgy499 (ne_o (i := i) (c := 0) (d := 23) rfl)
                        refine z_get (v := .ref (ad (i + 18))) C (by omega) hay1 hgy505 rfl inA_X10 41 (by decide) q_1500 rfl rfl dX10_layer1_329 ?_
                        refine z_iload_n C 1 dX10_layer1_332 rfl ?_
                        refine z_dup2 C dX10_layer1_333 rfl rfl ?_
                        have hgy506 := (hfvy190 (i + 18) (ne_o (i := i) (c := 18) (d := 0) rfl)).trans hgy182
                        have hgy507 := (hfvy194 (i + 18) (ne_o (i := i) (c := 18) (d := 0) rfl)).trans hgy506
                        have hgy508 := up_n egy205 hgy507 (ne_o (i := i) (c := 18) (d := 23) rfl)
                        have hgy509 := (hfvy213 (i + 18) (ne_o (i := i) (c := 18) (d := 0) rfl)).trans hgy508
                        have hgy510 := (hfvy215 (i + 18) (ne_o (i := i) (c := 18) (d := 0) rfl)).trans hgy509
                        have hgy511 := up_n egy219 hgy510 (ne_o (i := i) (c := 18) (d := 23) rfl)
                        have hgy512 := (hfvy226 (i + 18) (ne_o (i := i) (c := 18) (d := 0) rfl)).trans hgy511
                        have hgy513 := up_n egy229 hgy512 (ne_o (i := i) (c := 18) (d := 23) rfl)
                        have hgy514 := (hfvy342 (i + 18) (ne_o (i := i) (c := 18) (d := 0) rfl)).trans hgy513
                        have hgy515 := (hfvy344 (i + 18) (ne_o (i := i) (c := 18) (d := 0) rfl)).trans hgy514
                        have hgy516 := (hfvy469 (i + 18) (ne_o (i := i) (c := 18) (d := 0) rfl)).trans hgy515
                        have hgy517 := up_n egy472 hgy516 (ne_o (i := i) (c := 18) (d := 23) rfl)
                        have hgy518 := (hfvy483 (i + 18) (ne_o (i := i) (c := 18) (d := 0) rfl)).trans hgy517
                        have hgy519 := (hfvy485 (i + 18) (ne_o (i := i) (c := 18) (d := 0) rfl)).trans hgy518
                        have hgy520 := up_n egy489 hgy519 (ne_o (i := i) (c := 18) (d := 23) rfl)
                        have hgy521 := up_n egy495 hgy520 (ne_o (i := i) (c := 18) (d := 23) rfl)
                        have hgy522 := up_n egy501 hgy521 (ne_o (i := i) (c := 18) (d := 23) rfl)
                        refine z_iald C (by omega) hay5 hgy522 (ny126) (by omega) (by omega) (by decide) dX10_layer1_334 ?_
                        have hrfy523 := hmn1 (ny126) (by omega)
                        refine z_iconst (z := 1) C dX10_layer1_335 rfl ?_
                        refine z_iadd C dX10_layer1_336 ?_
                        refine z_iast C (by omega) hay5 hgy522 (ny126) (by omega) (by omega) (by decide) dX10_layer1_337 (fun gy524 egy525 => ?_)
                        have hgy526 := up_s egy525
                        obtain ⟨ry527, hvy528⟩ : ∃ rZ9 : Nat → Int, rZ9 = uZ mn1 (ny126) ((mn1 (ny126)) + 1) := ⟨_, rfl⟩
                        rw [← hvy528] at hgy526
                        refine z_aload_n C 2 dX10_layer1_338 rfl ?_
                        refine z_dup C dX10_layer1_339 rfl ?_
                        have hgy529 := up_n egy525 hgy505 (ne_o (i := i) (c := 0) (d := 18) rfl)
                        refine z_get (v := .int (zI (F 49))) C (by omega) hay1 hgy529 rfl inA_X10 49 (by decide) q_1508 rfl (fv (F := Fvy485) (f := 49) ((hFvy485 49 (by decide) (by decide) (by decide) (by decide) (by decide) (by decide) (by decide)).trans ((hFvy483 49 (by decide) (by decide) (by decide) (by decide) (by decide)).trans ((hFvy469 49 (by decide) (by decide)).trans ((hFvy344 49 (by decide) (by decide)).trans ((hFvy342 49 (by decide) (by decide)).trans ((hFvy226 49 (by decide) (by decide) (by decide) (by decide) (by decide) (by decide) (by decide)).trans ((hFvy215 49 (by decide) (by decide) (by decide) (by decide) (by decide) (by decide) (by decide)).trans ((hFvy213 49 (by decide) (by decide) (by decide) (by decide) (by decide)).trans ((hFvy194 49 (by decide) (by decide)).trans ((hFvy190 49 (by decide) (by decide) (by decide) (by decide) (by decide)).trans ((hFvy181 49 (by decide) (by decide)).trans ((hFvy125 49 (by decide) (by decide)).trans ((hFvy79 49 (by decide) (by decide)).trans ((hFvy41 49 (by decide) (by decide)).trans (hFvy11 49 (by decide) (by decide) (by decide) (by decide) (by decide))))))))))))))))) dX10_layer1_340 ?_
                        refine z_iconst (z := 1) C dX10_layer1_343 rfl ?_
                        refine z_iadd C dX10_layer1_344 ?_
                        refine z_put (fs' := mF ad (i) (uZ Fvy485 49 ((F 49) + 1))) C (by omega) hay1 hgy529 tyX10 tyX10_ok nmX10 rfl inA_X10 49 (by decide) q_1508 rfl rfl rfl rfl (Nat.le_of_ble_eq_true rfl) rfl dX10_layer1_345 (fun gy530 egy531 => ?_)
                        have hgy532 := up_s egy531
                        have hFy533 : ∀ f, f ≠ 24 → f ≠ 32 → f ≠ 33 → f ≠ 35 → f ≠ 36 → f ≠ 37 → f ≠ 38 → f ≠ 47 → f ≠ 48 → f ≠ 49 → (uZ Fvy485 49 ((F 49) + 1)) f = F f := fun f n24 n32 n33 n35 n36 n37 n38 n47 n48 n49 => ((uZ_n _ _ n49).trans ((hFvy485 f n24 n32 n33 n35 n36 n37 n38).trans ((hFvy483 f n32 n33 n35 n36 n37).trans ((hFvy469 f n24 n38).trans ((hFvy344 f n24 n38).trans ((hFvy342 f n24 n38).trans ((hFvy226 f n24 n32 n33 n35 n36 n37 n38).trans ((hFvy215 f n24 n32 n33 n35 n36 n37 n38).trans ((hFvy213 f n32 n33 n35 n36 n37).trans ((hFvy194 f n24 n38).trans ((hFvy190 f n32 n33 n35 n36 n37).trans ((hFvy181 f n24 n38).trans ((hFvy125 f n24 n38).trans ((hFvy79 f n24 n38).trans ((hFvy41 f n24 n38).trans (hFvy11 f n32 n33 n35 n36 n37))))))))))))))))
                        have hey534 : (uZ Fvy485 49 ((F 49) + 1)) 32 = Fvy485 32 := (fn rfl (by decide))
                        have hey535 : (uZ Fvy485 49 ((F 49) + 1)) 35 = Fvy485 35 := (fn rfl (by decide))
                        have hey536 : (uZ Fvy485 49 ((F 49) + 1)) 38 = 0 := (fn hxvy485 (by decide))
                        have hey537 : (uZ Fvy485 49 ((F 49) + 1)) 32 = Fvy485 32 := (fn rfl (by decide))
                        have hey538 : (uZ Fvy485 49 ((F 49) + 1)) 47 = F 47 := (fn ((hFvy485 47 (by decide) (by decide) (by decide) (by decide) (by decide) (by decide) (by decide)).trans ((hFvy483 47 (by decide) (by decide) (by decide) (by decide) (by decide)).trans ((hFvy469 47 (by decide) (by decide)).trans ((hFvy344 47 (by decide) (by decide)).trans ((hFvy342 47 (by decide) (by decide)).trans ((hFvy226 47 (by decide) (by decide) (by decide) (by decide) (by decide) (by decide) (by decide)).trans ((hFvy215 47 (by decide) (by decide) (by decide) (by decide) (by decide) (by decide) (by decide)).trans ((hFvy213 47 (by decide) (by decide) (by decide) (by decide) (by decide)).trans ((hFvy194 47 (by decide) (by decide)).trans ((hFvy190 47 (by decide) (by decide) (by decide) (by decide) (by decide)).trans ((hFvy181 47 (by decide) (by decide)).trans ((hFvy125 47 (by decide) (by decide)).trans ((hFvy79 47 (by decide) (by decide)).trans ((hFvy41 47 (by decide) (by decide)).trans (hFvy11 47 (by decide) (by decide) (by decide) (by decide) (by decide)))))))))))))))) (by decide))
                        have hey539 : (uZ Fvy485 49 ((F 49) + 1)) 48 = F 48 := (fn ((hFvy485 48 (by decide) (by decide) (by decide) (by decide) (by decide) (by decide) (by decide)).trans ((hFvy483 48 (by decide) (by decide) (by decide) (by decide) (by decide)).trans ((hFvy469 48 (by decide) (by decide)).trans ((hFvy344 48 (by decide) (by decide)).trans ((hFvy342 48 (by decide) (by decide)).trans ((hFvy226 48 (by decide) (by decide) (by decide) (by decide) (by decide) (by decide) (by decide)).trans ((hFvy215 48 (by decide) (by decide) (by decide) (by decide) (by decide) (by decide) (by decide)).trans ((hFvy213 48 (by decide) (by decide) (by decide) (by decide) (by decide)).trans ((hFvy194 48 (by decide) (by decide)).trans ((hFvy190 48 (by decide) (by decide) (by decide) (by decide) (by decide)).trans ((hFvy181 48 (by decide) (by decide)).trans ((hFvy125 48 (by decide) (by decide)).trans ((hFvy79 48 (by decide) (by decide)).trans ((hFvy41 48 (by decide) (by decide)).trans (hFvy11 48 (by decide) (by decide) (by decide) (by decide) (by decide)))))))))))))))) (by decide))
                        have hey540 : (uZ Fvy485 49 ((F 49) + 1)) 49 = (F 49) + 1 := (uZ_s _ _ _)
                        have hfry542 : ∀ j, j ≠ ny126 → ry527 j = mn1 j := fun j n0 => (congrFun hvy528 _).trans ((uZ_n _ _ n0).trans (rfl))
                        have hwy543 : ry527 (ny126) = (mn1 (ny126)) + 1 := (congrFun hvy528 _).trans (uZ_s _ _ _)
                        have haky541 : ∀ k, k < 4 → 0 ≤ ry527 k ∧ ry527 k ≤ 12 := by
                          intro k hk
                          by_cases e : k = ny126
                          · rw [e]; have hk0 := hmn1 (ny126) (by omega); omega
                          · have hk0 := hmn1 k hk; rw [hfry542 k e]; exact hk0
                        have hfry546 : ∀ j, j ≠ ny126 → ry527 j = mn1 j := fun j n0 => (congrFun hvy528 _).trans ((uZ_n _ _ n0).trans (rfl))
                        have hfry547 : ∀ j, j ≠ kqy184 + 6 → j ≠ kqy184 + 5 → j ≠ kqy184 + 4 → j ≠ kqy184 + 3 → j ≠ kqy184 + 2 → j ≠ kqy184 + 1 → j ≠ kqy184 → ry503 j = ly1 j := fun j n0 n1 n2 n3 n4 n5 n6 => (congrFun hvy504 _).trans ((uZ_n _ _ n0).trans ((congrFun hvy498 _).trans ((uZ_n _ _ n1).trans ((congrFun hvy492 _).trans ((uZ_n _ _ n2).trans ((congrFun hvy475 _).trans ((uZ_n _ _ n3).trans ((congrFun hvy232 _).trans ((uZ_n _ _ n4).trans ((congrFun hvy222 _).trans ((uZ_n _ _ n5).trans ((congrFun hvy208 _).trans ((uZ_n _ _ n6).trans (rfl))))))))))))))
                        have hwy548 : ry527 (ny126) = (mn1 (ny126)) + 1 := (congrFun hvy528 _).trans (uZ_s _ _ _)
                        have hwy549 : ry503 (kqy184) = vy195 := (congrFun hvy504 _).trans ((uZ_n _ _ (by omega)).trans ((congrFun hvy498 _).trans ((uZ_n _ _ (by omega)).trans ((congrFun hvy492 _).trans ((uZ_n _ _ (by omega)).trans ((congrFun hvy475 _).trans ((uZ_n _ _ (by omega)).trans ((congrFun hvy232 _).trans ((uZ_n _ _ (by omega)).trans ((congrFun hvy222 _).trans ((uZ_n _ _ (by omega)).trans ((congrFun hvy208 _).trans (uZ_s _ _ _)))))))))))))
                        have hwy550 : ry503 (kqy184 + 1) = vy215 := (congrFun hvy504 _).trans ((uZ_n _ _ (by omega)).trans ((congrFun hvy498 _).trans ((uZ_n _ _ (by omega)).trans ((congrFun hvy492 _).trans ((uZ_n _ _ (by omega)).trans ((congrFun hvy475 _).trans ((uZ_n _ _ (by omega)).trans ((congrFun hvy232 _).trans ((uZ_n _ _ (by omega)).trans ((congrFun hvy222 _).trans (uZ_s _ _ _)))))))))))
                        have hwy551 : ry503 (kqy184 + 2) = vy226 := (congrFun hvy504 _).trans ((uZ_n _ _ (by omega)).trans ((congrFun hvy498 _).trans ((uZ_n _ _ (by omega)).trans ((congrFun hvy492 _).trans ((uZ_n _ _ (by omega)).trans ((congrFun hvy475 _).trans ((uZ_n _ _ (by omega)).trans ((congrFun hvy232 _).trans (uZ_s _ _ _)))))))))
                        have hwy552 : ry503 (kqy184 + 3) = Fvy226 36 := (congrFun hvy504 _).trans ((uZ_n _ _ (by omega)).trans ((congrFun hvy498 _).trans ((uZ_n _ _ (by omega)).trans ((congrFun hvy492 _).trans ((uZ_n _ _ (by omega)).trans ((congrFun hvy475 _).trans (uZ_s _ _ _)))))))
                        have hwy553 : ry503 (kqy184 + 4) = -(vy485) := (congrFun hvy504 _).trans ((uZ_n _ _ (by omega)).trans ((congrFun hvy498 _).trans ((uZ_n _ _ (by omega)).trans ((congrFun hvy492 _).trans (uZ_s _ _ _)))))
                        have hwy554 : ry503 (kqy184 + 6) = F 49 := (congrFun hvy504 _).trans (uZ_s _ _ _)
                        have hlyn : lyT ry503 kqy184 := by unfold lyT; omega
                        have hlay545 : ∀ s l : Nat, (s : Int) < (uZ Fvy485 49 ((F 49) + 1)) 47 → (l : Int) < ry527 s → lyT ry503 (84 * s + 7 * l) := by
                          intro s l a1 a2
                          by_cases e : s = ny126
                          · subst e; by_cases e2 : (l : Int) = mn1 s
                            · rw [show 84 * s + 7 * l = kqy184 by omega]; exact hlyn
                            · exact (hly1 s l (by omega) (by omega)).ext (fun j b1 b2 => hfry547 j (by omega) (by omega) (by omega) (by omega) (by omega) (by omega) (by omega))
                          · have hs9 := hfry546 s e; rw [hs9] at a2; have hm9 := hmn1 s (by omega); exact (hly1 s l (by omega) a2).ext (fun j b1 b2 => hfry547 j (by omega) (by omega) (by omega) (by omega) (by omega) (by omega) (by omega))
                        have hgy555 := (hfvy11 (i + 16) (ne_o (i := i) (c := 16) (d := 0) rfl)).trans ha16
                        have hgy556 := (hfvy41 (i + 16) (ne_o (i := i) (c := 16) (d := 0) rfl)).trans hgy555
                        have hgy557 := (hfvy79 (i + 16) (ne_o (i := i) (c := 16) (d := 0) rfl)).trans hgy556
                        have hgy558 := (hfvy125 (i + 16) (ne_o (i := i) (c := 16) (d := 0) rfl)).trans hgy557
                        have hgy559 := (hfvy181 (i + 16) (ne_o (i := i) (c := 16) (d := 0) rfl)).trans hgy558
                        have hgy560 := (hfvy190 (i + 16) (ne_o (i := i) (c := 16) (d := 0) rfl)).trans hgy559
                        have hgy561 := (hfvy194 (i + 16) (ne_o (i := i) (c := 16) (d := 0) rfl)).trans hgy560
                        have hgy562 := up_n egy205 hgy561 (ne_o (i := i) (c := 16) (d := 23) rfl)
                        have hgy563 := (hfvy213 (i + 16) (ne_o (i := i) (c := 16) (d := 0) rfl)).trans hgy562
                        have hgy564 := (hfvy215 (i + 16) (ne_o (i := i) (c := 16) (d := 0) rfl)).trans hgy563
                        have hgy565 := up_n egy219 hgy564 (ne_o (i := i) (c := 16) (d := 23) rfl)
                        have hgy566 := (hfvy226 (i + 16) (ne_o (i := i) (c := 16) (d := 0) rfl)).trans hgy565
                        have hgy567 := up_n egy229 hgy566 (ne_o (i := i) (c := 16) (d := 23) rfl)
                        have hgy568 := (hfvy342 (i + 16) (ne_o (i := i) (c := 16) (d := 0) rfl)).trans hgy567
                        have hgy569 := (hfvy344 (i + 16) (ne_o (i := i) (c := 16) (d := 0) rfl)).trans hgy568
                        have hgy570 := (hfvy469 (i + 16) (ne_o (i := i) (c := 16) (d := 0) rfl)).trans hgy569
                        have hgy571 := up_n egy472 hgy570 (ne_o (i := i) (c := 16) (d := 23) rfl)
                        have hgy572 := (hfvy483 (i + 16) (ne_o (i := i) (c := 16) (d := 0) rfl)).trans hgy571
                        have hgy573 := (hfvy485 (i + 16) (ne_o (i := i) (c := 16) (d := 0) rfl)).trans hgy572
                        have hgy574 := up_n egy489 hgy573 (ne_o (i := i) (c := 16) (d := 23) rfl)
                        have hgy575 := up_n egy495 hgy574 (ne_o (i := i) (c := 16) (d := 23) rfl)
                        have hgy576 := up_n egy501 hgy575 (ne_o (i := i) (c := 16) (d := 23) rfl)
                        have hgy577 := up_n egy525 hgy576 (ne_o (i := i) (c := 16) (d := 18) rfl)
                        have hgy578 := up_n egy531 hgy577 (ne_o (i := i) (c := 16) (d := 0) rfl)
                        have hgy579 := (hfvy11 (i + 17) (ne_o (i := i) (c := 17) (d := 0) rfl)).trans ha17
                        have hgy580 := (hfvy41 (i + 17) (ne_o (i := i) (c := 17) (d := 0) rfl)).trans hgy579
                        have hgy581 := (hfvy79 (i + 17) (ne_o (i := i) (c := 17) (d := 0) rfl)).trans hgy580
                        have hgy582 := (hfvy125 (i + 17) (ne_o (i := i) (c := 17) (d := 0) rfl)).trans hgy581
                        have hgy583 := (hfvy181 (i + 17) (ne_o (i := i) (c := 17) (d := 0) rfl)).trans hgy582
                        have hgy584 := (hfvy190 (i + 17) (ne_o (i := i) (c := 17) (d := 0) rfl)).trans hgy583
                        have hgy585 := (hfvy194 (i + 17) (ne_o (i := i) (c := 17) (d := 0) rfl)).trans hgy584
                        have hgy586 := up_n egy205 hgy585 (ne_o (i := i) (c := 17) (d := 23) rfl)
                        have hgy587 := (hfvy213 (i + 17) (ne_o (i := i) (c := 17) (d := 0) rfl)).trans hgy586
                        have hgy588 := (hfvy215 (i + 17) (ne_o (i := i) (c := 17) (d := 0) rfl)).trans hgy587
                        have hgy589 := up_n egy219 hgy588 (ne_o (i := i) (c := 17) (d := 23) rfl)
                        have hgy590 := (hfvy226 (i + 17) (ne_o (i := i) (c := 17) (d := 0) rfl)).trans hgy589
                        have hgy591 := up_n egy229 hgy590 (ne_o (i := i) (c := 17) (d := 23) rfl)
                        have hgy592 := (hfvy342 (i + 17) (ne_o (i := i) (c := 17) (d := 0) rfl)).trans hgy591
                        have hgy593 := (hfvy344 (i + 17) (ne_o (i := i) (c := 17) (d := 0) rfl)).trans hgy592
                        have hgy594 := (hfvy469 (i + 17) (ne_o (i := i) (c := 17) (d := 0) rfl)).trans hgy593
                        have hgy595 := up_n egy472 hgy594 (ne_o (i := i) (c := 17) (d := 23) rfl)
                        have hgy596 := (hfvy483 (i + 17) (ne_o (i := i) (c := 17) (d := 0) rfl)).trans hgy595
                        have hgy597 := (hfvy485 (i + 17) (ne_o (i := i) (c := 17) (d := 0) rfl)).trans hgy596
                        have hgy598 := up_n egy489 hgy597 (ne_o (i := i) (c := 17) (d := 23) rfl)
                        have hgy599 := up_n egy495 hgy598 (ne_o (i := i) (c := 17) (d := 23) rfl)
                        have hgy600 := up_n egy501 hgy599 (ne_o (i := i) (c := 17) (d := 23) rfl)
                        have hgy601 := up_n egy525 hgy600 (ne_o (i := i) (c := 17) (d := 18) rfl)
                        have hgy602 := up_n egy531 hgy601 (ne_o (i := i) (c := 17) (d := 0) rfl)
                        have hgy603 := up_n egy531 hgy526 (ne_o (i := i) (c := 18) (d := 0) rfl)
                        have hgy604 := (hfvy11 (i + 19) (ne_o (i := i) (c := 19) (d := 0) rfl)).trans ha19
                        have hgy605 := (hfvy41 (i + 19) (ne_o (i := i) (c := 19) (d := 0) rfl)).trans hgy604
                        have hgy606 := (hfvy79 (i + 19) (ne_o (i := i) (c := 19) (d := 0) rfl)).trans hgy605
                        have hgy607 := (hfvy125 (i + 19) (ne_o (i := i) (c := 19) (d := 0) rfl)).trans hgy606
                        have hgy608 := (hfvy181 (i + 19) (ne_o (i := i) (c := 19) (d := 0) rfl)).trans hgy607
                        have hgy609 := (hfvy190 (i + 19) (ne_o (i := i) (c := 19) (d := 0) rfl)).trans hgy608
                        have hgy610 := (hfvy194 (i + 19) (ne_o (i := i) (c := 19) (d := 0) rfl)).trans hgy609
                        have hgy611 := up_n egy205 hgy610 (ne_o (i := i) (c := 19) (d := 23) rfl)
                        have hgy612 := (hfvy213 (i + 19) (ne_o (i := i) (c := 19) (d := 0) rfl)).trans hgy611
                        have hgy613 := (hfvy215 (i + 19) (ne_o (i := i) (c := 19) (d := 0) rfl)).trans hgy612
                        have hgy614 := up_n egy219 hgy613 (ne_o (i := i) (c := 19) (d := 23) rfl)
                        have hgy615 := (hfvy226 (i + 19) (ne_o (i := i) (c := 19) (d := 0) rfl)).trans hgy614
                        have hgy616 := up_n egy229 hgy615 (ne_o (i := i) (c := 19) (d := 23) rfl)
                        have hgy617 := (hfvy342 (i + 19) (ne_o (i := i) (c := 19) (d := 0) rfl)).trans hgy616
                        have hgy618 := (hfvy344 (i + 19) (ne_o (i := i) (c := 19) (d := 0) rfl)).trans hgy617
                        have hgy619 := (hfvy469 (i + 19) (ne_o (i := i) (c := 19) (d := 0) rfl)).trans hgy618
                        have hgy620 := up_n egy472 hgy619 (ne_o (i := i) (c := 19) (d := 23) rfl)
                        have hgy621 := (hfvy483 (i + 19) (ne_o (i := i) (c := 19) (d := 0) rfl)).trans hgy620
                        have hgy622 := (hfvy485 (i + 19) (ne_o (i := i) (c := 19) (d := 0) rfl)).trans hgy621
                        have hgy623 := up_n egy489 hgy622 (ne_o (i := i) (c := 19) (d := 23) rfl)
                        have hgy624 := up_n egy495 hgy623 (ne_o (i := i) (c := 19) (d := 23) rfl)
                        have hgy625 := up_n egy501 hgy624 (ne_o (i := i) (c := 19) (d := 23) rfl)
                        have hgy626 := up_n egy525 hgy625 (ne_o (i := i) (c := 19) (d := 18) rfl)
                        have hgy627 := up_n egy531 hgy626 (ne_o (i := i) (c := 19) (d := 0) rfl)
                        have hgy628 := (hfvy11 (i + 20) (ne_o (i := i) (c := 20) (d := 0) rfl)).trans ha20
                        have hgy629 := (hfvy41 (i + 20) (ne_o (i := i) (c := 20) (d := 0) rfl)).trans hgy628
                        have hgy630 := (hfvy79 (i + 20) (ne_o (i := i) (c := 20) (d := 0) rfl)).trans hgy629
                        have hgy631 := (hfvy125 (i + 20) (ne_o (i := i) (c := 20) (d := 0) rfl)).trans hgy630
                        have hgy632 := (hfvy181 (i + 20) (ne_o (i := i) (c := 20) (d := 0) rfl)).trans hgy631
                        have hgy633 := (hfvy190 (i + 20) (ne_o (i := i) (c := 20) (d := 0) rfl)).trans hgy632
                        have hgy634 := (hfvy194 (i + 20) (ne_o (i := i) (c := 20) (d := 0) rfl)).trans hgy633
                        have hgy635 := up_n egy205 hgy634 (ne_o (i := i) (c := 20) (d := 23) rfl)
                        have hgy636 := (hfvy213 (i + 20) (ne_o (i := i) (c := 20) (d := 0) rfl)).trans hgy635
                        have hgy637 := (hfvy215 (i + 20) (ne_o (i := i) (c := 20) (d := 0) rfl)).trans hgy636
                        have hgy638 := up_n egy219 hgy637 (ne_o (i := i) (c := 20) (d := 23) rfl)
                        have hgy639 := (hfvy226 (i + 20) (ne_o (i := i) (c := 20) (d := 0) rfl)).trans hgy638
                        have hgy640 := up_n egy229 hgy639 (ne_o (i := i) (c := 20) (d := 23) rfl)
                        have hgy641 := (hfvy342 (i + 20) (ne_o (i := i) (c := 20) (d := 0) rfl)).trans hgy640
                        have hgy642 := (hfvy344 (i + 20) (ne_o (i := i) (c := 20) (d := 0) rfl)).trans hgy641
                        have hgy643 := (hfvy469 (i + 20) (ne_o (i := i) (c := 20) (d := 0) rfl)).trans hgy642
                        have hgy644 := up_n egy472 hgy643 (ne_o (i := i) (c := 20) (d := 23) rfl)
                        have hgy645 := (hfvy483 (i + 20) (ne_o (i := i) (c := 20) (d := 0) rfl)).trans hgy644
                        have hgy646 := (hfvy485 (i + 20) (ne_o (i := i) (c := 20) (d := 0) rfl)).trans hgy645
                        have hgy647 := up_n egy489 hgy646 (ne_o (i := i) (c := 20) (d := 23) rfl)
                        have hgy648 := up_n egy495 hgy647 (ne_o (i := i) (c := 20) (d := 23) rfl)
                        have hgy649 := up_n egy501 hgy648 (ne_o (i := i) (c := 20) (d := 23) rfl)
                        have hgy650 := up_n egy525 hgy649 (ne_o (i := i) (c := 20) (d := 18) rfl)
                        have hgy651 := up_n egy531 hgy650 (ne_o (i := i) (c := 20) (d := 0) rfl)
                        have hgy652 := (hfvy11 (i + 21) (ne_o (i := i) (c := 21) (d := 0) rfl)).trans ha21
                        have hgy653 := (hfvy41 (i + 21) (ne_o (i := i) (c := 21) (d := 0) rfl)).trans hgy652
                        have hgy654 := (hfvy79 (i + 21) (ne_o (i := i) (c := 21) (d := 0) rfl)).trans hgy653
                        have hgy655 := (hfvy125 (i + 21) (ne_o (i := i) (c := 21) (d := 0) rfl)).trans hgy654
                        have hgy656 := (hfvy181 (i + 21) (ne_o (i := i) (c := 21) (d := 0) rfl)).trans hgy655
                        have hgy657 := (hfvy190 (i + 21) (ne_o (i := i) (c := 21) (d := 0) rfl)).trans hgy656
                        have hgy658 := (hfvy194 (i + 21) (ne_o (i := i) (c := 21) (d := 0) rfl)).trans hgy657
                        have hgy659 := up_n egy205 hgy658 (ne_o (i := i) (c := 21) (d := 23) rfl)
                        have hgy660 := (hfvy213 (i + 21) (ne_o (i := i) (c := 21) (d := 0) rfl)).trans hgy659
                        have hgy661 := (hfvy215 (i + 21) (ne_o (i := i) (c := 21) (d := 0) rfl)).trans hgy660
                        have hgy662 := up_n egy219 hgy661 (ne_o (i := i) (c := 21) (d := 23) rfl)
                        have hgy663 := (hfvy226 (i + 21) (ne_o (i := i) (c := 21) (d := 0) rfl)).trans hgy662
                        have hgy664 := up_n egy229 hgy663 (ne_o (i := i) (c := 21) (d := 23) rfl)
                        have hgy665 := (hfvy342 (i + 21) (ne_o (i := i) (c := 21) (d := 0) rfl)).trans hgy664
                        have hgy666 := (hfvy344 (i + 21) (ne_o (i := i) (c := 21) (d := 0) rfl)).trans hgy665
                        have hgy667 := (hfvy469 (i + 21) (ne_o (i := i) (c := 21) (d := 0) rfl)).trans hgy666
                        have hgy668 := up_n egy472 hgy667 (ne_o (i := i) (c := 21) (d := 23) rfl)
                        have hgy669 := (hfvy483 (i + 21) (ne_o (i := i) (c := 21) (d := 0) rfl)).trans hgy668
                        have hgy670 := (hfvy485 (i + 21) (ne_o (i := i) (c := 21) (d := 0) rfl)).trans hgy669
                        have hgy671 := up_n egy489 hgy670 (ne_o (i := i) (c := 21) (d := 23) rfl)
                        have hgy672 := up_n egy495 hgy671 (ne_o (i := i) (c := 21) (d := 23) rfl)
                        have hgy673 := up_n egy501 hgy672 (ne_o (i := i) (c := 21) (d := 23) rfl)
                        have hgy674 := up_n egy525 hgy673 (ne_o (i := i) (c := 21) (d := 18) rfl)
                        have hgy675 := up_n egy531 hgy674 (ne_o (i := i) (c := 21) (d := 0) rfl)
                        have hgy676 := (hfvy11 (i + 22) (ne_o (i := i) (c := 22) (d := 0) rfl)).trans ha22
                        have hgy677 := (hfvy41 (i + 22) (ne_o (i := i) (c := 22) (d := 0) rfl)).trans hgy676
                        have hgy678 := (hfvy79 (i + 22) (ne_o (i := i) (c := 22) (d := 0) rfl)).trans hgy677
                        have hgy679 := (hfvy125 (i + 22) (ne_o (i := i) (c := 22) (d := 0) rfl)).trans hgy678
                        have hgy680 := (hfvy181 (i + 22) (ne_o (i := i) (c := 22) (d := 0) rfl)).trans hgy679
                        have hgy681 := (hfvy190 (i + 22) (ne_o (i := i) (c := 22) (d := 0) rfl)).trans hgy680
                        have hgy682 := (hfvy194 (i + 22) (ne_o (i := i) (c := 22) (d := 0) rfl)).trans hgy681
                        have hgy683 := up_n egy205 hgy682 (ne_o (i := i) (c := 22) (d := 23) rfl)
                        have hgy684 := (hfvy213 (i + 22) (ne_o (i := i) (c := 22) (d := 0) rfl)).trans hgy683
                        have hgy685 := (hfvy215 (i + 22) (ne_o (i := i) (c := 22) (d := 0) rfl)).trans hgy684
                        have hgy686 := up_n egy219 hgy685 (ne_o (i := i) (c := 22) (d := 23) rfl)
                        have hgy687 := (hfvy226 (i + 22) (ne_o (i := i) (c := 22) (d := 0) rfl)).trans hgy686
                        have hgy688 := up_n egy229 hgy687 (ne_o (i := i) (c := 22) (d := 23) rfl)
                        have hgy689 := (hfvy342 (i + 22) (ne_o (i := i) (c := 22) (d := 0) rfl)).trans hgy688
                        have hgy690 := (hfvy344 (i + 22) (ne_o (i := i) (c := 22) (d := 0) rfl)).trans hgy689
                        have hgy691 := (hfvy469 (i + 22) (ne_o (i := i) (c := 22) (d := 0) rfl)).trans hgy690
                        have hgy692 := up_n egy472 hgy691 (ne_o (i := i) (c := 22) (d := 23) rfl)
                        have hgy693 := (hfvy483 (i + 22) (ne_o (i := i) (c := 22) (d := 0) rfl)).trans hgy692
                        have hgy694 := (hfvy485 (i + 22) (ne_o (i := i) (c := 22) (d := 0) rfl)).trans hgy693
                        have hgy695 := up_n egy489 hgy694 (ne_o (i := i) (c := 22) (d := 23) rfl)
                        have hgy696 := up_n egy495 hgy695 (ne_o (i := i) (c := 22) (d := 23) rfl)
                        have hgy697 := up_n egy501 hgy696 (ne_o (i := i) (c := 22) (d := 23) rfl)
                        have hgy698 := up_n egy525 hgy697 (ne_o (i := i) (c := 22) (d := 18) rfl)
                        have hgy699 := up_n egy531 hgy698 (ne_o (i := i) (c := 22) (d := 0) rfl)
                        have hgy700 := up_n egy525 hgy502 (ne_o (i := i) (c := 23) (d := 18) rfl)
                        have hgy701 := up_n egy531 hgy700 (ne_o (i := i) (c := 23) (d := 0) rfl)
                        have htxy702 : okTx cs gy530 i (uZ Fvy485 49 ((F 49) + 1)) := ⟨_, _, _, _, _, _, _, _, ⟨hgy578, hgy602, hgy603, hgy627, hgy651, hgy675, hgy699, hgy701⟩, ⟨⟨by omega, by omega, by omega⟩, hop1, haky541, hai1, hfa1, htb1, hlay545⟩⟩
                        exact z_vret C hr hlk dX10_layer1_348 (by decide) (by decide) ⟨rfl, rfl, rfl, ⟨_, hgy532, (RD.put hdvy485 (by decide)), by omega, by omega, hFy533, htxy702⟩, fun j j1 j2 => by rw [egy531, va_up_ne _ _ (by omega)]; rw [egy525, va_up_ne _ _ (by omega)]; rw [egy501, va_up_ne _ _ (by omega)]; rw [egy495, va_up_ne _ _ (by omega)]; rw [egy489, va_up_ne _ _ (by omega)]; rw [hfvy485 _ (by omega)]; rw [hfvy483 _ (by omega)]; rw [egy472, va_up_ne _ _ (by omega)]; rw [hfvy469 _ (by omega)]; rw [hfvy344 _ (by omega)]; rw [hfvy342 _ (by omega)]; rw [egy229, va_up_ne _ _ (by omega)]; rw [hfvy226 _ (by omega)]; rw [egy219, va_up_ne _ _ (by omega)]; rw [hfvy215 _ (by omega)]; rw [hfvy213 _ (by omega)]; rw [egy205, va_up_ne _ _ (by omega)]; rw [hfvy194 _ (by omega)]; rw [hfvy190 _ (by omega)]; rw [hfvy181 _ (by omega)]; rw [hfvy125 _ (by omega)]; rw [hfvy79 _ (by omega)]; rw [hfvy41 _ (by omega)]; rw [hfvy11 _ (by omega)]⟩
                      · clear hsvy485
                        have hpvy485 : 1 ≤ Fvy485 38 := by omega
                        clear hxvy485
                        refine z_ineg C dX10_layer1_304 ?_
                        have hgy703 := (hfvy483 (i + 23) (ne_o (i := i) (c := 23) (d := 0) rfl)).trans hgy473
                        have hgy704 := (hfvy485 (i + 23) (ne_o (i := i) (c := 23) (d := 0) rfl)).trans hgy703
                        refine z_iast C (by omega) hay10 hgy704 (kqy184 + 4) (by omega) (by omega) (by decide) dX10_layer1_305 (fun gy705 egy706 => ?_)
                        have hgy707 := up_s egy706
                        obtain ⟨ry708, hvy709⟩ : ∃ rZ9 : Nat → Int, rZ9 = uZ ry474 (kqy184 + 4) (-(vy485)) := ⟨_, rfl⟩
                        rw [← hvy709] at hgy707
                        refine z_aload_n C 2 dX10_layer1_306 rfl ?_
                        have hgy710 := up_n egy706 hcvy485 (ne_o (i := i) (c := 0) (d := 23) rfl)
                        refine z_get (v := .ref (ad (i + 23))) C (by omega) hay1 hgy710 rfl inA_X10 46 (by decide) q_1505 rfl rfl dX10_layer1_307 ?_
                        refine z_iload_n C 0 dX10_layer1_310 rfl ?_
                        refine z_iconst (z := 5) C dX10_layer1_311 rfl ?_
                        refine z_iadd C dX10_layer1_312 ?_
                        refine z_iconst (z := 0) C dX10_layer1_313 rfl ?_
                        refine z_iast C (by omega) hay10 hgy707 (kqy184 + 5) (by omega) (by omega) (by decide) dX10_layer1_314 (fun gy711 egy712 => ?_)
                        have hgy713 := up_s egy712
                        obtain ⟨ry714, hvy715⟩ : ∃ rZ9 : Nat → Int, rZ9 = uZ ry708 (kqy184 + 5) (0) := ⟨_, rfl⟩
                        rw [← hvy715] at hgy713
                        refine z_aload_n C 2 dX10_layer1_315 rfl ?_
                        have hgy716 := up_n egy712 hgy710 (ne_o (i := i) (c := 0) (d := 23) rfl)
                        refine z_get (v := .ref (ad (i + 23))) C (by omega) hay1 hgy716 rfl inA_X10 46 (by decide) q_1505 rfl rfl dX10_layer1_316 ?_
                        refine z_iload_n C 0 dX10_layer1_319 rfl ?_
                        refine z_bipush (z := 6) C dX10_layer1_320 (by decide) ?_
                        refine z_iadd C dX10_layer1_322 ?_
                        refine z_aload_n C 2 dX10_layer1_323 rfl ?_
                        refine z_get (v := .int (zI (F 49))) C (by omega) hay1 hgy716 rfl inA_X10 49 (by decide) q_1508 rfl (fv (F := Fvy485) (f := 49) ((hFvy485 49 (by decide) (by decide) (by decide) (by decide) (by decide) (by decide) (by decide)).trans ((hFvy483 49 (by decide) (by decide) (by decide) (by decide) (by decide)).trans ((hFvy469 49 (by decide) (by decide)).trans ((hFvy344 49 (by decide) (by decide)).trans ((hFvy342 49 (by decide) (by decide)).trans ((hFvy226 49 (by decide) (by decide) (by decide) (by decide) (by decide) (by decide) (by decide)).trans ((hFvy215 49 (by decide) (by decide) (by decide) (by decide) (by decide) (by decide) (by decide)).trans ((hFvy213 49 (by decide) (by decide) (by decide) (by decide) (by decide)).trans ((hFvy194 49 (by decide) (by decide)).trans ((hFvy190 49 (by decide) (by decide) (by decide) (by decide) (by decide)).trans ((hFvy181 49 (by decide) (by decide)).trans ((hFvy125 49 (by decide) (by decide)).trans ((hFvy79 49 (by decide) (by decide)).trans ((hFvy41 49 (by decide) (by decide)).trans (hFvy11 49 (by decide) (by decide) (by decide) (by decide) (by decide))))))))))))))))) dX10_layer1_324 ?_
                        refine z_iast C (by omega) hay10 hgy713 (kqy184 + 6) (by omega) (by omega) (by decide) dX10_layer1_327 (fun gy717 egy718 => ?_)
                        have hgy719 := up_s egy718
                        obtain ⟨ry720, hvy721⟩ : ∃ rZ9 : Nat → Int, rZ9 = uZ ry714 (kqy184 + 6) (F 49) := ⟨_, rfl⟩
                        rw [← hvy721] at hgy719
                        refine z_aload_n C 2 dX10_layer1_328 rfl ?_
                        have hgy722 := up_n egy718 hgy716 (ne_o (i := i) (c := 0) (d := 23) rfl)
                        refine z_get (v := .ref (ad (i + 18))) C (by omega) hay1 hgy722 rfl inA_X10 41 (by decide) q_1500 rfl rfl dX10_layer1_329 ?_
                        refine z_iload_n C 1 dX10_layer1_332 rfl ?_
                        refine z_dup2 C dX10_layer1_333 rfl rfl ?_
                        have hgy723 := (hfvy190 (i + 18) (ne_o (i := i) (c := 18) (d := 0) rfl)).trans hgy182
                        have hgy724 := (hfvy194 (i + 18) (ne_o (i := i) (c := 18) (d := 0) rfl)).trans hgy723
                        have hgy725 := up_n egy205 hgy724 (ne_o (i := i) (c := 18) (d := 23) rfl)
                        have hgy726 := (hfvy213 (i + 18) (ne_o (i := i) (c := 18) (d := 0) rfl)).trans hgy725
                        have hgy727 := (hfvy215 (i + 18) (ne_o (i := i) (c := 18) (d := 0) rfl)).trans hgy726
                        have hgy728 := up_n egy219 hgy727 (ne_o (i := i) (c := 18) (d := 23) rfl)
                        have hgy729 := (hfvy226 (i + 18) (ne_o (i := i) (c := 18) (d := 0) rfl)).trans hgy728
                        have hgy730 := up_n egy229 hgy729 (ne_o (i := i) (c := 18) (d := 23) rfl)
                        have hgy731 := (hfvy342 (i + 18) (ne_o (i := i) (c := 18) (d := 0) rfl)).trans hgy730
                        have hgy732 := (hfvy344 (i + 18) (ne_o (i := i) (c := 18) (d := 0) rfl)).trans hgy731
                        have hgy733 := (hfvy469 (i + 18) (ne_o (i := i) (c := 18) (d := 0) rfl)).trans hgy732
                        have hgy734 := up_n egy472 hgy733 (ne_o (i := i) (c := 18) (d := 23) rfl)
                        have hgy735 := (hfvy483 (i + 18) (ne_o (i := i) (c := 18) (d := 0) rfl)).trans hgy734
                        have hgy736 := (hfvy485 (i + 18) (ne_o (i := i) (c := 18) (d := 0) rfl)).trans hgy735
                        have hgy737 := up_n egy706 hgy736 (ne_o (i := i) (c := 18) (d := 23) rfl)
                        have hgy738 := up_n egy712 hgy737 (ne_o (i := i) (c := 18) (d := 23) rfl)
                        have hgy739 := up_n egy718 hgy738 (ne_o (i := i) (c := 18) (d := 23) rfl)
                        refine z_iald C (by omega) hay5 hgy739 (ny126) (by omega) (by omega) (by decide) dX10_layer1_334 ?_
                        have hrfy740 := hmn1 (ny126) (by omega)
                        refine z_iconst (z := 1) C dX10_layer1_335 rfl ?_
                        refine z_iadd C dX10_layer1_336 ?_
                        refine z_iast C (by omega) hay5 hgy739 (ny126) (by omega) (by omega) (by decide) dX10_layer1_337 (fun gy741 egy742 => ?_)
                        have hgy743 := up_s egy742
                        obtain ⟨ry744, hvy745⟩ : ∃ rZ9 : Nat → Int, rZ9 = uZ mn1 (ny126) ((mn1 (ny126)) + 1) := ⟨_, rfl⟩
                        rw [← hvy745] at hgy743
                        refine z_aload_n C 2 dX10_layer1_338 rfl ?_
                        refine z_dup C dX10_layer1_339 rfl ?_
                        have hgy746 := up_n egy742 hgy722 (ne_o (i := i) (c := 0) (d := 18) rfl)
                        refine z_get (v := .int (zI (F 49))) C (by omega) hay1 hgy746 rfl inA_X10 49 (by decide) q_1508 rfl (fv (F := Fvy485) (f := 49) ((hFvy485 49 (by decide) (by decide) (by decide) (by decide) (by decide) (by decide) (by decide)).trans ((hFvy483 49 (by decide) (by decide) (by decide) (by decide) (by decide)).trans ((hFvy469 49 (by decide) (by decide)).trans ((hFvy344 49 (by decide) (by decide)).trans ((hFvy342 49 (by decide) (by decide)).trans ((hFvy226 49 (by decide) (by decide) (by decide) (by decide) (by decide) (by decide) (by decide)).trans ((hFvy215 49 (by decide) (by decide) (by decide) (by decide) (by decide) (by decide) (by decide)).trans ((hFvy213 49 (by decide) (by decide) (by decide) (by decide) (by decide)).trans ((hFvy194 49 (by decide) (by decide)).trans ((hFvy190 49 (by decide) (by decide) (by decide) (by decide) (by decide)).trans ((hFvy181 49 (by decide) (by decide)).trans ((hFvy125 49 (by decide) (by decide)).trans ((hFvy79 49 (by decide) (by decide)).trans ((hFvy41 49 (by decide) (by decide)).trans (hFvy11 49 (by decide) (by decide) (by decide) (by decide) (by decide))))))))))))))))) dX10_layer1_340 ?_
                        refine z_iconst (z := 1) C dX10_layer1_343 rfl ?_
                        refine z_iadd C dX10_layer1_344 ?_
                        refine z_put (fs' := mF ad (i) (uZ Fvy485 49 ((F 49) + 1))) C (by omega) hay1 hgy746 tyX10 tyX10_ok nmX10 rfl inA_X10 49 (by decide) q_1508 rfl rfl rfl rfl (Nat.le_of_ble_eq_true rfl) rfl dX10_layer1_345 (fun gy747 egy748 => ?_)
                        have hgy749 := up_s egy748
                        have hFy750 : ∀ f, f ≠ 24 → f ≠ 32 → f ≠ 33 → f ≠ 35 → f ≠ 36 → f ≠ 37 → f ≠ 38 → f ≠ 47 → f ≠ 48 → f ≠ 49 → (uZ Fvy485 49 ((F 49) + 1)) f = F f := fun f n24 n32 n33 n35 n36 n37 n38 n47 n48 n49 => ((uZ_n _ _ n49).trans ((hFvy485 f n24 n32 n33 n35 n36 n37 n38).trans ((hFvy483 f n32 n33 n35 n36 n37).trans ((hFvy469 f n24 n38).trans ((hFvy344 f n24 n38).trans ((hFvy342 f n24 n38).trans ((hFvy226 f n24 n32 n33 n35 n36 n37 n38).trans ((hFvy215 f n24 n32 n33 n35 n36 n37 n38).trans ((hFvy213 f n32 n33 n35 n36 n37).trans ((hFvy194 f n24 n38).trans ((hFvy190 f n32 n33 n35 n36 n37).trans ((hFvy181 f n24 n38).trans ((hFvy125 f n24 n38).trans ((hFvy79 f n24 n38).trans ((hFvy41 f n24 n38).trans (hFvy11 f n32 n33 n35 n36 n37))))))))))))))))
                        have hey751 : (uZ Fvy485 49 ((F 49) + 1)) 32 = Fvy485 32 := (fn rfl (by decide))
                        have hey752 : (uZ Fvy485 49 ((F 49) + 1)) 35 = Fvy485 35 := (fn rfl (by decide))
                        have hey753 : (uZ Fvy485 49 ((F 49) + 1)) 38 = Fvy485 38 := (fn rfl (by decide))
                        have hey754 : (uZ Fvy485 49 ((F 49) + 1)) 32 = Fvy485 32 := (fn rfl (by decide))
                        have hey755 : (uZ Fvy485 49 ((F 49) + 1)) 47 = F 47 := (fn ((hFvy485 47 (by decide) (by decide) (by decide) (by decide) (by decide) (by decide) (by decide)).trans ((hFvy483 47 (by decide) (by decide) (by decide) (by decide) (by decide)).trans ((hFvy469 47 (by decide) (by decide)).trans ((hFvy344 47 (by decide) (by decide)).trans ((hFvy342 47 (by decide) (by decide)).trans ((hFvy226 47 (by decide) (by decide) (by decide) (by decide) (by decide) (by decide) (by decide)).trans ((hFvy215 47 (by decide) (by decide) (by decide) (by decide) (by decide) (by decide) (by decide)).trans ((hFvy213 47 (by decide) (by decide) (by decide) (by decide) (by decide)).trans ((hFvy194 47 (by decide) (by decide)).trans ((hFvy190 47 (by decide) (by decide) (by decide) (by decide) (by decide)).trans ((hFvy181 47 (by decide) (by decide)).trans ((hFvy125 47 (by decide) (by decide)).trans ((hFvy79 47 (by decide) (by decide)).trans ((hFvy41 47 (by decide) (by decide)).trans (hFvy11 47 (by decide) (by decide) (by decide) (by decide) (by decide)))))))))))))))) (by decide))
                        have hey756 : (uZ Fvy485 49 ((F 49) + 1)) 48 = F 48 := (fn ((hFvy485 48 (by decide) (by decide) (by decide) (by decide) (by decide) (by decide) (by decide)).trans ((hFvy483 48 (by decide) (by decide) (by decide) (by decide) (by decide)).trans ((hFvy469 48 (by decide) (by decide)).trans ((hFvy344 48 (by decide) (by decide)).trans ((hFvy342 48 (by decide) (by decide)).trans ((hFvy226 48 (by decide) (by decide) (by decide) (by decide) (by decide) (by decide) (by decide)).trans ((hFvy215 48 (by decide) (by decide) (by decide) (by decide) (by decide) (by decide) (by decide)).trans ((hFvy213 48 (by decide) (by decide) (by decide) (by decide) (by decide)).trans ((hFvy194 48 (by decide) (by decide)).trans ((hFvy190 48 (by decide) (by decide) (by decide) (by decide) (by decide)).trans ((hFvy181 48 (by decide) (by decide)).trans ((hFvy125 48 (by decide) (by decide)).trans ((hFvy79 48 (by decide) (by decide)).trans ((hFvy41 48 (by decide) (by decide)).trans (hFvy11 48 (by decide) (by decide) (by decide) (by decide) (by decide)))))))))))))))) (by decide))
                        have hey757 : (uZ Fvy485 49 ((F 49) + 1)) 49 = (F 49) + 1 := (uZ_s _ _ _)
                        have hfry759 : ∀ j, j ≠ ny126 → ry744 j = mn1 j := fun j n0 => (congrFun hvy745 _).trans ((uZ_n _ _ n0).trans (rfl))
                        have hwy760 : ry744 (ny126) = (mn1 (ny126)) + 1 := (congrFun hvy745 _).trans (uZ_s _ _ _)
                        have haky758 : ∀ k, k < 4 → 0 ≤ ry744 k ∧ ry744 k ≤ 12 := by
                          intro k hk
                          by_cases e : k = ny126
                          · rw [e]; have hk0 := hmn1 (ny126) (by omega); omega
                          · have hk0 := hmn1 k hk; rw [hfry759 k e]; exact hk0
                        have hfry763 : ∀ j, j ≠ ny126 → ry744 j = mn1 j := fun j n0 => (congrFun hvy745 _).trans ((uZ_n _ _ n0).trans (rfl))
                        have hfry764 : ∀ j, j ≠ kqy184 + 6 → j ≠ kqy184 + 5 → j ≠ kqy184 + 4 → j ≠ kqy184 + 3 → j ≠ kqy184 + 2 → j ≠ kqy184 + 1 → j ≠ kqy184 → ry720 j = ly1 j := fun j n0 n1 n2 n3 n4 n5 n6 => (congrFun hvy721 _).trans ((uZ_n _ _ n0).trans ((congrFun hvy715 _).trans ((uZ_n _ _ n1).trans ((congrFun hvy709 _).trans ((uZ_n _ _ n2).trans ((congrFun hvy475 _).trans ((uZ_n _ _ n3).trans ((congrFun hvy232 _).trans ((uZ_n _ _ n4).trans ((congrFun hvy222 _).trans ((uZ_n _ _ n5).trans ((congrFun hvy208 _).trans ((uZ_n _ _ n6).trans (rfl))))))))))))))
                        have hwy765 : ry744 (ny126) = (mn1 (ny126)) + 1 := (congrFun hvy745 _).trans (uZ_s _ _ _)
                        have hwy766 : ry720 (kqy184) = vy195 := (congrFun hvy721 _).trans ((uZ_n _ _ (by omega)).trans ((congrFun hvy715 _).trans ((uZ_n _ _ (by omega)).trans ((congrFun hvy709 _).trans ((uZ_n _ _ (by omega)).trans ((congrFun hvy475 _).trans ((uZ_n _ _ (by omega)).trans ((congrFun hvy232 _).trans ((uZ_n _ _ (by omega)).trans ((congrFun hvy222 _).trans ((uZ_n _ _ (by omega)).trans ((congrFun hvy208 _).trans (uZ_s _ _ _)))))))))))))
                        have hwy767 : ry720 (kqy184 + 1) = vy215 := (congrFun hvy721 _).trans ((uZ_n _ _ (by omega)).trans ((congrFun hvy715 _).trans ((uZ_n _ _ (by omega)).trans ((congrFun hvy709 _).trans ((uZ_n _ _ (by omega)).trans ((congrFun hvy475 _).trans ((uZ_n _ _ (by omega)).trans ((congrFun hvy232 _).trans ((uZ_n _ _ (by omega)).trans ((congrFun hvy222 _).trans (uZ_s _ _ _)))))))))))
                        have hwy768 : ry720 (kqy184 + 2) = vy226 := (congrFun hvy721 _).trans ((uZ_n _ _ (by omega)).trans ((congrFun hvy715 _).trans ((uZ_n _ _ (by omega)).trans ((congrFun hvy709 _).trans ((uZ_n _ _ (by omega)).trans ((congrFun hvy475 _).trans ((uZ_n _ _ (by omega)).trans ((congrFun hvy232 _).trans (uZ_s _ _ _)))))))))
                        have hwy769 : ry720 (kqy184 + 3) = Fvy226 36 := (congrFun hvy721 _).trans ((uZ_n _ _ (by omega)).trans ((congrFun hvy715 _).trans ((uZ_n _ _ (by omega)).trans ((congrFun hvy709 _).trans ((uZ_n _ _ (by omega)).trans ((congrFun hvy475 _).trans (uZ_s _ _ _)))))))
                        have hwy770 : ry720 (kqy184 + 4) = -(vy485) := (congrFun hvy721 _).trans ((uZ_n _ _ (by omega)).trans ((congrFun hvy715 _).trans ((uZ_n _ _ (by omega)).trans ((congrFun hvy709 _).trans (uZ_s _ _ _)))))
                        have hwy771 : ry720 (kqy184 + 6) = F 49 := (congrFun hvy721 _).trans (uZ_s _ _ _)
                        have hlyn : lyT ry720 kqy184 := by unfold lyT; omega
                        have hlay762 : ∀ s l : Nat, (s : Int) < (uZ Fvy485 49 ((F 49) + 1)) 47 → (l : Int) < ry744 s → lyT ry720 (84 * s + 7 * l) := by
                          intro s l a1 a2
                          by_cases e : s = ny126
                          · subst e; by_cases e2 : (l : Int) = mn1 s
                            · rw [show 84 * s + 7 * l = kqy184 by omega]; exact hlyn
                            · exact (hly1 s l (by omega) (by omega)).ext (fun j b1 b2 => hfry764 j (by omega) (by omega) (by omega) (by omega) (by omega) (by omega) (by omega))
                          · have hs9 := hfry763 s e; rw [hs9] at a2; have hm9 := hmn1 s (by omega); exact (hly1 s l (by omega) a2).ext (fun j b1 b2 => hfry764 j (by omega) (by omega) (by omega) (by omega) (by omega) (by omega) (by omega))
                        have hgy772 := (hfvy11 (i + 16) (ne_o (i := i) (c := 16) (d := 0) rfl)).trans ha16
                        have hgy773 := (hfvy41 (i + 16) (ne_o (i := i) (c := 16) (d := 0) rfl)).trans hgy772
                        have hgy774 := (hfvy79 (i + 16) (ne_o (i := i) (c := 16) (d := 0) rfl)).trans hgy773
                        have hgy775 := (hfvy125 (i + 16) (ne_o (i := i) (c := 16) (d := 0) rfl)).trans hgy774
                        have hgy776 := (hfvy181 (i + 16) (ne_o (i := i) (c := 16) (d := 0) rfl)).trans hgy775
                        have hgy777 := (hfvy190 (i + 16) (ne_o (i := i) (c := 16) (d := 0) rfl)).trans hgy776
                        have hgy778 := (hfvy194 (i + 16) (ne_o (i := i) (c := 16) (d := 0) rfl)).trans hgy777
                        have hgy779 := up_n egy205 hgy778 (ne_o (i := i) (c := 16) (d := 23) rfl)
                        have hgy780 := (hfvy213 (i + 16) (ne_o (i := i) (c := 16) (d := 0) rfl)).trans hgy779
                        have hgy781 := (hfvy215 (i + 16) (ne_o (i := i) (c := 16) (d := 0) rfl)).trans hgy780
                        have hgy782 := up_n egy219 hgy781 (ne_o (i := i) (c := 16) (d := 23) rfl)
                        have hgy783 := (hfvy226 (i + 16) (ne_o (i := i) (c := 16) (d := 0) rfl)).trans hgy782
                        have hgy784 := up_n egy229 hgy783 (ne_o (i := i) (c := 16) (d := 23) rfl)
                        have hgy785 := (hfvy342 (i + 16) (ne_o (i := i) (c := 16) (d := 0) rfl)).trans hgy784
                        have hgy786 := (hfvy344 (i + 16) (ne_o (i := i) (c := 16) (d := 0) rfl)).trans hgy785
                        have hgy787 := (hfvy469 (i + 16) (ne_o (i := i) (c := 16) (d := 0) rfl)).trans hgy786
                        have hgy788 := up_n egy472 hgy787 (ne_o (i := i) (c := 16) (d := 23) rfl)
                        have hgy789 := (hfvy483 (i + 16) (ne_o (i := i) (c := 16) (d := 0) rfl)).trans hgy788
                        have hgy790 := (hfvy485 (i + 16) (ne_o (i := i) (c := 16) (d := 0) rfl)).trans hgy789
                        have hgy791 := up_n egy706 hgy790 (ne_o (i := i) (c := 16) (d := 23) rfl)
                        have hgy792 := up_n egy712 hgy791 (ne_o (i := i) (c := 16) (d := 23) rfl)
                        have hgy793 := up_n egy718 hgy792 (ne_o (i := i) (c := 16) (d := 23) rfl)
                        have hgy794 := up_n egy742 hgy793 (ne_o (i := i) (c := 16) (d := 18) rfl)
                        have hgy795 := up_n egy748 hgy794 (ne_o (i := i) (c := 16) (d := 0) rfl)
                        have hgy796 := (hfvy11 (i + 17) (ne_o (i := i) (c := 17) (d := 0) rfl)).trans ha17
                        have hgy797 := (hfvy41 (i + 17) (ne_o (i := i) (c := 17) (d := 0) rfl)).trans hgy796
                        have hgy798 := (hfvy79 (i + 17) (ne_o (i := i) (c := 17) (d := 0) rfl)).trans hgy797
                        have hgy799 := (hfvy125 (i + 17) (ne_o (i := i) (c := 17) (d := 0) rfl)).trans hgy798
                        have hgy800 := (hfvy181 (i + 17) (ne_o (i := i) (c := 17) (d := 0) rfl)).trans hgy799
                        have hgy801 := (hfvy190 (i + 17) (ne_o (i := i) (c := 17) (d := 0) rfl)).trans hgy800
                        have hgy802 := (hfvy194 (i + 17) (ne_o (i := i) (c := 17) (d := 0) rfl)).trans hgy801
                        have hgy803 := up_n egy205 hgy802 (ne_o (i := i) (c := 17) (d := 23) rfl)
                        have hgy804 := (hfvy213 (i + 17) (ne_o (i := i) (c := 17) (d := 0) rfl)).trans hgy803
                        have hgy805 := (hfvy215 (i + 17) (ne_o (i := i) (c := 17) (d := 0) rfl)).trans hgy804
                        have hgy806 := up_n egy219 hgy805 (ne_o (i := i) (c := 17) (d := 23) rfl)
                        have hgy807 := (hfvy226 (i + 17) (ne_o (i := i) (c := 17) (d := 0) rfl)).trans hgy806
                        have hgy808 := up_n egy229 hgy807 (ne_o (i := i) (c := 17) (d := 23) rfl)
                        have hgy809 := (hfvy342 (i + 17) (ne_o (i := i) (c := 17) (d := 0) rfl)).trans hgy808
                        have hgy810 := (hfvy344 (i + 17) (ne_o (i := i) (c := 17) (d := 0) rfl)).trans hgy809
                        have hgy811 := (hfvy469 (i + 17) (ne_o (i := i) (c := 17) (d := 0) rfl)).trans hgy810
                        have hgy812 := up_n egy472 hgy811 (ne_o (i := i) (c := 17) (d := 23) rfl)
                        have hgy813 := (hfvy483 (i + 17) (ne_o (i := i) (c := 17) (d := 0) rfl)).trans hgy812
                        have hgy814 := (hfvy485 (i + 17) (ne_o (i := i) (c := 17) (d := 0) rfl)).trans hgy813
                        have hgy815 := up_n egy706 hgy814 (ne_o (i := i) (c := 17) (d := 23) rfl)
                        have hgy816 := up_n egy712 hgy815 (ne_o (i := i) (c := 17) (d := 23) rfl)
                        have hgy817 := up_n egy718 hgy816 (ne_o (i := i) (c := 17) (d := 23) rfl)
                        have hgy818 := up_n egy742 hgy817 (ne_o (i := i) (c := 17) (d := 18) rfl)
                        have hgy819 := up_n egy748 hgy818 (ne_o (i := i) (c := 17) (d := 0) rfl)
                        have hgy820 := up_n egy748 hgy743 (ne_o (i := i) (c := 18) (d := 0) rfl)
                        have hgy821 := (hfvy11 (i + 19) (ne_o (i := i) (c := 19) (d := 0) rfl)).trans ha19
                        have hgy822 := (hfvy41 (i + 19) (ne_o (i := i) (c := 19) (d := 0) rfl)).trans hgy821
                        have hgy823 := (hfvy79 (i + 19) (ne_o (i := i) (c := 19) (d := 0) rfl)).trans hgy822
                        have hgy824 := (hfvy125 (i + 19) (ne_o (i := i) (c := 19) (d := 0) rfl)).trans hgy823
                        have hgy825 := (hfvy181 (i + 19) (ne_o (i := i) (c := 19) (d := 0) rfl)).trans hgy824
                        have hgy826 := (hfvy190 (i + 19) (ne_o (i := i) (c := 19) (d := 0) rfl)).trans hgy825
                        have hgy827 := (hfvy194 (i + 19) (ne_o (i := i) (c := 19) (d := 0) rfl)).trans hgy826
                        have hgy828 := up_n egy205 hgy827 (ne_o (i := i) (c := 19) (d := 23) rfl)
                        have hgy829 := (hfvy213 (i + 19) (ne_o (i := i) (c := 19) (d := 0) rfl)).trans hgy828
                        have hgy830 := (hfvy215 (i + 19) (ne_o (i := i) (c := 19) (d := 0) rfl)).trans hgy829
                        have hgy831 := up_n egy219 hgy830 (ne_o (i := i) (c := 19) (d := 23) rfl)
                        have hgy832 := (hfvy226 (i + 19) (ne_o (i := i) (c := 19) (d := 0) rfl)).trans hgy831
                        have hgy833 := up_n egy229 hgy832 (ne_o (i := i) (c := 19) (d := 23) rfl)
                        have hgy834 := (hfvy342 (i + 19) (ne_o (i := i) (c := 19) (d := 0) rfl)).trans hgy833
                        have hgy835 := (hfvy344 (i + 19) (ne_o (i := i) (c := 19) (d := 0) rfl)).trans hgy834
                        have hgy836 := (hfvy469 (i + 19) (ne_o (i := i) (c := 19) (d := 0) rfl)).trans hgy835
                        have hgy837 := up_n egy472 hgy836 (ne_o (i := i) (c := 19) (d := 23) rfl)
                        have hgy838 := (hfvy483 (i + 19) (ne_o (i := i) (c := 19) (d := 0) rfl)).trans hgy837
                        have hgy839 := (hfvy485 (i + 19) (ne_o (i := i) (c := 19) (d := 0) rfl)).trans hgy838
                        have hgy840 := up_n egy706 hgy839 (ne_o (i := i) (c := 19) (d := 23) rfl)
                        have hgy841 := up_n egy712 hgy840 (ne_o (i := i) (c := 19) (d := 23) rfl)
                        have hgy842 := up_n egy718 hgy841 (ne_o (i := i) (c := 19) (d := 23) rfl)
                        have hgy843 := up_n egy742 hgy842 (ne_o (i := i) (c := 19) (d := 18) rfl)
                        have hgy844 := up_n egy748 hgy843 (ne_o (i := i) (c := 19) (d := 0) rfl)
                        have hgy845 := (hfvy11 (i + 20) (ne_o (i := i) (c := 20) (d := 0) rfl)).trans ha20
                        have hgy846 := (hfvy41 (i + 20) (ne_o (i := i) (c := 20) (d := 0) rfl)).trans hgy845
                        have hgy847 := (hfvy79 (i + 20) (ne_o (i := i) (c := 20) (d := 0) rfl)).trans hgy846
                        have hgy848 := (hfvy125 (i + 20) (ne_o (i := i) (c := 20) (d := 0) rfl)).trans hgy847
                        have hgy849 := (hfvy181 (i + 20) (ne_o (i := i) (c := 20) (d := 0) rfl)).trans hgy848
                        have hgy850 := (hfvy190 (i + 20) (ne_o (i := i) (c := 20) (d := 0) rfl)).trans hgy849
                        have hgy851 := (hfvy194 (i + 20) (ne_o (i := i) (c := 20) (d := 0) rfl)).trans hgy850
                        have hgy852 := up_n egy205 hgy851 (ne_o (i := i) (c := 20) (d := 23) rfl)
                        have hgy853 := (hfvy213 (i + 20) (ne_o (i := i) (c := 20) (d := 0) rfl)).trans hgy852
                        have hgy854 := (hfvy215 (i + 20) (ne_o (i := i) (c := 20) (d := 0) rfl)).trans hgy853
                        have hgy855 := up_n egy219 hgy854 (ne_o (i := i) (c := 20) (d := 23) rfl)
                        have hgy856 := (hfvy226 (i + 20) (ne_o (i := i) (c := 20) (d := 0) rfl)).trans hgy855
                        have hgy857 := up_n egy229 hgy856 (ne_o (i := i) (c := 20) (d := 23) rfl)
                        have hgy858 := (hfvy342 (i + 20) (ne_o (i := i) (c := 20) (d := 0) rfl)).trans hgy857
                        have hgy859 := (hfvy344 (i + 20) (ne_o (i := i) (c := 20) (d := 0) rfl)).trans hgy858
                        have hgy860 := (hfvy469 (i + 20) (ne_o (i := i) (c := 20) (d := 0) rfl)).trans hgy859
                        have hgy861 := up_n egy472 hgy860 (ne_o (i := i) (c := 20) (d := 23) rfl)
                        have hgy862 := (hfvy483 (i + 20) (ne_o (i := i) (c := 20) (d := 0) rfl)).trans hgy861
                        have hgy863 := (hfvy485 (i + 20) (ne_o (i := i) (c := 20) (d := 0) rfl)).trans hgy862
                        have hgy864 := up_n egy706 hgy863 (ne_o (i := i) (c := 20) (d := 23) rfl)
                        have hgy865 := up_n egy712 hgy864 (ne_o (i := i) (c := 20) (d := 23) rfl)
                        have hgy866 := up_n egy718 hgy865 (ne_o (i := i) (c := 20) (d := 23) rfl)
                        have hgy867 := up_n egy742 hgy866 (ne_o (i := i) (c := 20) (d := 18) rfl)
                        have hgy868 := up_n egy748 hgy867 (ne_o (i := i) (c := 20) (d := 0) rfl)
                        have hgy869 := (hfvy11 (i + 21) (ne_o (i := i) (c := 21) (d := 0) rfl)).trans ha21
                        have hgy870 := (hfvy41 (i + 21) (ne_o (i := i) (c := 21) (d := 0) rfl)).trans hgy869
                        have hgy871 := (hfvy79 (i + 21) (ne_o (i := i) (c := 21) (d := 0) rfl)).trans hgy870
                        have hgy872 := (hfvy125 (i + 21) (ne_o (i := i) (c := 21) (d := 0) rfl)).trans hgy871
                        have hgy873 := (hfvy181 (i + 21) (ne_o (i := i) (c := 21) (d := 0) rfl)).trans hgy872
                        have hgy874 := (hfvy190 (i + 21) (ne_o (i := i) (c := 21) (d := 0) rfl)).trans hgy873
                        have hgy875 := (hfvy194 (i + 21) (ne_o (i := i) (c := 21) (d := 0) rfl)).trans hgy874
                        have hgy876 := up_n egy205 hgy875 (ne_o (i := i) (c := 21) (d := 23) rfl)
                        have hgy877 := (hfvy213 (i + 21) (ne_o (i := i) (c := 21) (d := 0) rfl)).trans hgy876
                        have hgy878 := (hfvy215 (i + 21) (ne_o (i := i) (c := 21) (d := 0) rfl)).trans hgy877
                        have hgy879 := up_n egy219 hgy878 (ne_o (i := i) (c := 21) (d := 23) rfl)
                        have hgy880 := (hfvy226 (i + 21) (ne_o (i := i) (c := 21) (d := 0) rfl)).trans hgy879
                        have hgy881 := up_n egy229 hgy880 (ne_o (i := i) (c := 21) (d := 23) rfl)
                        have hgy882 := (hfvy342 (i + 21) (ne_o (i := i) (c := 21) (d := 0) rfl)).trans hgy881
                        have hgy883 := (hfvy344 (i + 21) (ne_o (i := i) (c := 21) (d := 0) rfl)).trans hgy882
                        have hgy884 := (hfvy469 (i + 21) (ne_o (i := i) (c := 21) (d := 0) rfl)).trans hgy883
                        have hgy885 := up_n egy472 hgy884 (ne_o (i := i) (c := 21) (d := 23) rfl)
                        have hgy886 := (hfvy483 (i + 21) (ne_o (i := i) (c := 21) (d := 0) rfl)).trans hgy885
                        have hgy887 := (hfvy485 (i + 21) (ne_o (i := i) (c := 21) (d := 0) rfl)).trans hgy886
                        have hgy888 := up_n egy706 hgy887 (ne_o (i := i) (c := 21) (d := 23) rfl)
                        have hgy889 := up_n egy712 hgy888 (ne_o (i := i) (c := 21) (d := 23) rfl)
                        have hgy890 := up_n egy718 hgy889 (ne_o (i := i) (c := 21) (d := 23) rfl)
                        have hgy891 := up_n egy742 hgy890 (ne_o (i := i) (c := 21) (d := 18) rfl)
                        have hgy892 := up_n egy748 hgy891 (ne_o (i := i) (c := 21) (d := 0) rfl)
                        have hgy893 := (hfvy11 (i + 22) (ne_o (i := i) (c := 22) (d := 0) rfl)).trans ha22
                        have hgy894 := (hfvy41 (i + 22) (ne_o (i := i) (c := 22) (d := 0) rfl)).trans hgy893
                        have hgy895 := (hfvy79 (i + 22) (ne_o (i := i) (c := 22) (d := 0) rfl)).trans hgy894
                        have hgy896 := (hfvy125 (i + 22) (ne_o (i := i) (c := 22) (d := 0) rfl)).trans hgy895
                        have hgy897 := (hfvy181 (i + 22) (ne_o (i := i) (c := 22) (d := 0) rfl)).trans hgy896
                        have hgy898 := (hfvy190 (i + 22) (ne_o (i := i) (c := 22) (d := 0) rfl)).trans hgy897
                        have hgy899 := (hfvy194 (i + 22) (ne_o (i := i) (c := 22) (d := 0) rfl)).trans hgy898
                        have hgy900 := up_n egy205 hgy899 (ne_o (i := i) (c := 22) (d := 23) rfl)
                        have hgy901 := (hfvy213 (i + 22) (ne_o (i := i) (c := 22) (d := 0) rfl)).trans hgy900
                        have hgy902 := (hfvy215 (i + 22) (ne_o (i := i) (c := 22) (d := 0) rfl)).trans hgy901
                        have hgy903 := up_n egy219 hgy902 (ne_o (i := i) (c := 22) (d := 23) rfl)
                        have hgy904 := (hfvy226 (i + 22) (ne_o (i := i) (c := 22) (d := 0) rfl)).trans hgy903
                        have hgy905 := up_n egy229 hgy904 (ne_o (i := i) (c := 22) (d := 23) rfl)
                        have hgy906 := (hfvy342 (i + 22) (ne_o (i := i) (c := 22) (d := 0) rfl)).trans hgy905
                        have hgy907 := (hfvy344 (i + 22) (ne_o (i := i) (c := 22) (d := 0) rfl)).trans hgy906
                        have hgy908 := (hfvy469 (i + 22) (ne_o (i := i) (c := 22) (d := 0) rfl)).trans hgy907
                        have hgy909 := up_n egy472 hgy908 (ne_o (i := i) (c := 22) (d := 23) rfl)
                        have hgy910 := (hfvy483 (i + 22) (ne_o (i := i) (c := 22) (d := 0) rfl)).trans hgy909
                        have hgy911 := (hfvy485 (i + 22) (ne_o (i := i) (c := 22) (d := 0) rfl)).trans hgy910
                        have hgy912 := up_n egy706 hgy911 (ne_o (i := i) (c := 22) (d := 23) rfl)
                        have hgy913 := up_n egy712 hgy912 (ne_o (i := i) (c := 22) (d := 23) rfl)
                        have hgy914 := up_n egy718 hgy913 (ne_o (i := i) (c := 22) (d := 23) rfl)
                        have hgy915 := up_n egy742 hgy914 (ne_o (i := i) (c := 22) (d := 18) rfl)
                        have hgy916 := up_n egy748 hgy915 (ne_o (i := i) (c := 22) (d := 0) rfl)
                        have hgy917 := up_n egy742 hgy719 (ne_o (i := i) (c := 23) (d := 18) rfl)
                        have hgy918 := up_n egy748 hgy917 (ne_o (i := i) (c := 23) (d := 0) rfl)
                        have htxy919 : okTx cs gy747 i (uZ Fvy485 49 ((F 49) + 1)) := ⟨_, _, _, _, _, _, _, _, ⟨hgy795, hgy819, hgy820, hgy844, hgy868, hgy892, hgy916, hgy918⟩, ⟨⟨by omega, by omega, by omega⟩, hop1, haky758, hai1, hfa1, htb1, hlay762⟩⟩
                        exact z_vret C hr hlk dX10_layer1_348 (by decide) (by decide) ⟨rfl, rfl, rfl, ⟨_, hgy749, (RD.put hdvy485 (by decide)), by omega, by omega, hFy750, htxy919⟩, fun j j1 j2 => by rw [egy748, va_up_ne _ _ (by omega)]; rw [egy742, va_up_ne _ _ (by omega)]; rw [egy718, va_up_ne _ _ (by omega)]; rw [egy712, va_up_ne _ _ (by omega)]; rw [egy706, va_up_ne _ _ (by omega)]; rw [hfvy485 _ (by omega)]; rw [hfvy483 _ (by omega)]; rw [egy472, va_up_ne _ _ (by omega)]; rw [hfvy469 _ (by omega)]; rw [hfvy344 _ (by omega)]; rw [hfvy342 _ (by omega)]; rw [egy229, va_up_ne _ _ (by omega)]; rw [hfvy226 _ (by omega)]; rw [egy219, va_up_ne _ _ (by omega)]; rw [hfvy215 _ (by omega)]; rw [hfvy213 _ (by omega)]; rw [egy205, va_up_ne _ _ (by omega)]; rw [hfvy194 _ (by omega)]; rw [hfvy190 _ (by omega)]; rw [hfvy181 _ (by omega)]; rw [hfvy125 _ (by omega)]; rw [hfvy79 _ (by omega)]; rw [hfvy41 _ (by omega)]; rw [hfvy11 _ (by omega)]⟩
                  · clear hxvy343
                    refine z_iconst (z := 2) C dX10_layer1_228 rfl ?_
                    have h38vy920 : Fvy342 38 = 0 := e38vy342
                    refine z_cV (As := [.int (zI (0)), .int (zI (2))]) (rest := []) (ci := 12) C (c_X10_wants l D A cs tt N ad _ i hN _ hcvy342 (by omega) (0) (by omega) (2) (by omega)) (by omega) hay1 hcvy342 rfl rfl mv_yX10_wants q_1678 hd_yX10_wants (by decide) (Nat.le_of_ble_eq_true rfl) (by decide) dX10_layer1_229 rfl (kI0 fun vy920 gvy920 hvy920 => ?_)
                    obtain ⟨⟨Fvy920, hcvy920, hqvy920, hbvy920, hFvy920⟩, hfvy920⟩ := hvy920
                    have hdvy920 : RD Fvy920 := RD.w hdvy342 hFvy920 hbvy920
                    obtain rfl : vy920 = 0 := by omega
                    have e38vy920 : 1 ≤ Fvy920 38 := by omega
                    clear hqvy920
                    refine z_if_eq (tgt := 272) C dX10_layer1_232 (by decide) (by omega) (fun _ => ?_) (fun h => absurd h (by omega))
                    have hFy921 : ∀ f, f ≠ 24 → f ≠ 32 → f ≠ 33 → f ≠ 35 → f ≠ 36 → f ≠ 37 → f ≠ 38 → f ≠ 47 → f ≠ 48 → f ≠ 49 → Fvy920 f = F f := fun f n24 n32 n33 n35 n36 n37 n38 n47 n48 n49 => ((hFvy920 f n24 n38).trans ((hFvy342 f n24 n38).trans ((hFvy226 f n24 n32 n33 n35 n36 n37 n38).trans ((hFvy215 f n24 n32 n33 n35 n36 n37 n38).trans ((hFvy213 f n32 n33 n35 n36 n37).trans ((hFvy194 f n24 n38).trans ((hFvy190 f n32 n33 n35 n36 n37).trans ((hFvy181 f n24 n38).trans ((hFvy125 f n24 n38).trans ((hFvy79 f n24 n38).trans ((hFvy41 f n24 n38).trans (hFvy11 f n32 n33 n35 n36 n37))))))))))))
                    have hey922 : Fvy920 32 = Fvy226 32 := ((hFvy920 32 (by decide) (by decide)).trans (hFvy342 32 (by decide) (by decide)))
                    have hey923 : Fvy920 35 = Fvy226 35 := ((hFvy920 35 (by decide) (by decide)).trans (hFvy342 35 (by decide) (by decide)))
                    have hey924 : Fvy920 38 = Fvy920 38 := rfl
                    have hey925 : Fvy920 32 = Fvy226 32 := ((hFvy920 32 (by decide) (by decide)).trans (hFvy342 32 (by decide) (by decide)))
                    have hey926 : Fvy920 47 = F 47 := ((hFvy920 47 (by decide) (by decide)).trans ((hFvy342 47 (by decide) (by decide)).trans ((hFvy226 47 (by decide) (by decide) (by decide) (by decide) (by decide) (by decide) (by decide)).trans ((hFvy215 47 (by decide) (by decide) (by decide) (by decide) (by decide) (by decide) (by decide)).trans ((hFvy213 47 (by decide) (by decide) (by decide) (by decide) (by decide)).trans ((hFvy194 47 (by decide) (by decide)).trans ((hFvy190 47 (by decide) (by decide) (by decide) (by decide) (by decide)).trans ((hFvy181 47 (by decide) (by decide)).trans ((hFvy125 47 (by decide) (by decide)).trans ((hFvy79 47 (by decide) (by decide)).trans ((hFvy41 47 (by decide) (by decide)).trans (hFvy11 47 (by decide) (by decide) (by decide) (by decide) (by decide)))))))))))))
                    have hey927 : Fvy920 48 = F 48 := ((hFvy920 48 (by decide) (by decide)).trans ((hFvy342 48 (by decide) (by decide)).trans ((hFvy226 48 (by decide) (by decide) (by decide) (by decide) (by decide) (by decide) (by decide)).trans ((hFvy215 48 (by decide) (by decide) (by decide) (by decide) (by decide) (by decide) (by decide)).trans ((hFvy213 48 (by decide) (by decide) (by decide) (by decide) (by decide)).trans ((hFvy194 48 (by decide) (by decide)).trans ((hFvy190 48 (by decide) (by decide) (by decide) (by decide) (by decide)).trans ((hFvy181 48 (by decide) (by decide)).trans ((hFvy125 48 (by decide) (by decide)).trans ((hFvy79 48 (by decide) (by decide)).trans ((hFvy41 48 (by decide) (by decide)).trans (hFvy11 48 (by decide) (by decide) (by decide) (by decide) (by decide)))))))))))))
                    have hey928 : Fvy920 49 = F 49 := ((hFvy920 49 (by decide) (by decide)).trans ((hFvy342 49 (by decide) (by decide)).trans ((hFvy226 49 (by decide) (by decide) (by decide) (by decide) (by decide) (by decide) (by decide)).trans ((hFvy215 49 (by decide) (by decide) (by decide) (by decide) (by decide) (by decide) (by decide)).trans ((hFvy213 49 (by decide) (by decide) (by decide) (by decide) (by decide)).trans ((hFvy194 49 (by decide) (by decide)).trans ((hFvy190 49 (by decide) (by decide) (by decide) (by decide) (by decide)).trans ((hFvy181 49 (by decide) (by decide)).trans ((hFvy125 49 (by decide) (by decide)).trans ((hFvy79 49 (by decide) (by decide)).trans ((hFvy41 49 (by decide) (by decide)).trans (hFvy11 49 (by decide) (by decide) (by decide) (by decide) (by decide)))))))))))))
                    have hfry931 : ∀ j, j ≠ kqy184 + 2 → j ≠ kqy184 + 1 → j ≠ kqy184 → ry231 j = ly1 j := fun j n0 n1 n2 => (congrFun hvy232 _).trans ((uZ_n _ _ n0).trans ((congrFun hvy222 _).trans ((uZ_n _ _ n1).trans ((congrFun hvy208 _).trans ((uZ_n _ _ n2).trans (rfl))))))
                    have hlay930 : ∀ s l : Nat, (s : Int) < Fvy920 47 → (l : Int) < mn1 s → lyT ry231 (84 * s + 7 * l) := by
                      intro s l a1 a2
                      have hm9 := hmn1 s (by omega)
                      by_cases e : s = ny126
                      · subst e; exact (hly1 s l (by omega) a2).ext (fun j b1 b2 => hfry931 j (by omega) (by omega) (by omega))
                      · exact (hly1 s l (by omega) a2).ext (fun j b1 b2 => hfry931 j (by omega) (by omega) (by omega))
                    have hgy932 := (hfvy11 (i + 16) (ne_o (i := i) (c := 16) (d := 0) rfl)).trans ha16
                    have hgy933 := (hfvy41 (i + 16) (ne_o (i := i) (c := 16) (d := 0) rfl)).trans hgy932
                    have hgy934 := (hfvy79 (i + 16) (ne_o (i := i) (c := 16) (d := 0) rfl)).trans hgy933
                    have hgy935 := (hfvy125 (i + 16) (ne_o (i := i) (c := 16) (d := 0) rfl)).trans hgy934
                    have hgy936 := (hfvy181 (i + 16) (ne_o (i := i) (c := 16) (d := 0) rfl)).trans hgy935
                    have hgy937 := (hfvy190 (i + 16) (ne_o (i := i) (c := 16) (d := 0) rfl)).trans hgy936
                    have hgy938 := (hfvy194 (i + 16) (ne_o (i := i) (c := 16) (d := 0) rfl)).trans hgy937
                    have hgy939 := up_n egy205 hgy938 (ne_o (i := i) (c := 16) (d := 23) rfl)
                    have hgy940 := (hfvy213 (i + 16) (ne_o (i := i) (c := 16) (d := 0) rfl)).trans hgy939
                    have hgy941 := (hfvy215 (i + 16) (ne_o (i := i) (c := 16) (d := 0) rfl)).trans hgy940
                    have hgy942 := up_n egy219 hgy941 (ne_o (i := i) (c := 16) (d := 23) rfl)
                    have hgy943 := (hfvy226 (i + 16) (ne_o (i := i) (c := 16) (d := 0) rfl)).trans hgy942
                    have hgy944 := up_n egy229 hgy943 (ne_o (i := i) (c := 16) (d := 23) rfl)
                    have hgy945 := (hfvy342 (i + 16) (ne_o (i := i) (c := 16) (d := 0) rfl)).trans hgy944
                    have hgy946 := (hfvy920 (i + 16) (ne_o (i := i) (c := 16) (d := 0) rfl)).trans hgy945
                    have hgy947 := (hfvy11 (i + 17) (ne_o (i := i) (c := 17) (d := 0) rfl)).trans ha17
                    have hgy948 := (hfvy41 (i + 17) (ne_o (i := i) (c := 17) (d := 0) rfl)).trans hgy947
                    have hgy949 := (hfvy79 (i + 17) (ne_o (i := i) (c := 17) (d := 0) rfl)).trans hgy948
                    have hgy950 := (hfvy125 (i + 17) (ne_o (i := i) (c := 17) (d := 0) rfl)).trans hgy949
                    have hgy951 := (hfvy181 (i + 17) (ne_o (i := i) (c := 17) (d := 0) rfl)).trans hgy950
                    have hgy952 := (hfvy190 (i + 17) (ne_o (i := i) (c := 17) (d := 0) rfl)).trans hgy951
                    have hgy953 := (hfvy194 (i + 17) (ne_o (i := i) (c := 17) (d := 0) rfl)).trans hgy952
                    have hgy954 := up_n egy205 hgy953 (ne_o (i := i) (c := 17) (d := 23) rfl)
                    have hgy955 := (hfvy213 (i + 17) (ne_o (i := i) (c := 17) (d := 0) rfl)).trans hgy954
                    have hgy956 := (hfvy215 (i + 17) (ne_o (i := i) (c := 17) (d := 0) rfl)).trans hgy955
                    have hgy957 := up_n egy219 hgy956 (ne_o (i := i) (c := 17) (d := 23) rfl)
                    have hgy958 := (hfvy226 (i + 17) (ne_o (i := i) (c := 17) (d := 0) rfl)).trans hgy957
                    have hgy959 := up_n egy229 hgy958 (ne_o (i := i) (c := 17) (d := 23) rfl)
                    have hgy960 := (hfvy342 (i + 17) (ne_o (i := i) (c := 17) (d := 0) rfl)).trans hgy959
                    have hgy961 := (hfvy920 (i + 17) (ne_o (i := i) (c := 17) (d := 0) rfl)).trans hgy960
                    have hgy962 := (hfvy190 (i + 18) (ne_o (i := i) (c := 18) (d := 0) rfl)).trans hgy182
                    have hgy963 := (hfvy194 (i + 18) (ne_o (i := i) (c := 18) (d := 0) rfl)).trans hgy962
                    have hgy964 := up_n egy205 hgy963 (ne_o (i := i) (c := 18) (d := 23) rfl)
                    have hgy965 := (hfvy213 (i + 18) (ne_o (i := i) (c := 18) (d := 0) rfl)).trans hgy964
                    have hgy966 := (hfvy215 (i + 18) (ne_o (i := i) (c := 18) (d := 0) rfl)).trans hgy965
                    have hgy967 := up_n egy219 hgy966 (ne_o (i := i) (c := 18) (d := 23) rfl)
                    have hgy968 := (hfvy226 (i + 18) (ne_o (i := i) (c := 18) (d := 0) rfl)).trans hgy967
                    have hgy969 := up_n egy229 hgy968 (ne_o (i := i) (c := 18) (d := 23) rfl)
                    have hgy970 := (hfvy342 (i + 18) (ne_o (i := i) (c := 18) (d := 0) rfl)).trans hgy969
                    have hgy971 := (hfvy920 (i + 18) (ne_o (i := i) (c := 18) (d := 0) rfl)).trans hgy970
                    have hgy972 := (hfvy11 (i + 19) (ne_o (i := i) (c := 19) (d := 0) rfl)).trans ha19
                    have hgy973 := (hfvy41 (i + 19) (ne_o (i := i) (c := 19) (d := 0) rfl)).trans hgy972
                    have hgy974 := (hfvy79 (i + 19) (ne_o (i := i) (c := 19) (d := 0) rfl)).trans hgy973
                    have hgy975 := (hfvy125 (i + 19) (ne_o (i := i) (c := 19) (d := 0) rfl)).trans hgy974
                    have hgy976 := (hfvy181 (i + 19) (ne_o (i := i) (c := 19) (d := 0) rfl)).trans hgy975
                    have hgy977 := (hfvy190 (i + 19) (ne_o (i := i) (c := 19) (d := 0) rfl)).trans hgy976
                    have hgy978 := (hfvy194 (i + 19) (ne_o (i := i) (c := 19) (d := 0) rfl)).trans hgy977
                    have hgy979 := up_n egy205 hgy978 (ne_o (i := i) (c := 19) (d := 23) rfl)
                    have hgy980 := (hfvy213 (i + 19) (ne_o (i := i) (c := 19) (d := 0) rfl)).trans hgy979
                    have hgy981 := (hfvy215 (i + 19) (ne_o (i := i) (c := 19) (d := 0) rfl)).trans hgy980
                    have hgy982 := up_n egy219 hgy981 (ne_o (i := i) (c := 19) (d := 23) rfl)
                    have hgy983 := (hfvy226 (i + 19) (ne_o (i := i) (c := 19) (d := 0) rfl)).trans hgy982
                    have hgy984 := up_n egy229 hgy983 (ne_o (i := i) (c := 19) (d := 23) rfl)
                    have hgy985 := (hfvy342 (i + 19) (ne_o (i := i) (c := 19) (d := 0) rfl)).trans hgy984
                    have hgy986 := (hfvy920 (i + 19) (ne_o (i := i) (c := 19) (d := 0) rfl)).trans hgy985
                    have hgy987 := (hfvy11 (i + 20) (ne_o (i := i) (c := 20) (d := 0) rfl)).trans ha20
                    have hgy988 := (hfvy41 (i + 20) (ne_o (i := i) (c := 20) (d := 0) rfl)).trans hgy987
                    have hgy989 := (hfvy79 (i + 20) (ne_o (i := i) (c := 20) (d := 0) rfl)).trans hgy988
                    have hgy990 := (hfvy125 (i + 20) (ne_o (i := i) (c := 20) (d := 0) rfl)).trans hgy989
                    have hgy991 := (hfvy181 (i + 20) (ne_o (i := i) (c := 20) (d := 0) rfl)).trans hgy990
                    have hgy992 := (hfvy190 (i + 20) (ne_o (i := i) (c := 20) (d := 0) rfl)).trans hgy991
                    have hgy993 := (hfvy194 (i + 20) (ne_o (i := i) (c := 20) (d := 0) rfl)).trans hgy992
                    have hgy994 := up_n egy205 hgy993 (ne_o (i := i) (c := 20) (d := 23) rfl)
                    have hgy995 := (hfvy213 (i + 20) (ne_o (i := i) (c := 20) (d := 0) rfl)).trans hgy994
                    have hgy996 := (hfvy215 (i + 20) (ne_o (i := i) (c := 20) (d := 0) rfl)).trans hgy995
                    have hgy997 := up_n egy219 hgy996 (ne_o (i := i) (c := 20) (d := 23) rfl)
                    have hgy998 := (hfvy226 (i + 20) (ne_o (i := i) (c := 20) (d := 0) rfl)).trans hgy997
                    have hgy999 := up_n egy229 hgy998 (ne_o (i := i) (c := 20) (d := 23) rfl)
                    have hgy1000 := (hfvy342 (i + 20) (ne_o (i := i) (c := 20) (d := 0) rfl)).trans hgy999
                    have hgy1001 := (hfvy920 (i + 20) (ne_o (i := i) (c := 20) (d := 0) rfl)).trans hgy1000
                    have hgy1002 := (hfvy11 (i + 21) (ne_o (i := i) (c := 21) (d := 0) rfl)).trans ha21
                    have hgy1003 := (hfvy41 (i + 21) (ne_o (i := i) (c := 21) (d := 0) rfl)).trans hgy1002
                    have hgy1004 := (hfvy79 (i + 21) (ne_o (i := i) (c := 21) (d := 0) rfl)).trans hgy1003
                    have hgy1005 := (hfvy125 (i + 21) (ne_o (i := i) (c := 21) (d := 0) rfl)).trans hgy1004
                    have hgy1006 := (hfvy181 (i + 21) (ne_o (i := i) (c := 21) (d := 0) rfl)).trans hgy1005
                    have hgy1007 := (hfvy190 (i + 21) (ne_o (i := i) (c := 21) (d := 0) rfl)).trans hgy1006
                    have hgy1008 := (hfvy194 (i + 21) (ne_o (i := i) (c := 21) (d := 0) rfl)).trans hgy1007
                    have hgy1009 := up_n egy205 hgy1008 (ne_o (i := i) (c := 21) (d := 23) rfl)
                    have hgy1010 := (hfvy213 (i + 21) (ne_o (i := i) (c := 21) (d := 0) rfl)).trans hgy1009
                    have hgy1011 := (hfvy215 (i + 21) (ne_o (i := i) (c := 21) (d := 0) rfl)).trans hgy1010
                    have hgy1012 := up_n egy219 hgy1011 (ne_o (i := i) (c := 21) (d := 23) rfl)
                    have hgy1013 := (hfvy226 (i + 21) (ne_o (i := i) (c := 21) (d := 0) rfl)).trans hgy1012
                    have hgy1014 := up_n egy229 hgy1013 (ne_o (i := i) (c := 21) (d := 23) rfl)
                    have hgy1015 := (hfvy342 (i + 21) (ne_o (i := i) (c := 21) (d := 0) rfl)).trans hgy1014
                    have hgy1016 := (hfvy920 (i + 21) (ne_o (i := i) (c := 21) (d := 0) rfl)).trans hgy1015
                    have hgy1017 := (hfvy11 (i + 22) (ne_o (i := i) (c := 22) (d := 0) rfl)).trans ha22
                    have hgy1018 := (hfvy41 (i + 22) (ne_o (i := i) (c := 22) (d := 0) rfl)).trans hgy1017
                    have hgy1019 := (hfvy79 (i + 22) (ne_o (i := i) (c := 22) (d := 0) rfl)).trans hgy1018
                    have hgy1020 := (hfvy125 (i + 22) (ne_o (i := i) (c := 22) (d := 0) rfl)).trans hgy1019
                    have hgy1021 := (hfvy181 (i + 22) (ne_o (i := i) (c := 22) (d := 0) rfl)).trans hgy1020
                    have hgy1022 := (hfvy190 (i + 22) (ne_o (i := i) (c := 22) (d := 0) rfl)).trans hgy1021
                    have hgy1023 := (hfvy194 (i + 22) (ne_o (i := i) (c := 22) (d := 0) rfl)).trans hgy1022
                    have hgy1024 := up_n egy205 hgy1023 (ne_o (i := i) (c := 22) (d := 23) rfl)
                    have hgy1025 := (hfvy213 (i + 22) (ne_o (i := i) (c := 22) (d := 0) rfl)).trans hgy1024
                    have hgy1026 := (hfvy215 (i + 22) (ne_o (i := i) (c := 22) (d := 0) rfl)).trans hgy1025
                    have hgy1027 := up_n egy219 hgy1026 (ne_o (i := i) (c := 22) (d := 23) rfl)
                    have hgy1028 := (hfvy226 (i + 22) (ne_o (i := i) (c := 22) (d := 0) rfl)).trans hgy1027
                    have hgy1029 := up_n egy229 hgy1028 (ne_o (i := i) (c := 22) (d := 23) rfl)
                    have hgy1030 := (hfvy342 (i + 22) (ne_o (i := i) (c := 22) (d := 0) rfl)).trans hgy1029
                    have hgy1031 := (hfvy920 (i + 22) (ne_o (i := i) (c := 22) (d := 0) rfl)).trans hgy1030
                    have hgy1032 := (hfvy342 (i + 23) (ne_o (i := i) (c := 23) (d := 0) rfl)).trans hgy230
                    have hgy1033 := (hfvy920 (i + 23) (ne_o (i := i) (c := 23) (d := 0) rfl)).trans hgy1032
                    have htxy1034 : okTx cs gvy920 i Fvy920 := ⟨_, _, _, _, _, _, _, _, ⟨hgy946, hgy961, hgy971, hgy986, hgy1001, hgy1016, hgy1031, hgy1033⟩, ⟨⟨by omega, by omega, by omega⟩, hop1, hmn1, hai1, hfa1, htb1, hlay930⟩⟩
                    exact z_vret C hr hlk dX10_layer1_272 (by decide) (by decide) ⟨rfl, rfl, rfl, ⟨_, hcvy920, hdvy920, by omega, by omega, hFy921, htxy1034⟩, fun j j1 j2 => by rw [hfvy920 _ (by omega)]; rw [hfvy342 _ (by omega)]; rw [egy229, va_up_ne _ _ (by omega)]; rw [hfvy226 _ (by omega)]; rw [egy219, va_up_ne _ _ (by omega)]; rw [hfvy215 _ (by omega)]; rw [hfvy213 _ (by omega)]; rw [egy205, va_up_ne _ _ (by omega)]; rw [hfvy194 _ (by omega)]; rw [hfvy190 _ (by omega)]; rw [hfvy181 _ (by omega)]; rw [hfvy125 _ (by omega)]; rw [hfvy79 _ (by omega)]; rw [hfvy41 _ (by omega)]; rw [hfvy11 _ (by omega)]⟩
              · clear hsvy226
                have hpvy226 : 1 ≤ Fvy226 38 := by omega
                clear hxvy226
                have hgy1035 := (hfvy226 (i + 23) (ne_o (i := i) (c := 23) (d := 0) rfl)).trans hgy220
                refine z_iast C (by omega) hay10 hgy1035 (kqy184 + 2) (by omega) (by omega) (by decide) dX10_layer1_187 (fun gy1036 egy1037 => ?_)
                have hgy1038 := up_s egy1037
                obtain ⟨ry1039, hvy1040⟩ : ∃ rZ9 : Nat → Int, rZ9 = uZ ry221 (kqy184 + 2) (vy226) := ⟨_, rfl⟩
                rw [← hvy1040] at hgy1038
                refine z_aload_n C 2 dX10_layer1_188 rfl ?_
                have hgy1041 := up_n egy1037 hcvy226 (ne_o (i := i) (c := 0) (d := 23) rfl)
                refine z_get (v := .int (zI (Fvy226 38))) C (by omega) hay1 hgy1041 rfl inA_X10 38 (by decide) q_1497 rfl (fv (F := Fvy226) (f := 38) rfl) dX10_layer1_189 ?_
                refine z_if_ne (tgt := 272) C dX10_layer1_192 (by decide) (by omega) (fun _ => ?_) (fun h => absurd h (by omega))
                have hFy1042 : ∀ f, f ≠ 24 → f ≠ 32 → f ≠ 33 → f ≠ 35 → f ≠ 36 → f ≠ 37 → f ≠ 38 → f ≠ 47 → f ≠ 48 → f ≠ 49 → Fvy226 f = F f := fun f n24 n32 n33 n35 n36 n37 n38 n47 n48 n49 => ((hFvy226 f n24 n32 n33 n35 n36 n37 n38).trans ((hFvy215 f n24 n32 n33 n35 n36 n37 n38).trans ((hFvy213 f n32 n33 n35 n36 n37).trans ((hFvy194 f n24 n38).trans ((hFvy190 f n32 n33 n35 n36 n37).trans ((hFvy181 f n24 n38).trans ((hFvy125 f n24 n38).trans ((hFvy79 f n24 n38).trans ((hFvy41 f n24 n38).trans (hFvy11 f n32 n33 n35 n36 n37))))))))))
                have hey1043 : Fvy226 32 = Fvy226 32 := rfl
                have hey1044 : Fvy226 35 = Fvy226 35 := rfl
                have hey1045 : Fvy226 38 = Fvy226 38 := rfl
                have hey1046 : Fvy226 32 = Fvy226 32 := rfl
                have hey1047 : Fvy226 47 = F 47 := ((hFvy226 47 (by decide) (by decide) (by decide) (by decide) (by decide) (by decide) (by decide)).trans ((hFvy215 47 (by decide) (by decide) (by decide) (by decide) (by decide) (by decide) (by decide)).trans ((hFvy213 47 (by decide) (by decide) (by decide) (by decide) (by decide)).trans ((hFvy194 47 (by decide) (by decide)).trans ((hFvy190 47 (by decide) (by decide) (by decide) (by decide) (by decide)).trans ((hFvy181 47 (by decide) (by decide)).trans ((hFvy125 47 (by decide) (by decide)).trans ((hFvy79 47 (by decide) (by decide)).trans ((hFvy41 47 (by decide) (by decide)).trans (hFvy11 47 (by decide) (by decide) (by decide) (by decide) (by decide)))))))))))
                have hey1048 : Fvy226 48 = F 48 := ((hFvy226 48 (by decide) (by decide) (by decide) (by decide) (by decide) (by decide) (by decide)).trans ((hFvy215 48 (by decide) (by decide) (by decide) (by decide) (by decide) (by decide) (by decide)).trans ((hFvy213 48 (by decide) (by decide) (by decide) (by decide) (by decide)).trans ((hFvy194 48 (by decide) (by decide)).trans ((hFvy190 48 (by decide) (by decide) (by decide) (by decide) (by decide)).trans ((hFvy181 48 (by decide) (by decide)).trans ((hFvy125 48 (by decide) (by decide)).trans ((hFvy79 48 (by decide) (by decide)).trans ((hFvy41 48 (by decide) (by decide)).trans (hFvy11 48 (by decide) (by decide) (by decide) (by decide) (by decide)))))))))))
                have hey1049 : Fvy226 49 = F 49 := ((hFvy226 49 (by decide) (by decide) (by decide) (by decide) (by decide) (by decide) (by decide)).trans ((hFvy215 49 (by decide) (by decide) (by decide) (by decide) (by decide) (by decide) (by decide)).trans ((hFvy213 49 (by decide) (by decide) (by decide) (by decide) (by decide)).trans ((hFvy194 49 (by decide) (by decide)).trans ((hFvy190 49 (by decide) (by decide) (by decide) (by decide) (by decide)).trans ((hFvy181 49 (by decide) (by decide)).trans ((hFvy125 49 (by decide) (by decide)).trans ((hFvy79 49 (by decide) (by decide)).trans ((hFvy41 49 (by decide) (by decide)).trans (hFvy11 49 (by decide) (by decide) (by decide) (by decide) (by decide)))))))))))
                have hfry1052 : ∀ j, j ≠ kqy184 + 2 → j ≠ kqy184 + 1 → j ≠ kqy184 → ry1039 j = ly1 j := fun j n0 n1 n2 => (congrFun hvy1040 _).trans ((uZ_n _ _ n0).trans ((congrFun hvy222 _).trans ((uZ_n _ _ n1).trans ((congrFun hvy208 _).trans ((uZ_n _ _ n2).trans (rfl))))))
                have hlay1051 : ∀ s l : Nat, (s : Int) < Fvy226 47 → (l : Int) < mn1 s → lyT ry1039 (84 * s + 7 * l) := by
                  intro s l a1 a2
                  have hm9 := hmn1 s (by omega)
                  by_cases e : s = ny126
                  · subst e; exact (hly1 s l (by omega) a2).ext (fun j b1 b2 => hfry1052 j (by omega) (by omega) (by omega))
                  · exact (hly1 s l (by omega) a2).ext (fun j b1 b2 => hfry1052 j (by omega) (by omega) (by omega))
                have hgy1053 := (hfvy11 (i + 16) (ne_o (i := i) (c := 16) (d := 0) rfl)).trans ha16
                have hgy1054 := (hfvy41 (i + 16) (ne_o (i := i) (c := 16) (d := 0) rfl)).trans hgy1053
                have hgy1055 := (hfvy79 (i + 16) (ne_o (i := i) (c := 16) (d := 0) rfl)).trans hgy1054
                have hgy1056 := (hfvy125 (i + 16) (ne_o (i := i) (c := 16) (d := 0) rfl)).trans hgy1055
                have hgy1057 := (hfvy181 (i + 16) (ne_o (i := i) (c := 16) (d := 0) rfl)).trans hgy1056
                have hgy1058 := (hfvy190 (i + 16) (ne_o (i := i) (c := 16) (d := 0) rfl)).trans hgy1057
                have hgy1059 := (hfvy194 (i + 16) (ne_o (i := i) (c := 16) (d := 0) rfl)).trans hgy1058
                have hgy1060 := up_n egy205 hgy1059 (ne_o (i := i) (c := 16) (d := 23) rfl)
                have hgy1061 := (hfvy213 (i + 16) (ne_o (i := i) (c := 16) (d := 0) rfl)).trans hgy1060
                have hgy1062 := (hfvy215 (i + 16) (ne_o (i := i) (c := 16) (d := 0) rfl)).trans hgy1061
                have hgy1063 := up_n egy219 hgy1062 (ne_o (i := i) (c := 16) (d := 23) rfl)
                have hgy1064 := (hfvy226 (i + 16) (ne_o (i := i) (c := 16) (d := 0) rfl)).trans hgy1063
                have hgy1065 := up_n egy1037 hgy1064 (ne_o (i := i) (c := 16) (d := 23) rfl)
                have hgy1066 := (hfvy11 (i + 17) (ne_o (i := i) (c := 17) (d := 0) rfl)).trans ha17
                have hgy1067 := (hfvy41 (i + 17) (ne_o (i := i) (c := 17) (d := 0) rfl)).trans hgy1066
                have hgy1068 := (hfvy79 (i + 17) (ne_o (i := i) (c := 17) (d := 0) rfl)).trans hgy1067
                have hgy1069 := (hfvy125 (i + 17) (ne_o (i := i) (c := 17) (d := 0) rfl)).trans hgy1068
                have hgy1070 := (hfvy181 (i + 17) (ne_o (i := i) (c := 17) (d := 0) rfl)).trans hgy1069
                have hgy1071 := (hfvy190 (i + 17) (ne_o (i := i) (c := 17) (d := 0) rfl)).trans hgy1070
                have hgy1072 := (hfvy194 (i + 17) (ne_o (i := i) (c := 17) (d := 0) rfl)).trans hgy1071
                have hgy1073 := up_n egy205 hgy1072 (ne_o (i := i) (c := 17) (d := 23) rfl)
                have hgy1074 := (hfvy213 (i + 17) (ne_o (i := i) (c := 17) (d := 0) rfl)).trans hgy1073
                have hgy1075 := (hfvy215 (i + 17) (ne_o (i := i) (c := 17) (d := 0) rfl)).trans hgy1074
                have hgy1076 := up_n egy219 hgy1075 (ne_o (i := i) (c := 17) (d := 23) rfl)
                have hgy1077 := (hfvy226 (i + 17) (ne_o (i := i) (c := 17) (d := 0) rfl)).trans hgy1076
                have hgy1078 := up_n egy1037 hgy1077 (ne_o (i := i) (c := 17) (d := 23) rfl)
                have hgy1079 := (hfvy190 (i + 18) (ne_o (i := i) (c := 18) (d := 0) rfl)).trans hgy182
                have hgy1080 := (hfvy194 (i + 18) (ne_o (i := i) (c := 18) (d := 0) rfl)).trans hgy1079
                have hgy1081 := up_n egy205 hgy1080 (ne_o (i := i) (c := 18) (d := 23) rfl)
                have hgy1082 := (hfvy213 (i + 18) (ne_o (i := i) (c := 18) (d := 0) rfl)).trans hgy1081
                have hgy1083 := (hfvy215 (i + 18) (ne_o (i := i) (c := 18) (d := 0) rfl)).trans hgy1082
                have hgy1084 := up_n egy219 hgy1083 (ne_o (i := i) (c := 18) (d := 23) rfl)
                have hgy1085 := (hfvy226 (i + 18) (ne_o (i := i) (c := 18) (d := 0) rfl)).trans hgy1084
                have hgy1086 := up_n egy1037 hgy1085 (ne_o (i := i) (c := 18) (d := 23) rfl)
                have hgy1087 := (hfvy11 (i + 19) (ne_o (i := i) (c := 19) (d := 0) rfl)).trans ha19
                have hgy1088 := (hfvy41 (i + 19) (ne_o (i := i) (c := 19) (d := 0) rfl)).trans hgy1087
                have hgy1089 := (hfvy79 (i + 19) (ne_o (i := i) (c := 19) (d := 0) rfl)).trans hgy1088
                have hgy1090 := (hfvy125 (i + 19) (ne_o (i := i) (c := 19) (d := 0) rfl)).trans hgy1089
                have hgy1091 := (hfvy181 (i + 19) (ne_o (i := i) (c := 19) (d := 0) rfl)).trans hgy1090
                have hgy1092 := (hfvy190 (i + 19) (ne_o (i := i) (c := 19) (d := 0) rfl)).trans hgy1091
                have hgy1093 := (hfvy194 (i + 19) (ne_o (i := i) (c := 19) (d := 0) rfl)).trans hgy1092
                have hgy1094 := up_n egy205 hgy1093 (ne_o (i := i) (c := 19) (d := 23) rfl)
                have hgy1095 := (hfvy213 (i + 19) (ne_o (i := i) (c := 19) (d := 0) rfl)).trans hgy1094
                have hgy1096 := (hfvy215 (i + 19) (ne_o (i := i) (c := 19) (d := 0) rfl)).trans hgy1095
                have hgy1097 := up_n egy219 hgy1096 (ne_o (i := i) (c := 19) (d := 23) rfl)
                have hgy1098 := (hfvy226 (i + 19) (ne_o (i := i) (c := 19) (d := 0) rfl)).trans hgy1097
                have hgy1099 := up_n egy1037 hgy1098 (ne_o (i := i) (c := 19) (d := 23) rfl)
                have hgy1100 := (hfvy11 (i + 20) (ne_o (i := i) (c := 20) (d := 0) rfl)).trans ha20
                have hgy1101 := (hfvy41 (i + 20) (ne_o (i := i) (c := 20) (d := 0) rfl)).trans hgy1100
                have hgy1102 := (hfvy79 (i + 20) (ne_o (i := i) (c := 20) (d := 0) rfl)).trans hgy1101
                have hgy1103 := (hfvy125 (i + 20) (ne_o (i := i) (c := 20) (d := 0) rfl)).trans hgy1102
                have hgy1104 := (hfvy181 (i + 20) (ne_o (i := i) (c := 20) (d := 0) rfl)).trans hgy1103
                have hgy1105 := (hfvy190 (i + 20) (ne_o (i := i) (c := 20) (d := 0) rfl)).trans hgy1104
                have hgy1106 := (hfvy194 (i + 20) (ne_o (i := i) (c := 20) (d := 0) rfl)).trans hgy1105
                have hgy1107 := up_n egy205 hgy1106 (ne_o (i := i) (c := 20) (d := 23) rfl)
                have hgy1108 := (hfvy213 (i + 20) (ne_o (i := i) (c := 20) (d := 0) rfl)).trans hgy1107
                have hgy1109 := (hfvy215 (i + 20) (ne_o (i := i) (c := 20) (d := 0) rfl)).trans hgy1108
                have hgy1110 := up_n egy219 hgy1109 (ne_o (i := i) (c := 20) (d := 23) rfl)
                have hgy1111 := (hfvy226 (i + 20) (ne_o (i := i) (c := 20) (d := 0) rfl)).trans hgy1110
                have hgy1112 := up_n egy1037 hgy1111 (ne_o (i := i) (c := 20) (d := 23) rfl)
                have hgy1113 := (hfvy11 (i + 21) (ne_o (i := i) (c := 21) (d := 0) rfl)).trans ha21
                have hgy1114 := (hfvy41 (i + 21) (ne_o (i := i) (c := 21) (d := 0) rfl)).trans hgy1113
                have hgy1115 := (hfvy79 (i + 21) (ne_o (i := i) (c := 21) (d := 0) rfl)).trans hgy1114
                have hgy1116 := (hfvy125 (i + 21) (ne_o (i := i) (c := 21) (d := 0) rfl)).trans hgy1115
                have hgy1117 := (hfvy181 (i + 21) (ne_o (i := i) (c := 21) (d := 0) rfl)).trans hgy1116
                have hgy1118 := (hfvy190 (i + 21) (ne_o (i := i) (c := 21) (d := 0) rfl)).trans hgy1117
                have hgy1119 := (hfvy194 (i + 21) (ne_o (i := i) (c := 21) (d := 0) rfl)).trans hgy1118
                have hgy1120 := up_n egy205 hgy1119 (ne_o (i := i) (c := 21) (d := 23) rfl)
                have hgy1121 := (hfvy213 (i + 21) (ne_o (i := i) (c := 21) (d := 0) rfl)).trans hgy1120
                have hgy1122 := (hfvy215 (i + 21) (ne_o (i := i) (c := 21) (d := 0) rfl)).trans hgy1121
                have hgy1123 := up_n egy219 hgy1122 (ne_o (i := i) (c := 21) (d := 23) rfl)
                have hgy1124 := (hfvy226 (i + 21) (ne_o (i := i) (c := 21) (d := 0) rfl)).trans hgy1123
                have hgy1125 := up_n egy1037 hgy1124 (ne_o (i := i) (c := 21) (d := 23) rfl)
                have hgy1126 := (hfvy11 (i + 22) (ne_o (i := i) (c := 22) (d := 0) rfl)).trans ha22
                have hgy1127 := (hfvy41 (i + 22) (ne_o (i := i) (c := 22) (d := 0) rfl)).trans hgy1126
                have hgy1128 := (hfvy79 (i + 22) (ne_o (i := i) (c := 22) (d := 0) rfl)).trans hgy1127
                have hgy1129 := (hfvy125 (i + 22) (ne_o (i := i) (c := 22) (d := 0) rfl)).trans hgy1128
                have hgy1130 := (hfvy181 (i + 22) (ne_o (i := i) (c := 22) (d := 0) rfl)).trans hgy1129
                have hgy1131 := (hfvy190 (i + 22) (ne_o (i := i) (c := 22) (d := 0) rfl)).trans hgy1130
                have hgy1132 := (hfvy194 (i + 22) (ne_o (i := i) (c := 22) (d := 0) rfl)).trans hgy1131
                have hgy1133 := up_n egy205 hgy1132 (ne_o (i := i) (c := 22) (d := 23) rfl)
                have hgy1134 := (hfvy213 (i + 22) (ne_o (i := i) (c := 22) (d := 0) rfl)).trans hgy1133
                have hgy1135 := (hfvy215 (i + 22) (ne_o (i := i) (c := 22) (d := 0) rfl)).trans hgy1134
                have hgy1136 := up_n egy219 hgy1135 (ne_o (i := i) (c := 22) (d := 23) rfl)
                have hgy1137 := (hfvy226 (i + 22) (ne_o (i := i) (c := 22) (d := 0) rfl)).trans hgy1136
                have hgy1138 := up_n egy1037 hgy1137 (ne_o (i := i) (c := 22) (d := 23) rfl)
                have htxy1139 : okTx cs gy1036 i Fvy226 := ⟨_, _, _, _, _, _, _, _, ⟨hgy1065, hgy1078, hgy1086, hgy1099, hgy1112, hgy1125, hgy1138, hgy1038⟩, ⟨⟨by omega, by omega, by omega⟩, hop1, hmn1, hai1, hfa1, htb1, hlay1051⟩⟩
                exact z_vret C hr hlk dX10_layer1_272 (by decide) (by decide) ⟨rfl, rfl, rfl, ⟨_, hgy1041, hdvy226, by omega, by omega, hFy1042, htxy1139⟩, fun j j1 j2 => by rw [egy1037, va_up_ne _ _ (by omega)]; rw [hfvy226 _ (by omega)]; rw [egy219, va_up_ne _ _ (by omega)]; rw [hfvy215 _ (by omega)]; rw [hfvy213 _ (by omega)]; rw [egy205, va_up_ne _ _ (by omega)]; rw [hfvy194 _ (by omega)]; rw [hfvy190 _ (by omega)]; rw [hfvy181 _ (by omega)]; rw [hfvy125 _ (by omega)]; rw [hfvy79 _ (by omega)]; rw [hfvy41 _ (by omega)]; rw [hfvy11 _ (by omega)]⟩
            · clear hsvy215
              have hpvy215 : 1 ≤ Fvy215 38 := by omega
              clear hxvy215
              have hgy1140 := (hfvy213 (i + 23) (ne_o (i := i) (c := 23) (d := 0) rfl)).trans hgy206
              have hgy1141 := (hfvy215 (i + 23) (ne_o (i := i) (c := 23) (d := 0) rfl)).trans hgy1140
              refine z_iast C (by omega) hay10 hgy1141 (kqy184 + 1) (by omega) (by omega) (by decide) dX10_layer1_165 (fun gy1142 egy1143 => ?_)
              have hgy1144 := up_s egy1143
              obtain ⟨ry1145, hvy1146⟩ : ∃ rZ9 : Nat → Int, rZ9 = uZ ry207 (kqy184 + 1) (vy215) := ⟨_, rfl⟩
              rw [← hvy1146] at hgy1144
              refine z_aload_n C 2 dX10_layer1_166 rfl ?_
              have hgy1147 := up_n egy1143 hcvy215 (ne_o (i := i) (c := 0) (d := 23) rfl)
              refine z_get (v := .int (zI (Fvy215 38))) C (by omega) hay1 hgy1147 rfl inA_X10 38 (by decide) q_1497 rfl (fv (F := Fvy215) (f := 38) rfl) dX10_layer1_167 ?_
              refine z_if_ne (tgt := 188) C dX10_layer1_170 (by decide) (by omega) (fun _ => ?_) (fun h => absurd h (by omega))
              refine z_aload_n C 2 dX10_layer1_188 rfl ?_
              refine z_get (v := .int (zI (Fvy215 38))) C (by omega) hay1 hgy1147 rfl inA_X10 38 (by decide) q_1497 rfl (fv (F := Fvy215) (f := 38) rfl) dX10_layer1_189 ?_
              refine z_if_ne (tgt := 272) C dX10_layer1_192 (by decide) (by omega) (fun _ => ?_) (fun h => absurd h (by omega))
              have hFy1148 : ∀ f, f ≠ 24 → f ≠ 32 → f ≠ 33 → f ≠ 35 → f ≠ 36 → f ≠ 37 → f ≠ 38 → f ≠ 47 → f ≠ 48 → f ≠ 49 → Fvy215 f = F f := fun f n24 n32 n33 n35 n36 n37 n38 n47 n48 n49 => ((hFvy215 f n24 n32 n33 n35 n36 n37 n38).trans ((hFvy213 f n32 n33 n35 n36 n37).trans ((hFvy194 f n24 n38).trans ((hFvy190 f n32 n33 n35 n36 n37).trans ((hFvy181 f n24 n38).trans ((hFvy125 f n24 n38).trans ((hFvy79 f n24 n38).trans ((hFvy41 f n24 n38).trans (hFvy11 f n32 n33 n35 n36 n37)))))))))
              have hey1149 : Fvy215 32 = Fvy215 32 := rfl
              have hey1150 : Fvy215 35 = Fvy215 35 := rfl
              have hey1151 : Fvy215 38 = Fvy215 38 := rfl
              have hey1152 : Fvy215 32 = Fvy215 32 := rfl
              have hey1153 : Fvy215 47 = F 47 := ((hFvy215 47 (by decide) (by decide) (by decide) (by decide) (by decide) (by decide) (by decide)).trans ((hFvy213 47 (by decide) (by decide) (by decide) (by decide) (by decide)).trans ((hFvy194 47 (by decide) (by decide)).trans ((hFvy190 47 (by decide) (by decide) (by decide) (by decide) (by decide)).trans ((hFvy181 47 (by decide) (by decide)).trans ((hFvy125 47 (by decide) (by decide)).trans ((hFvy79 47 (by decide) (by decide)).trans ((hFvy41 47 (by decide) (by decide)).trans (hFvy11 47 (by decide) (by decide) (by decide) (by decide) (by decide))))))))))
              have hey1154 : Fvy215 48 = F 48 := ((hFvy215 48 (by decide) (by decide) (by decide) (by decide) (by decide) (by decide) (by decide)).trans ((hFvy213 48 (by decide) (by decide) (by decide) (by decide) (by decide)).trans ((hFvy194 48 (by decide) (by decide)).trans ((hFvy190 48 (by decide) (by decide) (by decide) (by decide) (by decide)).trans ((hFvy181 48 (by decide) (by decide)).trans ((hFvy125 48 (by decide) (by decide)).trans ((hFvy79 48 (by decide) (by decide)).trans ((hFvy41 48 (by decide) (by decide)).trans (hFvy11 48 (by decide) (by decide) (by decide) (by decide) (by decide))))))))))
              have hey1155 : Fvy215 49 = F 49 := ((hFvy215 49 (by decide) (by decide) (by decide) (by decide) (by decide) (by decide) (by decide)).trans ((hFvy213 49 (by decide) (by decide) (by decide) (by decide) (by decide)).trans ((hFvy194 49 (by decide) (by decide)).trans ((hFvy190 49 (by decide) (by decide) (by decide) (by decide) (by decide)).trans ((hFvy181 49 (by decide) (by decide)).trans ((hFvy125 49 (by decide) (by decide)).trans ((hFvy79 49 (by decide) (by decide)).trans ((hFvy41 49 (by decide) (by decide)).trans (hFvy11 49 (by decide) (by decide) (by decide) (by decide) (by decide))))))))))
              have hfry1158 : ∀ j, j ≠ kqy184 + 1 → j ≠ kqy184 → ry1145 j = ly1 j := fun j n0 n1 => (congrFun hvy1146 _).trans ((uZ_n _ _ n0).trans ((congrFun hvy208 _).trans ((uZ_n _ _ n1).trans (rfl))))
              have hlay1157 : ∀ s l : Nat, (s : Int) < Fvy215 47 → (l : Int) < mn1 s → lyT ry1145 (84 * s + 7 * l) := by
                intro s l a1 a2
                have hm9 := hmn1 s (by omega)
                by_cases e : s = ny126
                · subst e; exact (hly1 s l (by omega) a2).ext (fun j b1 b2 => hfry1158 j (by omega) (by omega))
                · exact (hly1 s l (by omega) a2).ext (fun j b1 b2 => hfry1158 j (by omega) (by omega))
              have hgy1159 := (hfvy11 (i + 16) (ne_o (i := i) (c := 16) (d := 0) rfl)).trans ha16
              have hgy1160 := (hfvy41 (i + 16) (ne_o (i := i) (c := 16) (d := 0) rfl)).trans hgy1159
              have hgy1161 := (hfvy79 (i + 16) (ne_o (i := i) (c := 16) (d := 0) rfl)).trans hgy1160
              have hgy1162 := (hfvy125 (i + 16) (ne_o (i := i) (c := 16) (d := 0) rfl)).trans hgy1161
              have hgy1163 := (hfvy181 (i + 16) (ne_o (i := i) (c := 16) (d := 0) rfl)).trans hgy1162
              have hgy1164 := (hfvy190 (i + 16) (ne_o (i := i) (c := 16) (d := 0) rfl)).trans hgy1163
              have hgy1165 := (hfvy194 (i + 16) (ne_o (i := i) (c := 16) (d := 0) rfl)).trans hgy1164
              have hgy1166 := up_n egy205 hgy1165 (ne_o (i := i) (c := 16) (d := 23) rfl)
              have hgy1167 := (hfvy213 (i + 16) (ne_o (i := i) (c := 16) (d := 0) rfl)).trans hgy1166
              have hgy1168 := (hfvy215 (i + 16) (ne_o (i := i) (c := 16) (d := 0) rfl)).trans hgy1167
              have hgy1169 := up_n egy1143 hgy1168 (ne_o (i := i) (c := 16) (d := 23) rfl)
              have hgy1170 := (hfvy11 (i + 17) (ne_o (i := i) (c := 17) (d := 0) rfl)).trans ha17
              have hgy1171 := (hfvy41 (i + 17) (ne_o (i := i) (c := 17) (d := 0) rfl)).trans hgy1170
              have hgy1172 := (hfvy79 (i + 17) (ne_o (i := i) (c := 17) (d := 0) rfl)).trans hgy1171
              have hgy1173 := (hfvy125 (i + 17) (ne_o (i := i) (c := 17) (d := 0) rfl)).trans hgy1172
              have hgy1174 := (hfvy181 (i + 17) (ne_o (i := i) (c := 17) (d := 0) rfl)).trans hgy1173
              have hgy1175 := (hfvy190 (i + 17) (ne_o (i := i) (c := 17) (d := 0) rfl)).trans hgy1174
              have hgy1176 := (hfvy194 (i + 17) (ne_o (i := i) (c := 17) (d := 0) rfl)).trans hgy1175
              have hgy1177 := up_n egy205 hgy1176 (ne_o (i := i) (c := 17) (d := 23) rfl)
              have hgy1178 := (hfvy213 (i + 17) (ne_o (i := i) (c := 17) (d := 0) rfl)).trans hgy1177
              have hgy1179 := (hfvy215 (i + 17) (ne_o (i := i) (c := 17) (d := 0) rfl)).trans hgy1178
              have hgy1180 := up_n egy1143 hgy1179 (ne_o (i := i) (c := 17) (d := 23) rfl)
              have hgy1181 := (hfvy190 (i + 18) (ne_o (i := i) (c := 18) (d := 0) rfl)).trans hgy182
              have hgy1182 := (hfvy194 (i + 18) (ne_o (i := i) (c := 18) (d := 0) rfl)).trans hgy1181
              have hgy1183 := up_n egy205 hgy1182 (ne_o (i := i) (c := 18) (d := 23) rfl)
              have hgy1184 := (hfvy213 (i + 18) (ne_o (i := i) (c := 18) (d := 0) rfl)).trans hgy1183
              have hgy1185 := (hfvy215 (i + 18) (ne_o (i := i) (c := 18) (d := 0) rfl)).trans hgy1184
              have hgy1186 := up_n egy1143 hgy1185 (ne_o (i := i) (c := 18) (d := 23) rfl)
              have hgy1187 := (hfvy11 (i + 19) (ne_o (i := i) (c := 19) (d := 0) rfl)).trans ha19
              have hgy1188 := (hfvy41 (i + 19) (ne_o (i := i) (c := 19) (d := 0) rfl)).trans hgy1187
              have hgy1189 := (hfvy79 (i + 19) (ne_o (i := i) (c := 19) (d := 0) rfl)).trans hgy1188
              have hgy1190 := (hfvy125 (i + 19) (ne_o (i := i) (c := 19) (d := 0) rfl)).trans hgy1189
              have hgy1191 := (hfvy181 (i + 19) (ne_o (i := i) (c := 19) (d := 0) rfl)).trans hgy1190
              have hgy1192 := (hfvy190 (i + 19) (ne_o (i := i) (c := 19) (d := 0) rfl)).trans hgy1191
              have hgy1193 := (hfvy194 (i + 19) (ne_o (i := i) (c := 19) (d := 0) rfl)).trans hgy1192
              have hgy1194 := up_n egy205 hgy1193 (ne_o (i := i) (c := 19) (d := 23) rfl)
              have hgy1195 := (hfvy213 (i + 19) (ne_o (i := i) (c := 19) (d := 0) rfl)).trans hgy1194
              have hgy1196 := (hfvy215 (i + 19) (ne_o (i := i) (c := 19) (d := 0) rfl)).trans hgy1195
              have hgy1197 := up_n egy1143 hgy1196 (ne_o (i := i) (c := 19) (d := 23) rfl)
              have hgy1198 := (hfvy11 (i + 20) (ne_o (i := i) (c := 20) (d := 0) rfl)).trans ha20
              have hgy1199 := (hfvy41 (i + 20) (ne_o (i := i) (c := 20) (d := 0) rfl)).trans hgy1198
              have hgy1200 := (hfvy79 (i + 20) (ne_o (i := i) (c := 20) (d := 0) rfl)).trans hgy1199
              have hgy1201 := (hfvy125 (i + 20) (ne_o (i := i) (c := 20) (d := 0) rfl)).trans hgy1200
              have hgy1202 := (hfvy181 (i + 20) (ne_o (i := i) (c := 20) (d := 0) rfl)).trans hgy1201
              have hgy1203 := (hfvy190 (i + 20) (ne_o (i := i) (c := 20) (d := 0) rfl)).trans hgy1202
              have hgy1204 := (hfvy194 (i + 20) (ne_o (i := i) (c := 20) (d := 0) rfl)).trans hgy1203
              have hgy1205 := up_n egy205 hgy1204 (ne_o (i := i) (c := 20) (d := 23) rfl)
              have hgy1206 := (hfvy213 (i + 20) (ne_o (i := i) (c := 20) (d := 0) rfl)).trans hgy1205
              have hgy1207 := (hfvy215 (i + 20) (ne_o (i := i) (c := 20) (d := 0) rfl)).trans hgy1206
              have hgy1208 := up_n egy1143 hgy1207 (ne_o (i := i) (c := 20) (d := 23) rfl)
              have hgy1209 := (hfvy11 (i + 21) (ne_o (i := i) (c := 21) (d := 0) rfl)).trans ha21
              have hgy1210 := (hfvy41 (i + 21) (ne_o (i := i) (c := 21) (d := 0) rfl)).trans hgy1209
              have hgy1211 := (hfvy79 (i + 21) (ne_o (i := i) (c := 21) (d := 0) rfl)).trans hgy1210
              have hgy1212 := (hfvy125 (i + 21) (ne_o (i := i) (c := 21) (d := 0) rfl)).trans hgy1211
              have hgy1213 := (hfvy181 (i + 21) (ne_o (i := i) (c := 21) (d := 0) rfl)).trans hgy1212
              have hgy1214 := (hfvy190 (i + 21) (ne_o (i := i) (c := 21) (d := 0) rfl)).trans hgy1213
              have hgy1215 := (hfvy194 (i + 21) (ne_o (i := i) (c := 21) (d := 0) rfl)).trans hgy1214
              have hgy1216 := up_n egy205 hgy1215 (ne_o (i := i) (c := 21) (d := 23) rfl)
              have hgy1217 := (hfvy213 (i + 21) (ne_o (i := i) (c := 21) (d := 0) rfl)).trans hgy1216
              have hgy1218 := (hfvy215 (i + 21) (ne_o (i := i) (c := 21) (d := 0) rfl)).trans hgy1217
              have hgy1219 := up_n egy1143 hgy1218 (ne_o (i := i) (c := 21) (d := 23) rfl)
              have hgy1220 := (hfvy11 (i + 22) (ne_o (i := i) (c := 22) (d := 0) rfl)).trans ha22
              have hgy1221 := (hfvy41 (i + 22) (ne_o (i := i) (c := 22) (d := 0) rfl)).trans hgy1220
              have hgy1222 := (hfvy79 (i + 22) (ne_o (i := i) (c := 22) (d := 0) rfl)).trans hgy1221
              have hgy1223 := (hfvy125 (i + 22) (ne_o (i := i) (c := 22) (d := 0) rfl)).trans hgy1222
              have hgy1224 := (hfvy181 (i + 22) (ne_o (i := i) (c := 22) (d := 0) rfl)).trans hgy1223
              have hgy1225 := (hfvy190 (i + 22) (ne_o (i := i) (c := 22) (d := 0) rfl)).trans hgy1224
              have hgy1226 := (hfvy194 (i + 22) (ne_o (i := i) (c := 22) (d := 0) rfl)).trans hgy1225
              have hgy1227 := up_n egy205 hgy1226 (ne_o (i := i) (c := 22) (d := 23) rfl)
              have hgy1228 := (hfvy213 (i + 22) (ne_o (i := i) (c := 22) (d := 0) rfl)).trans hgy1227
              have hgy1229 := (hfvy215 (i + 22) (ne_o (i := i) (c := 22) (d := 0) rfl)).trans hgy1228
              have hgy1230 := up_n egy1143 hgy1229 (ne_o (i := i) (c := 22) (d := 23) rfl)
              have htxy1231 : okTx cs gy1142 i Fvy215 := ⟨_, _, _, _, _, _, _, _, ⟨hgy1169, hgy1180, hgy1186, hgy1197, hgy1208, hgy1219, hgy1230, hgy1144⟩, ⟨⟨by omega, by omega, by omega⟩, hop1, hmn1, hai1, hfa1, htb1, hlay1157⟩⟩
              exact z_vret C hr hlk dX10_layer1_272 (by decide) (by decide) ⟨rfl, rfl, rfl, ⟨_, hgy1147, hdvy215, by omega, by omega, hFy1148, htxy1231⟩, fun j j1 j2 => by rw [egy1143, va_up_ne _ _ (by omega)]; rw [hfvy215 _ (by omega)]; rw [hfvy213 _ (by omega)]; rw [egy205, va_up_ne _ _ (by omega)]; rw [hfvy194 _ (by omega)]; rw [hfvy190 _ (by omega)]; rw [hfvy181 _ (by omega)]; rw [hfvy125 _ (by omega)]; rw [hfvy79 _ (by omega)]; rw [hfvy41 _ (by omega)]; rw [hfvy11 _ (by omega)]⟩
          · clear hqvy191
            refine z_iconst (z := 1) C dX10_layer1_127 rfl ?_
            have h38vy1232 : Fvy190 38 = 0 := ((hFvy190 38 (by decide) (by decide) (by decide) (by decide) (by decide)).trans e38vy181)
            refine z_cV (As := [.int (zI (0)), .int (zI (1))]) (rest := []) (ci := 12) C (c_X10_wants l D A cs tt N ad _ i hN _ hcvy190 (by omega) (0) (by omega) (1) (by omega)) (by omega) hay1 hcvy190 rfl rfl mv_yX10_wants q_1678 hd_yX10_wants (by decide) (Nat.le_of_ble_eq_true rfl) (by decide) dX10_layer1_128 rfl (kI0 fun vy1232 gvy1232 hvy1232 => ?_)
            obtain ⟨⟨Fvy1232, hcvy1232, hqvy1232, hbvy1232, hFvy1232⟩, hfvy1232⟩ := hvy1232
            have hdvy1232 : RD Fvy1232 := RD.w hdvy190 hFvy1232 hbvy1232
            obtain rfl : vy1232 = 0 := by omega
            have e38vy1232 : 1 ≤ Fvy1232 38 := by omega
            clear hqvy1232
            refine z_if_ne (tgt := 135) C dX10_layer1_131 (by decide) (by omega) (fun h => absurd h (by omega)) (fun _ => ?_)
            have hFy1233 : ∀ f, f ≠ 24 → f ≠ 32 → f ≠ 33 → f ≠ 35 → f ≠ 36 → f ≠ 37 → f ≠ 38 → f ≠ 47 → f ≠ 48 → f ≠ 49 → Fvy1232 f = F f := fun f n24 n32 n33 n35 n36 n37 n38 n47 n48 n49 => ((hFvy1232 f n24 n38).trans ((hFvy190 f n32 n33 n35 n36 n37).trans ((hFvy181 f n24 n38).trans ((hFvy125 f n24 n38).trans ((hFvy79 f n24 n38).trans ((hFvy41 f n24 n38).trans (hFvy11 f n32 n33 n35 n36 n37)))))))
            have hey1234 : Fvy1232 32 = Fvy190 32 := (hFvy1232 32 (by decide) (by decide))
            have hey1235 : Fvy1232 35 = Fvy190 35 := (hFvy1232 35 (by decide) (by decide))
            have hey1236 : Fvy1232 38 = Fvy1232 38 := rfl
            have hey1237 : Fvy1232 32 = Fvy190 32 := (hFvy1232 32 (by decide) (by decide))
            have hey1238 : Fvy1232 47 = F 47 := ((hFvy1232 47 (by decide) (by decide)).trans ((hFvy190 47 (by decide) (by decide) (by decide) (by decide) (by decide)).trans ((hFvy181 47 (by decide) (by decide)).trans ((hFvy125 47 (by decide) (by decide)).trans ((hFvy79 47 (by decide) (by decide)).trans ((hFvy41 47 (by decide) (by decide)).trans (hFvy11 47 (by decide) (by decide) (by decide) (by decide) (by decide))))))))
            have hey1239 : Fvy1232 48 = F 48 := ((hFvy1232 48 (by decide) (by decide)).trans ((hFvy190 48 (by decide) (by decide) (by decide) (by decide) (by decide)).trans ((hFvy181 48 (by decide) (by decide)).trans ((hFvy125 48 (by decide) (by decide)).trans ((hFvy79 48 (by decide) (by decide)).trans ((hFvy41 48 (by decide) (by decide)).trans (hFvy11 48 (by decide) (by decide) (by decide) (by decide) (by decide))))))))
            have hey1240 : Fvy1232 49 = F 49 := ((hFvy1232 49 (by decide) (by decide)).trans ((hFvy190 49 (by decide) (by decide) (by decide) (by decide) (by decide)).trans ((hFvy181 49 (by decide) (by decide)).trans ((hFvy125 49 (by decide) (by decide)).trans ((hFvy79 49 (by decide) (by decide)).trans ((hFvy41 49 (by decide) (by decide)).trans (hFvy11 49 (by decide) (by decide) (by decide) (by decide) (by decide))))))))
            have hlay1242 : ∀ s l : Nat, (s : Int) < Fvy1232 47 → (l : Int) < mn1 s → lyT ly1 (84 * s + 7 * l) := fun s l a1 a2 => hly1 s l (by omega) a2
            have hgy1243 := (hfvy11 (i + 16) (ne_o (i := i) (c := 16) (d := 0) rfl)).trans ha16
            have hgy1244 := (hfvy41 (i + 16) (ne_o (i := i) (c := 16) (d := 0) rfl)).trans hgy1243
            have hgy1245 := (hfvy79 (i + 16) (ne_o (i := i) (c := 16) (d := 0) rfl)).trans hgy1244
            have hgy1246 := (hfvy125 (i + 16) (ne_o (i := i) (c := 16) (d := 0) rfl)).trans hgy1245
            have hgy1247 := (hfvy181 (i + 16) (ne_o (i := i) (c := 16) (d := 0) rfl)).trans hgy1246
            have hgy1248 := (hfvy190 (i + 16) (ne_o (i := i) (c := 16) (d := 0) rfl)).trans hgy1247
            have hgy1249 := (hfvy1232 (i + 16) (ne_o (i := i) (c := 16) (d := 0) rfl)).trans hgy1248
            have hgy1250 := (hfvy11 (i + 17) (ne_o (i := i) (c := 17) (d := 0) rfl)).trans ha17
            have hgy1251 := (hfvy41 (i + 17) (ne_o (i := i) (c := 17) (d := 0) rfl)).trans hgy1250
            have hgy1252 := (hfvy79 (i + 17) (ne_o (i := i) (c := 17) (d := 0) rfl)).trans hgy1251
            have hgy1253 := (hfvy125 (i + 17) (ne_o (i := i) (c := 17) (d := 0) rfl)).trans hgy1252
            have hgy1254 := (hfvy181 (i + 17) (ne_o (i := i) (c := 17) (d := 0) rfl)).trans hgy1253
            have hgy1255 := (hfvy190 (i + 17) (ne_o (i := i) (c := 17) (d := 0) rfl)).trans hgy1254
            have hgy1256 := (hfvy1232 (i + 17) (ne_o (i := i) (c := 17) (d := 0) rfl)).trans hgy1255
            have hgy1257 := (hfvy190 (i + 18) (ne_o (i := i) (c := 18) (d := 0) rfl)).trans hgy182
            have hgy1258 := (hfvy1232 (i + 18) (ne_o (i := i) (c := 18) (d := 0) rfl)).trans hgy1257
            have hgy1259 := (hfvy11 (i + 19) (ne_o (i := i) (c := 19) (d := 0) rfl)).trans ha19
            have hgy1260 := (hfvy41 (i + 19) (ne_o (i := i) (c := 19) (d := 0) rfl)).trans hgy1259
            have hgy1261 := (hfvy79 (i + 19) (ne_o (i := i) (c := 19) (d := 0) rfl)).trans hgy1260
            have hgy1262 := (hfvy125 (i + 19) (ne_o (i := i) (c := 19) (d := 0) rfl)).trans hgy1261
            have hgy1263 := (hfvy181 (i + 19) (ne_o (i := i) (c := 19) (d := 0) rfl)).trans hgy1262
            have hgy1264 := (hfvy190 (i + 19) (ne_o (i := i) (c := 19) (d := 0) rfl)).trans hgy1263
            have hgy1265 := (hfvy1232 (i + 19) (ne_o (i := i) (c := 19) (d := 0) rfl)).trans hgy1264
            have hgy1266 := (hfvy11 (i + 20) (ne_o (i := i) (c := 20) (d := 0) rfl)).trans ha20
            have hgy1267 := (hfvy41 (i + 20) (ne_o (i := i) (c := 20) (d := 0) rfl)).trans hgy1266
            have hgy1268 := (hfvy79 (i + 20) (ne_o (i := i) (c := 20) (d := 0) rfl)).trans hgy1267
            have hgy1269 := (hfvy125 (i + 20) (ne_o (i := i) (c := 20) (d := 0) rfl)).trans hgy1268
            have hgy1270 := (hfvy181 (i + 20) (ne_o (i := i) (c := 20) (d := 0) rfl)).trans hgy1269
            have hgy1271 := (hfvy190 (i + 20) (ne_o (i := i) (c := 20) (d := 0) rfl)).trans hgy1270
            have hgy1272 := (hfvy1232 (i + 20) (ne_o (i := i) (c := 20) (d := 0) rfl)).trans hgy1271
            have hgy1273 := (hfvy11 (i + 21) (ne_o (i := i) (c := 21) (d := 0) rfl)).trans ha21
            have hgy1274 := (hfvy41 (i + 21) (ne_o (i := i) (c := 21) (d := 0) rfl)).trans hgy1273
            have hgy1275 := (hfvy79 (i + 21) (ne_o (i := i) (c := 21) (d := 0) rfl)).trans hgy1274
            have hgy1276 := (hfvy125 (i + 21) (ne_o (i := i) (c := 21) (d := 0) rfl)).trans hgy1275
            have hgy1277 := (hfvy181 (i + 21) (ne_o (i := i) (c := 21) (d := 0) rfl)).trans hgy1276
            have hgy1278 := (hfvy190 (i + 21) (ne_o (i := i) (c := 21) (d := 0) rfl)).trans hgy1277
            have hgy1279 := (hfvy1232 (i + 21) (ne_o (i := i) (c := 21) (d := 0) rfl)).trans hgy1278
            have hgy1280 := (hfvy11 (i + 22) (ne_o (i := i) (c := 22) (d := 0) rfl)).trans ha22
            have hgy1281 := (hfvy41 (i + 22) (ne_o (i := i) (c := 22) (d := 0) rfl)).trans hgy1280
            have hgy1282 := (hfvy79 (i + 22) (ne_o (i := i) (c := 22) (d := 0) rfl)).trans hgy1281
            have hgy1283 := (hfvy125 (i + 22) (ne_o (i := i) (c := 22) (d := 0) rfl)).trans hgy1282
            have hgy1284 := (hfvy181 (i + 22) (ne_o (i := i) (c := 22) (d := 0) rfl)).trans hgy1283
            have hgy1285 := (hfvy190 (i + 22) (ne_o (i := i) (c := 22) (d := 0) rfl)).trans hgy1284
            have hgy1286 := (hfvy1232 (i + 22) (ne_o (i := i) (c := 22) (d := 0) rfl)).trans hgy1285
            have hgy1287 := (hfvy11 (i + 23) (ne_o (i := i) (c := 23) (d := 0) rfl)).trans ha23
            have hgy1288 := (hfvy41 (i + 23) (ne_o (i := i) (c := 23) (d := 0) rfl)).trans hgy1287
            have hgy1289 := (hfvy79 (i + 23) (ne_o (i := i) (c := 23) (d := 0) rfl)).trans hgy1288
            have hgy1290 := (hfvy125 (i + 23) (ne_o (i := i) (c := 23) (d := 0) rfl)).trans hgy1289
            have hgy1291 := (hfvy181 (i + 23) (ne_o (i := i) (c := 23) (d := 0) rfl)).trans hgy1290
            have hgy1292 := (hfvy190 (i + 23) (ne_o (i := i) (c := 23) (d := 0) rfl)).trans hgy1291
            have hgy1293 := (hfvy1232 (i + 23) (ne_o (i := i) (c := 23) (d := 0) rfl)).trans hgy1292
            have htxy1294 : okTx cs gvy1232 i Fvy1232 := ⟨_, _, _, _, _, _, _, _, ⟨hgy1249, hgy1256, hgy1258, hgy1265, hgy1272, hgy1279, hgy1286, hgy1293⟩, ⟨⟨by omega, by omega, by omega⟩, hop1, hmn1, hai1, hfa1, htb1, hlay1242⟩⟩
            exact z_vret C hr hlk dX10_layer1_134 (by decide) (by decide) ⟨rfl, rfl, rfl, ⟨_, hcvy1232, hdvy1232, by omega, by omega, hFy1233, htxy1294⟩, fun j j1 j2 => by rw [hfvy1232 _ (by omega)]; rw [hfvy190 _ (by omega)]; rw [hfvy181 _ (by omega)]; rw [hfvy125 _ (by omega)]; rw [hfvy79 _ (by omega)]; rw [hfvy41 _ (by omega)]; rw [hfvy11 _ (by omega)]⟩

