def lyT (r : Nat → Int) (q : Nat) : Prop := (0 ≤ r q ∧ r q ≤ 4) ∧ (1 ≤ r (q + 1) ∧ r (q + 1) ≤ 99) ∧ (0 ≤ r (q + 2) ∧ r (q + 2) ≤ 99) ∧ (1 ≤ r (q + 3) ∧ r (q + 3) ≤ 999) ∧ (-300 ≤ r (q + 4) ∧ r (q + 4) ≤ 0) ∧ (0 ≤ r (q + 6) ∧ r (q + 6) ≤ 900)
theorem lyT.ext {r r' : Nat → Int} {q : Nat} (h : ∀ j, q ≤ j → j < q + 7 → r' j = r j) (hl : lyT r q) : lyT r' q := by
  unfold lyT at *
  rw [h q (by omega) (by omega), h (q + 1) (by omega) (by omega), h (q + 2) (by omega) (by omega), h (q + 3) (by omega) (by omega), h (q + 4) (by omega) (by omega), h (q + 6) (by omega) (by omega)]
  exact hl
/-- what the reader has told so far -/
def okT (F op1 mn1 ai1 fa1 mu1 tb1 ly1 : Nat → Int) : Prop := ((0 ≤ F 47 ∧ F 47 ≤ 4) ∧ (0 ≤ F 48 ∧ F 48 ≤ 24) ∧ (0 ≤ F 49 ∧ F 49 ≤ F 32)) ∧ (∀ k, k < 4 → 0 ≤ op1 k ∧ op1 k ≤ 20) ∧ (∀ k, k < 4 → 0 ≤ mn1 k ∧ mn1 k ≤ 12) ∧ (∀ k, k < 24 → -300 ≤ ai1 k ∧ ai1 k ≤ 100) ∧ (∀ k, k < 24 → (0 ≤ fa1 k ∧ fa1 k ≤ 3) ∧ (0 ≤ mu1 k ∧ mu1 k ≤ 50) ∧ (fa1 k = 1 ∨ fa1 k = 2 → 1 ≤ mu1 k)) ∧ (∀ k, k < 15 → tb1 k = -1 ∨ ((0 ≤ tb1 k ∧ tb1 k ≤ 9999) ∧ (10 ≤ k → 1 ≤ tb1 k))) ∧ (∀ s l : Nat, (s : Int) < F 47 → (l : Int) < mn1 s → lyT ly1 (84 * s + 7 * l))
def okTx (cs : Nat → ClassId) (g : Nat → va_E) (i : Nat) (F : Nat → Int) : Prop := ∃ st1 op1 mn1 ai1 fa1 mu1 tb1 ly1 : Nat → Int, (g (i + 16) = iA cs 4 st1 ∧ g (i + 17) = iA cs 4 op1 ∧ g (i + 18) = iA cs 4 mn1 ∧ g (i + 19) = iA cs 24 ai1 ∧ g (i + 20) = iA cs 24 fa1 ∧ g (i + 21) = iA cs 24 mu1 ∧ g (i + 22) = iA cs 15 tb1 ∧ g (i + 23) = iA cs 336 ly1) ∧ okT F op1 mn1 ai1 fa1 mu1 tb1 ly1
theorem okTx.mv {cs : Nat → ClassId} {g g' : Nat → va_E} {i : Nat} {F F' : Nat → Int} (h : okTx cs g i F) (hG : ∀ j, i + 16 ≤ j → j ≤ i + 23 → g' j = g j) (hF : F' 47 = F 47 ∧ F' 48 = F 48 ∧ F' 49 = F 49 ∧ F 32 ≤ F' 32) : okTx cs g' i F' := by
  obtain ⟨st1, op1, mn1, ai1, fa1, mu1, tb1, ly1, ⟨h1, h2, h3, h4, h5, h6, h7, h8⟩, ⟨a1, a2, a3⟩, a4, a5, a6, a7, a8, a9⟩ := h
  obtain ⟨f1, f2, f3, f4⟩ := hF
  refine ⟨st1, op1, mn1, ai1, fa1, mu1, tb1, ly1, ⟨by rw [hG _ (by omega) (by omega)]; exact h1, by rw [hG _ (by omega) (by omega)]; exact h2, by rw [hG _ (by omega) (by omega)]; exact h3, by rw [hG _ (by omega) (by omega)]; exact h4, by rw [hG _ (by omega) (by omega)]; exact h5, by rw [hG _ (by omega) (by omega)]; exact h6, by rw [hG _ (by omega) (by omega)]; exact h7, by rw [hG _ (by omega) (by omega)]; exact h8⟩, ⟨by rw [f1]; exact a1, by rw [f2]; exact a2, by rw [f3]; omega⟩, a4, a5, a6, a7, a8, fun s l h => a9 s l (by rw [f1] at h; exact h)⟩

theorem RD.w {F F' : Nat → Int} (h : RD F) (hF : ∀ f, f ≠ 24 → f ≠ 38 → F' f = F f) (h38 : 0 ≤ F' 38 ∧ F' 38 ≤ 5) : RD F' := by
  obtain ⟨a, b, c, d, e, f, k⟩ := h
  unfold RD
  rw [hF 32 (by decide) (by decide), hF 33 (by decide) (by decide), hF 34 (by decide) (by decide), hF 35 (by decide) (by decide), hF 36 (by decide) (by decide), hF 37 (by decide) (by decide)]
  exact ⟨a, b, c, d, e, f, h38⟩
theorem RD.put {F : Nat → Int} {k : Nat} {v : Int} (h : RD F) (hk : k < 32 ∨ 38 < k) : RD (uZ F k v) := by
  unfold RD at *
  rw [uZ_n _ _ (by omega), uZ_n _ _ (by omega), uZ_n _ _ (by omega), uZ_n _ _ (by omega), uZ_n _ _ (by omega), uZ_n _ _ (by omega), uZ_n _ _ (by omega)]
  exact h

set_option maxRecDepth 100000 in
set_option maxHeartbeats 4000000 in
theorem c_X10_slope1 (l : Launch) (D : va_G) (A : Nat → Prop) (cs : Nat → ClassId) (tt : Nat) (N : Nat) (ad : Nat → Nat) (g : Nat → va_E) (i : Nat) (hN : i + 30 ≤ N) (F : Nat → Int) (hg : g i = mC ad i F) (tp : Nat → Int) (ha13 : g (i + 13) = iA cs 900 tp) (htp : ∀ k, k < 900 → 0 ≤ tp k ∧ tp k ≤ 255) (hRD : RD F) (h38 : F 38 = 0) (hTx : okTx cs g i F) : zM l yX10_slope1 cX10_slope1 1 none ({ frames := 5, cells := 0, slots := 0, locals := 300 } : Room) D A cs tt N ad g [.ref (ad i)] (rV0 N ad fun g' => (∃ F' : Nat → Int, g' i = mC ad i F' ∧ RD F' ∧ F 32 ≤ F' 32 ∧ (F' 38 = 0 → F' 35 ≠ 0 → F 32 < F' 32) ∧ (∀ f, f ≠ 24 → f ≠ 32 → f ≠ 33 → f ≠ 35 → f ≠ 36 → f ≠ 37 → f ≠ 38 → f ≠ 47 → f ≠ 48 → f ≠ 49 → F' f = F f) ∧ okTx cs g' i F') ∧ ∀ j, j ≠ i → j < i + 16 ∨ i + 23 < j → g' j = g j) := by
  have hay1 : zAt ad (i) (ad i) := rfl
  have hay2 : zAt ad (i + 13) (ad (i + 13)) := rfl
  obtain ⟨d32, d33, d35, d36, d2, d37, d38⟩ := id hRD
  obtain ⟨st1, op1, mn1, ai1, fa1, mu1, tb1, ly1, ⟨ha16, ha17, ha18, ha19, ha20, ha21, ha22, ha23⟩, ⟨⟨t47, t48, t49⟩, hop1, hmn1, hai1, hfa1, htb1, hly1⟩⟩ := id hTx
  have hay3 : zAt ad (i + 16) (ad (i + 16)) := rfl
  have hay4 : zAt ad (i + 17) (ad (i + 17)) := rfl
  have hay5 : zAt ad (i + 18) (ad (i + 18)) := rfl
  have hay6 : zAt ad (i + 19) (ad (i + 19)) := rfl
  have hay7 : zAt ad (i + 20) (ad (i + 20)) := rfl
  have hay8 : zAt ad (i + 21) (ad (i + 21)) := rfl
  have hay9 : zAt ad (i + 22) (ad (i + 22)) := rfl
  have hay10 : zAt ad (i + 23) (ad (i + 23)) := rfl
  refine z_of (by decide) (Nat.le_of_ble_eq_true rfl) ?_
  intro pZ eZ sZ mZ below meth cZ C hr hlk hnm
  refine z_lv (lv' := [(0, .ref (ad i))]) [0] rfl ?_
  refine z_aload_n C 0 dX10_slope1_0 rfl ?_
  refine z_aload_n C 0 dX10_slope1_1 rfl ?_
  refine z_get (v := .int (zI (F 47))) C (by omega) hay1 hg rfl inA_X10 47 (by decide) q_1506 rfl (fv (F := F) (f := 47) rfl) dX10_slope1_2 ?_
  refine z_iconst (z := 4) C dX10_slope1_5 rfl ?_
  refine z_icmp_ge (tgt := 13) C dX10_slope1_6 (by decide) (by omega) (by omega) (fun hby11 => ?_) (fun hby11 => ?_)
  · refine z_iconst (z := 0) C dX10_slope1_13 rfl ?_
    refine z_iconst (z := 2) C dX10_slope1_14 rfl ?_
    have h38vy12 : F 38 = 0 := h38
    refine z_cV (As := [.int (zI (0)), .int (zI (2))]) (rest := []) (ci := 12) C (c_X10_wants l D A cs tt N ad _ i hN _ hg (by omega) (0) (by omega) (2) (by omega)) (by omega) hay1 hg rfl rfl mv_yX10_wants q_1678 hd_yX10_wants (by decide) (Nat.le_of_ble_eq_true rfl) (by decide) dX10_slope1_15 rfl (kI0 fun vy12 gvy12 hvy12 => ?_)
    obtain ⟨⟨Fvy12, hcvy12, hqvy12, hbvy12, hFvy12⟩, hfvy12⟩ := hvy12
    have hdvy12 : RD Fvy12 := RD.w hRD hFvy12 hbvy12
    obtain rfl : vy12 = 0 := by omega
    have e38vy12 : 1 ≤ Fvy12 38 := by omega
    clear hqvy12
    refine z_if_ne (tgt := 22) C dX10_slope1_18 (by decide) (by omega) (fun h => absurd h (by omega)) (fun _ => ?_)
    have hFy13 : ∀ f, f ≠ 24 → f ≠ 32 → f ≠ 33 → f ≠ 35 → f ≠ 36 → f ≠ 37 → f ≠ 38 → f ≠ 47 → f ≠ 48 → f ≠ 49 → Fvy12 f = F f := fun f n24 n32 n33 n35 n36 n37 n38 n47 n48 n49 => (hFvy12 f n24 n38)
    have hey14 : Fvy12 32 = F 32 := (hFvy12 32 (by decide) (by decide))
    have hey15 : Fvy12 35 = F 35 := (hFvy12 35 (by decide) (by decide))
    have hey16 : Fvy12 38 = Fvy12 38 := rfl
    have hey17 : Fvy12 32 = F 32 := (hFvy12 32 (by decide) (by decide))
    have hey18 : Fvy12 47 = F 47 := (hFvy12 47 (by decide) (by decide))
    have hey19 : Fvy12 48 = F 48 := (hFvy12 48 (by decide) (by decide))
    have hey20 : Fvy12 49 = F 49 := (hFvy12 49 (by decide) (by decide))
    have hlay22 : ∀ s l : Nat, (s : Int) < Fvy12 47 → (l : Int) < mn1 s → lyT ly1 (84 * s + 7 * l) := fun s l a1 a2 => hly1 s l (by omega) a2
    have hgy23 := (hfvy12 (i + 16) (ne_o (i := i) (c := 16) (d := 0) rfl)).trans ha16
    have hgy24 := (hfvy12 (i + 17) (ne_o (i := i) (c := 17) (d := 0) rfl)).trans ha17
    have hgy25 := (hfvy12 (i + 18) (ne_o (i := i) (c := 18) (d := 0) rfl)).trans ha18
    have hgy26 := (hfvy12 (i + 19) (ne_o (i := i) (c := 19) (d := 0) rfl)).trans ha19
    have hgy27 := (hfvy12 (i + 20) (ne_o (i := i) (c := 20) (d := 0) rfl)).trans ha20
    have hgy28 := (hfvy12 (i + 21) (ne_o (i := i) (c := 21) (d := 0) rfl)).trans ha21
    have hgy29 := (hfvy12 (i + 22) (ne_o (i := i) (c := 22) (d := 0) rfl)).trans ha22
    have hgy30 := (hfvy12 (i + 23) (ne_o (i := i) (c := 23) (d := 0) rfl)).trans ha23
    have htxy31 : okTx cs gvy12 i Fvy12 := ⟨_, _, _, _, _, _, _, _, ⟨hgy23, hgy24, hgy25, hgy26, hgy27, hgy28, hgy29, hgy30⟩, ⟨⟨by omega, by omega, by omega⟩, hop1, hmn1, hai1, hfa1, htb1, hlay22⟩⟩
    exact z_vret C hr hlk dX10_slope1_21 (by decide) (by decide) ⟨rfl, rfl, rfl, ⟨_, hcvy12, hdvy12, by omega, by omega, hFy13, htxy31⟩, fun j j1 j2 => by rw [hfvy12 _ (by omega)]⟩
  · refine z_iconst (z := 1) C dX10_slope1_9 rfl ?_
    refine z_goto (tgt := 14) C dX10_slope1_10 (by decide) ?_
    refine z_iconst (z := 2) C dX10_slope1_14 rfl ?_
    have h38vy32 : F 38 = 0 := h38
    refine z_cV (As := [.int (zI (1)), .int (zI (2))]) (rest := []) (ci := 12) C (c_X10_wants l D A cs tt N ad _ i hN _ hg (by omega) (1) (by omega) (2) (by omega)) (by omega) hay1 hg rfl rfl mv_yX10_wants q_1678 hd_yX10_wants (by decide) (Nat.le_of_ble_eq_true rfl) (by decide) dX10_slope1_15 rfl (kI0 fun vy32 gvy32 hvy32 => ?_)
    obtain ⟨⟨Fvy32, hcvy32, hqvy32, hbvy32, hFvy32⟩, hfvy32⟩ := hvy32
    have hdvy32 : RD Fvy32 := RD.w hRD hFvy32 hbvy32
    obtain rfl : vy32 = 1 := by omega
    have e38vy32 : Fvy32 38 = 0 := by omega
    clear hqvy32
    refine z_if_ne (tgt := 22) C dX10_slope1_18 (by decide) (by omega) (fun _ => ?_) (fun h => absurd h (by omega))
    refine z_aload_n C 0 dX10_slope1_22 rfl ?_
    have hgy33 := (hfvy32 (i + 13) (ne_o (i := i) (c := 13) (d := 0) rfl)).trans ha13
    refine z_cV (As := []) (rest := []) (ci := 12) C (c_X10_go l D A cs tt N ad _ i hN _ hcvy32 _ hgy33 htp hdvy32) (by omega) hay1 hcvy32 rfl rfl mv_yX10_go q_1652 hd_yX10_go (by decide) (Nat.le_of_ble_eq_true rfl) (by decide) dX10_slope1_23 rfl (kV0 fun gvy34 hvy34 => ?_)
    obtain ⟨⟨Fvy34, hcvy34, hdvy34, hlvy34, hsvy34, hFvy34⟩, hfvy34⟩ := hvy34
    rw [show Fvy32 32 = F 32 from (hFvy32 32 (by decide) (by decide))] at hlvy34 hsvy34
    have h34vy34 : Fvy34 34 = F 34 := (hFvy34 34 (by decide) (by decide) (by decide) (by decide) (by decide)).trans ((hFvy32 34 (by decide) (by decide)))
    obtain ⟨d32vy34, -, d35vy34, d36vy34, -, d37vy34, d38vy34⟩ := id hdvy34
    have h38vy34 : Fvy34 38 = 0 := ((hFvy34 38 (by decide) (by decide) (by decide) (by decide) (by decide)).trans e38vy32)
    refine z_aload_n C 0 dX10_slope1_26 rfl ?_
    refine z_get (v := .ref (ad (i + 16))) C (by omega) hay1 hcvy34 rfl inA_X10 39 (by decide) q_1498 rfl rfl dX10_slope1_27 ?_
    refine z_aload_n C 0 dX10_slope1_30 rfl ?_
    refine z_get (v := .int (zI (F 47))) C (by omega) hay1 hcvy34 rfl inA_X10 47 (by decide) q_1506 rfl (fv (F := Fvy34) (f := 47) ((hFvy34 47 (by decide) (by decide) (by decide) (by decide) (by decide)).trans (hFvy32 47 (by decide) (by decide)))) dX10_slope1_31 ?_
    refine z_aload_n C 0 dX10_slope1_34 rfl ?_
    refine z_iconst (z := 0) C dX10_slope1_35 rfl ?_
    refine z_bipush (z := 90) C dX10_slope1_36 (by decide) ?_
    have hgy35 := (hfvy34 (i + 13) (ne_o (i := i) (c := 13) (d := 0) rfl)).trans hgy33
    refine z_cV (As := [.int (zI (0)), .int (zI (90))]) (rest := [.int (zI (F 47)), .ref (ad (i + 16))]) (ci := 12) C (c_X10_number l D A cs tt N ad _ i hN _ hcvy34 _ hgy35 htp hdvy34 (0) (by omega) (90) (by omega)) (by omega) hay1 hcvy34 rfl rfl mv_yX10_number q_1682 hd_yX10_number (by decide) (Nat.le_of_ble_eq_true rfl) (by decide) dX10_slope1_38 rfl (kI0 fun vy36 gvy36 hvy36 => ?_)
    obtain ⟨hrvy36, ⟨Fvy36, hcvy36, hdvy36, hlvy36, hsvy36, hFvy36⟩, hfvy36⟩ := hvy36
    rw [show Fvy34 32 = Fvy34 32 from rfl] at hlvy36
    rw [show Fvy34 38 = 0 from ((hFvy34 38 (by decide) (by decide) (by decide) (by decide) (by decide)).trans e38vy32), show Fvy34 35 = Fvy34 35 from rfl] at hsvy36
    have h34vy36 : Fvy36 34 = F 34 := (hFvy36 34 (by decide) (by decide) (by decide) (by decide) (by decide) (by decide) (by decide)).trans (((hFvy34 34 (by decide) (by decide) (by decide) (by decide) (by decide)).trans (hFvy32 34 (by decide) (by decide))))
    obtain ⟨d32vy36, -, d35vy36, d36vy36, -, d37vy36, d38vy36⟩ := id hdvy36
    rcases (show Fvy36 38 = 0 ∨ Fvy36 38 ≠ 0 by omega) with hxvy36 | hxvy36
    · have hqvy36 := hsvy36 hxvy36
      clear hsvy36
      have hgy37 := (hfvy32 (i + 16) (ne_o (i := i) (c := 16) (d := 0) rfl)).trans ha16
      have hgy38 := (hfvy34 (i + 16) (ne_o (i := i) (c := 16) (d := 0) rfl)).trans hgy37
      have hgy39 := (hfvy36 (i + 16) (ne_o (i := i) (c := 16) (d := 0) rfl)).trans hgy38
      refine z_iast C (by omega) hay3 hgy39 ((F 47).toNat) (by omega) (by omega) (by decide) dX10_slope1_41 (fun gy40 egy41 => ?_)
      have hgy42 := up_s egy41
      obtain ⟨ry43, hvy44⟩ : ∃ rZ9 : Nat → Int, rZ9 = uZ st1 ((F 47).toNat) (vy36) := ⟨_, rfl⟩
      rw [← hvy44] at hgy42
      refine z_aload_n C 0 dX10_slope1_42 rfl ?_
      have hgy45 := up_n egy41 hcvy36 (ne_o (i := i) (c := 0) (d := 16) rfl)
      refine z_get (v := .int (zI (0))) C (by omega) hay1 hgy45 rfl inA_X10 38 (by decide) q_1497 rfl (fv (F := Fvy36) (f := 38) hxvy36) dX10_slope1_43 ?_
      refine z_if_ne (tgt := 65) C dX10_slope1_46 (by decide) (by omega) (fun h => absurd h (by omega)) (fun _ => ?_)
      refine z_aload_n C 0 dX10_slope1_49 rfl ?_
      refine z_get (v := .ref (ad (i + 17))) C (by omega) hay1 hgy45 rfl inA_X10 40 (by decide) q_1499 rfl rfl dX10_slope1_50 ?_
      refine z_aload_n C 0 dX10_slope1_53 rfl ?_
      refine z_get (v := .int (zI (F 47))) C (by omega) hay1 hgy45 rfl inA_X10 47 (by decide) q_1506 rfl (fv (F := Fvy36) (f := 47) ((hFvy36 47 (by decide) (by decide) (by decide) (by decide) (by decide) (by decide) (by decide)).trans ((hFvy34 47 (by decide) (by decide) (by decide) (by decide) (by decide)).trans (hFvy32 47 (by decide) (by decide))))) dX10_slope1_54 ?_
      refine z_aload_n C 0 dX10_slope1_57 rfl ?_
      refine z_iconst (z := 0) C dX10_slope1_58 rfl ?_
      refine z_bipush (z := 20) C dX10_slope1_59 (by decide) ?_
      have hgy46 := (hfvy36 (i + 13) (ne_o (i := i) (c := 13) (d := 0) rfl)).trans hgy35
      have hgy47 := up_n egy41 hgy46 (ne_o (i := i) (c := 13) (d := 16) rfl)
      refine z_cV (As := [.int (zI (0)), .int (zI (20))]) (rest := [.int (zI (F 47)), .ref (ad (i + 17))]) (ci := 12) C (c_X10_number l D A cs tt N ad _ i hN _ hgy45 _ hgy47 htp hdvy36 (0) (by omega) (20) (by omega)) (by omega) hay1 hgy45 rfl rfl mv_yX10_number q_1682 hd_yX10_number (by decide) (Nat.le_of_ble_eq_true rfl) (by decide) dX10_slope1_61 rfl (kI0 fun vy48 gvy48 hvy48 => ?_)
      obtain ⟨hrvy48, ⟨Fvy48, hcvy48, hdvy48, hlvy48, hsvy48, hFvy48⟩, hfvy48⟩ := hvy48
      rw [show Fvy36 32 = Fvy36 32 from rfl] at hlvy48
      rw [show Fvy36 38 = 0 from hxvy36, show Fvy36 35 = Fvy36 35 from rfl] at hsvy48
      have h34vy48 : Fvy48 34 = F 34 := (hFvy48 34 (by decide) (by decide) (by decide) (by decide) (by decide) (by decide) (by decide)).trans (((hFvy36 34 (by decide) (by decide) (by decide) (by decide) (by decide) (by decide) (by decide)).trans ((hFvy34 34 (by decide) (by decide) (by decide) (by decide) (by decide)).trans (hFvy32 34 (by decide) (by decide)))))
      obtain ⟨d32vy48, -, d35vy48, d36vy48, -, d37vy48, d38vy48⟩ := id hdvy48
      rcases (show Fvy48 38 = 0 ∨ Fvy48 38 ≠ 0 by omega) with hxvy48 | hxvy48
      · have hqvy48 := hsvy48 hxvy48
        clear hsvy48
        have hgy49 := (hfvy32 (i + 17) (ne_o (i := i) (c := 17) (d := 0) rfl)).trans ha17
        have hgy50 := (hfvy34 (i + 17) (ne_o (i := i) (c := 17) (d := 0) rfl)).trans hgy49
        have hgy51 := (hfvy36 (i + 17) (ne_o (i := i) (c := 17) (d := 0) rfl)).trans hgy50
        have hgy52 := up_n egy41 hgy51 (ne_o (i := i) (c := 17) (d := 16) rfl)
        have hgy53 := (hfvy48 (i + 17) (ne_o (i := i) (c := 17) (d := 0) rfl)).trans hgy52
        refine z_iast C (by omega) hay4 hgy53 ((F 47).toNat) (by omega) (by omega) (by decide) dX10_slope1_64 (fun gy54 egy55 => ?_)
        have hgy56 := up_s egy55
        obtain ⟨ry57, hvy58⟩ : ∃ rZ9 : Nat → Int, rZ9 = uZ op1 ((F 47).toNat) (vy48) := ⟨_, rfl⟩
        rw [← hvy58] at hgy56
        refine z_aload_n C 0 dX10_slope1_65 rfl ?_
        have hgy59 := up_n egy55 hcvy48 (ne_o (i := i) (c := 0) (d := 17) rfl)
        refine z_get (v := .ref (ad (i + 18))) C (by omega) hay1 hgy59 rfl inA_X10 41 (by decide) q_1500 rfl rfl dX10_slope1_66 ?_
        refine z_aload_n C 0 dX10_slope1_69 rfl ?_
        refine z_get (v := .int (zI (F 47))) C (by omega) hay1 hgy59 rfl inA_X10 47 (by decide) q_1506 rfl (fv (F := Fvy48) (f := 47) ((hFvy48 47 (by decide) (by decide) (by decide) (by decide) (by decide) (by decide) (by decide)).trans ((hFvy36 47 (by decide) (by decide) (by decide) (by decide) (by decide) (by decide) (by decide)).trans ((hFvy34 47 (by decide) (by decide) (by decide) (by decide) (by decide)).trans (hFvy32 47 (by decide) (by decide)))))) dX10_slope1_70 ?_
        refine z_iconst (z := 0) C dX10_slope1_73 rfl ?_
        have hgy60 := (hfvy32 (i + 18) (ne_o (i := i) (c := 18) (d := 0) rfl)).trans ha18
        have hgy61 := (hfvy34 (i + 18) (ne_o (i := i) (c := 18) (d := 0) rfl)).trans hgy60
        have hgy62 := (hfvy36 (i + 18) (ne_o (i := i) (c := 18) (d := 0) rfl)).trans hgy61
        have hgy63 := up_n egy41 hgy62 (ne_o (i := i) (c := 18) (d := 16) rfl)
        have hgy64 := (hfvy48 (i + 18) (ne_o (i := i) (c := 18) (d := 0) rfl)).trans hgy63
        have hgy65 := up_n egy55 hgy64 (ne_o (i := i) (c := 18) (d := 17) rfl)
        refine z_iast C (by omega) hay5 hgy65 ((F 47).toNat) (by omega) (by omega) (by decide) dX10_slope1_74 (fun gy66 egy67 => ?_)
        have hgy68 := up_s egy67
        obtain ⟨ry69, hvy70⟩ : ∃ rZ9 : Nat → Int, rZ9 = uZ mn1 ((F 47).toNat) (0) := ⟨_, rfl⟩
        rw [← hvy70] at hgy68
        refine z_aload_n C 0 dX10_slope1_75 rfl ?_
        refine z_dup C dX10_slope1_76 rfl ?_
        have hgy71 := up_n egy67 hgy59 (ne_o (i := i) (c := 0) (d := 18) rfl)
        refine z_get (v := .int (zI (F 47))) C (by omega) hay1 hgy71 rfl inA_X10 47 (by decide) q_1506 rfl (fv (F := Fvy48) (f := 47) ((hFvy48 47 (by decide) (by decide) (by decide) (by decide) (by decide) (by decide) (by decide)).trans ((hFvy36 47 (by decide) (by decide) (by decide) (by decide) (by decide) (by decide) (by decide)).trans ((hFvy34 47 (by decide) (by decide) (by decide) (by decide) (by decide)).trans (hFvy32 47 (by decide) (by decide)))))) dX10_slope1_77 ?_
        refine z_iconst (z := 1) C dX10_slope1_80 rfl ?_
        refine z_iadd C dX10_slope1_81 ?_
        refine z_put (fs' := mF ad (i) (uZ Fvy48 47 ((F 47) + 1))) C (by omega) hay1 hgy71 tyX10 tyX10_ok nmX10 rfl inA_X10 47 (by decide) q_1506 rfl rfl rfl rfl (Nat.le_of_ble_eq_true rfl) rfl dX10_slope1_82 (fun gy72 egy73 => ?_)
        have hgy74 := up_s egy73
        have hFy75 : ∀ f, f ≠ 24 → f ≠ 32 → f ≠ 33 → f ≠ 35 → f ≠ 36 → f ≠ 37 → f ≠ 38 → f ≠ 47 → f ≠ 48 → f ≠ 49 → (uZ Fvy48 47 ((F 47) + 1)) f = F f := fun f n24 n32 n33 n35 n36 n37 n38 n47 n48 n49 => ((uZ_n _ _ n47).trans ((hFvy48 f n24 n32 n33 n35 n36 n37 n38).trans ((hFvy36 f n24 n32 n33 n35 n36 n37 n38).trans ((hFvy34 f n32 n33 n35 n36 n37).trans (hFvy32 f n24 n38)))))
        have hey76 : (uZ Fvy48 47 ((F 47) + 1)) 32 = Fvy48 32 := (fn rfl (by decide))
        have hey77 : (uZ Fvy48 47 ((F 47) + 1)) 35 = Fvy48 35 := (fn rfl (by decide))
        have hey78 : (uZ Fvy48 47 ((F 47) + 1)) 38 = 0 := (fn hxvy48 (by decide))
        have hey79 : (uZ Fvy48 47 ((F 47) + 1)) 32 = Fvy48 32 := (fn rfl (by decide))
        have hey80 : (uZ Fvy48 47 ((F 47) + 1)) 47 = (F 47) + 1 := (uZ_s _ _ _)
        have hey81 : (uZ Fvy48 47 ((F 47) + 1)) 48 = F 48 := (fn ((hFvy48 48 (by decide) (by decide) (by decide) (by decide) (by decide) (by decide) (by decide)).trans ((hFvy36 48 (by decide) (by decide) (by decide) (by decide) (by decide) (by decide) (by decide)).trans ((hFvy34 48 (by decide) (by decide) (by decide) (by decide) (by decide)).trans (hFvy32 48 (by decide) (by decide))))) (by decide))
        have hey82 : (uZ Fvy48 47 ((F 47) + 1)) 49 = F 49 := (fn ((hFvy48 49 (by decide) (by decide) (by decide) (by decide) (by decide) (by decide) (by decide)).trans ((hFvy36 49 (by decide) (by decide) (by decide) (by decide) (by decide) (by decide) (by decide)).trans ((hFvy34 49 (by decide) (by decide) (by decide) (by decide) (by decide)).trans (hFvy32 49 (by decide) (by decide))))) (by decide))
        have hfry84 : ∀ j, j ≠ (F 47).toNat → ry57 j = op1 j := fun j n0 => (congrFun hvy58 _).trans ((uZ_n _ _ n0).trans (rfl))
        have hwy85 : ry57 ((F 47).toNat) = vy48 := (congrFun hvy58 _).trans (uZ_s _ _ _)
        have haky83 : ∀ k, k < 4 → 0 ≤ ry57 k ∧ ry57 k ≤ 20 := by
          intro k hk
          by_cases e : k = (F 47).toNat
          · rw [e]; have hk0 := hop1 ((F 47).toNat) (by omega); omega
          · have hk0 := hop1 k hk; rw [hfry84 k e]; exact hk0
        have hfry87 : ∀ j, j ≠ (F 47).toNat → ry69 j = mn1 j := fun j n0 => (congrFun hvy70 _).trans ((uZ_n _ _ n0).trans (rfl))
        have hwy88 : ry69 ((F 47).toNat) = 0 := (congrFun hvy70 _).trans (uZ_s _ _ _)
        have haky86 : ∀ k, k < 4 → 0 ≤ ry69 k ∧ ry69 k ≤ 12 := by
          intro k hk
          by_cases e : k = (F 47).toNat
          · rw [e]; have hk0 := hmn1 ((F 47).toNat) (by omega); omega
          · have hk0 := hmn1 k hk; rw [hfry87 k e]; exact hk0
        have hfry91 : ∀ j, j ≠ (F 47).toNat → ry69 j = mn1 j := fun j n0 => (congrFun hvy70 _).trans ((uZ_n _ _ n0).trans (rfl))
        have hwy92 : ry69 ((F 47).toNat) = 0 := (congrFun hvy70 _).trans (uZ_s _ _ _)
        have hlay90 : ∀ s l : Nat, (s : Int) < (uZ Fvy48 47 ((F 47) + 1)) 47 → (l : Int) < ry69 s → lyT ly1 (84 * s + 7 * l) := by
          intro s l a1 a2
          by_cases e : s = (F 47).toNat
          · subst e; omega
          · have hs9 := hfry91 s e; rw [hs9] at a2; have hm9 := hmn1 s (by omega); exact hly1 s l (by omega) a2
        have hgy93 := (hfvy48 (i + 16) (ne_o (i := i) (c := 16) (d := 0) rfl)).trans hgy42
        have hgy94 := up_n egy55 hgy93 (ne_o (i := i) (c := 16) (d := 17) rfl)
        have hgy95 := up_n egy67 hgy94 (ne_o (i := i) (c := 16) (d := 18) rfl)
        have hgy96 := up_n egy73 hgy95 (ne_o (i := i) (c := 16) (d := 0) rfl)
        have hgy97 := up_n egy67 hgy56 (ne_o (i := i) (c := 17) (d := 18) rfl)
        have hgy98 := up_n egy73 hgy97 (ne_o (i := i) (c := 17) (d := 0) rfl)
        have hgy99 := up_n egy73 hgy68 (ne_o (i := i) (c := 18) (d := 0) rfl)
        have hgy100 := (hfvy32 (i + 19) (ne_o (i := i) (c := 19) (d := 0) rfl)).trans ha19
        have hgy101 := (hfvy34 (i + 19) (ne_o (i := i) (c := 19) (d := 0) rfl)).trans hgy100
        have hgy102 := (hfvy36 (i + 19) (ne_o (i := i) (c := 19) (d := 0) rfl)).trans hgy101
        have hgy103 := up_n egy41 hgy102 (ne_o (i := i) (c := 19) (d := 16) rfl)
        have hgy104 := (hfvy48 (i + 19) (ne_o (i := i) (c := 19) (d := 0) rfl)).trans hgy103
        have hgy105 := up_n egy55 hgy104 (ne_o (i := i) (c := 19) (d := 17) rfl)
        have hgy106 := up_n egy67 hgy105 (ne_o (i := i) (c := 19) (d := 18) rfl)
        have hgy107 := up_n egy73 hgy106 (ne_o (i := i) (c := 19) (d := 0) rfl)
        have hgy108 := (hfvy32 (i + 20) (ne_o (i := i) (c := 20) (d := 0) rfl)).trans ha20
        have hgy109 := (hfvy34 (i + 20) (ne_o (i := i) (c := 20) (d := 0) rfl)).trans hgy108
        have hgy110 := (hfvy36 (i + 20) (ne_o (i := i) (c := 20) (d := 0) rfl)).trans hgy109
        have hgy111 := up_n egy41 hgy110 (ne_o (i := i) (c := 20) (d := 16) rfl)
        have hgy112 := (hfvy48 (i + 20) (ne_o (i := i) (c := 20) (d := 0) rfl)).trans hgy111
        have hgy113 := up_n egy55 hgy112 (ne_o (i := i) (c := 20) (d := 17) rfl)
        have hgy114 := up_n egy67 hgy113 (ne_o (i := i) (c := 20) (d := 18) rfl)
        have hgy115 := up_n egy73 hgy114 (ne_o (i := i) (c := 20) (d := 0) rfl)
        have hgy116 := (hfvy32 (i + 21) (ne_o (i := i) (c := 21) (d := 0) rfl)).trans ha21
        have hgy117 := (hfvy34 (i + 21) (ne_o (i := i) (c := 21) (d := 0) rfl)).trans hgy116
        have hgy118 := (hfvy36 (i + 21) (ne_o (i := i) (c := 21) (d := 0) rfl)).trans hgy117
        have hgy119 := up_n egy41 hgy118 (ne_o (i := i) (c := 21) (d := 16) rfl)
        have hgy120 := (hfvy48 (i + 21) (ne_o (i := i) (c := 21) (d := 0) rfl)).trans hgy119
        have hgy121 := up_n egy55 hgy120 (ne_o (i := i) (c := 21) (d := 17) rfl)
        have hgy122 := up_n egy67 hgy121 (ne_o (i := i) (c := 21) (d := 18) rfl)
        have hgy123 := up_n egy73 hgy122 (ne_o (i := i) (c := 21) (d := 0) rfl)
        have hgy124 := (hfvy32 (i + 22) (ne_o (i := i) (c := 22) (d := 0) rfl)).trans ha22
        have hgy125 := (hfvy34 (i + 22) (ne_o (i := i) (c := 22) (d := 0) rfl)).trans hgy124
        have hgy126 := (hfvy36 (i + 22) (ne_o (i := i) (c := 22) (d := 0) rfl)).trans hgy125
        have hgy127 := up_n egy41 hgy126 (ne_o (i := i) (c := 22) (d := 16) rfl)
        have hgy128 := (hfvy48 (i + 22) (ne_o (i := i) (c := 22) (d := 0) rfl)).trans hgy127
        have hgy129 := up_n egy55 hgy128 (ne_o (i := i) (c := 22) (d := 17) rfl)
        have hgy130 := up_n egy67 hgy129 (ne_o (i := i) (c := 22) (d := 18) rfl)
        have hgy131 := up_n egy73 hgy130 (ne_o (i := i) (c := 22) (d := 0) rfl)
        have hgy132 := (hfvy32 (i + 23) (ne_o (i := i) (c := 23) (d := 0) rfl)).trans ha23
        have hgy133 := (hfvy34 (i + 23) (ne_o (i := i) (c := 23) (d := 0) rfl)).trans hgy132
        have hgy134 := (hfvy36 (i + 23) (ne_o (i := i) (c := 23) (d := 0) rfl)).trans hgy133
        have hgy135 := up_n egy41 hgy134 (ne_o (i := i) (c := 23) (d := 16) rfl)
        have hgy136 := (hfvy48 (i + 23) (ne_o (i := i) (c := 23) (d := 0) rfl)).trans hgy135
        have hgy137 := up_n egy55 hgy136 (ne_o (i := i) (c := 23) (d := 17) rfl)
        have hgy138 := up_n egy67 hgy137 (ne_o (i := i) (c := 23) (d := 18) rfl)
        have hgy139 := up_n egy73 hgy138 (ne_o (i := i) (c := 23) (d := 0) rfl)
        have htxy140 : okTx cs gy72 i (uZ Fvy48 47 ((F 47) + 1)) := ⟨_, _, _, _, _, _, _, _, ⟨hgy96, hgy98, hgy99, hgy107, hgy115, hgy123, hgy131, hgy139⟩, ⟨⟨by omega, by omega, by omega⟩, haky83, haky86, hai1, hfa1, htb1, hlay90⟩⟩
        exact z_vret C hr hlk dX10_slope1_85 (by decide) (by decide) ⟨rfl, rfl, rfl, ⟨_, hgy74, (RD.put hdvy48 (by decide)), by omega, by omega, hFy75, htxy140⟩, fun j j1 j2 => by rw [egy73, va_up_ne _ _ (by omega)]; rw [egy67, va_up_ne _ _ (by omega)]; rw [egy55, va_up_ne _ _ (by omega)]; rw [hfvy48 _ (by omega)]; rw [egy41, va_up_ne _ _ (by omega)]; rw [hfvy36 _ (by omega)]; rw [hfvy34 _ (by omega)]; rw [hfvy32 _ (by omega)]⟩
      · clear hsvy48
        have hpvy48 : 1 ≤ Fvy48 38 := by omega
        clear hxvy48
        have hgy141 := (hfvy32 (i + 17) (ne_o (i := i) (c := 17) (d := 0) rfl)).trans ha17
        have hgy142 := (hfvy34 (i + 17) (ne_o (i := i) (c := 17) (d := 0) rfl)).trans hgy141
        have hgy143 := (hfvy36 (i + 17) (ne_o (i := i) (c := 17) (d := 0) rfl)).trans hgy142
        have hgy144 := up_n egy41 hgy143 (ne_o (i := i) (c := 17) (d := 16) rfl)
        have hgy145 := (hfvy48 (i + 17) (ne_o (i := i) (c := 17) (d := 0) rfl)).trans hgy144
        refine z_iast C (by omega) hay4 hgy145 ((F 47).toNat) (by omega) (by omega) (by decide) dX10_slope1_64 (fun gy146 egy147 => ?_)
        have hgy148 := up_s egy147
        obtain ⟨ry149, hvy150⟩ : ∃ rZ9 : Nat → Int, rZ9 = uZ op1 ((F 47).toNat) (vy48) := ⟨_, rfl⟩
        rw [← hvy150] at hgy148
        refine z_aload_n C 0 dX10_slope1_65 rfl ?_
        have hgy151 := up_n egy147 hcvy48 (ne_o (i := i) (c := 0) (d := 17) rfl)
        refine z_get (v := .ref (ad (i + 18))) C (by omega) hay1 hgy151 rfl inA_X10 41 (by decide) q_1500 rfl rfl dX10_slope1_66 ?_
        refine z_aload_n C 0 dX10_slope1_69 rfl ?_
        refine z_get (v := .int (zI (F 47))) C (by omega) hay1 hgy151 rfl inA_X10 47 (by decide) q_1506 rfl (fv (F := Fvy48) (f := 47) ((hFvy48 47 (by decide) (by decide) (by decide) (by decide) (by decide) (by decide) (by decide)).trans ((hFvy36 47 (by decide) (by decide) (by decide) (by decide) (by decide) (by decide) (by decide)).trans ((hFvy34 47 (by decide) (by decide) (by decide) (by decide) (by decide)).trans (hFvy32 47 (by decide) (by decide)))))) dX10_slope1_70 ?_
        refine z_iconst (z := 0) C dX10_slope1_73 rfl ?_
        have hgy152 := (hfvy32 (i + 18) (ne_o (i := i) (c := 18) (d := 0) rfl)).trans ha18
        have hgy153 := (hfvy34 (i + 18) (ne_o (i := i) (c := 18) (d := 0) rfl)).trans hgy152
        have hgy154 := (hfvy36 (i + 18) (ne_o (i := i) (c := 18) (d := 0) rfl)).trans hgy153
        have hgy155 := up_n egy41 hgy154 (ne_o (i := i) (c := 18) (d := 16) rfl)
        have hgy156 := (hfvy48 (i + 18) (ne_o (i := i) (c := 18) (d := 0) rfl)).trans hgy155
        have hgy157 := up_n egy147 hgy156 (ne_o (i := i) (c := 18) (d := 17) rfl)
        refine z_iast C (by omega) hay5 hgy157 ((F 47).toNat) (by omega) (by omega) (by decide) dX10_slope1_74 (fun gy158 egy159 => ?_)
        have hgy160 := up_s egy159
        obtain ⟨ry161, hvy162⟩ : ∃ rZ9 : Nat → Int, rZ9 = uZ mn1 ((F 47).toNat) (0) := ⟨_, rfl⟩
        rw [← hvy162] at hgy160
        refine z_aload_n C 0 dX10_slope1_75 rfl ?_
        refine z_dup C dX10_slope1_76 rfl ?_
        have hgy163 := up_n egy159 hgy151 (ne_o (i := i) (c := 0) (d := 18) rfl)
        refine z_get (v := .int (zI (F 47))) C (by omega) hay1 hgy163 rfl inA_X10 47 (by decide) q_1506 rfl (fv (F := Fvy48) (f := 47) ((hFvy48 47 (by decide) (by decide) (by decide) (by decide) (by decide) (by decide) (by decide)).trans ((hFvy36 47 (by decide) (by decide) (by decide) (by decide) (by decide) (by decide) (by decide)).trans ((hFvy34 47 (by decide) (by decide) (by decide) (by decide) (by decide)).trans (hFvy32 47 (by decide) (by decide)))))) dX10_slope1_77 ?_
        refine z_iconst (z := 1) C dX10_slope1_80 rfl ?_
        refine z_iadd C dX10_slope1_81 ?_
        refine z_put (fs' := mF ad (i) (uZ Fvy48 47 ((F 47) + 1))) C (by omega) hay1 hgy163 tyX10 tyX10_ok nmX10 rfl inA_X10 47 (by decide) q_1506 rfl rfl rfl rfl (Nat.le_of_ble_eq_true rfl) rfl dX10_slope1_82 (fun gy164 egy165 => ?_)
        have hgy166 := up_s egy165
        have hFy167 : ∀ f, f ≠ 24 → f ≠ 32 → f ≠ 33 → f ≠ 35 → f ≠ 36 → f ≠ 37 → f ≠ 38 → f ≠ 47 → f ≠ 48 → f ≠ 49 → (uZ Fvy48 47 ((F 47) + 1)) f = F f := fun f n24 n32 n33 n35 n36 n37 n38 n47 n48 n49 => ((uZ_n _ _ n47).trans ((hFvy48 f n24 n32 n33 n35 n36 n37 n38).trans ((hFvy36 f n24 n32 n33 n35 n36 n37 n38).trans ((hFvy34 f n32 n33 n35 n36 n37).trans (hFvy32 f n24 n38)))))
        have hey168 : (uZ Fvy48 47 ((F 47) + 1)) 32 = Fvy48 32 := (fn rfl (by decide))
        have hey169 : (uZ Fvy48 47 ((F 47) + 1)) 35 = Fvy48 35 := (fn rfl (by decide))
        have hey170 : (uZ Fvy48 47 ((F 47) + 1)) 38 = Fvy48 38 := (fn rfl (by decide))
        have hey171 : (uZ Fvy48 47 ((F 47) + 1)) 32 = Fvy48 32 := (fn rfl (by decide))
        have hey172 : (uZ Fvy48 47 ((F 47) + 1)) 47 = (F 47) + 1 := (uZ_s _ _ _)
        have hey173 : (uZ Fvy48 47 ((F 47) + 1)) 48 = F 48 := (fn ((hFvy48 48 (by decide) (by decide) (by decide) (by decide) (by decide) (by decide) (by decide)).trans ((hFvy36 48 (by decide) (by decide) (by decide) (by decide) (by decide) (by decide) (by decide)).trans ((hFvy34 48 (by decide) (by decide) (by decide) (by decide) (by decide)).trans (hFvy32 48 (by decide) (by decide))))) (by decide))
        have hey174 : (uZ Fvy48 47 ((F 47) + 1)) 49 = F 49 := (fn ((hFvy48 49 (by decide) (by decide) (by decide) (by decide) (by decide) (by decide) (by decide)).trans ((hFvy36 49 (by decide) (by decide) (by decide) (by decide) (by decide) (by decide) (by decide)).trans ((hFvy34 49 (by decide) (by decide) (by decide) (by decide) (by decide)).trans (hFvy32 49 (by decide) (by decide))))) (by decide))
        have hfry176 : ∀ j, j ≠ (F 47).toNat → ry149 j = op1 j := fun j n0 => (congrFun hvy150 _).trans ((uZ_n _ _ n0).trans (rfl))
        have hwy177 : ry149 ((F 47).toNat) = vy48 := (congrFun hvy150 _).trans (uZ_s _ _ _)
        have haky175 : ∀ k, k < 4 → 0 ≤ ry149 k ∧ ry149 k ≤ 20 := by
          intro k hk
          by_cases e : k = (F 47).toNat
          · rw [e]; have hk0 := hop1 ((F 47).toNat) (by omega); omega
          · have hk0 := hop1 k hk; rw [hfry176 k e]; exact hk0
        have hfry179 : ∀ j, j ≠ (F 47).toNat → ry161 j = mn1 j := fun j n0 => (congrFun hvy162 _).trans ((uZ_n _ _ n0).trans (rfl))
        have hwy180 : ry161 ((F 47).toNat) = 0 := (congrFun hvy162 _).trans (uZ_s _ _ _)
        have haky178 : ∀ k, k < 4 → 0 ≤ ry161 k ∧ ry161 k ≤ 12 := by
          intro k hk
          by_cases e : k = (F 47).toNat
          · rw [e]; have hk0 := hmn1 ((F 47).toNat) (by omega); omega
          · have hk0 := hmn1 k hk; rw [hfry179 k e]; exact hk0
        have hfry183 : ∀ j, j ≠ (F 47).toNat → ry161 j = mn1 j := fun j n0 => (congrFun hvy162 _).trans ((uZ_n _ _ n0).trans (rfl))
        have hwy184 : ry161 ((F 47).toNat) = 0 := (congrFun hvy162 _).trans (uZ_s _ _ _)
        have hlay182 : ∀ s l : Nat, (s : Int) < (uZ Fvy48 47 ((F 47) + 1)) 47 → (l : Int) < ry161 s → lyT ly1 (84 * s + 7 * l) := by
          intro s l a1 a2
          by_cases e : s = (F 47).toNat
          · subst e; omega
          · have hs9 := hfry183 s e; rw [hs9] at a2; have hm9 := hmn1 s (by omega); exact hly1 s l (by omega) a2
        have hgy185 := (hfvy48 (i + 16) (ne_o (i := i) (c := 16) (d := 0) rfl)).trans hgy42
        have hgy186 := up_n egy147 hgy185 (ne_o (i := i) (c := 16) (d := 17) rfl)
        have hgy187 := up_n egy159 hgy186 (ne_o (i := i) (c := 16) (d := 18) rfl)
        have hgy188 := up_n egy165 hgy187 (ne_o (i := i) (c := 16) (d := 0) rfl)
        have hgy189 := up_n egy159 hgy148 (ne_o (i := i) (c := 17) (d := 18) rfl)
        have hgy190 := up_n egy165 hgy189 (ne_o (i := i) (c := 17) (d := 0) rfl)
        have hgy191 := up_n egy165 hgy160 (ne_o (i := i) (c := 18) (d := 0) rfl)
        have hgy192 := (hfvy32 (i + 19) (ne_o (i := i) (c := 19) (d := 0) rfl)).trans ha19
        have hgy193 := (hfvy34 (i + 19) (ne_o (i := i) (c := 19) (d := 0) rfl)).trans hgy192
        have hgy194 := (hfvy36 (i + 19) (ne_o (i := i) (c := 19) (d := 0) rfl)).trans hgy193
        have hgy195 := up_n egy41 hgy194 (ne_o (i := i) (c := 19) (d := 16) rfl)
        have hgy196 := (hfvy48 (i + 19) (ne_o (i := i) (c := 19) (d := 0) rfl)).trans hgy195
        have hgy197 := up_n egy147 hgy196 (ne_o (i := i) (c := 19) (d := 17) rfl)
        have hgy198 := up_n egy159 hgy197 (ne_o (i := i) (c := 19) (d := 18) rfl)
        have hgy199 := up_n egy165 hgy198 (ne_o (i := i) (c := 19) (d := 0) rfl)
        have hgy200 := (hfvy32 (i + 20) (ne_o (i := i) (c := 20) (d := 0) rfl)).trans ha20
        have hgy201 := (hfvy34 (i + 20) (ne_o (i := i) (c := 20) (d := 0) rfl)).trans hgy200
        have hgy202 := (hfvy36 (i + 20) (ne_o (i := i) (c := 20) (d := 0) rfl)).trans hgy201
        have hgy203 := up_n egy41 hgy202 (ne_o (i := i) (c := 20) (d := 16) rfl)
        have hgy204 := (hfvy48 (i + 20) (ne_o (i := i) (c := 20) (d := 0) rfl)).trans hgy203
        have hgy205 := up_n egy147 hgy204 (ne_o (i := i) (c := 20) (d := 17) rfl)
        have hgy206 := up_n egy159 hgy205 (ne_o (i := i) (c := 20) (d := 18) rfl)
        have hgy207 := up_n egy165 hgy206 (ne_o (i := i) (c := 20) (d := 0) rfl)
        have hgy208 := (hfvy32 (i + 21) (ne_o (i := i) (c := 21) (d := 0) rfl)).trans ha21
        have hgy209 := (hfvy34 (i + 21) (ne_o (i := i) (c := 21) (d := 0) rfl)).trans hgy208
        have hgy210 := (hfvy36 (i + 21) (ne_o (i := i) (c := 21) (d := 0) rfl)).trans hgy209
        have hgy211 := up_n egy41 hgy210 (ne_o (i := i) (c := 21) (d := 16) rfl)
        have hgy212 := (hfvy48 (i + 21) (ne_o (i := i) (c := 21) (d := 0) rfl)).trans hgy211
        have hgy213 := up_n egy147 hgy212 (ne_o (i := i) (c := 21) (d := 17) rfl)
        have hgy214 := up_n egy159 hgy213 (ne_o (i := i) (c := 21) (d := 18) rfl)
        have hgy215 := up_n egy165 hgy214 (ne_o (i := i) (c := 21) (d := 0) rfl)
        have hgy216 := (hfvy32 (i + 22) (ne_o (i := i) (c := 22) (d := 0) rfl)).trans ha22
        have hgy217 := (hfvy34 (i + 22) (ne_o (i := i) (c := 22) (d := 0) rfl)).trans hgy216
        have hgy218 := (hfvy36 (i + 22) (ne_o (i := i) (c := 22) (d := 0) rfl)).trans hgy217
        have hgy219 := up_n egy41 hgy218 (ne_o (i := i) (c := 22) (d := 16) rfl)
        have hgy220 := (hfvy48 (i + 22) (ne_o (i := i) (c := 22) (d := 0) rfl)).trans hgy219
        have hgy221 := up_n egy147 hgy220 (ne_o (i := i) (c := 22) (d := 17) rfl)
        have hgy222 := up_n egy159 hgy221 (ne_o (i := i) (c := 22) (d := 18) rfl)
        have hgy223 := up_n egy165 hgy222 (ne_o (i := i) (c := 22) (d := 0) rfl)
        have hgy224 := (hfvy32 (i + 23) (ne_o (i := i) (c := 23) (d := 0) rfl)).trans ha23
        have hgy225 := (hfvy34 (i + 23) (ne_o (i := i) (c := 23) (d := 0) rfl)).trans hgy224
        have hgy226 := (hfvy36 (i + 23) (ne_o (i := i) (c := 23) (d := 0) rfl)).trans hgy225
        have hgy227 := up_n egy41 hgy226 (ne_o (i := i) (c := 23) (d := 16) rfl)
        have hgy228 := (hfvy48 (i + 23) (ne_o (i := i) (c := 23) (d := 0) rfl)).trans hgy227
        have hgy229 := up_n egy147 hgy228 (ne_o (i := i) (c := 23) (d := 17) rfl)
        have hgy230 := up_n egy159 hgy229 (ne_o (i := i) (c := 23) (d := 18) rfl)
        have hgy231 := up_n egy165 hgy230 (ne_o (i := i) (c := 23) (d := 0) rfl)
        have htxy232 : okTx cs gy164 i (uZ Fvy48 47 ((F 47) + 1)) := ⟨_, _, _, _, _, _, _, _, ⟨hgy188, hgy190, hgy191, hgy199, hgy207, hgy215, hgy223, hgy231⟩, ⟨⟨by omega, by omega, by omega⟩, haky175, haky178, hai1, hfa1, htb1, hlay182⟩⟩
        exact z_vret C hr hlk dX10_slope1_85 (by decide) (by decide) ⟨rfl, rfl, rfl, ⟨_, hgy166, (RD.put hdvy48 (by decide)), by omega, by omega, hFy167, htxy232⟩, fun j j1 j2 => by rw [egy165, va_up_ne _ _ (by omega)]; rw [egy159, va_up_ne _ _ (by omega)]; rw [egy147, va_up_ne _ _ (by omega)]; rw [hfvy48 _ (by omega)]; rw [egy41, va_up_ne _ _ (by omega)]; rw [hfvy36 _ (by omega)]; rw [hfvy34 _ (by omega)]; rw [hfvy32 _ (by omega)]⟩
    · clear hsvy36
      have hpvy36 : 1 ≤ Fvy36 38 := by omega
      clear hxvy36
      have hgy233 := (hfvy32 (i + 16) (ne_o (i := i) (c := 16) (d := 0) rfl)).trans ha16
      have hgy234 := (hfvy34 (i + 16) (ne_o (i := i) (c := 16) (d := 0) rfl)).trans hgy233
      have hgy235 := (hfvy36 (i + 16) (ne_o (i := i) (c := 16) (d := 0) rfl)).trans hgy234
      refine z_iast C (by omega) hay3 hgy235 ((F 47).toNat) (by omega) (by omega) (by decide) dX10_slope1_41 (fun gy236 egy237 => ?_)
      have hgy238 := up_s egy237
      obtain ⟨ry239, hvy240⟩ : ∃ rZ9 : Nat → Int, rZ9 = uZ st1 ((F 47).toNat) (vy36) := ⟨_, rfl⟩
      rw [← hvy240] at hgy238
      refine z_aload_n C 0 dX10_slope1_42 rfl ?_
      have hgy241 := up_n egy237 hcvy36 (ne_o (i := i) (c := 0) (d := 16) rfl)
      refine z_get (v := .int (zI (Fvy36 38))) C (by omega) hay1 hgy241 rfl inA_X10 38 (by decide) q_1497 rfl (fv (F := Fvy36) (f := 38) rfl) dX10_slope1_43 ?_
      refine z_if_ne (tgt := 65) C dX10_slope1_46 (by decide) (by omega) (fun _ => ?_) (fun h => absurd h (by omega))
      refine z_aload_n C 0 dX10_slope1_65 rfl ?_
      refine z_get (v := .ref (ad (i + 18))) C (by omega) hay1 hgy241 rfl inA_X10 41 (by decide) q_1500 rfl rfl dX10_slope1_66 ?_
      refine z_aload_n C 0 dX10_slope1_69 rfl ?_
      refine z_get (v := .int (zI (F 47))) C (by omega) hay1 hgy241 rfl inA_X10 47 (by decide) q_1506 rfl (fv (F := Fvy36) (f := 47) ((hFvy36 47 (by decide) (by decide) (by decide) (by decide) (by decide) (by decide) (by decide)).trans ((hFvy34 47 (by decide) (by decide) (by decide) (by decide) (by decide)).trans (hFvy32 47 (by decide) (by decide))))) dX10_slope1_70 ?_
      refine z_iconst (z := 0) C dX10_slope1_73 rfl ?_
      have hgy242 := (hfvy32 (i + 18) (ne_o (i := i) (c := 18) (d := 0) rfl)).trans ha18
      have hgy243 := (hfvy34 (i + 18) (ne_o (i := i) (c := 18) (d := 0) rfl)).trans hgy242
      have hgy244 := (hfvy36 (i + 18) (ne_o (i := i) (c := 18) (d := 0) rfl)).trans hgy243
      have hgy245 := up_n egy237 hgy244 (ne_o (i := i) (c := 18) (d := 16) rfl)
      refine z_iast C (by omega) hay5 hgy245 ((F 47).toNat) (by omega) (by omega) (by decide) dX10_slope1_74 (fun gy246 egy247 => ?_)
      have hgy248 := up_s egy247
      obtain ⟨ry249, hvy250⟩ : ∃ rZ9 : Nat → Int, rZ9 = uZ mn1 ((F 47).toNat) (0) := ⟨_, rfl⟩
      rw [← hvy250] at hgy248
      refine z_aload_n C 0 dX10_slope1_75 rfl ?_
      refine z_dup C dX10_slope1_76 rfl ?_
      have hgy251 := up_n egy247 hgy241 (ne_o (i := i) (c := 0) (d := 18) rfl)
      refine z_get (v := .int (zI (F 47))) C (by omega) hay1 hgy251 rfl inA_X10 47 (by decide) q_1506 rfl (fv (F := Fvy36) (f := 47) ((hFvy36 47 (by decide) (by decide) (by decide) (by decide) (by decide) (by decide) (by decide)).trans ((hFvy34 47 (by decide) (by decide) (by decide) (by decide) (by decide)).trans (hFvy32 47 (by decide) (by decide))))) dX10_slope1_77 ?_
      refine z_iconst (z := 1) C dX10_slope1_80 rfl ?_
      refine z_iadd C dX10_slope1_81 ?_
      refine z_put (fs' := mF ad (i) (uZ Fvy36 47 ((F 47) + 1))) C (by omega) hay1 hgy251 tyX10 tyX10_ok nmX10 rfl inA_X10 47 (by decide) q_1506 rfl rfl rfl rfl (Nat.le_of_ble_eq_true rfl) rfl dX10_slope1_82 (fun gy252 egy253 => ?_)
      have hgy254 := up_s egy253
      have hFy255 : ∀ f, f ≠ 24 → f ≠ 32 → f ≠ 33 → f ≠ 35 → f ≠ 36 → f ≠ 37 → f ≠ 38 → f ≠ 47 → f ≠ 48 → f ≠ 49 → (uZ Fvy36 47 ((F 47) + 1)) f = F f := fun f n24 n32 n33 n35 n36 n37 n38 n47 n48 n49 => ((uZ_n _ _ n47).trans ((hFvy36 f n24 n32 n33 n35 n36 n37 n38).trans ((hFvy34 f n32 n33 n35 n36 n37).trans (hFvy32 f n24 n38))))
      have hey256 : (uZ Fvy36 47 ((F 47) + 1)) 32 = Fvy36 32 := (fn rfl (by decide))
      have hey257 : (uZ Fvy36 47 ((F 47) + 1)) 35 = Fvy36 35 := (fn rfl (by decide))
      have hey258 : (uZ Fvy36 47 ((F 47) + 1)) 38 = Fvy36 38 := (fn rfl (by decide))
      have hey259 : (uZ Fvy36 47 ((F 47) + 1)) 32 = Fvy36 32 := (fn rfl (by decide))
      have hey260 : (uZ Fvy36 47 ((F 47) + 1)) 47 = (F 47) + 1 := (uZ_s _ _ _)
      have hey261 : (uZ Fvy36 47 ((F 47) + 1)) 48 = F 48 := (fn ((hFvy36 48 (by decide) (by decide) (by decide) (by decide) (by decide) (by decide) (by decide)).trans ((hFvy34 48 (by decide) (by decide) (by decide) (by decide) (by decide)).trans (hFvy32 48 (by decide) (by decide)))) (by decide))
      have hey262 : (uZ Fvy36 47 ((F 47) + 1)) 49 = F 49 := (fn ((hFvy36 49 (by decide) (by decide) (by decide) (by decide) (by decide) (by decide) (by decide)).trans ((hFvy34 49 (by decide) (by decide) (by decide) (by decide) (by decide)).trans (hFvy32 49 (by decide) (by decide)))) (by decide))
      have hfry264 : ∀ j, j ≠ (F 47).toNat → ry249 j = mn1 j := fun j n0 => (congrFun hvy250 _).trans ((uZ_n _ _ n0).trans (rfl))
      have hwy265 : ry249 ((F 47).toNat) = 0 := (congrFun hvy250 _).trans (uZ_s _ _ _)
      have haky263 : ∀ k, k < 4 → 0 ≤ ry249 k ∧ ry249 k ≤ 12 := by
        intro k hk
        by_cases e : k = (F 47).toNat
        · rw [e]; have hk0 := hmn1 ((F 47).toNat) (by omega); omega
        · have hk0 := hmn1 k hk; rw [hfry264 k e]; exact hk0
      have hfry268 : ∀ j, j ≠ (F 47).toNat → ry249 j = mn1 j := fun j n0 => (congrFun hvy250 _).trans ((uZ_n _ _ n0).trans (rfl))
      have hwy269 : ry249 ((F 47).toNat) = 0 := (congrFun hvy250 _).trans (uZ_s _ _ _)
      have hlay267 : ∀ s l : Nat, (s : Int) < (uZ Fvy36 47 ((F 47) + 1)) 47 → (l : Int) < ry249 s → lyT ly1 (84 * s + 7 * l) := by
        intro s l a1 a2
        by_cases e : s = (F 47).toNat
        · subst e; omega
        · have hs9 := hfry268 s e; rw [hs9] at a2; have hm9 := hmn1 s (by omega); exact hly1 s l (by omega) a2
      have hgy270 := up_n egy247 hgy238 (ne_o (i := i) (c := 16) (d := 18) rfl)
      have hgy271 := up_n egy253 hgy270 (ne_o (i := i) (c := 16) (d := 0) rfl)
      have hgy272 := (hfvy32 (i + 17) (ne_o (i := i) (c := 17) (d := 0) rfl)).trans ha17
      have hgy273 := (hfvy34 (i + 17) (ne_o (i := i) (c := 17) (d := 0) rfl)).trans hgy272
      have hgy274 := (hfvy36 (i + 17) (ne_o (i := i) (c := 17) (d := 0) rfl)).trans hgy273
      have hgy275 := up_n egy237 hgy274 (ne_o (i := i) (c := 17) (d := 16) rfl)
      have hgy276 := up_n egy247 hgy275 (ne_o (i := i) (c := 17) (d := 18) rfl)
      have hgy277 := up_n egy253 hgy276 (ne_o (i := i) (c := 17) (d := 0) rfl)
      have hgy278 := up_n egy253 hgy248 (ne_o (i := i) (c := 18) (d := 0) rfl)
      have hgy279 := (hfvy32 (i + 19) (ne_o (i := i) (c := 19) (d := 0) rfl)).trans ha19
      have hgy280 := (hfvy34 (i + 19) (ne_o (i := i) (c := 19) (d := 0) rfl)).trans hgy279
      have hgy281 := (hfvy36 (i + 19) (ne_o (i := i) (c := 19) (d := 0) rfl)).trans hgy280
      have hgy282 := up_n egy237 hgy281 (ne_o (i := i) (c := 19) (d := 16) rfl)
      have hgy283 := up_n egy247 hgy282 (ne_o (i := i) (c := 19) (d := 18) rfl)
      have hgy284 := up_n egy253 hgy283 (ne_o (i := i) (c := 19) (d := 0) rfl)
      have hgy285 := (hfvy32 (i + 20) (ne_o (i := i) (c := 20) (d := 0) rfl)).trans ha20
      have hgy286 := (hfvy34 (i + 20) (ne_o (i := i) (c := 20) (d := 0) rfl)).trans hgy285
      have hgy287 := (hfvy36 (i + 20) (ne_o (i := i) (c := 20) (d := 0) rfl)).trans hgy286
      have hgy288 := up_n egy237 hgy287 (ne_o (i := i) (c := 20) (d := 16) rfl)
      have hgy289 := up_n egy247 hgy288 (ne_o (i := i) (c := 20) (d := 18) rfl)
      have hgy290 := up_n egy253 hgy289 (ne_o (i := i) (c := 20) (d := 0) rfl)
      have hgy291 := (hfvy32 (i + 21) (ne_o (i := i) (c := 21) (d := 0) rfl)).trans ha21
      have hgy292 := (hfvy34 (i + 21) (ne_o (i := i) (c := 21) (d := 0) rfl)).trans hgy291
      have hgy293 := (hfvy36 (i + 21) (ne_o (i := i) (c := 21) (d := 0) rfl)).trans hgy292
      have hgy294 := up_n egy237 hgy293 (ne_o (i := i) (c := 21) (d := 16) rfl)
      have hgy295 := up_n egy247 hgy294 (ne_o (i := i) (c := 21) (d := 18) rfl)
      have hgy296 := up_n egy253 hgy295 (ne_o (i := i) (c := 21) (d := 0) rfl)
      have hgy297 := (hfvy32 (i + 22) (ne_o (i := i) (c := 22) (d := 0) rfl)).trans ha22
      have hgy298 := (hfvy34 (i + 22) (ne_o (i := i) (c := 22) (d := 0) rfl)).trans hgy297
      have hgy299 := (hfvy36 (i + 22) (ne_o (i := i) (c := 22) (d := 0) rfl)).trans hgy298
      have hgy300 := up_n egy237 hgy299 (ne_o (i := i) (c := 22) (d := 16) rfl)
      have hgy301 := up_n egy247 hgy300 (ne_o (i := i) (c := 22) (d := 18) rfl)
      have hgy302 := up_n egy253 hgy301 (ne_o (i := i) (c := 22) (d := 0) rfl)
      have hgy303 := (hfvy32 (i + 23) (ne_o (i := i) (c := 23) (d := 0) rfl)).trans ha23
      have hgy304 := (hfvy34 (i + 23) (ne_o (i := i) (c := 23) (d := 0) rfl)).trans hgy303
      have hgy305 := (hfvy36 (i + 23) (ne_o (i := i) (c := 23) (d := 0) rfl)).trans hgy304
      have hgy306 := up_n egy237 hgy305 (ne_o (i := i) (c := 23) (d := 16) rfl)
      have hgy307 := up_n egy247 hgy306 (ne_o (i := i) (c := 23) (d := 18) rfl)
      have hgy308 := up_n egy253 hgy307 (ne_o (i := i) (c := 23) (d := 0) rfl)
      have htxy309 : okTx cs gy252 i (uZ Fvy36 47 ((F 47) + 1)) := ⟨_, _, _, _, _, _, _, _, ⟨hgy271, hgy277, hgy278, hgy284, hgy290, hgy296, hgy302, hgy308⟩, ⟨⟨by omega, by omega, by omega⟩, hop1, haky263, hai1, hfa1, htb1, hlay267⟩⟩
      exact z_vret C hr hlk dX10_slope1_85 (by decide) (by decide) ⟨rfl, rfl, rfl, ⟨_, hgy254, (RD.put hdvy36 (by decide)), by omega, by omega, hFy255, htxy309⟩, fun j j1 j2 => by rw [egy253, va_up_ne _ _ (by omega)]; rw [egy247, va_up_ne _ _ (by omega)]; rw [egy237, va_up_ne _ _ (by omega)]; rw [hfvy36 _ (by omega)]; rw [hfvy34 _ (by omega)]; rw [hfvy32 _ (by omega)]⟩

