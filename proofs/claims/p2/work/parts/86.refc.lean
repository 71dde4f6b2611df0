def lyT (r : Nat → Int) (q : Nat) : Prop := (0 ≤ r q ∧ r q ≤ 4) ∧ (1 ≤ r (q + 1) ∧ r (q + 1) ≤ 99) ∧ (0 ≤ r (q + 2) ∧ r (q + 2) ≤ 99) ∧ (1 ≤ r (q + 3) ∧ r (q + 3) ≤ 999) ∧ (-300 ≤ r (q + 4) ∧ r (q + 4) ≤ 0) ∧ (0 ≤ r (q + 6) ∧ r (q + 6) ≤ 900)
theorem lyT.ext {r r' : Nat → Int} {q : Nat} (h : ∀ j, q ≤ j → j < q + 7 → r' j = r j) (hl : lyT r q) : lyT r' q := by
  unfold lyT at *
  rw [h q (by omega) (by omega), h (q + 1) (by omega) (by omega), h (q + 2) (by omega) (by omega), h (q + 3) (by omega) (by omega), h (q + 4) (by omega) (by omega), h (q + 6) (by omega) (by omega)]
  exact hl
/-- what the reader has told so far -/
def okT (F op1 mn1 ai1 fa1 mu1 tb1 ly1 : Nat → Int) : Prop := ((0 ≤ F 47 ∧ F 47 ≤ 4) ∧ (0 ≤ F 48 ∧ F 48 ≤ 24) ∧ (0 ≤ F 49 ∧ F 49 ≤ F 32)) ∧ (∀ k, k < 4 → 0 ≤ op1 k ∧ op1 k ≤ 20) ∧ (∀ k, k < 4 → 0 ≤ mn1 k ∧ mn1 k ≤ 12) ∧ (∀ k, k < 24 → -300 ≤ ai1 k ∧ ai1 k ≤ 100) ∧ (∀ k, k < 24 → (0 ≤ fa1 k ∧ fa1 k ≤ 3) ∧ (0 ≤ mu1 k ∧ mu1 k ≤ 50) ∧ (fa1 k = 1 ∨ fa1 k = 2 → 1 ≤ mu1 k)) ∧ (∀ k, k < 15 → tb1 k = -1 ∨ ((0 ≤ tb1 k ∧ tb1 k ≤ 9999) ∧ (10 ≤ k → 1 ≤ tb1 k))) ∧ (∀ s l : Nat, (s : Int) < F 47 → (l : Int) < mn1 s → lyT ly1 (84 * s + 7 * l))
def okTx (cs : Nat → ClassId) (g : Nat → va_E) (i : Nat) (F : Nat → Int) : Prop := ∃ st1 op1 mn1 ai1 fa1 mu1 tb1 ly1 : Nat → Int, (g (i + 16) = iA cs 4 st1 ∧ g (i + 17) = iA cs 4 op1 ∧ g (i + 18) = iA cs 4 mn1 ∧ g (i + 19) = iA cs 24 ai1 ∧ g (i + 20) = iA cs 24 fa1 ∧ g (i + 21) = iA cs 24 mu1 ∧ g (i + 22) = iA cs 15 tb1 ∧ g (i + 23) = iA cs 336 ly1) ∧ okT F op1 mn1 ai1 fa1 mu1 tb1 ly1
theorem okTx.mv {cs : Nat → ClassId} {g g' : Nat → va_E} {i : Nat} {F F' : Nat → Int} (h : okTx cs g i F) (hG : ∀ j, i + 16 ≤ j → j ≤ i + 23 → g' j = g j) (hF : F' 47 = F 47 ∧ F' 48 = F 48 ∧ F' 49 = F 49 ∧ F 32 ≤ F' 32) : okTx cs g' i F' := by
  obtain ⟨st1, op1, mn1, ai1, fa1, mu1, tb1, ly1, ⟨h1, h2, h3, h4, h5, h6, h7, h8⟩, ⟨a1, a2, a3⟩, a4, a5, a6, a7, a8, a9⟩ := h
  obtain ⟨f1, f2, f3, f4⟩ := hF
  refine ⟨st1, op1, mn1, ai1, fa1, mu1, tb1, ly1, ⟨by rw [hG _ (by omega) (by omega)]; exact h1, by rw [hG _ (by omega) (by omega)]; exact h2, by rw [hG _ (by omega) (by omega)]; exact h3, by rw [hG _ (by omega) (by omega)]; exact h4, by rw [hG _ (by omega) (by omega)]; exact h5, by rw [hG _ (by omega) (by omega)]; exact h6, by rw [hG _ (by omega) (by omega)]; exact h7, by rw [hG _ (by omega) (by omega)]; exact h8⟩, ⟨by rw [f1]; exact a1, by rw [f2]; exact a2, by rw [f3]; omega⟩, a4, a5, a6, a7, a8, fun s l h => a9 s l (by rw [f1] at h; exact h)⟩

set_option maxRecDepth 100000 in
set_option maxHeartbeats 4000000 in
theorem c_X10_slope1 (l : Launch) (D : va_G) (A : Nat → Prop) (cs : Nat → ClassId) (tt : Nat) (N : Nat) (ad : Nat → Nat) (g : Nat → va_E) (i : Nat) (hN : i + 30 ≤ N) (F : Nat → Int) (hg : g i = mC ad i F) (tp : Nat → Int) (ha13 : g (i + 13) = iA cs 900 tp) (htp : ∀ k, k < 900 → 0 ≤ tp k ∧ tp k ≤ 255) (hRD : RD F) (h38 : F 38 = 0) (hTx : okTx cs g i F) : zM l yX10_slope1 cX10_slope1 1 none ({ frames := 5, cells := 0, slots := 0, locals := 300 } : Room) D A cs tt N ad g [.ref (ad i)] (rV0 N ad fun g' => (∃ F' : Nat → Int, g' i = mC ad i F' ∧ RD F' ∧ F 32 ≤ F' 32 ∧ (F' 38 = 0 → F' 35 ≠ 0 → F 32 < F' 32) ∧ (∀ f, f ≠ 24 → f ≠ 32 → f ≠ 33 → f ≠ 35 → f ≠ 36 → f ≠ 37 → f ≠ 38 → f ≠ 47 → f ≠ 48 → f ≠ 49 → F' f = F f) ∧ okTx cs g' i F') ∧ ∀ j, j ≠ i → j < i + 16 ∨ i + 23 < j → g' j = g j) := by
  have hay1 : zAt ad (i) (ad i) := rfl
  have hay2 : zAt ad (i + 13) (ad (i + 13)) := rfl
  obtain ⟨d32, d33, d35, d36, d2, d37, d38⟩ := id hRD
  obtain ⟨st1, op1, mn1, ai1, fa1, mu1, tb1, ly1, ⟨ha16, ha17, ha18, ha19, ha20, ha21, ha22, ha23⟩, ⟨⟨t47, t48, t49⟩, hop1, hmn1, hai1, hfa1, htb1, hly1⟩⟩ := id hTx
  have hay3 : zAt ad (i + 16) (ad (i + 16)) := rfl
  have hay4 : zAt ad (i + 17) (ad (i + 17)) := rfl
  have hay5 : zAt ad (i + 18) (ad (i + 18)) := rfl
  have hay6 : zAt ad (i + 19) (ad (i + 19)) := rfl
  have hay7 : zAt ad (i + 20) (ad (i + 20)) := rfl
  have hay8 : zAt ad (i + 21) (ad (i + 21)) := rfl
  have hay9 : zAt ad (i + 22) (ad (i + 22)) := rfl
  have hay10 : zAt ad (i + 23) (ad (i + 23)) := rfl
  refine z_of (by decide) (Nat.le_of_ble_eq_true rfl) ?_
  intro pZ eZ sZ mZ below meth cZ C hr hlk hnm
  refine z_lv (lv' := [(0, .ref (ad i))]) [0] rfl ?_
  refine z_aload_n C 0 dX10_slope1_0 rfl ?_
  refine z_aload_n C 0 dX10_slope1_1 rfl ?_
  refine z_get (v := .int (zI (F 47))) C (by omega) hay1 hg rfl inA_X10 47 (by decide) q_1506 rfl (fv (F := F) (f := 47) rfl) dX10_slope1_2 ?_
  refine z_iconst (z := 4) C dX10_slope1_5 rfl ?_
  refine z_icmp_ge (tgt := 13) C dX10_slope1_6 (by decide) (by omega) (by omega) (fun hby11 => ?_) (fun hby11 => ?_)
  · refine z_iconst (z := 0) C dX10_slope1_13 rfl ?_
    refine z_iconst (z := 2) C dX10_slope1_14 rfl ?_
    have h38vy12 : F 38 = 0 := h38
    refine z_cV (As := [.int (zI (0)), .int (zI (2))]) (rest := []) (ci := 12) C (c_X10_wants l D A cs tt N ad _ i hN _ hg (by omega) (0) (by omega) (2) (by omega)) (by omega) hay1 hg rfl rfl mv_yX10_wants q_1678 hd_yX10_wants (by decide) (Nat.le_of_ble_eq_true rfl) (by decide) dX10_slope1_15 rfl (kI0 fun vy12 gvy12 hvy12 => ?_)
    obtain ⟨⟨Fvy12, hcvy12, hqvy12, hbvy12, hFvy12⟩, hfvy12⟩ := hvy12
    obtain rfl : vy12 = 0 := by omega
    refine z_if_ne (tgt := 22) C dX10_slope1_18 (by decide) (by omega) (fun h => absurd h (by omega)) (fun _ => ?_)
    have hFy13 : ∀ f, f ≠ 24 → f ≠ 32 → f ≠ 33 → f ≠ 35 → f ≠ 36 → f ≠ 37 → f ≠ 38 → f ≠ 47 → f ≠ 48 → f ≠ 49 → Fvy12 f = F f := fun f n24 n32 n33 n35 n36 n37 n38 n47 n48 n49 => (hFvy12 f n24 n38)
    have hey14 : Fvy12 32 = F 32 := (hFvy12 32 (by decide) (by decide))
    have hey15 : Fvy12 33 = F 33 := (hFvy12 33 (by decide) (by decide))
    have hey16 : Fvy12 34 = F 34 := (hFvy12 34 (by decide) (by decide))
    have hey17 : Fvy12 35 = F 35 := (hFvy12 35 (by decide) (by decide))
    have hey18 : Fvy12 36 = F 36 := (hFvy12 36 (by decide) (by decide))
    have hey19 : Fvy12 37 = F 37 := (hFvy12 37 (by decide) (by decide))
    have hey20 : Fvy12 38 = Fvy12 38 := rfl
    have hrdy21 : RD Fvy12 := by unfold RD; omega
    have hey22 : Fvy12 32 = F 32 := (hFvy12 32 (by decide) (by decide))
    have hey23 : Fvy12 47 = F 47 := (hFvy12 47 (by decide) (by decide))
    have hey24 : Fvy12 48 = F 48 := (hFvy12 48 (by decide) (by decide))
    have hey25 : Fvy12 49 = F 49 := (hFvy12 49 (by decide) (by decide))
    have hlay27 : ∀ s l : Nat, (s : Int) < Fvy12 47 → (l : Int) < mn1 s → lyT ly1 (84 * s + 7 * l) := fun s l a1 a2 => hly1 s l (by omega) a2
    have hgy28 := (hfvy12 (i + 16) (ne_o (i := i) (c := 16) (d := 0) rfl)).trans ha16
    have hgy29 := (hfvy12 (i + 17) (ne_o (i := i) (c := 17) (d := 0) rfl)).trans ha17
    have hgy30 := (hfvy12 (i + 18) (ne_o (i := i) (c := 18) (d := 0) rfl)).trans ha18
    have hgy31 := (hfvy12 (i + 19) (ne_o (i := i) (c := 19) (d := 0) rfl)).trans ha19
    have hgy32 := (hfvy12 (i + 20) (ne_o (i := i) (c := 20) (d := 0) rfl)).trans ha20
    have hgy33 := (hfvy12 (i + 21) (ne_o (i := i) (c := 21) (d := 0) rfl)).trans ha21
    have hgy34 := (hfvy12 (i + 22) (ne_o (i := i) (c := 22) (d := 0) rfl)).trans ha22
    have hgy35 := (hfvy12 (i + 23) (ne_o (i := i) (c := 23) (d := 0) rfl)).trans ha23
    have htxy36 : okTx cs gvy12 i Fvy12 := ⟨_, _, _, _, _, _, _, _, ⟨hgy28, hgy29, hgy30, hgy31, hgy32, hgy33, hgy34, hgy35⟩, ⟨⟨by omega, by omega, by omega⟩, hop1, hmn1, hai1, hfa1, htb1, hlay27⟩⟩
    exact z_vret C hr hlk dX10_slope1_21 (by decide) (by decide) ⟨rfl, rfl, rfl, ⟨_, hcvy12, hrdy21, by omega, by omega, hFy13, htxy36⟩, fun j j1 j2 => by rw [hfvy12 _ (by omega)]⟩
  · refine z_iconst (z := 1) C dX10_slope1_9 rfl ?_
    refine z_goto (tgt := 14) C dX10_slope1_10 (by decide) ?_
    refine z_iconst (z := 2) C dX10_slope1_14 rfl ?_
    have h38vy37 : F 38 = 0 := h38
    refine z_cV (As := [.int (zI (1)), .int (zI (2))]) (rest := []) (ci := 12) C (c_X10_wants l D A cs tt N ad _ i hN _ hg (by omega) (1) (by omega) (2) (by omega)) (by omega) hay1 hg rfl rfl mv_yX10_wants q_1678 hd_yX10_wants (by decide) (Nat.le_of_ble_eq_true rfl) (by decide) dX10_slope1_15 rfl (kI0 fun vy37 gvy37 hvy37 => ?_)
    obtain ⟨⟨Fvy37, hcvy37, hqvy37, hbvy37, hFvy37⟩, hfvy37⟩ := hvy37
    obtain rfl : vy37 = 1 := by omega
    have e38vy37 : Fvy37 38 = 0 := by omega
    refine z_if_ne (tgt := 22) C dX10_slope1_18 (by decide) (by omega) (fun _ => ?_) (fun h => absurd h (by omega))
    refine z_aload_n C 0 dX10_slope1_22 rfl ?_
    have hey38 : Fvy37 32 = F 32 := (hFvy37 32 (by decide) (by decide))
    have hey39 : Fvy37 33 = F 33 := (hFvy37 33 (by decide) (by decide))
    have hey40 : Fvy37 34 = F 34 := (hFvy37 34 (by decide) (by decide))
    have hey41 : Fvy37 35 = F 35 := (hFvy37 35 (by decide) (by decide))
    have hey42 : Fvy37 36 = F 36 := (hFvy37 36 (by decide) (by decide))
    have hey43 : Fvy37 37 = F 37 := (hFvy37 37 (by decide) (by decide))
    have hey44 : Fvy37 38 = 0 := e38vy37
    have hrdy45 : RD Fvy37 := by unfold RD; omega
    have hgy46 := (hfvy37 (i + 13) (ne_o (i := i) (c := 13) (d := 0) rfl)).trans ha13
    refine z_cV (As := []) (rest := []) (ci := 12) C (c_X10_go l D A cs tt N ad _ i hN _ hcvy37 _ hgy46 htp hrdy45) (by omega) hay1 hcvy37 rfl rfl mv_yX10_go q_1652 hd_yX10_go (by decide) (Nat.le_of_ble_eq_true rfl) (by decide) dX10_slope1_23 rfl (kV0 fun gvy47 hvy47 => ?_)
    obtain ⟨⟨Fvy47, hcvy47, hdvy47, hlvy47, hsvy47, hFvy47⟩, hfvy47⟩ := hvy47
    have h32vy47 : Fvy37 32 = F 32 := (hFvy37 32 (by decide) (by decide))
    have h34vy47 : Fvy47 34 = F 34 := (hFvy47 34 (by decide) (by decide) (by decide) (by decide) (by decide)).trans ((hFvy37 34 (by decide) (by decide)))
    obtain ⟨d32vy47, d33vy47, d35vy47, d36vy47, d2vy47, d37vy47, d38vy47⟩ := id hdvy47
    have h38vy47 : Fvy47 38 = 0 := ((hFvy47 38 (by decide) (by decide) (by decide) (by decide) (by decide)).trans e38vy37)
    refine z_aload_n C 0 dX10_slope1_26 rfl ?_
    refine z_get (v := .ref (ad (i + 16))) C (by omega) hay1 hcvy47 rfl inA_X10 39 (by decide) q_1498 rfl rfl dX10_slope1_27 ?_
    refine z_aload_n C 0 dX10_slope1_30 rfl ?_
    refine z_get (v := .int (zI (F 47))) C (by omega) hay1 hcvy47 rfl inA_X10 47 (by decide) q_1506 rfl (fv (F := Fvy47) (f := 47) ((hFvy47 47 (by decide) (by decide) (by decide) (by decide) (by decide)).trans (hFvy37 47 (by decide) (by decide)))) dX10_slope1_31 ?_
    refine z_aload_n C 0 dX10_slope1_34 rfl ?_
    refine z_iconst (z := 0) C dX10_slope1_35 rfl ?_
    refine z_bipush (z := 90) C dX10_slope1_36 (by decide) ?_
    have hey48 : Fvy47 32 = Fvy47 32 := rfl
    have hey49 : Fvy47 33 = Fvy47 33 := rfl
    have hey50 : Fvy47 34 = F 34 := ((hFvy47 34 (by decide) (by decide) (by decide) (by decide) (by decide)).trans (hFvy37 34 (by decide) (by decide)))
    have hey51 : Fvy47 35 = Fvy47 35 := rfl
    have hey52 : Fvy47 36 = Fvy47 36 := rfl
    have hey53 : Fvy47 37 = Fvy47 37 := rfl
    have hey54 : Fvy47 38 = 0 := ((hFvy47 38 (by decide) (by decide) (by decide) (by decide) (by decide)).trans e38vy37)
    have hrdy55 : RD Fvy47 := by unfold RD; omega
    have hgy56 := (hfvy47 (i + 13) (ne_o (i := i) (c := 13) (d := 0) rfl)).trans hgy46
    have hey58 : Fvy47 38 = 0 := ((hFvy47 38 (by decide) (by decide) (by decide) (by decide) (by decide)).trans e38vy37)
    have hey59 : Fvy47 35 = Fvy47 35 := rfl
    refine z_cV (As := [.int (zI (0)), .int (zI (90))]) (rest := [.int (zI (F 47)), .ref (ad (i + 16))]) (ci := 12) C (c_X10_number l D A cs tt N ad _ i hN _ hcvy47 _ hgy56 htp hrdy55 (0) (by omega) (90) (by omega)) (by omega) hay1 hcvy47 rfl rfl mv_yX10_number q_1682 hd_yX10_number (by decide) (Nat.le_of_ble_eq_true rfl) (by decide) dX10_slope1_38 rfl (kI0 fun vy57 gvy57 hvy57 => ?_)
    obtain ⟨hrvy57, ⟨Fvy57, hcvy57, hdvy57, hlvy57, hsvy57, hFvy57⟩, hfvy57⟩ := hvy57
    have h32vy57 : Fvy47 32 = Fvy47 32 := rfl
    have h34vy57 : Fvy57 34 = F 34 := (hFvy57 34 (by decide) (by decide) (by decide) (by decide) (by decide) (by decide) (by decide)).trans (((hFvy47 34 (by decide) (by decide) (by decide) (by decide) (by decide)).trans (hFvy37 34 (by decide) (by decide))))
    obtain ⟨d32vy57, d33vy57, d35vy57, d36vy57, d2vy57, d37vy57, d38vy57⟩ := id hdvy57
    rcases (show Fvy57 38 = 0 ∨ Fvy57 38 ≠ 0 by omega) with hxvy57 | hxvy57
    · have hgy60 := (hfvy37 (i + 16) (ne_o (i := i) (c := 16) (d := 0) rfl)).trans ha16
      have hgy61 := (hfvy47 (i + 16) (ne_o (i := i) (c := 16) (d := 0) rfl)).trans hgy60
      have hgy62 := (hfvy57 (i + 16) (ne_o (i := i) (c := 16) (d := 0) rfl)).trans hgy61
      refine z_iast C (by omega) hay3 hgy62 ((F 47).toNat) (by omega) (by omega) (by decide) dX10_slope1_41 (fun gy63 egy64 => ?_)
      have hgy65 := up_s egy64
      obtain ⟨ry66, hvy67⟩ : ∃ rZ9 : Nat → Int, rZ9 = uZ st1 ((F 47).toNat) (vy57) := ⟨_, rfl⟩
      rw [← hvy67] at hgy65
      refine z_aload_n C 0 dX10_slope1_42 rfl ?_
      have hgy68 := up_n egy64 hcvy57 (ne_o (i := i) (c := 0) (d := 16) rfl)
      refine z_get (v := .int (zI (0))) C (by omega) hay1 hgy68 rfl inA_X10 38 (by decide) q_1497 rfl (fv (F := Fvy57) (f := 38) hxvy57) dX10_slope1_43 ?_
      refine z_if_ne (tgt := 65) C dX10_slope1_46 (by decide) (by omega) (fun h => absurd h (by omega)) (fun _ => ?_)
      refine z_aload_n C 0 dX10_slope1_49 rfl ?_
      refine z_get (v := .ref (ad (i + 17))) C (by omega) hay1 hgy68 rfl inA_X10 40 (by decide) q_1499 rfl rfl dX10_slope1_50 ?_
      refine z_aload_n C 0 dX10_slope1_53 rfl ?_
      refine z_get (v := .int (zI (F 47))) C (by omega) hay1 hgy68 rfl inA_X10 47 (by decide) q_1506 rfl (fv (F := Fvy57) (f := 47) ((hFvy57 47 (by decide) (by decide) (by decide) (by decide) (by decide) (by decide) (by decide)).trans ((hFvy47 47 (by decide) (by decide) (by decide) (by decide) (by decide)).trans (hFvy37 47 (by decide) (by decide))))) dX10_slope1_54 ?_
      refine z_aload_n C 0 dX10_slope1_57 rfl ?_
      refine z_iconst (z := 0) C dX10_slope1_58 rfl ?_
      refine z_bipush (z := 20) C dX10_slope1_59 (by decide) ?_
      have hey69 : Fvy57 32 = Fvy57 32 := rfl
      have hey70 : Fvy57 33 = Fvy57 33 := rfl
      have hey71 : Fvy57 34 = F 34 := ((hFvy57 34 (by decide) (by decide) (by decide) (by decide) (by decide) (by decide) (by decide)).trans ((hFvy47 34 (by decide) (by decide) (by decide) (by decide) (by decide)).trans (hFvy37 34 (by decide) (by decide))))
      have hey72 : Fvy57 35 = Fvy57 35 := rfl
      have hey73 : Fvy57 36 = Fvy57 36 := rfl
      have hey74 : Fvy57 37 = Fvy57 37 := rfl
      have hey75 : Fvy57 38 = 0 := hxvy57
      have hrdy76 : RD Fvy57 := by unfold RD; omega
      have hgy77 := (hfvy57 (i + 13) (ne_o (i := i) (c := 13) (d := 0) rfl)).trans hgy56
      have hgy78 := up_n egy64 hgy77 (ne_o (i := i) (c := 13) (d := 16) rfl)
      have hey80 : Fvy57 38 = 0 := hxvy57
      have hey81 : Fvy57 35 = Fvy57 35 := rfl
      refine z_cV (As := [.int (zI (0)), .int (zI (20))]) (rest := [.int (zI (F 47)), .ref (ad (i + 17))]) (ci := 12) C (c_X10_number l D A cs tt N ad _ i hN _ hgy68 _ hgy78 htp hrdy76 (0) (by omega) (20) (by omega)) (by omega) hay1 hgy68 rfl rfl mv_yX10_number q_1682 hd_yX10_number (by decide) (Nat.le_of_ble_eq_true rfl) (by decide) dX10_slope1_61 rfl (kI0 fun vy79 gvy79 hvy79 => ?_)
      obtain ⟨hrvy79, ⟨Fvy79, hcvy79, hdvy79, hlvy79, hsvy79, hFvy79⟩, hfvy79⟩ := hvy79
      have h32vy79 : Fvy57 32 = Fvy57 32 := rfl
      have h34vy79 : Fvy79 34 = F 34 := (hFvy79 34 (by decide) (by decide) (by decide) (by decide) (by decide) (by decide) (by decide)).trans (((hFvy57 34 (by decide) (by decide) (by decide) (by decide) (by decide) (by decide) (by decide)).trans ((hFvy47 34 (by decide) (by decide) (by decide) (by decide) (by decide)).trans (hFvy37 34 (by decide) (by decide)))))
      obtain ⟨d32vy79, d33vy79, d35vy79, d36vy79, d2vy79, d37vy79, d38vy79⟩ := id hdvy79
      rcases (show Fvy79 38 = 0 ∨ Fvy79 38 ≠ 0 by omega) with hxvy79 | hxvy79
      · have hgy82 := (hfvy37 (i + 17) (ne_o (i := i) (c := 17) (d := 0) rfl)).trans ha17
        have hgy83 := (hfvy47 (i + 17) (ne_o (i := i) (c := 17) (d := 0) rfl)).trans hgy82
        have hgy84 := (hfvy57 (i + 17) (ne_o (i := i) (c := 17) (d := 0) rfl)).trans hgy83
        have hgy85 := up_n egy64 hgy84 (ne_o (i := i) (c := 17) (d := 16) rfl)
        have hgy86 := (hfvy79 (i + 17) (ne_o (i := i) (c := 17) (d := 0) rfl)).trans hgy85
        refine z_iast C (by omega) hay4 hgy86 ((F 47).toNat) (by omega) (by omega) (by decide) dX10_slope1_64 (fun gy87 egy88 => ?_)
        have hgy89 := up_s egy88
        obtain ⟨ry90, hvy91⟩ : ∃ rZ9 : Nat → Int, rZ9 = uZ op1 ((F 47).toNat) (vy79) := ⟨_, rfl⟩
        rw [← hvy91] at hgy89
        refine z_aload_n C 0 dX10_slope1_65 rfl ?_
        have hgy92 := up_n egy88 hcvy79 (ne_o (i := i) (c := 0) (d := 17) rfl)
        refine z_get (v := .ref (ad (i + 18))) C (by omega) hay1 hgy92 rfl inA_X10 41 (by decide) q_1500 rfl rfl dX10_slope1_66 ?_
        refine z_aload_n C 0 dX10_slope1_69 rfl ?_
        refine z_get (v := .int (zI (F 47))) C (by omega) hay1 hgy92 rfl inA_X10 47 (by decide) q_1506 rfl (fv (F := Fvy79) (f := 47) ((hFvy79 47 (by decide) (by decide) (by decide) (by decide) (by decide) (by decide) (by decide)).trans ((hFvy57 47 (by decide) (by decide) (by decide) (by decide) (by decide) (by decide) (by decide)).trans ((hFvy47 47 (by decide) (by decide) (by decide) (by decide) (by decide)).trans (hFvy37 47 (by decide) (by decide)))))) dX10_slope1_70 ?_
        refine z_iconst (z := 0) C dX10_slope1_73 rfl ?_
        have hgy93 := (hfvy37 (i + 18) (ne_o (i := i) (c := 18) (d := 0) rfl)).trans ha18
        have hgy94 := (hfvy47 (i + 18) (ne_o (i := i) (c := 18) (d := 0) rfl)).trans hgy93
        have hgy95 := (hfvy57 (i + 18) (ne_o (i := i) (c := 18) (d := 0) rfl)).trans hgy94
        have hgy96 := up_n egy64 hgy95 (ne_o (i := i) (c := 18) (d := 16) rfl)
        have hgy97 := (hfvy79 (i + 18) (ne_o (i := i) (c := 18) (d := 0) rfl)).trans hgy96
        have hgy98 := up_n egy88 hgy97 (ne_o (i := i) (c := 18) (d := 17) rfl)
        refine z_iast C (by omega) hay5 hgy98 ((F 47).toNat) (by omega) (by omega) (by decide) dX10_slope1_74 (fun gy99 egy100 => ?_)
        have hgy101 := up_s egy100
        obtain ⟨ry102, hvy103⟩ : ∃ rZ9 : Nat → Int, rZ9 = uZ mn1 ((F 47).toNat) (0) := ⟨_, rfl⟩
        rw [← hvy103] at hgy101
        refine z_aload_n C 0 dX10_slope1_75 rfl ?_
        refine z_dup C dX10_slope1_76 rfl ?_
        have hgy104 := up_n egy100 hgy92 (ne_o (i := i) (c := 0) (d := 18) rfl)
        refine z_get (v := .int (zI (F 47))) C (by omega) hay1 hgy104 rfl inA_X10 47 (by decide) q_1506 rfl (fv (F := Fvy79) (f := 47) ((hFvy79 47 (by decide) (by decide) (by decide) (by decide) (by decide) (by decide) (by decide)).trans ((hFvy57 47 (by decide) (by decide) (by decide) (by decide) (by decide) (by decide) (by decide)).trans ((hFvy47 47 (by decide) (by decide) (by decide) (by decide) (by decide)).trans (hFvy37 47 (by decide) (by decide)))))) dX10_slope1_77 ?_
        refine z_iconst (z := 1) C dX10_slope1_80 rfl ?_
        refine z_iadd C dX10_slope1_81 ?_
        refine z_put (fs' := mF ad (i) (uZ Fvy79 47 ((F 47) + 1))) C (by omega) hay1 hgy104 tyX10 tyX10_ok nmX10 rfl inA_X10 47 (by decide) q_1506 rfl rfl rfl rfl (Nat.le_of_ble_eq_true rfl) rfl dX10_slope1_82 (fun gy105 egy106 => ?_)
        have hgy107 := up_s egy106
        have hFy108 : ∀ f, f ≠ 24 → f ≠ 32 → f ≠ 33 → f ≠ 35 → f ≠ 36 → f ≠ 37 → f ≠ 38 → f ≠ 47 → f ≠ 48 → f ≠ 49 → (uZ Fvy79 47 ((F 47) + 1)) f = F f := fun f n24 n32 n33 n35 n36 n37 n38 n47 n48 n49 => ((uZ_n _ _ n47).trans ((hFvy79 f n24 n32 n33 n35 n36 n37 n38).trans ((hFvy57 f n24 n32 n33 n35 n36 n37 n38).trans ((hFvy47 f n32 n33 n35 n36 n37).trans (hFvy37 f n24 n38)))))
        have hey109 : (uZ Fvy79 47 ((F 47) + 1)) 32 = Fvy79 32 := (fn rfl (by decide))
        have hey110 : (uZ Fvy79 47 ((F 47) + 1)) 33 = Fvy79 33 := (fn rfl (by decide))
        have hey111 : (uZ Fvy79 47 ((F 47) + 1)) 34 = F 34 := (fn ((hFvy79 34 (by decide) (by decide) (by decide) (by decide) (by decide) (by decide) (by decide)).trans ((hFvy57 34 (by decide) (by decide) (by decide) (by decide) (by decide) (by decide) (by decide)).trans ((hFvy47 34 (by decide) (by decide) (by decide) (by decide) (by decide)).trans (hFvy37 34 (by decide) (by decide))))) (by decide))
        have hey112 : (uZ Fvy79 47 ((F 47) + 1)) 35 = Fvy79 35 := (fn rfl (by decide))
        have hey113 : (uZ Fvy79 47 ((F 47) + 1)) 36 = Fvy79 36 := (fn rfl (by decide))
        have hey114 : (uZ Fvy79 47 ((F 47) + 1)) 37 = Fvy79 37 := (fn rfl (by decide))
        have hey115 : (uZ Fvy79 47 ((F 47) + 1)) 38 = 0 := (fn hxvy79 (by decide))
        have hrdy116 : RD (uZ Fvy79 47 ((F 47) + 1)) := by unfold RD; omega
        have hey117 : (uZ Fvy79 47 ((F 47) + 1)) 32 = Fvy79 32 := (fn rfl (by decide))
        have hey118 : (uZ Fvy79 47 ((F 47) + 1)) 47 = (F 47) + 1 := (uZ_s _ _ _)
        have hey119 : (uZ Fvy79 47 ((F 47) + 1)) 48 = F 48 := (fn ((hFvy79 48 (by decide) (by decide) (by decide) (by decide) (by decide) (by decide) (by decide)).trans ((hFvy57 48 (by decide) (by decide) (by decide) (by decide) (by decide) (by decide) (by decide)).trans ((hFvy47 48 (by decide) (by decide) (by decide) (by decide) (by decide)).trans (hFvy37 48 (by decide) (by decide))))) (by decide))
        have hey120 : (uZ Fvy79 47 ((F 47) + 1)) 49 = F 49 := (fn ((hFvy79 49 (by decide) (by decide) (by decide) (by decide) (by decide) (by decide) (by decide)).trans ((hFvy57 49 (by decide) (by decide) (by decide) (by decide) (by decide) (by decide) (by decide)).trans ((hFvy47 49 (by decide) (by decide) (by decide) (by decide) (by decide)).trans (hFvy37 49 (by decide) (by decide))))) (by decide))
        have hfry122 : ∀ j, j ≠ (F 47).toNat → ry90 j = op1 j := fun j n0 => (congrFun hvy91 _).trans ((uZ_n _ _ n0).trans (rfl))
        have hwy123 : ry90 ((F 47).toNat) = vy79 := (congrFun hvy91 _).trans (uZ_s _ _ _)
        have haky121 : ∀ k, k < 4 → 0 ≤ ry90 k ∧ ry90 k ≤ 20 := by
          intro k hk
          by_cases e : k = (F 47).toNat
          · subst e; have hk0 := hop1 ((F 47).toNat) (by omega); omega
          · have hk0 := hop1 k hk; rw [hfry122 k e]; exact hk0
        have hfry125 : ∀ j, j ≠ (F 47).toNat → ry102 j = mn1 j := fun j n0 => (congrFun hvy103 _).trans ((uZ_n _ _ n0).trans (rfl))
        have hwy126 : ry102 ((F 47).toNat) = 0 := (congrFun hvy103 _).trans (uZ_s _ _ _)
        have haky124 : ∀ k, k < 4 → 0 ≤ ry102 k ∧ ry102 k ≤ 12 := by
          intro k hk
          by_cases e : k = (F 47).toNat
          · subst e; have hk0 := hmn1 ((F 47).toNat) (by omega); omega
          · have hk0 := hmn1 k hk; rw [hfry125 k e]; exact hk0
        have hfry129 : ∀ j, j ≠ (F 47).toNat → ry102 j = mn1 j := fun j n0 => (congrFun hvy103 _).trans ((uZ_n _ _ n0).trans (rfl))
        have hwy130 : ry102 ((F 47).toNat) = 0 := (congrFun hvy103 _).trans (uZ_s _ _ _)
        have hlay128 : ∀ s l : Nat, (s : Int) < (uZ Fvy79 47 ((F 47) + 1)) 47 → (l : Int) < ry102 s → lyT ly1 (84 * s + 7 * l) := by
          intro s l a1 a2
          by_cases e : s = (F 47).toNat
          · subst e; omega
          · have hs9 := hfry129 s e; rw [hs9] at a2; have hm9 := hmn1 s (by omega); exact hly1 s l (by omega) a2
        have hgy131 := (hfvy79 (i + 16) (ne_o (i := i) (c := 16) (d := 0) rfl)).trans hgy65
        have hgy132 := up_n egy88 hgy131 (ne_o (i := i) (c := 16) (d := 17) rfl)
        have hgy133 := up_n egy100 hgy132 (ne_o (i := i) (c := 16) (d := 18) rfl)
        have hgy134 := up_n egy106 hgy133 (ne_o (i := i) (c := 16) (d := 0) rfl)
        have hgy135 := up_n egy100 hgy89 (ne_o (i := i) (c := 17) (d := 18) rfl)
        have hgy136 := up_n egy106 hgy135 (ne_o (i := i) (c := 17) (d := 0) rfl)
        have hgy137 := up_n egy106 hgy101 (ne_o (i := i) (c := 18) (d := 0) rfl)
        have hgy138 := (hfvy37 (i + 19) (ne_o (i := i) (c := 19) (d := 0) rfl)).trans ha19
        have hgy139 := (hfvy47 (i + 19) (ne_o (i := i) (c := 19) (d := 0) rfl)).trans hgy138
        have hgy140 := (hfvy57 (i + 19) (ne_o (i := i) (c := 19) (d := 0) rfl)).trans hgy139
        have hgy141 := up_n egy64 hgy140 (ne_o (i := i) (c := 19) (d := 16) rfl)
        have hgy142 := (hfvy79 (i + 19) (ne_o (i := i) (c := 19) (d := 0) rfl)).trans hgy141
        have hgy143 := up_n egy88 hgy142 (ne_o (i := i) (c := 19) (d := 17) rfl)
        have hgy144 := up_n egy100 hgy143 (ne_o (i := i) (c := 19) (d := 18) rfl)
        have hgy145 := up_n egy106 hgy144 (ne_o (i := i) (c := 19) (d := 0) rfl)
        have hgy146 := (hfvy37 (i + 20) (ne_o (i := i) (c := 20) (d := 0) rfl)).trans ha20
        have hgy147 := (hfvy47 (i + 20) (ne_o (i := i) (c := 20) (d := 0) rfl)).trans hgy146
        have hgy148 := (hfvy57 (i + 20) (ne_o (i := i) (c := 20) (d := 0) rfl)).trans hgy147
        have hgy149 := up_n egy64 hgy148 (ne_o (i := i) (c := 20) (d := 16) rfl)
        have hgy150 := (hfvy79 (i + 20) (ne_o (i := i) (c := 20) (d := 0) rfl)).trans hgy149
        have hgy151 := up_n egy88 hgy150 (ne_o (i := i) (c := 20) (d := 17) rfl)
        have hgy152 := up_n egy100 hgy151 (ne_o (i := i) (c := 20) (d := 18) rfl)
        have hgy153 := up_n egy106 hgy152 (ne_o (i := i) (c := 20) (d := 0) rfl)
        have hgy154 := (hfvy37 (i + 21) (ne_o (i := i) (c := 21) (d := 0) rfl)).trans ha21
        have hgy155 := (hfvy47 (i + 21) (ne_o (i := i) (c := 21) (d := 0) rfl)).trans hgy154
        have hgy156 := (hfvy57 (i + 21) (ne_o (i := i) (c := 21) (d := 0) rfl)).trans hgy155
        have hgy157 := up_n egy64 hgy156 (ne_o (i := i) (c := 21) (d := 16) rfl)
        have hgy158 := (hfvy79 (i + 21) (ne_o (i := i) (c := 21) (d := 0) rfl)).trans hgy157
        have hgy159 := up_n egy88 hgy158 (ne_o (i := i) (c := 21) (d := 17) rfl)
        have hgy160 := up_n egy100 hgy159 (ne_o (i := i) (c := 21) (d := 18) rfl)
        have hgy161 := up_n egy106 hgy160 (ne_o (i := i) (c := 21) (d := 0) rfl)
        have hgy162 := (hfvy37 (i + 22) (ne_o (i := i) (c := 22) (d := 0) rfl)).trans ha22
        have hgy163 := (hfvy47 (i + 22) (ne_o (i := i) (c := 22) (d := 0) rfl)).trans hgy162
        have hgy164 := (hfvy57 (i + 22) (ne_o (i := i) (c := 22) (d := 0) rfl)).trans hgy163
        have hgy165 := up_n egy64 hgy164 (ne_o (i := i) (c := 22) (d := 16) rfl)
        have hgy166 := (hfvy79 (i + 22) (ne_o (i := i) (c := 22) (d := 0) rfl)).trans hgy165
        have hgy167 := up_n egy88 hgy166 (ne_o (i := i) (c := 22) (d := 17) rfl)
        have hgy168 := up_n egy100 hgy167 (ne_o (i := i) (c := 22) (d := 18) rfl)
        have hgy169 := up_n egy106 hgy168 (ne_o (i := i) (c := 22) (d := 0) rfl)
        have hgy170 := (hfvy37 (i + 23) (ne_o (i := i) (c := 23) (d := 0) rfl)).trans ha23
        have hgy171 := (hfvy47 (i + 23) (ne_o (i := i) (c := 23) (d := 0) rfl)).trans hgy170
        have hgy172 := (hfvy57 (i + 23) (ne_o (i := i) (c := 23) (d := 0) rfl)).trans hgy171
        have hgy173 := up_n egy64 hgy172 (ne_o (i := i) (c := 23) (d := 16) rfl)
        have hgy174 := (hfvy79 (i + 23) (ne_o (i := i) (c := 23) (d := 0) rfl)).trans hgy173
        have hgy175 := up_n egy88 hgy174 (ne_o (i := i) (c := 23) (d := 17) rfl)
        have hgy176 := up_n egy100 hgy175 (ne_o (i := i) (c := 23) (d := 18) rfl)
        have hgy177 := up_n egy106 hgy176 (ne_o (i := i) (c := 23) (d := 0) rfl)
        have htxy178 : okTx cs gy105 i (uZ Fvy79 47 ((F 47) + 1)) := ⟨_, _, _, _, _, _, _, _, ⟨hgy134, hgy136, hgy137, hgy145, hgy153, hgy161, hgy169, hgy177⟩, ⟨⟨by omega, by omega, by omega⟩, haky121, haky124, hai1, hfa1, htb1, hlay128⟩⟩
        exact z_vret C hr hlk dX10_slope1_85 (by decide) (by decide) ⟨rfl, rfl, rfl, ⟨_, hgy107, hrdy116, by omega, by omega, hFy108, htxy178⟩, fun j j1 j2 => by rw [egy106, va_up_ne _ _ (by omega)]; rw [egy100, va_up_ne _ _ (by omega)]; rw [egy88, va_up_ne _ _ (by omega)]; rw [hfvy79 _ (by omega)]; rw [egy64, va_up_ne _ _ (by omega)]; rw [hfvy57 _ (by omega)]; rw [hfvy47 _ (by omega)]; rw [hfvy37 _ (by omega)]⟩
      · have hgy179 := (hfvy37 (i + 17) (ne_o (i := i) (c := 17) (d := 0) rfl)).trans ha17
        have hgy180 := (hfvy47 (i + 17) (ne_o (i := i) (c := 17) (d := 0) rfl)).trans hgy179
        have hgy181 := (hfvy57 (i + 17) (ne_o (i := i) (c := 17) (d := 0) rfl)).trans hgy180
        have hgy182 := up_n egy64 hgy181 (ne_o (i := i) (c := 17) (d := 16) rfl)
        have hgy183 := (hfvy79 (i + 17) (ne_o (i := i) (c := 17) (d := 0) rfl)).trans hgy182
        refine z_iast C (by omega) hay4 hgy183 ((F 47).toNat) (by omega) (by omega) (by decide) dX10_slope1_64 (fun gy184 egy185 => ?_)
        have hgy186 := up_s egy185
        obtain ⟨ry187, hvy188⟩ : ∃ rZ9 : Nat → Int, rZ9 = uZ op1 ((F 47).toNat) (vy79) := ⟨_, rfl⟩
        rw [← hvy188] at hgy186
        refine z_aload_n C 0 dX10_slope1_65 rfl ?_
        have hgy189 := up_n egy185 hcvy79 (ne_o (i := i) (c := 0) (d := 17) rfl)
        refine z_get (v := .ref (ad (i + 18))) C (by omega) hay1 hgy189 rfl inA_X10 41 (by decide) q_1500 rfl rfl dX10_slope1_66 ?_
        refine z_aload_n C 0 dX10_slope1_69 rfl ?_
        refine z_get (v := .int (zI (F 47))) C (by omega) hay1 hgy189 rfl inA_X10 47 (by decide) q_1506 rfl (fv (F := Fvy79) (f := 47) ((hFvy79 47 (by decide) (by decide) (by decide) (by decide) (by decide) (by decide) (by decide)).trans ((hFvy57 47 (by decide) (by decide) (by decide) (by decide) (by decide) (by decide) (by decide)).trans ((hFvy47 47 (by decide) (by decide) (by decide) (by decide) (by decide)).trans (hFvy37 47 (by decide) (by decide)))))) dX10_slope1_70 ?_
        refine z_iconst (z := 0) C dX10_slope1_73 rfl ?_
        have hgy190 := (hfvy37 (i + 18) (ne_o (i := i) (c := 18) (d := 0) rfl)).trans ha18
        have hgy191 := (hfvy47 (i + 18) (ne_o (i := i) (c := 18) (d := 0) rfl)).trans hgy190
        have hgy192 := (hfvy57 (i + 18) (ne_o (i := i) (c := 18) (d := 0) rfl)).trans hgy191
        have hgy193 := up_n egy64 hgy192 (ne_o (i := i) (c := 18) (d := 16) rfl)
        have hgy194 := (hfvy79 (i + 18) (ne_o (i := i) (c := 18) (d := 0) rfl)).trans hgy193
        have hgy195 := up_n egy185 hgy194 (ne_o (i := i) (c := 18) (d := 17) rfl)
        refine z_iast C (by omega) hay5 hgy195 ((F 47).toNat) (by omega) (by omega) (by decide) dX10_slope1_74 (fun gy196 egy197 => ?_)
        have hgy198 := up_s egy197
        obtain ⟨ry199, hvy200⟩ : ∃ rZ9 : Nat → Int, rZ9 = uZ mn1 ((F 47).toNat) (0) := ⟨_, rfl⟩
        rw [← hvy200] at hgy198
        refine z_aload_n C 0 dX10_slope1_75 rfl ?_
        refine z_dup C dX10_slope1_76 rfl ?_
        have hgy201 := up_n egy197 hgy189 (ne_o (i := i) (c := 0) (d := 18) rfl)
        refine z_get (v := .int (zI (F 47))) C (by omega) hay1 hgy201 rfl inA_X10 47 (by decide) q_1506 rfl (fv (F := Fvy79) (f := 47) ((hFvy79 47 (by decide) (by decide) (by decide) (by decide) (by decide) (by decide) (by decide)).trans ((hFvy57 47 (by decide) (by decide) (by decide) (by decide) (by decide) (by decide) (by decide)).trans ((hFvy47 47 (by decide) (by decide) (by decide) (by decide) (by decide)).trans (hFvy37 47 (by decide) (by decide)))))) dX10_slope1_77 ?_
        refine z_iconst (z := 1) C dX10_slope1_80 rfl ?_
        refine z_iadd C dX10_slope1_81 ?_
        refine z_put (fs' := mF ad (i) (uZ Fvy79 47 ((F 47) + 1))) C (by omega) hay1 hgy201 tyX10 tyX10_ok nmX10 rfl inA_X10 47 (by decide) q_1506 rfl rfl rfl rfl (Nat.le_of_ble_eq_true rfl) rfl dX10_slope1_82 (fun gy202 egy203 => ?_)
        have hgy204 := up_s egy203
        have hFy205 : ∀ f, f ≠ 24 → f ≠ 32 → f ≠ 33 → f ≠ 35 → f ≠ 36 → f ≠ 37 → f ≠ 38 → f ≠ 47 → f ≠ 48 → f ≠ 49 → (uZ Fvy79 47 ((F 47) + 1)) f = F f := fun f n24 n32 n33 n35 n36 n37 n38 n47 n48 n49 => ((uZ_n _ _ n47).trans ((hFvy79 f n24 n32 n33 n35 n36 n37 n38).trans ((hFvy57 f n24 n32 n33 n35 n36 n37 n38).trans ((hFvy47 f n32 n33 n35 n36 n37).trans (hFvy37 f n24 n38)))))
        have hey206 : (uZ Fvy79 47 ((F 47) + 1)) 32 = Fvy79 32 := (fn rfl (by decide))
        have hey207 : (uZ Fvy79 47 ((F 47) + 1)) 33 = Fvy79 33 := (fn rfl (by decide))
        have hey208 : (uZ Fvy79 47 ((F 47) + 1)) 34 = F 34 := (fn ((hFvy79 34 (by decide) (by decide) (by decide) (by decide) (by decide) (by decide) (by decide)).trans ((hFvy57 34 (by decide) (by decide) (by decide) (by decide) (by decide) (by decide) (by decide)).trans ((hFvy47 34 (by decide) (by decide) (by decide) (by decide) (by decide)).trans (hFvy37 34 (by decide) (by decide))))) (by decide))
        have hey209 : (uZ Fvy79 47 ((F 47) + 1)) 35 = Fvy79 35 := (fn rfl (by decide))
        have hey210 : (uZ Fvy79 47 ((F 47) + 1)) 36 = Fvy79 36 := (fn rfl (by decide))
        have hey211 : (uZ Fvy79 47 ((F 47) + 1)) 37 = Fvy79 37 := (fn rfl (by decide))
        have hey212 : (uZ Fvy79 47 ((F 47) + 1)) 38 = Fvy79 38 := (fn rfl (by decide))
        have hrdy213 : RD (uZ Fvy79 47 ((F 47) + 1)) := by unfold RD; omega
        have hey214 : (uZ Fvy79 47 ((F 47) + 1)) 32 = Fvy79 32 := (fn rfl (by decide))
        have hey215 : (uZ Fvy79 47 ((F 47) + 1)) 47 = (F 47) + 1 := (uZ_s _ _ _)
        have hey216 : (uZ Fvy79 47 ((F 47) + 1)) 48 = F 48 := (fn ((hFvy79 48 (by decide) (by decide) (by decide) (by decide) (by decide) (by decide) (by decide)).trans ((hFvy57 48 (by decide) (by decide) (by decide) (by decide) (by decide) (by decide) (by decide)).trans ((hFvy47 48 (by decide) (by decide) (by decide) (by decide) (by decide)).trans (hFvy37 48 (by decide) (by decide))))) (by decide))
        have hey217 : (uZ Fvy79 47 ((F 47) + 1)) 49 = F 49 := (fn ((hFvy79 49 (by decide) (by decide) (by decide) (by decide) (by decide) (by decide) (by decide)).trans ((hFvy57 49 (by decide) (by decide) (by decide) (by decide) (by decide) (by decide) (by decide)).trans ((hFvy47 49 (by decide) (by decide) (by decide) (by decide) (by decide)).trans (hFvy37 49 (by decide) (by decide))))) (by decide))
        have hfry219 : ∀ j, j ≠ (F 47).toNat → ry187 j = op1 j := fun j n0 => (congrFun hvy188 _).trans ((uZ_n _ _ n0).trans (rfl))
        have hwy220 : ry187 ((F 47).toNat) = vy79 := (congrFun hvy188 _).trans (uZ_s _ _ _)
        have haky218 : ∀ k, k < 4 → 0 ≤ ry187 k ∧ ry187 k ≤ 20 := by
          intro k hk
          by_cases e : k = (F 47).toNat
          · subst e; have hk0 := hop1 ((F 47).toNat) (by omega); omega
          · have hk0 := hop1 k hk; rw [hfry219 k e]; exact hk0
        have hfry222 : ∀ j, j ≠ (F 47).toNat → ry199 j = mn1 j := fun j n0 => (congrFun hvy200 _).trans ((uZ_n _ _ n0).trans (rfl))
        have hwy223 : ry199 ((F 47).toNat) = 0 := (congrFun hvy200 _).trans (uZ_s _ _ _)
        have haky221 : ∀ k, k < 4 → 0 ≤ ry199 k ∧ ry199 k ≤ 12 := by
          intro k hk
          by_cases e : k = (F 47).toNat
          · subst e; have hk0 := hmn1 ((F 47).toNat) (by omega); omega
          · have hk0 := hmn1 k hk; rw [hfry222 k e]; exact hk0
        have hfry226 : ∀ j, j ≠ (F 47).toNat → ry199 j = mn1 j := fun j n0 => (congrFun hvy200 _).trans ((uZ_n _ _ n0).trans (rfl))
        have hwy227 : ry199 ((F 47).toNat) = 0 := (congrFun hvy200 _).trans (uZ_s _ _ _)
        have hlay225 : ∀ s l : Nat, (s : Int) < (uZ Fvy79 47 ((F 47) + 1)) 47 → (l : Int) < ry199 s → lyT ly1 (84 * s + 7 * l) := by
          intro s l a1 a2
          by_cases e : s = (F 47).toNat
          · subst e; omega
          · have hs9 := hfry226 s e; rw [hs9] at a2; have hm9 := hmn1 s (by omega); exact hly1 s l (by omega) a2
        have hgy228 := (hfvy79 (i + 16) (ne_o (i := i) (c := 16) (d := 0) rfl)).trans hgy65
        have hgy229 := up_n egy185 hgy228 (ne_o (i := i) (c := 16) (d := 17) rfl)
        have hgy230 := up_n egy197 hgy229 (ne_o (i := i) (c := 16) (d := 18) rfl)
        have hgy231 := up_n egy203 hgy230 (ne_o (i := i) (c := 16) (d := 0) rfl)
        have hgy232 := up_n egy197 hgy186 (ne_o (i := i) (c := 17) (d := 18) rfl)
        have hgy233 := up_n egy203 hgy232 (ne_o (i := i) (c := 17) (d := 0) rfl)
        have hgy234 := up_n egy203 hgy198 (ne_o (i := i) (c := 18) (d := 0) rfl)
        have hgy235 := (hfvy37 (i + 19) (ne_o (i := i) (c := 19) (d := 0) rfl)).trans ha19
        have hgy236 := (hfvy47 (i + 19) (ne_o (i := i) (c := 19) (d := 0) rfl)).trans hgy235
        have hgy237 := (hfvy57 (i + 19) (ne_o (i := i) (c := 19) (d := 0) rfl)).trans hgy236
        have hgy238 := up_n egy64 hgy237 (ne_o (i := i) (c := 19) (d := 16) rfl)
        have hgy239 := (hfvy79 (i + 19) (ne_o (i := i) (c := 19) (d := 0) rfl)).trans hgy238
        have hgy240 := up_n egy185 hgy239 (ne_o (i := i) (c := 19) (d := 17) rfl)
        have hgy241 := up_n egy197 hgy240 (ne_o (i := i) (c := 19) (d := 18) rfl)
        have hgy242 := up_n egy203 hgy241 (ne_o (i := i) (c := 19) (d := 0) rfl)
        have hgy243 := (hfvy37 (i + 20) (ne_o (i := i) (c := 20) (d := 0) rfl)).trans ha20
        have hgy244 := (hfvy47 (i + 20) (ne_o (i := i) (c := 20) (d := 0) rfl)).trans hgy243
        have hgy245 := (hfvy57 (i + 20) (ne_o (i := i) (c := 20) (d := 0) rfl)).trans hgy244
        have hgy246 := up_n egy64 hgy245 (ne_o (i := i) (c := 20) (d := 16) rfl)
        have hgy247 := (hfvy79 (i + 20) (ne_o (i := i) (c := 20) (d := 0) rfl)).trans hgy246
        have hgy248 := up_n egy185 hgy247 (ne_o (i := i) (c := 20) (d := 17) rfl)
        have hgy249 := up_n egy197 hgy248 (ne_o (i := i) (c := 20) (d := 18) rfl)
        have hgy250 := up_n egy203 hgy249 (ne_o (i := i) (c := 20) (d := 0) rfl)
        have hgy251 := (hfvy37 (i + 21) (ne_o (i := i) (c := 21) (d := 0) rfl)).trans ha21
        have hgy252 := (hfvy47 (i + 21) (ne_o (i := i) (c := 21) (d := 0) rfl)).trans hgy251
        have hgy253 := (hfvy57 (i + 21) (ne_o (i := i) (c := 21) (d := 0) rfl)).trans hgy252
        have hgy254 := up_n egy64 hgy253 (ne_o (i := i) (c := 21) (d := 16) rfl)
        have hgy255 := (hfvy79 (i + 21) (ne_o (i := i) (c := 21) (d := 0) rfl)).trans hgy254
        have hgy256 := up_n egy185 hgy255 (ne_o (i := i) (c := 21) (d := 17) rfl)
        have hgy257 := up_n egy197 hgy256 (ne_o (i := i) (c := 21) (d := 18) rfl)
        have hgy258 := up_n egy203 hgy257 (ne_o (i := i) (c := 21) (d := 0) rfl)
        have hgy259 := (hfvy37 (i + 22) (ne_o (i := i) (c := 22) (d := 0) rfl)).trans ha22
        have hgy260 := (hfvy47 (i + 22) (ne_o (i := i) (c := 22) (d := 0) rfl)).trans hgy259
        have hgy261 := (hfvy57 (i + 22) (ne_o (i := i) (c := 22) (d := 0) rfl)).trans hgy260
        have hgy262 := up_n egy64 hgy261 (ne_o (i := i) (c := 22) (d := 16) rfl)
        have hgy263 := (hfvy79 (i + 22) (ne_o (i := i) (c := 22) (d := 0) rfl)).trans hgy262
        have hgy264 := up_n egy185 hgy263 (ne_o (i := i) (c := 22) (d := 17) rfl)
        have hgy265 := up_n egy197 hgy264 (ne_o (i := i) (c := 22) (d := 18) rfl)
        have hgy266 := up_n egy203 hgy265 (ne_o (i := i) (c := 22) (d := 0) rfl)
        have hgy267 := (hfvy37 (i + 23) (ne_o (i := i) (c := 23) (d := 0) rfl)).trans ha23
        have hgy268 := (hfvy47 (i + 23) (ne_o (i := i) (c := 23) (d := 0) rfl)).trans hgy267
        have hgy269 := (hfvy57 (i + 23) (ne_o (i := i) (c := 23) (d := 0) rfl)).trans hgy268
        have hgy270 := up_n egy64 hgy269 (ne_o (i := i) (c := 23) (d := 16) rfl)
        have hgy271 := (hfvy79 (i + 23) (ne_o (i := i) (c := 23) (d := 0) rfl)).trans hgy270
        have hgy272 := up_n egy185 hgy271 (ne_o (i := i) (c := 23) (d := 17) rfl)
        have hgy273 := up_n egy197 hgy272 (ne_o (i := i) (c := 23) (d := 18) rfl)
        have hgy274 := up_n egy203 hgy273 (ne_o (i := i) (c := 23) (d := 0) rfl)
        have htxy275 : okTx cs gy202 i (uZ Fvy79 47 ((F 47) + 1)) := ⟨_, _, _, _, _, _, _, _, ⟨hgy231, hgy233, hgy234, hgy242, hgy250, hgy258, hgy266, hgy274⟩, ⟨⟨by omega, by omega, by omega⟩, haky218, haky221, hai1, hfa1, htb1, hlay225⟩⟩
        exact z_vret C hr hlk dX10_slope1_85 (by decide) (by decide) ⟨rfl, rfl, rfl, ⟨_, hgy204, hrdy213, by omega, by omega, hFy205, htxy275⟩, fun j j1 j2 => by rw [egy203, va_up_ne _ _ (by omega)]; rw [egy197, va_up_ne _ _ (by omega)]; rw [egy185, va_up_ne _ _ (by omega)]; rw [hfvy79 _ (by omega)]; rw [egy64, va_up_ne _ _ (by omega)]; rw [hfvy57 _ (by omega)]; rw [hfvy47 _ (by omega)]; rw [hfvy37 _ (by omega)]⟩
    · have hgy276 := (hfvy37 (i + 16) (ne_o (i := i) (c := 16) (d := 0) rfl)).trans ha16
      have hgy277 := (hfvy47 (i + 16) (ne_o (i := i) (c := 16) (d := 0) rfl)).trans hgy276
      have hgy278 := (hfvy57 (i + 16) (ne_o (i := i) (c := 16) (d := 0) rfl)).trans hgy277
      refine z_iast C (by omega) hay3 hgy278 ((F 47).toNat) (by omega) (by omega) (by decide) dX10_slope1_41 (fun gy279 egy280 => ?_)
      have hgy281 := up_s egy280
      obtain ⟨ry282, hvy283⟩ : ∃ rZ9 : Nat → Int, rZ9 = uZ st1 ((F 47).toNat) (vy57) := ⟨_, rfl⟩
      rw [← hvy283] at hgy281
      refine z_aload_n C 0 dX10_slope1_42 rfl ?_
      have hgy284 := up_n egy280 hcvy57 (ne_o (i := i) (c := 0) (d := 16) rfl)
      refine z_get (v := .int (zI (Fvy57 38))) C (by omega) hay1 hgy284 rfl inA_X10 38 (by decide) q_1497 rfl (fv (F := Fvy57) (f := 38) rfl) dX10_slope1_43 ?_
      refine z_if_ne (tgt := 65) C dX10_slope1_46 (by decide) (by omega) (fun _ => ?_) (fun h => absurd h (by omega))
      refine z_aload_n C 0 dX10_slope1_65 rfl ?_
      refine z_get (v := .ref (ad (i + 18))) C (by omega) hay1 hgy284 rfl inA_X10 41 (by decide) q_1500 rfl rfl dX10_slope1_66 ?_
      refine z_aload_n C 0 dX10_slope1_69 rfl ?_
      refine z_get (v := .int (zI (F 47))) C (by omega) hay1 hgy284 rfl inA_X10 47 (by decide) q_1506 rfl (fv (F := Fvy57) (f := 47) ((hFvy57 47 (by decide) (by decide) (by decide) (by decide) (by decide) (by decide) (by decide)).trans ((hFvy47 47 (by decide) (by decide) (by decide) (by decide) (by decide)).trans (hFvy37 47 (by decide) (by decide))))) dX10_slope1_70 ?_
      refine z_iconst (z := 0) C dX10_slope1_73 rfl ?_
      have hgy285 := (hfvy37 (i + 18) (ne_o (i := i) (c := 18) (d := 0) rfl)).trans ha18
      have hgy286 := (hfvy47 (i + 18) (ne_o (i := i) (c := 18) (d := 0) rfl)).trans hgy285
      have hgy287 := (hfvy57 (i + 18) (ne_o (i := i) (c := 18) (d := 0) rfl)).trans hgy286
      have hgy288 := up_n egy280 hgy287 (ne_o (i := i) (c := 18) (d := 16) rfl)
      refine z_iast C (by omega) hay5 hgy288 ((F 47).toNat) (by omega) (by omega) (by decide) dX10_slope1_74 (fun gy289 egy290 => ?_)
      have hgy291 := up_s egy290
      obtain ⟨ry292, hvy293⟩ : ∃ rZ9 : Nat → Int, rZ9 = uZ mn1 ((F 47).toNat) (0) := ⟨_, rfl⟩
      rw [← hvy293] at hgy291
      refine z_aload_n C 0 dX10_slope1_75 rfl ?_
      refine z_dup C dX10_slope1_76 rfl ?_
      have hgy294 := up_n egy290 hgy284 (ne_o (i := i) (c := 0) (d := 18) rfl)
      refine z_get (v := .int (zI (F 47))) C (by omega) hay1 hgy294 rfl inA_X10 47 (by decide) q_1506 rfl (fv (F := Fvy57) (f := 47) ((hFvy57 47 (by decide) (by decide) (by decide) (by decide) (by decide) (by decide) (by decide)).trans ((hFvy47 47 (by decide) (by decide) (by decide) (by decide) (by decide)).trans (hFvy37 47 (by decide) (by decide))))) dX10_slope1_77 ?_
      refine z_iconst (z := 1) C dX10_slope1_80 rfl ?_
      refine z_iadd C dX10_slope1_81 ?_
      refine z_put (fs' := mF ad (i) (uZ Fvy57 47 ((F 47) + 1))) C (by omega) hay1 hgy294 tyX10 tyX10_ok nmX10 rfl inA_X10 47 (by decide) q_1506 rfl rfl rfl rfl (Nat.le_of_ble_eq_true rfl) rfl dX10_slope1_82 (fun gy295 egy296 => ?_)
      have hgy297 := up_s egy296
      have hFy298 : ∀ f, f ≠ 24 → f ≠ 32 → f ≠ 33 → f ≠ 35 → f ≠ 36 → f ≠ 37 → f ≠ 38 → f ≠ 47 → f ≠ 48 → f ≠ 49 → (uZ Fvy57 47 ((F 47) + 1)) f = F f := fun f n24 n32 n33 n35 n36 n37 n38 n47 n48 n49 => ((uZ_n _ _ n47).trans ((hFvy57 f n24 n32 n33 n35 n36 n37 n38).trans ((hFvy47 f n32 n33 n35 n36 n37).trans (hFvy37 f n24 n38))))
      have hey299 : (uZ Fvy57 47 ((F 47) + 1)) 32 = Fvy57 32 := (fn rfl (by decide))
      have hey300 : (uZ Fvy57 47 ((F 47) + 1)) 33 = Fvy57 33 := (fn rfl (by decide))
      have hey301 : (uZ Fvy57 47 ((F 47) + 1)) 34 = F 34 := (fn ((hFvy57 34 (by decide) (by decide) (by decide) (by decide) (by decide) (by decide) (by decide)).trans ((hFvy47 34 (by decide) (by decide) (by decide) (by decide) (by decide)).trans (hFvy37 34 (by decide) (by decide)))) (by decide))
      have hey302 : (uZ Fvy57 47 ((F 47) + 1)) 35 = Fvy57 35 := (fn rfl (by decide))
      have hey303 : (uZ Fvy57 47 ((F 47) + 1)) 36 = Fvy57 36 := (fn rfl (by decide))
      have hey304 : (uZ Fvy57 47 ((F 47) + 1)) 37 = Fvy57 37 := (fn rfl (by decide))
      have hey305 : (uZ Fvy57 47 ((F 47) + 1)) 38 = Fvy57 38 := (fn rfl (by decide))
      have hrdy306 : RD (uZ Fvy57 47 ((F 47) + 1)) := by unfold RD; omega
      have hey307 : (uZ Fvy57 47 ((F 47) + 1)) 32 = Fvy57 32 := (fn rfl (by decide))
      have hey308 : (uZ Fvy57 47 ((F 47) + 1)) 47 = (F 47) + 1 := (uZ_s _ _ _)
      have hey309 : (uZ Fvy57 47 ((F 47) + 1)) 48 = F 48 := (fn ((hFvy57 48 (by decide) (by decide) (by decide) (by decide) (by decide) (by decide) (by decide)).trans ((hFvy47 48 (by decide) (by decide) (by decide) (by decide) (by decide)).trans (hFvy37 48 (by decide) (by decide)))) (by decide))
      have hey310 : (uZ Fvy57 47 ((F 47) + 1)) 49 = F 49 := (fn ((hFvy57 49 (by decide) (by decide) (by decide) (by decide) (by decide) (by decide) (by decide)).trans ((hFvy47 49 (by decide) (by decide) (by decide) (by decide) (by decide)).trans (hFvy37 49 (by decide) (by decide)))) (by decide))
      have hfry312 : ∀ j, j ≠ (F 47).toNat → ry292 j = mn1 j := fun j n0 => (congrFun hvy293 _).trans ((uZ_n _ _ n0).trans (rfl))
      have hwy313 : ry292 ((F 47).toNat) = 0 := (congrFun hvy293 _).trans (uZ_s _ _ _)
      have haky311 : ∀ k, k < 4 → 0 ≤ ry292 k ∧ ry292 k ≤ 12 := by
        intro k hk
        by_cases e : k = (F 47).toNat
        · subst e; have hk0 := hmn1 ((F 47).toNat) (by omega); omega
        · have hk0 := hmn1 k hk; rw [hfry312 k e]; exact hk0
      have hfry316 : ∀ j, j ≠ (F 47).toNat → ry292 j = mn1 j := fun j n0 => (congrFun hvy293 _).trans ((uZ_n _ _ n0).trans (rfl))
      have hwy317 : ry292 ((F 47).toNat) = 0 := (congrFun hvy293 _).trans (uZ_s _ _ _)
      have hlay315 : ∀ s l : Nat, (s : Int) < (uZ Fvy57 47 ((F 47) + 1)) 47 → (l : Int) < ry292 s → lyT ly1 (84 * s + 7 * l) := by
        intro s l a1 a2
        by_cases e : s = (F 47).toNat
        · subst e; omega
        · have hs9 := hfry316 s e; rw [hs9] at a2; have hm9 := hmn1 s (by omega); exact hly1 s l (by omega) a2
      have hgy318 := up_n egy290 hgy281 (ne_o (i := i) (c := 16) (d := 18) rfl)
      have hgy319 := up_n egy296 hgy318 (ne_o (i := i) (c := 16) (d := 0) rfl)
      have hgy320 := (hfvy37 (i + 17) (ne_o (i := i) (c := 17) (d := 0) rfl)).trans ha17
      have hgy321 := (hfvy47 (i + 17) (ne_o (i := i) (c := 17) (d := 0) rfl)).trans hgy320
      have hgy322 := (hfvy57 (i + 17) (ne_o (i := i) (c := 17) (d := 0) rfl)).trans hgy321
      have hgy323 := up_n egy280 hgy322 (ne_o (i := i) (c := 17) (d := 16) rfl)
      have hgy324 := up_n egy290 hgy323 (ne_o (i := i) (c := 17) (d := 18) rfl)
      have hgy325 := up_n egy296 hgy324 (ne_o (i := i) (c := 17) (d := 0) rfl)
      have hgy326 := up_n egy296 hgy291 (ne_o (i := i) (c := 18) (d := 0) rfl)
      have hgy327 := (hfvy37 (i + 19) (ne_o (i := i) (c := 19) (d := 0) rfl)).trans ha19
      have hgy328 := (hfvy47 (i + 19) (ne_o (i := i) (c := 19) (d := 0) rfl)).trans hgy327
      have hgy329 := (hfvy57 (i + 19) (ne_o (i := i) (c := 19) (d := 0) rfl)).trans hgy328
      have hgy330 := up_n egy280 hgy329 (ne_o (i := i) (c := 19) (d := 16) rfl)
      have hgy331 := up_n egy290 hgy330 (ne_o (i := i) (c := 19) (d := 18) rfl)
      have hgy332 := up_n egy296 hgy331 (ne_o (i := i) (c := 19) (d := 0) rfl)
      have hgy333 := (hfvy37 (i + 20) (ne_o (i := i) (c := 20) (d := 0) rfl)).trans ha20
      have hgy334 := (hfvy47 (i + 20) (ne_o (i := i) (c := 20) (d := 0) rfl)).trans hgy333
      have hgy335 := (hfvy57 (i + 20) (ne_o (i := i) (c := 20) (d := 0) rfl)).trans hgy334
      have hgy336 := up_n egy280 hgy335 (ne_o (i := i) (c := 20) (d := 16) rfl)
      have hgy337 := up_n egy290 hgy336 (ne_o (i := i) (c := 20) (d := 18) rfl)
      have hgy338 := up_n egy296 hgy337 (ne_o (i := i) (c := 20) (d := 0) rfl)
      have hgy339 := (hfvy37 (i + 21) (ne_o (i := i) (c := 21) (d := 0) rfl)).trans ha21
      have hgy340 := (hfvy47 (i + 21) (ne_o (i := i) (c := 21) (d := 0) rfl)).trans hgy339
      have hgy341 := (hfvy57 (i + 21) (ne_o (i := i) (c := 21) (d := 0) rfl)).trans hgy340
      have hgy342 := up_n egy280 hgy341 (ne_o (i := i) (c := 21) (d := 16) rfl)
      have hgy343 := up_n egy290 hgy342 (ne_o (i := i) (c := 21) (d := 18) rfl)
      have hgy344 := up_n egy296 hgy343 (ne_o (i := i) (c := 21) (d := 0) rfl)
      have hgy345 := (hfvy37 (i + 22) (ne_o (i := i) (c := 22) (d := 0) rfl)).trans ha22
      have hgy346 := (hfvy47 (i + 22) (ne_o (i := i) (c := 22) (d := 0) rfl)).trans hgy345
      have hgy347 := (hfvy57 (i + 22) (ne_o (i := i) (c := 22) (d := 0) rfl)).trans hgy346
      have hgy348 := up_n egy280 hgy347 (ne_o (i := i) (c := 22) (d := 16) rfl)
      have hgy349 := up_n egy290 hgy348 (ne_o (i := i) (c := 22) (d := 18) rfl)
      have hgy350 := up_n egy296 hgy349 (ne_o (i := i) (c := 22) (d := 0) rfl)
      have hgy351 := (hfvy37 (i + 23) (ne_o (i := i) (c := 23) (d := 0) rfl)).trans ha23
      have hgy352 := (hfvy47 (i + 23) (ne_o (i := i) (c := 23) (d := 0) rfl)).trans hgy351
      have hgy353 := (hfvy57 (i + 23) (ne_o (i := i) (c := 23) (d := 0) rfl)).trans hgy352
      have hgy354 := up_n egy280 hgy353 (ne_o (i := i) (c := 23) (d := 16) rfl)
      have hgy355 := up_n egy290 hgy354 (ne_o (i := i) (c := 23) (d := 18) rfl)
      have hgy356 := up_n egy296 hgy355 (ne_o (i := i) (c := 23) (d := 0) rfl)
      have htxy357 : okTx cs gy295 i (uZ Fvy57 47 ((F 47) + 1)) := ⟨_, _, _, _, _, _, _, _, ⟨hgy319, hgy325, hgy326, hgy332, hgy338, hgy344, hgy350, hgy356⟩, ⟨⟨by omega, by omega, by omega⟩, hop1, haky311, hai1, hfa1, htb1, hlay315⟩⟩
      exact z_vret C hr hlk dX10_slope1_85 (by decide) (by decide) ⟨rfl, rfl, rfl, ⟨_, hgy297, hrdy306, by omega, by omega, hFy298, htxy357⟩, fun j j1 j2 => by rw [egy296, va_up_ne _ _ (by omega)]; rw [egy290, va_up_ne _ _ (by omega)]; rw [egy280, va_up_ne _ _ (by omega)]; rw [hfvy57 _ (by omega)]; rw [hfvy47 _ (by omega)]; rw [hfvy37 _ (by omega)]⟩

set_option maxRecDepth 100000 in
set_option maxHeartbeats 4000000 in
theorem c_X10_layer1 (l : Launch) (D : va_G) (A : Nat → Prop) (cs : Nat → ClassId) (tt : Nat) (N : Nat) (ad : Nat → Nat) (g : Nat → va_E) (i : Nat) (hN : i + 30 ≤ N) (F : Nat → Int) (hg : g i = mC ad i F) (tp : Nat → Int) (ha13 : g (i + 13) = iA cs 900 tp) (htp : ∀ k, k < 900 → 0 ≤ tp k ∧ tp k ≤ 255) (hRD : RD F) (h38 : F 38 = 0) (hTx : okTx cs g i F) : zM l yX10_layer1 cX10_layer1 3 none ({ frames := 5, cells := 0, slots := 0, locals := 300 } : Room) D A cs tt N ad g [.ref (ad i)] (rV0 N ad fun g' => (∃ F' : Nat → Int, g' i = mC ad i F' ∧ RD F' ∧ F 32 ≤ F' 32 ∧ (F' 38 = 0 → F' 35 ≠ 0 → F 32 < F' 32) ∧ (∀ f, f ≠ 24 → f ≠ 32 → f ≠ 33 → f ≠ 35 → f ≠ 36 → f ≠ 37 → f ≠ 38 → f ≠ 47 → f ≠ 48 → f ≠ 49 → F' f = F f) ∧ okTx cs g' i F') ∧ ∀ j, j ≠ i → j < i + 16 ∨ i + 23 < j → g' j = g j) := by
  have hay1 : zAt ad (i) (ad i) := rfl
  have hay2 : zAt ad (i + 13) (ad (i + 13)) := rfl
  obtain ⟨d32, d33, d35, d36, d2, d37, d38⟩ := id hRD
  obtain ⟨st1, op1, mn1, ai1, fa1, mu1, tb1, ly1, ⟨ha16, ha17, ha18, ha19, ha20, ha21, ha22, ha23⟩, ⟨⟨t47, t48, t49⟩, hop1, hmn1, hai1, hfa1, htb1, hly1⟩⟩ := id hTx
  have hay3 : zAt ad (i + 16) (ad (i + 16)) := rfl
  have hay4 : zAt ad (i + 17) (ad (i + 17)) := rfl
  have hay5 : zAt ad (i + 18) (ad (i + 18)) := rfl
  have hay6 : zAt ad (i + 19) (ad (i + 19)) := rfl
  have hay7 : zAt ad (i + 20) (ad (i + 20)) := rfl
  have hay8 : zAt ad (i + 21) (ad (i + 21)) := rfl
  have hay9 : zAt ad (i + 22) (ad (i + 22)) := rfl
  have hay10 : zAt ad (i + 23) (ad (i + 23)) := rfl
  refine z_of (by decide) (Nat.le_of_ble_eq_true rfl) ?_
  intro pZ eZ sZ mZ below meth cZ C hr hlk hnm
  refine z_lv (lv' := [(0, .ref (ad i))]) [0] rfl ?_
  refine z_aload_n C 0 dX10_layer1_0 rfl ?_
  have hey11 : F 32 = F 32 := rfl
  have hey12 : F 33 = F 33 := rfl
  have hey13 : F 34 = F 34 := rfl
  have hey14 : F 35 = F 35 := rfl
  have hey15 : F 36 = F 36 := rfl
  have hey16 : F 37 = F 37 := rfl
  have hey17 : F 38 = 0 := h38
  have hrdy18 : RD F := by unfold RD; omega
  refine z_cV (As := []) (rest := []) (ci := 12) C (c_X10_go l D A cs tt N ad _ i hN _ hg _ ha13 htp hrdy18) (by omega) hay1 hg rfl rfl mv_yX10_go q_1652 hd_yX10_go (by decide) (Nat.le_of_ble_eq_true rfl) (by decide) dX10_layer1_1 rfl (kV0 fun gvy19 hvy19 => ?_)
  obtain ⟨⟨Fvy19, hcvy19, hdvy19, hlvy19, hsvy19, hFvy19⟩, hfvy19⟩ := hvy19
  have h32vy19 : F 32 = F 32 := rfl
  have h34vy19 : Fvy19 34 = F 34 := (hFvy19 34 (by decide) (by decide) (by decide) (by decide) (by decide)).trans (rfl)
  obtain ⟨d32vy19, d33vy19, d35vy19, d36vy19, d2vy19, d37vy19, d38vy19⟩ := id hdvy19
  have h38vy19 : Fvy19 38 = 0 := ((hFvy19 38 (by decide) (by decide) (by decide) (by decide) (by decide)).trans h38)
  refine z_aload_n C 0 dX10_layer1_4 rfl ?_
  refine z_aload_n C 0 dX10_layer1_5 rfl ?_
  refine z_get (v := .int (zI (Fvy19 35))) C (by omega) hay1 hcvy19 rfl inA_X10 35 (by decide) q_1494 rfl (fv (F := Fvy19) (f := 35) rfl) dX10_layer1_6 ?_
  refine z_iconst (z := 2) C dX10_layer1_9 rfl ?_
  refine z_icmp_ne (tgt := 17) C dX10_layer1_10 (by decide) (by omega) (by omega) (fun hby20 => ?_) (fun hby20 => ?_)
  · refine z_iconst (z := 0) C dX10_layer1_17 rfl ?_
    refine z_iconst (z := 1) C dX10_layer1_18 rfl ?_
    have h38vy21 : Fvy19 38 = 0 := ((hFvy19 38 (by decide) (by decide) (by decide) (by decide) (by decide)).trans h38)
    refine z_cV (As := [.int (zI (0)), .int (zI (1))]) (rest := []) (ci := 12) C (c_X10_wants l D A cs tt N ad _ i hN _ hcvy19 (by omega) (0) (by omega) (1) (by omega)) (by omega) hay1 hcvy19 rfl rfl mv_yX10_wants q_1678 hd_yX10_wants (by decide) (Nat.le_of_ble_eq_true rfl) (by decide) dX10_layer1_19 rfl (kI0 fun vy21 gvy21 hvy21 => ?_)
    obtain ⟨⟨Fvy21, hcvy21, hqvy21, hbvy21, hFvy21⟩, hfvy21⟩ := hvy21
    obtain rfl : vy21 = 0 := by omega
    refine z_if_eq (tgt := 97) C dX10_layer1_22 (by decide) (by omega) (fun _ => ?_) (fun h => absurd h (by omega))
    have hFy22 : ∀ f, f ≠ 24 → f ≠ 32 → f ≠ 33 → f ≠ 35 → f ≠ 36 → f ≠ 37 → f ≠ 38 → f ≠ 47 → f ≠ 48 → f ≠ 49 → Fvy21 f = F f := fun f n24 n32 n33 n35 n36 n37 n38 n47 n48 n49 => ((hFvy21 f n24 n38).trans (hFvy19 f n32 n33 n35 n36 n37))
    have hey23 : Fvy21 32 = Fvy19 32 := (hFvy21 32 (by decide) (by decide))
    have hey24 : Fvy21 33 = Fvy19 33 := (hFvy21 33 (by decide) (by decide))
    have hey25 : Fvy21 34 = F 34 := ((hFvy21 34 (by decide) (by decide)).trans (hFvy19 34 (by decide) (by decide) (by decide) (by decide) (by decide)))
    have hey26 : Fvy21 35 = Fvy19 35 := (hFvy21 35 (by decide) (by decide))
    have hey27 : Fvy21 36 = Fvy19 36 := (hFvy21 36 (by decide) (by decide))
    have hey28 : Fvy21 37 = Fvy19 37 := (hFvy21 37 (by decide) (by decide))
    have hey29 : Fvy21 38 = Fvy21 38 := rfl
    have hrdy30 : RD Fvy21 := by unfold RD; omega
    have hey31 : Fvy21 32 = Fvy19 32 := (hFvy21 32 (by decide) (by decide))
    have hey32 : Fvy21 47 = F 47 := ((hFvy21 47 (by decide) (by decide)).trans (hFvy19 47 (by decide) (by decide) (by decide) (by decide) (by decide)))
    have hey33 : Fvy21 48 = F 48 := ((hFvy21 48 (by decide) (by decide)).trans (hFvy19 48 (by decide) (by decide) (by decide) (by decide) (by decide)))
    have hey34 : Fvy21 49 = F 49 := ((hFvy21 49 (by decide) (by decide)).trans (hFvy19 49 (by decide) (by decide) (by decide) (by decide) (by decide)))
    have hlay36 : ∀ s l : Nat, (s : Int) < Fvy21 47 → (l : Int) < mn1 s → lyT ly1 (84 * s + 7 * l) := fun s l a1 a2 => hly1 s l (by omega) a2
    have hgy37 := (hfvy19 (i + 16) (ne_o (i := i) (c := 16) (d := 0) rfl)).trans ha16
    have hgy38 := (hfvy21 (i + 16) (ne_o (i := i) (c := 16) (d := 0) rfl)).trans hgy37
    have hgy39 := (hfvy19 (i + 17) (ne_o (i := i) (c := 17) (d := 0) rfl)).trans ha17
    have hgy40 := (hfvy21 (i + 17) (ne_o (i := i) (c := 17) (d := 0) rfl)).trans hgy39
    have hgy41 := (hfvy19 (i + 18) (ne_o (i := i) (c := 18) (d := 0) rfl)).trans ha18
    have hgy42 := (hfvy21 (i + 18) (ne_o (i := i) (c := 18) (d := 0) rfl)).trans hgy41
    have hgy43 := (hfvy19 (i + 19) (ne_o (i := i) (c := 19) (d := 0) rfl)).trans ha19
    have hgy44 := (hfvy21 (i + 19) (ne_o (i := i) (c := 19) (d := 0) rfl)).trans hgy43
    have hgy45 := (hfvy19 (i + 20) (ne_o (i := i) (c := 20) (d := 0) rfl)).trans ha20
    have hgy46 := (hfvy21 (i + 20) (ne_o (i := i) (c := 20) (d := 0) rfl)).trans hgy45
    have hgy47 := (hfvy19 (i + 21) (ne_o (i := i) (c := 21) (d := 0) rfl)).trans ha21
    have hgy48 := (hfvy21 (i + 21) (ne_o (i := i) (c := 21) (d := 0) rfl)).trans hgy47
    have hgy49 := (hfvy19 (i + 22) (ne_o (i := i) (c := 22) (d := 0) rfl)).trans ha22
    have hgy50 := (hfvy21 (i + 22) (ne_o (i := i) (c := 22) (d := 0) rfl)).trans hgy49
    have hgy51 := (hfvy19 (i + 23) (ne_o (i := i) (c := 23) (d := 0) rfl)).trans ha23
    have hgy52 := (hfvy21 (i + 23) (ne_o (i := i) (c := 23) (d := 0) rfl)).trans hgy51
    have htxy53 : okTx cs gvy21 i Fvy21 := ⟨_, _, _, _, _, _, _, _, ⟨hgy38, hgy40, hgy42, hgy44, hgy46, hgy48, hgy50, hgy52⟩, ⟨⟨by omega, by omega, by omega⟩, hop1, hmn1, hai1, hfa1, htb1, hlay36⟩⟩
    exact z_vret C hr hlk dX10_layer1_97 (by decide) (by decide) ⟨rfl, rfl, rfl, ⟨_, hcvy21, hrdy30, by omega, by omega, hFy22, htxy53⟩, fun j j1 j2 => by rw [hfvy21 _ (by omega)]; rw [hfvy19 _ (by omega)]⟩
  · refine z_iconst (z := 1) C dX10_layer1_13 rfl ?_
    refine z_goto (tgt := 18) C dX10_layer1_14 (by decide) ?_
    refine z_iconst (z := 1) C dX10_layer1_18 rfl ?_
    have h38vy54 : Fvy19 38 = 0 := ((hFvy19 38 (by decide) (by decide) (by decide) (by decide) (by decide)).trans h38)
    refine z_cV (As := [.int (zI (1)), .int (zI (1))]) (rest := []) (ci := 12) C (c_X10_wants l D A cs tt N ad _ i hN _ hcvy19 (by omega) (1) (by omega) (1) (by omega)) (by omega) hay1 hcvy19 rfl rfl mv_yX10_wants q_1678 hd_yX10_wants (by decide) (Nat.le_of_ble_eq_true rfl) (by decide) dX10_layer1_19 rfl (kI0 fun vy54 gvy54 hvy54 => ?_)
    obtain ⟨⟨Fvy54, hcvy54, hqvy54, hbvy54, hFvy54⟩, hfvy54⟩ := hvy54
    obtain rfl : vy54 = 1 := by omega
    have e38vy54 : Fvy54 38 = 0 := by omega
    refine z_if_eq (tgt := 97) C dX10_layer1_22 (by decide) (by omega) (fun h => absurd h (by omega)) (fun _ => ?_)
    refine z_aload_n C 0 dX10_layer1_25 rfl ?_
    refine z_aload_n C 0 dX10_layer1_26 rfl ?_
    refine z_get (v := .int (zI (Fvy19 36))) C (by omega) hay1 hcvy54 rfl inA_X10 36 (by decide) q_1495 rfl (fv (F := Fvy54) (f := 36) (hFvy54 36 (by decide) (by decide))) dX10_layer1_27 ?_
    refine z_iconst (z := 4) C dX10_layer1_30 rfl ?_
    refine z_icmp_ge (tgt := 38) C dX10_layer1_31 (by decide) (by omega) (by omega) (fun hby55 => ?_) (fun hby55 => ?_)
    · refine z_iconst (z := 0) C dX10_layer1_38 rfl ?_
      refine z_iconst (z := 2) C dX10_layer1_39 rfl ?_
      have h38vy56 : Fvy54 38 = 0 := e38vy54
      refine z_cV (As := [.int (zI (0)), .int (zI (2))]) (rest := []) (ci := 12) C (c_X10_wants l D A cs tt N ad _ i hN _ hcvy54 (by omega) (0) (by omega) (2) (by omega)) (by omega) hay1 hcvy54 rfl rfl mv_yX10_wants q_1678 hd_yX10_wants (by decide) (Nat.le_of_ble_eq_true rfl) (by decide) dX10_layer1_40 rfl (kI0 fun vy56 gvy56 hvy56 => ?_)
      obtain ⟨⟨Fvy56, hcvy56, hqvy56, hbvy56, hFvy56⟩, hfvy56⟩ := hvy56
      obtain rfl : vy56 = 0 := by omega
      refine z_if_eq (tgt := 97) C dX10_layer1_43 (by decide) (by omega) (fun _ => ?_) (fun h => absurd h (by omega))
      have hFy57 : ∀ f, f ≠ 24 → f ≠ 32 → f ≠ 33 → f ≠ 35 → f ≠ 36 → f ≠ 37 → f ≠ 38 → f ≠ 47 → f ≠ 48 → f ≠ 49 → Fvy56 f = F f := fun f n24 n32 n33 n35 n36 n37 n38 n47 n48 n49 => ((hFvy56 f n24 n38).trans ((hFvy54 f n24 n38).trans (hFvy19 f n32 n33 n35 n36 n37)))
      have hey58 : Fvy56 32 = Fvy19 32 := ((hFvy56 32 (by decide) (by decide)).trans (hFvy54 32 (by decide) (by decide)))
      have hey59 : Fvy56 33 = Fvy19 33 := ((hFvy56 33 (by decide) (by decide)).trans (hFvy54 33 (by decide) (by decide)))
      have hey60 : Fvy56 34 = F 34 := ((hFvy56 34 (by decide) (by decide)).trans ((hFvy54 34 (by decide) (by decide)).trans (hFvy19 34 (by decide) (by decide) (by decide) (by decide) (by decide))))
      have hey61 : Fvy56 35 = Fvy19 35 := ((hFvy56 35 (by decide) (by decide)).trans (hFvy54 35 (by decide) (by decide)))
      have hey62 : Fvy56 36 = Fvy19 36 := ((hFvy56 36 (by decide) (by decide)).trans (hFvy54 36 (by decide) (by decide)))
      have hey63 : Fvy56 37 = Fvy19 37 := ((hFvy56 37 (by decide) (by decide)).trans (hFvy54 37 (by decide) (by decide)))
      have hey64 : Fvy56 38 = Fvy56 38 := rfl
      have hrdy65 : RD Fvy56 := by unfold RD; omega
      have hey66 : Fvy56 32 = Fvy19 32 := ((hFvy56 32 (by decide) (by decide)).trans (hFvy54 32 (by decide) (by decide)))
      have hey67 : Fvy56 47 = F 47 := ((hFvy56 47 (by decide) (by decide)).trans ((hFvy54 47 (by decide) (by decide)).trans (hFvy19 47 (by decide) (by decide) (by decide) (by decide) (by decide))))
      have hey68 : Fvy56 48 = F 48 := ((hFvy56 48 (by decide) (by decide)).trans ((hFvy54 48 (by decide) (by decide)).trans (hFvy19 48 (by decide) (by decide) (by decide) (by decide) (by decide))))
      have hey69 : Fvy56 49 = F 49 := ((hFvy56 49 (by decide) (by decide)).trans ((hFvy54 49 (by decide) (by decide)).trans (hFvy19 49 (by decide) (by decide) (by decide) (by decide) (by decide))))
      have hlay71 : ∀ s l : Nat, (s : Int) < Fvy56 47 → (l : Int) < mn1 s → lyT ly1 (84 * s + 7 * l) := fun s l a1 a2 => hly1 s l (by omega) a2
      have hgy72 := (hfvy19 (i + 16) (ne_o (i := i) (c := 16) (d := 0) rfl)).trans ha16
      have hgy73 := (hfvy54 (i + 16) (ne_o (i := i) (c := 16) (d := 0) rfl)).trans hgy72
      have hgy74 := (hfvy56 (i + 16) (ne_o (i := i) (c := 16) (d := 0) rfl)).trans hgy73
      have hgy75 := (hfvy19 (i + 17) (ne_o (i := i) (c := 17) (d := 0) rfl)).trans ha17
      have hgy76 := (hfvy54 (i + 17) (ne_o (i := i) (c := 17) (d := 0) rfl)).trans hgy75
      have hgy77 := (hfvy56 (i + 17) (ne_o (i := i) (c := 17) (d := 0) rfl)).trans hgy76
      have hgy78 := (hfvy19 (i + 18) (ne_o (i := i) (c := 18) (d := 0) rfl)).trans ha18
      have hgy79 := (hfvy54 (i + 18) (ne_o (i := i) (c := 18) (d := 0) rfl)).trans hgy78
      have hgy80 := (hfvy56 (i + 18) (ne_o (i := i) (c := 18) (d := 0) rfl)).trans hgy79
      have hgy81 := (hfvy19 (i + 19) (ne_o (i := i) (c := 19) (d := 0) rfl)).trans ha19
      have hgy82 := (hfvy54 (i + 19) (ne_o (i := i) (c := 19) (d := 0) rfl)).trans hgy81
      have hgy83 := (hfvy56 (i + 19) (ne_o (i := i) (c := 19) (d := 0) rfl)).trans hgy82
      have hgy84 := (hfvy19 (i + 20) (ne_o (i := i) (c := 20) (d := 0) rfl)).trans ha20
      have hgy85 := (hfvy54 (i + 20) (ne_o (i := i) (c := 20) (d := 0) rfl)).trans hgy84
      have hgy86 := (hfvy56 (i + 20) (ne_o (i := i) (c := 20) (d := 0) rfl)).trans hgy85
      have hgy87 := (hfvy19 (i + 21) (ne_o (i := i) (c := 21) (d := 0) rfl)).trans ha21
      have hgy88 := (hfvy54 (i + 21) (ne_o (i := i) (c := 21) (d := 0) rfl)).trans hgy87
      have hgy89 := (hfvy56 (i + 21) (ne_o (i := i) (c := 21) (d := 0) rfl)).trans hgy88
      have hgy90 := (hfvy19 (i + 22) (ne_o (i := i) (c := 22) (d := 0) rfl)).trans ha22
      have hgy91 := (hfvy54 (i + 22) (ne_o (i := i) (c := 22) (d := 0) rfl)).trans hgy90
      have hgy92 := (hfvy56 (i + 22) (ne_o (i := i) (c := 22) (d := 0) rfl)).trans hgy91
      have hgy93 := (hfvy19 (i + 23) (ne_o (i := i) (c := 23) (d := 0) rfl)).trans ha23
      have hgy94 := (hfvy54 (i + 23) (ne_o (i := i) (c := 23) (d := 0) rfl)).trans hgy93
      have hgy95 := (hfvy56 (i + 23) (ne_o (i := i) (c := 23) (d := 0) rfl)).trans hgy94
      have htxy96 : okTx cs gvy56 i Fvy56 := ⟨_, _, _, _, _, _, _, _, ⟨hgy74, hgy77, hgy80, hgy83, hgy86, hgy89, hgy92, hgy95⟩, ⟨⟨by omega, by omega, by omega⟩, hop1, hmn1, hai1, hfa1, htb1, hlay71⟩⟩
      exact z_vret C hr hlk dX10_layer1_97 (by decide) (by decide) ⟨rfl, rfl, rfl, ⟨_, hcvy56, hrdy65, by omega, by omega, hFy57, htxy96⟩, fun j j1 j2 => by rw [hfvy56 _ (by omega)]; rw [hfvy54 _ (by omega)]; rw [hfvy19 _ (by omega)]⟩
    · refine z_iconst (z := 1) C dX10_layer1_34 rfl ?_
      refine z_goto (tgt := 39) C dX10_layer1_35 (by decide) ?_
      refine z_iconst (z := 2) C dX10_layer1_39 rfl ?_
      have h38vy97 : Fvy54 38 = 0 := e38vy54
      refine z_cV (As := [.int (zI (1)), .int (zI (2))]) (rest := []) (ci := 12) C (c_X10_wants l D A cs tt N ad _ i hN _ hcvy54 (by omega) (1) (by omega) (2) (by omega)) (by omega) hay1 hcvy54 rfl rfl mv_yX10_wants q_1678 hd_yX10_wants (by decide) (Nat.le_of_ble_eq_true rfl) (by decide) dX10_layer1_40 rfl (kI0 fun vy97 gvy97 hvy97 => ?_)
      obtain ⟨⟨Fvy97, hcvy97, hqvy97, hbvy97, hFvy97⟩, hfvy97⟩ := hvy97
      obtain rfl : vy97 = 1 := by omega
      have e38vy97 : Fvy97 38 = 0 := by omega
      refine z_if_eq (tgt := 97) C dX10_layer1_43 (by decide) (by omega) (fun h => absurd h (by omega)) (fun _ => ?_)
      refine z_aload_n C 0 dX10_layer1_46 rfl ?_
      refine z_aload_n C 0 dX10_layer1_47 rfl ?_
      refine z_get (v := .int (zI (Fvy19 36))) C (by omega) hay1 hcvy97 rfl inA_X10 36 (by decide) q_1495 rfl (fv (F := Fvy97) (f := 36) ((hFvy97 36 (by decide) (by decide)).trans (hFvy54 36 (by decide) (by decide)))) dX10_layer1_48 ?_
      refine z_aload_n C 0 dX10_layer1_51 rfl ?_
      refine z_get (v := .int (zI (F 47))) C (by omega) hay1 hcvy97 rfl inA_X10 47 (by decide) q_1506 rfl (fv (F := Fvy97) (f := 47) ((hFvy97 47 (by decide) (by decide)).trans ((hFvy54 47 (by decide) (by decide)).trans (hFvy19 47 (by decide) (by decide) (by decide) (by decide) (by decide))))) dX10_layer1_52 ?_
      refine z_icmp_ge (tgt := 62) C dX10_layer1_55 (by decide) (by omega) (by omega) (fun hby98 => ?_) (fun hby98 => ?_)
      · refine z_iconst (z := 0) C dX10_layer1_62 rfl ?_
        refine z_iconst (z := 3) C dX10_layer1_63 rfl ?_
        have h38vy99 : Fvy97 38 = 0 := e38vy97
        refine z_cV (As := [.int (zI (0)), .int (zI (3))]) (rest := []) (ci := 12) C (c_X10_wants l D A cs tt N ad _ i hN _ hcvy97 (by omega) (0) (by omega) (3) (by omega)) (by omega) hay1 hcvy97 rfl rfl mv_yX10_wants q_1678 hd_yX10_wants (by decide) (Nat.le_of_ble_eq_true rfl) (by decide) dX10_layer1_64 rfl (kI0 fun vy99 gvy99 hvy99 => ?_)
        obtain ⟨⟨Fvy99, hcvy99, hqvy99, hbvy99, hFvy99⟩, hfvy99⟩ := hvy99
        obtain rfl : vy99 = 0 := by omega
        refine z_if_eq (tgt := 97) C dX10_layer1_67 (by decide) (by omega) (fun _ => ?_) (fun h => absurd h (by omega))
        have hFy100 : ∀ f, f ≠ 24 → f ≠ 32 → f ≠ 33 → f ≠ 35 → f ≠ 36 → f ≠ 37 → f ≠ 38 → f ≠ 47 → f ≠ 48 → f ≠ 49 → Fvy99 f = F f := fun f n24 n32 n33 n35 n36 n37 n38 n47 n48 n49 => ((hFvy99 f n24 n38).trans ((hFvy97 f n24 n38).trans ((hFvy54 f n24 n38).trans (hFvy19 f n32 n33 n35 n36 n37))))
        have hey101 : Fvy99 32 = Fvy19 32 := ((hFvy99 32 (by decide) (by decide)).trans ((hFvy97 32 (by decide) (by decide)).trans (hFvy54 32 (by decide) (by decide))))
        have hey102 : Fvy99 33 = Fvy19 33 := ((hFvy99 33 (by decide) (by decide)).trans ((hFvy97 33 (by decide) (by decide)).trans (hFvy54 33 (by decide) (by decide))))
        have hey103 : Fvy99 34 = F 34 := ((hFvy99 34 (by decide) (by decide)).trans ((hFvy97 34 (by decide) (by decide)).trans ((hFvy54 34 (by decide) (by decide)).trans (hFvy19 34 (by decide) (by decide) (by decide) (by decide) (by decide)))))
        have hey104 : Fvy99 35 = Fvy19 35 := ((hFvy99 35 (by decide) (by decide)).trans ((hFvy97 35 (by decide) (by decide)).trans (hFvy54 35 (by decide) (by decide))))
        have hey105 : Fvy99 36 = Fvy19 36 := ((hFvy99 36 (by decide) (by decide)).trans ((hFvy97 36 (by decide) (by decide)).trans (hFvy54 36 (by decide) (by decide))))
        have hey106 : Fvy99 37 = Fvy19 37 := ((hFvy99 37 (by decide) (by decide)).trans ((hFvy97 37 (by decide) (by decide)).trans (hFvy54 37 (by decide) (by decide))))
        have hey107 : Fvy99 38 = Fvy99 38 := rfl
        have hrdy108 : RD Fvy99 := by unfold RD; omega
        have hey109 : Fvy99 32 = Fvy19 32 := ((hFvy99 32 (by decide) (by decide)).trans ((hFvy97 32 (by decide) (by decide)).trans (hFvy54 32 (by decide) (by decide))))
        have hey110 : Fvy99 47 = F 47 := ((hFvy99 47 (by decide) (by decide)).trans ((hFvy97 47 (by decide) (by decide)).trans ((hFvy54 47 (by decide) (by decide)).trans (hFvy19 47 (by decide) (by decide) (by decide) (by decide) (by decide)))))
        have hey111 : Fvy99 48 = F 48 := ((hFvy99 48 (by decide) (by decide)).trans ((hFvy97 48 (by decide) (by decide)).trans ((hFvy54 48 (by decide) (by decide)).trans (hFvy19 48 (by decide) (by decide) (by decide) (by decide) (by decide)))))
        have hey112 : Fvy99 49 = F 49 := ((hFvy99 49 (by decide) (by decide)).trans ((hFvy97 49 (by decide) (by decide)).trans ((hFvy54 49 (by decide) (by decide)).trans (hFvy19 49 (by decide) (by decide) (by decide) (by decide) (by decide)))))
        have hlay114 : ∀ s l : Nat, (s : Int) < Fvy99 47 → (l : Int) < mn1 s → lyT ly1 (84 * s + 7 * l) := fun s l a1 a2 => hly1 s l (by omega) a2
        have hgy115 := (hfvy19 (i + 16) (ne_o (i := i) (c := 16) (d := 0) rfl)).trans ha16
        have hgy116 := (hfvy54 (i + 16) (ne_o (i := i) (c := 16) (d := 0) rfl)).trans hgy115
        have hgy117 := (hfvy97 (i + 16) (ne_o (i := i) (c := 16) (d := 0) rfl)).trans hgy116
        have hgy118 := (hfvy99 (i + 16) (ne_o (i := i) (c := 16) (d := 0) rfl)).trans hgy117
        have hgy119 := (hfvy19 (i + 17) (ne_o (i := i) (c := 17) (d := 0) rfl)).trans ha17
        have hgy120 := (hfvy54 (i + 17) (ne_o (i := i) (c := 17) (d := 0) rfl)).trans hgy119
        have hgy121 := (hfvy97 (i + 17) (ne_o (i := i) (c := 17) (d := 0) rfl)).trans hgy120
        have hgy122 := (hfvy99 (i + 17) (ne_o (i := i) (c := 17) (d := 0) rfl)).trans hgy121
        have hgy123 := (hfvy19 (i + 18) (ne_o (i := i) (c := 18) (d := 0) rfl)).trans ha18
        have hgy124 := (hfvy54 (i + 18) (ne_o (i := i) (c := 18) (d := 0) rfl)).trans hgy123
        have hgy125 := (hfvy97 (i + 18) (ne_o (i := i) (c := 18) (d := 0) rfl)).trans hgy124
        have hgy126 := (hfvy99 (i + 18) (ne_o (i := i) (c := 18) (d := 0) rfl)).trans hgy125
        have hgy127 := (hfvy19 (i + 19) (ne_o (i := i) (c := 19) (d := 0) rfl)).trans ha19
        have hgy128 := (hfvy54 (i + 19) (ne_o (i := i) (c := 19) (d := 0) rfl)).trans hgy127
        have hgy129 := (hfvy97 (i + 19) (ne_o (i := i) (c := 19) (d := 0) rfl)).trans hgy128
        have hgy130 := (hfvy99 (i + 19) (ne_o (i := i) (c := 19) (d := 0) rfl)).trans hgy129
        have hgy131 := (hfvy19 (i + 20) (ne_o (i := i) (c := 20) (d := 0) rfl)).trans ha20
        have hgy132 := (hfvy54 (i + 20) (ne_o (i := i) (c := 20) (d := 0) rfl)).trans hgy131
        have hgy133 := (hfvy97 (i + 20) (ne_o (i := i) (c := 20) (d := 0) rfl)).trans hgy132
        have hgy134 := (hfvy99 (i + 20) (ne_o (i := i) (c := 20) (d := 0) rfl)).trans hgy133
        have hgy135 := (hfvy19 (i + 21) (ne_o (i := i) (c := 21) (d := 0) rfl)).trans ha21
        have hgy136 := (hfvy54 (i + 21) (ne_o (i := i) (c := 21) (d := 0) rfl)).trans hgy135
        have hgy137 := (hfvy97 (i + 21) (ne_o (i := i) (c := 21) (d := 0) rfl)).trans hgy136
        have hgy138 := (hfvy99 (i + 21) (ne_o (i := i) (c := 21) (d := 0) rfl)).trans hgy137
        have hgy139 := (hfvy19 (i + 22) (ne_o (i := i) (c := 22) (d := 0) rfl)).trans ha22
        have hgy140 := (hfvy54 (i + 22) (ne_o (i := i) (c := 22) (d := 0) rfl)).trans hgy139
        have hgy141 := (hfvy97 (i + 22) (ne_o (i := i) (c := 22) (d := 0) rfl)).trans hgy140
        have hgy142 := (hfvy99 (i + 22) (ne_o (i := i) (c := 22) (d := 0) rfl)).trans hgy141
        have hgy143 := (hfvy19 (i + 23) (ne_o (i := i) (c := 23) (d := 0) rfl)).trans ha23
        have hgy144 := (hfvy54 (i + 23) (ne_o (i := i) (c := 23) (d := 0) rfl)).trans hgy143
        have hgy145 := (hfvy97 (i + 23) (ne_o (i := i) (c := 23) (d := 0) rfl)).trans hgy144
        have hgy146 := (hfvy99 (i + 23) (ne_o (i := i) (c := 23) (d := 0) rfl)).trans hgy145
        have htxy147 : okTx cs gvy99 i Fvy99 := ⟨_, _, _, _, _, _, _, _, ⟨hgy118, hgy122, hgy126, hgy130, hgy134, hgy138, hgy142, hgy146⟩, ⟨⟨by omega, by omega, by omega⟩, hop1, hmn1, hai1, hfa1, htb1, hlay114⟩⟩
        exact z_vret C hr hlk dX10_layer1_97 (by decide) (by decide) ⟨rfl, rfl, rfl, ⟨_, hcvy99, hrdy108, by omega, by omega, hFy100, htxy147⟩, fun j j1 j2 => by rw [hfvy99 _ (by omega)]; rw [hfvy97 _ (by omega)]; rw [hfvy54 _ (by omega)]; rw [hfvy19 _ (by omega)]⟩
      · refine z_iconst (z := 1) C dX10_layer1_58 rfl ?_
        refine z_goto (tgt := 63) C dX10_layer1_59 (by decide) ?_
        refine z_iconst (z := 3) C dX10_layer1_63 rfl ?_
        have h38vy148 : Fvy97 38 = 0 := e38vy97
        refine z_cV (As := [.int (zI (1)), .int (zI (3))]) (rest := []) (ci := 12) C (c_X10_wants l D A cs tt N ad _ i hN _ hcvy97 (by omega) (1) (by omega) (3) (by omega)) (by omega) hay1 hcvy97 rfl rfl mv_yX10_wants q_1678 hd_yX10_wants (by decide) (Nat.le_of_ble_eq_true rfl) (by decide) dX10_layer1_64 rfl (kI0 fun vy148 gvy148 hvy148 => ?_)
        obtain ⟨⟨Fvy148, hcvy148, hqvy148, hbvy148, hFvy148⟩, hfvy148⟩ := hvy148
        obtain rfl : vy148 = 1 := by omega
        have e38vy148 : Fvy148 38 = 0 := by omega
        refine z_if_eq (tgt := 97) C dX10_layer1_67 (by decide) (by omega) (fun h => absurd h (by omega)) (fun _ => ?_)
        refine z_aload_n C 0 dX10_layer1_70 rfl ?_
        refine z_aload_n C 0 dX10_layer1_71 rfl ?_
        refine z_get (v := .ref (ad (i + 18))) C (by omega) hay1 hcvy148 rfl inA_X10 41 (by decide) q_1500 rfl rfl dX10_layer1_72 ?_
        refine z_aload_n C 0 dX10_layer1_75 rfl ?_
        refine z_get (v := .int (zI (Fvy19 36))) C (by omega) hay1 hcvy148 rfl inA_X10 36 (by decide) q_1495 rfl (fv (F := Fvy148) (f := 36) ((hFvy148 36 (by decide) (by decide)).trans ((hFvy97 36 (by decide) (by decide)).trans (hFvy54 36 (by decide) (by decide))))) dX10_layer1_76 ?_
        have hgy149 := (hfvy19 (i + 18) (ne_o (i := i) (c := 18) (d := 0) rfl)).trans ha18
        have hgy150 := (hfvy54 (i + 18) (ne_o (i := i) (c := 18) (d := 0) rfl)).trans hgy149
        have hgy151 := (hfvy97 (i + 18) (ne_o (i := i) (c := 18) (d := 0) rfl)).trans hgy150
        have hgy152 := (hfvy148 (i + 18) (ne_o (i := i) (c := 18) (d := 0) rfl)).trans hgy151
        refine z_iald C (by omega) hay5 hgy152 ((Fvy19 36).toNat) (by omega) (by omega) (by decide) dX10_layer1_79 ?_
        have hrfy153 := hmn1 ((Fvy19 36).toNat) (by omega)
        refine z_bipush (z := 12) C dX10_layer1_80 (by decide) ?_
        refine z_icmp_ge (tgt := 89) C dX10_layer1_82 (by decide) (by omega) (by omega) (fun hby154 => ?_) (fun hby154 => ?_)
        · refine z_iconst (z := 0) C dX10_layer1_89 rfl ?_
          refine z_iconst (z := 2) C dX10_layer1_90 rfl ?_
          have h38vy155 : Fvy148 38 = 0 := e38vy148
          refine z_cV (As := [.int (zI (0)), .int (zI (2))]) (rest := []) (ci := 12) C (c_X10_wants l D A cs tt N ad _ i hN _ hcvy148 (by omega) (0) (by omega) (2) (by omega)) (by omega) hay1 hcvy148 rfl rfl mv_yX10_wants q_1678 hd_yX10_wants (by decide) (Nat.le_of_ble_eq_true rfl) (by decide) dX10_layer1_91 rfl (kI0 fun vy155 gvy155 hvy155 => ?_)
          obtain ⟨⟨Fvy155, hcvy155, hqvy155, hbvy155, hFvy155⟩, hfvy155⟩ := hvy155
          obtain rfl : vy155 = 0 := by omega
          refine z_if_ne (tgt := 98) C dX10_layer1_94 (by decide) (by omega) (fun h => absurd h (by omega)) (fun _ => ?_)
          have hFy156 : ∀ f, f ≠ 24 → f ≠ 32 → f ≠ 33 → f ≠ 35 → f ≠ 36 → f ≠ 37 → f ≠ 38 → f ≠ 47 → f ≠ 48 → f ≠ 49 → Fvy155 f = F f := fun f n24 n32 n33 n35 n36 n37 n38 n47 n48 n49 => ((hFvy155 f n24 n38).trans ((hFvy148 f n24 n38).trans ((hFvy97 f n24 n38).trans ((hFvy54 f n24 n38).trans (hFvy19 f n32 n33 n35 n36 n37)))))
          have hey157 : Fvy155 32 = Fvy19 32 := ((hFvy155 32 (by decide) (by decide)).trans ((hFvy148 32 (by decide) (by decide)).trans ((hFvy97 32 (by decide) (by decide)).trans (hFvy54 32 (by decide) (by decide)))))
          have hey158 : Fvy155 33 = Fvy19 33 := ((hFvy155 33 (by decide) (by decide)).trans ((hFvy148 33 (by decide) (by decide)).trans ((hFvy97 33 (by decide) (by decide)).trans (hFvy54 33 (by decide) (by decide)))))
          have hey159 : Fvy155 34 = F 34 := ((hFvy155 34 (by decide) (by decide)).trans ((hFvy148 34 (by decide) (by decide)).trans ((hFvy97 34 (by decide) (by decide)).trans ((hFvy54 34 (by decide) (by decide)).trans (hFvy19 34 (by decide) (by decide) (by decide) (by decide) (by decide))))))
          have hey160 : Fvy155 35 = Fvy19 35 := ((hFvy155 35 (by decide) (by decide)).trans ((hFvy148 35 (by decide) (by decide)).trans ((hFvy97 35 (by decide) (by decide)).trans (hFvy54 35 (by decide) (by decide)))))
          have hey161 : Fvy155 36 = Fvy19 36 := ((hFvy155 36 (by decide) (by decide)).trans ((hFvy148 36 (by decide) (by decide)).trans ((hFvy97 36 (by decide) (by decide)).trans (hFvy54 36 (by decide) (by decide)))))
          have hey162 : Fvy155 37 = Fvy19 37 := ((hFvy155 37 (by decide) (by decide)).trans ((hFvy148 37 (by decide) (by decide)).trans ((hFvy97 37 (by decide) (by decide)).trans (hFvy54 37 (by decide) (by decide)))))
          have hey163 : Fvy155 38 = Fvy155 38 := rfl
          have hrdy164 : RD Fvy155 := by unfold RD; omega
          have hey165 : Fvy155 32 = Fvy19 32 := ((hFvy155 32 (by decide) (by decide)).trans ((hFvy148 32 (by decide) (by decide)).trans ((hFvy97 32 (by decide) (by decide)).trans (hFvy54 32 (by decide) (by decide)))))
          have hey166 : Fvy155 47 = F 47 := ((hFvy155 47 (by decide) (by decide)).trans ((hFvy148 47 (by decide) (by decide)).trans ((hFvy97 47 (by decide) (by decide)).trans ((hFvy54 47 (by decide) (by decide)).trans (hFvy19 47 (by decide) (by decide) (by decide) (by decide) (by decide))))))
          have hey167 : Fvy155 48 = F 48 := ((hFvy155 48 (by decide) (by decide)).trans ((hFvy148 48 (by decide) (by decide)).trans ((hFvy97 48 (by decide) (by decide)).trans ((hFvy54 48 (by decide) (by decide)).trans (hFvy19 48 (by decide) (by decide) (by decide) (by decide) (by decide))))))
          have hey168 : Fvy155 49 = F 49 := ((hFvy155 49 (by decide) (by decide)).trans ((hFvy148 49 (by decide) (by decide)).trans ((hFvy97 49 (by decide) (by decide)).trans ((hFvy54 49 (by decide) (by decide)).trans (hFvy19 49 (by decide) (by decide) (by decide) (by decide) (by decide))))))
          have hlay170 : ∀ s l : Nat, (s : Int) < Fvy155 47 → (l : Int) < mn1 s → lyT ly1 (84 * s + 7 * l) := fun s l a1 a2 => hly1 s l (by omega) a2
          have hgy171 := (hfvy19 (i + 16) (ne_o (i := i) (c := 16) (d := 0) rfl)).trans ha16
          have hgy172 := (hfvy54 (i + 16) (ne_o (i := i) (c := 16) (d := 0) rfl)).trans hgy171
          have hgy173 := (hfvy97 (i + 16) (ne_o (i := i) (c := 16) (d := 0) rfl)).trans hgy172
          have hgy174 := (hfvy148 (i + 16) (ne_o (i := i) (c := 16) (d := 0) rfl)).trans hgy173
          have hgy175 := (hfvy155 (i + 16) (ne_o (i := i) (c := 16) (d := 0) rfl)).trans hgy174
          have hgy176 := (hfvy19 (i + 17) (ne_o (i := i) (c := 17) (d := 0) rfl)).trans ha17
          have hgy177 := (hfvy54 (i + 17) (ne_o (i := i) (c := 17) (d := 0) rfl)).trans hgy176
          have hgy178 := (hfvy97 (i + 17) (ne_o (i := i) (c := 17) (d := 0) rfl)).trans hgy177
          have hgy179 := (hfvy148 (i + 17) (ne_o (i := i) (c := 17) (d := 0) rfl)).trans hgy178
          have hgy180 := (hfvy155 (i + 17) (ne_o (i := i) (c := 17) (d := 0) rfl)).trans hgy179
          have hgy181 := (hfvy155 (i + 18) (ne_o (i := i) (c := 18) (d := 0) rfl)).trans hgy152
          have hgy182 := (hfvy19 (i + 19) (ne_o (i := i) (c := 19) (d := 0) rfl)).trans ha19
          have hgy183 := (hfvy54 (i + 19) (ne_o (i := i) (c := 19) (d := 0) rfl)).trans hgy182
          have hgy184 := (hfvy97 (i + 19) (ne_o (i := i) (c := 19) (d := 0) rfl)).trans hgy183
          have hgy185 := (hfvy148 (i + 19) (ne_o (i := i) (c := 19) (d := 0) rfl)).trans hgy184
          have hgy186 := (hfvy155 (i + 19) (ne_o (i := i) (c := 19) (d := 0) rfl)).trans hgy185
          have hgy187 := (hfvy19 (i + 20) (ne_o (i := i) (c := 20) (d := 0) rfl)).trans ha20
          have hgy188 := (hfvy54 (i + 20) (ne_o (i := i) (c := 20) (d := 0) rfl)).trans hgy187
          have hgy189 := (hfvy97 (i + 20) (ne_o (i := i) (c := 20) (d := 0) rfl)).trans hgy188
          have hgy190 := (hfvy148 (i + 20) (ne_o (i := i) (c := 20) (d := 0) rfl)).trans hgy189
          have hgy191 := (hfvy155 (i + 20) (ne_o (i := i) (c := 20) (d := 0) rfl)).trans hgy190
          have hgy192 := (hfvy19 (i + 21) (ne_o (i := i) (c := 21) (d := 0) rfl)).trans ha21
          have hgy193 := (hfvy54 (i + 21) (ne_o (i := i) (c := 21) (d := 0) rfl)).trans hgy192
          have hgy194 := (hfvy97 (i + 21) (ne_o (i := i) (c := 21) (d := 0) rfl)).trans hgy193
          have hgy195 := (hfvy148 (i + 21) (ne_o (i := i) (c := 21) (d := 0) rfl)).trans hgy194
          have hgy196 := (hfvy155 (i + 21) (ne_o (i := i) (c := 21) (d := 0) rfl)).trans hgy195
          have hgy197 := (hfvy19 (i + 22) (ne_o (i := i) (c := 22) (d := 0) rfl)).trans ha22
          have hgy198 := (hfvy54 (i + 22) (ne_o (i := i) (c := 22) (d := 0) rfl)).trans hgy197
          have hgy199 := (hfvy97 (i + 22) (ne_o (i := i) (c := 22) (d := 0) rfl)).trans hgy198
          have hgy200 := (hfvy148 (i + 22) (ne_o (i := i) (c := 22) (d := 0) rfl)).trans hgy199
          have hgy201 := (hfvy155 (i + 22) (ne_o (i := i) (c := 22) (d := 0) rfl)).trans hgy200
          have hgy202 := (hfvy19 (i + 23) (ne_o (i := i) (c := 23) (d := 0) rfl)).trans ha23
          have hgy203 := (hfvy54 (i + 23) (ne_o (i := i) (c := 23) (d := 0) rfl)).trans hgy202
          have hgy204 := (hfvy97 (i + 23) (ne_o (i := i) (c := 23) (d := 0) rfl)).trans hgy203
          have hgy205 := (hfvy148 (i + 23) (ne_o (i := i) (c := 23) (d := 0) rfl)).trans hgy204
          have hgy206 := (hfvy155 (i + 23) (ne_o (i := i) (c := 23) (d := 0) rfl)).trans hgy205
          have htxy207 : okTx cs gvy155 i Fvy155 := ⟨_, _, _, _, _, _, _, _, ⟨hgy175, hgy180, hgy181, hgy186, hgy191, hgy196, hgy201, hgy206⟩, ⟨⟨by omega, by omega, by omega⟩, hop1, hmn1, hai1, hfa1, htb1, hlay170⟩⟩
          exact z_vret C hr hlk dX10_layer1_97 (by decide) (by decide) ⟨rfl, rfl, rfl, ⟨_, hcvy155, hrdy164, by omega, by omega, hFy156, htxy207⟩, fun j j1 j2 => by rw [hfvy155 _ (by omega)]; rw [hfvy148 _ (by omega)]; rw [hfvy97 _ (by omega)]; rw [hfvy54 _ (by omega)]; rw [hfvy19 _ (by omega)]⟩
        · refine z_iconst (z := 1) C dX10_layer1_85 rfl ?_
          refine z_goto (tgt := 90) C dX10_layer1_86 (by decide) ?_
          refine z_iconst (z := 2) C dX10_layer1_90 rfl ?_
          have h38vy208 : Fvy148 38 = 0 := e38vy148
          refine z_cV (As := [.int (zI (1)), .int (zI (2))]) (rest := []) (ci := 12) C (c_X10_wants l D A cs tt N ad _ i hN _ hcvy148 (by omega) (1) (by omega) (2) (by omega)) (by omega) hay1 hcvy148 rfl rfl mv_yX10_wants q_1678 hd_yX10_wants (by decide) (Nat.le_of_ble_eq_true rfl) (by decide) dX10_layer1_91 rfl (kI0 fun vy208 gvy208 hvy208 => ?_)
          obtain ⟨⟨Fvy208, hcvy208, hqvy208, hbvy208, hFvy208⟩, hfvy208⟩ := hvy208
          obtain rfl : vy208 = 1 := by omega
          have e38vy208 : Fvy208 38 = 0 := by omega
          refine z_if_ne (tgt := 98) C dX10_layer1_94 (by decide) (by omega) (fun _ => ?_) (fun h => absurd h (by omega))
          refine z_aload_n C 0 dX10_layer1_98 rfl ?_
          refine z_get (v := .int (zI (Fvy19 36))) C (by omega) hay1 hcvy208 rfl inA_X10 36 (by decide) q_1495 rfl (fv (F := Fvy208) (f := 36) ((hFvy208 36 (by decide) (by decide)).trans ((hFvy148 36 (by decide) (by decide)).trans ((hFvy97 36 (by decide) (by decide)).trans (hFvy54 36 (by decide) (by decide)))))) dX10_layer1_99 ?_
          obtain ⟨ny209, hny209⟩ : ∃ n9 : Nat, Fvy19 36 = (n9 : Int) := ⟨(Fvy19 36).toNat, by omega⟩
          rw [hny209]
          refine z_istore_n (lv' := [(1, .int (zI ((ny209 : Int)))), (0, .ref (ad i))]) C dX10_layer1_102 rfl (by decide) rfl ?_
          refine z_bipush (z := 84) C dX10_layer1_103 (by decide) ?_
          refine z_iload_n C 0 dX10_layer1_105 rfl ?_
          refine z_imul C dX10_layer1_106 ?_
          refine z_bipush (z := 7) C dX10_layer1_107 (by decide) ?_
          refine z_aload_n C 1 dX10_layer1_109 rfl ?_
          refine z_get (v := .ref (ad (i + 18))) C (by omega) hay1 hcvy208 rfl inA_X10 41 (by decide) q_1500 rfl rfl dX10_layer1_110 ?_
          refine z_iload_n C 0 dX10_layer1_113 rfl ?_
          have hgy210 := (hfvy208 (i + 18) (ne_o (i := i) (c := 18) (d := 0) rfl)).trans hgy152
          refine z_iald C (by omega) hay5 hgy210 (ny209) (by omega) (by omega) (by decide) dX10_layer1_114 ?_
          have hrfy211 := hmn1 (ny209) (by omega)
          refine z_imul C dX10_layer1_115 ?_
          refine z_iadd C dX10_layer1_116 ?_
          obtain ⟨kqy212, hkqy212⟩ : ∃ n9 : Nat, (84 * ((ny209 : Int))) + (7 * (mn1 (ny209))) = (n9 : Int) := ⟨((84 * ((ny209 : Int))) + (7 * (mn1 (ny209)))).toNat, by omega⟩
          rw [hkqy212]
          refine z_istore_n (lv' := [(2, .int (zI ((kqy212 : Int)))), (1, .int (zI ((ny209 : Int)))), (0, .ref (ad i))]) C dX10_layer1_117 rfl (by decide) rfl ?_
          refine z_aload_n C 2 dX10_layer1_118 rfl ?_
          have hey213 : Fvy208 32 = Fvy19 32 := ((hFvy208 32 (by decide) (by decide)).trans ((hFvy148 32 (by decide) (by decide)).trans ((hFvy97 32 (by decide) (by decide)).trans (hFvy54 32 (by decide) (by decide)))))
          have hey214 : Fvy208 33 = Fvy19 33 := ((hFvy208 33 (by decide) (by decide)).trans ((hFvy148 33 (by decide) (by decide)).trans ((hFvy97 33 (by decide) (by decide)).trans (hFvy54 33 (by decide) (by decide)))))
          have hey215 : Fvy208 34 = F 34 := ((hFvy208 34 (by decide) (by decide)).trans ((hFvy148 34 (by decide) (by decide)).trans ((hFvy97 34 (by decide) (by decide)).trans ((hFvy54 34 (by decide) (by decide)).trans (hFvy19 34 (by decide) (by decide) (by decide) (by decide) (by decide))))))
          have hey216 : Fvy208 35 = Fvy19 35 := ((hFvy208 35 (by decide) (by decide)).trans ((hFvy148 35 (by decide) (by decide)).trans ((hFvy97 35 (by decide) (by decide)).trans (hFvy54 35 (by decide) (by decide)))))
          have hey217 : Fvy208 36 = Fvy19 36 := ((hFvy208 36 (by decide) (by decide)).trans ((hFvy148 36 (by decide) (by decide)).trans ((hFvy97 36 (by decide) (by decide)).trans (hFvy54 36 (by decide) (by decide)))))
          have hey218 : Fvy208 37 = Fvy19 37 := ((hFvy208 37 (by decide) (by decide)).trans ((hFvy148 37 (by decide) (by decide)).trans ((hFvy97 37 (by decide) (by decide)).trans (hFvy54 37 (by decide) (by decide)))))
          have hey219 : Fvy208 38 = 0 := e38vy208
          have hrdy220 : RD Fvy208 := by unfold RD; omega
          have hgy221 := (hfvy19 (i + 13) (ne_o (i := i) (c := 13) (d := 0) rfl)).trans ha13
          have hgy222 := (hfvy54 (i + 13) (ne_o (i := i) (c := 13) (d := 0) rfl)).trans hgy221
          have hgy223 := (hfvy97 (i + 13) (ne_o (i := i) (c := 13) (d := 0) rfl)).trans hgy222
          have hgy224 := (hfvy148 (i + 13) (ne_o (i := i) (c := 13) (d := 0) rfl)).trans hgy223
          have hgy225 := (hfvy208 (i + 13) (ne_o (i := i) (c := 13) (d := 0) rfl)).trans hgy224
          refine z_cV (As := []) (rest := []) (ci := 12) C (c_X10_go l D A cs tt N ad _ i hN _ hcvy208 _ hgy225 htp hrdy220) (by omega) hay1 hcvy208 rfl rfl mv_yX10_go q_1652 hd_yX10_go (by decide) (Nat.le_of_ble_eq_true rfl) (by decide) dX10_layer1_119 rfl (kV0 fun gvy226 hvy226 => ?_)
          obtain ⟨⟨Fvy226, hcvy226, hdvy226, hlvy226, hsvy226, hFvy226⟩, hfvy226⟩ := hvy226
          have h32vy226 : Fvy208 32 = Fvy19 32 := ((hFvy208 32 (by decide) (by decide)).trans ((hFvy148 32 (by decide) (by decide)).trans ((hFvy97 32 (by decide) (by decide)).trans (hFvy54 32 (by decide) (by decide)))))
          have h34vy226 : Fvy226 34 = F 34 := (hFvy226 34 (by decide) (by decide) (by decide) (by decide) (by decide)).trans (((hFvy208 34 (by decide) (by decide)).trans ((hFvy148 34 (by decide) (by decide)).trans ((hFvy97 34 (by decide) (by decide)).trans ((hFvy54 34 (by decide) (by decide)).trans (hFvy19 34 (by decide) (by decide) (by decide) (by decide) (by decide)))))))
          obtain ⟨d32vy226, d33vy226, d35vy226, d36vy226, d2vy226, d37vy226, d38vy226⟩ := id hdvy226
          have h38vy226 : Fvy226 38 = 0 := ((hFvy226 38 (by decide) (by decide) (by decide) (by decide) (by decide)).trans e38vy208)
          refine z_aload_n C 2 dX10_layer1_122 rfl ?_
          refine z_aload_n C 2 dX10_layer1_123 rfl ?_
          have hey227 : Fvy226 32 = Fvy226 32 := rfl
          have hey228 : Fvy226 33 = Fvy226 33 := rfl
          have hey229 : Fvy226 34 = F 34 := ((hFvy226 34 (by decide) (by decide) (by decide) (by decide) (by decide)).trans ((hFvy208 34 (by decide) (by decide)).trans ((hFvy148 34 (by decide) (by decide)).trans ((hFvy97 34 (by decide) (by decide)).trans ((hFvy54 34 (by decide) (by decide)).trans (hFvy19 34 (by decide) (by decide) (by decide) (by decide) (by decide)))))))
          have hey230 : Fvy226 35 = Fvy226 35 := rfl
          have hey231 : Fvy226 36 = Fvy226 36 := rfl
          have hey232 : Fvy226 37 = Fvy226 37 := rfl
          have hey233 : Fvy226 38 = 0 := ((hFvy226 38 (by decide) (by decide) (by decide) (by decide) (by decide)).trans e38vy208)
          have hrdy234 : RD Fvy226 := by unfold RD; omega
          have hey236 : Fvy226 35 = Fvy226 35 := rfl
          have hey237 : Fvy226 37 = Fvy226 37 := rfl
          refine z_cV (As := []) (rest := [.ref (ad i)]) (ci := 12) C (c_X10_isKind l D A cs tt N ad _ i hN _ hcvy226 hrdy234 ) (by omega) hay1 hcvy226 rfl rfl mv_yX10_isKind q_1693 hd_yX10_isKind (by decide) (Nat.le_of_ble_eq_true rfl) (by decide) dX10_layer1_124 rfl (kI0 fun vy235 gvy235 hvy235 => ?_)
          rw [hey236, hey237] at hvy235
          obtain ⟨hrvy235, hqvy235, rfl⟩ := hvy235
          refine z_iconst (z := 1) C dX10_layer1_127 rfl ?_
          have h38vy238 : Fvy226 38 = 0 := ((hFvy226 38 (by decide) (by decide) (by decide) (by decide) (by decide)).trans e38vy208)
          refine z_cV (As := [.int (zI (vy235)), .int (zI (1))]) (rest := []) (ci := 12) C (c_X10_wants l D A cs tt N ad _ i hN _ hcvy226 (by omega) (vy235) (by omega) (1) (by omega)) (by omega) hay1 hcvy226 rfl rfl mv_yX10_wants q_1678 hd_yX10_wants (by decide) (Nat.le_of_ble_eq_true rfl) (by decide) dX10_layer1_128 rfl (kI0 fun vy238 gvy238 hvy238 => ?_)
          obtain ⟨⟨Fvy238, hcvy238, hqvy238, hbvy238, hFvy238⟩, hfvy238⟩ := hvy238
          rcases hqvy238 with ⟨rfl, hxvy238, hyvy238, hzvy238⟩ | ⟨rfl, hxvy238, hyvy238⟩
          · have e38vy238 : Fvy238 38 = 0 := by omega
            refine z_if_ne (tgt := 135) C dX10_layer1_131 (by decide) (by omega) (fun _ => ?_) (fun h => absurd h (by omega))
            refine z_aload_n C 2 dX10_layer1_135 rfl ?_
            refine z_get (v := .ref (ad (i + 23))) C (by omega) hay1 hcvy238 rfl inA_X10 46 (by decide) q_1505 rfl rfl dX10_layer1_136 ?_
            refine z_iload_n C 0 dX10_layer1_139 rfl ?_
            refine z_iconst (z := 0) C dX10_layer1_140 rfl ?_
            refine z_iadd C dX10_layer1_141 ?_
            refine z_aload_n C 2 dX10_layer1_142 rfl ?_
            have hey239 : Fvy238 32 = Fvy226 32 := (hFvy238 32 (by decide) (by decide))
            have hey240 : Fvy238 33 = Fvy226 33 := (hFvy238 33 (by decide) (by decide))
            have hey241 : Fvy238 34 = F 34 := ((hFvy238 34 (by decide) (by decide)).trans ((hFvy226 34 (by decide) (by decide) (by decide) (by decide) (by decide)).trans ((hFvy208 34 (by decide) (by decide)).trans ((hFvy148 34 (by decide) (by decide)).trans ((hFvy97 34 (by decide) (by decide)).trans ((hFvy54 34 (by decide) (by decide)).trans (hFvy19 34 (by decide) (by decide) (by decide) (by decide) (by decide))))))))
            have hey242 : Fvy238 35 = Fvy226 35 := (hFvy238 35 (by decide) (by decide))
            have hey243 : Fvy238 36 = Fvy226 36 := (hFvy238 36 (by decide) (by decide))
            have hey244 : Fvy238 37 = Fvy226 37 := (hFvy238 37 (by decide) (by decide))
            have hey245 : Fvy238 38 = 0 := e38vy238
            have hrdy246 : RD Fvy238 := by unfold RD; omega
            have hey248 : Fvy238 37 = Fvy226 37 := (hFvy238 37 (by decide) (by decide))
            refine z_cV (As := []) (rest := [.int (zI (((kqy212 : Int)) + 0)), .ref (ad (i + 23))]) (ci := 12) C (c_X10_kindHere l D A cs tt N ad _ i hN _ hcvy238 hrdy246 ) (by omega) hay1 hcvy238 rfl rfl mv_yX10_kindHere q_1697 hd_yX10_kindHere (by decide) (Nat.le_of_ble_eq_true rfl) (by decide) dX10_layer1_143 rfl (kI0 fun vy247 gvy247 hvy247 => ?_)
            rw [hey248] at hvy247
            obtain ⟨hrvy247, rfl⟩ := hvy247
            have hgy249 := (hfvy19 (i + 23) (ne_o (i := i) (c := 23) (d := 0) rfl)).trans ha23
            have hgy250 := (hfvy54 (i + 23) (ne_o (i := i) (c := 23) (d := 0) rfl)).trans hgy249
            have hgy251 := (hfvy97 (i + 23) (ne_o (i := i) (c := 23) (d := 0) rfl)).trans hgy250
            have hgy252 := (hfvy148 (i + 23) (ne_o (i := i) (c := 23) (d := 0) rfl)).trans hgy251
            have hgy253 := (hfvy208 (i + 23) (ne_o (i := i) (c := 23) (d := 0) rfl)).trans hgy252
            have hgy254 := (hfvy226 (i + 23) (ne_o (i := i) (c := 23) (d := 0) rfl)).trans hgy253
            have hgy255 := (hfvy238 (i + 23) (ne_o (i := i) (c := 23) (d := 0) rfl)).trans hgy254
            refine z_iast C (by omega) hay10 hgy255 (kqy212) (by omega) (by omega) (by decide) dX10_layer1_146 (fun gy256 egy257 => ?_)
            have hgy258 := up_s egy257
            obtain ⟨ry259, hvy260⟩ : ∃ rZ9 : Nat → Int, rZ9 = uZ ly1 (kqy212) (vy247) := ⟨_, rfl⟩
            rw [← hvy260] at hgy258
            refine z_aload_n C 2 dX10_layer1_147 rfl ?_
            have hgy261 := up_n egy257 hcvy238 (ne_o (i := i) (c := 0) (d := 23) rfl)
            have hey262 : Fvy238 32 = Fvy226 32 := (hFvy238 32 (by decide) (by decide))
            have hey263 : Fvy238 33 = Fvy226 33 := (hFvy238 33 (by decide) (by decide))
            have hey264 : Fvy238 34 = F 34 := ((hFvy238 34 (by decide) (by decide)).trans ((hFvy226 34 (by decide) (by decide) (by decide) (by decide) (by decide)).trans ((hFvy208 34 (by decide) (by decide)).trans ((hFvy148 34 (by decide) (by decide)).trans ((hFvy97 34 (by decide) (by decide)).trans ((hFvy54 34 (by decide) (by decide)).trans (hFvy19 34 (by decide) (by decide) (by decide) (by decide) (by decide))))))))
            have hey265 : Fvy238 35 = Fvy226 35 := (hFvy238 35 (by decide) (by decide))
            have hey266 : Fvy238 36 = Fvy226 36 := (hFvy238 36 (by decide) (by decide))
            have hey267 : Fvy238 37 = Fvy226 37 := (hFvy238 37 (by decide) (by decide))
            have hey268 : Fvy238 38 = 0 := e38vy238
            have hrdy269 : RD Fvy238 := by unfold RD; omega
            have hgy270 := (hfvy226 (i + 13) (ne_o (i := i) (c := 13) (d := 0) rfl)).trans hgy225
            have hgy271 := (hfvy238 (i + 13) (ne_o (i := i) (c := 13) (d := 0) rfl)).trans hgy270
            have hgy272 := up_n egy257 hgy271 (ne_o (i := i) (c := 13) (d := 23) rfl)
            refine z_cV (As := []) (rest := []) (ci := 12) C (c_X10_go l D A cs tt N ad _ i hN _ hgy261 _ hgy272 htp hrdy269) (by omega) hay1 hgy261 rfl rfl mv_yX10_go q_1652 hd_yX10_go (by decide) (Nat.le_of_ble_eq_true rfl) (by decide) dX10_layer1_148 rfl (kV0 fun gvy273 hvy273 => ?_)
            obtain ⟨⟨Fvy273, hcvy273, hdvy273, hlvy273, hsvy273, hFvy273⟩, hfvy273⟩ := hvy273
            have h32vy273 : Fvy238 32 = Fvy226 32 := (hFvy238 32 (by decide) (by decide))
            have h34vy273 : Fvy273 34 = F 34 := (hFvy273 34 (by decide) (by decide) (by decide) (by decide) (by decide)).trans (((hFvy238 34 (by decide) (by decide)).trans ((hFvy226 34 (by decide) (by decide) (by decide) (by decide) (by decide)).trans ((hFvy208 34 (by decide) (by decide)).trans ((hFvy148 34 (by decide) (by decide)).trans ((hFvy97 34 (by decide) (by decide)).trans ((hFvy54 34 (by decide) (by decide)).trans (hFvy19 34 (by decide) (by decide) (by decide) (by decide) (by decide)))))))))
            obtain ⟨d32vy273, d33vy273, d35vy273, d36vy273, d2vy273, d37vy273, d38vy273⟩ := id hdvy273
            have h38vy273 : Fvy273 38 = 0 := ((hFvy273 38 (by decide) (by decide) (by decide) (by decide) (by decide)).trans e38vy238)
            refine z_aload_n C 2 dX10_layer1_151 rfl ?_
            refine z_get (v := .ref (ad (i + 23))) C (by omega) hay1 hcvy273 rfl inA_X10 46 (by decide) q_1505 rfl rfl dX10_layer1_152 ?_
            refine z_iload_n C 0 dX10_layer1_155 rfl ?_
            refine z_iconst (z := 1) C dX10_layer1_156 rfl ?_
            refine z_iadd C dX10_layer1_157 ?_
            refine z_aload_n C 2 dX10_layer1_158 rfl ?_
            refine z_iconst (z := 1) C dX10_layer1_159 rfl ?_
            refine z_bipush (z := 99) C dX10_layer1_160 (by decide) ?_
            have hey274 : Fvy273 32 = Fvy273 32 := rfl
            have hey275 : Fvy273 33 = Fvy273 33 := rfl
            have hey276 : Fvy273 34 = F 34 := ((hFvy273 34 (by decide) (by decide) (by decide) (by decide) (by decide)).trans ((hFvy238 34 (by decide) (by decide)).trans ((hFvy226 34 (by decide) (by decide) (by decide) (by decide) (by decide)).trans ((hFvy208 34 (by decide) (by decide)).trans ((hFvy148 34 (by decide) (by decide)).trans ((hFvy97 34 (by decide) (by decide)).trans ((hFvy54 34 (by decide) (by decide)).trans (hFvy19 34 (by decide) (by decide) (by decide) (by decide) (by decide)))))))))
            have hey277 : Fvy273 35 = Fvy273 35 := rfl
            have hey278 : Fvy273 36 = Fvy273 36 := rfl
            have hey279 : Fvy273 37 = Fvy273 37 := rfl
            have hey280 : Fvy273 38 = 0 := ((hFvy273 38 (by decide) (by decide) (by decide) (by decide) (by decide)).trans e38vy238)
            have hrdy281 : RD Fvy273 := by unfold RD; omega
            have hgy282 := (hfvy273 (i + 13) (ne_o (i := i) (c := 13) (d := 0) rfl)).trans hgy272
            have hey284 : Fvy273 38 = 0 := ((hFvy273 38 (by decide) (by decide) (by decide) (by decide) (by decide)).trans e38vy238)
            have hey285 : Fvy273 35 = Fvy273 35 := rfl
            refine z_cV (As := [.int (zI (1)), .int (zI (99))]) (rest := [.int (zI (((kqy212 : Int)) + 1)), .ref (ad (i + 23))]) (ci := 12) C (c_X10_number l D A cs tt N ad _ i hN _ hcvy273 _ hgy282 htp hrdy281 (1) (by omega) (99) (by omega)) (by omega) hay1 hcvy273 rfl rfl mv_yX10_number q_1682 hd_yX10_number (by decide) (Nat.le_of_ble_eq_true rfl) (by decide) dX10_layer1_162 rfl (kI0 fun vy283 gvy283 hvy283 => ?_)
            obtain ⟨hrvy283, ⟨Fvy283, hcvy283, hdvy283, hlvy283, hsvy283, hFvy283⟩, hfvy283⟩ := hvy283
            have h32vy283 : Fvy273 32 = Fvy273 32 := rfl
            have h34vy283 : Fvy283 34 = F 34 := (hFvy283 34 (by decide) (by decide) (by decide) (by decide) (by decide) (by decide) (by decide)).trans (((hFvy273 34 (by decide) (by decide) (by decide) (by decide) (by decide)).trans ((hFvy238 34 (by decide) (by decide)).trans ((hFvy226 34 (by decide) (by decide) (by decide) (by decide) (by decide)).trans ((hFvy208 34 (by decide) (by decide)).trans ((hFvy148 34 (by decide) (by decide)).trans ((hFvy97 34 (by decide) (by decide)).trans ((hFvy54 34 (by decide) (by decide)).trans (hFvy19 34 (by decide) (by decide) (by decide) (by decide) (by decide))))))))))
            obtain ⟨d32vy283, d33vy283, d35vy283, d36vy283, d2vy283, d37vy283, d38vy283⟩ := id hdvy283
            rcases (show Fvy283 38 = 0 ∨ Fvy283 38 ≠ 0 by omega) with hxvy283 | hxvy283
            · have hgy286 := (hfvy273 (i + 23) (ne_o (i := i) (c := 23) (d := 0) rfl)).trans hgy258
              have hgy287 := (hfvy283 (i + 23) (ne_o (i := i) (c := 23) (d := 0) rfl)).trans hgy286
              refine z_iast C (by omega) hay10 hgy287 (kqy212 + 1) (by omega) (by omega) (by decide) dX10_layer1_165 (fun gy288 egy289 => ?_)
              have hgy290 := up_s egy289
              obtain ⟨ry291, hvy292⟩ : ∃ rZ9 : Nat → Int, rZ9 = uZ ry259 (kqy212 + 1) (vy283) := ⟨_, rfl⟩
              rw [← hvy292] at hgy290
              refine z_aload_n C 2 dX10_layer1_166 rfl ?_
              have hgy293 := up_n egy289 hcvy283 (ne_o (i := i) (c := 0) (d := 23) rfl)
              refine z_get (v := .int (zI (0))) C (by omega) hay1 hgy293 rfl inA_X10 38 (by decide) q_1497 rfl (fv (F := Fvy283) (f := 38) hxvy283) dX10_layer1_167 ?_
              refine z_if_ne (tgt := 188) C dX10_layer1_170 (by decide) (by omega) (fun h => absurd h (by omega)) (fun _ => ?_)
              refine z_aload_n C 2 dX10_layer1_173 rfl ?_
              refine z_get (v := .ref (ad (i + 23))) C (by omega) hay1 hgy293 rfl inA_X10 46 (by decide) q_1505 rfl rfl dX10_layer1_174 ?_
              refine z_iload_n C 0 dX10_layer1_177 rfl ?_
              refine z_iconst (z := 2) C dX10_layer1_178 rfl ?_
              refine z_iadd C dX10_layer1_179 ?_
              refine z_aload_n C 2 dX10_layer1_180 rfl ?_
              refine z_iconst (z := 0) C dX10_layer1_181 rfl ?_
              refine z_bipush (z := 99) C dX10_layer1_182 (by decide) ?_
              have hey294 : Fvy283 32 = Fvy283 32 := rfl
              have hey295 : Fvy283 33 = Fvy283 33 := rfl
              have hey296 : Fvy283 34 = F 34 := ((hFvy283 34 (by decide) (by decide) (by decide) (by decide) (by decide) (by decide) (by decide)).trans ((hFvy273 34 (by decide) (by decide) (by decide) (by decide) (by decide)).trans ((hFvy238 34 (by decide) (by decide)).trans ((hFvy226 34 (by decide) (by decide) (by decide) (by decide) (by decide)).trans ((hFvy208 34 (by decide) (by decide)).trans ((hFvy148 34 (by decide) (by decide)).trans ((hFvy97 34 (by decide) (by decide)).trans ((hFvy54 34 (by decide) (by decide)).trans (hFvy19 34 (by decide) (by decide) (by decide) (by decide) (by decide))))))))))
              have hey297 : Fvy283 35 = Fvy283 35 := rfl
              have hey298 : Fvy283 36 = Fvy283 36 := rfl
              have hey299 : Fvy283 37 = Fvy283 37 := rfl
              have hey300 : Fvy283 38 = 0 := hxvy283
              have hrdy301 : RD Fvy283 := by unfold RD; omega
              have hgy302 := (hfvy283 (i + 13) (ne_o (i := i) (c := 13) (d := 0) rfl)).trans hgy282
              have hgy303 := up_n egy289 hgy302 (ne_o (i := i) (c := 13) (d := 23) rfl)
              have hey305 : Fvy283 38 = 0 := hxvy283
              have hey306 : Fvy283 35 = Fvy283 35 := rfl
              refine z_cV (As := [.int (zI (0)), .int (zI (99))]) (rest := [.int (zI (((kqy212 : Int)) + 2)), .ref (ad (i + 23))]) (ci := 12) C (c_X10_number l D A cs tt N ad _ i hN _ hgy293 _ hgy303 htp hrdy301 (0) (by omega) (99) (by omega)) (by omega) hay1 hgy293 rfl rfl mv_yX10_number q_1682 hd_yX10_number (by decide) (Nat.le_of_ble_eq_true rfl) (by decide) dX10_layer1_184 rfl (kI0 fun vy304 gvy304 hvy304 => ?_)
              obtain ⟨hrvy304, ⟨Fvy304, hcvy304, hdvy304, hlvy304, hsvy304, hFvy304⟩, hfvy304⟩ := hvy304
              have h32vy304 : Fvy283 32 = Fvy283 32 := rfl
              have h34vy304 : Fvy304 34 = F 34 := (hFvy304 34 (by decide) (by decide) (by decide) (by decide) (by decide) (by decide) (by decide)).trans (((hFvy283 34 (by decide) (by decide) (by decide) (by decide) (by decide) (by decide) (by decide)).trans ((hFvy273 34 (by decide) (by decide) (by decide) (by decide) (by decide)).trans ((hFvy238 34 (by decide) (by decide)).trans ((hFvy226 34 (by decide) (by decide) (by decide) (by decide) (by decide)).trans ((hFvy208 34 (by decide) (by decide)).trans ((hFvy148 34 (by decide) (by decide)).trans ((hFvy97 34 (by decide) (by decide)).trans ((hFvy54 34 (by decide) (by decide)).trans (hFvy19 34 (by decide) (by decide) (by decide) (by decide) (by decide)))))))))))
              obtain ⟨d32vy304, d33vy304, d35vy304, d36vy304, d2vy304, d37vy304, d38vy304⟩ := id hdvy304
              rcases (show Fvy304 38 = 0 ∨ Fvy304 38 ≠ 0 by omega) with hxvy304 | hxvy304
              · have hgy307 := (hfvy304 (i + 23) (ne_o (i := i) (c := 23) (d := 0) rfl)).trans hgy290
                refine z_iast C (by omega) hay10 hgy307 (kqy212 + 2) (by omega) (by omega) (by decide) dX10_layer1_187 (fun gy308 egy309 => ?_)
                have hgy310 := up_s egy309
                obtain ⟨ry311, hvy312⟩ : ∃ rZ9 : Nat → Int, rZ9 = uZ ry291 (kqy212 + 2) (vy304) := ⟨_, rfl⟩
                rw [← hvy312] at hgy310
                refine z_aload_n C 2 dX10_layer1_188 rfl ?_
                have hgy313 := up_n egy309 hcvy304 (ne_o (i := i) (c := 0) (d := 23) rfl)
                refine z_get (v := .int (zI (0))) C (by omega) hay1 hgy313 rfl inA_X10 38 (by decide) q_1497 rfl (fv (F := Fvy304) (f := 38) hxvy304) dX10_layer1_189 ?_
                refine z_if_ne (tgt := 272) C dX10_layer1_192 (by decide) (by omega) (fun h => absurd h (by omega)) (fun _ => ?_)
                refine z_aload_n C 2 dX10_layer1_195 rfl ?_
                refine z_aload_n C 2 dX10_layer1_196 rfl ?_
                refine z_get (v := .int (zI (Fvy304 35))) C (by omega) hay1 hgy313 rfl inA_X10 35 (by decide) q_1494 rfl (fv (F := Fvy304) (f := 35) rfl) dX10_layer1_197 ?_
                refine z_iconst (z := 2) C dX10_layer1_200 rfl ?_
                refine z_icmp_ne (tgt := 208) C dX10_layer1_201 (by decide) (by omega) (by omega) (fun hby314 => ?_) (fun hby314 => ?_)
                · refine z_iconst (z := 0) C dX10_layer1_208 rfl ?_
                  refine z_iconst (z := 1) C dX10_layer1_209 rfl ?_
                  have h38vy315 : Fvy304 38 = 0 := hxvy304
                  refine z_cV (As := [.int (zI (0)), .int (zI (1))]) (rest := []) (ci := 12) C (c_X10_wants l D A cs tt N ad _ i hN _ hgy313 (by omega) (0) (by omega) (1) (by omega)) (by omega) hay1 hgy313 rfl rfl mv_yX10_wants q_1678 hd_yX10_wants (by decide) (Nat.le_of_ble_eq_true rfl) (by decide) dX10_layer1_210 rfl (kI0 fun vy315 gvy315 hvy315 => ?_)
                  obtain ⟨⟨Fvy315, hcvy315, hqvy315, hbvy315, hFvy315⟩, hfvy315⟩ := hvy315
                  obtain rfl : vy315 = 0 := by omega
                  refine z_if_eq (tgt := 272) C dX10_layer1_213 (by decide) (by omega) (fun _ => ?_) (fun h => absurd h (by omega))
                  have hFy316 : ∀ f, f ≠ 24 → f ≠ 32 → f ≠ 33 → f ≠ 35 → f ≠ 36 → f ≠ 37 → f ≠ 38 → f ≠ 47 → f ≠ 48 → f ≠ 49 → Fvy315 f = F f := fun f n24 n32 n33 n35 n36 n37 n38 n47 n48 n49 => ((hFvy315 f n24 n38).trans ((hFvy304 f n24 n32 n33 n35 n36 n37 n38).trans ((hFvy283 f n24 n32 n33 n35 n36 n37 n38).trans ((hFvy273 f n32 n33 n35 n36 n37).trans ((hFvy238 f n24 n38).trans ((hFvy226 f n32 n33 n35 n36 n37).trans ((hFvy208 f n24 n38).trans ((hFvy148 f n24 n38).trans ((hFvy97 f n24 n38).trans ((hFvy54 f n24 n38).trans (hFvy19 f n32 n33 n35 n36 n37)))))))))))
                  have hey317 : Fvy315 32 = Fvy304 32 := (hFvy315 32 (by decide) (by decide))
                  have hey318 : Fvy315 33 = Fvy304 33 := (hFvy315 33 (by decide) (by decide))
                  have hey319 : Fvy315 34 = F 34 := ((hFvy315 34 (by decide) (by decide)).trans ((hFvy304 34 (by decide) (by decide) (by decide) (by decide) (by decide) (by decide) (by decide)).trans ((hFvy283 34 (by decide) (by decide) (by decide) (by decide) (by decide) (by decide) (by decide)).trans ((hFvy273 34 (by decide) (by decide) (by decide) (by decide) (by decide)).trans ((hFvy238 34 (by decide) (by decide)).trans ((hFvy226 34 (by decide) (by decide) (by decide) (by decide) (by decide)).trans ((hFvy208 34 (by decide) (by decide)).trans ((hFvy148 34 (by decide) (by decide)).trans ((hFvy97 34 (by decide) (by decide)).trans ((hFvy54 34 (by decide) (by decide)).trans (hFvy19 34 (by decide) (by decide) (by decide) (by decide) (by decide))))))))))))
                  have hey320 : Fvy315 35 = Fvy304 35 := (hFvy315 35 (by decide) (by decide))
                  have hey321 : Fvy315 36 = Fvy304 36 := (hFvy315 36 (by decide) (by decide))
                  have hey322 : Fvy315 37 = Fvy304 37 := (hFvy315 37 (by decide) (by decide))
                  have hey323 : Fvy315 38 = Fvy315 38 := rfl
                  have hrdy324 : RD Fvy315 := by unfold RD; omega
                  have hey325 : Fvy315 32 = Fvy304 32 := (hFvy315 32 (by decide) (by decide))
                  have hey326 : Fvy315 47 = F 47 := ((hFvy315 47 (by decide) (by decide)).trans ((hFvy304 47 (by decide) (by decide) (by decide) (by decide) (by decide) (by decide) (by decide)).trans ((hFvy283 47 (by decide) (by decide) (by decide) (by decide) (by decide) (by decide) (by decide)).trans ((hFvy273 47 (by decide) (by decide) (by decide) (by decide) (by decide)).trans ((hFvy238 47 (by decide) (by decide)).trans ((hFvy226 47 (by decide) (by decide) (by decide) (by decide) (by decide)).trans ((hFvy208 47 (by decide) (by decide)).trans ((hFvy148 47 (by decide) (by decide)).trans ((hFvy97 47 (by decide) (by decide)).trans ((hFvy54 47 (by decide) (by decide)).trans (hFvy19 47 (by decide) (by decide) (by decide) (by decide) (by decide))))))))))))
                  have hey327 : Fvy315 48 = F 48 := ((hFvy315 48 (by decide) (by decide)).trans ((hFvy304 48 (by decide) (by decide) (by decide) (by decide) (by decide) (by decide) (by decide)).trans ((hFvy283 48 (by decide) (by decide) (by decide) (by decide) (by decide) (by decide) (by decide)).trans ((hFvy273 48 (by decide) (by decide) (by decide) (by decide) (by decide)).trans ((hFvy238 48 (by decide) (by decide)).trans ((hFvy226 48 (by decide) (by decide) (by decide) (by decide) (by decide)).trans ((hFvy208 48 (by decide) (by decide)).trans ((hFvy148 48 (by decide) (by decide)).trans ((hFvy97 48 (by decide) (by decide)).trans ((hFvy54 48 (by decide) (by decide)).trans (hFvy19 48 (by decide) (by decide) (by decide) (by decide) (by decide))))))))))))
                  have hey328 : Fvy315 49 = F 49 := ((hFvy315 49 (by decide) (by decide)).trans ((hFvy304 49 (by decide) (by decide) (by decide) (by decide) (by decide) (by decide) (by decide)).trans ((hFvy283 49 (by decide) (by decide) (by decide) (by decide) (by decide) (by decide) (by decide)).trans ((hFvy273 49 (by decide) (by decide) (by decide) (by decide) (by decide)).trans ((hFvy238 49 (by decide) (by decide)).trans ((hFvy226 49 (by decide) (by decide) (by decide) (by decide) (by decide)).trans ((hFvy208 49 (by decide) (by decide)).trans ((hFvy148 49 (by decide) (by decide)).trans ((hFvy97 49 (by decide) (by decide)).trans ((hFvy54 49 (by decide) (by decide)).trans (hFvy19 49 (by decide) (by decide) (by decide) (by decide) (by decide))))))))))))
                  have hfry331 : ∀ j, j ≠ kqy212 + 2 → j ≠ kqy212 + 1 → j ≠ kqy212 → ry311 j = ly1 j := fun j n0 n1 n2 => (congrFun hvy312 _).trans ((uZ_n _ _ n0).trans ((congrFun hvy292 _).trans ((uZ_n _ _ n1).trans ((congrFun hvy260 _).trans ((uZ_n _ _ n2).trans (rfl))))))
                  have hlay330 : ∀ s l : Nat, (s : Int) < Fvy315 47 → (l : Int) < mn1 s → lyT ry311 (84 * s + 7 * l) := by
                    intro s l a1 a2
                    have hm9 := hmn1 s (by omega)
                    exact (hly1 s l (by omega) a2).ext (fun j b1 b2 => hfry331 j (by omega) (by omega) (by omega))
                  have hgy332 := (hfvy19 (i + 16) (ne_o (i := i) (c := 16) (d := 0) rfl)).trans ha16
                  have hgy333 := (hfvy54 (i + 16) (ne_o (i := i) (c := 16) (d := 0) rfl)).trans hgy332
                  have hgy334 := (hfvy97 (i + 16) (ne_o (i := i) (c := 16) (d := 0) rfl)).trans hgy333
                  have hgy335 := (hfvy148 (i + 16) (ne_o (i := i) (c := 16) (d := 0) rfl)).trans hgy334
                  have hgy336 := (hfvy208 (i + 16) (ne_o (i := i) (c := 16) (d := 0) rfl)).trans hgy335
                  have hgy337 := (hfvy226 (i + 16) (ne_o (i := i) (c := 16) (d := 0) rfl)).trans hgy336
                  have hgy338 := (hfvy238 (i + 16) (ne_o (i := i) (c := 16) (d := 0) rfl)).trans hgy337
                  have hgy339 := up_n egy257 hgy338 (ne_o (i := i) (c := 16) (d := 23) rfl)
                  have hgy340 := (hfvy273 (i + 16) (ne_o (i := i) (c := 16) (d := 0) rfl)).trans hgy339
                  have hgy341 := (hfvy283 (i + 16) (ne_o (i := i) (c := 16) (d := 0) rfl)).trans hgy340
                  have hgy342 := up_n egy289 hgy341 (ne_o (i := i) (c := 16) (d := 23) rfl)
                  have hgy343 := (hfvy304 (i + 16) (ne_o (i := i) (c := 16) (d := 0) rfl)).trans hgy342
                  have hgy344 := up_n egy309 hgy343 (ne_o (i := i) (c := 16) (d := 23) rfl)
                  have hgy345 := (hfvy315 (i + 16) (ne_o (i := i) (c := 16) (d := 0) rfl)).trans hgy344
                  have hgy346 := (hfvy19 (i + 17) (ne_o (i := i) (c := 17) (d := 0) rfl)).trans ha17
                  have hgy347 := (hfvy54 (i + 17) (ne_o (i := i) (c := 17) (d := 0) rfl)).trans hgy346
                  have hgy348 := (hfvy97 (i + 17) (ne_o (i := i) (c := 17) (d := 0) rfl)).trans hgy347
                  have hgy349 := (hfvy148 (i + 17) (ne_o (i := i) (c := 17) (d := 0) rfl)).trans hgy348
                  have hgy350 := (hfvy208 (i + 17) (ne_o (i := i) (c := 17) (d := 0) rfl)).trans hgy349
                  have hgy351 := (hfvy226 (i + 17) (ne_o (i := i) (c := 17) (d := 0) rfl)).trans hgy350
                  have hgy352 := (hfvy238 (i + 17) (ne_o (i := i) (c := 17) (d := 0) rfl)).trans hgy351
                  have hgy353 := up_n egy257 hgy352 (ne_o (i := i) (c := 17) (d := 23) rfl)
                  have hgy354 := (hfvy273 (i + 17) (ne_o (i := i) (c := 17) (d := 0) rfl)).trans hgy353
                  have hgy355 := (hfvy283 (i + 17) (ne_o (i := i) (c := 17) (d := 0) rfl)).trans hgy354
                  have hgy356 := up_n egy289 hgy355 (ne_o (i := i) (c := 17) (d := 23) rfl)
                  have hgy357 := (hfvy304 (i + 17) (ne_o (i := i) (c := 17) (d := 0) rfl)).trans hgy356
                  have hgy358 := up_n egy309 hgy357 (ne_o (i := i) (c := 17) (d := 23) rfl)
                  have hgy359 := (hfvy315 (i + 17) (ne_o (i := i) (c := 17) (d := 0) rfl)).trans hgy358
                  have hgy360 := (hfvy226 (i + 18) (ne_o (i := i) (c := 18) (d := 0) rfl)).trans hgy210
                  have hgy361 := (hfvy238 (i + 18) (ne_o (i := i) (c := 18) (d := 0) rfl)).trans hgy360
                  have hgy362 := up_n egy257 hgy361 (ne_o (i := i) (c := 18) (d := 23) rfl)
                  have hgy363 := (hfvy273 (i + 18) (ne_o (i := i) (c := 18) (d := 0) rfl)).trans hgy362
                  have hgy364 := (hfvy283 (i + 18) (ne_o (i := i) (c := 18) (d := 0) rfl)).trans hgy363
                  have hgy365 := up_n egy289 hgy364 (ne_o (i := i) (c := 18) (d := 23) rfl)
                  have hgy366 := (hfvy304 (i + 18) (ne_o (i := i) (c := 18) (d := 0) rfl)).trans hgy365
                  have hgy367 := up_n egy309 hgy366 (ne_o (i := i) (c := 18) (d := 23) rfl)
                  have hgy368 := (hfvy315 (i + 18) (ne_o (i := i) (c := 18) (d := 0) rfl)).trans hgy367
                  have hgy369 := (hfvy19 (i + 19) (ne_o (i := i) (c := 19) (d := 0) rfl)).trans ha19
                  have hgy370 := (hfvy54 (i + 19) (ne_o (i := i) (c := 19) (d := 0) rfl)).trans hgy369
                  have hgy371 := (hfvy97 (i + 19) (ne_o (i := i) (c := 19) (d := 0) rfl)).trans hgy370
                  have hgy372 := (hfvy148 (i + 19) (ne_o (i := i) (c := 19) (d := 0) rfl)).trans hgy371
                  have hgy373 := (hfvy208 (i + 19) (ne_o (i := i) (c := 19) (d := 0) rfl)).trans hgy372
                  have hgy374 := (hfvy226 (i + 19) (ne_o (i := i) (c := 19) (d := 0) rfl)).trans hgy373
                  have hgy375 := (hfvy238 (i + 19) (ne_o (i := i) (c := 19) (d := 0) rfl)).trans hgy374
                  have hgy376 := up_n egy257 hgy375 (ne_o (i := i) (c := 19) (d := 23) rfl)
                  have hgy377 := (hfvy273 (i + 19) (ne_o (i := i) (c := 19) (d := 0) rfl)).trans hgy376
                  have hgy378 := (hfvy283 (i + 19) (ne_o (i := i) (c := 19) (d := 0) rfl)).trans hgy377
                  have hgy379 := up_n egy289 hgy378 (ne_o (i := i) (c := 19) (d := 23) rfl)
                  have hgy380 := (hfvy304 (i + 19) (ne_o (i := i) (c := 19) (d := 0) rfl)).trans hgy379
                  have hgy381 := up_n egy309 hgy380 (ne_o (i := i) (c := 19) (d := 23) rfl)
                  have hgy382 := (hfvy315 (i + 19) (ne_o (i := i) (c := 19) (d := 0) rfl)).trans hgy381
                  have hgy383 := (hfvy19 (i + 20) (ne_o (i := i) (c := 20) (d := 0) rfl)).trans ha20
                  have hgy384 := (hfvy54 (i + 20) (ne_o (i := i) (c := 20) (d := 0) rfl)).trans hgy383
                  have hgy385 := (hfvy97 (i + 20) (ne_o (i := i) (c := 20) (d := 0) rfl)).trans hgy384
                  have hgy386 := (hfvy148 (i + 20) (ne_o (i := i) (c := 20) (d := 0) rfl)).trans hgy385
                  have hgy387 := (hfvy208 (i + 20) (ne_o (i := i) (c := 20) (d := 0) rfl)).trans hgy386
                  have hgy388 := (hfvy226 (i + 20) (ne_o (i := i) (c := 20) (d := 0) rfl)).trans hgy387
                  have hgy389 := (hfvy238 (i + 20) (ne_o (i := i) (c := 20) (d := 0) rfl)).trans hgy388
                  have hgy390 := up_n egy257 hgy389 (ne_o (i := i) (c := 20) (d := 23) rfl)
                  have hgy391 := (hfvy273 (i + 20) (ne_o (i := i) (c := 20) (d := 0) rfl)).trans hgy390
                  have hgy392 := (hfvy283 (i + 20) (ne_o (i := i) (c := 20) (d := 0) rfl)).trans hgy391
                  have hgy393 := up_n egy289 hgy392 (ne_o (i := i) (c := 20) (d := 23) rfl)
                  have hgy394 := (hfvy304 (i + 20) (ne_o (i := i) (c := 20) (d := 0) rfl)).trans hgy393
                  have hgy395 := up_n egy309 hgy394 (ne_o (i := i) (c := 20) (d := 23) rfl)
                  have hgy396 := (hfvy315 (i + 20) (ne_o (i := i) (c := 20) (d := 0) rfl)).trans hgy395
                  have hgy397 := (hfvy19 (i + 21) (ne_o (i := i) (c := 21) (d := 0) rfl)).trans ha21
                  have hgy398 := (hfvy54 (i + 21) (ne_o (i := i) (c := 21) (d := 0) rfl)).trans hgy397
                  have hgy399 := (hfvy97 (i + 21) (ne_o (i := i) (c := 21) (d := 0) rfl)).trans hgy398
                  have hgy400 := (hfvy148 (i + 21) (ne_o (i := i) (c := 21) (d := 0) rfl)).trans hgy399
                  have hgy401 := (hfvy208 (i + 21) (ne_o (i := i) (c := 21) (d := 0) rfl)).trans hgy400
                  have hgy402 := (hfvy226 (i + 21) (ne_o (i := i) (c := 21) (d := 0) rfl)).trans hgy401
                  have hgy403 := (hfvy238 (i + 21) (ne_o (i := i) (c := 21) (d := 0) rfl)).trans hgy402
                  have hgy404 := up_n egy257 hgy403 (ne_o (i := i) (c := 21) (d := 23) rfl)
                  have hgy405 := (hfvy273 (i + 21) (ne_o (i := i) (c := 21) (d := 0) rfl)).trans hgy404
                  have hgy406 := (hfvy283 (i + 21) (ne_o (i := i) (c := 21) (d := 0) rfl)).trans hgy405
                  have hgy407 := up_n egy289 hgy406 (ne_o (i := i) (c := 21) (d := 23) rfl)
                  have hgy408 := (hfvy304 (i + 21) (ne_o (i := i) (c := 21) (d := 0) rfl)).trans hgy407
                  have hgy409 := up_n egy309 hgy408 (ne_o (i := i) (c := 21) (d := 23) rfl)
                  have hgy410 := (hfvy315 (i + 21) (ne_o (i := i) (c := 21) (d := 0) rfl)).trans hgy409
                  have hgy411 := (hfvy19 (i + 22) (ne_o (i := i) (c := 22) (d := 0) rfl)).trans ha22
                  have hgy412 := (hfvy54 (i + 22) (ne_o (i := i) (c := 22) (d := 0) rfl)).trans hgy411
                  have hgy413 := (hfvy97 (i + 22) (ne_o (i := i) (c := 22) (d := 0) rfl)).trans hgy412
                  have hgy414 := (hfvy148 (i + 22) (ne_o (i := i) (c := 22) (d := 0) rfl)).trans hgy413
                  have hgy415 := (hfvy208 (i + 22) (ne_o (i := i) (c := 22) (d := 0) rfl)).trans hgy414
                  have hgy416 := (hfvy226 (i + 22) (ne_o (i := i) (c := 22) (d := 0) rfl)).trans hgy415
                  have hgy417 := (hfvy238 (i + 22) (ne_o (i := i) (c := 22) (d := 0) rfl)).trans hgy416
                  have hgy418 := up_n egy257 hgy417 (ne_o (i := i) (c := 22) (d := 23) rfl)
                  have hgy419 := (hfvy273 (i + 22) (ne_o (i := i) (c := 22) (d := 0) rfl)).trans hgy418
                  have hgy420 := (hfvy283 (i + 22) (ne_o (i := i) (c := 22) (d := 0) rfl)).trans hgy419
                  have hgy421 := up_n egy289 hgy420 (ne_o (i := i) (c := 22) (d := 23) rfl)
                  have hgy422 := (hfvy304 (i + 22) (ne_o (i := i) (c := 22) (d := 0) rfl)).trans hgy421
                  have hgy423 := up_n egy309 hgy422 (ne_o (i := i) (c := 22) (d := 23) rfl)
                  have hgy424 := (hfvy315 (i + 22) (ne_o (i := i) (c := 22) (d := 0) rfl)).trans hgy423
                  have hgy425 := (hfvy315 (i + 23) (ne_o (i := i) (c := 23) (d := 0) rfl)).trans hgy310
                  have htxy426 : okTx cs gvy315 i Fvy315 := ⟨_, _, _, _, _, _, _, _, ⟨hgy345, hgy359, hgy368, hgy382, hgy396, hgy410, hgy424, hgy425⟩, ⟨⟨by omega, by omega, by omega⟩, hop1, hmn1, hai1, hfa1, htb1, hlay330⟩⟩
                  exact z_vret C hr hlk dX10_layer1_272 (by decide) (by decide) ⟨rfl, rfl, rfl, ⟨_, hcvy315, hrdy324, by omega, by omega, hFy316, htxy426⟩, fun j j1 j2 => by rw [hfvy315 _ (by omega)]; rw [egy309, va_up_ne _ _ (by omega)]; rw [hfvy304 _ (by omega)]; rw [egy289, va_up_ne _ _ (by omega)]; rw [hfvy283 _ (by omega)]; rw [hfvy273 _ (by omega)]; rw [egy257, va_up_ne _ _ (by omega)]; rw [hfvy238 _ (by omega)]; rw [hfvy226 _ (by omega)]; rw [hfvy208 _ (by omega)]; rw [hfvy148 _ (by omega)]; rw [hfvy97 _ (by omega)]; rw [hfvy54 _ (by omega)]; rw [hfvy19 _ (by omega)]⟩
                · refine z_iconst (z := 1) C dX10_layer1_204 rfl ?_
                  refine z_goto (tgt := 209) C dX10_layer1_205 (by decide) ?_
                  refine z_iconst (z := 1) C dX10_layer1_209 rfl ?_
                  have h38vy427 : Fvy304 38 = 0 := hxvy304
                  refine z_cV (As := [.int (zI (1)), .int (zI (1))]) (rest := []) (ci := 12) C (c_X10_wants l D A cs tt N ad _ i hN _ hgy313 (by omega) (1) (by omega) (1) (by omega)) (by omega) hay1 hgy313 rfl rfl mv_yX10_wants q_1678 hd_yX10_wants (by decide) (Nat.le_of_ble_eq_true rfl) (by decide) dX10_layer1_210 rfl (kI0 fun vy427 gvy427 hvy427 => ?_)
                  obtain ⟨⟨Fvy427, hcvy427, hqvy427, hbvy427, hFvy427⟩, hfvy427⟩ := hvy427
                  obtain rfl : vy427 = 1 := by omega
                  have e38vy427 : Fvy427 38 = 0 := by omega
                  refine z_if_eq (tgt := 272) C dX10_layer1_213 (by decide) (by omega) (fun h => absurd h (by omega)) (fun _ => ?_)
                  refine z_aload_n C 2 dX10_layer1_216 rfl ?_
                  refine z_aload_n C 2 dX10_layer1_217 rfl ?_
                  refine z_get (v := .int (zI (Fvy304 36))) C (by omega) hay1 hcvy427 rfl inA_X10 36 (by decide) q_1495 rfl (fv (F := Fvy427) (f := 36) (hFvy427 36 (by decide) (by decide))) dX10_layer1_218 ?_
                  refine z_iconst (z := 1) C dX10_layer1_221 rfl ?_
                  refine z_sipush (z := 999) C dX10_layer1_222 (by decide) ?_
                  refine z_cS (As := [.int (zI (Fvy304 36)), .int (zI (1)), .int (zI (999))]) (rest := [.ref (ad i)]) C (c_X10_within l D A cs tt N ad _ (Fvy304 36) (by omega) (1) (by omega) (999) (by omega)) ms_yX10_within q_1686 hd_yX10_within (by decide) (Nat.le_of_ble_eq_true rfl) (by decide) dX10_layer1_225 rfl (kI0 fun vy428 gvy428 hvy428 => ?_)
                  obtain ⟨hvy428, rfl⟩ := hvy428
                  refine z_iconst (z := 2) C dX10_layer1_228 rfl ?_
                  have h38vy429 : Fvy427 38 = 0 := e38vy427
                  refine z_cV (As := [.int (zI (vy428)), .int (zI (2))]) (rest := []) (ci := 12) C (c_X10_wants l D A cs tt N ad _ i hN _ hcvy427 (by omega) (vy428) (by omega) (2) (by omega)) (by omega) hay1 hcvy427 rfl rfl mv_yX10_wants q_1678 hd_yX10_wants (by decide) (Nat.le_of_ble_eq_true rfl) (by decide) dX10_layer1_229 rfl (kI0 fun vy429 gvy429 hvy429 => ?_)
                  obtain ⟨⟨Fvy429, hcvy429, hqvy429, hbvy429, hFvy429⟩, hfvy429⟩ := hvy429
                  rcases hqvy429 with ⟨rfl, hxvy429, hyvy429, hzvy429⟩ | ⟨rfl, hxvy429, hyvy429⟩
                  · have e38vy429 : Fvy429 38 = 0 := by omega
                    refine z_if_eq (tgt := 272) C dX10_layer1_232 (by decide) (by omega) (fun h => absurd h (by omega)) (fun _ => ?_)
                    refine z_aload_n C 2 dX10_layer1_235 rfl ?_
                    refine z_aload_n C 2 dX10_layer1_236 rfl ?_
                    refine z_get (v := .int (zI (Fvy304 36))) C (by omega) hay1 hcvy429 rfl inA_X10 36 (by decide) q_1495 rfl (fv (F := Fvy429) (f := 36) ((hFvy429 36 (by decide) (by decide)).trans (hFvy427 36 (by decide) (by decide)))) dX10_layer1_237 ?_
                    refine z_aload_n C 2 dX10_layer1_240 rfl ?_
                    refine z_get (v := .ref (ad (i + 23))) C (by omega) hay1 hcvy429 rfl inA_X10 46 (by decide) q_1505 rfl rfl dX10_layer1_241 ?_
                    refine z_iload_n C 0 dX10_layer1_244 rfl ?_
                    refine z_iconst (z := 1) C dX10_layer1_245 rfl ?_
                    refine z_iadd C dX10_layer1_246 ?_
                    have hgy430 := (hfvy427 (i + 23) (ne_o (i := i) (c := 23) (d := 0) rfl)).trans hgy310
                    have hgy431 := (hfvy429 (i + 23) (ne_o (i := i) (c := 23) (d := 0) rfl)).trans hgy430
                    refine z_iald C (by omega) hay10 hgy431 (kqy212 + 1) (by omega) (by omega) (by decide) dX10_layer1_247 ?_
                    rw [show ry311 (kqy212 + 1) = vy283 from (congrFun hvy312 _).trans ((uZ_n _ _ (by omega)).trans ((congrFun hvy292 _).trans (uZ_s _ _ _)))]
                    refine z_aload_n C 2 dX10_layer1_248 rfl ?_
                    refine z_get (v := .ref (ad (i + 23))) C (by omega) hay1 hcvy429 rfl inA_X10 46 (by decide) q_1505 rfl rfl dX10_layer1_249 ?_
                    refine z_iload_n C 0 dX10_layer1_252 rfl ?_
                    refine z_iconst (z := 2) C dX10_layer1_253 rfl ?_
                    refine z_iadd C dX10_layer1_254 ?_
                    refine z_iald C (by omega) hay10 hgy431 (kqy212 + 2) (by omega) (by omega) (by decide) dX10_layer1_255 ?_
                    rw [show ry311 (kqy212 + 2) = vy304 from (congrFun hvy312 _).trans (uZ_s _ _ _)]
                    refine z_iadd C dX10_layer1_256 ?_
                    refine z_icmp_lt (tgt := 264) C dX10_layer1_257 (by decide) (by omega) (by omega) (fun hby432 => ?_) (fun hby432 => ?_)
                    · refine z_iconst (z := 0) C dX10_layer1_264 rfl ?_
                      refine z_iconst (z := 5) C dX10_layer1_265 rfl ?_
                      have h38vy433 : Fvy429 38 = 0 := e38vy429
                      refine z_cV (As := [.int (zI (0)), .int (zI (5))]) (rest := []) (ci := 12) C (c_X10_wants l D A cs tt N ad _ i hN _ hcvy429 (by omega) (0) (by omega) (5) (by omega)) (by omega) hay1 hcvy429 rfl rfl mv_yX10_wants q_1678 hd_yX10_wants (by decide) (Nat.le_of_ble_eq_true rfl) (by decide) dX10_layer1_266 rfl (kI0 fun vy433 gvy433 hvy433 => ?_)
                      obtain ⟨⟨Fvy433, hcvy433, hqvy433, hbvy433, hFvy433⟩, hfvy433⟩ := hvy433
                      obtain rfl : vy433 = 0 := by omega
                      refine z_if_ne (tgt := 273) C dX10_layer1_269 (by decide) (by omega) (fun h => absurd h (by omega)) (fun _ => ?_)
                      have hFy434 : ∀ f, f ≠ 24 → f ≠ 32 → f ≠ 33 → f ≠ 35 → f ≠ 36 → f ≠ 37 → f ≠ 38 → f ≠ 47 → f ≠ 48 → f ≠ 49 → Fvy433 f = F f := fun f n24 n32 n33 n35 n36 n37 n38 n47 n48 n49 => ((hFvy433 f n24 n38).trans ((hFvy429 f n24 n38).trans ((hFvy427 f n24 n38).trans ((hFvy304 f n24 n32 n33 n35 n36 n37 n38).trans ((hFvy283 f n24 n32 n33 n35 n36 n37 n38).trans ((hFvy273 f n32 n33 n35 n36 n37).trans ((hFvy238 f n24 n38).trans ((hFvy226 f n32 n33 n35 n36 n37).trans ((hFvy208 f n24 n38).trans ((hFvy148 f n24 n38).trans ((hFvy97 f n24 n38).trans ((hFvy54 f n24 n38).trans (hFvy19 f n32 n33 n35 n36 n37)))))))))))))
                      have hey435 : Fvy433 32 = Fvy304 32 := ((hFvy433 32 (by decide) (by decide)).trans ((hFvy429 32 (by decide) (by decide)).trans (hFvy427 32 (by decide) (by decide))))
                      have hey436 : Fvy433 33 = Fvy304 33 := ((hFvy433 33 (by decide) (by decide)).trans ((hFvy429 33 (by decide) (by decide)).trans (hFvy427 33 (by decide) (by decide))))
                      have hey437 : Fvy433 34 = F 34 := ((hFvy433 34 (by decide) (by decide)).trans ((hFvy429 34 (by decide) (by decide)).trans ((hFvy427 34 (by decide) (by decide)).trans ((hFvy304 34 (by decide) (by decide) (by decide) (by decide) (by decide) (by decide) (by decide)).trans ((hFvy283 34 (by decide) (by decide) (by decide) (by decide) (by decide) (by decide) (by decide)).trans ((hFvy273 34 (by decide) (by decide) (by decide) (by decide) (by decide)).trans ((hFvy238 34 (by decide) (by decide)).trans ((hFvy226 34 (by decide) (by decide) (by decide) (by decide) (by decide)).trans ((hFvy208 34 (by decide) (by decide)).trans ((hFvy148 34 (by decide) (by decide)).trans ((hFvy97 34 (by decide) (by decide)).trans ((hFvy54 34 (by decide) (by decide)).trans (hFvy19 34 (by decide) (by decide) (by decide) (by decide) (by decide))))))))))))))
                      have hey438 : Fvy433 35 = Fvy304 35 := ((hFvy433 35 (by decide) (by decide)).trans ((hFvy429 35 (by decide) (by decide)).trans (hFvy427 35 (by decide) (by decide))))
                      have hey439 : Fvy433 36 = Fvy304 36 := ((hFvy433 36 (by decide) (by decide)).trans ((hFvy429 36 (by decide) (by decide)).trans (hFvy427 36 (by decide) (by decide))))
                      have hey440 : Fvy433 37 = Fvy304 37 := ((hFvy433 37 (by decide) (by decide)).trans ((hFvy429 37 (by decide) (by decide)).trans (hFvy427 37 (by decide) (by decide))))
                      have hey441 : Fvy433 38 = Fvy433 38 := rfl
                      have hrdy442 : RD Fvy433 := by unfold RD; omega
                      have hey443 : Fvy433 32 = Fvy304 32 := ((hFvy433 32 (by decide) (by decide)).trans ((hFvy429 32 (by decide) (by decide)).trans (hFvy427 32 (by decide) (by decide))))
                      have hey444 : Fvy433 47 = F 47 := ((hFvy433 47 (by decide) (by decide)).trans ((hFvy429 47 (by decide) (by decide)).trans ((hFvy427 47 (by decide) (by decide)).trans ((hFvy304 47 (by decide) (by decide) (by decide) (by decide) (by decide) (by decide) (by decide)).trans ((hFvy283 47 (by decide) (by decide) (by decide) (by decide) (by decide) (by decide) (by decide)).trans ((hFvy273 47 (by decide) (by decide) (by decide) (by decide) (by decide)).trans ((hFvy238 47 (by decide) (by decide)).trans ((hFvy226 47 (by decide) (by decide) (by decide) (by decide) (by decide)).trans ((hFvy208 47 (by decide) (by decide)).trans ((hFvy148 47 (by decide) (by decide)).trans ((hFvy97 47 (by decide) (by decide)).trans ((hFvy54 47 (by decide) (by decide)).trans (hFvy19 47 (by decide) (by decide) (by decide) (by decide) (by decide))))))))))))))
                      have hey445 : Fvy433 48 = F 48 := ((hFvy433 48 (by decide) (by decide)).trans ((hFvy429 48 (by decide) (by decide)).trans ((hFvy427 48 (by decide) (by decide)).trans ((hFvy304 48 (by decide) (by decide) (by decide) (by decide) (by decide) (by decide) (by decide)).trans ((hFvy283 48 (by decide) (by decide) (by decide) (by decide) (by decide) (by decide) (by decide)).trans ((hFvy273 48 (by decide) (by decide) (by decide) (by decide) (by decide)).trans ((hFvy238 48 (by decide) (by decide)).trans ((hFvy226 48 (by decide) (by decide) (by decide) (by decide) (by decide)).trans ((hFvy208 48 (by decide) (by decide)).trans ((hFvy148 48 (by decide) (by decide)).trans ((hFvy97 48 (by decide) (by decide)).trans ((hFvy54 48 (by decide) (by decide)).trans (hFvy19 48 (by decide) (by decide) (by decide) (by decide) (by decide))))))))))))))
                      have hey446 : Fvy433 49 = F 49 := ((hFvy433 49 (by decide) (by decide)).trans ((hFvy429 49 (by decide) (by decide)).trans ((hFvy427 49 (by decide) (by decide)).trans ((hFvy304 49 (by decide) (by decide) (by decide) (by decide) (by decide) (by decide) (by decide)).trans ((hFvy283 49 (by decide) (by decide) (by decide) (by decide) (by decide) (by decide) (by decide)).trans ((hFvy273 49 (by decide) (by decide) (by decide) (by decide) (by decide)).trans ((hFvy238 49 (by decide) (by decide)).trans ((hFvy226 49 (by decide) (by decide) (by decide) (by decide) (by decide)).trans ((hFvy208 49 (by decide) (by decide)).trans ((hFvy148 49 (by decide) (by decide)).trans ((hFvy97 49 (by decide) (by decide)).trans ((hFvy54 49 (by decide) (by decide)).trans (hFvy19 49 (by decide) (by decide) (by decide) (by decide) (by decide))))))))))))))
                      have hfry449 : ∀ j, j ≠ kqy212 + 2 → j ≠ kqy212 + 1 → j ≠ kqy212 → ry311 j = ly1 j := fun j n0 n1 n2 => (congrFun hvy312 _).trans ((uZ_n _ _ n0).trans ((congrFun hvy292 _).trans ((uZ_n _ _ n1).trans ((congrFun hvy260 _).trans ((uZ_n _ _ n2).trans (rfl))))))
                      have hlay448 : ∀ s l : Nat, (s : Int) < Fvy433 47 → (l : Int) < mn1 s → lyT ry311 (84 * s + 7 * l) := by
                        intro s l a1 a2
                        have hm9 := hmn1 s (by omega)
                        exact (hly1 s l (by omega) a2).ext (fun j b1 b2 => hfry449 j (by omega) (by omega) (by omega))
                      have hgy450 := (hfvy19 (i + 16) (ne_o (i := i) (c := 16) (d := 0) rfl)).trans ha16
                      have hgy451 := (hfvy54 (i + 16) (ne_o (i := i) (c := 16) (d := 0) rfl)).trans hgy450
                      have hgy452 := (hfvy97 (i + 16) (ne_o (i := i) (c := 16) (d := 0) rfl)).trans hgy451
                      have hgy453 := (hfvy148 (i + 16) (ne_o (i := i) (c := 16) (d := 0) rfl)).trans hgy452
                      have hgy454 := (hfvy208 (i + 16) (ne_o (i := i) (c := 16) (d := 0) rfl)).trans hgy453
                      have hgy455 := (hfvy226 (i + 16) (ne_o (i := i) (c := 16) (d := 0) rfl)).trans hgy454
                      have hgy456 := (hfvy238 (i + 16) (ne_o (i := i) (c := 16) (d := 0) rfl)).trans hgy455
                      have hgy457 := up_n egy257 hgy456 (ne_o (i := i) (c := 16) (d := 23) rfl)
                      have hgy458 := (hfvy273 (i + 16) (ne_o (i := i) (c := 16) (d := 0) rfl)).trans hgy457
                      have hgy459 := (hfvy283 (i + 16) (ne_o (i := i) (c := 16) (d := 0) rfl)).trans hgy458
                      have hgy460 := up_n egy289 hgy459 (ne_o (i := i) (c := 16) (d := 23) rfl)
                      have hgy461 := (hfvy304 (i + 16) (ne_o (i := i) (c := 16) (d := 0) rfl)).trans hgy460
                      have hgy462 := up_n egy309 hgy461 (ne_o (i := i) (c := 16) (d := 23) rfl)
                      have hgy463 := (hfvy427 (i + 16) (ne_o (i := i) (c := 16) (d := 0) rfl)).trans hgy462
                      have hgy464 := (hfvy429 (i + 16) (ne_o (i := i) (c := 16) (d := 0) rfl)).trans hgy463
                      have hgy465 := (hfvy433 (i + 16) (ne_o (i := i) (c := 16) (d := 0) rfl)).trans hgy464
                      have hgy466 := (hfvy19 (i + 17) (ne_o (i := i) (c := 17) (d := 0) rfl)).trans ha17
                      have hgy467 := (hfvy54 (i + 17) (ne_o (i := i) (c := 17) (d := 0) rfl)).trans hgy466
                      have hgy468 := (hfvy97 (i + 17) (ne_o (i := i) (c := 17) (d := 0) rfl)).trans hgy467
                      have hgy469 := (hfvy148 (i + 17) (ne_o (i := i) (c := 17) (d := 0) rfl)).trans hgy468
                      have hgy470 := (hfvy208 (i + 17) (ne_o (i := i) (c := 17) (d := 0) rfl)).trans hgy469
                      have hgy471 := (hfvy226 (i + 17) (ne_o (i := i) (c := 17) (d := 0) rfl)).trans hgy470
                      have hgy472 := (hfvy238 (i + 17) (ne_o (i := i) (c := 17) (d := 0) rfl)).trans hgy471
                      have hgy473 := up_n egy257 hgy472 (ne_o (i := i) (c := 17) (d := 23) rfl)
                      have hgy474 := (hfvy273 (i + 17) (ne_o (i := i) (c := 17) (d := 0) rfl)).trans hgy473
                      have hgy475 := (hfvy283 (i + 17) (ne_o (i := i) (c := 17) (d := 0) rfl)).trans hgy474
                      have hgy476 := up_n egy289 hgy475 (ne_o (i := i) (c := 17) (d := 23) rfl)
                      have hgy477 := (hfvy304 (i + 17) (ne_o (i := i) (c := 17) (d := 0) rfl)).trans hgy476
                      have hgy478 := up_n egy309 hgy477 (ne_o (i := i) (c := 17) (d := 23) rfl)
                      have hgy479 := (hfvy427 (i + 17) (ne_o (i := i) (c := 17) (d := 0) rfl)).trans hgy478
                      have hgy480 := (hfvy429 (i + 17) (ne_o (i := i) (c := 17) (d := 0) rfl)).trans hgy479
                      have hgy481 := (hfvy433 (i + 17) (ne_o (i := i) (c := 17) (d := 0) rfl)).trans hgy480
                      have hgy482 := (hfvy226 (i + 18) (ne_o (i := i) (c := 18) (d := 0) rfl)).trans hgy210
                      have hgy483 := (hfvy238 (i + 18) (ne_o (i := i) (c := 18) (d := 0) rfl)).trans hgy482
                      have hgy484 := up_n egy257 hgy483 (ne_o (i := i) (c := 18) (d := 23) rfl)
                      have hgy485 := (hfvy273 (i + 18) (ne_o (i := i) (c := 18) (d := 0) rfl)).trans hgy484
                      have hgy486 := (hfvy283 (i + 18) (ne_o (i := i) (c := 18) (d := 0) rfl)).trans hgy485
                      have hgy487 := up_n egy289 hgy486 (ne_o (i := i) (c := 18) (d := 23) rfl)
                      have hgy488 := (hfvy304 (i + 18) (ne_o (i := i) (c := 18) (d := 0) rfl)).trans hgy487
                      have hgy489 := up_n egy309 hgy488 (ne_o (i := i) (c := 18) (d := 23) rfl)
                      have hgy490 := (hfvy427 (i + 18) (ne_o (i := i) (c := 18) (d := 0) rfl)).trans hgy489
                      have hgy491 := (hfvy429 (i + 18) (ne_o (i := i) (c := 18) (d := 0) rfl)).trans hgy490
                      have hgy492 := (hfvy433 (i + 18) (ne_o (i := i) (c := 18) (d := 0) rfl)).trans hgy491
                      have hgy493 := (hfvy19 (i + 19) (ne_o (i := i) (c := 19) (d := 0) rfl)).trans ha19
                      have hgy494 := (hfvy54 (i + 19) (ne_o (i := i) (c := 19) (d := 0) rfl)).trans hgy493
                      have hgy495 := (hfvy97 (i + 19) (ne_o (i := i) (c := 19) (d := 0) rfl)).trans hgy494
                      have hgy496 := (hfvy148 (i + 19) (ne_o (i := i) (c := 19) (d := 0) rfl)).trans hgy495
                      have hgy497 := (hfvy208 (i + 19) (ne_o (i := i) (c := 19) (d := 0) rfl)).trans hgy496
                      have hgy498 := (hfvy226 (i + 19) (ne_o (i := i) (c := 19) (d := 0) rfl)).trans hgy497
                      have hgy499 := (hfvy238 (i + 19) (ne_o (i := i) (c := 19) (d := 0) rfl)).trans hgy498
                      have hgy500 := up_n egy257 hgy499 (ne_o (i := i) (c := 19) (d := 23) rfl)
                      have hgy501 := (hfvy273 (i + 19) (ne_o (i := i) (c := 19) (d := 0) rfl)).trans hgy500
                      have hgy502 := (hfvy283 (i + 19) (ne_o (i := i) (c := 19) (d := 0) rfl)).trans hgy501
                      have hgy503 := up_n egy289 hgy502 (ne_o (i := i) (c := 19) (d := 23) rfl)
                      have hgy504 := (hfvy304 (i + 19) (ne_o (i := i) (c := 19) (d := 0) rfl)).trans hgy503
                      have hgy505 := up_n egy309 hgy504 (ne_o (i := i) (c := 19) (d := 23) rfl)
                      have hgy506 := (hfvy427 (i + 19) (ne_o (i := i) (c := 19) (d := 0) rfl)).trans hgy505
                      have hgy507 := (hfvy429 (i + 19) (ne_o (i := i) (c := 19) (d := 0) rfl)).trans hgy506
                      have hgy508 := (hfvy433 (i + 19) (ne_o (i := i) (c := 19) (d := 0) rfl)).trans hgy507
                      have hgy509 := (hfvy19 (i + 20) (ne_o (i := i) (c := 20) (d := 0) rfl)).trans ha20
                      have hgy510 := (hfvy54 (i + 20) (ne_o (i := i) (c := 20) (d := 0) rfl)).trans hgy509
                      have hgy511 := (hfvy97 (i + 20) (ne_o (i := i) (c := 20) (d := 0) rfl)).trans hgy510
                      have hgy512 := (hfvy148 (i + 20) (ne_o (i := i) (c := 20) (d := 0) rfl)).trans hgy511
                      have hgy513 := (hfvy208 (i + 20) (ne_o (i := i) (c := 20) (d := 0) rfl)).trans hgy512
                      have hgy514 := (hfvy226 (i + 20) (ne_o (i := i) (c := 20) (d := 0) rfl)).trans hgy513
                      have hgy515 := (hfvy238 (i + 20) (ne_o (i := i) (c := 20) (d := 0) rfl)).trans hgy514
                      have hgy516 := up_n egy257 hgy515 (ne_o (i := i) (c := 20) (d := 23) rfl)
                      have hgy517 := (hfvy273 (i + 20) (ne_o (i := i) (c := 20) (d := 0) rfl)).trans hgy516
                      have hgy518 := (hfvy283 (i + 20) (ne_o (i := i) (c := 20) (d := 0) rfl)).trans hgy517
                      have hgy519 := up_n egy289 hgy518 (ne_o (i := i) (c := 20) (d := 23) rfl)
                      have hgy520 := (hfvy304 (i + 20) (ne_o (i := i) (c := 20) (d := 0) rfl)).trans hgy519
                      have hgy521 := up_n egy309 hgy520 (ne_o (i := i) (c := 20) (d := 23) rfl)
                      have hgy522 := (hfvy427 (i + 20) (ne_o (i := i) (c := 20) (d := 0) rfl)).trans hgy521
                      have hgy523 := (hfvy429 (i + 20) (ne_o (i := i) (c := 20) (d := 0) rfl)).trans hgy522
                      have hgy524 := (hfvy433 (i + 20) (ne_o (i := i) (c := 20) (d := 0) rfl)).trans hgy523
                      have hgy525 := (hfvy19 (i + 21) (ne_o (i := i) (c := 21) (d := 0) rfl)).trans ha21
                      have hgy526 := (hfvy54 (i + 21) (ne_o (i := i) (c := 21) (d := 0) rfl)).trans hgy525
                      have hgy527 := (hfvy97 (i + 21) (ne_o (i := i) (c := 21) (d := 0) rfl)).trans hgy526
                      have hgy528 := (hfvy148 (i + 21) (ne_o (i := i) (c := 21) (d := 0) rfl)).trans hgy527
                      have hgy529 := (hfvy208 (i + 21) (ne_o (i := i) (c := 21) (d := 0) rfl)).trans hgy528
                      have hgy530 := (hfvy226 (i + 21) (ne_o (i := i) (c := 21) (d := 0) rfl)).trans hgy529
                      have hgy531 := (hfvy238 (i + 21) (ne_o (i := i) (c := 21) (d := 0) rfl)).trans hgy530
                      have hgy532 := up_n egy257 hgy531 (ne_o (i := i) (c := 21) (d := 23) rfl)
                      have hgy533 := (hfvy273 (i + 21) (ne_o (i := i) (c := 21) (d := 0) rfl)).trans hgy532
                      have hgy534 := (hfvy283 (i + 21) (ne_o (i := i) (c := 21) (d := 0) rfl)).trans hgy533
                      have hgy535 := up_n egy289 hgy534 (ne_o (i := i) (c := 21) (d := 23) rfl)
                      have hgy536 := (hfvy304 (i + 21) (ne_o (i := i) (c := 21) (d := 0) rfl)).trans hgy535
                      have hgy537 := up_n egy309 hgy536 (ne_o (i := i) (c := 21) (d := 23) rfl)
                      have hgy538 := (hfvy427 (i + 21) (ne_o (i := i) (c := 21) (d := 0) rfl)).trans hgy537
                      have hgy539 := (hfvy429 (i + 21) (ne_o (i := i) (c := 21) (d := 0) rfl)).trans hgy538
                      have hgy540 := (hfvy433 (i + 21) (ne_o (i := i) (c := 21) (d := 0) rfl)).trans hgy539
                      have hgy541 := (hfvy19 (i + 22) (ne_o (i := i) (c := 22) (d := 0) rfl)).trans ha22
                      have hgy542 := (hfvy54 (i + 22) (ne_o (i := i) (c := 22) (d := 0) rfl)).trans hgy541
                      have hgy543 := (hfvy97 (i + 22) (ne_o (i := i) (c := 22) (d := 0) rfl)).trans hgy542
                      have hgy544 := (hfvy148 (i + 22) (ne_o (i := i) (c := 22) (d := 0) rfl)).trans hgy543
                      have hgy545 := (hfvy208 (i + 22) (ne_o (i := i) (c := 22) (d := 0) rfl)).trans hgy544
                      have hgy546 := (hfvy226 (i + 22) (ne_o (i := i) (c := 22) (d := 0) rfl)).trans hgy545
                      have hgy547 := (hfvy238 (i + 22) (ne_o (i := i) (c := 22) (d := 0) rfl)).trans hgy546
                      have hgy548 := up_n egy257 hgy547 (ne_o (i := i) (c := 22) (d := 23) rfl)
                      have hgy549 := (hfvy273 (i + 22) (ne_o (i := i) (c := 22) (d := 0) rfl)).trans hgy548
                      have hgy550 := (hfvy283 (i + 22) (ne_o (i := i) (c := 22) (d := 0) rfl)).trans hgy549
                      have hgy551 := up_n egy289 hgy550 (ne_o (i := i) (c := 22) (d := 23) rfl)
                      have hgy552 := (hfvy304 (i + 22) (ne_o (i := i) (c := 22) (d := 0) rfl)).trans hgy551
                      have hgy553 := up_n egy309 hgy552 (ne_o (i := i) (c := 22) (d := 23) rfl)
                      have hgy554 := (hfvy427 (i + 22) (ne_o (i := i) (c := 22) (d := 0) rfl)).trans hgy553
                      have hgy555 := (hfvy429 (i + 22) (ne_o (i := i) (c := 22) (d := 0) rfl)).trans hgy554
                      have hgy556 := (hfvy433 (i + 22) (ne_o (i := i) (c := 22) (d := 0) rfl)).trans hgy555
                      have hgy557 := (hfvy433 (i + 23) (ne_o (i := i) (c := 23) (d := 0) rfl)).trans hgy431
                      have htxy558 : okTx cs gvy433 i Fvy433 := ⟨_, _, _, _, _, _, _, _, ⟨hgy465, hgy481, hgy492, hgy508, hgy524, hgy540, hgy556, hgy557⟩, ⟨⟨by omega, by omega, by omega⟩, hop1, hmn1, hai1, hfa1, htb1, hlay448⟩⟩
                      exact z_vret C hr hlk dX10_layer1_272 (by decide) (by decide) ⟨rfl, rfl, rfl, ⟨_, hcvy433, hrdy442, by omega, by omega, hFy434, htxy558⟩, fun j j1 j2 => by rw [hfvy433 _ (by omega)]; rw [hfvy429 _ (by omega)]; rw [hfvy427 _ (by omega)]; rw [egy309, va_up_ne _ _ (by omega)]; rw [hfvy304 _ (by omega)]; rw [egy289, va_up_ne _ _ (by omega)]; rw [hfvy283 _ (by omega)]; rw [hfvy273 _ (by omega)]; rw [egy257, va_up_ne _ _ (by omega)]; rw [hfvy238 _ (by omega)]; rw [hfvy226 _ (by omega)]; rw [hfvy208 _ (by omega)]; rw [hfvy148 _ (by omega)]; rw [hfvy97 _ (by omega)]; rw [hfvy54 _ (by omega)]; rw [hfvy19 _ (by omega)]⟩
                    · refine z_iconst (z := 1) C dX10_layer1_260 rfl ?_
                      refine z_goto (tgt := 265) C dX10_layer1_261 (by decide) ?_
                      refine z_iconst (z := 5) C dX10_layer1_265 rfl ?_
                      have h38vy559 : Fvy429 38 = 0 := e38vy429
                      refine z_cV (As := [.int (zI (1)), .int (zI (5))]) (rest := []) (ci := 12) C (c_X10_wants l D A cs tt N ad _ i hN _ hcvy429 (by omega) (1) (by omega) (5) (by omega)) (by omega) hay1 hcvy429 rfl rfl mv_yX10_wants q_1678 hd_yX10_wants (by decide) (Nat.le_of_ble_eq_true rfl) (by decide) dX10_layer1_266 rfl (kI0 fun vy559 gvy559 hvy559 => ?_)
                      obtain ⟨⟨Fvy559, hcvy559, hqvy559, hbvy559, hFvy559⟩, hfvy559⟩ := hvy559
                      obtain rfl : vy559 = 1 := by omega
                      have e38vy559 : Fvy559 38 = 0 := by omega
                      refine z_if_ne (tgt := 273) C dX10_layer1_269 (by decide) (by omega) (fun _ => ?_) (fun h => absurd h (by omega))
                      refine z_aload_n C 2 dX10_layer1_273 rfl ?_
                      refine z_get (v := .ref (ad (i + 23))) C (by omega) hay1 hcvy559 rfl inA_X10 46 (by decide) q_1505 rfl rfl dX10_layer1_274 ?_
                      refine z_iload_n C 0 dX10_layer1_277 rfl ?_
                      refine z_iconst (z := 3) C dX10_layer1_278 rfl ?_
                      refine z_iadd C dX10_layer1_279 ?_
                      refine z_aload_n C 2 dX10_layer1_280 rfl ?_
                      refine z_get (v := .int (zI (Fvy304 36))) C (by omega) hay1 hcvy559 rfl inA_X10 36 (by decide) q_1495 rfl (fv (F := Fvy559) (f := 36) ((hFvy559 36 (by decide) (by decide)).trans ((hFvy429 36 (by decide) (by decide)).trans (hFvy427 36 (by decide) (by decide))))) dX10_layer1_281 ?_
                      have hgy560 := (hfvy559 (i + 23) (ne_o (i := i) (c := 23) (d := 0) rfl)).trans hgy431
                      refine z_iast C (by omega) hay10 hgy560 (kqy212 + 3) (by omega) (by omega) (by decide) dX10_layer1_284 (fun gy561 egy562 => ?_)
                      have hgy563 := up_s egy562
                      obtain ⟨ry564, hvy565⟩ : ∃ rZ9 : Nat → Int, rZ9 = uZ ry311 (kqy212 + 3) (Fvy304 36) := ⟨_, rfl⟩
                      rw [← hvy565] at hgy563
                      refine z_aload_n C 2 dX10_layer1_285 rfl ?_
                      have hgy566 := up_n egy562 hcvy559 (ne_o (i := i) (c := 0) (d := 23) rfl)
                      have hey567 : Fvy559 32 = Fvy304 32 := ((hFvy559 32 (by decide) (by decide)).trans ((hFvy429 32 (by decide) (by decide)).trans (hFvy427 32 (by decide) (by decide))))
                      have hey568 : Fvy559 33 = Fvy304 33 := ((hFvy559 33 (by decide) (by decide)).trans ((hFvy429 33 (by decide) (by decide)).trans (hFvy427 33 (by decide) (by decide))))
                      have hey569 : Fvy559 34 = F 34 := ((hFvy559 34 (by decide) (by decide)).trans ((hFvy429 34 (by decide) (by decide)).trans ((hFvy427 34 (by decide) (by decide)).trans ((hFvy304 34 (by decide) (by decide) (by decide) (by decide) (by decide) (by decide) (by decide)).trans ((hFvy283 34 (by decide) (by decide) (by decide) (by decide) (by decide) (by decide) (by decide)).trans ((hFvy273 34 (by decide) (by decide) (by decide) (by decide) (by decide)).trans ((hFvy238 34 (by decide) (by decide)).trans ((hFvy226 34 (by decide) (by decide) (by decide) (by decide) (by decide)).trans ((hFvy208 34 (by decide) (by decide)).trans ((hFvy148 34 (by decide) (by decide)).trans ((hFvy97 34 (by decide) (by decide)).trans ((hFvy54 34 (by decide) (by decide)).trans (hFvy19 34 (by decide) (by decide) (by decide) (by decide) (by decide))))))))))))))
                      have hey570 : Fvy559 35 = Fvy304 35 := ((hFvy559 35 (by decide) (by decide)).trans ((hFvy429 35 (by decide) (by decide)).trans (hFvy427 35 (by decide) (by decide))))
                      have hey571 : Fvy559 36 = Fvy304 36 := ((hFvy559 36 (by decide) (by decide)).trans ((hFvy429 36 (by decide) (by decide)).trans (hFvy427 36 (by decide) (by decide))))
                      have hey572 : Fvy559 37 = Fvy304 37 := ((hFvy559 37 (by decide) (by decide)).trans ((hFvy429 37 (by decide) (by decide)).trans (hFvy427 37 (by decide) (by decide))))
                      have hey573 : Fvy559 38 = 0 := e38vy559
                      have hrdy574 : RD Fvy559 := by unfold RD; omega
                      have hgy575 := (hfvy304 (i + 13) (ne_o (i := i) (c := 13) (d := 0) rfl)).trans hgy303
                      have hgy576 := up_n egy309 hgy575 (ne_o (i := i) (c := 13) (d := 23) rfl)
                      have hgy577 := (hfvy427 (i + 13) (ne_o (i := i) (c := 13) (d := 0) rfl)).trans hgy576
                      have hgy578 := (hfvy429 (i + 13) (ne_o (i := i) (c := 13) (d := 0) rfl)).trans hgy577
                      have hgy579 := (hfvy559 (i + 13) (ne_o (i := i) (c := 13) (d := 0) rfl)).trans hgy578
                      have hgy580 := up_n egy562 hgy579 (ne_o (i := i) (c := 13) (d := 23) rfl)
                      refine z_cV (As := []) (rest := []) (ci := 12) C (c_X10_go l D A cs tt N ad _ i hN _ hgy566 _ hgy580 htp hrdy574) (by omega) hay1 hgy566 rfl rfl mv_yX10_go q_1652 hd_yX10_go (by decide) (Nat.le_of_ble_eq_true rfl) (by decide) dX10_layer1_286 rfl (kV0 fun gvy581 hvy581 => ?_)
                      obtain ⟨⟨Fvy581, hcvy581, hdvy581, hlvy581, hsvy581, hFvy581⟩, hfvy581⟩ := hvy581
                      have h32vy581 : Fvy559 32 = Fvy304 32 := ((hFvy559 32 (by decide) (by decide)).trans ((hFvy429 32 (by decide) (by decide)).trans (hFvy427 32 (by decide) (by decide))))
                      have h34vy581 : Fvy581 34 = F 34 := (hFvy581 34 (by decide) (by decide) (by decide) (by decide) (by decide)).trans (((hFvy559 34 (by decide) (by decide)).trans ((hFvy429 34 (by decide) (by decide)).trans ((hFvy427 34 (by decide) (by decide)).trans ((hFvy304 34 (by decide) (by decide) (by decide) (by decide) (by decide) (by decide) (by decide)).trans ((hFvy283 34 (by decide) (by decide) (by decide) (by decide) (by decide) (by decide) (by decide)).trans ((hFvy273 34 (by decide) (by decide) (by decide) (by decide) (by decide)).trans ((hFvy238 34 (by decide) (by decide)).trans ((hFvy226 34 (by decide) (by decide) (by decide) (by decide) (by decide)).trans ((hFvy208 34 (by decide) (by decide)).trans ((hFvy148 34 (by decide) (by decide)).trans ((hFvy97 34 (by decide) (by decide)).trans ((hFvy54 34 (by decide) (by decide)).trans (hFvy19 34 (by decide) (by decide) (by decide) (by decide) (by decide)))))))))))))))
                      obtain ⟨d32vy581, d33vy581, d35vy581, d36vy581, d2vy581, d37vy581, d38vy581⟩ := id hdvy581
                      have h38vy581 : Fvy581 38 = 0 := ((hFvy581 38 (by decide) (by decide) (by decide) (by decide) (by decide)).trans e38vy559)
                      refine z_aload_n C 2 dX10_layer1_289 rfl ?_
                      refine z_get (v := .ref (ad (i + 23))) C (by omega) hay1 hcvy581 rfl inA_X10 46 (by decide) q_1505 rfl rfl dX10_layer1_290 ?_
                      refine z_iload_n C 0 dX10_layer1_293 rfl ?_
                      refine z_iconst (z := 4) C dX10_layer1_294 rfl ?_
                      refine z_iadd C dX10_layer1_295 ?_
                      refine z_aload_n C 2 dX10_layer1_296 rfl ?_
                      refine z_iconst (z := 0) C dX10_layer1_297 rfl ?_
                      refine z_sipush (z := 300) C dX10_layer1_298 (by decide) ?_
                      have hey582 : Fvy581 32 = Fvy581 32 := rfl
                      have hey583 : Fvy581 33 = Fvy581 33 := rfl
                      have hey584 : Fvy581 34 = F 34 := ((hFvy581 34 (by decide) (by decide) (by decide) (by decide) (by decide)).trans ((hFvy559 34 (by decide) (by decide)).trans ((hFvy429 34 (by decide) (by decide)).trans ((hFvy427 34 (by decide) (by decide)).trans ((hFvy304 34 (by decide) (by decide) (by decide) (by decide) (by decide) (by decide) (by decide)).trans ((hFvy283 34 (by decide) (by decide) (by decide) (by decide) (by decide) (by decide) (by decide)).trans ((hFvy273 34 (by decide) (by decide) (by decide) (by decide) (by decide)).trans ((hFvy238 34 (by decide) (by decide)).trans ((hFvy226 34 (by decide) (by decide) (by decide) (by decide) (by decide)).trans ((hFvy208 34 (by decide) (by decide)).trans ((hFvy148 34 (by decide) (by decide)).trans ((hFvy97 34 (by decide) (by decide)).trans ((hFvy54 34 (by decide) (by decide)).trans (hFvy19 34 (by decide) (by decide) (by decide) (by decide) (by decide)))))))))))))))
                      have hey585 : Fvy581 35 = Fvy581 35 := rfl
                      have hey586 : Fvy581 36 = Fvy581 36 := rfl
                      have hey587 : Fvy581 37 = Fvy581 37 := rfl
                      have hey588 : Fvy581 38 = 0 := ((hFvy581 38 (by decide) (by decide) (by decide) (by decide) (by decide)).trans e38vy559)
                      have hrdy589 : RD Fvy581 := by unfold RD; omega
                      have hgy590 := (hfvy581 (i + 13) (ne_o (i := i) (c := 13) (d := 0) rfl)).trans hgy580
                      have hey592 : Fvy581 38 = 0 := ((hFvy581 38 (by decide) (by decide) (by decide) (by decide) (by decide)).trans e38vy559)
                      have hey593 : Fvy581 35 = Fvy581 35 := rfl
                      refine z_cV (As := [.int (zI (0)), .int (zI (300))]) (rest := [.int (zI (((kqy212 : Int)) + 4)), .ref (ad (i + 23))]) (ci := 12) C (c_X10_number l D A cs tt N ad _ i hN _ hcvy581 _ hgy590 htp hrdy589 (0) (by omega) (300) (by omega)) (by omega) hay1 hcvy581 rfl rfl mv_yX10_number q_1682 hd_yX10_number (by decide) (Nat.le_of_ble_eq_true rfl) (by decide) dX10_layer1_301 rfl (kI0 fun vy591 gvy591 hvy591 => ?_)
                      obtain ⟨hrvy591, ⟨Fvy591, hcvy591, hdvy591, hlvy591, hsvy591, hFvy591⟩, hfvy591⟩ := hvy591
                      have h32vy591 : Fvy581 32 = Fvy581 32 := rfl
                      have h34vy591 : Fvy591 34 = F 34 := (hFvy591 34 (by decide) (by decide) (by decide) (by decide) (by decide) (by decide) (by decide)).trans (((hFvy581 34 (by decide) (by decide) (by decide) (by decide) (by decide)).trans ((hFvy559 34 (by decide) (by decide)).trans ((hFvy429 34 (by decide) (by decide)).trans ((hFvy427 34 (by decide) (by decide)).trans ((hFvy304 34 (by decide) (by decide) (by decide) (by decide) (by decide) (by decide) (by decide)).trans ((hFvy283 34 (by decide) (by decide) (by decide) (by decide) (by decide) (by decide) (by decide)).trans ((hFvy273 34 (by decide) (by decide) (by decide) (by decide) (by decide)).trans ((hFvy238 34 (by decide) (by decide)).trans ((hFvy226 34 (by decide) (by decide) (by decide) (by decide) (by decide)).trans ((hFvy208 34 (by decide) (by decide)).trans ((hFvy148 34 (by decide) (by decide)).trans ((hFvy97 34 (by decide) (by decide)).trans ((hFvy54 34 (by decide) (by decide)).trans (hFvy19 34 (by decide) (by decide) (by decide) (by decide) (by decide))))))))))))))))
                      obtain ⟨d32vy591, d33vy591, d35vy591, d36vy591, d2vy591, d37vy591, d38vy591⟩ := id hdvy591
                      rcases (show Fvy591 38 = 0 ∨ Fvy591 38 ≠ 0 by omega) with hxvy591 | hxvy591
                      · refine z_ineg C dX10_layer1_304 ?_
                        have hgy594 := (hfvy581 (i + 23) (ne_o (i := i) (c := 23) (d := 0) rfl)).trans hgy563
                        have hgy595 := (hfvy591 (i + 23) (ne_o (i := i) (c := 23) (d := 0) rfl)).trans hgy594
                        refine z_iast C (by omega) hay10 hgy595 (kqy212 + 4) (by omega) (by omega) (by decide) dX10_layer1_305 (fun gy596 egy597 => ?_)
                        have hgy598 := up_s egy597
                        obtain ⟨ry599, hvy600⟩ : ∃ rZ9 : Nat → Int, rZ9 = uZ ry564 (kqy212 + 4) (-(vy591)) := ⟨_, rfl⟩
                        rw [← hvy600] at hgy598
                        refine z_aload_n C 2 dX10_layer1_306 rfl ?_
                        have hgy601 := up_n egy597 hcvy591 (ne_o (i := i) (c := 0) (d := 23) rfl)
                        refine z_get (v := .ref (ad (i + 23))) C (by omega) hay1 hgy601 rfl inA_X10 46 (by decide) q_1505 rfl rfl dX10_layer1_307 ?_
                        refine z_iload_n C 0 dX10_layer1_310 rfl ?_
                        refine z_iconst (z := 5) C dX10_layer1_311 rfl ?_
                        refine z_iadd C dX10_layer1_312 ?_
                        refine z_iconst (z := 0) C dX10_layer1_313 rfl ?_
                        refine z_iast C (by omega) hay10 hgy598 (kqy212 + 5) (by omega) (by omega) (by decide) dX10_layer1_314 (fun gy602 egy603 => ?_)
                        have hgy604 := up_s egy603
                        obtain ⟨ry605, hvy606⟩ : ∃ rZ9 : Nat → Int, rZ9 = uZ ry599 (kqy212 + 5) (0) := ⟨_, rfl⟩
                        rw [← hvy606] at hgy604
                        refine z_aload_n C 2 dX10_layer1_315 rfl ?_
                        have hgy607 := up_n egy603 hgy601 (ne_o (i := i) (c := 0) (d := 23) rfl)
                        refine z_get (v := .ref (ad (i + 23))) C (by omega) hay1 hgy607 rfl inA_X10 46 (by decide) q_1505 rfl rfl dX10_layer1_316 ?_
                        refine z_iload_n C 0 dX10_layer1_319 rfl ?_
                        refine z_bipush (z := 6) C dX10_layer1_320 (by decide) ?_
                        refine z_iadd C dX10_layer1_322 ?_
                        refine z_aload_n C 2 dX10_layer1_323 rfl ?_
                        refine z_get (v := .int (zI (F 49))) C (by omega) hay1 hgy607 rfl inA_X10 49 (by decide) q_1508 rfl (fv (F := Fvy591) (f := 49) ((hFvy591 49 (by decide) (by decide) (by decide) (by decide) (by decide) (by decide) (by decide)).trans ((hFvy581 49 (by decide) (by decide) (by decide) (by decide) (by decide)).trans ((hFvy559 49 (by decide) (by decide)).trans ((hFvy429 49 (by decide) (by decide)).trans ((hFvy427 49 (by decide) (by decide)).trans ((hFvy304 49 (by decide) (by decide) (by decide) (by decide) (by decide) (by decide) (by decide)).trans ((hFvy283 49 (by decide) (by decide) (by decide) (by decide) (by decide) (by decide) (by decide)).trans ((hFvy273 49 (by decide) (by decide) (by decide) (by decide) (by decide)).trans ((hFvy238 49 (by decide) (by decide)).trans ((hFvy226 49 (by decide) (by decide) (by decide) (by decide) (by decide)).trans ((hFvy208 49 (by decide) (by decide)).trans ((hFvy148 49 (by decide) (by decide)).trans ((hFvy97 49 (by decide) (by decide)).trans ((hFvy54 49 (by decide) (by decide)).trans (hFvy19 49 (by decide) (by decide) (by decide) (by decide) (by decide))))))))))))))))) dX10_layer1_324 ?_
                        refine z_iast C (by omega) hay10 hgy604 (kqy212 + 6) (by omega) (by omega) (by decide) dX10_layer1_327 (fun gy608 egy609 => ?_)
                        have hgy610 := up_s egy609
                        obtain ⟨ry611, hvy612⟩ : ∃ rZ9 : Nat → Int, rZ9 = uZ ry605 (kqy212 + 6) (F 49) := ⟨_, rfl⟩
                        rw [← hvy612] at hgy610
                        refine z_aload_n C 2 dX10_layer1_328 rfl ?_
                        have hgy613 := up_n egy609 hgy607 (ne_o (i := i) (c := 0) (d := 23) rfl)
                        refine z_get (v := .ref (ad (i + 18))) C (by omega) hay1 hgy613 rfl inA_X10 41 (by decide) q_1500 rfl rfl dX10_layer1_329 ?_
                        refine z_iload_n C 1 dX10_layer1_332 rfl ?_
                        refine z_dup2 C dX10_layer1_333 rfl rfl ?_
                        have hgy614 := (hfvy226 (i + 18) (ne_o (i := i) (c := 18) (d := 0) rfl)).trans hgy210
                        have hgy615 := (hfvy238 (i + 18) (ne_o (i := i) (c := 18) (d := 0) rfl)).trans hgy614
                        have hgy616 := up_n egy257 hgy615 (ne_o (i := i) (c := 18) (d := 23) rfl)
                        have hgy617 := (hfvy273 (i + 18) (ne_o (i := i) (c := 18) (d := 0) rfl)).trans hgy616
                        have hgy618 := (hfvy283 (i + 18) (ne_o (i := i) (c := 18) (d := 0) rfl)).trans hgy617
                        have hgy619 := up_n egy289 hgy618 (ne_o (i := i) (c := 18) (d := 23) rfl)
                        have hgy620 := (hfvy304 (i + 18) (ne_o (i := i) (c := 18) (d := 0) rfl)).trans hgy619
                        have hgy621 := up_n egy309 hgy620 (ne_o (i := i) (c := 18) (d := 23) rfl)
                        have hgy622 := (hfvy427 (i + 18) (ne_o (i := i) (c := 18) (d := 0) rfl)).trans hgy621
                        have hgy623 := (hfvy429 (i + 18) (ne_o (i := i) (c := 18) (d := 0) rfl)).trans hgy622
                        have hgy624 := (hfvy559 (i + 18) (ne_o (i := i) (c := 18) (d := 0) rfl)).trans hgy623
                        have hgy625 := up_n egy562 hgy624 (ne_o (i := i) (c := 18) (d := 23) rfl)
                        have hgy626 := (hfvy581 (i + 18) (ne_o (i := i) (c := 18) (d := 0) rfl)).trans hgy625
                        have hgy627 := (hfvy591 (i + 18) (ne_o (i := i) (c := 18) (d := 0) rfl)).trans hgy626
                        have hgy628 := up_n egy597 hgy627 (ne_o (i := i) (c := 18) (d := 23) rfl)
                        have hgy629 := up_n egy603 hgy628 (ne_o (i := i) (c := 18) (d := 23) rfl)
                        have hgy630 := up_n egy609 hgy629 (ne_o (i := i) (c := 18) (d := 23) rfl)
                        refine z_iald C (by omega) hay5 hgy630 (ny209) (by omega) (by omega) (by decide) dX10_layer1_334 ?_
                        have hrfy631 := hmn1 (ny209) (by omega)
                        refine z_iconst (z := 1) C dX10_layer1_335 rfl ?_
                        refine z_iadd C dX10_layer1_336 ?_
                        refine z_iast C (by omega) hay5 hgy630 (ny209) (by omega) (by omega) (by decide) dX10_layer1_337 (fun gy632 egy633 => ?_)
                        have hgy634 := up_s egy633
                        obtain ⟨ry635, hvy636⟩ : ∃ rZ9 : Nat → Int, rZ9 = uZ mn1 (ny209) ((mn1 (ny209)) + 1) := ⟨_, rfl⟩
                        rw [← hvy636] at hgy634
                        refine z_aload_n C 2 dX10_layer1_338 rfl ?_
                        refine z_dup C dX10_layer1_339 rfl ?_
                        have hgy637 := up_n egy633 hgy613 (ne_o (i := i) (c := 0) (d := 18) rfl)
                        refine z_get (v := .int (zI (F 49))) C (by omega) hay1 hgy637 rfl inA_X10 49 (by decide) q_1508 rfl (fv (F := Fvy591) (f := 49) ((hFvy591 49 (by decide) (by decide) (by decide) (by decide) (by decide) (by decide) (by decide)).trans ((hFvy581 49 (by decide) (by decide) (by decide) (by decide) (by decide)).trans ((hFvy559 49 (by decide) (by decide)).trans ((hFvy429 49 (by decide) (by decide)).trans ((hFvy427 49 (by decide) (by decide)).trans ((hFvy304 49 (by decide) (by decide) (by decide) (by decide) (by decide) (by decide) (by decide)).trans ((hFvy283 49 (by decide) (by decide) (by decide) (by decide) (by decide) (by decide) (by decide)).trans ((hFvy273 49 (by decide) (by decide) (by decide) (by decide) (by decide)).trans ((hFvy238 49 (by decide) (by decide)).trans ((hFvy226 49 (by decide) (by decide) (by decide) (by decide) (by decide)).trans ((hFvy208 49 (by decide) (by decide)).trans ((hFvy148 49 (by decide) (by decide)).trans ((hFvy97 49 (by decide) (by decide)).trans ((hFvy54 49 (by decide) (by decide)).trans (hFvy19 49 (by decide) (by decide) (by decide) (by decide) (by decide))))))))))))))))) dX10_layer1_340 ?_
                        refine z_iconst (z := 1) C dX10_layer1_343 rfl ?_
                        refine z_iadd C dX10_layer1_344 ?_
                        refine z_put (fs' := mF ad (i) (uZ Fvy591 49 ((F 49) + 1))) C (by omega) hay1 hgy637 tyX10 tyX10_ok nmX10 rfl inA_X10 49 (by decide) q_1508 rfl rfl rfl rfl (Nat.le_of_ble_eq_true rfl) rfl dX10_layer1_345 (fun gy638 egy639 => ?_)
                        have hgy640 := up_s egy639
                        have hFy641 : ∀ f, f ≠ 24 → f ≠ 32 → f ≠ 33 → f ≠ 35 → f ≠ 36 → f ≠ 37 → f ≠ 38 → f ≠ 47 → f ≠ 48 → f ≠ 49 → (uZ Fvy591 49 ((F 49) + 1)) f = F f := fun f n24 n32 n33 n35 n36 n37 n38 n47 n48 n49 => ((uZ_n _ _ n49).trans ((hFvy591 f n24 n32 n33 n35 n36 n37 n38).trans ((hFvy581 f n32 n33 n35 n36 n37).trans ((hFvy559 f n24 n38).trans ((hFvy429 f n24 n38).trans ((hFvy427 f n24 n38).trans ((hFvy304 f n24 n32 n33 n35 n36 n37 n38).trans ((hFvy283 f n24 n32 n33 n35 n36 n37 n38).trans ((hFvy273 f n32 n33 n35 n36 n37).trans ((hFvy238 f n24 n38).trans ((hFvy226 f n32 n33 n35 n36 n37).trans ((hFvy208 f n24 n38).trans ((hFvy148 f n24 n38).trans ((hFvy97 f n24 n38).trans ((hFvy54 f n24 n38).trans (hFvy19 f n32 n33 n35 n36 n37))))))))))))))))
                        have hey642 : (uZ Fvy591 49 ((F 49) + 1)) 32 = Fvy591 32 := (fn rfl (by decide))
                        have hey643 : (uZ Fvy591 49 ((F 49) + 1)) 33 = Fvy591 33 := (fn rfl (by decide))
                        have hey644 : (uZ Fvy591 49 ((F 49) + 1)) 34 = F 34 := (fn ((hFvy591 34 (by decide) (by decide) (by decide) (by decide) (by decide) (by decide) (by decide)).trans ((hFvy581 34 (by decide) (by decide) (by decide) (by decide) (by decide)).trans ((hFvy559 34 (by decide) (by decide)).trans ((hFvy429 34 (by decide) (by decide)).trans ((hFvy427 34 (by decide) (by decide)).trans ((hFvy304 34 (by decide) (by decide) (by decide) (by decide) (by decide) (by decide) (by decide)).trans ((hFvy283 34 (by decide) (by decide) (by decide) (by decide) (by decide) (by decide) (by decide)).trans ((hFvy273 34 (by decide) (by decide) (by decide) (by decide) (by decide)).trans ((hFvy238 34 (by decide) (by decide)).trans ((hFvy226 34 (by decide) (by decide) (by decide) (by decide) (by decide)).trans ((hFvy208 34 (by decide) (by decide)).trans ((hFvy148 34 (by decide) (by decide)).trans ((hFvy97 34 (by decide) (by decide)).trans ((hFvy54 34 (by decide) (by decide)).trans (hFvy19 34 (by decide) (by decide) (by decide) (by decide) (by decide)))))))))))))))) (by decide))
                        have hey645 : (uZ Fvy591 49 ((F 49) + 1)) 35 = Fvy591 35 := (fn rfl (by decide))
                        have hey646 : (uZ Fvy591 49 ((F 49) + 1)) 36 = Fvy591 36 := (fn rfl (by decide))
                        have hey647 : (uZ Fvy591 49 ((F 49) + 1)) 37 = Fvy591 37 := (fn rfl (by decide))
                        have hey648 : (uZ Fvy591 49 ((F 49) + 1)) 38 = 0 := (fn hxvy591 (by decide))
                        have hrdy649 : RD (uZ Fvy591 49 ((F 49) + 1)) := by unfold RD; omega
                        have hey650 : (uZ Fvy591 49 ((F 49) + 1)) 32 = Fvy591 32 := (fn rfl (by decide))
                        have hey651 : (uZ Fvy591 49 ((F 49) + 1)) 47 = F 47 := (fn ((hFvy591 47 (by decide) (by decide) (by decide) (by decide) (by decide) (by decide) (by decide)).trans ((hFvy581 47 (by decide) (by decide) (by decide) (by decide) (by decide)).trans ((hFvy559 47 (by decide) (by decide)).trans ((hFvy429 47 (by decide) (by decide)).trans ((hFvy427 47 (by decide) (by decide)).trans ((hFvy304 47 (by decide) (by decide) (by decide) (by decide) (by decide) (by decide) (by decide)).trans ((hFvy283 47 (by decide) (by decide) (by decide) (by decide) (by decide) (by decide) (by decide)).trans ((hFvy273 47 (by decide) (by decide) (by decide) (by decide) (by decide)).trans ((hFvy238 47 (by decide) (by decide)).trans ((hFvy226 47 (by decide) (by decide) (by decide) (by decide) (by decide)).trans ((hFvy208 47 (by decide) (by decide)).trans ((hFvy148 47 (by decide) (by decide)).trans ((hFvy97 47 (by decide) (by decide)).trans ((hFvy54 47 (by decide) (by decide)).trans (hFvy19 47 (by decide) (by decide) (by decide) (by decide) (by decide)))))))))))))))) (by decide))
                        have hey652 : (uZ Fvy591 49 ((F 49) + 1)) 48 = F 48 := (fn ((hFvy591 48 (by decide) (by decide) (by decide) (by decide) (by decide) (by decide) (by decide)).trans ((hFvy581 48 (by decide) (by decide) (by decide) (by decide) (by decide)).trans ((hFvy559 48 (by decide) (by decide)).trans ((hFvy429 48 (by decide) (by decide)).trans ((hFvy427 48 (by decide) (by decide)).trans ((hFvy304 48 (by decide) (by decide) (by decide) (by decide) (by decide) (by decide) (by decide)).trans ((hFvy283 48 (by decide) (by decide) (by decide) (by decide) (by decide) (by decide) (by decide)).trans ((hFvy273 48 (by decide) (by decide) (by decide) (by decide) (by decide)).trans ((hFvy238 48 (by decide) (by decide)).trans ((hFvy226 48 (by decide) (by decide) (by decide) (by decide) (by decide)).trans ((hFvy208 48 (by decide) (by decide)).trans ((hFvy148 48 (by decide) (by decide)).trans ((hFvy97 48 (by decide) (by decide)).trans ((hFvy54 48 (by decide) (by decide)).trans (hFvy19 48 (by decide) (by decide) (by decide) (by decide) (by decide)))))))))))))))) (by decide))
                        have hey653 : (uZ Fvy591 49 ((F 49) + 1)) 49 = (F 49) + 1 := (uZ_s _ _ _)
                        have hfry655 : ∀ j, j ≠ ny209 → ry635 j = mn1 j := fun j n0 => (congrFun hvy636 _).trans ((uZ_n _ _ n0).trans (rfl))
                        have hwy656 : ry635 (ny209) = (mn1 (ny209)) + 1 := (congrFun hvy636 _).trans (uZ_s _ _ _)
                        have haky654 : ∀ k, k < 4 → 0 ≤ ry635 k ∧ ry635 k ≤ 12 := by
                          intro k hk
                          by_cases e : k = ny209
                          · subst e; have hk0 := hmn1 (ny209) (by omega); omega
                          · have hk0 := hmn1 k hk; rw [hfry655 k e]; exact hk0
                        have hfry659 : ∀ j, j ≠ ny209 → ry635 j = mn1 j := fun j n0 => (congrFun hvy636 _).trans ((uZ_n _ _ n0).trans (rfl))
                        have hfry660 : ∀ j, j ≠ kqy212 + 6 → j ≠ kqy212 + 5 → j ≠ kqy212 + 4 → j ≠ kqy212 + 3 → j ≠ kqy212 + 2 → j ≠ kqy212 + 1 → j ≠ kqy212 → ry611 j = ly1 j := fun j n0 n1 n2 n3 n4 n5 n6 => (congrFun hvy612 _).trans ((uZ_n _ _ n0).trans ((congrFun hvy606 _).trans ((uZ_n _ _ n1).trans ((congrFun hvy600 _).trans ((uZ_n _ _ n2).trans ((congrFun hvy565 _).trans ((uZ_n _ _ n3).trans ((congrFun hvy312 _).trans ((uZ_n _ _ n4).trans ((congrFun hvy292 _).trans ((uZ_n _ _ n5).trans ((congrFun hvy260 _).trans ((uZ_n _ _ n6).trans (rfl))))))))))))))
                        have hwy661 : ry635 (ny209) = (mn1 (ny209)) + 1 := (congrFun hvy636 _).trans (uZ_s _ _ _)
                        have hwy662 : ry611 (kqy212) = vy247 := (congrFun hvy612 _).trans ((uZ_n _ _ (by omega)).trans ((congrFun hvy606 _).trans ((uZ_n _ _ (by omega)).trans ((congrFun hvy600 _).trans ((uZ_n _ _ (by omega)).trans ((congrFun hvy565 _).trans ((uZ_n _ _ (by omega)).trans ((congrFun hvy312 _).trans ((uZ_n _ _ (by omega)).trans ((congrFun hvy292 _).trans ((uZ_n _ _ (by omega)).trans ((congrFun hvy260 _).trans (uZ_s _ _ _)))))))))))))
                        have hwy663 : ry611 (kqy212 + 1) = vy283 := (congrFun hvy612 _).trans ((uZ_n _ _ (by omega)).trans ((congrFun hvy606 _).trans ((uZ_n _ _ (by omega)).trans ((congrFun hvy600 _).trans ((uZ_n _ _ (by omega)).trans ((congrFun hvy565 _).trans ((uZ_n _ _ (by omega)).trans ((congrFun hvy312 _).trans ((uZ_n _ _ (by omega)).trans ((congrFun hvy292 _).trans (uZ_s _ _ _)))))))))))
                        have hwy664 : ry611 (kqy212 + 2) = vy304 := (congrFun hvy612 _).trans ((uZ_n _ _ (by omega)).trans ((congrFun hvy606 _).trans ((uZ_n _ _ (by omega)).trans ((congrFun hvy600 _).trans ((uZ_n _ _ (by omega)).trans ((congrFun hvy565 _).trans ((uZ_n _ _ (by omega)).trans ((congrFun hvy312 _).trans (uZ_s _ _ _)))))))))
                        have hwy665 : ry611 (kqy212 + 3) = Fvy304 36 := (congrFun hvy612 _).trans ((uZ_n _ _ (by omega)).trans ((congrFun hvy606 _).trans ((uZ_n _ _ (by omega)).trans ((congrFun hvy600 _).trans ((uZ_n _ _ (by omega)).trans ((congrFun hvy565 _).trans (uZ_s _ _ _)))))))
                        have hwy666 : ry611 (kqy212 + 4) = -(vy591) := (congrFun hvy612 _).trans ((uZ_n _ _ (by omega)).trans ((congrFun hvy606 _).trans ((uZ_n _ _ (by omega)).trans ((congrFun hvy600 _).trans (uZ_s _ _ _)))))
                        have hwy667 : ry611 (kqy212 + 6) = F 49 := (congrFun hvy612 _).trans (uZ_s _ _ _)
                        have hlyn : lyT ry611 kqy212 := by unfold lyT; omega
                        have hlay658 : ∀ s l : Nat, (s : Int) < (uZ Fvy591 49 ((F 49) + 1)) 47 → (l : Int) < ry635 s → lyT ry611 (84 * s + 7 * l) := by
                          intro s l a1 a2
                          by_cases e : s = ny209
                          · subst e; by_cases e2 : (l : Int) = mn1 s
                            · rw [show 84 * s + 7 * l = kqy212 by omega]; exact hlyn
                            · exact (hly1 s l (by omega) (by omega)).ext (fun j b1 b2 => hfry660 j (by omega) (by omega) (by omega) (by omega) (by omega) (by omega) (by omega))
                          · have hs9 := hfry659 s e; rw [hs9] at a2; have hm9 := hmn1 s (by omega); exact (hly1 s l (by omega) a2).ext (fun j b1 b2 => hfry660 j (by omega) (by omega) (by omega) (by omega) (by omega) (by omega) (by omega))
                        have hgy668 := (hfvy19 (i + 16) (ne_o (i := i) (c := 16) (d := 0) rfl)).trans ha16
                        have hgy669 := (hfvy54 (i + 16) (ne_o (i := i) (c := 16) (d := 0) rfl)).trans hgy668
                        have hgy670 := (hfvy97 (i + 16) (ne_o (i := i) (c := 16) (d := 0) rfl)).trans hgy669
                        have hgy671 := (hfvy148 (i + 16) (ne_o (i := i) (c := 16) (d := 0) rfl)).trans hgy670
                        have hgy672 := (hfvy208 (i + 16) (ne_o (i := i) (c := 16) (d := 0) rfl)).trans hgy671
                        have hgy673 := (hfvy226 (i + 16) (ne_o (i := i) (c := 16) (d := 0) rfl)).trans hgy672
                        have hgy674 := (hfvy238 (i + 16) (ne_o (i := i) (c := 16) (d := 0) rfl)).trans hgy673
                        have hgy675 := up_n egy257 hgy674 (ne_o (i := i) (c := 16) (d := 23) rfl)
                        have hgy676 := (hfvy273 (i + 16) (ne_o (i := i) (c := 16) (d := 0) rfl)).trans hgy675
                        have hgy677 := (hfvy283 (i + 16) (ne_o (i := i) (c := 16) (d := 0) rfl)).trans hgy676
                        have hgy678 := up_n egy289 hgy677 (ne_o (i := i) (c := 16) (d := 23) rfl)
                        have hgy679 := (hfvy304 (i + 16) (ne_o (i := i) (c := 16) (d := 0) rfl)).trans hgy678
                        have hgy680 := up_n egy309 hgy679 (ne_o (i := i) (c := 16) (d := 23) rfl)
                        have hgy681 := (hfvy427 (i + 16) (ne_o (i := i) (c := 16) (d := 0) rfl)).trans hgy680
                        have hgy682 := (hfvy429 (i + 16) (ne_o (i := i) (c := 16) (d := 0) rfl)).trans hgy681
                        have hgy683 := (hfvy559 (i + 16) (ne_o (i := i) (c := 16) (d := 0) rfl)).trans hgy682
                        have hgy684 := up_n egy562 hgy683 (ne_o (i := i) (c := 16) (d := 23) rfl)
                        have hgy685 := (hfvy581 (i + 16) (ne_o (i := i) (c := 16) (d := 0) rfl)).trans hgy684
                        have hgy686 := (hfvy591 (i + 16) (ne_o (i := i) (c := 16) (d := 0) rfl)).trans hgy685
                        have hgy687 := up_n egy597 hgy686 (ne_o (i := i) (c := 16) (d := 23) rfl)
                        have hgy688 := up_n egy603 hgy687 (ne_o (i := i) (c := 16) (d := 23) rfl)
                        have hgy689 := up_n egy609 hgy688 (ne_o (i := i) (c := 16) (d := 23) rfl)
                        have hgy690 := up_n egy633 hgy689 (ne_o (i := i) (c := 16) (d := 18) rfl)
                        have hgy691 := up_n egy639 hgy690 (ne_o (i := i) (c := 16) (d := 0) rfl)
                        have hgy692 := (hfvy19 (i + 17) (ne_o (i := i) (c := 17) (d := 0) rfl)).trans ha17
                        have hgy693 := (hfvy54 (i + 17) (ne_o (i := i) (c := 17) (d := 0) rfl)).trans hgy692
                        have hgy694 := (hfvy97 (i + 17) (ne_o (i := i) (c := 17) (d := 0) rfl)).trans hgy693
                        have hgy695 := (hfvy148 (i + 17) (ne_o (i := i) (c := 17) (d := 0) rfl)).trans hgy694
                        have hgy696 := (hfvy208 (i + 17) (ne_o (i := i) (c := 17) (d := 0) rfl)).trans hgy695
                        have hgy697 := (hfvy226 (i + 17) (ne_o (i := i) (c := 17) (d := 0) rfl)).trans hgy696
                        have hgy698 := (hfvy238 (i + 17) (ne_o (i := i) (c := 17) (d := 0) rfl)).trans hgy697
                        have hgy699 := up_n egy257 hgy698 (ne_o (i := i) (c := 17) (d := 23) rfl)
                        have hgy700 := (hfvy273 (i + 17) (ne_o (i := i) (c := 17) (d := 0) rfl)).trans hgy699
                        have hgy701 := (hfvy283 (i + 17) (ne_o (i := i) (c := 17) (d := 0) rfl)).trans hgy700
                        have hgy702 := up_n egy289 hgy701 (ne_o (i := i) (c := 17) (d := 23) rfl)
                        have hgy703 := (hfvy304 (i + 17) (ne_o (i := i) (c := 17) (d := 0) rfl)).trans hgy702
                        have hgy704 := up_n egy309 hgy703 (ne_o (i := i) (c := 17) (d := 23) rfl)
                        have hgy705 := (hfvy427 (i + 17) (ne_o (i := i) (c := 17) (d := 0) rfl)).trans hgy704
                        have hgy706 := (hfvy429 (i + 17) (ne_o (i := i) (c := 17) (d := 0) rfl)).trans hgy705
                        have hgy707 := (hfvy559 (i + 17) (ne_o (i := i) (c := 17) (d := 0) rfl)).trans hgy706
                        have hgy708 := up_n egy562 hgy707 (ne_o (i := i) (c := 17) (d := 23) rfl)
                        have hgy709 := (hfvy581 (i + 17) (ne_o (i := i) (c := 17) (d := 0) rfl)).trans hgy708
                        have hgy710 := (hfvy591 (i + 17) (ne_o (i := i) (c := 17) (d := 0) rfl)).trans hgy709
                        have hgy711 := up_n egy597 hgy710 (ne_o (i := i) (c := 17) (d := 23) rfl)
                        have hgy712 := up_n egy603 hgy711 (ne_o (i := i) (c := 17) (d := 23) rfl)
                        have hgy713 := up_n egy609 hgy712 (ne_o (i := i) (c := 17) (d := 23) rfl)
                        have hgy714 := up_n egy633 hgy713 (ne_o (i := i) (c := 17) (d := 18) rfl)
                        have hgy715 := up_n egy639 hgy714 (ne_o (i := i) (c := 17) (d := 0) rfl)
                        have hgy716 := up_n egy639 hgy634 (ne_o (i := i) (c := 18) (d := 0) rfl)
                        have hgy717 := (hfvy19 (i + 19) (ne_o (i := i) (c := 19) (d := 0) rfl)).trans ha19
                        have hgy718 := (hfvy54 (i + 19) (ne_o (i := i) (c := 19) (d := 0) rfl)).trans hgy717
                        have hgy719 := (hfvy97 (i + 19) (ne_o (i := i) (c := 19) (d := 0) rfl)).trans hgy718
                        have hgy720 := (hfvy148 (i + 19) (ne_o (i := i) (c := 19) (d := 0) rfl)).trans hgy719
                        have hgy721 := (hfvy208 (i + 19) (ne_o (i := i) (c := 19) (d := 0) rfl)).trans hgy720
                        have hgy722 := (hfvy226 (i + 19) (ne_o (i := i) (c := 19) (d := 0) rfl)).trans hgy721
                        have hgy723 := (hfvy238 (i + 19) (ne_o (i := i) (c := 19) (d := 0) rfl)).trans hgy722
                        have hgy724 := up_n egy257 hgy723 (ne_o (i := i) (c := 19) (d := 23) rfl)
                        have hgy725 := (hfvy273 (i + 19) (ne_o (i := i) (c := 19) (d := 0) rfl)).trans hgy724
                        have hgy726 := (hfvy283 (i + 19) (ne_o (i := i) (c := 19) (d := 0) rfl)).trans hgy725
                        have hgy727 := up_n egy289 hgy726 (ne_o (i := i) (c := 19) (d := 23) rfl)
                        have hgy728 := (hfvy304 (i + 19) (ne_o (i := i) (c := 19) (d := 0) rfl)).trans hgy727
                        have hgy729 := up_n egy309 hgy728 (ne_o (i := i) (c := 19) (d := 23) rfl)
                        have hgy730 := (hfvy427 (i + 19) (ne_o (i := i) (c := 19) (d := 0) rfl)).trans hgy729
                        have hgy731 := (hfvy429 (i + 19) (ne_o (i := i) (c := 19) (d := 0) rfl)).trans hgy730
                        have hgy732 := (hfvy559 (i + 19) (ne_o (i := i) (c := 19) (d := 0) rfl)).trans hgy731
                        have hgy733 := up_n egy562 hgy732 (ne_o (i := i) (c := 19) (d := 23) rfl)
                        have hgy734 := (hfvy581 (i + 19) (ne_o (i := i) (c := 19) (d := 0) rfl)).trans hgy733
                        have hgy735 := (hfvy591 (i + 19) (ne_o (i := i) (c := 19) (d := 0) rfl)).trans hgy734
                        have hgy736 := up_n egy597 hgy735 (ne_o (i := i) (c := 19) (d := 23) rfl)
                        have hgy737 := up_n egy603 hgy736 (ne_o (i := i) (c := 19) (d := 23) rfl)
                        have hgy738 := up_n egy609 hgy737 (ne_o (i := i) (c := 19) (d := 23) rfl)
                        have hgy739 := up_n egy633 hgy738 (ne_o (i := i) (c := 19) (d := 18) rfl)
                        have hgy740 := up_n egy639 hgy739 (ne_o (i := i) (c := 19) (d := 0) rfl)
                        have hgy741 := (hfvy19 (i + 20) (ne_o (i := i) (c := 20) (d := 0) rfl)).trans ha20
                        have hgy742 := (hfvy54 (i + 20) (ne_o (i := i) (c := 20) (d := 0) rfl)).trans hgy741
                        have hgy743 := (hfvy97 (i + 20) (ne_o (i := i) (c := 20) (d := 0) rfl)).trans hgy742
                        have hgy744 := (hfvy148 (i + 20) (ne_o (i := i) (c := 20) (d := 0) rfl)).trans hgy743
                        have hgy745 := (hfvy208 (i + 20) (ne_o (i := i) (c := 20) (d := 0) rfl)).trans hgy744
                        have hgy746 := (hfvy226 (i + 20) (ne_o (i := i) (c := 20) (d := 0) rfl)).trans hgy745
                        have hgy747 := (hfvy238 (i + 20) (ne_o (i := i) (c := 20) (d := 0) rfl)).trans hgy746
                        have hgy748 := up_n egy257 hgy747 (ne_o (i := i) (c := 20) (d := 23) rfl)
                        have hgy749 := (hfvy273 (i + 20) (ne_o (i := i) (c := 20) (d := 0) rfl)).trans hgy748
                        have hgy750 := (hfvy283 (i + 20) (ne_o (i := i) (c := 20) (d := 0) rfl)).trans hgy749
                        have hgy751 := up_n egy289 hgy750 (ne_o (i := i) (c := 20) (d := 23) rfl)
                        have hgy752 := (hfvy304 (i + 20) (ne_o (i := i) (c := 20) (d := 0) rfl)).trans hgy751
                        have hgy753 := up_n egy309 hgy752 (ne_o (i := i) (c := 20) (d := 23) rfl)
                        have hgy754 := (hfvy427 (i + 20) (ne_o (i := i) (c := 20) (d := 0) rfl)).trans hgy753
                        have hgy755 := (hfvy429 (i + 20) (ne_o (i := i) (c := 20) (d := 0) rfl)).trans hgy754
                        have hgy756 := (hfvy559 (i + 20) (ne_o (i := i) (c := 20) (d := 0) rfl)).trans hgy755
                        have hgy757 := up_n egy562 hgy756 (ne_o (i := i) (c := 20) (d := 23) rfl)
                        have hgy758 := (hfvy581 (i + 20) (ne_o (i := i) (c := 20) (d := 0) rfl)).trans hgy757
                        have hgy759 := (hfvy591 (i + 20) (ne_o (i := i) (c := 20) (d := 0) rfl)).trans hgy758
                        have hgy760 := up_n egy597 hgy759 (ne_o (i := i) (c := 20) (d := 23) rfl)
                        have hgy761 := up_n egy603 hgy760 (ne_o (i := i) (c := 20) (d := 23) rfl)
                        have hgy762 := up_n egy609 hgy761 (ne_o (i := i) (c := 20) (d := 23) rfl)
                        have hgy763 := up_n egy633 hgy762 (ne_o (i := i) (c := 20) (d := 18) rfl)
                        have hgy764 := up_n egy639 hgy763 (ne_o (i := i) (c := 20) (d := 0) rfl)
                        have hgy765 := (hfvy19 (i + 21) (ne_o (i := i) (c := 21) (d := 0) rfl)).trans ha21
                        have hgy766 := (hfvy54 (i + 21) (ne_o (i := i) (c := 21) (d := 0) rfl)).trans hgy765
                        have hgy767 := (hfvy97 (i + 21) (ne_o (i := i) (c := 21) (d := 0) rfl)).trans hgy766
                        have hgy768 := (hfvy148 (i + 21) (ne_o (i := i) (c := 21) (d := 0) rfl)).trans hgy767
                        have hgy769 := (hfvy208 (i + 21) (ne_o (i := i) (c := 21) (d := 0) rfl)).trans hgy768
                        have hgy770 := (hfvy226 (i + 21) (ne_o (i := i) (c := 21) (d := 0) rfl)).trans hgy769
                        have hgy771 := (hfvy238 (i + 21) (ne_o (i := i) (c := 21) (d := 0) rfl)).trans hgy770
                        have hgy772 := up_n egy257 hgy771 (ne_o (i := i) (c := 21) (d := 23) rfl)
                        have hgy773 := (hfvy273 (i + 21) (ne_o (i := i) (c := 21) (d := 0) rfl)).trans hgy772
                        have hgy774 := (hfvy283 (i + 21) (ne_o (i := i) (c := 21) (d := 0) rfl)).trans hgy773
                        have hgy775 := up_n egy289 hgy774 (ne_o (i := i) (c := 21) (d := 23) rfl)
                        have hgy776 := (hfvy304 (i + 21) (ne_o (i := i) (c := 21) (d := 0) rfl)).trans hgy775
                        have hgy777 := up_n egy309 hgy776 (ne_o (i := i) (c := 21) (d := 23) rfl)
                        have hgy778 := (hfvy427 (i + 21) (ne_o (i := i) (c := 21) (d := 0) rfl)).trans hgy777
                        have hgy779 := (hfvy429 (i + 21) (ne_o (i := i) (c := 21) (d := 0) rfl)).trans hgy778
                        have hgy780 := (hfvy559 (i + 21) (ne_o (i := i) (c := 21) (d := 0) rfl)).trans hgy779
                        have hgy781 := up_n egy562 hgy780 (ne_o (i := i) (c := 21) (d := 23) rfl)
                        have hgy782 := (hfvy581 (i + 21) (ne_o (i := i) (c := 21) (d := 0) rfl)).trans hgy781
                        have hgy783 := (hfvy591 (i + 21) (ne_o (i := i) (c := 21) (d := 0) rfl)).trans hgy782
                        have hgy784 := up_n egy597 hgy783 (ne_o (i := i) (c := 21) (d := 23) rfl)
                        have hgy785 := up_n egy603 hgy784 (ne_o (i := i) (c := 21) (d := 23) rfl)
                        have hgy786 := up_n egy609 hgy785 (ne_o (i := i) (c := 21) (d := 23) rfl)
                        have hgy787 := up_n egy633 hgy786 (ne_o (i := i) (c := 21) (d := 18) rfl)
                        have hgy788 := up_n egy639 hgy787 (ne_o (i := i) (c := 21) (d := 0) rfl)
                        have hgy789 := (hfvy19 (i + 22) (ne_o (i := i) (c := 22) (d := 0) rfl)).trans ha22
                        have hgy790 := (hfvy54 (i + 22) (ne_o (i := i) (c := 22) (d := 0) rfl)).trans hgy789
                        have hgy791 := (hfvy97 (i + 22) (ne_o (i := i) (c := 22) (d := 0) rfl)).trans hgy790
                        have hgy792 := (hfvy148 (i + 22) (ne_o (i := i) (c := 22) (d := 0) rfl)).trans hgy791
                        have hgy793 := (hfvy208 (i + 22) (ne_o (i := i) (c := 22) (d := 0) rfl)).trans hgy792
                        have hgy794 := (hfvy226 (i + 22) (ne_o (i := i) (c := 22) (d := 0) rfl)).trans hgy793
                        have hgy795 := (hfvy238 (i + 22) (ne_o (i := i) (c := 22) (d := 0) rfl)).trans hgy794
                        have hgy796 := up_n egy257 hgy795 (ne_o (i := i) (c := 22) (d := 23) rfl)
                        have hgy797 := (hfvy273 (i + 22) (ne_o (i := i) (c := 22) (d := 0) rfl)).trans hgy796
                        have hgy798 := (hfvy283 (i + 22) (ne_o (i := i) (c := 22) (d := 0) rfl)).trans hgy797
                        have hgy799 := up_n egy289 hgy798 (ne_o (i := i) (c := 22) (d := 23) rfl)
                        have hgy800 := (hfvy304 (i + 22) (ne_o (i := i) (c := 22) (d := 0) rfl)).trans hgy799
                        have hgy801 := up_n egy309 hgy800 (ne_o (i := i) (c := 22) (d := 23) rfl)
                        have hgy802 := (hfvy427 (i + 22) (ne_o (i := i) (c := 22) (d := 0) rfl)).trans hgy801
                        have hgy803 := (hfvy429 (i + 22) (ne_o (i := i) (c := 22) (d := 0) rfl)).trans hgy802
                        have hgy804 := (hfvy559 (i + 22) (ne_o (i := i) (c := 22) (d := 0) rfl)).trans hgy803
                        have hgy805 := up_n egy562 hgy804 (ne_o (i := i) (c := 22) (d := 23) rfl)
                        have hgy806 := (hfvy581 (i + 22) (ne_o (i := i) (c := 22) (d := 0) rfl)).trans hgy805
                        have hgy807 := (hfvy591 (i + 22) (ne_o (i := i) (c := 22) (d := 0) rfl)).trans hgy806
                        have hgy808 := up_n egy597 hgy807 (ne_o (i := i) (c := 22) (d := 23) rfl)
                        have hgy809 := up_n egy603 hgy808 (ne_o (i := i) (c := 22) (d := 23) rfl)
                        have hgy810 := up_n egy609 hgy809 (ne_o (i := i) (c := 22) (d := 23) rfl)
                        have hgy811 := up_n egy633 hgy810 (ne_o (i := i) (c := 22) (d := 18) rfl)
                        have hgy812 := up_n egy639 hgy811 (ne_o (i := i) (c := 22) (d := 0) rfl)
                        have hgy813 := up_n egy633 hgy610 (ne_o (i := i) (c := 23) (d := 18) rfl)
                        have hgy814 := up_n egy639 hgy813 (ne_o (i := i) (c := 23) (d := 0) rfl)
                        have htxy815 : okTx cs gy638 i (uZ Fvy591 49 ((F 49) + 1)) := ⟨_, _, _, _, _, _, _, _, ⟨hgy691, hgy715, hgy716, hgy740, hgy764, hgy788, hgy812, hgy814⟩, ⟨⟨by omega, by omega, by omega⟩, hop1, haky654, hai1, hfa1, htb1, hlay658⟩⟩
                        exact z_vret C hr hlk dX10_layer1_348 (by decide) (by decide) ⟨rfl, rfl, rfl, ⟨_, hgy640, hrdy649, by omega, by omega, hFy641, htxy815⟩, fun j j1 j2 => by rw [egy639, va_up_ne _ _ (by omega)]; rw [egy633, va_up_ne _ _ (by omega)]; rw [egy609, va_up_ne _ _ (by omega)]; rw [egy603, va_up_ne _ _ (by omega)]; rw [egy597, va_up_ne _ _ (by omega)]; rw [hfvy591 _ (by omega)]; rw [hfvy581 _ (by omega)]; rw [egy562, va_up_ne _ _ (by omega)]; rw [hfvy559 _ (by omega)]; rw [hfvy429 _ (by omega)]; rw [hfvy427 _ (by omega)]; rw [egy309, va_up_ne _ _ (by omega)]; rw [hfvy304 _ (by omega)]; rw [egy289, va_up_ne _ _ (by omega)]; rw [hfvy283 _ (by omega)]; rw [hfvy273 _ (by omega)]; rw [egy257, va_up_ne _ _ (by omega)]; rw [hfvy238 _ (by omega)]; rw [hfvy226 _ (by omega)]; rw [hfvy208 _ (by omega)]; rw [hfvy148 _ (by omega)]; rw [hfvy97 _ (by omega)]; rw [hfvy54 _ (by omega)]; rw [hfvy19 _ (by omega)]⟩
                      · refine z_ineg C dX10_layer1_304 ?_
                        have hgy816 := (hfvy581 (i + 23) (ne_o (i := i) (c := 23) (d := 0) rfl)).trans hgy563
                        have hgy817 := (hfvy591 (i + 23) (ne_o (i := i) (c := 23) (d := 0) rfl)).trans hgy816
                        refine z_iast C (by omega) hay10 hgy817 (kqy212 + 4) (by omega) (by omega) (by decide) dX10_layer1_305 (fun gy818 egy819 => ?_)
                        have hgy820 := up_s egy819
                        obtain ⟨ry821, hvy822⟩ : ∃ rZ9 : Nat → Int, rZ9 = uZ ry564 (kqy212 + 4) (-(vy591)) := ⟨_, rfl⟩
                        rw [← hvy822] at hgy820
                        refine z_aload_n C 2 dX10_layer1_306 rfl ?_
                        have hgy823 := up_n egy819 hcvy591 (ne_o (i := i) (c := 0) (d := 23) rfl)
                        refine z_get (v := .ref (ad (i + 23))) C (by omega) hay1 hgy823 rfl inA_X10 46 (by decide) q_1505 rfl rfl dX10_layer1_307 ?_
                        refine z_iload_n C 0 dX10_layer1_310 rfl ?_
                        refine z_iconst (z := 5) C dX10_layer1_311 rfl ?_
                        refine z_iadd C dX10_layer1_312 ?_
                        refine z_iconst (z := 0) C dX10_layer1_313 rfl ?_
                        refine z_iast C (by omega) hay10 hgy820 (kqy212 + 5) (by omega) (by omega) (by decide) dX10_layer1_314 (fun gy824 egy825 => ?_)
                        have hgy826 := up_s egy825
                        obtain ⟨ry827, hvy828⟩ : ∃ rZ9 : Nat → Int, rZ9 = uZ ry821 (kqy212 + 5) (0) := ⟨_, rfl⟩
                        rw [← hvy828] at hgy826
                        refine z_aload_n C 2 dX10_layer1_315 rfl ?_
                        have hgy829 := up_n egy825 hgy823 (ne_o (i := i) (c := 0) (d := 23) rfl)
                        refine z_get (v := .ref (ad (i + 23))) C (by omega) hay1 hgy829 rfl inA_X10 46 (by decide) q_1505 rfl rfl dX10_layer1_316 ?_
                        refine z_iload_n C 0 dX10_layer1_319 rfl ?_
                        refine z_bipush (z := 6) C dX10_layer1_320 (by decide) ?_
                        refine z_iadd C dX10_layer1_322 ?_
                        refine z_aload_n C 2 dX10_layer1_323 rfl ?_
                        refine z_get (v := .int (zI (F 49))) C (by omega) hay1 hgy829 rfl inA_X10 49 (by decide) q_1508 rfl (fv (F := Fvy591) (f := 49) ((hFvy591 49 (by decide) (by decide) (by decide) (by decide) (by decide) (by decide) (by decide)).trans ((hFvy581 49 (by decide) (by decide) (by decide) (by decide) (by decide)).trans ((hFvy559 49 (by decide) (by decide)).trans ((hFvy429 49 (by decide) (by decide)).trans ((hFvy427 49 (by decide) (by decide)).trans ((hFvy304 49 (by decide) (by decide) (by decide) (by decide) (by decide) (by decide) (by decide)).trans ((hFvy283 49 (by decide) (by decide) (by decide) (by decide) (by decide) (by decide) (by decide)).trans ((hFvy273 49 (by decide) (by decide) (by decide) (by decide) (by decide)).trans ((hFvy238 49 (by decide) (by decide)).trans ((hFvy226 49 (by decide) (by decide) (by decide) (by decide) (by decide)).trans ((hFvy208 49 (by decide) (by decide)).trans ((hFvy148 49 (by decide) (by decide)).trans ((hFvy97 49 (by decide) (by decide)).trans ((hFvy54 49 (by decide) (by decide)).trans (hFvy19 49 (by decide) (by decide) (by decide) (by decide) (by decide))))))))))))))))) dX10_layer1_324 ?_
                        refine z_iast C (by omega) hay10 hgy826 (kqy212 + 6) (by omega) (by omega) (by decide) dX10_layer1_327 (fun gy830 egy831 => ?_)
                        have hgy832 := up_s egy831
                        obtain ⟨ry833, hvy834⟩ : ∃ rZ9 : Nat → Int, rZ9 = uZ ry827 (kqy212 + 6) (F 49) := ⟨_, rfl⟩
                        rw [← hvy834] at hgy832
                        refine z_aload_n C 2 dX10_layer1_328 rfl ?_
                        have hgy835 := up_n egy831 hgy829 (ne_o (i := i) (c := 0) (d := 23) rfl)
                        refine z_get (v := .ref (ad (i + 18))) C (by omega) hay1 hgy835 rfl inA_X10 41 (by decide) q_1500 rfl rfl dX10_layer1_329 ?_
                        refine z_iload_n C 1 dX10_layer1_332 rfl ?_
                        refine z_dup2 C dX10_layer1_333 rfl rfl ?_
                        have hgy836 := (hfvy226 (i + 18) (ne_o (i := i) (c := 18) (d := 0) rfl)).trans hgy210
                        have hgy837 := (hfvy238 (i + 18) (ne_o (i := i) (c := 18) (d := 0) rfl)).trans hgy836
                        have hgy838 := up_n egy257 hgy837 (ne_o (i := i) (c := 18) (d := 23) rfl)
                        have hgy839 := (hfvy273 (i + 18) (ne_o (i := i) (c := 18) (d := 0) rfl)).trans hgy838
                        have hgy840 := (hfvy283 (i + 18) (ne_o (i := i) (c := 18) (d := 0) rfl)).trans hgy839
                        have hgy841 := up_n egy289 hgy840 (ne_o (i := i) (c := 18) (d := 23) rfl)
                        have hgy842 := (hfvy304 (i + 18) (ne_o (i := i) (c := 18) (d := 0) rfl)).trans hgy841
                        have hgy843 := up_n egy309 hgy842 (ne_o (i := i) (c := 18) (d := 23) rfl)
                        have hgy844 := (hfvy427 (i + 18) (ne_o (i := i) (c := 18) (d := 0) rfl)).trans hgy843
                        have hgy845 := (hfvy429 (i + 18) (ne_o (i := i) (c := 18) (d := 0) rfl)).trans hgy844
                        have hgy846 := (hfvy559 (i + 18) (ne_o (i := i) (c := 18) (d := 0) rfl)).trans hgy845
                        have hgy847 := up_n egy562 hgy846 (ne_o (i := i) (c := 18) (d := 23) rfl)
                        have hgy848 := (hfvy581 (i + 18) (ne_o (i := i) (c := 18) (d := 0) rfl)).trans hgy847
                        have hgy849 := (hfvy591 (i + 18) (ne_o (i := i) (c := 18) (d := 0) rfl)).trans hgy848
                        have hgy850 := up_n egy819 hgy849 (ne_o (i := i) (c := 18) (d := 23) rfl)
                        have hgy851 := up_n egy825 hgy850 (ne_o (i := i) (c := 18) (d := 23) rfl)
                        have hgy852 := up_n egy831 hgy851 (ne_o (i := i) (c := 18) (d := 23) rfl)
                        refine z_iald C (by omega) hay5 hgy852 (ny209) (by omega) (by omega) (by decide) dX10_layer1_334 ?_
                        have hrfy853 := hmn1 (ny209) (by omega)
                        refine z_iconst (z := 1) C dX10_layer1_335 rfl ?_
                        refine z_iadd C dX10_layer1_336 ?_
                        refine z_iast C (by omega) hay5 hgy852 (ny209) (by omega) (by omega) (by decide) dX10_layer1_337 (fun gy854 egy855 => ?_)
                        have hgy856 := up_s egy855
                        obtain ⟨ry857, hvy858⟩ : ∃ rZ9 : Nat → Int, rZ9 = uZ mn1 (ny209) ((mn1 (ny209)) + 1) := ⟨_, rfl⟩
                        rw [← hvy858] at hgy856
                        refine z_aload_n C 2 dX10_layer1_338 rfl ?_
                        refine z_dup C dX10_layer1_339 rfl ?_
                        have hgy859 := up_n egy855 hgy835 (ne_o (i := i) (c := 0) (d := 18) rfl)
                        refine z_get (v := .int (zI (F 49))) C (by omega) hay1 hgy859 rfl inA_X10 49 (by decide) q_1508 rfl (fv (F := Fvy591) (f := 49) ((hFvy591 49 (by decide) (by decide) (by decide) (by decide) (by decide) (by decide) (by decide)).trans ((hFvy581 49 (by decide) (by decide) (by decide) (by decide) (by decide)).trans ((hFvy559 49 (by decide) (by decide)).trans ((hFvy429 49 (by decide) (by decide)).trans ((hFvy427 49 (by decide) (by decide)).trans ((hFvy304 49 (by decide) (by decide) (by decide) (by decide) (by decide) (by decide) (by decide)).trans ((hFvy283 49 (by decide) (by decide) (by decide) (by decide) (by decide) (by decide) (by decide)).trans ((hFvy273 49 (by decide) (by decide) (by decide) (by decide) (by decide)).trans ((hFvy238 49 (by decide) (by decide)).trans ((hFvy226 49 (by decide) (by decide) (by decide) (by decide) (by decide)).trans ((hFvy208 49 (by decide) (by decide)).trans ((hFvy148 49 (by decide) (by decide)).trans ((hFvy97 49 (by decide) (by decide)).trans ((hFvy54 49 (by decide) (by decide)).trans (hFvy19 49 (by decide) (by decide) (by decide) (by decide) (by decide))))))))))))))))) dX10_layer1_340 ?_
                        refine z_iconst (z := 1) C dX10_layer1_343 rfl ?_
                        refine z_iadd C dX10_layer1_344 ?_
                        refine z_put (fs' := mF ad (i) (uZ Fvy591 49 ((F 49) + 1))) C (by omega) hay1 hgy859 tyX10 tyX10_ok nmX10 rfl inA_X10 49 (by decide) q_1508 rfl rfl rfl rfl (Nat.le_of_ble_eq_true rfl) rfl dX10_layer1_345 (fun gy860 egy861 => ?_)
                        have hgy862 := up_s egy861
                        have hFy863 : ∀ f, f ≠ 24 → f ≠ 32 → f ≠ 33 → f ≠ 35 → f ≠ 36 → f ≠ 37 → f ≠ 38 → f ≠ 47 → f ≠ 48 → f ≠ 49 → (uZ Fvy591 49 ((F 49) + 1)) f = F f := fun f n24 n32 n33 n35 n36 n37 n38 n47 n48 n49 => ((uZ_n _ _ n49).trans ((hFvy591 f n24 n32 n33 n35 n36 n37 n38).trans ((hFvy581 f n32 n33 n35 n36 n37).trans ((hFvy559 f n24 n38).trans ((hFvy429 f n24 n38).trans ((hFvy427 f n24 n38).trans ((hFvy304 f n24 n32 n33 n35 n36 n37 n38).trans ((hFvy283 f n24 n32 n33 n35 n36 n37 n38).trans ((hFvy273 f n32 n33 n35 n36 n37).trans ((hFvy238 f n24 n38).trans ((hFvy226 f n32 n33 n35 n36 n37).trans ((hFvy208 f n24 n38).trans ((hFvy148 f n24 n38).trans ((hFvy97 f n24 n38).trans ((hFvy54 f n24 n38).trans (hFvy19 f n32 n33 n35 n36 n37))))))))))))))))
                        have hey864 : (uZ Fvy591 49 ((F 49) + 1)) 32 = Fvy591 32 := (fn rfl (by decide))
                        have hey865 : (uZ Fvy591 49 ((F 49) + 1)) 33 = Fvy591 33 := (fn rfl (by decide))
                        have hey866 : (uZ Fvy591 49 ((F 49) + 1)) 34 = F 34 := (fn ((hFvy591 34 (by decide) (by decide) (by decide) (by decide) (by decide) (by decide) (by decide)).trans ((hFvy581 34 (by decide) (by decide) (by decide) (by decide) (by decide)).trans ((hFvy559 34 (by decide) (by decide)).trans ((hFvy429 34 (by decide) (by decide)).trans ((hFvy427 34 (by decide) (by decide)).trans ((hFvy304 34 (by decide) (by decide) (by decide) (by decide) (by decide) (by decide) (by decide)).trans ((hFvy283 34 (by decide) (by decide) (by decide) (by decide) (by decide) (by decide) (by decide)).trans ((hFvy273 34 (by decide) (by decide) (by decide) (by decide) (by decide)).trans ((hFvy238 34 (by decide) (by decide)).trans ((hFvy226 34 (by decide) (by decide) (by decide) (by decide) (by decide)).trans ((hFvy208 34 (by decide) (by decide)).trans ((hFvy148 34 (by decide) (by decide)).trans ((hFvy97 34 (by decide) (by decide)).trans ((hFvy54 34 (by decide) (by decide)).trans (hFvy19 34 (by decide) (by decide) (by decide) (by decide) (by decide)))))))))))))))) (by decide))
                        have hey867 : (uZ Fvy591 49 ((F 49) + 1)) 35 = Fvy591 35 := (fn rfl (by decide))
                        have hey868 : (uZ Fvy591 49 ((F 49) + 1)) 36 = Fvy591 36 := (fn rfl (by decide))
                        have hey869 : (uZ Fvy591 49 ((F 49) + 1)) 37 = Fvy591 37 := (fn rfl (by decide))
                        have hey870 : (uZ Fvy591 49 ((F 49) + 1)) 38 = Fvy591 38 := (fn rfl (by decide))
                        have hrdy871 : RD (uZ Fvy591 49 ((F 49) + 1)) := by unfold RD; omega
                        have hey872 : (uZ Fvy591 49 ((F 49) + 1)) 32 = Fvy591 32 := (fn rfl (by decide))
                        have hey873 : (uZ Fvy591 49 ((F 49) + 1)) 47 = F 47 := (fn ((hFvy591 47 (by decide) (by decide) (by decide) (by decide) (by decide) (by decide) (by decide)).trans ((hFvy581 47 (by decide) (by decide) (by decide) (by decide) (by decide)).trans ((hFvy559 47 (by decide) (by decide)).trans ((hFvy429 47 (by decide) (by decide)).trans ((hFvy427 47 (by decide) (by decide)).trans ((hFvy304 47 (by decide) (by decide) (by decide) (by decide) (by decide) (by decide) (by decide)).trans ((hFvy283 47 (by decide) (by decide) (by decide) (by decide) (by decide) (by decide) (by decide)).trans ((hFvy273 47 (by decide) (by decide) (by decide) (by decide) (by decide)).trans ((hFvy238 47 (by decide) (by decide)).trans ((hFvy226 47 (by decide) (by decide) (by decide) (by decide) (by decide)).trans ((hFvy208 47 (by decide) (by decide)).trans ((hFvy148 47 (by decide) (by decide)).trans ((hFvy97 47 (by decide) (by decide)).trans ((hFvy54 47 (by decide) (by decide)).trans (hFvy19 47 (by decide) (by decide) (by decide) (by decide) (by decide)))))))))))))))) (by decide))
                        have hey874 : (uZ Fvy591 49 ((F 49) + 1)) 48 = F 48 := (fn ((hFvy591 48 (by decide) (by decide) (by decide) (by decide) (by decide) (by decide) (by decide)).trans ((hFvy581 48 (by decide) (by decide) (by decide) (by decide) (by decide)).trans ((hFvy559 48 (by decide) (by decide)).trans ((hFvy429 48 (by decide) (by decide)).trans ((hFvy427 48 (by decide) (by decide)).trans ((hFvy304 48 (by decide) (by decide) (by decide) (by decide) (by decide) (by decide) (by decide)).trans ((hFvy283 48 (by decide) (by decide) (by decide) (by decide) (by decide) (by decide) (by decide)).trans ((hFvy273 48 (by decide) (by decide) (by decide) (by decide) (by decide)).trans ((hFvy238 48 (by decide) (by decide)).trans ((hFvy226 48 (by decide) (by decide) (by decide) (by decide) (by decide)).trans ((hFvy208 48 (by decide) (by decide)).trans ((hFvy148 48 (by decide) (by decide)).trans ((hFvy97 48 (by decide) (by decide)).trans ((hFvy54 48 (by decide) (by decide)).trans (hFvy19 48 (by decide) (by decide) (by decide) (by decide) (by decide)))))))))))))))) (by decide))
                        have hey875 : (uZ Fvy591 49 ((F 49) + 1)) 49 = (F 49) + 1 := (uZ_s _ _ _)
                        have hfry877 : ∀ j, j ≠ ny209 → ry857 j = mn1 j := fun j n0 => (congrFun hvy858 _).trans ((uZ_n _ _ n0).trans (rfl))
                        have hwy878 : ry857 (ny209) = (mn1 (ny209)) + 1 := (congrFun hvy858 _).trans (uZ_s _ _ _)
                        have haky876 : ∀ k, k < 4 → 0 ≤ ry857 k ∧ ry857 k ≤ 12 := by
                          intro k hk
                          by_cases e : k = ny209
                          · subst e; have hk0 := hmn1 (ny209) (by omega); omega
                          · have hk0 := hmn1 k hk; rw [hfry877 k e]; exact hk0
                        have hfry881 : ∀ j, j ≠ ny209 → ry857 j = mn1 j := fun j n0 => (congrFun hvy858 _).trans ((uZ_n _ _ n0).trans (rfl))
                        have hfry882 : ∀ j, j ≠ kqy212 + 6 → j ≠ kqy212 + 5 → j ≠ kqy212 + 4 → j ≠ kqy212 + 3 → j ≠ kqy212 + 2 → j ≠ kqy212 + 1 → j ≠ kqy212 → ry833 j = ly1 j := fun j n0 n1 n2 n3 n4 n5 n6 => (congrFun hvy834 _).trans ((uZ_n _ _ n0).trans ((congrFun hvy828 _).trans ((uZ_n _ _ n1).trans ((congrFun hvy822 _).trans ((uZ_n _ _ n2).trans ((congrFun hvy565 _).trans ((uZ_n _ _ n3).trans ((congrFun hvy312 _).trans ((uZ_n _ _ n4).trans ((congrFun hvy292 _).trans ((uZ_n _ _ n5).trans ((congrFun hvy260 _).trans ((uZ_n _ _ n6).trans (rfl))))))))))))))
                        have hwy883 : ry857 (ny209) = (mn1 (ny209)) + 1 := (congrFun hvy858 _).trans (uZ_s _ _ _)
                        have hwy884 : ry833 (kqy212) = vy247 := (congrFun hvy834 _).trans ((uZ_n _ _ (by omega)).trans ((congrFun hvy828 _).trans ((uZ_n _ _ (by omega)).trans ((congrFun hvy822 _).trans ((uZ_n _ _ (by omega)).trans ((congrFun hvy565 _).trans ((uZ_n _ _ (by omega)).trans ((congrFun hvy312 _).trans ((uZ_n _ _ (by omega)).trans ((congrFun hvy292 _).trans ((uZ_n _ _ (by omega)).trans ((congrFun hvy260 _).trans (uZ_s _ _ _)))))))))))))
                        have hwy885 : ry833 (kqy212 + 1) = vy283 := (congrFun hvy834 _).trans ((uZ_n _ _ (by omega)).trans ((congrFun hvy828 _).trans ((uZ_n _ _ (by omega)).trans ((congrFun hvy822 _).trans ((uZ_n _ _ (by omega)).trans ((congrFun hvy565 _).trans ((uZ_n _ _ (by omega)).trans ((congrFun hvy312 _).trans ((uZ_n _ _ (by omega)).trans ((congrFun hvy292 _).trans (uZ_s _ _ _)))))))))))
                        have hwy886 : ry833 (kqy212 + 2) = vy304 := (congrFun hvy834 _).trans ((uZ_n _ _ (by omega)).trans ((congrFun hvy828 _).trans ((uZ_n _ _ (by omega)).trans ((congrFun hvy822 _).trans ((uZ_n _ _ (by omega)).trans ((congrFun hvy565 _).trans ((uZ_n _ _ (by omega)).trans ((congrFun hvy312 _).trans (uZ_s _ _ _)))))))))
                        have hwy887 : ry833 (kqy212 + 3) = Fvy304 36 := (congrFun hvy834 _).trans ((uZ_n _ _ (by omega)).trans ((congrFun hvy828 _).trans ((uZ_n _ _ (by omega)).trans ((congrFun hvy822 _).trans ((uZ_n _ _ (by omega)).trans ((congrFun hvy565 _).trans (uZ_s _ _ _)))))))
                        have hwy888 : ry833 (kqy212 + 4) = -(vy591) := (congrFun hvy834 _).trans ((uZ_n _ _ (by omega)).trans ((congrFun hvy828 _).trans ((uZ_n _ _ (by omega)).trans ((congrFun hvy822 _).trans (uZ_s _ _ _)))))
                        have hwy889 : ry833 (kqy212 + 6) = F 49 := (congrFun hvy834 _).trans (uZ_s _ _ _)
                        have hlyn : lyT ry833 kqy212 := by unfold lyT; omega
                        have hlay880 : ∀ s l : Nat, (s : Int) < (uZ Fvy591 49 ((F 49) + 1)) 47 → (l : Int) < ry857 s → lyT ry833 (84 * s + 7 * l) := by
                          intro s l a1 a2
                          by_cases e : s = ny209
                          · subst e; by_cases e2 : (l : Int) = mn1 s
                            · rw [show 84 * s + 7 * l = kqy212 by omega]; exact hlyn
                            · exact (hly1 s l (by omega) (by omega)).ext (fun j b1 b2 => hfry882 j (by omega) (by omega) (by omega) (by omega) (by omega) (by omega) (by omega))
                          · have hs9 := hfry881 s e; rw [hs9] at a2; have hm9 := hmn1 s (by omega); exact (hly1 s l (by omega) a2).ext (fun j b1 b2 => hfry882 j (by omega) (by omega) (by omega) (by omega) (by omega) (by omega) (by omega))
                        have hgy890 := (hfvy19 (i + 16) (ne_o (i := i) (c := 16) (d := 0) rfl)).trans ha16
                        have hgy891 := (hfvy54 (i + 16) (ne_o (i := i) (c := 16) (d := 0) rfl)).trans hgy890
                        have hgy892 := (hfvy97 (i + 16) (ne_o (i := i) (c := 16) (d := 0) rfl)).trans hgy891
                        have hgy893 := (hfvy148 (i + 16) (ne_o (i := i) (c := 16) (d := 0) rfl)).trans hgy892
                        have hgy894 := (hfvy208 (i + 16) (ne_o (i := i) (c := 16) (d := 0) rfl)).trans hgy893
                        have hgy895 := (hfvy226 (i + 16) (ne_o (i := i) (c := 16) (d := 0) rfl)).trans hgy894
                        have hgy896 := (hfvy238 (i + 16) (ne_o (i := i) (c := 16) (d := 0) rfl)).trans hgy895
                        have hgy897 := up_n egy257 hgy896 (ne_o (i := i) (c := 16) (d := 23) rfl)
                        have hgy898 := (hfvy273 (i + 16) (ne_o (i := i) (c := 16) (d := 0) rfl)).trans hgy897
                        have hgy899 := (hfvy283 (i + 16) (ne_o (i := i) (c := 16) (d := 0) rfl)).trans hgy898
                        have hgy900 := up_n egy289 hgy899 (ne_o (i := i) (c := 16) (d := 23) rfl)
                        have hgy901 := (hfvy304 (i + 16) (ne_o (i := i) (c := 16) (d := 0) rfl)).trans hgy900
                        have hgy902 := up_n egy309 hgy901 (ne_o (i := i) (c := 16) (d := 23) rfl)
                        have hgy903 := (hfvy427 (i + 16) (ne_o (i := i) (c := 16) (d := 0) rfl)).trans hgy902
                        have hgy904 := (hfvy429 (i + 16) (ne_o (i := i) (c := 16) (d := 0) rfl)).trans hgy903
                        have hgy905 := (hfvy559 (i + 16) (ne_o (i := i) (c := 16) (d := 0) rfl)).trans hgy904
                        have hgy906 := up_n egy562 hgy905 (ne_o (i := i) (c := 16) (d := 23) rfl)
                        have hgy907 := (hfvy581 (i + 16) (ne_o (i := i) (c := 16) (d := 0) rfl)).trans hgy906
                        have hgy908 := (hfvy591 (i + 16) (ne_o (i := i) (c := 16) (d := 0) rfl)).trans hgy907
                        have hgy909 := up_n egy819 hgy908 (ne_o (i := i) (c := 16) (d := 23) rfl)
                        have hgy910 := up_n egy825 hgy909 (ne_o (i := i) (c := 16) (d := 23) rfl)
                        have hgy911 := up_n egy831 hgy910 (ne_o (i := i) (c := 16) (d := 23) rfl)
                        have hgy912 := up_n egy855 hgy911 (ne_o (i := i) (c := 16) (d := 18) rfl)
                        have hgy913 := up_n egy861 hgy912 (ne_o (i := i) (c := 16) (d := 0) rfl)
                        have hgy914 := (hfvy19 (i + 17) (ne_o (i := i) (c := 17) (d := 0) rfl)).trans ha17
                        have hgy915 := (hfvy54 (i + 17) (ne_o (i := i) (c := 17) (d := 0) rfl)).trans hgy914
                        have hgy916 := (hfvy97 (i + 17) (ne_o (i := i) (c := 17) (d := 0) rfl)).trans hgy915
                        have hgy917 := (hfvy148 (i + 17) (ne_o (i := i) (c := 17) (d := 0) rfl)).trans hgy916
                        have hgy918 := (hfvy208 (i + 17) (ne_o (i := i) (c := 17) (d := 0) rfl)).trans hgy917
                        have hgy919 := (hfvy226 (i + 17) (ne_o (i := i) (c := 17) (d := 0) rfl)).trans hgy918
                        have hgy920 := (hfvy238 (i + 17) (ne_o (i := i) (c := 17) (d := 0) rfl)).trans hgy919
                        have hgy921 := up_n egy257 hgy920 (ne_o (i := i) (c := 17) (d := 23) rfl)
                        have hgy922 := (hfvy273 (i + 17) (ne_o (i := i) (c := 17) (d := 0) rfl)).trans hgy921
                        have hgy923 := (hfvy283 (i + 17) (ne_o (i := i) (c := 17) (d := 0) rfl)).trans hgy922
                        have hgy924 := up_n egy289 hgy923 (ne_o (i := i) (c := 17) (d := 23) rfl)
                        have hgy925 := (hfvy304 (i + 17) (ne_o (i := i) (c := 17) (d := 0) rfl)).trans hgy924
                        have hgy926 := up_n egy309 hgy925 (ne_o (i := i) (c := 17) (d := 23) rfl)
                        have hgy927 := (hfvy427 (i + 17) (ne_o (i := i) (c := 17) (d := 0) rfl)).trans hgy926
                        have hgy928 := (hfvy429 (i + 17) (ne_o (i := i) (c := 17) (d := 0) rfl)).trans hgy927
                        have hgy929 := (hfvy559 (i + 17) (ne_o (i := i) (c := 17) (d := 0) rfl)).trans hgy928
                        have hgy930 := up_n egy562 hgy929 (ne_o (i := i) (c := 17) (d := 23) rfl)
                        have hgy931 := (hfvy581 (i + 17) (ne_o (i := i) (c := 17) (d := 0) rfl)).trans hgy930
                        have hgy932 := (hfvy591 (i + 17) (ne_o (i := i) (c := 17) (d := 0) rfl)).trans hgy931
                        have hgy933 := up_n egy819 hgy932 (ne_o (i := i) (c := 17) (d := 23) rfl)
                        have hgy934 := up_n egy825 hgy933 (ne_o (i := i) (c := 17) (d := 23) rfl)
                        have hgy935 := up_n egy831 hgy934 (ne_o (i := i) (c := 17) (d := 23) rfl)
                        have hgy936 := up_n egy855 hgy935 (ne_o (i := i) (c := 17) (d := 18) rfl)
                        have hgy937 := up_n egy861 hgy936 (ne_o (i := i) (c := 17) (d := 0) rfl)
                        have hgy938 := up_n egy861 hgy856 (ne_o (i := i) (c := 18) (d := 0) rfl)
                        have hgy939 := (hfvy19 (i + 19) (ne_o (i := i) (c := 19) (d := 0) rfl)).trans ha19
                        have hgy940 := (hfvy54 (i + 19) (ne_o (i := i) (c := 19) (d := 0) rfl)).trans hgy939
                        have hgy941 := (hfvy97 (i + 19) (ne_o (i := i) (c := 19) (d := 0) rfl)).trans hgy940
                        have hgy942 := (hfvy148 (i + 19) (ne_o (i := i) (c := 19) (d := 0) rfl)).trans hgy941
                        have hgy943 := (hfvy208 (i + 19) (ne_o (i := i) (c := 19) (d := 0) rfl)).trans hgy942
                        have hgy944 := (hfvy226 (i + 19) (ne_o (i := i) (c := 19) (d := 0) rfl)).trans hgy943
                        have hgy945 := (hfvy238 (i + 19) (ne_o (i := i) (c := 19) (d := 0) rfl)).trans hgy944
                        have hgy946 := up_n egy257 hgy945 (ne_o (i := i) (c := 19) (d := 23) rfl)
                        have hgy947 := (hfvy273 (i + 19) (ne_o (i := i) (c := 19) (d := 0) rfl)).trans hgy946
                        have hgy948 := (hfvy283 (i + 19) (ne_o (i := i) (c := 19) (d := 0) rfl)).trans hgy947
                        have hgy949 := up_n egy289 hgy948 (ne_o (i := i) (c := 19) (d := 23) rfl)
                        have hgy950 := (hfvy304 (i + 19) (ne_o (i := i) (c := 19) (d := 0) rfl)).trans hgy949
                        have hgy951 := up_n egy309 hgy950 (ne_o (i := i) (c := 19) (d := 23) rfl)
                        have hgy952 := (hfvy427 (i + 19) (ne_o (i := i) (c := 19) (d := 0) rfl)).trans hgy951
                        have hgy953 := (hfvy429 (i + 19) (ne_o (i := i) (c := 19) (d := 0) rfl)).trans hgy952
                        have hgy954 := (hfvy559 (i + 19) (ne_o (i := i) (c := 19) (d := 0) rfl)).trans hgy953
                        have hgy955 := up_n egy562 hgy954 (ne_o (i := i) (c := 19) (d := 23) rfl)
                        have hgy956 := (hfvy581 (i + 19) (ne_o (i := i) (c := 19) (d := 0) rfl)).trans hgy955
                        have hgy957 := (hfvy591 (i + 19) (ne_o (i := i) (c := 19) (d := 0) rfl)).trans hgy956
                        have hgy958 := up_n egy819 hgy957 (ne_o (i := i) (c := 19) (d := 23) rfl)
                        have hgy959 := up_n egy825 hgy958 (ne_o (i := i) (c := 19) (d := 23) rfl)
                        have hgy960 := up_n egy831 hgy959 (ne_o (i := i) (c := 19) (d := 23) rfl)
                        have hgy961 := up_n egy855 hgy960 (ne_o (i := i) (c := 19) (d := 18) rfl)
                        have hgy962 := up_n egy861 hgy961 (ne_o (i := i) (c := 19) (d := 0) rfl)
                        have hgy963 := (hfvy19 (i + 20) (ne_o (i := i) (c := 20) (d := 0) rfl)).trans ha20
                        have hgy964 := (hfvy54 (i + 20) (ne_o (i := i) (c := 20) (d := 0) rfl)).trans hgy963
                        have hgy965 := (hfvy97 (i + 20) (ne_o (i := i) (c := 20) (d := 0) rfl)).trans hgy964
                        have hgy966 := (hfvy148 (i + 20) (ne_o (i := i) (c := 20) (d := 0) rfl)).trans hgy965
                        have hgy967 := (hfvy208 (i + 20) (ne_o (i := i) (c := 20) (d := 0) rfl)).trans hgy966
                        have hgy968 := (hfvy226 (i + 20) (ne_o (i := i) (c := 20) (d := 0) rfl)).trans hgy967
                        have hgy969 := (hfvy238 (i + 20) (ne_o (i := i) (c := 20) (d := 0) rfl)).trans hgy968
                        have hgy970 := up_n egy257 hgy969 (ne_o (i := i) (c := 20) (d := 23) rfl)
                        have hgy971 := (hfvy273 (i + 20) (ne_o (i := i) (c := 20) (d := 0) rfl)).trans hgy970
                        have hgy972 := (hfvy283 (i + 20) (ne_o (i := i) (c := 20) (d := 0) rfl)).trans hgy971
                        have hgy973 := up_n egy289 hgy972 (ne_o (i := i) (c := 20) (d := 23) rfl)
                        have hgy974 := (hfvy304 (i + 20) (ne_o (i := i) (c := 20) (d := 0) rfl)).trans hgy973
                        have hgy975 := up_n egy309 hgy974 (ne_o (i := i) (c := 20) (d := 23) rfl)
                        have hgy976 := (hfvy427 (i + 20) (ne_o (i := i) (c := 20) (d := 0) rfl)).trans hgy975
                        have hgy977 := (hfvy429 (i + 20) (ne_o (i := i) (c := 20) (d := 0) rfl)).trans hgy976
                        have hgy978 := (hfvy559 (i + 20) (ne_o (i := i) (c := 20) (d := 0) rfl)).trans hgy977
                        have hgy979 := up_n egy562 hgy978 (ne_o (i := i) (c := 20) (d := 23) rfl)
                        have hgy980 := (hfvy581 (i + 20) (ne_o (i := i) (c := 20) (d := 0) rfl)).trans hgy979
                        have hgy981 := (hfvy591 (i + 20) (ne_o (i := i) (c := 20) (d := 0) rfl)).trans hgy980
                        have hgy982 := up_n egy819 hgy981 (ne_o (i := i) (c := 20) (d := 23) rfl)
                        have hgy983 := up_n egy825 hgy982 (ne_o (i := i) (c := 20) (d := 23) rfl)
                        have hgy984 := up_n egy831 hgy983 (ne_o (i := i) (c := 20) (d := 23) rfl)
                        have hgy985 := up_n egy855 hgy984 (ne_o (i := i) (c := 20) (d := 18) rfl)
                        have hgy986 := up_n egy861 hgy985 (ne_o (i := i) (c := 20) (d := 0) rfl)
                        have hgy987 := (hfvy19 (i + 21) (ne_o (i := i) (c := 21) (d := 0) rfl)).trans ha21
                        have hgy988 := (hfvy54 (i + 21) (ne_o (i := i) (c := 21) (d := 0) rfl)).trans hgy987
                        have hgy989 := (hfvy97 (i + 21) (ne_o (i := i) (c := 21) (d := 0) rfl)).trans hgy988
                        have hgy990 := (hfvy148 (i + 21) (ne_o (i := i) (c := 21) (d := 0) rfl)).trans hgy989
                        have hgy991 := (hfvy208 (i + 21) (ne_o (i := i) (c := 21) (d := 0) rfl)).trans hgy990
                        have hgy992 := (hfvy226 (i + 21) (ne_o (i := i) (c := 21) (d := 0) rfl)).trans hgy991
                        have hgy993 := (hfvy238 (i + 21) (ne_o (i := i) (c := 21) (d := 0) rfl)).trans hgy992
                        have hgy994 := up_n egy257 hgy993 (ne_o (i := i) (c := 21) (d := 23) rfl)
                        have hgy995 := (hfvy273 (i + 21) (ne_o (i := i) (c := 21) (d := 0) rfl)).trans hgy994
                        have hgy996 := (hfvy283 (i + 21) (ne_o (i := i) (c := 21) (d := 0) rfl)).trans hgy995
                        have hgy997 := up_n egy289 hgy996 (ne_o (i := i) (c := 21) (d := 23) rfl)
                        have hgy998 := (hfvy304 (i + 21) (ne_o (i := i) (c := 21) (d := 0) rfl)).trans hgy997
                        have hgy999 := up_n egy309 hgy998 (ne_o (i := i) (c := 21) (d := 23) rfl)
                        have hgy1000 := (hfvy427 (i + 21) (ne_o (i := i) (c := 21) (d := 0) rfl)).trans hgy999
                        have hgy1001 := (hfvy429 (i + 21) (ne_o (i := i) (c := 21) (d := 0) rfl)).trans hgy1000
                        have hgy1002 := (hfvy559 (i + 21) (ne_o (i := i) (c := 21) (d := 0) rfl)).trans hgy1001
                        have hgy1003 := up_n egy562 hgy1002 (ne_o (i := i) (c := 21) (d := 23) rfl)
                        have hgy1004 := (hfvy581 (i + 21) (ne_o (i := i) (c := 21) (d := 0) rfl)).trans hgy1003
                        have hgy1005 := (hfvy591 (i + 21) (ne_o (i := i) (c := 21) (d := 0) rfl)).trans hgy1004
                        have hgy1006 := up_n egy819 hgy1005 (ne_o (i := i) (c := 21) (d := 23) rfl)
                        have hgy1007 := up_n egy825 hgy1006 (ne_o (i := i) (c := 21) (d := 23) rfl)
                        have hgy1008 := up_n egy831 hgy1007 (ne_o (i := i) (c := 21) (d := 23) rfl)
                        have hgy1009 := up_n egy855 hgy1008 (ne_o (i := i) (c := 21) (d := 18) rfl)
                        have hgy1010 := up_n egy861 hgy1009 (ne_o (i := i) (c := 21) (d := 0) rfl)
                        have hgy1011 := (hfvy19 (i + 22) (ne_o (i := i) (c := 22) (d := 0) rfl)).trans ha22
                        have hgy1012 := (hfvy54 (i + 22) (ne_o (i := i) (c := 22) (d := 0) rfl)).trans hgy1011
                        have hgy1013 := (hfvy97 (i + 22) (ne_o (i := i) (c := 22) (d := 0) rfl)).trans hgy1012
                        have hgy1014 := (hfvy148 (i + 22) (ne_o (i := i) (c := 22) (d := 0) rfl)).trans hgy1013
                        have hgy1015 := (hfvy208 (i + 22) (ne_o (i := i) (c := 22) (d := 0) rfl)).trans hgy1014
                        have hgy1016 := (hfvy226 (i + 22) (ne_o (i := i) (c := 22) (d := 0) rfl)).trans hgy1015
                        have hgy1017 := (hfvy238 (i + 22) (ne_o (i := i) (c := 22) (d := 0) rfl)).trans hgy1016
                        have hgy1018 := up_n egy257 hgy1017 (ne_o (i := i) (c := 22) (d := 23) rfl)
                        have hgy1019 := (hfvy273 (i + 22) (ne_o (i := i) (c := 22) (d := 0) rfl)).trans hgy1018
                        have hgy1020 := (hfvy283 (i + 22) (ne_o (i := i) (c := 22) (d := 0) rfl)).trans hgy1019
                        have hgy1021 := up_n egy289 hgy1020 (ne_o (i := i) (c := 22) (d := 23) rfl)
                        have hgy1022 := (hfvy304 (i + 22) (ne_o (i := i) (c := 22) (d := 0) rfl)).trans hgy1021
                        have hgy1023 := up_n egy309 hgy1022 (ne_o (i := i) (c := 22) (d := 23) rfl)
                        have hgy1024 := (hfvy427 (i + 22) (ne_o (i := i) (c := 22) (d := 0) rfl)).trans hgy1023
                        have hgy1025 := (hfvy429 (i + 22) (ne_o (i := i) (c := 22) (d := 0) rfl)).trans hgy1024
                        have hgy1026 := (hfvy559 (i + 22) (ne_o (i := i) (c := 22) (d := 0) rfl)).trans hgy1025
                        have hgy1027 := up_n egy562 hgy1026 (ne_o (i := i) (c := 22) (d := 23) rfl)
                        have hgy1028 := (hfvy581 (i + 22) (ne_o (i := i) (c := 22) (d := 0) rfl)).trans hgy1027
                        have hgy1029 := (hfvy591 (i + 22) (ne_o (i := i) (c := 22) (d := 0) rfl)).trans hgy1028
                        have hgy1030 := up_n egy819 hgy1029 (ne_o (i := i) (c := 22) (d := 23) rfl)
                        have hgy1031 := up_n egy825 hgy1030 (ne_o (i := i) (c := 22) (d := 23) rfl)
                        have hgy1032 := up_n egy831 hgy1031 (ne_o (i := i) (c := 22) (d := 23) rfl)
                        have hgy1033 := up_n egy855 hgy1032 (ne_o (i := i) (c := 22) (d := 18) rfl)
                        have hgy1034 := up_n egy861 hgy1033 (ne_o (i := i) (c := 22) (d := 0) rfl)
                        have hgy1035 := up_n egy855 hgy832 (ne_o (i := i) (c := 23) (d := 18) rfl)
                        have hgy1036 := up_n egy861 hgy1035 (ne_o (i := i) (c := 23) (d := 0) rfl)
                        have htxy1037 : okTx cs gy860 i (uZ Fvy591 49 ((F 49) + 1)) := ⟨_, _, _, _, _, _, _, _, ⟨hgy913, hgy937, hgy938, hgy962, hgy986, hgy1010, hgy1034, hgy1036⟩, ⟨⟨by omega, by omega, by omega⟩, hop1, haky876, hai1, hfa1, htb1, hlay880⟩⟩
                        exact z_vret C hr hlk dX10_layer1_348 (by decide) (by decide) ⟨rfl, rfl, rfl, ⟨_, hgy862, hrdy871, by omega, by omega, hFy863, htxy1037⟩, fun j j1 j2 => by rw [egy861, va_up_ne _ _ (by omega)]; rw [egy855, va_up_ne _ _ (by omega)]; rw [egy831, va_up_ne _ _ (by omega)]; rw [egy825, va_up_ne _ _ (by omega)]; rw [egy819, va_up_ne _ _ (by omega)]; rw [hfvy591 _ (by omega)]; rw [hfvy581 _ (by omega)]; rw [egy562, va_up_ne _ _ (by omega)]; rw [hfvy559 _ (by omega)]; rw [hfvy429 _ (by omega)]; rw [hfvy427 _ (by omega)]; rw [egy309, va_up_ne _ _ (by omega)]; rw [hfvy304 _ (by omega)]; rw [egy289, va_up_ne _ _ (by omega)]; rw [hfvy283 _ (by omega)]; rw [hfvy273 _ (by omega)]; rw [egy257, va_up_ne _ _ (by omega)]; rw [hfvy238 _ (by omega)]; rw [hfvy226 _ (by omega)]; rw [hfvy208 _ (by omega)]; rw [hfvy148 _ (by omega)]; rw [hfvy97 _ (by omega)]; rw [hfvy54 _ (by omega)]; rw [hfvy19 _ (by omega)]⟩
                  · refine z_if_eq (tgt := 272) C dX10_layer1_232 (by decide) (by omega) (fun _ => ?_) (fun h => absurd h (by omega))
                    have hFy1038 : ∀ f, f ≠ 24 → f ≠ 32 → f ≠ 33 → f ≠ 35 → f ≠ 36 → f ≠ 37 → f ≠ 38 → f ≠ 47 → f ≠ 48 → f ≠ 49 → Fvy429 f = F f := fun f n24 n32 n33 n35 n36 n37 n38 n47 n48 n49 => ((hFvy429 f n24 n38).trans ((hFvy427 f n24 n38).trans ((hFvy304 f n24 n32 n33 n35 n36 n37 n38).trans ((hFvy283 f n24 n32 n33 n35 n36 n37 n38).trans ((hFvy273 f n32 n33 n35 n36 n37).trans ((hFvy238 f n24 n38).trans ((hFvy226 f n32 n33 n35 n36 n37).trans ((hFvy208 f n24 n38).trans ((hFvy148 f n24 n38).trans ((hFvy97 f n24 n38).trans ((hFvy54 f n24 n38).trans (hFvy19 f n32 n33 n35 n36 n37))))))))))))
                    have hey1039 : Fvy429 32 = Fvy304 32 := ((hFvy429 32 (by decide) (by decide)).trans (hFvy427 32 (by decide) (by decide)))
                    have hey1040 : Fvy429 33 = Fvy304 33 := ((hFvy429 33 (by decide) (by decide)).trans (hFvy427 33 (by decide) (by decide)))
                    have hey1041 : Fvy429 34 = F 34 := ((hFvy429 34 (by decide) (by decide)).trans ((hFvy427 34 (by decide) (by decide)).trans ((hFvy304 34 (by decide) (by decide) (by decide) (by decide) (by decide) (by decide) (by decide)).trans ((hFvy283 34 (by decide) (by decide) (by decide) (by decide) (by decide) (by decide) (by decide)).trans ((hFvy273 34 (by decide) (by decide) (by decide) (by decide) (by decide)).trans ((hFvy238 34 (by decide) (by decide)).trans ((hFvy226 34 (by decide) (by decide) (by decide) (by decide) (by decide)).trans ((hFvy208 34 (by decide) (by decide)).trans ((hFvy148 34 (by decide) (by decide)).trans ((hFvy97 34 (by decide) (by decide)).trans ((hFvy54 34 (by decide) (by decide)).trans (hFvy19 34 (by decide) (by decide) (by decide) (by decide) (by decide)))))))))))))
                    have hey1042 : Fvy429 35 = Fvy304 35 := ((hFvy429 35 (by decide) (by decide)).trans (hFvy427 35 (by decide) (by decide)))
                    have hey1043 : Fvy429 36 = Fvy304 36 := ((hFvy429 36 (by decide) (by decide)).trans (hFvy427 36 (by decide) (by decide)))
                    have hey1044 : Fvy429 37 = Fvy304 37 := ((hFvy429 37 (by decide) (by decide)).trans (hFvy427 37 (by decide) (by decide)))
                    have hey1045 : Fvy429 38 = Fvy429 38 := rfl
                    have hrdy1046 : RD Fvy429 := by unfold RD; omega
                    have hey1047 : Fvy429 32 = Fvy304 32 := ((hFvy429 32 (by decide) (by decide)).trans (hFvy427 32 (by decide) (by decide)))
                    have hey1048 : Fvy429 47 = F 47 := ((hFvy429 47 (by decide) (by decide)).trans ((hFvy427 47 (by decide) (by decide)).trans ((hFvy304 47 (by decide) (by decide) (by decide) (by decide) (by decide) (by decide) (by decide)).trans ((hFvy283 47 (by decide) (by decide) (by decide) (by decide) (by decide) (by decide) (by decide)).trans ((hFvy273 47 (by decide) (by decide) (by decide) (by decide) (by decide)).trans ((hFvy238 47 (by decide) (by decide)).trans ((hFvy226 47 (by decide) (by decide) (by decide) (by decide) (by decide)).trans ((hFvy208 47 (by decide) (by decide)).trans ((hFvy148 47 (by decide) (by decide)).trans ((hFvy97 47 (by decide) (by decide)).trans ((hFvy54 47 (by decide) (by decide)).trans (hFvy19 47 (by decide) (by decide) (by decide) (by decide) (by decide)))))))))))))
                    have hey1049 : Fvy429 48 = F 48 := ((hFvy429 48 (by decide) (by decide)).trans ((hFvy427 48 (by decide) (by decide)).trans ((hFvy304 48 (by decide) (by decide) (by decide) (by decide) (by decide) (by decide) (by decide)).trans ((hFvy283 48 (by decide) (by decide) (by decide) (by decide) (by decide) (by decide) (by decide)).trans ((hFvy273 48 (by decide) (by decide) (by decide) (by decide) (by decide)).trans ((hFvy238 48 (by decide) (by decide)).trans ((hFvy226 48 (by decide) (by decide) (by decide) (by decide) (by decide)).trans ((hFvy208 48 (by decide) (by decide)).trans ((hFvy148 48 (by decide) (by decide)).trans ((hFvy97 48 (by decide) (by decide)).trans ((hFvy54 48 (by decide) (by decide)).trans (hFvy19 48 (by decide) (by decide) (by decide) (by decide) (by decide)))))))))))))
                    have hey1050 : Fvy429 49 = F 49 := ((hFvy429 49 (by decide) (by decide)).trans ((hFvy427 49 (by decide) (by decide)).trans ((hFvy304 49 (by decide) (by decide) (by decide) (by decide) (by decide) (by decide) (by decide)).trans ((hFvy283 49 (by decide) (by decide) (by decide) (by decide) (by decide) (by decide) (by decide)).trans ((hFvy273 49 (by decide) (by decide) (by decide) (by decide) (by decide)).trans ((hFvy238 49 (by decide) (by decide)).trans ((hFvy226 49 (by decide) (by decide) (by decide) (by decide) (by decide)).trans ((hFvy208 49 (by decide) (by decide)).trans ((hFvy148 49 (by decide) (by decide)).trans ((hFvy97 49 (by decide) (by decide)).trans ((hFvy54 49 (by decide) (by decide)).trans (hFvy19 49 (by decide) (by decide) (by decide) (by decide) (by decide)))))))))))))
                    have hfry1053 : ∀ j, j ≠ kqy212 + 2 → j ≠ kqy212 + 1 → j ≠ kqy212 → ry311 j = ly1 j := fun j n0 n1 n2 => (congrFun hvy312 _).trans ((uZ_n _ _ n0).trans ((congrFun hvy292 _).trans ((uZ_n _ _ n1).trans ((congrFun hvy260 _).trans ((uZ_n _ _ n2).trans (rfl))))))
                    have hlay1052 : ∀ s l : Nat, (s : Int) < Fvy429 47 → (l : Int) < mn1 s → lyT ry311 (84 * s + 7 * l) := by
                      intro s l a1 a2
                      have hm9 := hmn1 s (by omega)
                      exact (hly1 s l (by omega) a2).ext (fun j b1 b2 => hfry1053 j (by omega) (by omega) (by omega))
                    have hgy1054 := (hfvy19 (i + 16) (ne_o (i := i) (c := 16) (d := 0) rfl)).trans ha16
                    have hgy1055 := (hfvy54 (i + 16) (ne_o (i := i) (c := 16) (d := 0) rfl)).trans hgy1054
                    have hgy1056 := (hfvy97 (i + 16) (ne_o (i := i) (c := 16) (d := 0) rfl)).trans hgy1055
                    have hgy1057 := (hfvy148 (i + 16) (ne_o (i := i) (c := 16) (d := 0) rfl)).trans hgy1056
                    have hgy1058 := (hfvy208 (i + 16) (ne_o (i := i) (c := 16) (d := 0) rfl)).trans hgy1057
                    have hgy1059 := (hfvy226 (i + 16) (ne_o (i := i) (c := 16) (d := 0) rfl)).trans hgy1058
                    have hgy1060 := (hfvy238 (i + 16) (ne_o (i := i) (c := 16) (d := 0) rfl)).trans hgy1059
                    have hgy1061 := up_n egy257 hgy1060 (ne_o (i := i) (c := 16) (d := 23) rfl)
                    have hgy1062 := (hfvy273 (i + 16) (ne_o (i := i) (c := 16) (d := 0) rfl)).trans hgy1061
                    have hgy1063 := (hfvy283 (i + 16) (ne_o (i := i) (c := 16) (d := 0) rfl)).trans hgy1062
                    have hgy1064 := up_n egy289 hgy1063 (ne_o (i := i) (c := 16) (d := 23) rfl)
                    have hgy1065 := (hfvy304 (i + 16) (ne_o (i := i) (c := 16) (d := 0) rfl)).trans hgy1064
                    have hgy1066 := up_n egy309 hgy1065 (ne_o (i := i) (c := 16) (d := 23) rfl)
                    have hgy1067 := (hfvy427 (i + 16) (ne_o (i := i) (c := 16) (d := 0) rfl)).trans hgy1066
                    have hgy1068 := (hfvy429 (i + 16) (ne_o (i := i) (c := 16) (d := 0) rfl)).trans hgy1067
                    have hgy1069 := (hfvy19 (i + 17) (ne_o (i := i) (c := 17) (d := 0) rfl)).trans ha17
                    have hgy1070 := (hfvy54 (i + 17) (ne_o (i := i) (c := 17) (d := 0) rfl)).trans hgy1069
                    have hgy1071 := (hfvy97 (i + 17) (ne_o (i := i) (c := 17) (d := 0) rfl)).trans hgy1070
                    have hgy1072 := (hfvy148 (i + 17) (ne_o (i := i) (c := 17) (d := 0) rfl)).trans hgy1071
                    have hgy1073 := (hfvy208 (i + 17) (ne_o (i := i) (c := 17) (d := 0) rfl)).trans hgy1072
                    have hgy1074 := (hfvy226 (i + 17) (ne_o (i := i) (c := 17) (d := 0) rfl)).trans hgy1073
                    have hgy1075 := (hfvy238 (i + 17) (ne_o (i := i) (c := 17) (d := 0) rfl)).trans hgy1074
                    have hgy1076 := up_n egy257 hgy1075 (ne_o (i := i) (c := 17) (d := 23) rfl)
                    have hgy1077 := (hfvy273 (i + 17) (ne_o (i := i) (c := 17) (d := 0) rfl)).trans hgy1076
                    have hgy1078 := (hfvy283 (i + 17) (ne_o (i := i) (c := 17) (d := 0) rfl)).trans hgy1077
                    have hgy1079 := up_n egy289 hgy1078 (ne_o (i := i) (c := 17) (d := 23) rfl)
                    have hgy1080 := (hfvy304 (i + 17) (ne_o (i := i) (c := 17) (d := 0) rfl)).trans hgy1079
                    have hgy1081 := up_n egy309 hgy1080 (ne_o (i := i) (c := 17) (d := 23) rfl)
                    have hgy1082 := (hfvy427 (i + 17) (ne_o (i := i) (c := 17) (d := 0) rfl)).trans hgy1081
                    have hgy1083 := (hfvy429 (i + 17) (ne_o (i := i) (c := 17) (d := 0) rfl)).trans hgy1082
                    have hgy1084 := (hfvy226 (i + 18) (ne_o (i := i) (c := 18) (d := 0) rfl)).trans hgy210
                    have hgy1085 := (hfvy238 (i + 18) (ne_o (i := i) (c := 18) (d := 0) rfl)).trans hgy1084
                    have hgy1086 := up_n egy257 hgy1085 (ne_o (i := i) (c := 18) (d := 23) rfl)
                    have hgy1087 := (hfvy273 (i + 18) (ne_o (i := i) (c := 18) (d := 0) rfl)).trans hgy1086
                    have hgy1088 := (hfvy283 (i + 18) (ne_o (i := i) (c := 18) (d := 0) rfl)).trans hgy1087
                    have hgy1089 := up_n egy289 hgy1088 (ne_o (i := i) (c := 18) (d := 23) rfl)
                    have hgy1090 := (hfvy304 (i + 18) (ne_o (i := i) (c := 18) (d := 0) rfl)).trans hgy1089
                    have hgy1091 := up_n egy309 hgy1090 (ne_o (i := i) (c := 18) (d := 23) rfl)
                    have hgy1092 := (hfvy427 (i + 18) (ne_o (i := i) (c := 18) (d := 0) rfl)).trans hgy1091
                    have hgy1093 := (hfvy429 (i + 18) (ne_o (i := i) (c := 18) (d := 0) rfl)).trans hgy1092
                    have hgy1094 := (hfvy19 (i + 19) (ne_o (i := i) (c := 19) (d := 0) rfl)).trans ha19
                    have hgy1095 := (hfvy54 (i + 19) (ne_o (i := i) (c := 19) (d := 0) rfl)).trans hgy1094
                    have hgy1096 := (hfvy97 (i + 19) (ne_o (i := i) (c := 19) (d := 0) rfl)).trans hgy1095
                    have hgy1097 := (hfvy148 (i + 19) (ne_o (i := i) (c := 19) (d := 0) rfl)).trans hgy1096
                    have hgy1098 := (hfvy208 (i + 19) (ne_o (i := i) (c := 19) (d := 0) rfl)).trans hgy1097
                    have hgy1099 := (hfvy226 (i + 19) (ne_o (i := i) (c := 19) (d := 0) rfl)).trans hgy1098
                    have hgy1100 := (hfvy238 (i + 19) (ne_o (i := i) (c := 19) (d := 0) rfl)).trans hgy1099
                    have hgy1101 := up_n egy257 hgy1100 (ne_o (i := i) (c := 19) (d := 23) rfl)
                    have hgy1102 := (hfvy273 (i + 19) (ne_o (i := i) (c := 19) (d := 0) rfl)).trans hgy1101
                    have hgy1103 := (hfvy283 (i + 19) (ne_o (i := i) (c := 19) (d := 0) rfl)).trans hgy1102
                    have hgy1104 := up_n egy289 hgy1103 (ne_o (i := i) (c := 19) (d := 23) rfl)
                    have hgy1105 := (hfvy304 (i + 19) (ne_o (i := i) (c := 19) (d := 0) rfl)).trans hgy1104
                    have hgy1106 := up_n egy309 hgy1105 (ne_o (i := i) (c := 19) (d := 23) rfl)
                    have hgy1107 := (hfvy427 (i + 19) (ne_o (i := i) (c := 19) (d := 0) rfl)).trans hgy1106
                    have hgy1108 := (hfvy429 (i + 19) (ne_o (i := i) (c := 19) (d := 0) rfl)).trans hgy1107
                    have hgy1109 := (hfvy19 (i + 20) (ne_o (i := i) (c := 20) (d := 0) rfl)).trans ha20
                    have hgy1110 := (hfvy54 (i + 20) (ne_o (i := i) (c := 20) (d := 0) rfl)).trans hgy1109
                    have hgy1111 := (hfvy97 (i + 20) (ne_o (i := i) (c := 20) (d := 0) rfl)).trans hgy1110
                    have hgy1112 := (hfvy148 (i + 20) (ne_o (i := i) (c := 20) (d := 0) rfl)).trans hgy1111
                    have hgy1113 := (hfvy208 (i + 20) (ne_o (i := i) (c := 20) (d := 0) rfl)).trans hgy1112
                    have hgy1114 := (hfvy226 (i + 20) (ne_o (i := i) (c := 20) (d := 0) rfl)).trans hgy1113
                    have hgy1115 := (hfvy238 (i + 20) (ne_o (i := i) (c := 20) (d := 0) rfl)).trans hgy1114
                    have hgy1116 := up_n egy257 hgy1115 (ne_o (i := i) (c := 20) (d := 23) rfl)
                    have hgy1117 := (hfvy273 (i + 20) (ne_o (i := i) (c := 20) (d := 0) rfl)).trans hgy1116
                    have hgy1118 := (hfvy283 (i + 20) (ne_o (i := i) (c := 20) (d := 0) rfl)).trans hgy1117
                    have hgy1119 := up_n egy289 hgy1118 (ne_o (i := i) (c := 20) (d := 23) rfl)
                    have hgy1120 := (hfvy304 (i + 20) (ne_o (i := i) (c := 20) (d := 0) rfl)).trans hgy1119
                    have hgy1121 := up_n egy309 hgy1120 (ne_o (i := i) (c := 20) (d := 23) rfl)
                    have hgy1122 := (hfvy427 (i + 20) (ne_o (i := i) (c := 20) (d := 0) rfl)).trans hgy1121
                    have hgy1123 := (hfvy429 (i + 20) (ne_o (i := i) (c := 20) (d := 0) rfl)).trans hgy1122
                    have hgy1124 := (hfvy19 (i + 21) (ne_o (i := i) (c := 21) (d := 0) rfl)).trans ha21
                    have hgy1125 := (hfvy54 (i + 21) (ne_o (i := i) (c := 21) (d := 0) rfl)).trans hgy1124
                    have hgy1126 := (hfvy97 (i + 21) (ne_o (i := i) (c := 21) (d := 0) rfl)).trans hgy1125
                    have hgy1127 := (hfvy148 (i + 21) (ne_o (i := i) (c := 21) (d := 0) rfl)).trans hgy1126
                    have hgy1128 := (hfvy208 (i + 21) (ne_o (i := i) (c := 21) (d := 0) rfl)).trans hgy1127
                    have hgy1129 := (hfvy226 (i + 21) (ne_o (i := i) (c := 21) (d := 0) rfl)).trans hgy1128
                    have hgy1130 := (hfvy238 (i + 21) (ne_o (i := i) (c := 21) (d := 0) rfl)).trans hgy1129
                    have hgy1131 := up_n egy257 hgy1130 (ne_o (i := i) (c := 21) (d := 23) rfl)
                    have hgy1132 := (hfvy273 (i + 21) (ne_o (i := i) (c := 21) (d := 0) rfl)).trans hgy1131
                    have hgy1133 := (hfvy283 (i + 21) (ne_o (i := i) (c := 21) (d := 0) rfl)).trans hgy1132
                    have hgy1134 := up_n egy289 hgy1133 (ne_o (i := i) (c := 21) (d := 23) rfl)
                    have hgy1135 := (hfvy304 (i + 21) (ne_o (i := i) (c := 21) (d := 0) rfl)).trans hgy1134
                    have hgy1136 := up_n egy309 hgy1135 (ne_o (i := i) (c := 21) (d := 23) rfl)
                    have hgy1137 := (hfvy427 (i + 21) (ne_o (i := i) (c := 21) (d := 0) rfl)).trans hgy1136
                    have hgy1138 := (hfvy429 (i + 21) (ne_o (i := i) (c := 21) (d := 0) rfl)).trans hgy1137
                    have hgy1139 := (hfvy19 (i + 22) (ne_o (i := i) (c := 22) (d := 0) rfl)).trans ha22
                    have hgy1140 := (hfvy54 (i + 22) (ne_o (i := i) (c := 22) (d := 0) rfl)).trans hgy1139
                    have hgy1141 := (hfvy97 (i + 22) (ne_o (i := i) (c := 22) (d := 0) rfl)).trans hgy1140
                    have hgy1142 := (hfvy148 (i + 22) (ne_o (i := i) (c := 22) (d := 0) rfl)).trans hgy1141
                    have hgy1143 := (hfvy208 (i + 22) (ne_o (i := i) (c := 22) (d := 0) rfl)).trans hgy1142
                    have hgy1144 := (hfvy226 (i + 22) (ne_o (i := i) (c := 22) (d := 0) rfl)).trans hgy1143
                    have hgy1145 := (hfvy238 (i + 22) (ne_o (i := i) (c := 22) (d := 0) rfl)).trans hgy1144
                    have hgy1146 := up_n egy257 hgy1145 (ne_o (i := i) (c := 22) (d := 23) rfl)
                    have hgy1147 := (hfvy273 (i + 22) (ne_o (i := i) (c := 22) (d := 0) rfl)).trans hgy1146
                    have hgy1148 := (hfvy283 (i + 22) (ne_o (i := i) (c := 22) (d := 0) rfl)).trans hgy1147
                    have hgy1149 := up_n egy289 hgy1148 (ne_o (i := i) (c := 22) (d := 23) rfl)
                    have hgy1150 := (hfvy304 (i + 22) (ne_o (i := i) (c := 22) (d := 0) rfl)).trans hgy1149
                    have hgy1151 := up_n egy309 hgy1150 (ne_o (i := i) (c := 22) (d := 23) rfl)
                    have hgy1152 := (hfvy427 (i + 22) (ne_o (i := i) (c := 22) (d := 0) rfl)).trans hgy1151
                    have hgy1153 := (hfvy429 (i + 22) (ne_o (i := i) (c := 22) (d := 0) rfl)).trans hgy1152
                    have hgy1154 := (hfvy427 (i + 23) (ne_o (i := i) (c := 23) (d := 0) rfl)).trans hgy310
                    have hgy1155 := (hfvy429 (i + 23) (ne_o (i := i) (c := 23) (d := 0) rfl)).trans hgy1154
                    have htxy1156 : okTx cs gvy429 i Fvy429 := ⟨_, _, _, _, _, _, _, _, ⟨hgy1068, hgy1083, hgy1093, hgy1108, hgy1123, hgy1138, hgy1153, hgy1155⟩, ⟨⟨by omega, by omega, by omega⟩, hop1, hmn1, hai1, hfa1, htb1, hlay1052⟩⟩
                    exact z_vret C hr hlk dX10_layer1_272 (by decide) (by decide) ⟨rfl, rfl, rfl, ⟨_, hcvy429, hrdy1046, by omega, by omega, hFy1038, htxy1156⟩, fun j j1 j2 => by rw [hfvy429 _ (by omega)]; rw [hfvy427 _ (by omega)]; rw [egy309, va_up_ne _ _ (by omega)]; rw [hfvy304 _ (by omega)]; rw [egy289, va_up_ne _ _ (by omega)]; rw [hfvy283 _ (by omega)]; rw [hfvy273 _ (by omega)]; rw [egy257, va_up_ne _ _ (by omega)]; rw [hfvy238 _ (by omega)]; rw [hfvy226 _ (by omega)]; rw [hfvy208 _ (by omega)]; rw [hfvy148 _ (by omega)]; rw [hfvy97 _ (by omega)]; rw [hfvy54 _ (by omega)]; rw [hfvy19 _ (by omega)]⟩
              · have hgy1157 := (hfvy304 (i + 23) (ne_o (i := i) (c := 23) (d := 0) rfl)).trans hgy290
                refine z_iast C (by omega) hay10 hgy1157 (kqy212 + 2) (by omega) (by omega) (by decide) dX10_layer1_187 (fun gy1158 egy1159 => ?_)
                have hgy1160 := up_s egy1159
                obtain ⟨ry1161, hvy1162⟩ : ∃ rZ9 : Nat → Int, rZ9 = uZ ry291 (kqy212 + 2) (vy304) := ⟨_, rfl⟩
                rw [← hvy1162] at hgy1160
                refine z_aload_n C 2 dX10_layer1_188 rfl ?_
                have hgy1163 := up_n egy1159 hcvy304 (ne_o (i := i) (c := 0) (d := 23) rfl)
                refine z_get (v := .int (zI (Fvy304 38))) C (by omega) hay1 hgy1163 rfl inA_X10 38 (by decide) q_1497 rfl (fv (F := Fvy304) (f := 38) rfl) dX10_layer1_189 ?_
                refine z_if_ne (tgt := 272) C dX10_layer1_192 (by decide) (by omega) (fun _ => ?_) (fun h => absurd h (by omega))
                have hFy1164 : ∀ f, f ≠ 24 → f ≠ 32 → f ≠ 33 → f ≠ 35 → f ≠ 36 → f ≠ 37 → f ≠ 38 → f ≠ 47 → f ≠ 48 → f ≠ 49 → Fvy304 f = F f := fun f n24 n32 n33 n35 n36 n37 n38 n47 n48 n49 => ((hFvy304 f n24 n32 n33 n35 n36 n37 n38).trans ((hFvy283 f n24 n32 n33 n35 n36 n37 n38).trans ((hFvy273 f n32 n33 n35 n36 n37).trans ((hFvy238 f n24 n38).trans ((hFvy226 f n32 n33 n35 n36 n37).trans ((hFvy208 f n24 n38).trans ((hFvy148 f n24 n38).trans ((hFvy97 f n24 n38).trans ((hFvy54 f n24 n38).trans (hFvy19 f n32 n33 n35 n36 n37))))))))))
                have hey1165 : Fvy304 32 = Fvy304 32 := rfl
                have hey1166 : Fvy304 33 = Fvy304 33 := rfl
                have hey1167 : Fvy304 34 = F 34 := ((hFvy304 34 (by decide) (by decide) (by decide) (by decide) (by decide) (by decide) (by decide)).trans ((hFvy283 34 (by decide) (by decide) (by decide) (by decide) (by decide) (by decide) (by decide)).trans ((hFvy273 34 (by decide) (by decide) (by decide) (by decide) (by decide)).trans ((hFvy238 34 (by decide) (by decide)).trans ((hFvy226 34 (by decide) (by decide) (by decide) (by decide) (by decide)).trans ((hFvy208 34 (by decide) (by decide)).trans ((hFvy148 34 (by decide) (by decide)).trans ((hFvy97 34 (by decide) (by decide)).trans ((hFvy54 34 (by decide) (by decide)).trans (hFvy19 34 (by decide) (by decide) (by decide) (by decide) (by decide)))))))))))
                have hey1168 : Fvy304 35 = Fvy304 35 := rfl
                have hey1169 : Fvy304 36 = Fvy304 36 := rfl
                have hey1170 : Fvy304 37 = Fvy304 37 := rfl
                have hey1171 : Fvy304 38 = Fvy304 38 := rfl
                have hrdy1172 : RD Fvy304 := by unfold RD; omega
                have hey1173 : Fvy304 32 = Fvy304 32 := rfl
                have hey1174 : Fvy304 47 = F 47 := ((hFvy304 47 (by decide) (by decide) (by decide) (by decide) (by decide) (by decide) (by decide)).trans ((hFvy283 47 (by decide) (by decide) (by decide) (by decide) (by decide) (by decide) (by decide)).trans ((hFvy273 47 (by decide) (by decide) (by decide) (by decide) (by decide)).trans ((hFvy238 47 (by decide) (by decide)).trans ((hFvy226 47 (by decide) (by decide) (by decide) (by decide) (by decide)).trans ((hFvy208 47 (by decide) (by decide)).trans ((hFvy148 47 (by decide) (by decide)).trans ((hFvy97 47 (by decide) (by decide)).trans ((hFvy54 47 (by decide) (by decide)).trans (hFvy19 47 (by decide) (by decide) (by decide) (by decide) (by decide)))))))))))
                have hey1175 : Fvy304 48 = F 48 := ((hFvy304 48 (by decide) (by decide) (by decide) (by decide) (by decide) (by decide) (by decide)).trans ((hFvy283 48 (by decide) (by decide) (by decide) (by decide) (by decide) (by decide) (by decide)).trans ((hFvy273 48 (by decide) (by decide) (by decide) (by decide) (by decide)).trans ((hFvy238 48 (by decide) (by decide)).trans ((hFvy226 48 (by decide) (by decide) (by decide) (by decide) (by decide)).trans ((hFvy208 48 (by decide) (by decide)).trans ((hFvy148 48 (by decide) (by decide)).trans ((hFvy97 48 (by decide) (by decide)).trans ((hFvy54 48 (by decide) (by decide)).trans (hFvy19 48 (by decide) (by decide) (by decide) (by decide) (by decide)))))))))))
                have hey1176 : Fvy304 49 = F 49 := ((hFvy304 49 (by decide) (by decide) (by decide) (by decide) (by decide) (by decide) (by decide)).trans ((hFvy283 49 (by decide) (by decide) (by decide) (by decide) (by decide) (by decide) (by decide)).trans ((hFvy273 49 (by decide) (by decide) (by decide) (by decide) (by decide)).trans ((hFvy238 49 (by decide) (by decide)).trans ((hFvy226 49 (by decide) (by decide) (by decide) (by decide) (by decide)).trans ((hFvy208 49 (by decide) (by decide)).trans ((hFvy148 49 (by decide) (by decide)).trans ((hFvy97 49 (by decide) (by decide)).trans ((hFvy54 49 (by decide) (by decide)).trans (hFvy19 49 (by decide) (by decide) (by decide) (by decide) (by decide)))))))))))
                have hfry1179 : ∀ j, j ≠ kqy212 + 2 → j ≠ kqy212 + 1 → j ≠ kqy212 → ry1161 j = ly1 j := fun j n0 n1 n2 => (congrFun hvy1162 _).trans ((uZ_n _ _ n0).trans ((congrFun hvy292 _).trans ((uZ_n _ _ n1).trans ((congrFun hvy260 _).trans ((uZ_n _ _ n2).trans (rfl))))))
                have hlay1178 : ∀ s l : Nat, (s : Int) < Fvy304 47 → (l : Int) < mn1 s → lyT ry1161 (84 * s + 7 * l) := by
                  intro s l a1 a2
                  have hm9 := hmn1 s (by omega)
                  exact (hly1 s l (by omega) a2).ext (fun j b1 b2 => hfry1179 j (by omega) (by omega) (by omega))
                have hgy1180 := (hfvy19 (i + 16) (ne_o (i := i) (c := 16) (d := 0) rfl)).trans ha16
                have hgy1181 := (hfvy54 (i + 16) (ne_o (i := i) (c := 16) (d := 0) rfl)).trans hgy1180
                have hgy1182 := (hfvy97 (i + 16) (ne_o (i := i) (c := 16) (d := 0) rfl)).trans hgy1181
                have hgy1183 := (hfvy148 (i + 16) (ne_o (i := i) (c := 16) (d := 0) rfl)).trans hgy1182
                have hgy1184 := (hfvy208 (i + 16) (ne_o (i := i) (c := 16) (d := 0) rfl)).trans hgy1183
                have hgy1185 := (hfvy226 (i + 16) (ne_o (i := i) (c := 16) (d := 0) rfl)).trans hgy1184
                have hgy1186 := (hfvy238 (i + 16) (ne_o (i := i) (c := 16) (d := 0) rfl)).trans hgy1185
                have hgy1187 := up_n egy257 hgy1186 (ne_o (i := i) (c := 16) (d := 23) rfl)
                have hgy1188 := (hfvy273 (i + 16) (ne_o (i := i) (c := 16) (d := 0) rfl)).trans hgy1187
                have hgy1189 := (hfvy283 (i + 16) (ne_o (i := i) (c := 16) (d := 0) rfl)).trans hgy1188
                have hgy1190 := up_n egy289 hgy1189 (ne_o (i := i) (c := 16) (d := 23) rfl)
                have hgy1191 := (hfvy304 (i + 16) (ne_o (i := i) (c := 16) (d := 0) rfl)).trans hgy1190
                have hgy1192 := up_n egy1159 hgy1191 (ne_o (i := i) (c := 16) (d := 23) rfl)
                have hgy1193 := (hfvy19 (i + 17) (ne_o (i := i) (c := 17) (d := 0) rfl)).trans ha17
                have hgy1194 := (hfvy54 (i + 17) (ne_o (i := i) (c := 17) (d := 0) rfl)).trans hgy1193
                have hgy1195 := (hfvy97 (i + 17) (ne_o (i := i) (c := 17) (d := 0) rfl)).trans hgy1194
                have hgy1196 := (hfvy148 (i + 17) (ne_o (i := i) (c := 17) (d := 0) rfl)).trans hgy1195
                have hgy1197 := (hfvy208 (i + 17) (ne_o (i := i) (c := 17) (d := 0) rfl)).trans hgy1196
                have hgy1198 := (hfvy226 (i + 17) (ne_o (i := i) (c := 17) (d := 0) rfl)).trans hgy1197
                have hgy1199 := (hfvy238 (i + 17) (ne_o (i := i) (c := 17) (d := 0) rfl)).trans hgy1198
                have hgy1200 := up_n egy257 hgy1199 (ne_o (i := i) (c := 17) (d := 23) rfl)
                have hgy1201 := (hfvy273 (i + 17) (ne_o (i := i) (c := 17) (d := 0) rfl)).trans hgy1200
                have hgy1202 := (hfvy283 (i + 17) (ne_o (i := i) (c := 17) (d := 0) rfl)).trans hgy1201
                have hgy1203 := up_n egy289 hgy1202 (ne_o (i := i) (c := 17) (d := 23) rfl)
                have hgy1204 := (hfvy304 (i + 17) (ne_o (i := i) (c := 17) (d := 0) rfl)).trans hgy1203
                have hgy1205 := up_n egy1159 hgy1204 (ne_o (i := i) (c := 17) (d := 23) rfl)
                have hgy1206 := (hfvy226 (i + 18) (ne_o (i := i) (c := 18) (d := 0) rfl)).trans hgy210
                have hgy1207 := (hfvy238 (i + 18) (ne_o (i := i) (c := 18) (d := 0) rfl)).trans hgy1206
                have hgy1208 := up_n egy257 hgy1207 (ne_o (i := i) (c := 18) (d := 23) rfl)
                have hgy1209 := (hfvy273 (i + 18) (ne_o (i := i) (c := 18) (d := 0) rfl)).trans hgy1208
                have hgy1210 := (hfvy283 (i + 18) (ne_o (i := i) (c := 18) (d := 0) rfl)).trans hgy1209
                have hgy1211 := up_n egy289 hgy1210 (ne_o (i := i) (c := 18) (d := 23) rfl)
                have hgy1212 := (hfvy304 (i + 18) (ne_o (i := i) (c := 18) (d := 0) rfl)).trans hgy1211
                have hgy1213 := up_n egy1159 hgy1212 (ne_o (i := i) (c := 18) (d := 23) rfl)
                have hgy1214 := (hfvy19 (i + 19) (ne_o (i := i) (c := 19) (d := 0) rfl)).trans ha19
                have hgy1215 := (hfvy54 (i + 19) (ne_o (i := i) (c := 19) (d := 0) rfl)).trans hgy1214
                have hgy1216 := (hfvy97 (i + 19) (ne_o (i := i) (c := 19) (d := 0) rfl)).trans hgy1215
                have hgy1217 := (hfvy148 (i + 19) (ne_o (i := i) (c := 19) (d := 0) rfl)).trans hgy1216
                have hgy1218 := (hfvy208 (i + 19) (ne_o (i := i) (c := 19) (d := 0) rfl)).trans hgy1217
                have hgy1219 := (hfvy226 (i + 19) (ne_o (i := i) (c := 19) (d := 0) rfl)).trans hgy1218
                have hgy1220 := (hfvy238 (i + 19) (ne_o (i := i) (c := 19) (d := 0) rfl)).trans hgy1219
                have hgy1221 := up_n egy257 hgy1220 (ne_o (i := i) (c := 19) (d := 23) rfl)
                have hgy1222 := (hfvy273 (i + 19) (ne_o (i := i) (c := 19) (d := 0) rfl)).trans hgy1221
                have hgy1223 := (hfvy283 (i + 19) (ne_o (i := i) (c := 19) (d := 0) rfl)).trans hgy1222
                have hgy1224 := up_n egy289 hgy1223 (ne_o (i := i) (c := 19) (d := 23) rfl)
                have hgy1225 := (hfvy304 (i + 19) (ne_o (i := i) (c := 19) (d := 0) rfl)).trans hgy1224
                have hgy1226 := up_n egy1159 hgy1225 (ne_o (i := i) (c := 19) (d := 23) rfl)
                have hgy1227 := (hfvy19 (i + 20) (ne_o (i := i) (c := 20) (d := 0) rfl)).trans ha20
                have hgy1228 := (hfvy54 (i + 20) (ne_o (i := i) (c := 20) (d := 0) rfl)).trans hgy1227
                have hgy1229 := (hfvy97 (i + 20) (ne_o (i := i) (c := 20) (d := 0) rfl)).trans hgy1228
                have hgy1230 := (hfvy148 (i + 20) (ne_o (i := i) (c := 20) (d := 0) rfl)).trans hgy1229
                have hgy1231 := (hfvy208 (i + 20) (ne_o (i := i) (c := 20) (d := 0) rfl)).trans hgy1230
                have hgy1232 := (hfvy226 (i + 20) (ne_o (i := i) (c := 20) (d := 0) rfl)).trans hgy1231
                have hgy1233 := (hfvy238 (i + 20) (ne_o (i := i) (c := 20) (d := 0) rfl)).trans hgy1232
                have hgy1234 := up_n egy257 hgy1233 (ne_o (i := i) (c := 20) (d := 23) rfl)
                have hgy1235 := (hfvy273 (i + 20) (ne_o (i := i) (c := 20) (d := 0) rfl)).trans hgy1234
                have hgy1236 := (hfvy283 (i + 20) (ne_o (i := i) (c := 20) (d := 0) rfl)).trans hgy1235
                have hgy1237 := up_n egy289 hgy1236 (ne_o (i := i) (c := 20) (d := 23) rfl)
                have hgy1238 := (hfvy304 (i + 20) (ne_o (i := i) (c := 20) (d := 0) rfl)).trans hgy1237
                have hgy1239 := up_n egy1159 hgy1238 (ne_o (i := i) (c := 20) (d := 23) rfl)
                have hgy1240 := (hfvy19 (i + 21) (ne_o (i := i) (c := 21) (d := 0) rfl)).trans ha21
                have hgy1241 := (hfvy54 (i + 21) (ne_o (i := i) (c := 21) (d := 0) rfl)).trans hgy1240
                have hgy1242 := (hfvy97 (i + 21) (ne_o (i := i) (c := 21) (d := 0) rfl)).trans hgy1241
                have hgy1243 := (hfvy148 (i + 21) (ne_o (i := i) (c := 21) (d := 0) rfl)).trans hgy1242
                have hgy1244 := (hfvy208 (i + 21) (ne_o (i := i) (c := 21) (d := 0) rfl)).trans hgy1243
                have hgy1245 := (hfvy226 (i + 21) (ne_o (i := i) (c := 21) (d := 0) rfl)).trans hgy1244
                have hgy1246 := (hfvy238 (i + 21) (ne_o (i := i) (c := 21) (d := 0) rfl)).trans hgy1245
                have hgy1247 := up_n egy257 hgy1246 (ne_o (i := i) (c := 21) (d := 23) rfl)
                have hgy1248 := (hfvy273 (i + 21) (ne_o (i := i) (c := 21) (d := 0) rfl)).trans hgy1247
                have hgy1249 := (hfvy283 (i + 21) (ne_o (i := i) (c := 21) (d := 0) rfl)).trans hgy1248
                have hgy1250 := up_n egy289 hgy1249 (ne_o (i := i) (c := 21) (d := 23) rfl)
                have hgy1251 := (hfvy304 (i + 21) (ne_o (i := i) (c := 21) (d := 0) rfl)).trans hgy1250
                have hgy1252 := up_n egy1159 hgy1251 (ne_o (i := i) (c := 21) (d := 23) rfl)
                have hgy1253 := (hfvy19 (i + 22) (ne_o (i := i) (c := 22) (d := 0) rfl)).trans ha22
                have hgy1254 := (hfvy54 (i + 22) (ne_o (i := i) (c := 22) (d := 0) rfl)).trans hgy1253
                have hgy1255 := (hfvy97 (i + 22) (ne_o (i := i) (c := 22) (d := 0) rfl)).trans hgy1254
                have hgy1256 := (hfvy148 (i + 22) (ne_o (i := i) (c := 22) (d := 0) rfl)).trans hgy1255
                have hgy1257 := (hfvy208 (i + 22) (ne_o (i := i) (c := 22) (d := 0) rfl)).trans hgy1256
                have hgy1258 := (hfvy226 (i + 22) (ne_o (i := i) (c := 22) (d := 0) rfl)).trans hgy1257
                have hgy1259 := (hfvy238 (i + 22) (ne_o (i := i) (c := 22) (d := 0) rfl)).trans hgy1258
                have hgy1260 := up_n egy257 hgy1259 (ne_o (i := i) (c := 22) (d := 23) rfl)
                have hgy1261 := (hfvy273 (i + 22) (ne_o (i := i) (c := 22) (d := 0) rfl)).trans hgy1260
                have hgy1262 := (hfvy283 (i + 22) (ne_o (i := i) (c := 22) (d := 0) rfl)).trans hgy1261
                have hgy1263 := up_n egy289 hgy1262 (ne_o (i := i) (c := 22) (d := 23) rfl)
                have hgy1264 := (hfvy304 (i + 22) (ne_o (i := i) (c := 22) (d := 0) rfl)).trans hgy1263
                have hgy1265 := up_n egy1159 hgy1264 (ne_o (i := i) (c := 22) (d := 23) rfl)
                have htxy1266 : okTx cs gy1158 i Fvy304 := ⟨_, _, _, _, _, _, _, _, ⟨hgy1192, hgy1205, hgy1213, hgy1226, hgy1239, hgy1252, hgy1265, hgy1160⟩, ⟨⟨by omega, by omega, by omega⟩, hop1, hmn1, hai1, hfa1, htb1, hlay1178⟩⟩
                exact z_vret C hr hlk dX10_layer1_272 (by decide) (by decide) ⟨rfl, rfl, rfl, ⟨_, hgy1163, hrdy1172, by omega, by omega, hFy1164, htxy1266⟩, fun j j1 j2 => by rw [egy1159, va_up_ne _ _ (by omega)]; rw [hfvy304 _ (by omega)]; rw [egy289, va_up_ne _ _ (by omega)]; rw [hfvy283 _ (by omega)]; rw [hfvy273 _ (by omega)]; rw [egy257, va_up_ne _ _ (by omega)]; rw [hfvy238 _ (by omega)]; rw [hfvy226 _ (by omega)]; rw [hfvy208 _ (by omega)]; rw [hfvy148 _ (by omega)]; rw [hfvy97 _ (by omega)]; rw [hfvy54 _ (by omega)]; rw [hfvy19 _ (by omega)]⟩
            · have hgy1267 := (hfvy273 (i + 23) (ne_o (i := i) (c := 23) (d := 0) rfl)).trans hgy258
              have hgy1268 := (hfvy283 (i + 23) (ne_o (i := i) (c := 23) (d := 0) rfl)).trans hgy1267
              refine z_iast C (by omega) hay10 hgy1268 (kqy212 + 1) (by omega) (by omega) (by decide) dX10_layer1_165 (fun gy1269 egy1270 => ?_)
              have hgy1271 := up_s egy1270
              obtain ⟨ry1272, hvy1273⟩ : ∃ rZ9 : Nat → Int, rZ9 = uZ ry259 (kqy212 + 1) (vy283) := ⟨_, rfl⟩
              rw [← hvy1273] at hgy1271
              refine z_aload_n C 2 dX10_layer1_166 rfl ?_
              have hgy1274 := up_n egy1270 hcvy283 (ne_o (i := i) (c := 0) (d := 23) rfl)
              refine z_get (v := .int (zI (Fvy283 38))) C (by omega) hay1 hgy1274 rfl inA_X10 38 (by decide) q_1497 rfl (fv (F := Fvy283) (f := 38) rfl) dX10_layer1_167 ?_
              refine z_if_ne (tgt := 188) C dX10_layer1_170 (by decide) (by omega) (fun _ => ?_) (fun h => absurd h (by omega))
              refine z_aload_n C 2 dX10_layer1_188 rfl ?_
              refine z_get (v := .int (zI (Fvy283 38))) C (by omega) hay1 hgy1274 rfl inA_X10 38 (by decide) q_1497 rfl (fv (F := Fvy283) (f := 38) rfl) dX10_layer1_189 ?_
              refine z_if_ne (tgt := 272) C dX10_layer1_192 (by decide) (by omega) (fun _ => ?_) (fun h => absurd h (by omega))
              have hFy1275 : ∀ f, f ≠ 24 → f ≠ 32 → f ≠ 33 → f ≠ 35 → f ≠ 36 → f ≠ 37 → f ≠ 38 → f ≠ 47 → f ≠ 48 → f ≠ 49 → Fvy283 f = F f := fun f n24 n32 n33 n35 n36 n37 n38 n47 n48 n49 => ((hFvy283 f n24 n32 n33 n35 n36 n37 n38).trans ((hFvy273 f n32 n33 n35 n36 n37).trans ((hFvy238 f n24 n38).trans ((hFvy226 f n32 n33 n35 n36 n37).trans ((hFvy208 f n24 n38).trans ((hFvy148 f n24 n38).trans ((hFvy97 f n24 n38).trans ((hFvy54 f n24 n38).trans (hFvy19 f n32 n33 n35 n36 n37)))))))))
              have hey1276 : Fvy283 32 = Fvy283 32 := rfl
              have hey1277 : Fvy283 33 = Fvy283 33 := rfl
              have hey1278 : Fvy283 34 = F 34 := ((hFvy283 34 (by decide) (by decide) (by decide) (by decide) (by decide) (by decide) (by decide)).trans ((hFvy273 34 (by decide) (by decide) (by decide) (by decide) (by decide)).trans ((hFvy238 34 (by decide) (by decide)).trans ((hFvy226 34 (by decide) (by decide) (by decide) (by decide) (by decide)).trans ((hFvy208 34 (by decide) (by decide)).trans ((hFvy148 34 (by decide) (by decide)).trans ((hFvy97 34 (by decide) (by decide)).trans ((hFvy54 34 (by decide) (by decide)).trans (hFvy19 34 (by decide) (by decide) (by decide) (by decide) (by decide))))))))))
              have hey1279 : Fvy283 35 = Fvy283 35 := rfl
              have hey1280 : Fvy283 36 = Fvy283 36 := rfl
              have hey1281 : Fvy283 37 = Fvy283 37 := rfl
              have hey1282 : Fvy283 38 = Fvy283 38 := rfl
              have hrdy1283 : RD Fvy283 := by unfold RD; omega
              have hey1284 : Fvy283 32 = Fvy283 32 := rfl
              have hey1285 : Fvy283 47 = F 47 := ((hFvy283 47 (by decide) (by decide) (by decide) (by decide) (by decide) (by decide) (by decide)).trans ((hFvy273 47 (by decide) (by decide) (by decide) (by decide) (by decide)).trans ((hFvy238 47 (by decide) (by decide)).trans ((hFvy226 47 (by decide) (by decide) (by decide) (by decide) (by decide)).trans ((hFvy208 47 (by decide) (by decide)).trans ((hFvy148 47 (by decide) (by decide)).trans ((hFvy97 47 (by decide) (by decide)).trans ((hFvy54 47 (by decide) (by decide)).trans (hFvy19 47 (by decide) (by decide) (by decide) (by decide) (by decide))))))))))
              have hey1286 : Fvy283 48 = F 48 := ((hFvy283 48 (by decide) (by decide) (by decide) (by decide) (by decide) (by decide) (by decide)).trans ((hFvy273 48 (by decide) (by decide) (by decide) (by decide) (by decide)).trans ((hFvy238 48 (by decide) (by decide)).trans ((hFvy226 48 (by decide) (by decide) (by decide) (by decide) (by decide)).trans ((hFvy208 48 (by decide) (by decide)).trans ((hFvy148 48 (by decide) (by decide)).trans ((hFvy97 48 (by decide) (by decide)).trans ((hFvy54 48 (by decide) (by decide)).trans (hFvy19 48 (by decide) (by decide) (by decide) (by decide) (by decide))))))))))
              have hey1287 : Fvy283 49 = F 49 := ((hFvy283 49 (by decide) (by decide) (by decide) (by decide) (by decide) (by decide) (by decide)).trans ((hFvy273 49 (by decide) (by decide) (by decide) (by decide) (by decide)).trans ((hFvy238 49 (by decide) (by decide)).trans ((hFvy226 49 (by decide) (by decide) (by decide) (by decide) (by decide)).trans ((hFvy208 49 (by decide) (by decide)).trans ((hFvy148 49 (by decide) (by decide)).trans ((hFvy97 49 (by decide) (by decide)).trans ((hFvy54 49 (by decide) (by decide)).trans (hFvy19 49 (by decide) (by decide) (by decide) (by decide) (by decide))))))))))
              have hfry1290 : ∀ j, j ≠ kqy212 + 1 → j ≠ kqy212 → ry1272 j = ly1 j := fun j n0 n1 => (congrFun hvy1273 _).trans ((uZ_n _ _ n0).trans ((congrFun hvy260 _).trans ((uZ_n _ _ n1).trans (rfl))))
              have hlay1289 : ∀ s l : Nat, (s : Int) < Fvy283 47 → (l : Int) < mn1 s → lyT ry1272 (84 * s + 7 * l) := by
                intro s l a1 a2
                have hm9 := hmn1 s (by omega)
                exact (hly1 s l (by omega) a2).ext (fun j b1 b2 => hfry1290 j (by omega) (by omega))
              have hgy1291 := (hfvy19 (i + 16) (ne_o (i := i) (c := 16) (d := 0) rfl)).trans ha16
              have hgy1292 := (hfvy54 (i + 16) (ne_o (i := i) (c := 16) (d := 0) rfl)).trans hgy1291
              have hgy1293 := (hfvy97 (i + 16) (ne_o (i := i) (c := 16) (d := 0) rfl)).trans hgy1292
              have hgy1294 := (hfvy148 (i + 16) (ne_o (i := i) (c := 16) (d := 0) rfl)).trans hgy1293
              have hgy1295 := (hfvy208 (i + 16) (ne_o (i := i) (c := 16) (d := 0) rfl)).trans hgy1294
              have hgy1296 := (hfvy226 (i + 16) (ne_o (i := i) (c := 16) (d := 0) rfl)).trans hgy1295
              have hgy1297 := (hfvy238 (i + 16) (ne_o (i := i) (c := 16) (d := 0) rfl)).trans hgy1296
              have hgy1298 := up_n egy257 hgy1297 (ne_o (i := i) (c := 16) (d := 23) rfl)
              have hgy1299 := (hfvy273 (i + 16) (ne_o (i := i) (c := 16) (d := 0) rfl)).trans hgy1298
              have hgy1300 := (hfvy283 (i + 16) (ne_o (i := i) (c := 16) (d := 0) rfl)).trans hgy1299
              have hgy1301 := up_n egy1270 hgy1300 (ne_o (i := i) (c := 16) (d := 23) rfl)
              have hgy1302 := (hfvy19 (i + 17) (ne_o (i := i) (c := 17) (d := 0) rfl)).trans ha17
              have hgy1303 := (hfvy54 (i + 17) (ne_o (i := i) (c := 17) (d := 0) rfl)).trans hgy1302
              have hgy1304 := (hfvy97 (i + 17) (ne_o (i := i) (c := 17) (d := 0) rfl)).trans hgy1303
              have hgy1305 := (hfvy148 (i + 17) (ne_o (i := i) (c := 17) (d := 0) rfl)).trans hgy1304
              have hgy1306 := (hfvy208 (i + 17) (ne_o (i := i) (c := 17) (d := 0) rfl)).trans hgy1305
              have hgy1307 := (hfvy226 (i + 17) (ne_o (i := i) (c := 17) (d := 0) rfl)).trans hgy1306
              have hgy1308 := (hfvy238 (i + 17) (ne_o (i := i) (c := 17) (d := 0) rfl)).trans hgy1307
              have hgy1309 := up_n egy257 hgy1308 (ne_o (i := i) (c := 17) (d := 23) rfl)
              have hgy1310 := (hfvy273 (i + 17) (ne_o (i := i) (c := 17) (d := 0) rfl)).trans hgy1309
              have hgy1311 := (hfvy283 (i + 17) (ne_o (i := i) (c := 17) (d := 0) rfl)).trans hgy1310
              have hgy1312 := up_n egy1270 hgy1311 (ne_o (i := i) (c := 17) (d := 23) rfl)
              have hgy1313 := (hfvy226 (i + 18) (ne_o (i := i) (c := 18) (d := 0) rfl)).trans hgy210
              have hgy1314 := (hfvy238 (i + 18) (ne_o (i := i) (c := 18) (d := 0) rfl)).trans hgy1313
              have hgy1315 := up_n egy257 hgy1314 (ne_o (i := i) (c := 18) (d := 23) rfl)
              have hgy1316 := (hfvy273 (i + 18) (ne_o (i := i) (c := 18) (d := 0) rfl)).trans hgy1315
              have hgy1317 := (hfvy283 (i + 18) (ne_o (i := i) (c := 18) (d := 0) rfl)).trans hgy1316
              have hgy1318 := up_n egy1270 hgy1317 (ne_o (i := i) (c := 18) (d := 23) rfl)
              have hgy1319 := (hfvy19 (i + 19) (ne_o (i := i) (c := 19) (d := 0) rfl)).trans ha19
              have hgy1320 := (hfvy54 (i + 19) (ne_o (i := i) (c := 19) (d := 0) rfl)).trans hgy1319
              have hgy1321 := (hfvy97 (i + 19) (ne_o (i := i) (c := 19) (d := 0) rfl)).trans hgy1320
              have hgy1322 := (hfvy148 (i + 19) (ne_o (i := i) (c := 19) (d := 0) rfl)).trans hgy1321
              have hgy1323 := (hfvy208 (i + 19) (ne_o (i := i) (c := 19) (d := 0) rfl)).trans hgy1322
              have hgy1324 := (hfvy226 (i + 19) (ne_o (i := i) (c := 19) (d := 0) rfl)).trans hgy1323
              have hgy1325 := (hfvy238 (i + 19) (ne_o (i := i) (c := 19) (d := 0) rfl)).trans hgy1324
              have hgy1326 := up_n egy257 hgy1325 (ne_o (i := i) (c := 19) (d := 23) rfl)
              have hgy1327 := (hfvy273 (i + 19) (ne_o (i := i) (c := 19) (d := 0) rfl)).trans hgy1326
              have hgy1328 := (hfvy283 (i + 19) (ne_o (i := i) (c := 19) (d := 0) rfl)).trans hgy1327
              have hgy1329 := up_n egy1270 hgy1328 (ne_o (i := i) (c := 19) (d := 23) rfl)
              have hgy1330 := (hfvy19 (i + 20) (ne_o (i := i) (c := 20) (d := 0) rfl)).trans ha20
              have hgy1331 := (hfvy54 (i + 20) (ne_o (i := i) (c := 20) (d := 0) rfl)).trans hgy1330
              have hgy1332 := (hfvy97 (i + 20) (ne_o (i := i) (c := 20) (d := 0) rfl)).trans hgy1331
              have hgy1333 := (hfvy148 (i + 20) (ne_o (i := i) (c := 20) (d := 0) rfl)).trans hgy1332
              have hgy1334 := (hfvy208 (i + 20) (ne_o (i := i) (c := 20) (d := 0) rfl)).trans hgy1333
              have hgy1335 := (hfvy226 (i + 20) (ne_o (i := i) (c := 20) (d := 0) rfl)).trans hgy1334
              have hgy1336 := (hfvy238 (i + 20) (ne_o (i := i) (c := 20) (d := 0) rfl)).trans hgy1335
              have hgy1337 := up_n egy257 hgy1336 (ne_o (i := i) (c := 20) (d := 23) rfl)
              have hgy1338 := (hfvy273 (i + 20) (ne_o (i := i) (c := 20) (d := 0) rfl)).trans hgy1337
              have hgy1339 := (hfvy283 (i + 20) (ne_o (i := i) (c := 20) (d := 0) rfl)).trans hgy1338
              have hgy1340 := up_n egy1270 hgy1339 (ne_o (i := i) (c := 20) (d := 23) rfl)
              have hgy1341 := (hfvy19 (i + 21) (ne_o (i := i) (c := 21) (d := 0) rfl)).trans ha21
              have hgy1342 := (hfvy54 (i + 21) (ne_o (i := i) (c := 21) (d := 0) rfl)).trans hgy1341
              have hgy1343 := (hfvy97 (i + 21) (ne_o (i := i) (c := 21) (d := 0) rfl)).trans hgy1342
              have hgy1344 := (hfvy148 (i + 21) (ne_o (i := i) (c := 21) (d := 0) rfl)).trans hgy1343
              have hgy1345 := (hfvy208 (i + 21) (ne_o (i := i) (c := 21) (d := 0) rfl)).trans hgy1344
              have hgy1346 := (hfvy226 (i + 21) (ne_o (i := i) (c := 21) (d := 0) rfl)).trans hgy1345
              have hgy1347 := (hfvy238 (i + 21) (ne_o (i := i) (c := 21) (d := 0) rfl)).trans hgy1346
              have hgy1348 := up_n egy257 hgy1347 (ne_o (i := i) (c := 21) (d := 23) rfl)
              have hgy1349 := (hfvy273 (i + 21) (ne_o (i := i) (c := 21) (d := 0) rfl)).trans hgy1348
              have hgy1350 := (hfvy283 (i + 21) (ne_o (i := i) (c := 21) (d := 0) rfl)).trans hgy1349
              have hgy1351 := up_n egy1270 hgy1350 (ne_o (i := i) (c := 21) (d := 23) rfl)
              have hgy1352 := (hfvy19 (i + 22) (ne_o (i := i) (c := 22) (d := 0) rfl)).trans ha22
              have hgy1353 := (hfvy54 (i + 22) (ne_o (i := i) (c := 22) (d := 0) rfl)).trans hgy1352
              have hgy1354 := (hfvy97 (i + 22) (ne_o (i := i) (c := 22) (d := 0) rfl)).trans hgy1353
              have hgy1355 := (hfvy148 (i + 22) (ne_o (i := i) (c := 22) (d := 0) rfl)).trans hgy1354
              have hgy1356 := (hfvy208 (i + 22) (ne_o (i := i) (c := 22) (d := 0) rfl)).trans hgy1355
              have hgy1357 := (hfvy226 (i + 22) (ne_o (i := i) (c := 22) (d := 0) rfl)).trans hgy1356
              have hgy1358 := (hfvy238 (i + 22) (ne_o (i := i) (c := 22) (d := 0) rfl)).trans hgy1357
              have hgy1359 := up_n egy257 hgy1358 (ne_o (i := i) (c := 22) (d := 23) rfl)
              have hgy1360 := (hfvy273 (i + 22) (ne_o (i := i) (c := 22) (d := 0) rfl)).trans hgy1359
              have hgy1361 := (hfvy283 (i + 22) (ne_o (i := i) (c := 22) (d := 0) rfl)).trans hgy1360
              have hgy1362 := up_n egy1270 hgy1361 (ne_o (i := i) (c := 22) (d := 23) rfl)
              have htxy1363 : okTx cs gy1269 i Fvy283 := ⟨_, _, _, _, _, _, _, _, ⟨hgy1301, hgy1312, hgy1318, hgy1329, hgy1340, hgy1351, hgy1362, hgy1271⟩, ⟨⟨by omega, by omega, by omega⟩, hop1, hmn1, hai1, hfa1, htb1, hlay1289⟩⟩
              exact z_vret C hr hlk dX10_layer1_272 (by decide) (by decide) ⟨rfl, rfl, rfl, ⟨_, hgy1274, hrdy1283, by omega, by omega, hFy1275, htxy1363⟩, fun j j1 j2 => by rw [egy1270, va_up_ne _ _ (by omega)]; rw [hfvy283 _ (by omega)]; rw [hfvy273 _ (by omega)]; rw [egy257, va_up_ne _ _ (by omega)]; rw [hfvy238 _ (by omega)]; rw [hfvy226 _ (by omega)]; rw [hfvy208 _ (by omega)]; rw [hfvy148 _ (by omega)]; rw [hfvy97 _ (by omega)]; rw [hfvy54 _ (by omega)]; rw [hfvy19 _ (by omega)]⟩
          · refine z_if_ne (tgt := 135) C dX10_layer1_131 (by decide) (by omega) (fun h => absurd h (by omega)) (fun _ => ?_)
            have hFy1364 : ∀ f, f ≠ 24 → f ≠ 32 → f ≠ 33 → f ≠ 35 → f ≠ 36 → f ≠ 37 → f ≠ 38 → f ≠ 47 → f ≠ 48 → f ≠ 49 → Fvy238 f = F f := fun f n24 n32 n33 n35 n36 n37 n38 n47 n48 n49 => ((hFvy238 f n24 n38).trans ((hFvy226 f n32 n33 n35 n36 n37).trans ((hFvy208 f n24 n38).trans ((hFvy148 f n24 n38).trans ((hFvy97 f n24 n38).trans ((hFvy54 f n24 n38).trans (hFvy19 f n32 n33 n35 n36 n37)))))))
            have hey1365 : Fvy238 32 = Fvy226 32 := (hFvy238 32 (by decide) (by decide))
            have hey1366 : Fvy238 33 = Fvy226 33 := (hFvy238 33 (by decide) (by decide))
            have hey1367 : Fvy238 34 = F 34 := ((hFvy238 34 (by decide) (by decide)).trans ((hFvy226 34 (by decide) (by decide) (by decide) (by decide) (by decide)).trans ((hFvy208 34 (by decide) (by decide)).trans ((hFvy148 34 (by decide) (by decide)).trans ((hFvy97 34 (by decide) (by decide)).trans ((hFvy54 34 (by decide) (by decide)).trans (hFvy19 34 (by decide) (by decide) (by decide) (by decide) (by decide))))))))
            have hey1368 : Fvy238 35 = Fvy226 35 := (hFvy238 35 (by decide) (by decide))
            have hey1369 : Fvy238 36 = Fvy226 36 := (hFvy238 36 (by decide) (by decide))
            have hey1370 : Fvy238 37 = Fvy226 37 := (hFvy238 37 (by decide) (by decide))
            have hey1371 : Fvy238 38 = Fvy238 38 := rfl
            have hrdy1372 : RD Fvy238 := by unfold RD; omega
            have hey1373 : Fvy238 32 = Fvy226 32 := (hFvy238 32 (by decide) (by decide))
            have hey1374 : Fvy238 47 = F 47 := ((hFvy238 47 (by decide) (by decide)).trans ((hFvy226 47 (by decide) (by decide) (by decide) (by decide) (by decide)).trans ((hFvy208 47 (by decide) (by decide)).trans ((hFvy148 47 (by decide) (by decide)).trans ((hFvy97 47 (by decide) (by decide)).trans ((hFvy54 47 (by decide) (by decide)).trans (hFvy19 47 (by decide) (by decide) (by decide) (by decide) (by decide))))))))
            have hey1375 : Fvy238 48 = F 48 := ((hFvy238 48 (by decide) (by decide)).trans ((hFvy226 48 (by decide) (by decide) (by decide) (by decide) (by decide)).trans ((hFvy208 48 (by decide) (by decide)).trans ((hFvy148 48 (by decide) (by decide)).trans ((hFvy97 48 (by decide) (by decide)).trans ((hFvy54 48 (by decide) (by decide)).trans (hFvy19 48 (by decide) (by decide) (by decide) (by decide) (by decide))))))))
            have hey1376 : Fvy238 49 = F 49 := ((hFvy238 49 (by decide) (by decide)).trans ((hFvy226 49 (by decide) (by decide) (by decide) (by decide) (by decide)).trans ((hFvy208 49 (by decide) (by decide)).trans ((hFvy148 49 (by decide) (by decide)).trans ((hFvy97 49 (by decide) (by decide)).trans ((hFvy54 49 (by decide) (by decide)).trans (hFvy19 49 (by decide) (by decide) (by decide) (by decide) (by decide))))))))
            have hlay1378 : ∀ s l : Nat, (s : Int) < Fvy238 47 → (l : Int) < mn1 s → lyT ly1 (84 * s + 7 * l) := fun s l a1 a2 => hly1 s l (by omega) a2
            have hgy1379 := (hfvy19 (i + 16) (ne_o (i := i) (c := 16) (d := 0) rfl)).trans ha16
            have hgy1380 := (hfvy54 (i + 16) (ne_o (i := i) (c := 16) (d := 0) rfl)).trans hgy1379
            have hgy1381 := (hfvy97 (i + 16) (ne_o (i := i) (c := 16) (d := 0) rfl)).trans hgy1380
            have hgy1382 := (hfvy148 (i + 16) (ne_o (i := i) (c := 16) (d := 0) rfl)).trans hgy1381
            have hgy1383 := (hfvy208 (i + 16) (ne_o (i := i) (c := 16) (d := 0) rfl)).trans hgy1382
            have hgy1384 := (hfvy226 (i + 16) (ne_o (i := i) (c := 16) (d := 0) rfl)).trans hgy1383
            have hgy1385 := (hfvy238 (i + 16) (ne_o (i := i) (c := 16) (d := 0) rfl)).trans hgy1384
            have hgy1386 := (hfvy19 (i + 17) (ne_o (i := i) (c := 17) (d := 0) rfl)).trans ha17
            have hgy1387 := (hfvy54 (i + 17) (ne_o (i := i) (c := 17) (d := 0) rfl)).trans hgy1386
            have hgy1388 := (hfvy97 (i + 17) (ne_o (i := i) (c := 17) (d := 0) rfl)).trans hgy1387
            have hgy1389 := (hfvy148 (i + 17) (ne_o (i := i) (c := 17) (d := 0) rfl)).trans hgy1388
            have hgy1390 := (hfvy208 (i + 17) (ne_o (i := i) (c := 17) (d := 0) rfl)).trans hgy1389
            have hgy1391 := (hfvy226 (i + 17) (ne_o (i := i) (c := 17) (d := 0) rfl)).trans hgy1390
            have hgy1392 := (hfvy238 (i + 17) (ne_o (i := i) (c := 17) (d := 0) rfl)).trans hgy1391
            have hgy1393 := (hfvy226 (i + 18) (ne_o (i := i) (c := 18) (d := 0) rfl)).trans hgy210
            have hgy1394 := (hfvy238 (i + 18) (ne_o (i := i) (c := 18) (d := 0) rfl)).trans hgy1393
            have hgy1395 := (hfvy19 (i + 19) (ne_o (i := i) (c := 19) (d := 0) rfl)).trans ha19
            have hgy1396 := (hfvy54 (i + 19) (ne_o (i := i) (c := 19) (d := 0) rfl)).trans hgy1395
            have hgy1397 := (hfvy97 (i + 19) (ne_o (i := i) (c := 19) (d := 0) rfl)).trans hgy1396
            have hgy1398 := (hfvy148 (i + 19) (ne_o (i := i) (c := 19) (d := 0) rfl)).trans hgy1397
            have hgy1399 := (hfvy208 (i + 19) (ne_o (i := i) (c := 19) (d := 0) rfl)).trans hgy1398
            have hgy1400 := (hfvy226 (i + 19) (ne_o (i := i) (c := 19) (d := 0) rfl)).trans hgy1399
            have hgy1401 := (hfvy238 (i + 19) (ne_o (i := i) (c := 19) (d := 0) rfl)).trans hgy1400
            have hgy1402 := (hfvy19 (i + 20) (ne_o (i := i) (c := 20) (d := 0) rfl)).trans ha20
            have hgy1403 := (hfvy54 (i + 20) (ne_o (i := i) (c := 20) (d := 0) rfl)).trans hgy1402
            have hgy1404 := (hfvy97 (i + 20) (ne_o (i := i) (c := 20) (d := 0) rfl)).trans hgy1403
            have hgy1405 := (hfvy148 (i + 20) (ne_o (i := i) (c := 20) (d := 0) rfl)).trans hgy1404
            have hgy1406 := (hfvy208 (i + 20) (ne_o (i := i) (c := 20) (d := 0) rfl)).trans hgy1405
            have hgy1407 := (hfvy226 (i + 20) (ne_o (i := i) (c := 20) (d := 0) rfl)).trans hgy1406
            have hgy1408 := (hfvy238 (i + 20) (ne_o (i := i) (c := 20) (d := 0) rfl)).trans hgy1407
            have hgy1409 := (hfvy19 (i + 21) (ne_o (i := i) (c := 21) (d := 0) rfl)).trans ha21
            have hgy1410 := (hfvy54 (i + 21) (ne_o (i := i) (c := 21) (d := 0) rfl)).trans hgy1409
            have hgy1411 := (hfvy97 (i + 21) (ne_o (i := i) (c := 21) (d := 0) rfl)).trans hgy1410
            have hgy1412 := (hfvy148 (i + 21) (ne_o (i := i) (c := 21) (d := 0) rfl)).trans hgy1411
            have hgy1413 := (hfvy208 (i + 21) (ne_o (i := i) (c := 21) (d := 0) rfl)).trans hgy1412
            have hgy1414 := (hfvy226 (i + 21) (ne_o (i := i) (c := 21) (d := 0) rfl)).trans hgy1413
            have hgy1415 := (hfvy238 (i + 21) (ne_o (i := i) (c := 21) (d := 0) rfl)).trans hgy1414
            have hgy1416 := (hfvy19 (i + 22) (ne_o (i := i) (c := 22) (d := 0) rfl)).trans ha22
            have hgy1417 := (hfvy54 (i + 22) (ne_o (i := i) (c := 22) (d := 0) rfl)).trans hgy1416
            have hgy1418 := (hfvy97 (i + 22) (ne_o (i := i) (c := 22) (d := 0) rfl)).trans hgy1417
            have hgy1419 := (hfvy148 (i + 22) (ne_o (i := i) (c := 22) (d := 0) rfl)).trans hgy1418
            have hgy1420 := (hfvy208 (i + 22) (ne_o (i := i) (c := 22) (d := 0) rfl)).trans hgy1419
            have hgy1421 := (hfvy226 (i + 22) (ne_o (i := i) (c := 22) (d := 0) rfl)).trans hgy1420
            have hgy1422 := (hfvy238 (i + 22) (ne_o (i := i) (c := 22) (d := 0) rfl)).trans hgy1421
            have hgy1423 := (hfvy19 (i + 23) (ne_o (i := i) (c := 23) (d := 0) rfl)).trans ha23
            have hgy1424 := (hfvy54 (i + 23) (ne_o (i := i) (c := 23) (d := 0) rfl)).trans hgy1423
            have hgy1425 := (hfvy97 (i + 23) (ne_o (i := i) (c := 23) (d := 0) rfl)).trans hgy1424
            have hgy1426 := (hfvy148 (i + 23) (ne_o (i := i) (c := 23) (d := 0) rfl)).trans hgy1425
            have hgy1427 := (hfvy208 (i + 23) (ne_o (i := i) (c := 23) (d := 0) rfl)).trans hgy1426
            have hgy1428 := (hfvy226 (i + 23) (ne_o (i := i) (c := 23) (d := 0) rfl)).trans hgy1427
            have hgy1429 := (hfvy238 (i + 23) (ne_o (i := i) (c := 23) (d := 0) rfl)).trans hgy1428
            have htxy1430 : okTx cs gvy238 i Fvy238 := ⟨_, _, _, _, _, _, _, _, ⟨hgy1385, hgy1392, hgy1394, hgy1401, hgy1408, hgy1415, hgy1422, hgy1429⟩, ⟨⟨by omega, by omega, by omega⟩, hop1, hmn1, hai1, hfa1, htb1, hlay1378⟩⟩
            exact z_vret C hr hlk dX10_layer1_134 (by decide) (by decide) ⟨rfl, rfl, rfl, ⟨_, hcvy238, hrdy1372, by omega, by omega, hFy1364, htxy1430⟩, fun j j1 j2 => by rw [hfvy238 _ (by omega)]; rw [hfvy226 _ (by omega)]; rw [hfvy208 _ (by omega)]; rw [hfvy148 _ (by omega)]; rw [hfvy97 _ (by omega)]; rw [hfvy54 _ (by omega)]; rw [hfvy19 _ (by omega)]⟩

set_option maxRecDepth 100000 in
set_option maxHeartbeats 4000000 in
theorem c_X10_hour1 (l : Launch) (D : va_G) (A : Nat → Prop) (cs : Nat → ClassId) (tt : Nat) (N : Nat) (ad : Nat → Nat) (g : Nat → va_E) (i : Nat) (hN : i + 30 ≤ N) (F : Nat → Int) (hg : g i = mC ad i F) (tp : Nat → Int) (ha13 : g (i + 13) = iA cs 900 tp) (htp : ∀ k, k < 900 → 0 ≤ tp k ∧ tp k ≤ 255) (hRD : RD F) (h38 : F 38 = 0) (hTx : okTx cs g i F) : zM l yX10_hour1 cX10_hour1 3 none ({ frames := 5, cells := 0, slots := 0, locals := 300 } : Room) D A cs tt N ad g [.ref (ad i)] (rV0 N ad fun g' => (∃ F' : Nat → Int, g' i = mC ad i F' ∧ RD F' ∧ F 32 ≤ F' 32 ∧ (F' 38 = 0 → F' 35 ≠ 0 → F 32 < F' 32) ∧ (∀ f, f ≠ 24 → f ≠ 32 → f ≠ 33 → f ≠ 35 → f ≠ 36 → f ≠ 37 → f ≠ 38 → f ≠ 47 → f ≠ 48 → f ≠ 49 → F' f = F f) ∧ okTx cs g' i F') ∧ ∀ j, j ≠ i → j < i + 16 ∨ i + 23 < j → g' j = g j) := by
  have hay1 : zAt ad (i) (ad i) := rfl
  have hay2 : zAt ad (i + 13) (ad (i + 13)) := rfl
  obtain ⟨d32, d33, d35, d36, d2, d37, d38⟩ := id hRD
  obtain ⟨st1, op1, mn1, ai1, fa1, mu1, tb1, ly1, ⟨ha16, ha17, ha18, ha19, ha20, ha21, ha22, ha23⟩, ⟨⟨t47, t48, t49⟩, hop1, hmn1, hai1, hfa1, htb1, hly1⟩⟩ := id hTx
  have hay3 : zAt ad (i + 16) (ad (i + 16)) := rfl
  have hay4 : zAt ad (i + 17) (ad (i + 17)) := rfl
  have hay5 : zAt ad (i + 18) (ad (i + 18)) := rfl
  have hay6 : zAt ad (i + 19) (ad (i + 19)) := rfl
  have hay7 : zAt ad (i + 20) (ad (i + 20)) := rfl
  have hay8 : zAt ad (i + 21) (ad (i + 21)) := rfl
  have hay9 : zAt ad (i + 22) (ad (i + 22)) := rfl
  have hay10 : zAt ad (i + 23) (ad (i + 23)) := rfl
  refine z_of (by decide) (Nat.le_of_ble_eq_true rfl) ?_
  intro pZ eZ sZ mZ below meth cZ C hr hlk hnm
  refine z_lv (lv' := [(0, .ref (ad i))]) [0] rfl ?_
  refine z_aload_n C 0 dX10_hour1_0 rfl ?_
  refine z_aload_n C 0 dX10_hour1_1 rfl ?_
  refine z_get (v := .int (zI (F 48))) C (by omega) hay1 hg rfl inA_X10 48 (by decide) q_1507 rfl (fv (F := F) (f := 48) rfl) dX10_hour1_2 ?_
  refine z_bipush (z := 24) C dX10_hour1_5 (by decide) ?_
  refine z_icmp_ge (tgt := 14) C dX10_hour1_7 (by decide) (by omega) (by omega) (fun hby11 => ?_) (fun hby11 => ?_)
  · refine z_iconst (z := 0) C dX10_hour1_14 rfl ?_
    refine z_iconst (z := 2) C dX10_hour1_15 rfl ?_
    have h38vy12 : F 38 = 0 := h38
    refine z_cV (As := [.int (zI (0)), .int (zI (2))]) (rest := []) (ci := 12) C (c_X10_wants l D A cs tt N ad _ i hN _ hg (by omega) (0) (by omega) (2) (by omega)) (by omega) hay1 hg rfl rfl mv_yX10_wants q_1678 hd_yX10_wants (by decide) (Nat.le_of_ble_eq_true rfl) (by decide) dX10_hour1_16 rfl (kI0 fun vy12 gvy12 hvy12 => ?_)
    obtain ⟨⟨Fvy12, hcvy12, hqvy12, hbvy12, hFvy12⟩, hfvy12⟩ := hvy12
    obtain rfl : vy12 = 0 := by omega
    refine z_if_ne (tgt := 23) C dX10_hour1_19 (by decide) (by omega) (fun h => absurd h (by omega)) (fun _ => ?_)
    have hFy13 : ∀ f, f ≠ 24 → f ≠ 32 → f ≠ 33 → f ≠ 35 → f ≠ 36 → f ≠ 37 → f ≠ 38 → f ≠ 47 → f ≠ 48 → f ≠ 49 → Fvy12 f = F f := fun f n24 n32 n33 n35 n36 n37 n38 n47 n48 n49 => (hFvy12 f n24 n38)
    have hey14 : Fvy12 32 = F 32 := (hFvy12 32 (by decide) (by decide))
    have hey15 : Fvy12 33 = F 33 := (hFvy12 33 (by decide) (by decide))
    have hey16 : Fvy12 34 = F 34 := (hFvy12 34 (by decide) (by decide))
    have hey17 : Fvy12 35 = F 35 := (hFvy12 35 (by decide) (by decide))
    have hey18 : Fvy12 36 = F 36 := (hFvy12 36 (by decide) (by decide))
    have hey19 : Fvy12 37 = F 37 := (hFvy12 37 (by decide) (by decide))
    have hey20 : Fvy12 38 = Fvy12 38 := rfl
    have hrdy21 : RD Fvy12 := by unfold RD; omega
    have hey22 : Fvy12 32 = F 32 := (hFvy12 32 (by decide) (by decide))
    have hey23 : Fvy12 47 = F 47 := (hFvy12 47 (by decide) (by decide))
    have hey24 : Fvy12 48 = F 48 := (hFvy12 48 (by decide) (by decide))
    have hey25 : Fvy12 49 = F 49 := (hFvy12 49 (by decide) (by decide))
    have hlay27 : ∀ s l : Nat, (s : Int) < Fvy12 47 → (l : Int) < mn1 s → lyT ly1 (84 * s + 7 * l) := fun s l a1 a2 => hly1 s l (by omega) a2
    have hgy28 := (hfvy12 (i + 16) (ne_o (i := i) (c := 16) (d := 0) rfl)).trans ha16
    have hgy29 := (hfvy12 (i + 17) (ne_o (i := i) (c := 17) (d := 0) rfl)).trans ha17
    have hgy30 := (hfvy12 (i + 18) (ne_o (i := i) (c := 18) (d := 0) rfl)).trans ha18
    have hgy31 := (hfvy12 (i + 19) (ne_o (i := i) (c := 19) (d := 0) rfl)).trans ha19
    have hgy32 := (hfvy12 (i + 20) (ne_o (i := i) (c := 20) (d := 0) rfl)).trans ha20
    have hgy33 := (hfvy12 (i + 21) (ne_o (i := i) (c := 21) (d := 0) rfl)).trans ha21
    have hgy34 := (hfvy12 (i + 22) (ne_o (i := i) (c := 22) (d := 0) rfl)).trans ha22
    have hgy35 := (hfvy12 (i + 23) (ne_o (i := i) (c := 23) (d := 0) rfl)).trans ha23
    have htxy36 : okTx cs gvy12 i Fvy12 := ⟨_, _, _, _, _, _, _, _, ⟨hgy28, hgy29, hgy30, hgy31, hgy32, hgy33, hgy34, hgy35⟩, ⟨⟨by omega, by omega, by omega⟩, hop1, hmn1, hai1, hfa1, htb1, hlay27⟩⟩
    exact z_vret C hr hlk dX10_hour1_22 (by decide) (by decide) ⟨rfl, rfl, rfl, ⟨_, hcvy12, hrdy21, by omega, by omega, hFy13, htxy36⟩, fun j j1 j2 => by rw [hfvy12 _ (by omega)]⟩
  · refine z_iconst (z := 1) C dX10_hour1_10 rfl ?_
    refine z_goto (tgt := 15) C dX10_hour1_11 (by decide) ?_
    refine z_iconst (z := 2) C dX10_hour1_15 rfl ?_
    have h38vy37 : F 38 = 0 := h38
    refine z_cV (As := [.int (zI (1)), .int (zI (2))]) (rest := []) (ci := 12) C (c_X10_wants l D A cs tt N ad _ i hN _ hg (by omega) (1) (by omega) (2) (by omega)) (by omega) hay1 hg rfl rfl mv_yX10_wants q_1678 hd_yX10_wants (by decide) (Nat.le_of_ble_eq_true rfl) (by decide) dX10_hour1_16 rfl (kI0 fun vy37 gvy37 hvy37 => ?_)
    obtain ⟨⟨Fvy37, hcvy37, hqvy37, hbvy37, hFvy37⟩, hfvy37⟩ := hvy37
    obtain rfl : vy37 = 1 := by omega
    have e38vy37 : Fvy37 38 = 0 := by omega
    refine z_if_ne (tgt := 23) C dX10_hour1_19 (by decide) (by omega) (fun _ => ?_) (fun h => absurd h (by omega))
    refine z_aload_n C 0 dX10_hour1_23 rfl ?_
    have hey38 : Fvy37 32 = F 32 := (hFvy37 32 (by decide) (by decide))
    have hey39 : Fvy37 33 = F 33 := (hFvy37 33 (by decide) (by decide))
    have hey40 : Fvy37 34 = F 34 := (hFvy37 34 (by decide) (by decide))
    have hey41 : Fvy37 35 = F 35 := (hFvy37 35 (by decide) (by decide))
    have hey42 : Fvy37 36 = F 36 := (hFvy37 36 (by decide) (by decide))
    have hey43 : Fvy37 37 = F 37 := (hFvy37 37 (by decide) (by decide))
    have hey44 : Fvy37 38 = 0 := e38vy37
    have hrdy45 : RD Fvy37 := by unfold RD; omega
    have hgy46 := (hfvy37 (i + 13) (ne_o (i := i) (c := 13) (d := 0) rfl)).trans ha13
    refine z_cV (As := []) (rest := []) (ci := 12) C (c_X10_go l D A cs tt N ad _ i hN _ hcvy37 _ hgy46 htp hrdy45) (by omega) hay1 hcvy37 rfl rfl mv_yX10_go q_1652 hd_yX10_go (by decide) (Nat.le_of_ble_eq_true rfl) (by decide) dX10_hour1_24 rfl (kV0 fun gvy47 hvy47 => ?_)
    obtain ⟨⟨Fvy47, hcvy47, hdvy47, hlvy47, hsvy47, hFvy47⟩, hfvy47⟩ := hvy47
    have h32vy47 : Fvy37 32 = F 32 := (hFvy37 32 (by decide) (by decide))
    have h34vy47 : Fvy47 34 = F 34 := (hFvy47 34 (by decide) (by decide) (by decide) (by decide) (by decide)).trans ((hFvy37 34 (by decide) (by decide)))
    obtain ⟨d32vy47, d33vy47, d35vy47, d36vy47, d2vy47, d37vy47, d38vy47⟩ := id hdvy47
    have h38vy47 : Fvy47 38 = 0 := ((hFvy47 38 (by decide) (by decide) (by decide) (by decide) (by decide)).trans e38vy37)
    refine z_aload_n C 0 dX10_hour1_27 rfl ?_
    refine z_get (v := .int (zI (Fvy47 35))) C (by omega) hay1 hcvy47 rfl inA_X10 35 (by decide) q_1494 rfl (fv (F := Fvy47) (f := 35) rfl) dX10_hour1_28 ?_
    refine z_iconst (z := 3) C dX10_hour1_31 rfl ?_
    refine z_icmp_ne (tgt := 48) C dX10_hour1_32 (by decide) (by omega) (by omega) (fun hby48 => ?_) (fun hby48 => ?_)
    · refine z_iconst (z := 0) C dX10_hour1_48 rfl ?_
      refine z_istore_n (lv' := [(1, .int (zI (0))), (0, .ref (ad i))]) C dX10_hour1_49 rfl (by decide) rfl ?_
      refine z_iload_n C 0 dX10_hour1_50 rfl ?_
      refine z_if_eq (tgt := 58) C dX10_hour1_51 (by decide) (by omega) (fun _ => ?_) (fun h => absurd h (by omega))
      refine z_aload_n C 1 dX10_hour1_58 rfl ?_
      refine z_iconst (z := 0) C dX10_hour1_59 rfl ?_
      refine z_iload_n C 0 dX10_hour1_60 rfl ?_
      refine z_if_eq (tgt := 70) C dX10_hour1_61 (by decide) (by omega) (fun _ => ?_) (fun h => absurd h (by omega))
      refine z_bipush (z := 100) C dX10_hour1_70 (by decide) ?_
      have hey49 : Fvy47 32 = Fvy47 32 := rfl
      have hey50 : Fvy47 33 = Fvy47 33 := rfl
      have hey51 : Fvy47 34 = F 34 := ((hFvy47 34 (by decide) (by decide) (by decide) (by decide) (by decide)).trans (hFvy37 34 (by decide) (by decide)))
      have hey52 : Fvy47 35 = Fvy47 35 := rfl
      have hey53 : Fvy47 36 = Fvy47 36 := rfl
      have hey54 : Fvy47 37 = Fvy47 37 := rfl
      have hey55 : Fvy47 38 = 0 := ((hFvy47 38 (by decide) (by decide) (by decide) (by decide) (by decide)).trans e38vy37)
      have hrdy56 : RD Fvy47 := by unfold RD; omega
      have hgy57 := (hfvy47 (i + 13) (ne_o (i := i) (c := 13) (d := 0) rfl)).trans hgy46
      have hey59 : Fvy47 38 = 0 := ((hFvy47 38 (by decide) (by decide) (by decide) (by decide) (by decide)).trans e38vy37)
      have hey60 : Fvy47 35 = Fvy47 35 := rfl
      refine z_cV (As := [.int (zI (0)), .int (zI (100))]) (rest := []) (ci := 12) C (c_X10_number l D A cs tt N ad _ i hN _ hcvy47 _ hgy57 htp hrdy56 (0) (by omega) (100) (by omega)) (by omega) hay1 hcvy47 rfl rfl mv_yX10_number q_1682 hd_yX10_number (by decide) (Nat.le_of_ble_eq_true rfl) (by decide) dX10_hour1_72 rfl (kI0 fun vy58 gvy58 hvy58 => ?_)
      obtain ⟨hrvy58, ⟨Fvy58, hcvy58, hdvy58, hlvy58, hsvy58, hFvy58⟩, hfvy58⟩ := hvy58
      have h32vy58 : Fvy47 32 = Fvy47 32 := rfl
      have h34vy58 : Fvy58 34 = F 34 := (hFvy58 34 (by decide) (by decide) (by decide) (by decide) (by decide) (by decide) (by decide)).trans (((hFvy47 34 (by decide) (by decide) (by decide) (by decide) (by decide)).trans (hFvy37 34 (by decide) (by decide))))
      obtain ⟨d32vy58, d33vy58, d35vy58, d36vy58, d2vy58, d37vy58, d38vy58⟩ := id hdvy58
      rcases (show Fvy58 38 = 0 ∨ Fvy58 38 ≠ 0 by omega) with hxvy58 | hxvy58
      · refine z_istore_n (lv' := [(2, .int (zI (vy58))), (1, .int (zI (0))), (0, .ref (ad i))]) C dX10_hour1_75 rfl (by decide) rfl ?_
        refine z_aload_n C 2 dX10_hour1_76 rfl ?_
        refine z_get (v := .int (zI (0))) C (by omega) hay1 hcvy58 rfl inA_X10 38 (by decide) q_1497 rfl (fv (F := Fvy58) (f := 38) hxvy58) dX10_hour1_77 ?_
        refine z_if_eq (tgt := 84) C dX10_hour1_80 (by decide) (by omega) (fun _ => ?_) (fun h => absurd h (by omega))
        refine z_aload_n C 2 dX10_hour1_84 rfl ?_
        refine z_get (v := .ref (ad (i + 19))) C (by omega) hay1 hcvy58 rfl inA_X10 42 (by decide) q_1501 rfl rfl dX10_hour1_85 ?_
        refine z_aload_n C 2 dX10_hour1_88 rfl ?_
        refine z_get (v := .int (zI (F 48))) C (by omega) hay1 hcvy58 rfl inA_X10 48 (by decide) q_1507 rfl (fv (F := Fvy58) (f := 48) ((hFvy58 48 (by decide) (by decide) (by decide) (by decide) (by decide) (by decide) (by decide)).trans ((hFvy47 48 (by decide) (by decide) (by decide) (by decide) (by decide)).trans (hFvy37 48 (by decide) (by decide))))) dX10_hour1_89 ?_
        refine z_iload_n C 1 dX10_hour1_92 rfl ?_
        refine z_if_eq (tgt := 101) C dX10_hour1_93 (by decide) (by omega) (fun _ => ?_) (fun h => absurd h (by omega))
        refine z_iload_n C 0 dX10_hour1_101 rfl ?_
        have hgy61 := (hfvy37 (i + 19) (ne_o (i := i) (c := 19) (d := 0) rfl)).trans ha19
        have hgy62 := (hfvy47 (i + 19) (ne_o (i := i) (c := 19) (d := 0) rfl)).trans hgy61
        have hgy63 := (hfvy58 (i + 19) (ne_o (i := i) (c := 19) (d := 0) rfl)).trans hgy62
        refine z_iast C (by omega) hay6 hgy63 ((F 48).toNat) (by omega) (by omega) (by decide) dX10_hour1_102 (fun gy64 egy65 => ?_)
        have hgy66 := up_s egy65
        obtain ⟨ry67, hvy68⟩ : ∃ rZ9 : Nat → Int, rZ9 = uZ ai1 ((F 48).toNat) (vy58) := ⟨_, rfl⟩
        rw [← hvy68] at hgy66
        refine z_aload_n C 2 dX10_hour1_103 rfl ?_
        have hgy69 := up_n egy65 hcvy58 (ne_o (i := i) (c := 0) (d := 19) rfl)
        refine z_get (v := .ref (ad (i + 20))) C (by omega) hay1 hgy69 rfl inA_X10 43 (by decide) q_1502 rfl rfl dX10_hour1_104 ?_
        refine z_aload_n C 2 dX10_hour1_107 rfl ?_
        refine z_get (v := .int (zI (F 48))) C (by omega) hay1 hgy69 rfl inA_X10 48 (by decide) q_1507 rfl (fv (F := Fvy58) (f := 48) ((hFvy58 48 (by decide) (by decide) (by decide) (by decide) (by decide) (by decide) (by decide)).trans ((hFvy47 48 (by decide) (by decide) (by decide) (by decide) (by decide)).trans (hFvy37 48 (by decide) (by decide))))) dX10_hour1_108 ?_
        refine z_iconst (z := 0) C dX10_hour1_111 rfl ?_
        have hgy70 := (hfvy37 (i + 20) (ne_o (i := i) (c := 20) (d := 0) rfl)).trans ha20
        have hgy71 := (hfvy47 (i + 20) (ne_o (i := i) (c := 20) (d := 0) rfl)).trans hgy70
        have hgy72 := (hfvy58 (i + 20) (ne_o (i := i) (c := 20) (d := 0) rfl)).trans hgy71
        have hgy73 := up_n egy65 hgy72 (ne_o (i := i) (c := 20) (d := 19) rfl)
        refine z_iast C (by omega) hay7 hgy73 ((F 48).toNat) (by omega) (by omega) (by decide) dX10_hour1_112 (fun gy74 egy75 => ?_)
        have hgy76 := up_s egy75
        obtain ⟨ry77, hvy78⟩ : ∃ rZ9 : Nat → Int, rZ9 = uZ fa1 ((F 48).toNat) (0) := ⟨_, rfl⟩
        rw [← hvy78] at hgy76
        refine z_aload_n C 2 dX10_hour1_113 rfl ?_
        have hgy79 := up_n egy75 hgy69 (ne_o (i := i) (c := 0) (d := 20) rfl)
        refine z_get (v := .ref (ad (i + 21))) C (by omega) hay1 hgy79 rfl inA_X10 44 (by decide) q_1503 rfl rfl dX10_hour1_114 ?_
        refine z_aload_n C 2 dX10_hour1_117 rfl ?_
        refine z_get (v := .int (zI (F 48))) C (by omega) hay1 hgy79 rfl inA_X10 48 (by decide) q_1507 rfl (fv (F := Fvy58) (f := 48) ((hFvy58 48 (by decide) (by decide) (by decide) (by decide) (by decide) (by decide) (by decide)).trans ((hFvy47 48 (by decide) (by decide) (by decide) (by decide) (by decide)).trans (hFvy37 48 (by decide) (by decide))))) dX10_hour1_118 ?_
        refine z_iconst (z := 0) C dX10_hour1_121 rfl ?_
        have hgy80 := (hfvy37 (i + 21) (ne_o (i := i) (c := 21) (d := 0) rfl)).trans ha21
        have hgy81 := (hfvy47 (i + 21) (ne_o (i := i) (c := 21) (d := 0) rfl)).trans hgy80
        have hgy82 := (hfvy58 (i + 21) (ne_o (i := i) (c := 21) (d := 0) rfl)).trans hgy81
        have hgy83 := up_n egy65 hgy82 (ne_o (i := i) (c := 21) (d := 19) rfl)
        have hgy84 := up_n egy75 hgy83 (ne_o (i := i) (c := 21) (d := 20) rfl)
        refine z_iast C (by omega) hay8 hgy84 ((F 48).toNat) (by omega) (by omega) (by decide) dX10_hour1_122 (fun gy85 egy86 => ?_)
        have hgy87 := up_s egy86
        obtain ⟨ry88, hvy89⟩ : ∃ rZ9 : Nat → Int, rZ9 = uZ mu1 ((F 48).toNat) (0) := ⟨_, rfl⟩
        rw [← hvy89] at hgy87
        refine z_aload_n C 2 dX10_hour1_123 rfl ?_
        refine z_iconst (z := 3) C dX10_hour1_124 rfl ?_
        have hgy90 := up_n egy86 hgy79 (ne_o (i := i) (c := 0) (d := 21) rfl)
        have hey91 : Fvy58 32 = Fvy58 32 := rfl
        have hey92 : Fvy58 33 = Fvy58 33 := rfl
        have hey93 : Fvy58 34 = F 34 := ((hFvy58 34 (by decide) (by decide) (by decide) (by decide) (by decide) (by decide) (by decide)).trans ((hFvy47 34 (by decide) (by decide) (by decide) (by decide) (by decide)).trans (hFvy37 34 (by decide) (by decide))))
        have hey94 : Fvy58 35 = Fvy58 35 := rfl
        have hey95 : Fvy58 36 = Fvy58 36 := rfl
        have hey96 : Fvy58 37 = Fvy58 37 := rfl
        have hey97 : Fvy58 38 = 0 := hxvy58
        have hrdy98 : RD Fvy58 := by unfold RD; omega
        have hey100 : Fvy58 38 = 0 := hxvy58
        have hey101 : Fvy58 35 = Fvy58 35 := rfl
        have hey102 : Fvy58 37 = Fvy58 37 := rfl
        refine z_cV (As := [.int (zI (3))]) (rest := []) (ci := 12) C (c_X10_is l D A cs tt N ad _ i hN _ hgy90 hrdy98 (3) (by omega)) (by omega) hay1 hgy90 rfl rfl mv_yX10_is q_1705 hd_yX10_is (by decide) (Nat.le_of_ble_eq_true rfl) (by decide) dX10_hour1_125 rfl (kI0 fun vy99 gvy99 hvy99 => ?_)
        rw [hey100, hey101, hey102] at hvy99
        obtain ⟨hrvy99, hqvy99, rfl⟩ := hvy99
        refine z_if_ne (tgt := 147) C dX10_hour1_128 (by decide) (by omega) (fun hby103 => ?_) (fun hby103 => ?_)
        · refine z_aload_n C 2 dX10_hour1_147 rfl ?_
          refine z_get (v := .ref (ad (i + 20))) C (by omega) hay1 hgy90 rfl inA_X10 43 (by decide) q_1502 rfl rfl dX10_hour1_148 ?_
          refine z_aload_n C 2 dX10_hour1_151 rfl ?_
          refine z_get (v := .int (zI (F 48))) C (by omega) hay1 hgy90 rfl inA_X10 48 (by decide) q_1507 rfl (fv (F := Fvy58) (f := 48) ((hFvy58 48 (by decide) (by decide) (by decide) (by decide) (by decide) (by decide) (by decide)).trans ((hFvy47 48 (by decide) (by decide) (by decide) (by decide) (by decide)).trans (hFvy37 48 (by decide) (by decide))))) dX10_hour1_152 ?_
          refine z_aload_n C 2 dX10_hour1_155 rfl ?_
          refine z_get (v := .int (zI (Fvy58 37))) C (by omega) hay1 hgy90 rfl inA_X10 37 (by decide) q_1496 rfl (fv (F := Fvy58) (f := 37) rfl) dX10_hour1_156 ?_
          refine z_iconst (z := 3) C dX10_hour1_159 rfl ?_
          refine z_isub C dX10_hour1_160 ?_
          refine z_iconst (z := 1) C dX10_hour1_161 rfl ?_
          refine z_iadd C dX10_hour1_162 ?_
          have hgy104 := up_n egy86 hgy76 (ne_o (i := i) (c := 20) (d := 21) rfl)
          refine z_iast C (by omega) hay7 hgy104 ((F 48).toNat) (by omega) (by omega) (by decide) dX10_hour1_163 (fun gy105 egy106 => ?_)
          have hgy107 := up_s egy106
          obtain ⟨ry108, hvy109⟩ : ∃ rZ9 : Nat → Int, rZ9 = uZ ry77 ((F 48).toNat) (((Fvy58 37) - 3) + 1) := ⟨_, rfl⟩
          rw [← hvy109] at hgy107
          refine z_aload_n C 2 dX10_hour1_164 rfl ?_
          have hgy110 := up_n egy106 hgy90 (ne_o (i := i) (c := 0) (d := 20) rfl)
          have hey111 : Fvy58 32 = Fvy58 32 := rfl
          have hey112 : Fvy58 33 = Fvy58 33 := rfl
          have hey113 : Fvy58 34 = F 34 := ((hFvy58 34 (by decide) (by decide) (by decide) (by decide) (by decide) (by decide) (by decide)).trans ((hFvy47 34 (by decide) (by decide) (by decide) (by decide) (by decide)).trans (hFvy37 34 (by decide) (by decide))))
          have hey114 : Fvy58 35 = Fvy58 35 := rfl
          have hey115 : Fvy58 36 = Fvy58 36 := rfl
          have hey116 : Fvy58 37 = Fvy58 37 := rfl
          have hey117 : Fvy58 38 = 0 := hxvy58
          have hrdy118 : RD Fvy58 := by unfold RD; omega
          have hgy119 := (hfvy58 (i + 13) (ne_o (i := i) (c := 13) (d := 0) rfl)).trans hgy57
          have hgy120 := up_n egy65 hgy119 (ne_o (i := i) (c := 13) (d := 19) rfl)
          have hgy121 := up_n egy75 hgy120 (ne_o (i := i) (c := 13) (d := 20) rfl)
          have hgy122 := up_n egy86 hgy121 (ne_o (i := i) (c := 13) (d := 21) rfl)
          have hgy123 := up_n egy106 hgy122 (ne_o (i := i) (c := 13) (d := 20) rfl)
          refine z_cV (As := []) (rest := []) (ci := 12) C (c_X10_go l D A cs tt N ad _ i hN _ hgy110 _ hgy123 htp hrdy118) (by omega) hay1 hgy110 rfl rfl mv_yX10_go q_1652 hd_yX10_go (by decide) (Nat.le_of_ble_eq_true rfl) (by decide) dX10_hour1_165 rfl (kV0 fun gvy124 hvy124 => ?_)
          obtain ⟨⟨Fvy124, hcvy124, hdvy124, hlvy124, hsvy124, hFvy124⟩, hfvy124⟩ := hvy124
          have h32vy124 : Fvy58 32 = Fvy58 32 := rfl
          have h34vy124 : Fvy124 34 = F 34 := (hFvy124 34 (by decide) (by decide) (by decide) (by decide) (by decide)).trans (((hFvy58 34 (by decide) (by decide) (by decide) (by decide) (by decide) (by decide) (by decide)).trans ((hFvy47 34 (by decide) (by decide) (by decide) (by decide) (by decide)).trans (hFvy37 34 (by decide) (by decide)))))
          obtain ⟨d32vy124, d33vy124, d35vy124, d36vy124, d2vy124, d37vy124, d38vy124⟩ := id hdvy124
          have h38vy124 : Fvy124 38 = 0 := ((hFvy124 38 (by decide) (by decide) (by decide) (by decide) (by decide)).trans hxvy58)
          refine z_aload_n C 2 dX10_hour1_168 rfl ?_
          refine z_get (v := .ref (ad (i + 20))) C (by omega) hay1 hcvy124 rfl inA_X10 43 (by decide) q_1502 rfl rfl dX10_hour1_169 ?_
          refine z_aload_n C 2 dX10_hour1_172 rfl ?_
          refine z_get (v := .int (zI (F 48))) C (by omega) hay1 hcvy124 rfl inA_X10 48 (by decide) q_1507 rfl (fv (F := Fvy124) (f := 48) ((hFvy124 48 (by decide) (by decide) (by decide) (by decide) (by decide)).trans ((hFvy58 48 (by decide) (by decide) (by decide) (by decide) (by decide) (by decide) (by decide)).trans ((hFvy47 48 (by decide) (by decide) (by decide) (by decide) (by decide)).trans (hFvy37 48 (by decide) (by decide)))))) dX10_hour1_173 ?_
          have hgy125 := (hfvy124 (i + 20) (ne_o (i := i) (c := 20) (d := 0) rfl)).trans hgy107
          refine z_iald C (by omega) hay7 hgy125 ((F 48).toNat) (by omega) (by omega) (by decide) dX10_hour1_176 ?_
          rw [show ry108 ((F 48).toNat) = ((Fvy58 37) - 3) + 1 from (congrFun hvy109 _).trans (uZ_s _ _ _)]
          refine z_iconst (z := 3) C dX10_hour1_177 rfl ?_
          obtain ⟨xy126, exy127, hxy128⟩ := zI_of (zI (((Fvy58 37) - 3) + 1))
          rw [exy127]
          refine z_icmp_ge (tgt := 197) C dX10_hour1_178 (by decide) (by omega) (by omega) (fun hby129 => ?_) (fun hby129 => ?_)
          · refine z_aload_n C 2 dX10_hour1_197 rfl ?_
            refine z_dup C dX10_hour1_198 rfl ?_
            refine z_get (v := .int (zI (F 48))) C (by omega) hay1 hcvy124 rfl inA_X10 48 (by decide) q_1507 rfl (fv (F := Fvy124) (f := 48) ((hFvy124 48 (by decide) (by decide) (by decide) (by decide) (by decide)).trans ((hFvy58 48 (by decide) (by decide) (by decide) (by decide) (by decide) (by decide) (by decide)).trans ((hFvy47 48 (by decide) (by decide) (by decide) (by decide) (by decide)).trans (hFvy37 48 (by decide) (by decide)))))) dX10_hour1_199 ?_
            refine z_iconst (z := 1) C dX10_hour1_202 rfl ?_
            refine z_iadd C dX10_hour1_203 ?_
            refine z_put (fs' := mF ad (i) (uZ Fvy124 48 ((F 48) + 1))) C (by omega) hay1 hcvy124 tyX10 tyX10_ok nmX10 rfl inA_X10 48 (by decide) q_1507 rfl rfl rfl rfl (Nat.le_of_ble_eq_true rfl) rfl dX10_hour1_204 (fun gy130 egy131 => ?_)
            have hgy132 := up_s egy131
            have hFy133 : ∀ f, f ≠ 24 → f ≠ 32 → f ≠ 33 → f ≠ 35 → f ≠ 36 → f ≠ 37 → f ≠ 38 → f ≠ 47 → f ≠ 48 → f ≠ 49 → (uZ Fvy124 48 ((F 48) + 1)) f = F f := fun f n24 n32 n33 n35 n36 n37 n38 n47 n48 n49 => ((uZ_n _ _ n48).trans ((hFvy124 f n32 n33 n35 n36 n37).trans ((hFvy58 f n24 n32 n33 n35 n36 n37 n38).trans ((hFvy47 f n32 n33 n35 n36 n37).trans (hFvy37 f n24 n38)))))
            have hey134 : (uZ Fvy124 48 ((F 48) + 1)) 32 = Fvy124 32 := (fn rfl (by decide))
            have hey135 : (uZ Fvy124 48 ((F 48) + 1)) 33 = Fvy124 33 := (fn rfl (by decide))
            have hey136 : (uZ Fvy124 48 ((F 48) + 1)) 34 = F 34 := (fn ((hFvy124 34 (by decide) (by decide) (by decide) (by decide) (by decide)).trans ((hFvy58 34 (by decide) (by decide) (by decide) (by decide) (by decide) (by decide) (by decide)).trans ((hFvy47 34 (by decide) (by decide) (by decide) (by decide) (by decide)).trans (hFvy37 34 (by decide) (by decide))))) (by decide))
            have hey137 : (uZ Fvy124 48 ((F 48) + 1)) 35 = Fvy124 35 := (fn rfl (by decide))
            have hey138 : (uZ Fvy124 48 ((F 48) + 1)) 36 = Fvy124 36 := (fn rfl (by decide))
            have hey139 : (uZ Fvy124 48 ((F 48) + 1)) 37 = Fvy124 37 := (fn rfl (by decide))
            have hey140 : (uZ Fvy124 48 ((F 48) + 1)) 38 = 0 := (fn ((hFvy124 38 (by decide) (by decide) (by decide) (by decide) (by decide)).trans hxvy58) (by decide))
            have hrdy141 : RD (uZ Fvy124 48 ((F 48) + 1)) := by unfold RD; omega
            have hey142 : (uZ Fvy124 48 ((F 48) + 1)) 32 = Fvy124 32 := (fn rfl (by decide))
            have hey143 : (uZ Fvy124 48 ((F 48) + 1)) 47 = F 47 := (fn ((hFvy124 47 (by decide) (by decide) (by decide) (by decide) (by decide)).trans ((hFvy58 47 (by decide) (by decide) (by decide) (by decide) (by decide) (by decide) (by decide)).trans ((hFvy47 47 (by decide) (by decide) (by decide) (by decide) (by decide)).trans (hFvy37 47 (by decide) (by decide))))) (by decide))
            have hey144 : (uZ Fvy124 48 ((F 48) + 1)) 48 = (F 48) + 1 := (uZ_s _ _ _)
            have hey145 : (uZ Fvy124 48 ((F 48) + 1)) 49 = F 49 := (fn ((hFvy124 49 (by decide) (by decide) (by decide) (by decide) (by decide)).trans ((hFvy58 49 (by decide) (by decide) (by decide) (by decide) (by decide) (by decide) (by decide)).trans ((hFvy47 49 (by decide) (by decide) (by decide) (by decide) (by decide)).trans (hFvy37 49 (by decide) (by decide))))) (by decide))
            have hfry147 : ∀ j, j ≠ (F 48).toNat → ry67 j = ai1 j := fun j n0 => (congrFun hvy68 _).trans ((uZ_n _ _ n0).trans (rfl))
            have hwy148 : ry67 ((F 48).toNat) = vy58 := (congrFun hvy68 _).trans (uZ_s _ _ _)
            have haky146 : ∀ k, k < 24 → -300 ≤ ry67 k ∧ ry67 k ≤ 100 := by
              intro k hk
              by_cases e : k = (F 48).toNat
              · subst e; have hk0 := hai1 ((F 48).toNat) (by omega); omega
              · have hk0 := hai1 k hk; rw [hfry147 k e]; exact hk0
            have hfry150 : ∀ j, j ≠ (F 48).toNat → ry108 j = fa1 j := fun j n0 => (congrFun hvy109 _).trans ((uZ_n _ _ n0).trans ((congrFun hvy78 _).trans ((uZ_n _ _ n0).trans (rfl))))
            have hfry151 : ∀ j, j ≠ (F 48).toNat → ry88 j = mu1 j := fun j n0 => (congrFun hvy89 _).trans ((uZ_n _ _ n0).trans (rfl))
            have hwy152 : ry108 ((F 48).toNat) = ((Fvy58 37) - 3) + 1 := (congrFun hvy109 _).trans (uZ_s _ _ _)
            have hwy153 : ry88 ((F 48).toNat) = 0 := (congrFun hvy89 _).trans (uZ_s _ _ _)
            have haky149 : ∀ k, k < 24 → (0 ≤ ry108 k ∧ ry108 k ≤ 3) ∧ (0 ≤ ry88 k ∧ ry88 k ≤ 50) ∧ (ry108 k = 1 ∨ ry108 k = 2 → 1 ≤ ry88 k) := by
              intro k hk
              by_cases e : k = (F 48).toNat
              · subst e; have hk0 := hfa1 ((F 48).toNat) (by omega); omega
              · have hk0 := hfa1 k hk; rw [hfry150 k e]; rw [hfry151 k e]; exact hk0
            have hlay154 : ∀ s l : Nat, (s : Int) < (uZ Fvy124 48 ((F 48) + 1)) 47 → (l : Int) < mn1 s → lyT ly1 (84 * s + 7 * l) := fun s l a1 a2 => hly1 s l (by omega) a2
            have hgy155 := (hfvy37 (i + 16) (ne_o (i := i) (c := 16) (d := 0) rfl)).trans ha16
            have hgy156 := (hfvy47 (i + 16) (ne_o (i := i) (c := 16) (d := 0) rfl)).trans hgy155
            have hgy157 := (hfvy58 (i + 16) (ne_o (i := i) (c := 16) (d := 0) rfl)).trans hgy156
            have hgy158 := up_n egy65 hgy157 (ne_o (i := i) (c := 16) (d := 19) rfl)
            have hgy159 := up_n egy75 hgy158 (ne_o (i := i) (c := 16) (d := 20) rfl)
            have hgy160 := up_n egy86 hgy159 (ne_o (i := i) (c := 16) (d := 21) rfl)
            have hgy161 := up_n egy106 hgy160 (ne_o (i := i) (c := 16) (d := 20) rfl)
            have hgy162 := (hfvy124 (i + 16) (ne_o (i := i) (c := 16) (d := 0) rfl)).trans hgy161
            have hgy163 := up_n egy131 hgy162 (ne_o (i := i) (c := 16) (d := 0) rfl)
            have hgy164 := (hfvy37 (i + 17) (ne_o (i := i) (c := 17) (d := 0) rfl)).trans ha17
            have hgy165 := (hfvy47 (i + 17) (ne_o (i := i) (c := 17) (d := 0) rfl)).trans hgy164
            have hgy166 := (hfvy58 (i + 17) (ne_o (i := i) (c := 17) (d := 0) rfl)).trans hgy165
            have hgy167 := up_n egy65 hgy166 (ne_o (i := i) (c := 17) (d := 19) rfl)
            have hgy168 := up_n egy75 hgy167 (ne_o (i := i) (c := 17) (d := 20) rfl)
            have hgy169 := up_n egy86 hgy168 (ne_o (i := i) (c := 17) (d := 21) rfl)
            have hgy170 := up_n egy106 hgy169 (ne_o (i := i) (c := 17) (d := 20) rfl)
            have hgy171 := (hfvy124 (i + 17) (ne_o (i := i) (c := 17) (d := 0) rfl)).trans hgy170
            have hgy172 := up_n egy131 hgy171 (ne_o (i := i) (c := 17) (d := 0) rfl)
            have hgy173 := (hfvy37 (i + 18) (ne_o (i := i) (c := 18) (d := 0) rfl)).trans ha18
            have hgy174 := (hfvy47 (i + 18) (ne_o (i := i) (c := 18) (d := 0) rfl)).trans hgy173
            have hgy175 := (hfvy58 (i + 18) (ne_o (i := i) (c := 18) (d := 0) rfl)).trans hgy174
            have hgy176 := up_n egy65 hgy175 (ne_o (i := i) (c := 18) (d := 19) rfl)
            have hgy177 := up_n egy75 hgy176 (ne_o (i := i) (c := 18) (d := 20) rfl)
            have hgy178 := up_n egy86 hgy177 (ne_o (i := i) (c := 18) (d := 21) rfl)
            have hgy179 := up_n egy106 hgy178 (ne_o (i := i) (c := 18) (d := 20) rfl)
            have hgy180 := (hfvy124 (i + 18) (ne_o (i := i) (c := 18) (d := 0) rfl)).trans hgy179
            have hgy181 := up_n egy131 hgy180 (ne_o (i := i) (c := 18) (d := 0) rfl)
            have hgy182 := up_n egy75 hgy66 (ne_o (i := i) (c := 19) (d := 20) rfl)
            have hgy183 := up_n egy86 hgy182 (ne_o (i := i) (c := 19) (d := 21) rfl)
            have hgy184 := up_n egy106 hgy183 (ne_o (i := i) (c := 19) (d := 20) rfl)
            have hgy185 := (hfvy124 (i + 19) (ne_o (i := i) (c := 19) (d := 0) rfl)).trans hgy184
            have hgy186 := up_n egy131 hgy185 (ne_o (i := i) (c := 19) (d := 0) rfl)
            have hgy187 := up_n egy131 hgy125 (ne_o (i := i) (c := 20) (d := 0) rfl)
            have hgy188 := up_n egy106 hgy87 (ne_o (i := i) (c := 21) (d := 20) rfl)
            have hgy189 := (hfvy124 (i + 21) (ne_o (i := i) (c := 21) (d := 0) rfl)).trans hgy188
            have hgy190 := up_n egy131 hgy189 (ne_o (i := i) (c := 21) (d := 0) rfl)
            have hgy191 := (hfvy37 (i + 22) (ne_o (i := i) (c := 22) (d := 0) rfl)).trans ha22
            have hgy192 := (hfvy47 (i + 22) (ne_o (i := i) (c := 22) (d := 0) rfl)).trans hgy191
            have hgy193 := (hfvy58 (i + 22) (ne_o (i := i) (c := 22) (d := 0) rfl)).trans hgy192
            have hgy194 := up_n egy65 hgy193 (ne_o (i := i) (c := 22) (d := 19) rfl)
            have hgy195 := up_n egy75 hgy194 (ne_o (i := i) (c := 22) (d := 20) rfl)
            have hgy196 := up_n egy86 hgy195 (ne_o (i := i) (c := 22) (d := 21) rfl)
            have hgy197 := up_n egy106 hgy196 (ne_o (i := i) (c := 22) (d := 20) rfl)
            have hgy198 := (hfvy124 (i + 22) (ne_o (i := i) (c := 22) (d := 0) rfl)).trans hgy197
            have hgy199 := up_n egy131 hgy198 (ne_o (i := i) (c := 22) (d := 0) rfl)
            have hgy200 := (hfvy37 (i + 23) (ne_o (i := i) (c := 23) (d := 0) rfl)).trans ha23
            have hgy201 := (hfvy47 (i + 23) (ne_o (i := i) (c := 23) (d := 0) rfl)).trans hgy200
            have hgy202 := (hfvy58 (i + 23) (ne_o (i := i) (c := 23) (d := 0) rfl)).trans hgy201
            have hgy203 := up_n egy65 hgy202 (ne_o (i := i) (c := 23) (d := 19) rfl)
            have hgy204 := up_n egy75 hgy203 (ne_o (i := i) (c := 23) (d := 20) rfl)
            have hgy205 := up_n egy86 hgy204 (ne_o (i := i) (c := 23) (d := 21) rfl)
            have hgy206 := up_n egy106 hgy205 (ne_o (i := i) (c := 23) (d := 20) rfl)
            have hgy207 := (hfvy124 (i + 23) (ne_o (i := i) (c := 23) (d := 0) rfl)).trans hgy206
            have hgy208 := up_n egy131 hgy207 (ne_o (i := i) (c := 23) (d := 0) rfl)
            have htxy209 : okTx cs gy130 i (uZ Fvy124 48 ((F 48) + 1)) := ⟨_, _, _, _, _, _, _, _, ⟨hgy163, hgy172, hgy181, hgy186, hgy187, hgy190, hgy199, hgy208⟩, ⟨⟨by omega, by omega, by omega⟩, hop1, hmn1, haky146, haky149, htb1, hlay154⟩⟩
            exact z_vret C hr hlk dX10_hour1_207 (by decide) (by decide) ⟨rfl, rfl, rfl, ⟨_, hgy132, hrdy141, by omega, by omega, hFy133, htxy209⟩, fun j j1 j2 => by rw [egy131, va_up_ne _ _ (by omega)]; rw [hfvy124 _ (by omega)]; rw [egy106, va_up_ne _ _ (by omega)]; rw [egy86, va_up_ne _ _ (by omega)]; rw [egy75, va_up_ne _ _ (by omega)]; rw [egy65, va_up_ne _ _ (by omega)]; rw [hfvy58 _ (by omega)]; rw [hfvy47 _ (by omega)]; rw [hfvy37 _ (by omega)]⟩
          · refine z_aload_n C 2 dX10_hour1_181 rfl ?_
            refine z_get (v := .ref (ad (i + 21))) C (by omega) hay1 hcvy124 rfl inA_X10 44 (by decide) q_1503 rfl rfl dX10_hour1_182 ?_
            refine z_aload_n C 2 dX10_hour1_185 rfl ?_
            refine z_get (v := .int (zI (F 48))) C (by omega) hay1 hcvy124 rfl inA_X10 48 (by decide) q_1507 rfl (fv (F := Fvy124) (f := 48) ((hFvy124 48 (by decide) (by decide) (by decide) (by decide) (by decide)).trans ((hFvy58 48 (by decide) (by decide) (by decide) (by decide) (by decide) (by decide) (by decide)).trans ((hFvy47 48 (by decide) (by decide) (by decide) (by decide) (by decide)).trans (hFvy37 48 (by decide) (by decide)))))) dX10_hour1_186 ?_
            refine z_aload_n C 2 dX10_hour1_189 rfl ?_
            refine z_iconst (z := 1) C dX10_hour1_190 rfl ?_
            refine z_bipush (z := 50) C dX10_hour1_191 (by decide) ?_
            have hey210 : Fvy124 32 = Fvy124 32 := rfl
            have hey211 : Fvy124 33 = Fvy124 33 := rfl
            have hey212 : Fvy124 34 = F 34 := ((hFvy124 34 (by decide) (by decide) (by decide) (by decide) (by decide)).trans ((hFvy58 34 (by decide) (by decide) (by decide) (by decide) (by decide) (by decide) (by decide)).trans ((hFvy47 34 (by decide) (by decide) (by decide) (by decide) (by decide)).trans (hFvy37 34 (by decide) (by decide)))))
            have hey213 : Fvy124 35 = Fvy124 35 := rfl
            have hey214 : Fvy124 36 = Fvy124 36 := rfl
            have hey215 : Fvy124 37 = Fvy124 37 := rfl
            have hey216 : Fvy124 38 = 0 := ((hFvy124 38 (by decide) (by decide) (by decide) (by decide) (by decide)).trans hxvy58)
            have hrdy217 : RD Fvy124 := by unfold RD; omega
            have hgy218 := (hfvy124 (i + 13) (ne_o (i := i) (c := 13) (d := 0) rfl)).trans hgy123
            have hey220 : Fvy124 38 = 0 := ((hFvy124 38 (by decide) (by decide) (by decide) (by decide) (by decide)).trans hxvy58)
            have hey221 : Fvy124 35 = Fvy124 35 := rfl
            refine z_cV (As := [.int (zI (1)), .int (zI (50))]) (rest := [.int (zI (F 48)), .ref (ad (i + 21))]) (ci := 12) C (c_X10_number l D A cs tt N ad _ i hN _ hcvy124 _ hgy218 htp hrdy217 (1) (by omega) (50) (by omega)) (by omega) hay1 hcvy124 rfl rfl mv_yX10_number q_1682 hd_yX10_number (by decide) (Nat.le_of_ble_eq_true rfl) (by decide) dX10_hour1_193 rfl (kI0 fun vy219 gvy219 hvy219 => ?_)
            obtain ⟨hrvy219, ⟨Fvy219, hcvy219, hdvy219, hlvy219, hsvy219, hFvy219⟩, hfvy219⟩ := hvy219
            have h32vy219 : Fvy124 32 = Fvy124 32 := rfl
            have h34vy219 : Fvy219 34 = F 34 := (hFvy219 34 (by decide) (by decide) (by decide) (by decide) (by decide) (by decide) (by decide)).trans (((hFvy124 34 (by decide) (by decide) (by decide) (by decide) (by decide)).trans ((hFvy58 34 (by decide) (by decide) (by decide) (by decide) (by decide) (by decide) (by decide)).trans ((hFvy47 34 (by decide) (by decide) (by decide) (by decide) (by decide)).trans (hFvy37 34 (by decide) (by decide))))))
            obtain ⟨d32vy219, d33vy219, d35vy219, d36vy219, d2vy219, d37vy219, d38vy219⟩ := id hdvy219
            have hgy222 := up_n egy106 hgy87 (ne_o (i := i) (c := 21) (d := 20) rfl)
            have hgy223 := (hfvy124 (i + 21) (ne_o (i := i) (c := 21) (d := 0) rfl)).trans hgy222
            have hgy224 := (hfvy219 (i + 21) (ne_o (i := i) (c := 21) (d := 0) rfl)).trans hgy223
            refine z_iast C (by omega) hay8 hgy224 ((F 48).toNat) (by omega) (by omega) (by decide) dX10_hour1_196 (fun gy225 egy226 => ?_)
            have hgy227 := up_s egy226
            obtain ⟨ry228, hvy229⟩ : ∃ rZ9 : Nat → Int, rZ9 = uZ ry88 ((F 48).toNat) (vy219) := ⟨_, rfl⟩
            rw [← hvy229] at hgy227
            refine z_aload_n C 2 dX10_hour1_197 rfl ?_
            refine z_dup C dX10_hour1_198 rfl ?_
            have hgy230 := up_n egy226 hcvy219 (ne_o (i := i) (c := 0) (d := 21) rfl)
            refine z_get (v := .int (zI (F 48))) C (by omega) hay1 hgy230 rfl inA_X10 48 (by decide) q_1507 rfl (fv (F := Fvy219) (f := 48) ((hFvy219 48 (by decide) (by decide) (by decide) (by decide) (by decide) (by decide) (by decide)).trans ((hFvy124 48 (by decide) (by decide) (by decide) (by decide) (by decide)).trans ((hFvy58 48 (by decide) (by decide) (by decide) (by decide) (by decide) (by decide) (by decide)).trans ((hFvy47 48 (by decide) (by decide) (by decide) (by decide) (by decide)).trans (hFvy37 48 (by decide) (by decide))))))) dX10_hour1_199 ?_
            refine z_iconst (z := 1) C dX10_hour1_202 rfl ?_
            refine z_iadd C dX10_hour1_203 ?_
            refine z_put (fs' := mF ad (i) (uZ Fvy219 48 ((F 48) + 1))) C (by omega) hay1 hgy230 tyX10 tyX10_ok nmX10 rfl inA_X10 48 (by decide) q_1507 rfl rfl rfl rfl (Nat.le_of_ble_eq_true rfl) rfl dX10_hour1_204 (fun gy231 egy232 => ?_)
            have hgy233 := up_s egy232
            have hFy234 : ∀ f, f ≠ 24 → f ≠ 32 → f ≠ 33 → f ≠ 35 → f ≠ 36 → f ≠ 37 → f ≠ 38 → f ≠ 47 → f ≠ 48 → f ≠ 49 → (uZ Fvy219 48 ((F 48) + 1)) f = F f := fun f n24 n32 n33 n35 n36 n37 n38 n47 n48 n49 => ((uZ_n _ _ n48).trans ((hFvy219 f n24 n32 n33 n35 n36 n37 n38).trans ((hFvy124 f n32 n33 n35 n36 n37).trans ((hFvy58 f n24 n32 n33 n35 n36 n37 n38).trans ((hFvy47 f n32 n33 n35 n36 n37).trans (hFvy37 f n24 n38))))))
            have hey235 : (uZ Fvy219 48 ((F 48) + 1)) 32 = Fvy219 32 := (fn rfl (by decide))
            have hey236 : (uZ Fvy219 48 ((F 48) + 1)) 33 = Fvy219 33 := (fn rfl (by decide))
            have hey237 : (uZ Fvy219 48 ((F 48) + 1)) 34 = F 34 := (fn ((hFvy219 34 (by decide) (by decide) (by decide) (by decide) (by decide) (by decide) (by decide)).trans ((hFvy124 34 (by decide) (by decide) (by decide) (by decide) (by decide)).trans ((hFvy58 34 (by decide) (by decide) (by decide) (by decide) (by decide) (by decide) (by decide)).trans ((hFvy47 34 (by decide) (by decide) (by decide) (by decide) (by decide)).trans (hFvy37 34 (by decide) (by decide)))))) (by decide))
            have hey238 : (uZ Fvy219 48 ((F 48) + 1)) 35 = Fvy219 35 := (fn rfl (by decide))
            have hey239 : (uZ Fvy219 48 ((F 48) + 1)) 36 = Fvy219 36 := (fn rfl (by decide))
            have hey240 : (uZ Fvy219 48 ((F 48) + 1)) 37 = Fvy219 37 := (fn rfl (by decide))
            have hey241 : (uZ Fvy219 48 ((F 48) + 1)) 38 = Fvy219 38 := (fn rfl (by decide))
            have hrdy242 : RD (uZ Fvy219 48 ((F 48) + 1)) := by unfold RD; omega
            have hey243 : (uZ Fvy219 48 ((F 48) + 1)) 32 = Fvy219 32 := (fn rfl (by decide))
            have hey244 : (uZ Fvy219 48 ((F 48) + 1)) 47 = F 47 := (fn ((hFvy219 47 (by decide) (by decide) (by decide) (by decide) (by decide) (by decide) (by decide)).trans ((hFvy124 47 (by decide) (by decide) (by decide) (by decide) (by decide)).trans ((hFvy58 47 (by decide) (by decide) (by decide) (by decide) (by decide) (by decide) (by decide)).trans ((hFvy47 47 (by decide) (by decide) (by decide) (by decide) (by decide)).trans (hFvy37 47 (by decide) (by decide)))))) (by decide))
            have hey245 : (uZ Fvy219 48 ((F 48) + 1)) 48 = (F 48) + 1 := (uZ_s _ _ _)
            have hey246 : (uZ Fvy219 48 ((F 48) + 1)) 49 = F 49 := (fn ((hFvy219 49 (by decide) (by decide) (by decide) (by decide) (by decide) (by decide) (by decide)).trans ((hFvy124 49 (by decide) (by decide) (by decide) (by decide) (by decide)).trans ((hFvy58 49 (by decide) (by decide) (by decide) (by decide) (by decide) (by decide) (by decide)).trans ((hFvy47 49 (by decide) (by decide) (by decide) (by decide) (by decide)).trans (hFvy37 49 (by decide) (by decide)))))) (by decide))
            have hfry248 : ∀ j, j ≠ (F 48).toNat → ry67 j = ai1 j := fun j n0 => (congrFun hvy68 _).trans ((uZ_n _ _ n0).trans (rfl))
            have hwy249 : ry67 ((F 48).toNat) = vy58 := (congrFun hvy68 _).trans (uZ_s _ _ _)
            have haky247 : ∀ k, k < 24 → -300 ≤ ry67 k ∧ ry67 k ≤ 100 := by
              intro k hk
              by_cases e : k = (F 48).toNat
              · subst e; have hk0 := hai1 ((F 48).toNat) (by omega); omega
              · have hk0 := hai1 k hk; rw [hfry248 k e]; exact hk0
            have hfry251 : ∀ j, j ≠ (F 48).toNat → ry108 j = fa1 j := fun j n0 => (congrFun hvy109 _).trans ((uZ_n _ _ n0).trans ((congrFun hvy78 _).trans ((uZ_n _ _ n0).trans (rfl))))
            have hfry252 : ∀ j, j ≠ (F 48).toNat → ry228 j = mu1 j := fun j n0 => (congrFun hvy229 _).trans ((uZ_n _ _ n0).trans ((congrFun hvy89 _).trans ((uZ_n _ _ n0).trans (rfl))))
            have hwy253 : ry108 ((F 48).toNat) = ((Fvy58 37) - 3) + 1 := (congrFun hvy109 _).trans (uZ_s _ _ _)
            have hwy254 : ry228 ((F 48).toNat) = vy219 := (congrFun hvy229 _).trans (uZ_s _ _ _)
            have haky250 : ∀ k, k < 24 → (0 ≤ ry108 k ∧ ry108 k ≤ 3) ∧ (0 ≤ ry228 k ∧ ry228 k ≤ 50) ∧ (ry108 k = 1 ∨ ry108 k = 2 → 1 ≤ ry228 k) := by
              intro k hk
              by_cases e : k = (F 48).toNat
              · subst e; have hk0 := hfa1 ((F 48).toNat) (by omega); omega
              · have hk0 := hfa1 k hk; rw [hfry251 k e]; rw [hfry252 k e]; exact hk0
            have hlay255 : ∀ s l : Nat, (s : Int) < (uZ Fvy219 48 ((F 48) + 1)) 47 → (l : Int) < mn1 s → lyT ly1 (84 * s + 7 * l) := fun s l a1 a2 => hly1 s l (by omega) a2
            have hgy256 := (hfvy37 (i + 16) (ne_o (i := i) (c := 16) (d := 0) rfl)).trans ha16
            have hgy257 := (hfvy47 (i + 16) (ne_o (i := i) (c := 16) (d := 0) rfl)).trans hgy256
            have hgy258 := (hfvy58 (i + 16) (ne_o (i := i) (c := 16) (d := 0) rfl)).trans hgy257
            have hgy259 := up_n egy65 hgy258 (ne_o (i := i) (c := 16) (d := 19) rfl)
            have hgy260 := up_n egy75 hgy259 (ne_o (i := i) (c := 16) (d := 20) rfl)
            have hgy261 := up_n egy86 hgy260 (ne_o (i := i) (c := 16) (d := 21) rfl)
            have hgy262 := up_n egy106 hgy261 (ne_o (i := i) (c := 16) (d := 20) rfl)
            have hgy263 := (hfvy124 (i + 16) (ne_o (i := i) (c := 16) (d := 0) rfl)).trans hgy262
            have hgy264 := (hfvy219 (i + 16) (ne_o (i := i) (c := 16) (d := 0) rfl)).trans hgy263
            have hgy265 := up_n egy226 hgy264 (ne_o (i := i) (c := 16) (d := 21) rfl)
            have hgy266 := up_n egy232 hgy265 (ne_o (i := i) (c := 16) (d := 0) rfl)
            have hgy267 := (hfvy37 (i + 17) (ne_o (i := i) (c := 17) (d := 0) rfl)).trans ha17
            have hgy268 := (hfvy47 (i + 17) (ne_o (i := i) (c := 17) (d := 0) rfl)).trans hgy267
            have hgy269 := (hfvy58 (i + 17) (ne_o (i := i) (c := 17) (d := 0) rfl)).trans hgy268
            have hgy270 := up_n egy65 hgy269 (ne_o (i := i) (c := 17) (d := 19) rfl)
            have hgy271 := up_n egy75 hgy270 (ne_o (i := i) (c := 17) (d := 20) rfl)
            have hgy272 := up_n egy86 hgy271 (ne_o (i := i) (c := 17) (d := 21) rfl)
            have hgy273 := up_n egy106 hgy272 (ne_o (i := i) (c := 17) (d := 20) rfl)
            have hgy274 := (hfvy124 (i + 17) (ne_o (i := i) (c := 17) (d := 0) rfl)).trans hgy273
            have hgy275 := (hfvy219 (i + 17) (ne_o (i := i) (c := 17) (d := 0) rfl)).trans hgy274
            have hgy276 := up_n egy226 hgy275 (ne_o (i := i) (c := 17) (d := 21) rfl)
            have hgy277 := up_n egy232 hgy276 (ne_o (i := i) (c := 17) (d := 0) rfl)
            have hgy278 := (hfvy37 (i + 18) (ne_o (i := i) (c := 18) (d := 0) rfl)).trans ha18
            have hgy279 := (hfvy47 (i + 18) (ne_o (i := i) (c := 18) (d := 0) rfl)).trans hgy278
            have hgy280 := (hfvy58 (i + 18) (ne_o (i := i) (c := 18) (d := 0) rfl)).trans hgy279
            have hgy281 := up_n egy65 hgy280 (ne_o (i := i) (c := 18) (d := 19) rfl)
            have hgy282 := up_n egy75 hgy281 (ne_o (i := i) (c := 18) (d := 20) rfl)
            have hgy283 := up_n egy86 hgy282 (ne_o (i := i) (c := 18) (d := 21) rfl)
            have hgy284 := up_n egy106 hgy283 (ne_o (i := i) (c := 18) (d := 20) rfl)
            have hgy285 := (hfvy124 (i + 18) (ne_o (i := i) (c := 18) (d := 0) rfl)).trans hgy284
            have hgy286 := (hfvy219 (i + 18) (ne_o (i := i) (c := 18) (d := 0) rfl)).trans hgy285
            have hgy287 := up_n egy226 hgy286 (ne_o (i := i) (c := 18) (d := 21) rfl)
            have hgy288 := up_n egy232 hgy287 (ne_o (i := i) (c := 18) (d := 0) rfl)
            have hgy289 := up_n egy75 hgy66 (ne_o (i := i) (c := 19) (d := 20) rfl)
            have hgy290 := up_n egy86 hgy289 (ne_o (i := i) (c := 19) (d := 21) rfl)
            have hgy291 := up_n egy106 hgy290 (ne_o (i := i) (c := 19) (d := 20) rfl)
            have hgy292 := (hfvy124 (i + 19) (ne_o (i := i) (c := 19) (d := 0) rfl)).trans hgy291
            have hgy293 := (hfvy219 (i + 19) (ne_o (i := i) (c := 19) (d := 0) rfl)).trans hgy292
            have hgy294 := up_n egy226 hgy293 (ne_o (i := i) (c := 19) (d := 21) rfl)
            have hgy295 := up_n egy232 hgy294 (ne_o (i := i) (c := 19) (d := 0) rfl)
            have hgy296 := (hfvy219 (i + 20) (ne_o (i := i) (c := 20) (d := 0) rfl)).trans hgy125
            have hgy297 := up_n egy226 hgy296 (ne_o (i := i) (c := 20) (d := 21) rfl)
            have hgy298 := up_n egy232 hgy297 (ne_o (i := i) (c := 20) (d := 0) rfl)
            have hgy299 := up_n egy232 hgy227 (ne_o (i := i) (c := 21) (d := 0) rfl)
            have hgy300 := (hfvy37 (i + 22) (ne_o (i := i) (c := 22) (d := 0) rfl)).trans ha22
            have hgy301 := (hfvy47 (i + 22) (ne_o (i := i) (c := 22) (d := 0) rfl)).trans hgy300
            have hgy302 := (hfvy58 (i + 22) (ne_o (i := i) (c := 22) (d := 0) rfl)).trans hgy301
            have hgy303 := up_n egy65 hgy302 (ne_o (i := i) (c := 22) (d := 19) rfl)
            have hgy304 := up_n egy75 hgy303 (ne_o (i := i) (c := 22) (d := 20) rfl)
            have hgy305 := up_n egy86 hgy304 (ne_o (i := i) (c := 22) (d := 21) rfl)
            have hgy306 := up_n egy106 hgy305 (ne_o (i := i) (c := 22) (d := 20) rfl)
            have hgy307 := (hfvy124 (i + 22) (ne_o (i := i) (c := 22) (d := 0) rfl)).trans hgy306
            have hgy308 := (hfvy219 (i + 22) (ne_o (i := i) (c := 22) (d := 0) rfl)).trans hgy307
            have hgy309 := up_n egy226 hgy308 (ne_o (i := i) (c := 22) (d := 21) rfl)
            have hgy310 := up_n egy232 hgy309 (ne_o (i := i) (c := 22) (d := 0) rfl)
            have hgy311 := (hfvy37 (i + 23) (ne_o (i := i) (c := 23) (d := 0) rfl)).trans ha23
            have hgy312 := (hfvy47 (i + 23) (ne_o (i := i) (c := 23) (d := 0) rfl)).trans hgy311
            have hgy313 := (hfvy58 (i + 23) (ne_o (i := i) (c := 23) (d := 0) rfl)).trans hgy312
            have hgy314 := up_n egy65 hgy313 (ne_o (i := i) (c := 23) (d := 19) rfl)
            have hgy315 := up_n egy75 hgy314 (ne_o (i := i) (c := 23) (d := 20) rfl)
            have hgy316 := up_n egy86 hgy315 (ne_o (i := i) (c := 23) (d := 21) rfl)
            have hgy317 := up_n egy106 hgy316 (ne_o (i := i) (c := 23) (d := 20) rfl)
            have hgy318 := (hfvy124 (i + 23) (ne_o (i := i) (c := 23) (d := 0) rfl)).trans hgy317
            have hgy319 := (hfvy219 (i + 23) (ne_o (i := i) (c := 23) (d := 0) rfl)).trans hgy318
            have hgy320 := up_n egy226 hgy319 (ne_o (i := i) (c := 23) (d := 21) rfl)
            have hgy321 := up_n egy232 hgy320 (ne_o (i := i) (c := 23) (d := 0) rfl)
            have htxy322 : okTx cs gy231 i (uZ Fvy219 48 ((F 48) + 1)) := ⟨_, _, _, _, _, _, _, _, ⟨hgy266, hgy277, hgy288, hgy295, hgy298, hgy299, hgy310, hgy321⟩, ⟨⟨by omega, by omega, by omega⟩, hop1, hmn1, haky247, haky250, htb1, hlay255⟩⟩
            exact z_vret C hr hlk dX10_hour1_207 (by decide) (by decide) ⟨rfl, rfl, rfl, ⟨_, hgy233, hrdy242, by omega, by omega, hFy234, htxy322⟩, fun j j1 j2 => by rw [egy232, va_up_ne _ _ (by omega)]; rw [egy226, va_up_ne _ _ (by omega)]; rw [hfvy219 _ (by omega)]; rw [hfvy124 _ (by omega)]; rw [egy106, va_up_ne _ _ (by omega)]; rw [egy86, va_up_ne _ _ (by omega)]; rw [egy75, va_up_ne _ _ (by omega)]; rw [egy65, va_up_ne _ _ (by omega)]; rw [hfvy58 _ (by omega)]; rw [hfvy47 _ (by omega)]; rw [hfvy37 _ (by omega)]⟩
        · refine z_aload_n C 2 dX10_hour1_131 rfl ?_
          refine z_iconst (z := 4) C dX10_hour1_132 rfl ?_
          have hey323 : Fvy58 32 = Fvy58 32 := rfl
          have hey324 : Fvy58 33 = Fvy58 33 := rfl
          have hey325 : Fvy58 34 = F 34 := ((hFvy58 34 (by decide) (by decide) (by decide) (by decide) (by decide) (by decide) (by decide)).trans ((hFvy47 34 (by decide) (by decide) (by decide) (by decide) (by decide)).trans (hFvy37 34 (by decide) (by decide))))
          have hey326 : Fvy58 35 = Fvy58 35 := rfl
          have hey327 : Fvy58 36 = Fvy58 36 := rfl
          have hey328 : Fvy58 37 = Fvy58 37 := rfl
          have hey329 : Fvy58 38 = 0 := hxvy58
          have hrdy330 : RD Fvy58 := by unfold RD; omega
          have hey332 : Fvy58 38 = 0 := hxvy58
          have hey333 : Fvy58 35 = Fvy58 35 := rfl
          have hey334 : Fvy58 37 = Fvy58 37 := rfl
          refine z_cV (As := [.int (zI (4))]) (rest := []) (ci := 12) C (c_X10_is l D A cs tt N ad _ i hN _ hgy90 hrdy330 (4) (by omega)) (by omega) hay1 hgy90 rfl rfl mv_yX10_is q_1705 hd_yX10_is (by decide) (Nat.le_of_ble_eq_true rfl) (by decide) dX10_hour1_133 rfl (kI0 fun vy331 gvy331 hvy331 => ?_)
          rw [hey332, hey333, hey334] at hvy331
          obtain ⟨hrvy331, hqvy331, rfl⟩ := hvy331
          refine z_if_ne (tgt := 147) C dX10_hour1_136 (by decide) (by omega) (fun hby335 => ?_) (fun hby335 => ?_)
          · refine z_aload_n C 2 dX10_hour1_147 rfl ?_
            refine z_get (v := .ref (ad (i + 20))) C (by omega) hay1 hgy90 rfl inA_X10 43 (by decide) q_1502 rfl rfl dX10_hour1_148 ?_
            refine z_aload_n C 2 dX10_hour1_151 rfl ?_
            refine z_get (v := .int (zI (F 48))) C (by omega) hay1 hgy90 rfl inA_X10 48 (by decide) q_1507 rfl (fv (F := Fvy58) (f := 48) ((hFvy58 48 (by decide) (by decide) (by decide) (by decide) (by decide) (by decide) (by decide)).trans ((hFvy47 48 (by decide) (by decide) (by decide) (by decide) (by decide)).trans (hFvy37 48 (by decide) (by decide))))) dX10_hour1_152 ?_
            refine z_aload_n C 2 dX10_hour1_155 rfl ?_
            refine z_get (v := .int (zI (Fvy58 37))) C (by omega) hay1 hgy90 rfl inA_X10 37 (by decide) q_1496 rfl (fv (F := Fvy58) (f := 37) rfl) dX10_hour1_156 ?_
            refine z_iconst (z := 3) C dX10_hour1_159 rfl ?_
            refine z_isub C dX10_hour1_160 ?_
            refine z_iconst (z := 1) C dX10_hour1_161 rfl ?_
            refine z_iadd C dX10_hour1_162 ?_
            have hgy336 := up_n egy86 hgy76 (ne_o (i := i) (c := 20) (d := 21) rfl)
            refine z_iast C (by omega) hay7 hgy336 ((F 48).toNat) (by omega) (by omega) (by decide) dX10_hour1_163 (fun gy337 egy338 => ?_)
            have hgy339 := up_s egy338
            obtain ⟨ry340, hvy341⟩ : ∃ rZ9 : Nat → Int, rZ9 = uZ ry77 ((F 48).toNat) (((Fvy58 37) - 3) + 1) := ⟨_, rfl⟩
            rw [← hvy341] at hgy339
            refine z_aload_n C 2 dX10_hour1_164 rfl ?_
            have hgy342 := up_n egy338 hgy90 (ne_o (i := i) (c := 0) (d := 20) rfl)
            have hey343 : Fvy58 32 = Fvy58 32 := rfl
            have hey344 : Fvy58 33 = Fvy58 33 := rfl
            have hey345 : Fvy58 34 = F 34 := ((hFvy58 34 (by decide) (by decide) (by decide) (by decide) (by decide) (by decide) (by decide)).trans ((hFvy47 34 (by decide) (by decide) (by decide) (by decide) (by decide)).trans (hFvy37 34 (by decide) (by decide))))
            have hey346 : Fvy58 35 = Fvy58 35 := rfl
            have hey347 : Fvy58 36 = Fvy58 36 := rfl
            have hey348 : Fvy58 37 = Fvy58 37 := rfl
            have hey349 : Fvy58 38 = 0 := hxvy58
            have hrdy350 : RD Fvy58 := by unfold RD; omega
            have hgy351 := (hfvy58 (i + 13) (ne_o (i := i) (c := 13) (d := 0) rfl)).trans hgy57
            have hgy352 := up_n egy65 hgy351 (ne_o (i := i) (c := 13) (d := 19) rfl)
            have hgy353 := up_n egy75 hgy352 (ne_o (i := i) (c := 13) (d := 20) rfl)
            have hgy354 := up_n egy86 hgy353 (ne_o (i := i) (c := 13) (d := 21) rfl)
            have hgy355 := up_n egy338 hgy354 (ne_o (i := i) (c := 13) (d := 20) rfl)
            refine z_cV (As := []) (rest := []) (ci := 12) C (c_X10_go l D A cs tt N ad _ i hN _ hgy342 _ hgy355 htp hrdy350) (by omega) hay1 hgy342 rfl rfl mv_yX10_go q_1652 hd_yX10_go (by decide) (Nat.le_of_ble_eq_true rfl) (by decide) dX10_hour1_165 rfl (kV0 fun gvy356 hvy356 => ?_)
            obtain ⟨⟨Fvy356, hcvy356, hdvy356, hlvy356, hsvy356, hFvy356⟩, hfvy356⟩ := hvy356
            have h32vy356 : Fvy58 32 = Fvy58 32 := rfl
            have h34vy356 : Fvy356 34 = F 34 := (hFvy356 34 (by decide) (by decide) (by decide) (by decide) (by decide)).trans (((hFvy58 34 (by decide) (by decide) (by decide) (by decide) (by decide) (by decide) (by decide)).trans ((hFvy47 34 (by decide) (by decide) (by decide) (by decide) (by decide)).trans (hFvy37 34 (by decide) (by decide)))))
            obtain ⟨d32vy356, d33vy356, d35vy356, d36vy356, d2vy356, d37vy356, d38vy356⟩ := id hdvy356
            have h38vy356 : Fvy356 38 = 0 := ((hFvy356 38 (by decide) (by decide) (by decide) (by decide) (by decide)).trans hxvy58)
            refine z_aload_n C 2 dX10_hour1_168 rfl ?_
            refine z_get (v := .ref (ad (i + 20))) C (by omega) hay1 hcvy356 rfl inA_X10 43 (by decide) q_1502 rfl rfl dX10_hour1_169 ?_
            refine z_aload_n C 2 dX10_hour1_172 rfl ?_
            refine z_get (v := .int (zI (F 48))) C (by omega) hay1 hcvy356 rfl inA_X10 48 (by decide) q_1507 rfl (fv (F := Fvy356) (f := 48) ((hFvy356 48 (by decide) (by decide) (by decide) (by decide) (by decide)).trans ((hFvy58 48 (by decide) (by decide) (by decide) (by decide) (by decide) (by decide) (by decide)).trans ((hFvy47 48 (by decide) (by decide) (by decide) (by decide) (by decide)).trans (hFvy37 48 (by decide) (by decide)))))) dX10_hour1_173 ?_
            have hgy357 := (hfvy356 (i + 20) (ne_o (i := i) (c := 20) (d := 0) rfl)).trans hgy339
            refine z_iald C (by omega) hay7 hgy357 ((F 48).toNat) (by omega) (by omega) (by decide) dX10_hour1_176 ?_
            rw [show ry340 ((F 48).toNat) = ((Fvy58 37) - 3) + 1 from (congrFun hvy341 _).trans (uZ_s _ _ _)]
            refine z_iconst (z := 3) C dX10_hour1_177 rfl ?_
            obtain ⟨xy358, exy359, hxy360⟩ := zI_of (zI (((Fvy58 37) - 3) + 1))
            rw [exy359]
            refine z_icmp_ge (tgt := 197) C dX10_hour1_178 (by decide) (by omega) (by omega) (fun hby361 => ?_) (fun hby361 => ?_)
            · refine z_aload_n C 2 dX10_hour1_197 rfl ?_
              refine z_dup C dX10_hour1_198 rfl ?_
              refine z_get (v := .int (zI (F 48))) C (by omega) hay1 hcvy356 rfl inA_X10 48 (by decide) q_1507 rfl (fv (F := Fvy356) (f := 48) ((hFvy356 48 (by decide) (by decide) (by decide) (by decide) (by decide)).trans ((hFvy58 48 (by decide) (by decide) (by decide) (by decide) (by decide) (by decide) (by decide)).trans ((hFvy47 48 (by decide) (by decide) (by decide) (by decide) (by decide)).trans (hFvy37 48 (by decide) (by decide)))))) dX10_hour1_199 ?_
              refine z_iconst (z := 1) C dX10_hour1_202 rfl ?_
              refine z_iadd C dX10_hour1_203 ?_
              refine z_put (fs' := mF ad (i) (uZ Fvy356 48 ((F 48) + 1))) C (by omega) hay1 hcvy356 tyX10 tyX10_ok nmX10 rfl inA_X10 48 (by decide) q_1507 rfl rfl rfl rfl (Nat.le_of_ble_eq_true rfl) rfl dX10_hour1_204 (fun gy362 egy363 => ?_)
              have hgy364 := up_s egy363
              have hFy365 : ∀ f, f ≠ 24 → f ≠ 32 → f ≠ 33 → f ≠ 35 → f ≠ 36 → f ≠ 37 → f ≠ 38 → f ≠ 47 → f ≠ 48 → f ≠ 49 → (uZ Fvy356 48 ((F 48) + 1)) f = F f := fun f n24 n32 n33 n35 n36 n37 n38 n47 n48 n49 => ((uZ_n _ _ n48).trans ((hFvy356 f n32 n33 n35 n36 n37).trans ((hFvy58 f n24 n32 n33 n35 n36 n37 n38).trans ((hFvy47 f n32 n33 n35 n36 n37).trans (hFvy37 f n24 n38)))))
              have hey366 : (uZ Fvy356 48 ((F 48) + 1)) 32 = Fvy356 32 := (fn rfl (by decide))
              have hey367 : (uZ Fvy356 48 ((F 48) + 1)) 33 = Fvy356 33 := (fn rfl (by decide))
              have hey368 : (uZ Fvy356 48 ((F 48) + 1)) 34 = F 34 := (fn ((hFvy356 34 (by decide) (by decide) (by decide) (by decide) (by decide)).trans ((hFvy58 34 (by decide) (by decide) (by decide) (by decide) (by decide) (by decide) (by decide)).trans ((hFvy47 34 (by decide) (by decide) (by decide) (by decide) (by decide)).trans (hFvy37 34 (by decide) (by decide))))) (by decide))
              have hey369 : (uZ Fvy356 48 ((F 48) + 1)) 35 = Fvy356 35 := (fn rfl (by decide))
              have hey370 : (uZ Fvy356 48 ((F 48) + 1)) 36 = Fvy356 36 := (fn rfl (by decide))
              have hey371 : (uZ Fvy356 48 ((F 48) + 1)) 37 = Fvy356 37 := (fn rfl (by decide))
              have hey372 : (uZ Fvy356 48 ((F 48) + 1)) 38 = 0 := (fn ((hFvy356 38 (by decide) (by decide) (by decide) (by decide) (by decide)).trans hxvy58) (by decide))
              have hrdy373 : RD (uZ Fvy356 48 ((F 48) + 1)) := by unfold RD; omega
              have hey374 : (uZ Fvy356 48 ((F 48) + 1)) 32 = Fvy356 32 := (fn rfl (by decide))
              have hey375 : (uZ Fvy356 48 ((F 48) + 1)) 47 = F 47 := (fn ((hFvy356 47 (by decide) (by decide) (by decide) (by decide) (by decide)).trans ((hFvy58 47 (by decide) (by decide) (by decide) (by decide) (by decide) (by decide) (by decide)).trans ((hFvy47 47 (by decide) (by decide) (by decide) (by decide) (by decide)).trans (hFvy37 47 (by decide) (by decide))))) (by decide))
              have hey376 : (uZ Fvy356 48 ((F 48) + 1)) 48 = (F 48) + 1 := (uZ_s _ _ _)
              have hey377 : (uZ Fvy356 48 ((F 48) + 1)) 49 = F 49 := (fn ((hFvy356 49 (by decide) (by decide) (by decide) (by decide) (by decide)).trans ((hFvy58 49 (by decide) (by decide) (by decide) (by decide) (by decide) (by decide) (by decide)).trans ((hFvy47 49 (by decide) (by decide) (by decide) (by decide) (by decide)).trans (hFvy37 49 (by decide) (by decide))))) (by decide))
              have hfry379 : ∀ j, j ≠ (F 48).toNat → ry67 j = ai1 j := fun j n0 => (congrFun hvy68 _).trans ((uZ_n _ _ n0).trans (rfl))
              have hwy380 : ry67 ((F 48).toNat) = vy58 := (congrFun hvy68 _).trans (uZ_s _ _ _)
              have haky378 : ∀ k, k < 24 → -300 ≤ ry67 k ∧ ry67 k ≤ 100 := by
                intro k hk
                by_cases e : k = (F 48).toNat
                · subst e; have hk0 := hai1 ((F 48).toNat) (by omega); omega
                · have hk0 := hai1 k hk; rw [hfry379 k e]; exact hk0
              have hfry382 : ∀ j, j ≠ (F 48).toNat → ry340 j = fa1 j := fun j n0 => (congrFun hvy341 _).trans ((uZ_n _ _ n0).trans ((congrFun hvy78 _).trans ((uZ_n _ _ n0).trans (rfl))))
              have hfry383 : ∀ j, j ≠ (F 48).toNat → ry88 j = mu1 j := fun j n0 => (congrFun hvy89 _).trans ((uZ_n _ _ n0).trans (rfl))
              have hwy384 : ry340 ((F 48).toNat) = ((Fvy58 37) - 3) + 1 := (congrFun hvy341 _).trans (uZ_s _ _ _)
              have hwy385 : ry88 ((F 48).toNat) = 0 := (congrFun hvy89 _).trans (uZ_s _ _ _)
              have haky381 : ∀ k, k < 24 → (0 ≤ ry340 k ∧ ry340 k ≤ 3) ∧ (0 ≤ ry88 k ∧ ry88 k ≤ 50) ∧ (ry340 k = 1 ∨ ry340 k = 2 → 1 ≤ ry88 k) := by
                intro k hk
                by_cases e : k = (F 48).toNat
                · subst e; have hk0 := hfa1 ((F 48).toNat) (by omega); omega
                · have hk0 := hfa1 k hk; rw [hfry382 k e]; rw [hfry383 k e]; exact hk0
              have hlay386 : ∀ s l : Nat, (s : Int) < (uZ Fvy356 48 ((F 48) + 1)) 47 → (l : Int) < mn1 s → lyT ly1 (84 * s + 7 * l) := fun s l a1 a2 => hly1 s l (by omega) a2
              have hgy387 := (hfvy37 (i + 16) (ne_o (i := i) (c := 16) (d := 0) rfl)).trans ha16
              have hgy388 := (hfvy47 (i + 16) (ne_o (i := i) (c := 16) (d := 0) rfl)).trans hgy387
              have hgy389 := (hfvy58 (i + 16) (ne_o (i := i) (c := 16) (d := 0) rfl)).trans hgy388
              have hgy390 := up_n egy65 hgy389 (ne_o (i := i) (c := 16) (d := 19) rfl)
              have hgy391 := up_n egy75 hgy390 (ne_o (i := i) (c := 16) (d := 20) rfl)
              have hgy392 := up_n egy86 hgy391 (ne_o (i := i) (c := 16) (d := 21) rfl)
              have hgy393 := up_n egy338 hgy392 (ne_o (i := i) (c := 16) (d := 20) rfl)
              have hgy394 := (hfvy356 (i + 16) (ne_o (i := i) (c := 16) (d := 0) rfl)).trans hgy393
              have hgy395 := up_n egy363 hgy394 (ne_o (i := i) (c := 16) (d := 0) rfl)
              have hgy396 := (hfvy37 (i + 17) (ne_o (i := i) (c := 17) (d := 0) rfl)).trans ha17
              have hgy397 := (hfvy47 (i + 17) (ne_o (i := i) (c := 17) (d := 0) rfl)).trans hgy396
              have hgy398 := (hfvy58 (i + 17) (ne_o (i := i) (c := 17) (d := 0) rfl)).trans hgy397
              have hgy399 := up_n egy65 hgy398 (ne_o (i := i) (c := 17) (d := 19) rfl)
              have hgy400 := up_n egy75 hgy399 (ne_o (i := i) (c := 17) (d := 20) rfl)
              have hgy401 := up_n egy86 hgy400 (ne_o (i := i) (c := 17) (d := 21) rfl)
              have hgy402 := up_n egy338 hgy401 (ne_o (i := i) (c := 17) (d := 20) rfl)
              have hgy403 := (hfvy356 (i + 17) (ne_o (i := i) (c := 17) (d := 0) rfl)).trans hgy402
              have hgy404 := up_n egy363 hgy403 (ne_o (i := i) (c := 17) (d := 0) rfl)
              have hgy405 := (hfvy37 (i + 18) (ne_o (i := i) (c := 18) (d := 0) rfl)).trans ha18
              have hgy406 := (hfvy47 (i + 18) (ne_o (i := i) (c := 18) (d := 0) rfl)).trans hgy405
              have hgy407 := (hfvy58 (i + 18) (ne_o (i := i) (c := 18) (d := 0) rfl)).trans hgy406
              have hgy408 := up_n egy65 hgy407 (ne_o (i := i) (c := 18) (d := 19) rfl)
              have hgy409 := up_n egy75 hgy408 (ne_o (i := i) (c := 18) (d := 20) rfl)
              have hgy410 := up_n egy86 hgy409 (ne_o (i := i) (c := 18) (d := 21) rfl)
              have hgy411 := up_n egy338 hgy410 (ne_o (i := i) (c := 18) (d := 20) rfl)
              have hgy412 := (hfvy356 (i + 18) (ne_o (i := i) (c := 18) (d := 0) rfl)).trans hgy411
              have hgy413 := up_n egy363 hgy412 (ne_o (i := i) (c := 18) (d := 0) rfl)
              have hgy414 := up_n egy75 hgy66 (ne_o (i := i) (c := 19) (d := 20) rfl)
              have hgy415 := up_n egy86 hgy414 (ne_o (i := i) (c := 19) (d := 21) rfl)
              have hgy416 := up_n egy338 hgy415 (ne_o (i := i) (c := 19) (d := 20) rfl)
              have hgy417 := (hfvy356 (i + 19) (ne_o (i := i) (c := 19) (d := 0) rfl)).trans hgy416
              have hgy418 := up_n egy363 hgy417 (ne_o (i := i) (c := 19) (d := 0) rfl)
              have hgy419 := up_n egy363 hgy357 (ne_o (i := i) (c := 20) (d := 0) rfl)
              have hgy420 := up_n egy338 hgy87 (ne_o (i := i) (c := 21) (d := 20) rfl)
              have hgy421 := (hfvy356 (i + 21) (ne_o (i := i) (c := 21) (d := 0) rfl)).trans hgy420
              have hgy422 := up_n egy363 hgy421 (ne_o (i := i) (c := 21) (d := 0) rfl)
              have hgy423 := (hfvy37 (i + 22) (ne_o (i := i) (c := 22) (d := 0) rfl)).trans ha22
              have hgy424 := (hfvy47 (i + 22) (ne_o (i := i) (c := 22) (d := 0) rfl)).trans hgy423
              have hgy425 := (hfvy58 (i + 22) (ne_o (i := i) (c := 22) (d := 0) rfl)).trans hgy424
              have hgy426 := up_n egy65 hgy425 (ne_o (i := i) (c := 22) (d := 19) rfl)
              have hgy427 := up_n egy75 hgy426 (ne_o (i := i) (c := 22) (d := 20) rfl)
              have hgy428 := up_n egy86 hgy427 (ne_o (i := i) (c := 22) (d := 21) rfl)
              have hgy429 := up_n egy338 hgy428 (ne_o (i := i) (c := 22) (d := 20) rfl)
              have hgy430 := (hfvy356 (i + 22) (ne_o (i := i) (c := 22) (d := 0) rfl)).trans hgy429
              have hgy431 := up_n egy363 hgy430 (ne_o (i := i) (c := 22) (d := 0) rfl)
              have hgy432 := (hfvy37 (i + 23) (ne_o (i := i) (c := 23) (d := 0) rfl)).trans ha23
              have hgy433 := (hfvy47 (i + 23) (ne_o (i := i) (c := 23) (d := 0) rfl)).trans hgy432
              have hgy434 := (hfvy58 (i + 23) (ne_o (i := i) (c := 23) (d := 0) rfl)).trans hgy433
              have hgy435 := up_n egy65 hgy434 (ne_o (i := i) (c := 23) (d := 19) rfl)
              have hgy436 := up_n egy75 hgy435 (ne_o (i := i) (c := 23) (d := 20) rfl)
              have hgy437 := up_n egy86 hgy436 (ne_o (i := i) (c := 23) (d := 21) rfl)
              have hgy438 := up_n egy338 hgy437 (ne_o (i := i) (c := 23) (d := 20) rfl)
              have hgy439 := (hfvy356 (i + 23) (ne_o (i := i) (c := 23) (d := 0) rfl)).trans hgy438
              have hgy440 := up_n egy363 hgy439 (ne_o (i := i) (c := 23) (d := 0) rfl)
              have htxy441 : okTx cs gy362 i (uZ Fvy356 48 ((F 48) + 1)) := ⟨_, _, _, _, _, _, _, _, ⟨hgy395, hgy404, hgy413, hgy418, hgy419, hgy422, hgy431, hgy440⟩, ⟨⟨by omega, by omega, by omega⟩, hop1, hmn1, haky378, haky381, htb1, hlay386⟩⟩
              exact z_vret C hr hlk dX10_hour1_207 (by decide) (by decide) ⟨rfl, rfl, rfl, ⟨_, hgy364, hrdy373, by omega, by omega, hFy365, htxy441⟩, fun j j1 j2 => by rw [egy363, va_up_ne _ _ (by omega)]; rw [hfvy356 _ (by omega)]; rw [egy338, va_up_ne _ _ (by omega)]; rw [egy86, va_up_ne _ _ (by omega)]; rw [egy75, va_up_ne _ _ (by omega)]; rw [egy65, va_up_ne _ _ (by omega)]; rw [hfvy58 _ (by omega)]; rw [hfvy47 _ (by omega)]; rw [hfvy37 _ (by omega)]⟩
            · refine z_aload_n C 2 dX10_hour1_181 rfl ?_
              refine z_get (v := .ref (ad (i + 21))) C (by omega) hay1 hcvy356 rfl inA_X10 44 (by decide) q_1503 rfl rfl dX10_hour1_182 ?_
              refine z_aload_n C 2 dX10_hour1_185 rfl ?_
              refine z_get (v := .int (zI (F 48))) C (by omega) hay1 hcvy356 rfl inA_X10 48 (by decide) q_1507 rfl (fv (F := Fvy356) (f := 48) ((hFvy356 48 (by decide) (by decide) (by decide) (by decide) (by decide)).trans ((hFvy58 48 (by decide) (by decide) (by decide) (by decide) (by decide) (by decide) (by decide)).trans ((hFvy47 48 (by decide) (by decide) (by decide) (by decide) (by decide)).trans (hFvy37 48 (by decide) (by decide)))))) dX10_hour1_186 ?_
              refine z_aload_n C 2 dX10_hour1_189 rfl ?_
              refine z_iconst (z := 1) C dX10_hour1_190 rfl ?_
              refine z_bipush (z := 50) C dX10_hour1_191 (by decide) ?_
              have hey442 : Fvy356 32 = Fvy356 32 := rfl
              have hey443 : Fvy356 33 = Fvy356 33 := rfl
              have hey444 : Fvy356 34 = F 34 := ((hFvy356 34 (by decide) (by decide) (by decide) (by decide) (by decide)).trans ((hFvy58 34 (by decide) (by decide) (by decide) (by decide) (by decide) (by decide) (by decide)).trans ((hFvy47 34 (by decide) (by decide) (by decide) (by decide) (by decide)).trans (hFvy37 34 (by decide) (by decide)))))
              have hey445 : Fvy356 35 = Fvy356 35 := rfl
              have hey446 : Fvy356 36 = Fvy356 36 := rfl
              have hey447 : Fvy356 37 = Fvy356 37 := rfl
              have hey448 : Fvy356 38 = 0 := ((hFvy356 38 (by decide) (by decide) (by decide) (by decide) (by decide)).trans hxvy58)
              have hrdy449 : RD Fvy356 := by unfold RD; omega
              have hgy450 := (hfvy356 (i + 13) (ne_o (i := i) (c := 13) (d := 0) rfl)).trans hgy355
              have hey452 : Fvy356 38 = 0 := ((hFvy356 38 (by decide) (by decide) (by decide) (by decide) (by decide)).trans hxvy58)
              have hey453 : Fvy356 35 = Fvy356 35 := rfl
              refine z_cV (As := [.int (zI (1)), .int (zI (50))]) (rest := [.int (zI (F 48)), .ref (ad (i + 21))]) (ci := 12) C (c_X10_number l D A cs tt N ad _ i hN _ hcvy356 _ hgy450 htp hrdy449 (1) (by omega) (50) (by omega)) (by omega) hay1 hcvy356 rfl rfl mv_yX10_number q_1682 hd_yX10_number (by decide) (Nat.le_of_ble_eq_true rfl) (by decide) dX10_hour1_193 rfl (kI0 fun vy451 gvy451 hvy451 => ?_)
              obtain ⟨hrvy451, ⟨Fvy451, hcvy451, hdvy451, hlvy451, hsvy451, hFvy451⟩, hfvy451⟩ := hvy451
              have h32vy451 : Fvy356 32 = Fvy356 32 := rfl
              have h34vy451 : Fvy451 34 = F 34 := (hFvy451 34 (by decide) (by decide) (by decide) (by decide) (by decide) (by decide) (by decide)).trans (((hFvy356 34 (by decide) (by decide) (by decide) (by decide) (by decide)).trans ((hFvy58 34 (by decide) (by decide) (by decide) (by decide) (by decide) (by decide) (by decide)).trans ((hFvy47 34 (by decide) (by decide) (by decide) (by decide) (by decide)).trans (hFvy37 34 (by decide) (by decide))))))
              obtain ⟨d32vy451, d33vy451, d35vy451, d36vy451, d2vy451, d37vy451, d38vy451⟩ := id hdvy451
              have hgy454 := up_n egy338 hgy87 (ne_o (i := i) (c := 21) (d := 20) rfl)
              have hgy455 := (hfvy356 (i + 21) (ne_o (i := i) (c := 21) (d := 0) rfl)).trans hgy454
              have hgy456 := (hfvy451 (i + 21) (ne_o (i := i) (c := 21) (d := 0) rfl)).trans hgy455
              refine z_iast C (by omega) hay8 hgy456 ((F 48).toNat) (by omega) (by omega) (by decide) dX10_hour1_196 (fun gy457 egy458 => ?_)
              have hgy459 := up_s egy458
              obtain ⟨ry460, hvy461⟩ : ∃ rZ9 : Nat → Int, rZ9 = uZ ry88 ((F 48).toNat) (vy451) := ⟨_, rfl⟩
              rw [← hvy461] at hgy459
              refine z_aload_n C 2 dX10_hour1_197 rfl ?_
              refine z_dup C dX10_hour1_198 rfl ?_
              have hgy462 := up_n egy458 hcvy451 (ne_o (i := i) (c := 0) (d := 21) rfl)
              refine z_get (v := .int (zI (F 48))) C (by omega) hay1 hgy462 rfl inA_X10 48 (by decide) q_1507 rfl (fv (F := Fvy451) (f := 48) ((hFvy451 48 (by decide) (by decide) (by decide) (by decide) (by decide) (by decide) (by decide)).trans ((hFvy356 48 (by decide) (by decide) (by decide) (by decide) (by decide)).trans ((hFvy58 48 (by decide) (by decide) (by decide) (by decide) (by decide) (by decide) (by decide)).trans ((hFvy47 48 (by decide) (by decide) (by decide) (by decide) (by decide)).trans (hFvy37 48 (by decide) (by decide))))))) dX10_hour1_199 ?_
              refine z_iconst (z := 1) C dX10_hour1_202 rfl ?_
              refine z_iadd C dX10_hour1_203 ?_
              refine z_put (fs' := mF ad (i) (uZ Fvy451 48 ((F 48) + 1))) C (by omega) hay1 hgy462 tyX10 tyX10_ok nmX10 rfl inA_X10 48 (by decide) q_1507 rfl rfl rfl rfl (Nat.le_of_ble_eq_true rfl) rfl dX10_hour1_204 (fun gy463 egy464 => ?_)
              have hgy465 := up_s egy464
              have hFy466 : ∀ f, f ≠ 24 → f ≠ 32 → f ≠ 33 → f ≠ 35 → f ≠ 36 → f ≠ 37 → f ≠ 38 → f ≠ 47 → f ≠ 48 → f ≠ 49 → (uZ Fvy451 48 ((F 48) + 1)) f = F f := fun f n24 n32 n33 n35 n36 n37 n38 n47 n48 n49 => ((uZ_n _ _ n48).trans ((hFvy451 f n24 n32 n33 n35 n36 n37 n38).trans ((hFvy356 f n32 n33 n35 n36 n37).trans ((hFvy58 f n24 n32 n33 n35 n36 n37 n38).trans ((hFvy47 f n32 n33 n35 n36 n37).trans (hFvy37 f n24 n38))))))
              have hey467 : (uZ Fvy451 48 ((F 48) + 1)) 32 = Fvy451 32 := (fn rfl (by decide))
              have hey468 : (uZ Fvy451 48 ((F 48) + 1)) 33 = Fvy451 33 := (fn rfl (by decide))
              have hey469 : (uZ Fvy451 48 ((F 48) + 1)) 34 = F 34 := (fn ((hFvy451 34 (by decide) (by decide) (by decide) (by decide) (by decide) (by decide) (by decide)).trans ((hFvy356 34 (by decide) (by decide) (by decide) (by decide) (by decide)).trans ((hFvy58 34 (by decide) (by decide) (by decide) (by decide) (by decide) (by decide) (by decide)).trans ((hFvy47 34 (by decide) (by decide) (by decide) (by decide) (by decide)).trans (hFvy37 34 (by decide) (by decide)))))) (by decide))
              have hey470 : (uZ Fvy451 48 ((F 48) + 1)) 35 = Fvy451 35 := (fn rfl (by decide))
              have hey471 : (uZ Fvy451 48 ((F 48) + 1)) 36 = Fvy451 36 := (fn rfl (by decide))
              have hey472 : (uZ Fvy451 48 ((F 48) + 1)) 37 = Fvy451 37 := (fn rfl (by decide))
              have hey473 : (uZ Fvy451 48 ((F 48) + 1)) 38 = Fvy451 38 := (fn rfl (by decide))
              have hrdy474 : RD (uZ Fvy451 48 ((F 48) + 1)) := by unfold RD; omega
              have hey475 : (uZ Fvy451 48 ((F 48) + 1)) 32 = Fvy451 32 := (fn rfl (by decide))
              have hey476 : (uZ Fvy451 48 ((F 48) + 1)) 47 = F 47 := (fn ((hFvy451 47 (by decide) (by decide) (by decide) (by decide) (by decide) (by decide) (by decide)).trans ((hFvy356 47 (by decide) (by decide) (by decide) (by decide) (by decide)).trans ((hFvy58 47 (by decide) (by decide) (by decide) (by decide) (by decide) (by decide) (by decide)).trans ((hFvy47 47 (by decide) (by decide) (by decide) (by decide) (by decide)).trans (hFvy37 47 (by decide) (by decide)))))) (by decide))
              have hey477 : (uZ Fvy451 48 ((F 48) + 1)) 48 = (F 48) + 1 := (uZ_s _ _ _)
              have hey478 : (uZ Fvy451 48 ((F 48) + 1)) 49 = F 49 := (fn ((hFvy451 49 (by decide) (by decide) (by decide) (by decide) (by decide) (by decide) (by decide)).trans ((hFvy356 49 (by decide) (by decide) (by decide) (by decide) (by decide)).trans ((hFvy58 49 (by decide) (by decide) (by decide) (by decide) (by decide) (by decide) (by decide)).trans ((hFvy47 49 (by decide) (by decide) (by decide) (by decide) (by decide)).trans (hFvy37 49 (by decide) (by decide)))))) (by decide))
              have hfry480 : ∀ j, j ≠ (F 48).toNat → ry67 j = ai1 j := fun j n0 => (congrFun hvy68 _).trans ((uZ_n _ _ n0).trans (rfl))
              have hwy481 : ry67 ((F 48).toNat) = vy58 := (congrFun hvy68 _).trans (uZ_s _ _ _)
              have haky479 : ∀ k, k < 24 → -300 ≤ ry67 k ∧ ry67 k ≤ 100 := by
                intro k hk
                by_cases e : k = (F 48).toNat
                · subst e; have hk0 := hai1 ((F 48).toNat) (by omega); omega
                · have hk0 := hai1 k hk; rw [hfry480 k e]; exact hk0
              have hfry483 : ∀ j, j ≠ (F 48).toNat → ry340 j = fa1 j := fun j n0 => (congrFun hvy341 _).trans ((uZ_n _ _ n0).trans ((congrFun hvy78 _).trans ((uZ_n _ _ n0).trans (rfl))))
              have hfry484 : ∀ j, j ≠ (F 48).toNat → ry460 j = mu1 j := fun j n0 => (congrFun hvy461 _).trans ((uZ_n _ _ n0).trans ((congrFun hvy89 _).trans ((uZ_n _ _ n0).trans (rfl))))
              have hwy485 : ry340 ((F 48).toNat) = ((Fvy58 37) - 3) + 1 := (congrFun hvy341 _).trans (uZ_s _ _ _)
              have hwy486 : ry460 ((F 48).toNat) = vy451 := (congrFun hvy461 _).trans (uZ_s _ _ _)
              have haky482 : ∀ k, k < 24 → (0 ≤ ry340 k ∧ ry340 k ≤ 3) ∧ (0 ≤ ry460 k ∧ ry460 k ≤ 50) ∧ (ry340 k = 1 ∨ ry340 k = 2 → 1 ≤ ry460 k) := by
                intro k hk
                by_cases e : k = (F 48).toNat
                · subst e; have hk0 := hfa1 ((F 48).toNat) (by omega); omega
                · have hk0 := hfa1 k hk; rw [hfry483 k e]; rw [hfry484 k e]; exact hk0
              have hlay487 : ∀ s l : Nat, (s : Int) < (uZ Fvy451 48 ((F 48) + 1)) 47 → (l : Int) < mn1 s → lyT ly1 (84 * s + 7 * l) := fun s l a1 a2 => hly1 s l (by omega) a2
              have hgy488 := (hfvy37 (i + 16) (ne_o (i := i) (c := 16) (d := 0) rfl)).trans ha16
              have hgy489 := (hfvy47 (i + 16) (ne_o (i := i) (c := 16) (d := 0) rfl)).trans hgy488
              have hgy490 := (hfvy58 (i + 16) (ne_o (i := i) (c := 16) (d := 0) rfl)).trans hgy489
              have hgy491 := up_n egy65 hgy490 (ne_o (i := i) (c := 16) (d := 19) rfl)
              have hgy492 := up_n egy75 hgy491 (ne_o (i := i) (c := 16) (d := 20) rfl)
              have hgy493 := up_n egy86 hgy492 (ne_o (i := i) (c := 16) (d := 21) rfl)
              have hgy494 := up_n egy338 hgy493 (ne_o (i := i) (c := 16) (d := 20) rfl)
              have hgy495 := (hfvy356 (i + 16) (ne_o (i := i) (c := 16) (d := 0) rfl)).trans hgy494
              have hgy496 := (hfvy451 (i + 16) (ne_o (i := i) (c := 16) (d := 0) rfl)).trans hgy495
              have hgy497 := up_n egy458 hgy496 (ne_o (i := i) (c := 16) (d := 21) rfl)
              have hgy498 := up_n egy464 hgy497 (ne_o (i := i) (c := 16) (d := 0) rfl)
              have hgy499 := (hfvy37 (i + 17) (ne_o (i := i) (c := 17) (d := 0) rfl)).trans ha17
              have hgy500 := (hfvy47 (i + 17) (ne_o (i := i) (c := 17) (d := 0) rfl)).trans hgy499
              have hgy501 := (hfvy58 (i + 17) (ne_o (i := i) (c := 17) (d := 0) rfl)).trans hgy500
              have hgy502 := up_n egy65 hgy501 (ne_o (i := i) (c := 17) (d := 19) rfl)
              have hgy503 := up_n egy75 hgy502 (ne_o (i := i) (c := 17) (d := 20) rfl)
              have hgy504 := up_n egy86 hgy503 (ne_o (i := i) (c := 17) (d := 21) rfl)
              have hgy505 := up_n egy338 hgy504 (ne_o (i := i) (c := 17) (d := 20) rfl)
              have hgy506 := (hfvy356 (i + 17) (ne_o (i := i) (c := 17) (d := 0) rfl)).trans hgy505
              have hgy507 := (hfvy451 (i + 17) (ne_o (i := i) (c := 17) (d := 0) rfl)).trans hgy506
              have hgy508 := up_n egy458 hgy507 (ne_o (i := i) (c := 17) (d := 21) rfl)
              have hgy509 := up_n egy464 hgy508 (ne_o (i := i) (c := 17) (d := 0) rfl)
              have hgy510 := (hfvy37 (i + 18) (ne_o (i := i) (c := 18) (d := 0) rfl)).trans ha18
              have hgy511 := (hfvy47 (i + 18) (ne_o (i := i) (c := 18) (d := 0) rfl)).trans hgy510
              have hgy512 := (hfvy58 (i + 18) (ne_o (i := i) (c := 18) (d := 0) rfl)).trans hgy511
              have hgy513 := up_n egy65 hgy512 (ne_o (i := i) (c := 18) (d := 19) rfl)
              have hgy514 := up_n egy75 hgy513 (ne_o (i := i) (c := 18) (d := 20) rfl)
              have hgy515 := up_n egy86 hgy514 (ne_o (i := i) (c := 18) (d := 21) rfl)
              have hgy516 := up_n egy338 hgy515 (ne_o (i := i) (c := 18) (d := 20) rfl)
              have hgy517 := (hfvy356 (i + 18) (ne_o (i := i) (c := 18) (d := 0) rfl)).trans hgy516
              have hgy518 := (hfvy451 (i + 18) (ne_o (i := i) (c := 18) (d := 0) rfl)).trans hgy517
              have hgy519 := up_n egy458 hgy518 (ne_o (i := i) (c := 18) (d := 21) rfl)
              have hgy520 := up_n egy464 hgy519 (ne_o (i := i) (c := 18) (d := 0) rfl)
              have hgy521 := up_n egy75 hgy66 (ne_o (i := i) (c := 19) (d := 20) rfl)
              have hgy522 := up_n egy86 hgy521 (ne_o (i := i) (c := 19) (d := 21) rfl)
              have hgy523 := up_n egy338 hgy522 (ne_o (i := i) (c := 19) (d := 20) rfl)
              have hgy524 := (hfvy356 (i + 19) (ne_o (i := i) (c := 19) (d := 0) rfl)).trans hgy523
              have hgy525 := (hfvy451 (i + 19) (ne_o (i := i) (c := 19) (d := 0) rfl)).trans hgy524
              have hgy526 := up_n egy458 hgy525 (ne_o (i := i) (c := 19) (d := 21) rfl)
              have hgy527 := up_n egy464 hgy526 (ne_o (i := i) (c := 19) (d := 0) rfl)
              have hgy528 := (hfvy451 (i + 20) (ne_o (i := i) (c := 20) (d := 0) rfl)).trans hgy357
              have hgy529 := up_n egy458 hgy528 (ne_o (i := i) (c := 20) (d := 21) rfl)
              have hgy530 := up_n egy464 hgy529 (ne_o (i := i) (c := 20) (d := 0) rfl)
              have hgy531 := up_n egy464 hgy459 (ne_o (i := i) (c := 21) (d := 0) rfl)
              have hgy532 := (hfvy37 (i + 22) (ne_o (i := i) (c := 22) (d := 0) rfl)).trans ha22
              have hgy533 := (hfvy47 (i + 22) (ne_o (i := i) (c := 22) (d := 0) rfl)).trans hgy532
              have hgy534 := (hfvy58 (i + 22) (ne_o (i := i) (c := 22) (d := 0) rfl)).trans hgy533
              have hgy535 := up_n egy65 hgy534 (ne_o (i := i) (c := 22) (d := 19) rfl)
              have hgy536 := up_n egy75 hgy535 (ne_o (i := i) (c := 22) (d := 20) rfl)
              have hgy537 := up_n egy86 hgy536 (ne_o (i := i) (c := 22) (d := 21) rfl)
              have hgy538 := up_n egy338 hgy537 (ne_o (i := i) (c := 22) (d := 20) rfl)
              have hgy539 := (hfvy356 (i + 22) (ne_o (i := i) (c := 22) (d := 0) rfl)).trans hgy538
              have hgy540 := (hfvy451 (i + 22) (ne_o (i := i) (c := 22) (d := 0) rfl)).trans hgy539
              have hgy541 := up_n egy458 hgy540 (ne_o (i := i) (c := 22) (d := 21) rfl)
              have hgy542 := up_n egy464 hgy541 (ne_o (i := i) (c := 22) (d := 0) rfl)
              have hgy543 := (hfvy37 (i + 23) (ne_o (i := i) (c := 23) (d := 0) rfl)).trans ha23
              have hgy544 := (hfvy47 (i + 23) (ne_o (i := i) (c := 23) (d := 0) rfl)).trans hgy543
              have hgy545 := (hfvy58 (i + 23) (ne_o (i := i) (c := 23) (d := 0) rfl)).trans hgy544
              have hgy546 := up_n egy65 hgy545 (ne_o (i := i) (c := 23) (d := 19) rfl)
              have hgy547 := up_n egy75 hgy546 (ne_o (i := i) (c := 23) (d := 20) rfl)
              have hgy548 := up_n egy86 hgy547 (ne_o (i := i) (c := 23) (d := 21) rfl)
              have hgy549 := up_n egy338 hgy548 (ne_o (i := i) (c := 23) (d := 20) rfl)
              have hgy550 := (hfvy356 (i + 23) (ne_o (i := i) (c := 23) (d := 0) rfl)).trans hgy549
              have hgy551 := (hfvy451 (i + 23) (ne_o (i := i) (c := 23) (d := 0) rfl)).trans hgy550
              have hgy552 := up_n egy458 hgy551 (ne_o (i := i) (c := 23) (d := 21) rfl)
              have hgy553 := up_n egy464 hgy552 (ne_o (i := i) (c := 23) (d := 0) rfl)
              have htxy554 : okTx cs gy463 i (uZ Fvy451 48 ((F 48) + 1)) := ⟨_, _, _, _, _, _, _, _, ⟨hgy498, hgy509, hgy520, hgy527, hgy530, hgy531, hgy542, hgy553⟩, ⟨⟨by omega, by omega, by omega⟩, hop1, hmn1, haky479, haky482, htb1, hlay487⟩⟩
              exact z_vret C hr hlk dX10_hour1_207 (by decide) (by decide) ⟨rfl, rfl, rfl, ⟨_, hgy465, hrdy474, by omega, by omega, hFy466, htxy554⟩, fun j j1 j2 => by rw [egy464, va_up_ne _ _ (by omega)]; rw [egy458, va_up_ne _ _ (by omega)]; rw [hfvy451 _ (by omega)]; rw [hfvy356 _ (by omega)]; rw [egy338, va_up_ne _ _ (by omega)]; rw [egy86, va_up_ne _ _ (by omega)]; rw [egy75, va_up_ne _ _ (by omega)]; rw [egy65, va_up_ne _ _ (by omega)]; rw [hfvy58 _ (by omega)]; rw [hfvy47 _ (by omega)]; rw [hfvy37 _ (by omega)]⟩
          · refine z_aload_n C 2 dX10_hour1_139 rfl ?_
            refine z_iconst (z := 5) C dX10_hour1_140 rfl ?_
            have hey555 : Fvy58 32 = Fvy58 32 := rfl
            have hey556 : Fvy58 33 = Fvy58 33 := rfl
            have hey557 : Fvy58 34 = F 34 := ((hFvy58 34 (by decide) (by decide) (by decide) (by decide) (by decide) (by decide) (by decide)).trans ((hFvy47 34 (by decide) (by decide) (by decide) (by decide) (by decide)).trans (hFvy37 34 (by decide) (by decide))))
            have hey558 : Fvy58 35 = Fvy58 35 := rfl
            have hey559 : Fvy58 36 = Fvy58 36 := rfl
            have hey560 : Fvy58 37 = Fvy58 37 := rfl
            have hey561 : Fvy58 38 = 0 := hxvy58
            have hrdy562 : RD Fvy58 := by unfold RD; omega
            have hey564 : Fvy58 38 = 0 := hxvy58
            have hey565 : Fvy58 35 = Fvy58 35 := rfl
            have hey566 : Fvy58 37 = Fvy58 37 := rfl
            refine z_cV (As := [.int (zI (5))]) (rest := []) (ci := 12) C (c_X10_is l D A cs tt N ad _ i hN _ hgy90 hrdy562 (5) (by omega)) (by omega) hay1 hgy90 rfl rfl mv_yX10_is q_1705 hd_yX10_is (by decide) (Nat.le_of_ble_eq_true rfl) (by decide) dX10_hour1_141 rfl (kI0 fun vy563 gvy563 hvy563 => ?_)
            rw [hey564, hey565, hey566] at hvy563
            obtain ⟨hrvy563, hqvy563, rfl⟩ := hvy563
            refine z_if_eq (tgt := 197) C dX10_hour1_144 (by decide) (by omega) (fun hby567 => ?_) (fun hby567 => ?_)
            · refine z_aload_n C 2 dX10_hour1_197 rfl ?_
              refine z_dup C dX10_hour1_198 rfl ?_
              refine z_get (v := .int (zI (F 48))) C (by omega) hay1 hgy90 rfl inA_X10 48 (by decide) q_1507 rfl (fv (F := Fvy58) (f := 48) ((hFvy58 48 (by decide) (by decide) (by decide) (by decide) (by decide) (by decide) (by decide)).trans ((hFvy47 48 (by decide) (by decide) (by decide) (by decide) (by decide)).trans (hFvy37 48 (by decide) (by decide))))) dX10_hour1_199 ?_
              refine z_iconst (z := 1) C dX10_hour1_202 rfl ?_
              refine z_iadd C dX10_hour1_203 ?_
              refine z_put (fs' := mF ad (i) (uZ Fvy58 48 ((F 48) + 1))) C (by omega) hay1 hgy90 tyX10 tyX10_ok nmX10 rfl inA_X10 48 (by decide) q_1507 rfl rfl rfl rfl (Nat.le_of_ble_eq_true rfl) rfl dX10_hour1_204 (fun gy568 egy569 => ?_)
              have hgy570 := up_s egy569
              have hFy571 : ∀ f, f ≠ 24 → f ≠ 32 → f ≠ 33 → f ≠ 35 → f ≠ 36 → f ≠ 37 → f ≠ 38 → f ≠ 47 → f ≠ 48 → f ≠ 49 → (uZ Fvy58 48 ((F 48) + 1)) f = F f := fun f n24 n32 n33 n35 n36 n37 n38 n47 n48 n49 => ((uZ_n _ _ n48).trans ((hFvy58 f n24 n32 n33 n35 n36 n37 n38).trans ((hFvy47 f n32 n33 n35 n36 n37).trans (hFvy37 f n24 n38))))
              have hey572 : (uZ Fvy58 48 ((F 48) + 1)) 32 = Fvy58 32 := (fn rfl (by decide))
              have hey573 : (uZ Fvy58 48 ((F 48) + 1)) 33 = Fvy58 33 := (fn rfl (by decide))
              have hey574 : (uZ Fvy58 48 ((F 48) + 1)) 34 = F 34 := (fn ((hFvy58 34 (by decide) (by decide) (by decide) (by decide) (by decide) (by decide) (by decide)).trans ((hFvy47 34 (by decide) (by decide) (by decide) (by decide) (by decide)).trans (hFvy37 34 (by decide) (by decide)))) (by decide))
              have hey575 : (uZ Fvy58 48 ((F 48) + 1)) 35 = Fvy58 35 := (fn rfl (by decide))
              have hey576 : (uZ Fvy58 48 ((F 48) + 1)) 36 = Fvy58 36 := (fn rfl (by decide))
              have hey577 : (uZ Fvy58 48 ((F 48) + 1)) 37 = Fvy58 37 := (fn rfl (by decide))
              have hey578 : (uZ Fvy58 48 ((F 48) + 1)) 38 = 0 := (fn hxvy58 (by decide))
              have hrdy579 : RD (uZ Fvy58 48 ((F 48) + 1)) := by unfold RD; omega
              have hey580 : (uZ Fvy58 48 ((F 48) + 1)) 32 = Fvy58 32 := (fn rfl (by decide))
              have hey581 : (uZ Fvy58 48 ((F 48) + 1)) 47 = F 47 := (fn ((hFvy58 47 (by decide) (by decide) (by decide) (by decide) (by decide) (by decide) (by decide)).trans ((hFvy47 47 (by decide) (by decide) (by decide) (by decide) (by decide)).trans (hFvy37 47 (by decide) (by decide)))) (by decide))
              have hey582 : (uZ Fvy58 48 ((F 48) + 1)) 48 = (F 48) + 1 := (uZ_s _ _ _)
              have hey583 : (uZ Fvy58 48 ((F 48) + 1)) 49 = F 49 := (fn ((hFvy58 49 (by decide) (by decide) (by decide) (by decide) (by decide) (by decide) (by decide)).trans ((hFvy47 49 (by decide) (by decide) (by decide) (by decide) (by decide)).trans (hFvy37 49 (by decide) (by decide)))) (by decide))
              have hfry585 : ∀ j, j ≠ (F 48).toNat → ry67 j = ai1 j := fun j n0 => (congrFun hvy68 _).trans ((uZ_n _ _ n0).trans (rfl))
              have hwy586 : ry67 ((F 48).toNat) = vy58 := (congrFun hvy68 _).trans (uZ_s _ _ _)
              have haky584 : ∀ k, k < 24 → -300 ≤ ry67 k ∧ ry67 k ≤ 100 := by
                intro k hk
                by_cases e : k = (F 48).toNat
                · subst e; have hk0 := hai1 ((F 48).toNat) (by omega); omega
                · have hk0 := hai1 k hk; rw [hfry585 k e]; exact hk0
              have hfry588 : ∀ j, j ≠ (F 48).toNat → ry77 j = fa1 j := fun j n0 => (congrFun hvy78 _).trans ((uZ_n _ _ n0).trans (rfl))
              have hfry589 : ∀ j, j ≠ (F 48).toNat → ry88 j = mu1 j := fun j n0 => (congrFun hvy89 _).trans ((uZ_n _ _ n0).trans (rfl))
              have hwy590 : ry77 ((F 48).toNat) = 0 := (congrFun hvy78 _).trans (uZ_s _ _ _)
              have hwy591 : ry88 ((F 48).toNat) = 0 := (congrFun hvy89 _).trans (uZ_s _ _ _)
              have haky587 : ∀ k, k < 24 → (0 ≤ ry77 k ∧ ry77 k ≤ 3) ∧ (0 ≤ ry88 k ∧ ry88 k ≤ 50) ∧ (ry77 k = 1 ∨ ry77 k = 2 → 1 ≤ ry88 k) := by
                intro k hk
                by_cases e : k = (F 48).toNat
                · subst e; have hk0 := hfa1 ((F 48).toNat) (by omega); omega
                · have hk0 := hfa1 k hk; rw [hfry588 k e]; rw [hfry589 k e]; exact hk0
              have hlay592 : ∀ s l : Nat, (s : Int) < (uZ Fvy58 48 ((F 48) + 1)) 47 → (l : Int) < mn1 s → lyT ly1 (84 * s + 7 * l) := fun s l a1 a2 => hly1 s l (by omega) a2
              have hgy593 := (hfvy37 (i + 16) (ne_o (i := i) (c := 16) (d := 0) rfl)).trans ha16
              have hgy594 := (hfvy47 (i + 16) (ne_o (i := i) (c := 16) (d := 0) rfl)).trans hgy593
              have hgy595 := (hfvy58 (i + 16) (ne_o (i := i) (c := 16) (d := 0) rfl)).trans hgy594
              have hgy596 := up_n egy65 hgy595 (ne_o (i := i) (c := 16) (d := 19) rfl)
              have hgy597 := up_n egy75 hgy596 (ne_o (i := i) (c := 16) (d := 20) rfl)
              have hgy598 := up_n egy86 hgy597 (ne_o (i := i) (c := 16) (d := 21) rfl)
              have hgy599 := up_n egy569 hgy598 (ne_o (i := i) (c := 16) (d := 0) rfl)
              have hgy600 := (hfvy37 (i + 17) (ne_o (i := i) (c := 17) (d := 0) rfl)).trans ha17
              have hgy601 := (hfvy47 (i + 17) (ne_o (i := i) (c := 17) (d := 0) rfl)).trans hgy600
              have hgy602 := (hfvy58 (i + 17) (ne_o (i := i) (c := 17) (d := 0) rfl)).trans hgy601
              have hgy603 := up_n egy65 hgy602 (ne_o (i := i) (c := 17) (d := 19) rfl)
              have hgy604 := up_n egy75 hgy603 (ne_o (i := i) (c := 17) (d := 20) rfl)
              have hgy605 := up_n egy86 hgy604 (ne_o (i := i) (c := 17) (d := 21) rfl)
              have hgy606 := up_n egy569 hgy605 (ne_o (i := i) (c := 17) (d := 0) rfl)
              have hgy607 := (hfvy37 (i + 18) (ne_o (i := i) (c := 18) (d := 0) rfl)).trans ha18
              have hgy608 := (hfvy47 (i + 18) (ne_o (i := i) (c := 18) (d := 0) rfl)).trans hgy607
              have hgy609 := (hfvy58 (i + 18) (ne_o (i := i) (c := 18) (d := 0) rfl)).trans hgy608
              have hgy610 := up_n egy65 hgy609 (ne_o (i := i) (c := 18) (d := 19) rfl)
              have hgy611 := up_n egy75 hgy610 (ne_o (i := i) (c := 18) (d := 20) rfl)
              have hgy612 := up_n egy86 hgy611 (ne_o (i := i) (c := 18) (d := 21) rfl)
              have hgy613 := up_n egy569 hgy612 (ne_o (i := i) (c := 18) (d := 0) rfl)
              have hgy614 := up_n egy75 hgy66 (ne_o (i := i) (c := 19) (d := 20) rfl)
              have hgy615 := up_n egy86 hgy614 (ne_o (i := i) (c := 19) (d := 21) rfl)
              have hgy616 := up_n egy569 hgy615 (ne_o (i := i) (c := 19) (d := 0) rfl)
              have hgy617 := up_n egy86 hgy76 (ne_o (i := i) (c := 20) (d := 21) rfl)
              have hgy618 := up_n egy569 hgy617 (ne_o (i := i) (c := 20) (d := 0) rfl)
              have hgy619 := up_n egy569 hgy87 (ne_o (i := i) (c := 21) (d := 0) rfl)
              have hgy620 := (hfvy37 (i + 22) (ne_o (i := i) (c := 22) (d := 0) rfl)).trans ha22
              have hgy621 := (hfvy47 (i + 22) (ne_o (i := i) (c := 22) (d := 0) rfl)).trans hgy620
              have hgy622 := (hfvy58 (i + 22) (ne_o (i := i) (c := 22) (d := 0) rfl)).trans hgy621
              have hgy623 := up_n egy65 hgy622 (ne_o (i := i) (c := 22) (d := 19) rfl)
              have hgy624 := up_n egy75 hgy623 (ne_o (i := i) (c := 22) (d := 20) rfl)
              have hgy625 := up_n egy86 hgy624 (ne_o (i := i) (c := 22) (d := 21) rfl)
              have hgy626 := up_n egy569 hgy625 (ne_o (i := i) (c := 22) (d := 0) rfl)
              have hgy627 := (hfvy37 (i + 23) (ne_o (i := i) (c := 23) (d := 0) rfl)).trans ha23
              have hgy628 := (hfvy47 (i + 23) (ne_o (i := i) (c := 23) (d := 0) rfl)).trans hgy627
              have hgy629 := (hfvy58 (i + 23) (ne_o (i := i) (c := 23) (d := 0) rfl)).trans hgy628
              have hgy630 := up_n egy65 hgy629 (ne_o (i := i) (c := 23) (d := 19) rfl)
              have hgy631 := up_n egy75 hgy630 (ne_o (i := i) (c := 23) (d := 20) rfl)
              have hgy632 := up_n egy86 hgy631 (ne_o (i := i) (c := 23) (d := 21) rfl)
              have hgy633 := up_n egy569 hgy632 (ne_o (i := i) (c := 23) (d := 0) rfl)
              have htxy634 : okTx cs gy568 i (uZ Fvy58 48 ((F 48) + 1)) := ⟨_, _, _, _, _, _, _, _, ⟨hgy599, hgy606, hgy613, hgy616, hgy618, hgy619, hgy626, hgy633⟩, ⟨⟨by omega, by omega, by omega⟩, hop1, hmn1, haky584, haky587, htb1, hlay592⟩⟩
              exact z_vret C hr hlk dX10_hour1_207 (by decide) (by decide) ⟨rfl, rfl, rfl, ⟨_, hgy570, hrdy579, by omega, by omega, hFy571, htxy634⟩, fun j j1 j2 => by rw [egy569, va_up_ne _ _ (by omega)]; rw [egy86, va_up_ne _ _ (by omega)]; rw [egy75, va_up_ne _ _ (by omega)]; rw [egy65, va_up_ne _ _ (by omega)]; rw [hfvy58 _ (by omega)]; rw [hfvy47 _ (by omega)]; rw [hfvy37 _ (by omega)]⟩
            · refine z_aload_n C 2 dX10_hour1_147 rfl ?_
              refine z_get (v := .ref (ad (i + 20))) C (by omega) hay1 hgy90 rfl inA_X10 43 (by decide) q_1502 rfl rfl dX10_hour1_148 ?_
              refine z_aload_n C 2 dX10_hour1_151 rfl ?_
              refine z_get (v := .int (zI (F 48))) C (by omega) hay1 hgy90 rfl inA_X10 48 (by decide) q_1507 rfl (fv (F := Fvy58) (f := 48) ((hFvy58 48 (by decide) (by decide) (by decide) (by decide) (by decide) (by decide) (by decide)).trans ((hFvy47 48 (by decide) (by decide) (by decide) (by decide) (by decide)).trans (hFvy37 48 (by decide) (by decide))))) dX10_hour1_152 ?_
              refine z_aload_n C 2 dX10_hour1_155 rfl ?_
              refine z_get (v := .int (zI (Fvy58 37))) C (by omega) hay1 hgy90 rfl inA_X10 37 (by decide) q_1496 rfl (fv (F := Fvy58) (f := 37) rfl) dX10_hour1_156 ?_
              refine z_iconst (z := 3) C dX10_hour1_159 rfl ?_
              refine z_isub C dX10_hour1_160 ?_
              refine z_iconst (z := 1) C dX10_hour1_161 rfl ?_
              refine z_iadd C dX10_hour1_162 ?_
              have hgy635 := up_n egy86 hgy76 (ne_o (i := i) (c := 20) (d := 21) rfl)
              refine z_iast C (by omega) hay7 hgy635 ((F 48).toNat) (by omega) (by omega) (by decide) dX10_hour1_163 (fun gy636 egy637 => ?_)
              have hgy638 := up_s egy637
              obtain ⟨ry639, hvy640⟩ : ∃ rZ9 : Nat → Int, rZ9 = uZ ry77 ((F 48).toNat) (((Fvy58 37) - 3) + 1) := ⟨_, rfl⟩
              rw [← hvy640] at hgy638
              refine z_aload_n C 2 dX10_hour1_164 rfl ?_
              have hgy641 := up_n egy637 hgy90 (ne_o (i := i) (c := 0) (d := 20) rfl)
              have hey642 : Fvy58 32 = Fvy58 32 := rfl
              have hey643 : Fvy58 33 = Fvy58 33 := rfl
              have hey644 : Fvy58 34 = F 34 := ((hFvy58 34 (by decide) (by decide) (by decide) (by decide) (by decide) (by decide) (by decide)).trans ((hFvy47 34 (by decide) (by decide) (by decide) (by decide) (by decide)).trans (hFvy37 34 (by decide) (by decide))))
              have hey645 : Fvy58 35 = Fvy58 35 := rfl
              have hey646 : Fvy58 36 = Fvy58 36 := rfl
              have hey647 : Fvy58 37 = Fvy58 37 := rfl
              have hey648 : Fvy58 38 = 0 := hxvy58
              have hrdy649 : RD Fvy58 := by unfold RD; omega
              have hgy650 := (hfvy58 (i + 13) (ne_o (i := i) (c := 13) (d := 0) rfl)).trans hgy57
              have hgy651 := up_n egy65 hgy650 (ne_o (i := i) (c := 13) (d := 19) rfl)
              have hgy652 := up_n egy75 hgy651 (ne_o (i := i) (c := 13) (d := 20) rfl)
              have hgy653 := up_n egy86 hgy652 (ne_o (i := i) (c := 13) (d := 21) rfl)
              have hgy654 := up_n egy637 hgy653 (ne_o (i := i) (c := 13) (d := 20) rfl)
              refine z_cV (As := []) (rest := []) (ci := 12) C (c_X10_go l D A cs tt N ad _ i hN _ hgy641 _ hgy654 htp hrdy649) (by omega) hay1 hgy641 rfl rfl mv_yX10_go q_1652 hd_yX10_go (by decide) (Nat.le_of_ble_eq_true rfl) (by decide) dX10_hour1_165 rfl (kV0 fun gvy655 hvy655 => ?_)
              obtain ⟨⟨Fvy655, hcvy655, hdvy655, hlvy655, hsvy655, hFvy655⟩, hfvy655⟩ := hvy655
              have h32vy655 : Fvy58 32 = Fvy58 32 := rfl
              have h34vy655 : Fvy655 34 = F 34 := (hFvy655 34 (by decide) (by decide) (by decide) (by decide) (by decide)).trans (((hFvy58 34 (by decide) (by decide) (by decide) (by decide) (by decide) (by decide) (by decide)).trans ((hFvy47 34 (by decide) (by decide) (by decide) (by decide) (by decide)).trans (hFvy37 34 (by decide) (by decide)))))
              obtain ⟨d32vy655, d33vy655, d35vy655, d36vy655, d2vy655, d37vy655, d38vy655⟩ := id hdvy655
              have h38vy655 : Fvy655 38 = 0 := ((hFvy655 38 (by decide) (by decide) (by decide) (by decide) (by decide)).trans hxvy58)
              refine z_aload_n C 2 dX10_hour1_168 rfl ?_
              refine z_get (v := .ref (ad (i + 20))) C (by omega) hay1 hcvy655 rfl inA_X10 43 (by decide) q_1502 rfl rfl dX10_hour1_169 ?_
              refine z_aload_n C 2 dX10_hour1_172 rfl ?_
              refine z_get (v := .int (zI (F 48))) C (by omega) hay1 hcvy655 rfl inA_X10 48 (by decide) q_1507 rfl (fv (F := Fvy655) (f := 48) ((hFvy655 48 (by decide) (by decide) (by decide) (by decide) (by decide)).trans ((hFvy58 48 (by decide) (by decide) (by decide) (by decide) (by decide) (by decide) (by decide)).trans ((hFvy47 48 (by decide) (by decide) (by decide) (by decide) (by decide)).trans (hFvy37 48 (by decide) (by decide)))))) dX10_hour1_173 ?_
              have hgy656 := (hfvy655 (i + 20) (ne_o (i := i) (c := 20) (d := 0) rfl)).trans hgy638
              refine z_iald C (by omega) hay7 hgy656 ((F 48).toNat) (by omega) (by omega) (by decide) dX10_hour1_176 ?_
              rw [show ry639 ((F 48).toNat) = ((Fvy58 37) - 3) + 1 from (congrFun hvy640 _).trans (uZ_s _ _ _)]
              refine z_iconst (z := 3) C dX10_hour1_177 rfl ?_
              obtain ⟨xy657, exy658, hxy659⟩ := zI_of (zI (((Fvy58 37) - 3) + 1))
              rw [exy658]
              refine z_icmp_ge (tgt := 197) C dX10_hour1_178 (by decide) (by omega) (by omega) (fun hby660 => ?_) (fun hby660 => ?_)
              · refine z_aload_n C 2 dX10_hour1_197 rfl ?_
                refine z_dup C dX10_hour1_198 rfl ?_
                refine z_get (v := .int (zI (F 48))) C (by omega) hay1 hcvy655 rfl inA_X10 48 (by decide) q_1507 rfl (fv (F := Fvy655) (f := 48) ((hFvy655 48 (by decide) (by decide) (by decide) (by decide) (by decide)).trans ((hFvy58 48 (by decide) (by decide) (by decide) (by decide) (by decide) (by decide) (by decide)).trans ((hFvy47 48 (by decide) (by decide) (by decide) (by decide) (by decide)).trans (hFvy37 48 (by decide) (by decide)))))) dX10_hour1_199 ?_
                refine z_iconst (z := 1) C dX10_hour1_202 rfl ?_
                refine z_iadd C dX10_hour1_203 ?_
                refine z_put (fs' := mF ad (i) (uZ Fvy655 48 ((F 48) + 1))) C (by omega) hay1 hcvy655 tyX10 tyX10_ok nmX10 rfl inA_X10 48 (by decide) q_1507 rfl rfl rfl rfl (Nat.le_of_ble_eq_true rfl) rfl dX10_hour1_204 (fun gy661 egy662 => ?_)
                have hgy663 := up_s egy662
                have hFy664 : ∀ f, f ≠ 24 → f ≠ 32 → f ≠ 33 → f ≠ 35 → f ≠ 36 → f ≠ 37 → f ≠ 38 → f ≠ 47 → f ≠ 48 → f ≠ 49 → (uZ Fvy655 48 ((F 48) + 1)) f = F f := fun f n24 n32 n33 n35 n36 n37 n38 n47 n48 n49 => ((uZ_n _ _ n48).trans ((hFvy655 f n32 n33 n35 n36 n37).trans ((hFvy58 f n24 n32 n33 n35 n36 n37 n38).trans ((hFvy47 f n32 n33 n35 n36 n37).trans (hFvy37 f n24 n38)))))
                have hey665 : (uZ Fvy655 48 ((F 48) + 1)) 32 = Fvy655 32 := (fn rfl (by decide))
                have hey666 : (uZ Fvy655 48 ((F 48) + 1)) 33 = Fvy655 33 := (fn rfl (by decide))
                have hey667 : (uZ Fvy655 48 ((F 48) + 1)) 34 = F 34 := (fn ((hFvy655 34 (by decide) (by decide) (by decide) (by decide) (by decide)).trans ((hFvy58 34 (by decide) (by decide) (by decide) (by decide) (by decide) (by decide) (by decide)).trans ((hFvy47 34 (by decide) (by decide) (by decide) (by decide) (by decide)).trans (hFvy37 34 (by decide) (by decide))))) (by decide))
                have hey668 : (uZ Fvy655 48 ((F 48) + 1)) 35 = Fvy655 35 := (fn rfl (by decide))
                have hey669 : (uZ Fvy655 48 ((F 48) + 1)) 36 = Fvy655 36 := (fn rfl (by decide))
                have hey670 : (uZ Fvy655 48 ((F 48) + 1)) 37 = Fvy655 37 := (fn rfl (by decide))
                have hey671 : (uZ Fvy655 48 ((F 48) + 1)) 38 = 0 := (fn ((hFvy655 38 (by decide) (by decide) (by decide) (by decide) (by decide)).trans hxvy58) (by decide))
                have hrdy672 : RD (uZ Fvy655 48 ((F 48) + 1)) := by unfold RD; omega
                have hey673 : (uZ Fvy655 48 ((F 48) + 1)) 32 = Fvy655 32 := (fn rfl (by decide))
                have hey674 : (uZ Fvy655 48 ((F 48) + 1)) 47 = F 47 := (fn ((hFvy655 47 (by decide) (by decide) (by decide) (by decide) (by decide)).trans ((hFvy58 47 (by decide) (by decide) (by decide) (by decide) (by decide) (by decide) (by decide)).trans ((hFvy47 47 (by decide) (by decide) (by decide) (by decide) (by decide)).trans (hFvy37 47 (by decide) (by decide))))) (by decide))
                have hey675 : (uZ Fvy655 48 ((F 48) + 1)) 48 = (F 48) + 1 := (uZ_s _ _ _)
                have hey676 : (uZ Fvy655 48 ((F 48) + 1)) 49 = F 49 := (fn ((hFvy655 49 (by decide) (by decide) (by decide) (by decide) (by decide)).trans ((hFvy58 49 (by decide) (by decide) (by decide) (by decide) (by decide) (by decide) (by decide)).trans ((hFvy47 49 (by decide) (by decide) (by decide) (by decide) (by decide)).trans (hFvy37 49 (by decide) (by decide))))) (by decide))
                have hfry678 : ∀ j, j ≠ (F 48).toNat → ry67 j = ai1 j := fun j n0 => (congrFun hvy68 _).trans ((uZ_n _ _ n0).trans (rfl))
                have hwy679 : ry67 ((F 48).toNat) = vy58 := (congrFun hvy68 _).trans (uZ_s _ _ _)
                have haky677 : ∀ k, k < 24 → -300 ≤ ry67 k ∧ ry67 k ≤ 100 := by
                  intro k hk
                  by_cases e : k = (F 48).toNat
                  · subst e; have hk0 := hai1 ((F 48).toNat) (by omega); omega
                  · have hk0 := hai1 k hk; rw [hfry678 k e]; exact hk0
                have hfry681 : ∀ j, j ≠ (F 48).toNat → ry639 j = fa1 j := fun j n0 => (congrFun hvy640 _).trans ((uZ_n _ _ n0).trans ((congrFun hvy78 _).trans ((uZ_n _ _ n0).trans (rfl))))
                have hfry682 : ∀ j, j ≠ (F 48).toNat → ry88 j = mu1 j := fun j n0 => (congrFun hvy89 _).trans ((uZ_n _ _ n0).trans (rfl))
                have hwy683 : ry639 ((F 48).toNat) = ((Fvy58 37) - 3) + 1 := (congrFun hvy640 _).trans (uZ_s _ _ _)
                have hwy684 : ry88 ((F 48).toNat) = 0 := (congrFun hvy89 _).trans (uZ_s _ _ _)
                have haky680 : ∀ k, k < 24 → (0 ≤ ry639 k ∧ ry639 k ≤ 3) ∧ (0 ≤ ry88 k ∧ ry88 k ≤ 50) ∧ (ry639 k = 1 ∨ ry639 k = 2 → 1 ≤ ry88 k) := by
                  intro k hk
                  by_cases e : k = (F 48).toNat
                  · subst e; have hk0 := hfa1 ((F 48).toNat) (by omega); omega
                  · have hk0 := hfa1 k hk; rw [hfry681 k e]; rw [hfry682 k e]; exact hk0
                have hlay685 : ∀ s l : Nat, (s : Int) < (uZ Fvy655 48 ((F 48) + 1)) 47 → (l : Int) < mn1 s → lyT ly1 (84 * s + 7 * l) := fun s l a1 a2 => hly1 s l (by omega) a2
                have hgy686 := (hfvy37 (i + 16) (ne_o (i := i) (c := 16) (d := 0) rfl)).trans ha16
                have hgy687 := (hfvy47 (i + 16) (ne_o (i := i) (c := 16) (d := 0) rfl)).trans hgy686
                have hgy688 := (hfvy58 (i + 16) (ne_o (i := i) (c := 16) (d := 0) rfl)).trans hgy687
                have hgy689 := up_n egy65 hgy688 (ne_o (i := i) (c := 16) (d := 19) rfl)
                have hgy690 := up_n egy75 hgy689 (ne_o (i := i) (c := 16) (d := 20) rfl)
                have hgy691 := up_n egy86 hgy690 (ne_o (i := i) (c := 16) (d := 21) rfl)
                have hgy692 := up_n egy637 hgy691 (ne_o (i := i) (c := 16) (d := 20) rfl)
                have hgy693 := (hfvy655 (i + 16) (ne_o (i := i) (c := 16) (d := 0) rfl)).trans hgy692
                have hgy694 := up_n egy662 hgy693 (ne_o (i := i) (c := 16) (d := 0) rfl)
                have hgy695 := (hfvy37 (i + 17) (ne_o (i := i) (c := 17) (d := 0) rfl)).trans ha17
                have hgy696 := (hfvy47 (i + 17) (ne_o (i := i) (c := 17) (d := 0) rfl)).trans hgy695
                have hgy697 := (hfvy58 (i + 17) (ne_o (i := i) (c := 17) (d := 0) rfl)).trans hgy696
                have hgy698 := up_n egy65 hgy697 (ne_o (i := i) (c := 17) (d := 19) rfl)
                have hgy699 := up_n egy75 hgy698 (ne_o (i := i) (c := 17) (d := 20) rfl)
                have hgy700 := up_n egy86 hgy699 (ne_o (i := i) (c := 17) (d := 21) rfl)
                have hgy701 := up_n egy637 hgy700 (ne_o (i := i) (c := 17) (d := 20) rfl)
                have hgy702 := (hfvy655 (i + 17) (ne_o (i := i) (c := 17) (d := 0) rfl)).trans hgy701
                have hgy703 := up_n egy662 hgy702 (ne_o (i := i) (c := 17) (d := 0) rfl)
                have hgy704 := (hfvy37 (i + 18) (ne_o (i := i) (c := 18) (d := 0) rfl)).trans ha18
                have hgy705 := (hfvy47 (i + 18) (ne_o (i := i) (c := 18) (d := 0) rfl)).trans hgy704
                have hgy706 := (hfvy58 (i + 18) (ne_o (i := i) (c := 18) (d := 0) rfl)).trans hgy705
                have hgy707 := up_n egy65 hgy706 (ne_o (i := i) (c := 18) (d := 19) rfl)
                have hgy708 := up_n egy75 hgy707 (ne_o (i := i) (c := 18) (d := 20) rfl)
                have hgy709 := up_n egy86 hgy708 (ne_o (i := i) (c := 18) (d := 21) rfl)
                have hgy710 := up_n egy637 hgy709 (ne_o (i := i) (c := 18) (d := 20) rfl)
                have hgy711 := (hfvy655 (i + 18) (ne_o (i := i) (c := 18) (d := 0) rfl)).trans hgy710
                have hgy712 := up_n egy662 hgy711 (ne_o (i := i) (c := 18) (d := 0) rfl)
                have hgy713 := up_n egy75 hgy66 (ne_o (i := i) (c := 19) (d := 20) rfl)
                have hgy714 := up_n egy86 hgy713 (ne_o (i := i) (c := 19) (d := 21) rfl)
                have hgy715 := up_n egy637 hgy714 (ne_o (i := i) (c := 19) (d := 20) rfl)
                have hgy716 := (hfvy655 (i + 19) (ne_o (i := i) (c := 19) (d := 0) rfl)).trans hgy715
                have hgy717 := up_n egy662 hgy716 (ne_o (i := i) (c := 19) (d := 0) rfl)
                have hgy718 := up_n egy662 hgy656 (ne_o (i := i) (c := 20) (d := 0) rfl)
                have hgy719 := up_n egy637 hgy87 (ne_o (i := i) (c := 21) (d := 20) rfl)
                have hgy720 := (hfvy655 (i + 21) (ne_o (i := i) (c := 21) (d := 0) rfl)).trans hgy719
                have hgy721 := up_n egy662 hgy720 (ne_o (i := i) (c := 21) (d := 0) rfl)
                have hgy722 := (hfvy37 (i + 22) (ne_o (i := i) (c := 22) (d := 0) rfl)).trans ha22
                have hgy723 := (hfvy47 (i + 22) (ne_o (i := i) (c := 22) (d := 0) rfl)).trans hgy722
                have hgy724 := (hfvy58 (i + 22) (ne_o (i := i) (c := 22) (d := 0) rfl)).trans hgy723
                have hgy725 := up_n egy65 hgy724 (ne_o (i := i) (c := 22) (d := 19) rfl)
                have hgy726 := up_n egy75 hgy725 (ne_o (i := i) (c := 22) (d := 20) rfl)
                have hgy727 := up_n egy86 hgy726 (ne_o (i := i) (c := 22) (d := 21) rfl)
                have hgy728 := up_n egy637 hgy727 (ne_o (i := i) (c := 22) (d := 20) rfl)
                have hgy729 := (hfvy655 (i + 22) (ne_o (i := i) (c := 22) (d := 0) rfl)).trans hgy728
                have hgy730 := up_n egy662 hgy729 (ne_o (i := i) (c := 22) (d := 0) rfl)
                have hgy731 := (hfvy37 (i + 23) (ne_o (i := i) (c := 23) (d := 0) rfl)).trans ha23
                have hgy732 := (hfvy47 (i + 23) (ne_o (i := i) (c := 23) (d := 0) rfl)).trans hgy731
                have hgy733 := (hfvy58 (i + 23) (ne_o (i := i) (c := 23) (d := 0) rfl)).trans hgy732
                have hgy734 := up_n egy65 hgy733 (ne_o (i := i) (c := 23) (d := 19) rfl)
                have hgy735 := up_n egy75 hgy734 (ne_o (i := i) (c := 23) (d := 20) rfl)
                have hgy736 := up_n egy86 hgy735 (ne_o (i := i) (c := 23) (d := 21) rfl)
                have hgy737 := up_n egy637 hgy736 (ne_o (i := i) (c := 23) (d := 20) rfl)
                have hgy738 := (hfvy655 (i + 23) (ne_o (i := i) (c := 23) (d := 0) rfl)).trans hgy737
                have hgy739 := up_n egy662 hgy738 (ne_o (i := i) (c := 23) (d := 0) rfl)
                have htxy740 : okTx cs gy661 i (uZ Fvy655 48 ((F 48) + 1)) := ⟨_, _, _, _, _, _, _, _, ⟨hgy694, hgy703, hgy712, hgy717, hgy718, hgy721, hgy730, hgy739⟩, ⟨⟨by omega, by omega, by omega⟩, hop1, hmn1, haky677, haky680, htb1, hlay685⟩⟩
                exact z_vret C hr hlk dX10_hour1_207 (by decide) (by decide) ⟨rfl, rfl, rfl, ⟨_, hgy663, hrdy672, by omega, by omega, hFy664, htxy740⟩, fun j j1 j2 => by rw [egy662, va_up_ne _ _ (by omega)]; rw [hfvy655 _ (by omega)]; rw [egy637, va_up_ne _ _ (by omega)]; rw [egy86, va_up_ne _ _ (by omega)]; rw [egy75, va_up_ne _ _ (by omega)]; rw [egy65, va_up_ne _ _ (by omega)]; rw [hfvy58 _ (by omega)]; rw [hfvy47 _ (by omega)]; rw [hfvy37 _ (by omega)]⟩
              · refine z_aload_n C 2 dX10_hour1_181 rfl ?_
                refine z_get (v := .ref (ad (i + 21))) C (by omega) hay1 hcvy655 rfl inA_X10 44 (by decide) q_1503 rfl rfl dX10_hour1_182 ?_
                refine z_aload_n C 2 dX10_hour1_185 rfl ?_
                refine z_get (v := .int (zI (F 48))) C (by omega) hay1 hcvy655 rfl inA_X10 48 (by decide) q_1507 rfl (fv (F := Fvy655) (f := 48) ((hFvy655 48 (by decide) (by decide) (by decide) (by decide) (by decide)).trans ((hFvy58 48 (by decide) (by decide) (by decide) (by decide) (by decide) (by decide) (by decide)).trans ((hFvy47 48 (by decide) (by decide) (by decide) (by decide) (by decide)).trans (hFvy37 48 (by decide) (by decide)))))) dX10_hour1_186 ?_
                refine z_aload_n C 2 dX10_hour1_189 rfl ?_
                refine z_iconst (z := 1) C dX10_hour1_190 rfl ?_
                refine z_bipush (z := 50) C dX10_hour1_191 (by decide) ?_
                have hey741 : Fvy655 32 = Fvy655 32 := rfl
                have hey742 : Fvy655 33 = Fvy655 33 := rfl
                have hey743 : Fvy655 34 = F 34 := ((hFvy655 34 (by decide) (by decide) (by decide) (by decide) (by decide)).trans ((hFvy58 34 (by decide) (by decide) (by decide) (by decide) (by decide) (by decide) (by decide)).trans ((hFvy47 34 (by decide) (by decide) (by decide) (by decide) (by decide)).trans (hFvy37 34 (by decide) (by decide)))))
                have hey744 : Fvy655 35 = Fvy655 35 := rfl
                have hey745 : Fvy655 36 = Fvy655 36 := rfl
                have hey746 : Fvy655 37 = Fvy655 37 := rfl
                have hey747 : Fvy655 38 = 0 := ((hFvy655 38 (by decide) (by decide) (by decide) (by decide) (by decide)).trans hxvy58)
                have hrdy748 : RD Fvy655 := by unfold RD; omega
                have hgy749 := (hfvy655 (i + 13) (ne_o (i := i) (c := 13) (d := 0) rfl)).trans hgy654
                have hey751 : Fvy655 38 = 0 := ((hFvy655 38 (by decide) (by decide) (by decide) (by decide) (by decide)).trans hxvy58)
                have hey752 : Fvy655 35 = Fvy655 35 := rfl
                refine z_cV (As := [.int (zI (1)), .int (zI (50))]) (rest := [.int (zI (F 48)), .ref (ad (i + 21))]) (ci := 12) C (c_X10_number l D A cs tt N ad _ i hN _ hcvy655 _ hgy749 htp hrdy748 (1) (by omega) (50) (by omega)) (by omega) hay1 hcvy655 rfl rfl mv_yX10_number q_1682 hd_yX10_number (by decide) (Nat.le_of_ble_eq_true rfl) (by decide) dX10_hour1_193 rfl (kI0 fun vy750 gvy750 hvy750 => ?_)
                obtain ⟨hrvy750, ⟨Fvy750, hcvy750, hdvy750, hlvy750, hsvy750, hFvy750⟩, hfvy750⟩ := hvy750
                have h32vy750 : Fvy655 32 = Fvy655 32 := rfl
                have h34vy750 : Fvy750 34 = F 34 := (hFvy750 34 (by decide) (by decide) (by decide) (by decide) (by decide) (by decide) (by decide)).trans (((hFvy655 34 (by decide) (by decide) (by decide) (by decide) (by decide)).trans ((hFvy58 34 (by decide) (by decide) (by decide) (by decide) (by decide) (by decide) (by decide)).trans ((hFvy47 34 (by decide) (by decide) (by decide) (by decide) (by decide)).trans (hFvy37 34 (by decide) (by decide))))))
                obtain ⟨d32vy750, d33vy750, d35vy750, d36vy750, d2vy750, d37vy750, d38vy750⟩ := id hdvy750
                have hgy753 := up_n egy637 hgy87 (ne_o (i := i) (c := 21) (d := 20) rfl)
                have hgy754 := (hfvy655 (i + 21) (ne_o (i := i) (c := 21) (d := 0) rfl)).trans hgy753
                have hgy755 := (hfvy750 (i + 21) (ne_o (i := i) (c := 21) (d := 0) rfl)).trans hgy754
                refine z_iast C (by omega) hay8 hgy755 ((F 48).toNat) (by omega) (by omega) (by decide) dX10_hour1_196 (fun gy756 egy757 => ?_)
                have hgy758 := up_s egy757
                obtain ⟨ry759, hvy760⟩ : ∃ rZ9 : Nat → Int, rZ9 = uZ ry88 ((F 48).toNat) (vy750) := ⟨_, rfl⟩
                rw [← hvy760] at hgy758
                refine z_aload_n C 2 dX10_hour1_197 rfl ?_
                refine z_dup C dX10_hour1_198 rfl ?_
                have hgy761 := up_n egy757 hcvy750 (ne_o (i := i) (c := 0) (d := 21) rfl)
                refine z_get (v := .int (zI (F 48))) C (by omega) hay1 hgy761 rfl inA_X10 48 (by decide) q_1507 rfl (fv (F := Fvy750) (f := 48) ((hFvy750 48 (by decide) (by decide) (by decide) (by decide) (by decide) (by decide) (by decide)).trans ((hFvy655 48 (by decide) (by decide) (by decide) (by decide) (by decide)).trans ((hFvy58 48 (by decide) (by decide) (by decide) (by decide) (by decide) (by decide) (by decide)).trans ((hFvy47 48 (by decide) (by decide) (by decide) (by decide) (by decide)).trans (hFvy37 48 (by decide) (by decide))))))) dX10_hour1_199 ?_
                refine z_iconst (z := 1) C dX10_hour1_202 rfl ?_
                refine z_iadd C dX10_hour1_203 ?_
                refine z_put (fs' := mF ad (i) (uZ Fvy750 48 ((F 48) + 1))) C (by omega) hay1 hgy761 tyX10 tyX10_ok nmX10 rfl inA_X10 48 (by decide) q_1507 rfl rfl rfl rfl (Nat.le_of_ble_eq_true rfl) rfl dX10_hour1_204 (fun gy762 egy763 => ?_)
                have hgy764 := up_s egy763
                have hFy765 : ∀ f, f ≠ 24 → f ≠ 32 → f ≠ 33 → f ≠ 35 → f ≠ 36 → f ≠ 37 → f ≠ 38 → f ≠ 47 → f ≠ 48 → f ≠ 49 → (uZ Fvy750 48 ((F 48) + 1)) f = F f := fun f n24 n32 n33 n35 n36 n37 n38 n47 n48 n49 => ((uZ_n _ _ n48).trans ((hFvy750 f n24 n32 n33 n35 n36 n37 n38).trans ((hFvy655 f n32 n33 n35 n36 n37).trans ((hFvy58 f n24 n32 n33 n35 n36 n37 n38).trans ((hFvy47 f n32 n33 n35 n36 n37).trans (hFvy37 f n24 n38))))))
                have hey766 : (uZ Fvy750 48 ((F 48) + 1)) 32 = Fvy750 32 := (fn rfl (by decide))
                have hey767 : (uZ Fvy750 48 ((F 48) + 1)) 33 = Fvy750 33 := (fn rfl (by decide))
                have hey768 : (uZ Fvy750 48 ((F 48) + 1)) 34 = F 34 := (fn ((hFvy750 34 (by decide) (by decide) (by decide) (by decide) (by decide) (by decide) (by decide)).trans ((hFvy655 34 (by decide) (by decide) (by decide) (by decide) (by decide)).trans ((hFvy58 34 (by decide) (by decide) (by decide) (by decide) (by decide) (by decide) (by decide)).trans ((hFvy47 34 (by decide) (by decide) (by decide) (by decide) (by decide)).trans (hFvy37 34 (by decide) (by decide)))))) (by decide))
                have hey769 : (uZ Fvy750 48 ((F 48) + 1)) 35 = Fvy750 35 := (fn rfl (by decide))
                have hey770 : (uZ Fvy750 48 ((F 48) + 1)) 36 = Fvy750 36 := (fn rfl (by decide))
                have hey771 : (uZ Fvy750 48 ((F 48) + 1)) 37 = Fvy750 37 := (fn rfl (by decide))
                have hey772 : (uZ Fvy750 48 ((F 48) + 1)) 38 = Fvy750 38 := (fn rfl (by decide))
                have hrdy773 : RD (uZ Fvy750 48 ((F 48) + 1)) := by unfold RD; omega
                have hey774 : (uZ Fvy750 48 ((F 48) + 1)) 32 = Fvy750 32 := (fn rfl (by decide))
                have hey775 : (uZ Fvy750 48 ((F 48) + 1)) 47 = F 47 := (fn ((hFvy750 47 (by decide) (by decide) (by decide) (by decide) (by decide) (by decide) (by decide)).trans ((hFvy655 47 (by decide) (by decide) (by decide) (by decide) (by decide)).trans ((hFvy58 47 (by decide) (by decide) (by decide) (by decide) (by decide) (by decide) (by decide)).trans ((hFvy47 47 (by decide) (by decide) (by decide) (by decide) (by decide)).trans (hFvy37 47 (by decide) (by decide)))))) (by decide))
                have hey776 : (uZ Fvy750 48 ((F 48) + 1)) 48 = (F 48) + 1 := (uZ_s _ _ _)
                have hey777 : (uZ Fvy750 48 ((F 48) + 1)) 49 = F 49 := (fn ((hFvy750 49 (by decide) (by decide) (by decide) (by decide) (by decide) (by decide) (by decide)).trans ((hFvy655 49 (by decide) (by decide) (by decide) (by decide) (by decide)).trans ((hFvy58 49 (by decide) (by decide) (by decide) (by decide) (by decide) (by decide) (by decide)).trans ((hFvy47 49 (by decide) (by decide) (by decide) (by decide) (by decide)).trans (hFvy37 49 (by decide) (by decide)))))) (by decide))
                have hfry779 : ∀ j, j ≠ (F 48).toNat → ry67 j = ai1 j := fun j n0 => (congrFun hvy68 _).trans ((uZ_n _ _ n0).trans (rfl))
                have hwy780 : ry67 ((F 48).toNat) = vy58 := (congrFun hvy68 _).trans (uZ_s _ _ _)
                have haky778 : ∀ k, k < 24 → -300 ≤ ry67 k ∧ ry67 k ≤ 100 := by
                  intro k hk
                  by_cases e : k = (F 48).toNat
                  · subst e; have hk0 := hai1 ((F 48).toNat) (by omega); omega
                  · have hk0 := hai1 k hk; rw [hfry779 k e]; exact hk0
                have hfry782 : ∀ j, j ≠ (F 48).toNat → ry639 j = fa1 j := fun j n0 => (congrFun hvy640 _).trans ((uZ_n _ _ n0).trans ((congrFun hvy78 _).trans ((uZ_n _ _ n0).trans (rfl))))
                have hfry783 : ∀ j, j ≠ (F 48).toNat → ry759 j = mu1 j := fun j n0 => (congrFun hvy760 _).trans ((uZ_n _ _ n0).trans ((congrFun hvy89 _).trans ((uZ_n _ _ n0).trans (rfl))))
                have hwy784 : ry639 ((F 48).toNat) = ((Fvy58 37) - 3) + 1 := (congrFun hvy640 _).trans (uZ_s _ _ _)
                have hwy785 : ry759 ((F 48).toNat) = vy750 := (congrFun hvy760 _).trans (uZ_s _ _ _)
                have haky781 : ∀ k, k < 24 → (0 ≤ ry639 k ∧ ry639 k ≤ 3) ∧ (0 ≤ ry759 k ∧ ry759 k ≤ 50) ∧ (ry639 k = 1 ∨ ry639 k = 2 → 1 ≤ ry759 k) := by
                  intro k hk
                  by_cases e : k = (F 48).toNat
                  · subst e; have hk0 := hfa1 ((F 48).toNat) (by omega); omega
                  · have hk0 := hfa1 k hk; rw [hfry782 k e]; rw [hfry783 k e]; exact hk0
                have hlay786 : ∀ s l : Nat, (s : Int) < (uZ Fvy750 48 ((F 48) + 1)) 47 → (l : Int) < mn1 s → lyT ly1 (84 * s + 7 * l) := fun s l a1 a2 => hly1 s l (by omega) a2
                have hgy787 := (hfvy37 (i + 16) (ne_o (i := i) (c := 16) (d := 0) rfl)).trans ha16
                have hgy788 := (hfvy47 (i + 16) (ne_o (i := i) (c := 16) (d := 0) rfl)).trans hgy787
                have hgy789 := (hfvy58 (i + 16) (ne_o (i := i) (c := 16) (d := 0) rfl)).trans hgy788
                have hgy790 := up_n egy65 hgy789 (ne_o (i := i) (c := 16) (d := 19) rfl)
                have hgy791 := up_n egy75 hgy790 (ne_o (i := i) (c := 16) (d := 20) rfl)
                have hgy792 := up_n egy86 hgy791 (ne_o (i := i) (c := 16) (d := 21) rfl)
                have hgy793 := up_n egy637 hgy792 (ne_o (i := i) (c := 16) (d := 20) rfl)
                have hgy794 := (hfvy655 (i + 16) (ne_o (i := i) (c := 16) (d := 0) rfl)).trans hgy793
                have hgy795 := (hfvy750 (i + 16) (ne_o (i := i) (c := 16) (d := 0) rfl)).trans hgy794
                have hgy796 := up_n egy757 hgy795 (ne_o (i := i) (c := 16) (d := 21) rfl)
                have hgy797 := up_n egy763 hgy796 (ne_o (i := i) (c := 16) (d := 0) rfl)
                have hgy798 := (hfvy37 (i + 17) (ne_o (i := i) (c := 17) (d := 0) rfl)).trans ha17
                have hgy799 := (hfvy47 (i + 17) (ne_o (i := i) (c := 17) (d := 0) rfl)).trans hgy798
                have hgy800 := (hfvy58 (i + 17) (ne_o (i := i) (c := 17) (d := 0) rfl)).trans hgy799
                have hgy801 := up_n egy65 hgy800 (ne_o (i := i) (c := 17) (d := 19) rfl)
                have hgy802 := up_n egy75 hgy801 (ne_o (i := i) (c := 17) (d := 20) rfl)
                have hgy803 := up_n egy86 hgy802 (ne_o (i := i) (c := 17) (d := 21) rfl)
                have hgy804 := up_n egy637 hgy803 (ne_o (i := i) (c := 17) (d := 20) rfl)
                have hgy805 := (hfvy655 (i + 17) (ne_o (i := i) (c := 17) (d := 0) rfl)).trans hgy804
                have hgy806 := (hfvy750 (i + 17) (ne_o (i := i) (c := 17) (d := 0) rfl)).trans hgy805
                have hgy807 := up_n egy757 hgy806 (ne_o (i := i) (c := 17) (d := 21) rfl)
                have hgy808 := up_n egy763 hgy807 (ne_o (i := i) (c := 17) (d := 0) rfl)
                have hgy809 := (hfvy37 (i + 18) (ne_o (i := i) (c := 18) (d := 0) rfl)).trans ha18
                have hgy810 := (hfvy47 (i + 18) (ne_o (i := i) (c := 18) (d := 0) rfl)).trans hgy809
                have hgy811 := (hfvy58 (i + 18) (ne_o (i := i) (c := 18) (d := 0) rfl)).trans hgy810
                have hgy812 := up_n egy65 hgy811 (ne_o (i := i) (c := 18) (d := 19) rfl)
                have hgy813 := up_n egy75 hgy812 (ne_o (i := i) (c := 18) (d := 20) rfl)
                have hgy814 := up_n egy86 hgy813 (ne_o (i := i) (c := 18) (d := 21) rfl)
                have hgy815 := up_n egy637 hgy814 (ne_o (i := i) (c := 18) (d := 20) rfl)
                have hgy816 := (hfvy655 (i + 18) (ne_o (i := i) (c := 18) (d := 0) rfl)).trans hgy815
                have hgy817 := (hfvy750 (i + 18) (ne_o (i := i) (c := 18) (d := 0) rfl)).trans hgy816
                have hgy818 := up_n egy757 hgy817 (ne_o (i := i) (c := 18) (d := 21) rfl)
                have hgy819 := up_n egy763 hgy818 (ne_o (i := i) (c := 18) (d := 0) rfl)
                have hgy820 := up_n egy75 hgy66 (ne_o (i := i) (c := 19) (d := 20) rfl)
                have hgy821 := up_n egy86 hgy820 (ne_o (i := i) (c := 19) (d := 21) rfl)
                have hgy822 := up_n egy637 hgy821 (ne_o (i := i) (c := 19) (d := 20) rfl)
                have hgy823 := (hfvy655 (i + 19) (ne_o (i := i) (c := 19) (d := 0) rfl)).trans hgy822
                have hgy824 := (hfvy750 (i + 19) (ne_o (i := i) (c := 19) (d := 0) rfl)).trans hgy823
                have hgy825 := up_n egy757 hgy824 (ne_o (i := i) (c := 19) (d := 21) rfl)
                have hgy826 := up_n egy763 hgy825 (ne_o (i := i) (c := 19) (d := 0) rfl)
                have hgy827 := (hfvy750 (i + 20) (ne_o (i := i) (c := 20) (d := 0) rfl)).trans hgy656
                have hgy828 := up_n egy757 hgy827 (ne_o (i := i) (c := 20) (d := 21) rfl)
                have hgy829 := up_n egy763 hgy828 (ne_o (i := i) (c := 20) (d := 0) rfl)
                have hgy830 := up_n egy763 hgy758 (ne_o (i := i) (c := 21) (d := 0) rfl)
                have hgy831 := (hfvy37 (i + 22) (ne_o (i := i) (c := 22) (d := 0) rfl)).trans ha22
                have hgy832 := (hfvy47 (i + 22) (ne_o (i := i) (c := 22) (d := 0) rfl)).trans hgy831
                have hgy833 := (hfvy58 (i + 22) (ne_o (i := i) (c := 22) (d := 0) rfl)).trans hgy832
                have hgy834 := up_n egy65 hgy833 (ne_o (i := i) (c := 22) (d := 19) rfl)
                have hgy835 := up_n egy75 hgy834 (ne_o (i := i) (c := 22) (d := 20) rfl)
                have hgy836 := up_n egy86 hgy835 (ne_o (i := i) (c := 22) (d := 21) rfl)
                have hgy837 := up_n egy637 hgy836 (ne_o (i := i) (c := 22) (d := 20) rfl)
                have hgy838 := (hfvy655 (i + 22) (ne_o (i := i) (c := 22) (d := 0) rfl)).trans hgy837
                have hgy839 := (hfvy750 (i + 22) (ne_o (i := i) (c := 22) (d := 0) rfl)).trans hgy838
                have hgy840 := up_n egy757 hgy839 (ne_o (i := i) (c := 22) (d := 21) rfl)
                have hgy841 := up_n egy763 hgy840 (ne_o (i := i) (c := 22) (d := 0) rfl)
                have hgy842 := (hfvy37 (i + 23) (ne_o (i := i) (c := 23) (d := 0) rfl)).trans ha23
                have hgy843 := (hfvy47 (i + 23) (ne_o (i := i) (c := 23) (d := 0) rfl)).trans hgy842
                have hgy844 := (hfvy58 (i + 23) (ne_o (i := i) (c := 23) (d := 0) rfl)).trans hgy843
                have hgy845 := up_n egy65 hgy844 (ne_o (i := i) (c := 23) (d := 19) rfl)
                have hgy846 := up_n egy75 hgy845 (ne_o (i := i) (c := 23) (d := 20) rfl)
                have hgy847 := up_n egy86 hgy846 (ne_o (i := i) (c := 23) (d := 21) rfl)
                have hgy848 := up_n egy637 hgy847 (ne_o (i := i) (c := 23) (d := 20) rfl)
                have hgy849 := (hfvy655 (i + 23) (ne_o (i := i) (c := 23) (d := 0) rfl)).trans hgy848
                have hgy850 := (hfvy750 (i + 23) (ne_o (i := i) (c := 23) (d := 0) rfl)).trans hgy849
                have hgy851 := up_n egy757 hgy850 (ne_o (i := i) (c := 23) (d := 21) rfl)
                have hgy852 := up_n egy763 hgy851 (ne_o (i := i) (c := 23) (d := 0) rfl)
                have htxy853 : okTx cs gy762 i (uZ Fvy750 48 ((F 48) + 1)) := ⟨_, _, _, _, _, _, _, _, ⟨hgy797, hgy808, hgy819, hgy826, hgy829, hgy830, hgy841, hgy852⟩, ⟨⟨by omega, by omega, by omega⟩, hop1, hmn1, haky778, haky781, htb1, hlay786⟩⟩
                exact z_vret C hr hlk dX10_hour1_207 (by decide) (by decide) ⟨rfl, rfl, rfl, ⟨_, hgy764, hrdy773, by omega, by omega, hFy765, htxy853⟩, fun j j1 j2 => by rw [egy763, va_up_ne _ _ (by omega)]; rw [egy757, va_up_ne _ _ (by omega)]; rw [hfvy750 _ (by omega)]; rw [hfvy655 _ (by omega)]; rw [egy637, va_up_ne _ _ (by omega)]; rw [egy86, va_up_ne _ _ (by omega)]; rw [egy75, va_up_ne _ _ (by omega)]; rw [egy65, va_up_ne _ _ (by omega)]; rw [hfvy58 _ (by omega)]; rw [hfvy47 _ (by omega)]; rw [hfvy37 _ (by omega)]⟩
      · refine z_istore_n (lv' := [(2, .int (zI (vy58))), (1, .int (zI (0))), (0, .ref (ad i))]) C dX10_hour1_75 rfl (by decide) rfl ?_
        refine z_aload_n C 2 dX10_hour1_76 rfl ?_
        refine z_get (v := .int (zI (Fvy58 38))) C (by omega) hay1 hcvy58 rfl inA_X10 38 (by decide) q_1497 rfl (fv (F := Fvy58) (f := 38) rfl) dX10_hour1_77 ?_
        refine z_if_eq (tgt := 84) C dX10_hour1_80 (by decide) (by omega) (fun h => absurd h (by omega)) (fun _ => ?_)
        have hFy854 : ∀ f, f ≠ 24 → f ≠ 32 → f ≠ 33 → f ≠ 35 → f ≠ 36 → f ≠ 37 → f ≠ 38 → f ≠ 47 → f ≠ 48 → f ≠ 49 → Fvy58 f = F f := fun f n24 n32 n33 n35 n36 n37 n38 n47 n48 n49 => ((hFvy58 f n24 n32 n33 n35 n36 n37 n38).trans ((hFvy47 f n32 n33 n35 n36 n37).trans (hFvy37 f n24 n38)))
        have hey855 : Fvy58 32 = Fvy58 32 := rfl
        have hey856 : Fvy58 33 = Fvy58 33 := rfl
        have hey857 : Fvy58 34 = F 34 := ((hFvy58 34 (by decide) (by decide) (by decide) (by decide) (by decide) (by decide) (by decide)).trans ((hFvy47 34 (by decide) (by decide) (by decide) (by decide) (by decide)).trans (hFvy37 34 (by decide) (by decide))))
        have hey858 : Fvy58 35 = Fvy58 35 := rfl
        have hey859 : Fvy58 36 = Fvy58 36 := rfl
        have hey860 : Fvy58 37 = Fvy58 37 := rfl
        have hey861 : Fvy58 38 = Fvy58 38 := rfl
        have hrdy862 : RD Fvy58 := by unfold RD; omega
        have hey863 : Fvy58 32 = Fvy58 32 := rfl
        have hey864 : Fvy58 47 = F 47 := ((hFvy58 47 (by decide) (by decide) (by decide) (by decide) (by decide) (by decide) (by decide)).trans ((hFvy47 47 (by decide) (by decide) (by decide) (by decide) (by decide)).trans (hFvy37 47 (by decide) (by decide))))
        have hey865 : Fvy58 48 = F 48 := ((hFvy58 48 (by decide) (by decide) (by decide) (by decide) (by decide) (by decide) (by decide)).trans ((hFvy47 48 (by decide) (by decide) (by decide) (by decide) (by decide)).trans (hFvy37 48 (by decide) (by decide))))
        have hey866 : Fvy58 49 = F 49 := ((hFvy58 49 (by decide) (by decide) (by decide) (by decide) (by decide) (by decide) (by decide)).trans ((hFvy47 49 (by decide) (by decide) (by decide) (by decide) (by decide)).trans (hFvy37 49 (by decide) (by decide))))
        have hlay868 : ∀ s l : Nat, (s : Int) < Fvy58 47 → (l : Int) < mn1 s → lyT ly1 (84 * s + 7 * l) := fun s l a1 a2 => hly1 s l (by omega) a2
        have hgy869 := (hfvy37 (i + 16) (ne_o (i := i) (c := 16) (d := 0) rfl)).trans ha16
        have hgy870 := (hfvy47 (i + 16) (ne_o (i := i) (c := 16) (d := 0) rfl)).trans hgy869
        have hgy871 := (hfvy58 (i + 16) (ne_o (i := i) (c := 16) (d := 0) rfl)).trans hgy870
        have hgy872 := (hfvy37 (i + 17) (ne_o (i := i) (c := 17) (d := 0) rfl)).trans ha17
        have hgy873 := (hfvy47 (i + 17) (ne_o (i := i) (c := 17) (d := 0) rfl)).trans hgy872
        have hgy874 := (hfvy58 (i + 17) (ne_o (i := i) (c := 17) (d := 0) rfl)).trans hgy873
        have hgy875 := (hfvy37 (i + 18) (ne_o (i := i) (c := 18) (d := 0) rfl)).trans ha18
        have hgy876 := (hfvy47 (i + 18) (ne_o (i := i) (c := 18) (d := 0) rfl)).trans hgy875
        have hgy877 := (hfvy58 (i + 18) (ne_o (i := i) (c := 18) (d := 0) rfl)).trans hgy876
        have hgy878 := (hfvy37 (i + 19) (ne_o (i := i) (c := 19) (d := 0) rfl)).trans ha19
        have hgy879 := (hfvy47 (i + 19) (ne_o (i := i) (c := 19) (d := 0) rfl)).trans hgy878
        have hgy880 := (hfvy58 (i + 19) (ne_o (i := i) (c := 19) (d := 0) rfl)).trans hgy879
        have hgy881 := (hfvy37 (i + 20) (ne_o (i := i) (c := 20) (d := 0) rfl)).trans ha20
        have hgy882 := (hfvy47 (i + 20) (ne_o (i := i) (c := 20) (d := 0) rfl)).trans hgy881
        have hgy883 := (hfvy58 (i + 20) (ne_o (i := i) (c := 20) (d := 0) rfl)).trans hgy882
        have hgy884 := (hfvy37 (i + 21) (ne_o (i := i) (c := 21) (d := 0) rfl)).trans ha21
        have hgy885 := (hfvy47 (i + 21) (ne_o (i := i) (c := 21) (d := 0) rfl)).trans hgy884
        have hgy886 := (hfvy58 (i + 21) (ne_o (i := i) (c := 21) (d := 0) rfl)).trans hgy885
        have hgy887 := (hfvy37 (i + 22) (ne_o (i := i) (c := 22) (d := 0) rfl)).trans ha22
        have hgy888 := (hfvy47 (i + 22) (ne_o (i := i) (c := 22) (d := 0) rfl)).trans hgy887
        have hgy889 := (hfvy58 (i + 22) (ne_o (i := i) (c := 22) (d := 0) rfl)).trans hgy888
        have hgy890 := (hfvy37 (i + 23) (ne_o (i := i) (c := 23) (d := 0) rfl)).trans ha23
        have hgy891 := (hfvy47 (i + 23) (ne_o (i := i) (c := 23) (d := 0) rfl)).trans hgy890
        have hgy892 := (hfvy58 (i + 23) (ne_o (i := i) (c := 23) (d := 0) rfl)).trans hgy891
        have htxy893 : okTx cs gvy58 i Fvy58 := ⟨_, _, _, _, _, _, _, _, ⟨hgy871, hgy874, hgy877, hgy880, hgy883, hgy886, hgy889, hgy892⟩, ⟨⟨by omega, by omega, by omega⟩, hop1, hmn1, hai1, hfa1, htb1, hlay868⟩⟩
        exact z_vret C hr hlk dX10_hour1_83 (by decide) (by decide) ⟨rfl, rfl, rfl, ⟨_, hcvy58, hrdy862, by omega, by omega, hFy854, htxy893⟩, fun j j1 j2 => by rw [hfvy58 _ (by omega)]; rw [hfvy47 _ (by omega)]; rw [hfvy37 _ (by omega)]⟩
    · refine z_aload_n C 0 dX10_hour1_35 rfl ?_
      refine z_get (v := .int (zI (Fvy47 36))) C (by omega) hay1 hcvy47 rfl inA_X10 36 (by decide) q_1495 rfl (fv (F := Fvy47) (f := 36) rfl) dX10_hour1_36 ?_
      refine z_bipush (z := 45) C dX10_hour1_39 (by decide) ?_
      refine z_icmp_ne (tgt := 48) C dX10_hour1_41 (by decide) (by omega) (by omega) (fun hby894 => ?_) (fun hby894 => ?_)
      · refine z_iconst (z := 0) C dX10_hour1_48 rfl ?_
        refine z_istore_n (lv' := [(1, .int (zI (0))), (0, .ref (ad i))]) C dX10_hour1_49 rfl (by decide) rfl ?_
        refine z_iload_n C 0 dX10_hour1_50 rfl ?_
        refine z_if_eq (tgt := 58) C dX10_hour1_51 (by decide) (by omega) (fun _ => ?_) (fun h => absurd h (by omega))
        refine z_aload_n C 1 dX10_hour1_58 rfl ?_
        refine z_iconst (z := 0) C dX10_hour1_59 rfl ?_
        refine z_iload_n C 0 dX10_hour1_60 rfl ?_
        refine z_if_eq (tgt := 70) C dX10_hour1_61 (by decide) (by omega) (fun _ => ?_) (fun h => absurd h (by omega))
        refine z_bipush (z := 100) C dX10_hour1_70 (by decide) ?_
        have hey895 : Fvy47 32 = Fvy47 32 := rfl
        have hey896 : Fvy47 33 = Fvy47 33 := rfl
        have hey897 : Fvy47 34 = F 34 := ((hFvy47 34 (by decide) (by decide) (by decide) (by decide) (by decide)).trans (hFvy37 34 (by decide) (by decide)))
        have hey898 : Fvy47 35 = Fvy47 35 := rfl
        have hey899 : Fvy47 36 = Fvy47 36 := rfl
        have hey900 : Fvy47 37 = Fvy47 37 := rfl
        have hey901 : Fvy47 38 = 0 := ((hFvy47 38 (by decide) (by decide) (by decide) (by decide) (by decide)).trans e38vy37)
        have hrdy902 : RD Fvy47 := by unfold RD; omega
        have hgy903 := (hfvy47 (i + 13) (ne_o (i := i) (c := 13) (d := 0) rfl)).trans hgy46
        have hey905 : Fvy47 38 = 0 := ((hFvy47 38 (by decide) (by decide) (by decide) (by decide) (by decide)).trans e38vy37)
        have hey906 : Fvy47 35 = Fvy47 35 := rfl
        refine z_cV (As := [.int (zI (0)), .int (zI (100))]) (rest := []) (ci := 12) C (c_X10_number l D A cs tt N ad _ i hN _ hcvy47 _ hgy903 htp hrdy902 (0) (by omega) (100) (by omega)) (by omega) hay1 hcvy47 rfl rfl mv_yX10_number q_1682 hd_yX10_number (by decide) (Nat.le_of_ble_eq_true rfl) (by decide) dX10_hour1_72 rfl (kI0 fun vy904 gvy904 hvy904 => ?_)
        obtain ⟨hrvy904, ⟨Fvy904, hcvy904, hdvy904, hlvy904, hsvy904, hFvy904⟩, hfvy904⟩ := hvy904
        have h32vy904 : Fvy47 32 = Fvy47 32 := rfl
        have h34vy904 : Fvy904 34 = F 34 := (hFvy904 34 (by decide) (by decide) (by decide) (by decide) (by decide) (by decide) (by decide)).trans (((hFvy47 34 (by decide) (by decide) (by decide) (by decide) (by decide)).trans (hFvy37 34 (by decide) (by decide))))
        obtain ⟨d32vy904, d33vy904, d35vy904, d36vy904, d2vy904, d37vy904, d38vy904⟩ := id hdvy904
        rcases (show Fvy904 38 = 0 ∨ Fvy904 38 ≠ 0 by omega) with hxvy904 | hxvy904
        · refine z_istore_n (lv' := [(2, .int (zI (vy904))), (1, .int (zI (0))), (0, .ref (ad i))]) C dX10_hour1_75 rfl (by decide) rfl ?_
          refine z_aload_n C 2 dX10_hour1_76 rfl ?_
          refine z_get (v := .int (zI (0))) C (by omega) hay1 hcvy904 rfl inA_X10 38 (by decide) q_1497 rfl (fv (F := Fvy904) (f := 38) hxvy904) dX10_hour1_77 ?_
          refine z_if_eq (tgt := 84) C dX10_hour1_80 (by decide) (by omega) (fun _ => ?_) (fun h => absurd h (by omega))
          refine z_aload_n C 2 dX10_hour1_84 rfl ?_
          refine z_get (v := .ref (ad (i + 19))) C (by omega) hay1 hcvy904 rfl inA_X10 42 (by decide) q_1501 rfl rfl dX10_hour1_85 ?_
          refine z_aload_n C 2 dX10_hour1_88 rfl ?_
          refine z_get (v := .int (zI (F 48))) C (by omega) hay1 hcvy904 rfl inA_X10 48 (by decide) q_1507 rfl (fv (F := Fvy904) (f := 48) ((hFvy904 48 (by decide) (by decide) (by decide) (by decide) (by decide) (by decide) (by decide)).trans ((hFvy47 48 (by decide) (by decide) (by decide) (by decide) (by decide)).trans (hFvy37 48 (by decide) (by decide))))) dX10_hour1_89 ?_
          refine z_iload_n C 1 dX10_hour1_92 rfl ?_
          refine z_if_eq (tgt := 101) C dX10_hour1_93 (by decide) (by omega) (fun _ => ?_) (fun h => absurd h (by omega))
          refine z_iload_n C 0 dX10_hour1_101 rfl ?_
          have hgy907 := (hfvy37 (i + 19) (ne_o (i := i) (c := 19) (d := 0) rfl)).trans ha19
          have hgy908 := (hfvy47 (i + 19) (ne_o (i := i) (c := 19) (d := 0) rfl)).trans hgy907
          have hgy909 := (hfvy904 (i + 19) (ne_o (i := i) (c := 19) (d := 0) rfl)).trans hgy908
          refine z_iast C (by omega) hay6 hgy909 ((F 48).toNat) (by omega) (by omega) (by decide) dX10_hour1_102 (fun gy910 egy911 => ?_)
          have hgy912 := up_s egy911
          obtain ⟨ry913, hvy914⟩ : ∃ rZ9 : Nat → Int, rZ9 = uZ ai1 ((F 48).toNat) (vy904) := ⟨_, rfl⟩
          rw [← hvy914] at hgy912
          refine z_aload_n C 2 dX10_hour1_103 rfl ?_
          have hgy915 := up_n egy911 hcvy904 (ne_o (i := i) (c := 0) (d := 19) rfl)
          refine z_get (v := .ref (ad (i + 20))) C (by omega) hay1 hgy915 rfl inA_X10 43 (by decide) q_1502 rfl rfl dX10_hour1_104 ?_
          refine z_aload_n C 2 dX10_hour1_107 rfl ?_
          refine z_get (v := .int (zI (F 48))) C (by omega) hay1 hgy915 rfl inA_X10 48 (by decide) q_1507 rfl (fv (F := Fvy904) (f := 48) ((hFvy904 48 (by decide) (by decide) (by decide) (by decide) (by decide) (by decide) (by decide)).trans ((hFvy47 48 (by decide) (by decide) (by decide) (by decide) (by decide)).trans (hFvy37 48 (by decide) (by decide))))) dX10_hour1_108 ?_
          refine z_iconst (z := 0) C dX10_hour1_111 rfl ?_
          have hgy916 := (hfvy37 (i + 20) (ne_o (i := i) (c := 20) (d := 0) rfl)).trans ha20
          have hgy917 := (hfvy47 (i + 20) (ne_o (i := i) (c := 20) (d := 0) rfl)).trans hgy916
          have hgy918 := (hfvy904 (i + 20) (ne_o (i := i) (c := 20) (d := 0) rfl)).trans hgy917
          have hgy919 := up_n egy911 hgy918 (ne_o (i := i) (c := 20) (d := 19) rfl)
          refine z_iast C (by omega) hay7 hgy919 ((F 48).toNat) (by omega) (by omega) (by decide) dX10_hour1_112 (fun gy920 egy921 => ?_)
          have hgy922 := up_s egy921
          obtain ⟨ry923, hvy924⟩ : ∃ rZ9 : Nat → Int, rZ9 = uZ fa1 ((F 48).toNat) (0) := ⟨_, rfl⟩
          rw [← hvy924] at hgy922
          refine z_aload_n C 2 dX10_hour1_113 rfl ?_
          have hgy925 := up_n egy921 hgy915 (ne_o (i := i) (c := 0) (d := 20) rfl)
          refine z_get (v := .ref (ad (i + 21))) C (by omega) hay1 hgy925 rfl inA_X10 44 (by decide) q_1503 rfl rfl dX10_hour1_114 ?_
          refine z_aload_n C 2 dX10_hour1_117 rfl ?_
          refine z_get (v := .int (zI (F 48))) C (by omega) hay1 hgy925 rfl inA_X10 48 (by decide) q_1507 rfl (fv (F := Fvy904) (f := 48) ((hFvy904 48 (by decide) (by decide) (by decide) (by decide) (by decide) (by decide) (by decide)).trans ((hFvy47 48 (by decide) (by decide) (by decide) (by decide) (by decide)).trans (hFvy37 48 (by decide) (by decide))))) dX10_hour1_118 ?_
          refine z_iconst (z := 0) C dX10_hour1_121 rfl ?_
          have hgy926 := (hfvy37 (i + 21) (ne_o (i := i) (c := 21) (d := 0) rfl)).trans ha21
          have hgy927 := (hfvy47 (i + 21) (ne_o (i := i) (c := 21) (d := 0) rfl)).trans hgy926
          have hgy928 := (hfvy904 (i + 21) (ne_o (i := i) (c := 21) (d := 0) rfl)).trans hgy927
          have hgy929 := up_n egy911 hgy928 (ne_o (i := i) (c := 21) (d := 19) rfl)
          have hgy930 := up_n egy921 hgy929 (ne_o (i := i) (c := 21) (d := 20) rfl)
          refine z_iast C (by omega) hay8 hgy930 ((F 48).toNat) (by omega) (by omega) (by decide) dX10_hour1_122 (fun gy931 egy932 => ?_)
          have hgy933 := up_s egy932
          obtain ⟨ry934, hvy935⟩ : ∃ rZ9 : Nat → Int, rZ9 = uZ mu1 ((F 48).toNat) (0) := ⟨_, rfl⟩
          rw [← hvy935] at hgy933
          refine z_aload_n C 2 dX10_hour1_123 rfl ?_
          refine z_iconst (z := 3) C dX10_hour1_124 rfl ?_
          have hgy936 := up_n egy932 hgy925 (ne_o (i := i) (c := 0) (d := 21) rfl)
          have hey937 : Fvy904 32 = Fvy904 32 := rfl
          have hey938 : Fvy904 33 = Fvy904 33 := rfl
          have hey939 : Fvy904 34 = F 34 := ((hFvy904 34 (by decide) (by decide) (by decide) (by decide) (by decide) (by decide) (by decide)).trans ((hFvy47 34 (by decide) (by decide) (by decide) (by decide) (by decide)).trans (hFvy37 34 (by decide) (by decide))))
          have hey940 : Fvy904 35 = Fvy904 35 := rfl
          have hey941 : Fvy904 36 = Fvy904 36 := rfl
          have hey942 : Fvy904 37 = Fvy904 37 := rfl
          have hey943 : Fvy904 38 = 0 := hxvy904
          have hrdy944 : RD Fvy904 := by unfold RD; omega
          have hey946 : Fvy904 38 = 0 := hxvy904
          have hey947 : Fvy904 35 = Fvy904 35 := rfl
          have hey948 : Fvy904 37 = Fvy904 37 := rfl
          refine z_cV (As := [.int (zI (3))]) (rest := []) (ci := 12) C (c_X10_is l D A cs tt N ad _ i hN _ hgy936 hrdy944 (3) (by omega)) (by omega) hay1 hgy936 rfl rfl mv_yX10_is q_1705 hd_yX10_is (by decide) (Nat.le_of_ble_eq_true rfl) (by decide) dX10_hour1_125 rfl (kI0 fun vy945 gvy945 hvy945 => ?_)
          rw [hey946, hey947, hey948] at hvy945
          obtain ⟨hrvy945, hqvy945, rfl⟩ := hvy945
          refine z_if_ne (tgt := 147) C dX10_hour1_128 (by decide) (by omega) (fun hby949 => ?_) (fun hby949 => ?_)
          · refine z_aload_n C 2 dX10_hour1_147 rfl ?_
            refine z_get (v := .ref (ad (i + 20))) C (by omega) hay1 hgy936 rfl inA_X10 43 (by decide) q_1502 rfl rfl dX10_hour1_148 ?_
            refine z_aload_n C 2 dX10_hour1_151 rfl ?_
            refine z_get (v := .int (zI (F 48))) C (by omega) hay1 hgy936 rfl inA_X10 48 (by decide) q_1507 rfl (fv (F := Fvy904) (f := 48) ((hFvy904 48 (by decide) (by decide) (by decide) (by decide) (by decide) (by decide) (by decide)).trans ((hFvy47 48 (by decide) (by decide) (by decide) (by decide) (by decide)).trans (hFvy37 48 (by decide) (by decide))))) dX10_hour1_152 ?_
            refine z_aload_n C 2 dX10_hour1_155 rfl ?_
            refine z_get (v := .int (zI (Fvy904 37))) C (by omega) hay1 hgy936 rfl inA_X10 37 (by decide) q_1496 rfl (fv (F := Fvy904) (f := 37) rfl) dX10_hour1_156 ?_
            refine z_iconst (z := 3) C dX10_hour1_159 rfl ?_
            refine z_isub C dX10_hour1_160 ?_
            refine z_iconst (z := 1) C dX10_hour1_161 rfl ?_
            refine z_iadd C dX10_hour1_162 ?_
            have hgy950 := up_n egy932 hgy922 (ne_o (i := i) (c := 20) (d := 21) rfl)
            refine z_iast C (by omega) hay7 hgy950 ((F 48).toNat) (by omega) (by omega) (by decide) dX10_hour1_163 (fun gy951 egy952 => ?_)
            have hgy953 := up_s egy952
            obtain ⟨ry954, hvy955⟩ : ∃ rZ9 : Nat → Int, rZ9 = uZ ry923 ((F 48).toNat) (((Fvy904 37) - 3) + 1) := ⟨_, rfl⟩
            rw [← hvy955] at hgy953
            refine z_aload_n C 2 dX10_hour1_164 rfl ?_
            have hgy956 := up_n egy952 hgy936 (ne_o (i := i) (c := 0) (d := 20) rfl)
            have hey957 : Fvy904 32 = Fvy904 32 := rfl
            have hey958 : Fvy904 33 = Fvy904 33 := rfl
            have hey959 : Fvy904 34 = F 34 := ((hFvy904 34 (by decide) (by decide) (by decide) (by decide) (by decide) (by decide) (by decide)).trans ((hFvy47 34 (by decide) (by decide) (by decide) (by decide) (by decide)).trans (hFvy37 34 (by decide) (by decide))))
            have hey960 : Fvy904 35 = Fvy904 35 := rfl
            have hey961 : Fvy904 36 = Fvy904 36 := rfl
            have hey962 : Fvy904 37 = Fvy904 37 := rfl
            have hey963 : Fvy904 38 = 0 := hxvy904
            have hrdy964 : RD Fvy904 := by unfold RD; omega
            have hgy965 := (hfvy904 (i + 13) (ne_o (i := i) (c := 13) (d := 0) rfl)).trans hgy903
            have hgy966 := up_n egy911 hgy965 (ne_o (i := i) (c := 13) (d := 19) rfl)
            have hgy967 := up_n egy921 hgy966 (ne_o (i := i) (c := 13) (d := 20) rfl)
            have hgy968 := up_n egy932 hgy967 (ne_o (i := i) (c := 13) (d := 21) rfl)
            have hgy969 := up_n egy952 hgy968 (ne_o (i := i) (c := 13) (d := 20) rfl)
            refine z_cV (As := []) (rest := []) (ci := 12) C (c_X10_go l D A cs tt N ad _ i hN _ hgy956 _ hgy969 htp hrdy964) (by omega) hay1 hgy956 rfl rfl mv_yX10_go q_1652 hd_yX10_go (by decide) (Nat.le_of_ble_eq_true rfl) (by decide) dX10_hour1_165 rfl (kV0 fun gvy970 hvy970 => ?_)
            obtain ⟨⟨Fvy970, hcvy970, hdvy970, hlvy970, hsvy970, hFvy970⟩, hfvy970⟩ := hvy970
            have h32vy970 : Fvy904 32 = Fvy904 32 := rfl
            have h34vy970 : Fvy970 34 = F 34 := (hFvy970 34 (by decide) (by decide) (by decide) (by decide) (by decide)).trans (((hFvy904 34 (by decide) (by decide) (by decide) (by decide) (by decide) (by decide) (by decide)).trans ((hFvy47 34 (by decide) (by decide) (by decide) (by decide) (by decide)).trans (hFvy37 34 (by decide) (by decide)))))
            obtain ⟨d32vy970, d33vy970, d35vy970, d36vy970, d2vy970, d37vy970, d38vy970⟩ := id hdvy970
            have h38vy970 : Fvy970 38 = 0 := ((hFvy970 38 (by decide) (by decide) (by decide) (by decide) (by decide)).trans hxvy904)
            refine z_aload_n C 2 dX10_hour1_168 rfl ?_
            refine z_get (v := .ref (ad (i + 20))) C (by omega) hay1 hcvy970 rfl inA_X10 43 (by decide) q_1502 rfl rfl dX10_hour1_169 ?_
            refine z_aload_n C 2 dX10_hour1_172 rfl ?_
            refine z_get (v := .int (zI (F 48))) C (by omega) hay1 hcvy970 rfl inA_X10 48 (by decide) q_1507 rfl (fv (F := Fvy970) (f := 48) ((hFvy970 48 (by decide) (by decide) (by decide) (by decide) (by decide)).trans ((hFvy904 48 (by decide) (by decide) (by decide) (by decide) (by decide) (by decide) (by decide)).trans ((hFvy47 48 (by decide) (by decide) (by decide) (by decide) (by decide)).trans (hFvy37 48 (by decide) (by decide)))))) dX10_hour1_173 ?_
            have hgy971 := (hfvy970 (i + 20) (ne_o (i := i) (c := 20) (d := 0) rfl)).trans hgy953
            refine z_iald C (by omega) hay7 hgy971 ((F 48).toNat) (by omega) (by omega) (by decide) dX10_hour1_176 ?_
            rw [show ry954 ((F 48).toNat) = ((Fvy904 37) - 3) + 1 from (congrFun hvy955 _).trans (uZ_s _ _ _)]
            refine z_iconst (z := 3) C dX10_hour1_177 rfl ?_
            obtain ⟨xy972, exy973, hxy974⟩ := zI_of (zI (((Fvy904 37) - 3) + 1))
            rw [exy973]
            refine z_icmp_ge (tgt := 197) C dX10_hour1_178 (by decide) (by omega) (by omega) (fun hby975 => ?_) (fun hby975 => ?_)
            · refine z_aload_n C 2 dX10_hour1_197 rfl ?_
              refine z_dup C dX10_hour1_198 rfl ?_
              refine z_get (v := .int (zI (F 48))) C (by omega) hay1 hcvy970 rfl inA_X10 48 (by decide) q_1507 rfl (fv (F := Fvy970) (f := 48) ((hFvy970 48 (by decide) (by decide) (by decide) (by decide) (by decide)).trans ((hFvy904 48 (by decide) (by decide) (by decide) (by decide) (by decide) (by decide) (by decide)).trans ((hFvy47 48 (by decide) (by decide) (by decide) (by decide) (by decide)).trans (hFvy37 48 (by decide) (by decide)))))) dX10_hour1_199 ?_
              refine z_iconst (z := 1) C dX10_hour1_202 rfl ?_
              refine z_iadd C dX10_hour1_203 ?_
              refine z_put (fs' := mF ad (i) (uZ Fvy970 48 ((F 48) + 1))) C (by omega) hay1 hcvy970 tyX10 tyX10_ok nmX10 rfl inA_X10 48 (by decide) q_1507 rfl rfl rfl rfl (Nat.le_of_ble_eq_true rfl) rfl dX10_hour1_204 (fun gy976 egy977 => ?_)
              have hgy978 := up_s egy977
              have hFy979 : ∀ f, f ≠ 24 → f ≠ 32 → f ≠ 33 → f ≠ 35 → f ≠ 36 → f ≠ 37 → f ≠ 38 → f ≠ 47 → f ≠ 48 → f ≠ 49 → (uZ Fvy970 48 ((F 48) + 1)) f = F f := fun f n24 n32 n33 n35 n36 n37 n38 n47 n48 n49 => ((uZ_n _ _ n48).trans ((hFvy970 f n32 n33 n35 n36 n37).trans ((hFvy904 f n24 n32 n33 n35 n36 n37 n38).trans ((hFvy47 f n32 n33 n35 n36 n37).trans (hFvy37 f n24 n38)))))
              have hey980 : (uZ Fvy970 48 ((F 48) + 1)) 32 = Fvy970 32 := (fn rfl (by decide))
              have hey981 : (uZ Fvy970 48 ((F 48) + 1)) 33 = Fvy970 33 := (fn rfl (by decide))
              have hey982 : (uZ Fvy970 48 ((F 48) + 1)) 34 = F 34 := (fn ((hFvy970 34 (by decide) (by decide) (by decide) (by decide) (by decide)).trans ((hFvy904 34 (by decide) (by decide) (by decide) (by decide) (by decide) (by decide) (by decide)).trans ((hFvy47 34 (by decide) (by decide) (by decide) (by decide) (by decide)).trans (hFvy37 34 (by decide) (by decide))))) (by decide))
              have hey983 : (uZ Fvy970 48 ((F 48) + 1)) 35 = Fvy970 35 := (fn rfl (by decide))
              have hey984 : (uZ Fvy970 48 ((F 48) + 1)) 36 = Fvy970 36 := (fn rfl (by decide))
              have hey985 : (uZ Fvy970 48 ((F 48) + 1)) 37 = Fvy970 37 := (fn rfl (by decide))
              have hey986 : (uZ Fvy970 48 ((F 48) + 1)) 38 = 0 := (fn ((hFvy970 38 (by decide) (by decide) (by decide) (by decide) (by decide)).trans hxvy904) (by decide))
              have hrdy987 : RD (uZ Fvy970 48 ((F 48) + 1)) := by unfold RD; omega
              have hey988 : (uZ Fvy970 48 ((F 48) + 1)) 32 = Fvy970 32 := (fn rfl (by decide))
              have hey989 : (uZ Fvy970 48 ((F 48) + 1)) 47 = F 47 := (fn ((hFvy970 47 (by decide) (by decide) (by decide) (by decide) (by decide)).trans ((hFvy904 47 (by decide) (by decide) (by decide) (by decide) (by decide) (by decide) (by decide)).trans ((hFvy47 47 (by decide) (by decide) (by decide) (by decide) (by decide)).trans (hFvy37 47 (by decide) (by decide))))) (by decide))
              have hey990 : (uZ Fvy970 48 ((F 48) + 1)) 48 = (F 48) + 1 := (uZ_s _ _ _)
              have hey991 : (uZ Fvy970 48 ((F 48) + 1)) 49 = F 49 := (fn ((hFvy970 49 (by decide) (by decide) (by decide) (by decide) (by decide)).trans ((hFvy904 49 (by decide) (by decide) (by decide) (by decide) (by decide) (by decide) (by decide)).trans ((hFvy47 49 (by decide) (by decide) (by decide) (by decide) (by decide)).trans (hFvy37 49 (by decide) (by decide))))) (by decide))
              have hfry993 : ∀ j, j ≠ (F 48).toNat → ry913 j = ai1 j := fun j n0 => (congrFun hvy914 _).trans ((uZ_n _ _ n0).trans (rfl))
              have hwy994 : ry913 ((F 48).toNat) = vy904 := (congrFun hvy914 _).trans (uZ_s _ _ _)
              have haky992 : ∀ k, k < 24 → -300 ≤ ry913 k ∧ ry913 k ≤ 100 := by
                intro k hk
                by_cases e : k = (F 48).toNat
                · subst e; have hk0 := hai1 ((F 48).toNat) (by omega); omega
                · have hk0 := hai1 k hk; rw [hfry993 k e]; exact hk0
              have hfry996 : ∀ j, j ≠ (F 48).toNat → ry954 j = fa1 j := fun j n0 => (congrFun hvy955 _).trans ((uZ_n _ _ n0).trans ((congrFun hvy924 _).trans ((uZ_n _ _ n0).trans (rfl))))
              have hfry997 : ∀ j, j ≠ (F 48).toNat → ry934 j = mu1 j := fun j n0 => (congrFun hvy935 _).trans ((uZ_n _ _ n0).trans (rfl))
              have hwy998 : ry954 ((F 48).toNat) = ((Fvy904 37) - 3) + 1 := (congrFun hvy955 _).trans (uZ_s _ _ _)
              have hwy999 : ry934 ((F 48).toNat) = 0 := (congrFun hvy935 _).trans (uZ_s _ _ _)
              have haky995 : ∀ k, k < 24 → (0 ≤ ry954 k ∧ ry954 k ≤ 3) ∧ (0 ≤ ry934 k ∧ ry934 k ≤ 50) ∧ (ry954 k = 1 ∨ ry954 k = 2 → 1 ≤ ry934 k) := by
                intro k hk
                by_cases e : k = (F 48).toNat
                · subst e; have hk0 := hfa1 ((F 48).toNat) (by omega); omega
                · have hk0 := hfa1 k hk; rw [hfry996 k e]; rw [hfry997 k e]; exact hk0
              have hlay1000 : ∀ s l : Nat, (s : Int) < (uZ Fvy970 48 ((F 48) + 1)) 47 → (l : Int) < mn1 s → lyT ly1 (84 * s + 7 * l) := fun s l a1 a2 => hly1 s l (by omega) a2
              have hgy1001 := (hfvy37 (i + 16) (ne_o (i := i) (c := 16) (d := 0) rfl)).trans ha16
              have hgy1002 := (hfvy47 (i + 16) (ne_o (i := i) (c := 16) (d := 0) rfl)).trans hgy1001
              have hgy1003 := (hfvy904 (i + 16) (ne_o (i := i) (c := 16) (d := 0) rfl)).trans hgy1002
              have hgy1004 := up_n egy911 hgy1003 (ne_o (i := i) (c := 16) (d := 19) rfl)
              have hgy1005 := up_n egy921 hgy1004 (ne_o (i := i) (c := 16) (d := 20) rfl)
              have hgy1006 := up_n egy932 hgy1005 (ne_o (i := i) (c := 16) (d := 21) rfl)
              have hgy1007 := up_n egy952 hgy1006 (ne_o (i := i) (c := 16) (d := 20) rfl)
              have hgy1008 := (hfvy970 (i + 16) (ne_o (i := i) (c := 16) (d := 0) rfl)).trans hgy1007
              have hgy1009 := up_n egy977 hgy1008 (ne_o (i := i) (c := 16) (d := 0) rfl)
              have hgy1010 := (hfvy37 (i + 17) (ne_o (i := i) (c := 17) (d := 0) rfl)).trans ha17
              have hgy1011 := (hfvy47 (i + 17) (ne_o (i := i) (c := 17) (d := 0) rfl)).trans hgy1010
              have hgy1012 := (hfvy904 (i + 17) (ne_o (i := i) (c := 17) (d := 0) rfl)).trans hgy1011
              have hgy1013 := up_n egy911 hgy1012 (ne_o (i := i) (c := 17) (d := 19) rfl)
              have hgy1014 := up_n egy921 hgy1013 (ne_o (i := i) (c := 17) (d := 20) rfl)
              have hgy1015 := up_n egy932 hgy1014 (ne_o (i := i) (c := 17) (d := 21) rfl)
              have hgy1016 := up_n egy952 hgy1015 (ne_o (i := i) (c := 17) (d := 20) rfl)
              have hgy1017 := (hfvy970 (i + 17) (ne_o (i := i) (c := 17) (d := 0) rfl)).trans hgy1016
              have hgy1018 := up_n egy977 hgy1017 (ne_o (i := i) (c := 17) (d := 0) rfl)
              have hgy1019 := (hfvy37 (i + 18) (ne_o (i := i) (c := 18) (d := 0) rfl)).trans ha18
              have hgy1020 := (hfvy47 (i + 18) (ne_o (i := i) (c := 18) (d := 0) rfl)).trans hgy1019
              have hgy1021 := (hfvy904 (i + 18) (ne_o (i := i) (c := 18) (d := 0) rfl)).trans hgy1020
              have hgy1022 := up_n egy911 hgy1021 (ne_o (i := i) (c := 18) (d := 19) rfl)
              have hgy1023 := up_n egy921 hgy1022 (ne_o (i := i) (c := 18) (d := 20) rfl)
              have hgy1024 := up_n egy932 hgy1023 (ne_o (i := i) (c := 18) (d := 21) rfl)
              have hgy1025 := up_n egy952 hgy1024 (ne_o (i := i) (c := 18) (d := 20) rfl)
              have hgy1026 := (hfvy970 (i + 18) (ne_o (i := i) (c := 18) (d := 0) rfl)).trans hgy1025
              have hgy1027 := up_n egy977 hgy1026 (ne_o (i := i) (c := 18) (d := 0) rfl)
              have hgy1028 := up_n egy921 hgy912 (ne_o (i := i) (c := 19) (d := 20) rfl)
              have hgy1029 := up_n egy932 hgy1028 (ne_o (i := i) (c := 19) (d := 21) rfl)
              have hgy1030 := up_n egy952 hgy1029 (ne_o (i := i) (c := 19) (d := 20) rfl)
              have hgy1031 := (hfvy970 (i + 19) (ne_o (i := i) (c := 19) (d := 0) rfl)).trans hgy1030
              have hgy1032 := up_n egy977 hgy1031 (ne_o (i := i) (c := 19) (d := 0) rfl)
              have hgy1033 := up_n egy977 hgy971 (ne_o (i := i) (c := 20) (d := 0) rfl)
              have hgy1034 := up_n egy952 hgy933 (ne_o (i := i) (c := 21) (d := 20) rfl)
              have hgy1035 := (hfvy970 (i + 21) (ne_o (i := i) (c := 21) (d := 0) rfl)).trans hgy1034
              have hgy1036 := up_n egy977 hgy1035 (ne_o (i := i) (c := 21) (d := 0) rfl)
              have hgy1037 := (hfvy37 (i + 22) (ne_o (i := i) (c := 22) (d := 0) rfl)).trans ha22
              have hgy1038 := (hfvy47 (i + 22) (ne_o (i := i) (c := 22) (d := 0) rfl)).trans hgy1037
              have hgy1039 := (hfvy904 (i + 22) (ne_o (i := i) (c := 22) (d := 0) rfl)).trans hgy1038
              have hgy1040 := up_n egy911 hgy1039 (ne_o (i := i) (c := 22) (d := 19) rfl)
              have hgy1041 := up_n egy921 hgy1040 (ne_o (i := i) (c := 22) (d := 20) rfl)
              have hgy1042 := up_n egy932 hgy1041 (ne_o (i := i) (c := 22) (d := 21) rfl)
              have hgy1043 := up_n egy952 hgy1042 (ne_o (i := i) (c := 22) (d := 20) rfl)
              have hgy1044 := (hfvy970 (i + 22) (ne_o (i := i) (c := 22) (d := 0) rfl)).trans hgy1043
              have hgy1045 := up_n egy977 hgy1044 (ne_o (i := i) (c := 22) (d := 0) rfl)
              have hgy1046 := (hfvy37 (i + 23) (ne_o (i := i) (c := 23) (d := 0) rfl)).trans ha23
              have hgy1047 := (hfvy47 (i + 23) (ne_o (i := i) (c := 23) (d := 0) rfl)).trans hgy1046
              have hgy1048 := (hfvy904 (i + 23) (ne_o (i := i) (c := 23) (d := 0) rfl)).trans hgy1047
              have hgy1049 := up_n egy911 hgy1048 (ne_o (i := i) (c := 23) (d := 19) rfl)
              have hgy1050 := up_n egy921 hgy1049 (ne_o (i := i) (c := 23) (d := 20) rfl)
              have hgy1051 := up_n egy932 hgy1050 (ne_o (i := i) (c := 23) (d := 21) rfl)
              have hgy1052 := up_n egy952 hgy1051 (ne_o (i := i) (c := 23) (d := 20) rfl)
              have hgy1053 := (hfvy970 (i + 23) (ne_o (i := i) (c := 23) (d := 0) rfl)).trans hgy1052
              have hgy1054 := up_n egy977 hgy1053 (ne_o (i := i) (c := 23) (d := 0) rfl)
              have htxy1055 : okTx cs gy976 i (uZ Fvy970 48 ((F 48) + 1)) := ⟨_, _, _, _, _, _, _, _, ⟨hgy1009, hgy1018, hgy1027, hgy1032, hgy1033, hgy1036, hgy1045, hgy1054⟩, ⟨⟨by omega, by omega, by omega⟩, hop1, hmn1, haky992, haky995, htb1, hlay1000⟩⟩
              exact z_vret C hr hlk dX10_hour1_207 (by decide) (by decide) ⟨rfl, rfl, rfl, ⟨_, hgy978, hrdy987, by omega, by omega, hFy979, htxy1055⟩, fun j j1 j2 => by rw [egy977, va_up_ne _ _ (by omega)]; rw [hfvy970 _ (by omega)]; rw [egy952, va_up_ne _ _ (by omega)]; rw [egy932, va_up_ne _ _ (by omega)]; rw [egy921, va_up_ne _ _ (by omega)]; rw [egy911, va_up_ne _ _ (by omega)]; rw [hfvy904 _ (by omega)]; rw [hfvy47 _ (by omega)]; rw [hfvy37 _ (by omega)]⟩
            · refine z_aload_n C 2 dX10_hour1_181 rfl ?_
              refine z_get (v := .ref (ad (i + 21))) C (by omega) hay1 hcvy970 rfl inA_X10 44 (by decide) q_1503 rfl rfl dX10_hour1_182 ?_
              refine z_aload_n C 2 dX10_hour1_185 rfl ?_
              refine z_get (v := .int (zI (F 48))) C (by omega) hay1 hcvy970 rfl inA_X10 48 (by decide) q_1507 rfl (fv (F := Fvy970) (f := 48) ((hFvy970 48 (by decide) (by decide) (by decide) (by decide) (by decide)).trans ((hFvy904 48 (by decide) (by decide) (by decide) (by decide) (by decide) (by decide) (by decide)).trans ((hFvy47 48 (by decide) (by decide) (by decide) (by decide) (by decide)).trans (hFvy37 48 (by decide) (by decide)))))) dX10_hour1_186 ?_
              refine z_aload_n C 2 dX10_hour1_189 rfl ?_
              refine z_iconst (z := 1) C dX10_hour1_190 rfl ?_
              refine z_bipush (z := 50) C dX10_hour1_191 (by decide) ?_
              have hey1056 : Fvy970 32 = Fvy970 32 := rfl
              have hey1057 : Fvy970 33 = Fvy970 33 := rfl
              have hey1058 : Fvy970 34 = F 34 := ((hFvy970 34 (by decide) (by decide) (by decide) (by decide) (by decide)).trans ((hFvy904 34 (by decide) (by decide) (by decide) (by decide) (by decide) (by decide) (by decide)).trans ((hFvy47 34 (by decide) (by decide) (by decide) (by decide) (by decide)).trans (hFvy37 34 (by decide) (by decide)))))
              have hey1059 : Fvy970 35 = Fvy970 35 := rfl
              have hey1060 : Fvy970 36 = Fvy970 36 := rfl
              have hey1061 : Fvy970 37 = Fvy970 37 := rfl
              have hey1062 : Fvy970 38 = 0 := ((hFvy970 38 (by decide) (by decide) (by decide) (by decide) (by decide)).trans hxvy904)
              have hrdy1063 : RD Fvy970 := by unfold RD; omega
              have hgy1064 := (hfvy970 (i + 13) (ne_o (i := i) (c := 13) (d := 0) rfl)).trans hgy969
              have hey1066 : Fvy970 38 = 0 := ((hFvy970 38 (by decide) (by decide) (by decide) (by decide) (by decide)).trans hxvy904)
              have hey1067 : Fvy970 35 = Fvy970 35 := rfl
              refine z_cV (As := [.int (zI (1)), .int (zI (50))]) (rest := [.int (zI (F 48)), .ref (ad (i + 21))]) (ci := 12) C (c_X10_number l D A cs tt N ad _ i hN _ hcvy970 _ hgy1064 htp hrdy1063 (1) (by omega) (50) (by omega)) (by omega) hay1 hcvy970 rfl rfl mv_yX10_number q_1682 hd_yX10_number (by decide) (Nat.le_of_ble_eq_true rfl) (by decide) dX10_hour1_193 rfl (kI0 fun vy1065 gvy1065 hvy1065 => ?_)
              obtain ⟨hrvy1065, ⟨Fvy1065, hcvy1065, hdvy1065, hlvy1065, hsvy1065, hFvy1065⟩, hfvy1065⟩ := hvy1065
              have h32vy1065 : Fvy970 32 = Fvy970 32 := rfl
              have h34vy1065 : Fvy1065 34 = F 34 := (hFvy1065 34 (by decide) (by decide) (by decide) (by decide) (by decide) (by decide) (by decide)).trans (((hFvy970 34 (by decide) (by decide) (by decide) (by decide) (by decide)).trans ((hFvy904 34 (by decide) (by decide) (by decide) (by decide) (by decide) (by decide) (by decide)).trans ((hFvy47 34 (by decide) (by decide) (by decide) (by decide) (by decide)).trans (hFvy37 34 (by decide) (by decide))))))
              obtain ⟨d32vy1065, d33vy1065, d35vy1065, d36vy1065, d2vy1065, d37vy1065, d38vy1065⟩ := id hdvy1065
              have hgy1068 := up_n egy952 hgy933 (ne_o (i := i) (c := 21) (d := 20) rfl)
              have hgy1069 := (hfvy970 (i + 21) (ne_o (i := i) (c := 21) (d := 0) rfl)).trans hgy1068
              have hgy1070 := (hfvy1065 (i + 21) (ne_o (i := i) (c := 21) (d := 0) rfl)).trans hgy1069
              refine z_iast C (by omega) hay8 hgy1070 ((F 48).toNat) (by omega) (by omega) (by decide) dX10_hour1_196 (fun gy1071 egy1072 => ?_)
              have hgy1073 := up_s egy1072
              obtain ⟨ry1074, hvy1075⟩ : ∃ rZ9 : Nat → Int, rZ9 = uZ ry934 ((F 48).toNat) (vy1065) := ⟨_, rfl⟩
              rw [← hvy1075] at hgy1073
              refine z_aload_n C 2 dX10_hour1_197 rfl ?_
              refine z_dup C dX10_hour1_198 rfl ?_
              have hgy1076 := up_n egy1072 hcvy1065 (ne_o (i := i) (c := 0) (d := 21) rfl)
              refine z_get (v := .int (zI (F 48))) C (by omega) hay1 hgy1076 rfl inA_X10 48 (by decide) q_1507 rfl (fv (F := Fvy1065) (f := 48) ((hFvy1065 48 (by decide) (by decide) (by decide) (by decide) (by decide) (by decide) (by decide)).trans ((hFvy970 48 (by decide) (by decide) (by decide) (by decide) (by decide)).trans ((hFvy904 48 (by decide) (by decide) (by decide) (by decide) (by decide) (by decide) (by decide)).trans ((hFvy47 48 (by decide) (by decide) (by decide) (by decide) (by decide)).trans (hFvy37 48 (by decide) (by decide))))))) dX10_hour1_199 ?_
              refine z_iconst (z := 1) C dX10_hour1_202 rfl ?_
              refine z_iadd C dX10_hour1_203 ?_
              refine z_put (fs' := mF ad (i) (uZ Fvy1065 48 ((F 48) + 1))) C (by omega) hay1 hgy1076 tyX10 tyX10_ok nmX10 rfl inA_X10 48 (by decide) q_1507 rfl rfl rfl rfl (Nat.le_of_ble_eq_true rfl) rfl dX10_hour1_204 (fun gy1077 egy1078 => ?_)
              have hgy1079 := up_s egy1078
              have hFy1080 : ∀ f, f ≠ 24 → f ≠ 32 → f ≠ 33 → f ≠ 35 → f ≠ 36 → f ≠ 37 → f ≠ 38 → f ≠ 47 → f ≠ 48 → f ≠ 49 → (uZ Fvy1065 48 ((F 48) + 1)) f = F f := fun f n24 n32 n33 n35 n36 n37 n38 n47 n48 n49 => ((uZ_n _ _ n48).trans ((hFvy1065 f n24 n32 n33 n35 n36 n37 n38).trans ((hFvy970 f n32 n33 n35 n36 n37).trans ((hFvy904 f n24 n32 n33 n35 n36 n37 n38).trans ((hFvy47 f n32 n33 n35 n36 n37).trans (hFvy37 f n24 n38))))))
              have hey1081 : (uZ Fvy1065 48 ((F 48) + 1)) 32 = Fvy1065 32 := (fn rfl (by decide))
              have hey1082 : (uZ Fvy1065 48 ((F 48) + 1)) 33 = Fvy1065 33 := (fn rfl (by decide))
              have hey1083 : (uZ Fvy1065 48 ((F 48) + 1)) 34 = F 34 := (fn ((hFvy1065 34 (by decide) (by decide) (by decide) (by decide) (by decide) (by decide) (by decide)).trans ((hFvy970 34 (by decide) (by decide) (by decide) (by decide) (by decide)).trans ((hFvy904 34 (by decide) (by decide) (by decide) (by decide) (by decide) (by decide) (by decide)).trans ((hFvy47 34 (by decide) (by decide) (by decide) (by decide) (by decide)).trans (hFvy37 34 (by decide) (by decide)))))) (by decide))
              have hey1084 : (uZ Fvy1065 48 ((F 48) + 1)) 35 = Fvy1065 35 := (fn rfl (by decide))
              have hey1085 : (uZ Fvy1065 48 ((F 48) + 1)) 36 = Fvy1065 36 := (fn rfl (by decide))
              have hey1086 : (uZ Fvy1065 48 ((F 48) + 1)) 37 = Fvy1065 37 := (fn rfl (by decide))
              have hey1087 : (uZ Fvy1065 48 ((F 48) + 1)) 38 = Fvy1065 38 := (fn rfl (by decide))
              have hrdy1088 : RD (uZ Fvy1065 48 ((F 48) + 1)) := by unfold RD; omega
              have hey1089 : (uZ Fvy1065 48 ((F 48) + 1)) 32 = Fvy1065 32 := (fn rfl (by decide))
              have hey1090 : (uZ Fvy1065 48 ((F 48) + 1)) 47 = F 47 := (fn ((hFvy1065 47 (by decide) (by decide) (by decide) (by decide) (by decide) (by decide) (by decide)).trans ((hFvy970 47 (by decide) (by decide) (by decide) (by decide) (by decide)).trans ((hFvy904 47 (by decide) (by decide) (by decide) (by decide) (by decide) (by decide) (by decide)).trans ((hFvy47 47 (by decide) (by decide) (by decide) (by decide) (by decide)).trans (hFvy37 47 (by decide) (by decide)))))) (by decide))
              have hey1091 : (uZ Fvy1065 48 ((F 48) + 1)) 48 = (F 48) + 1 := (uZ_s _ _ _)
              have hey1092 : (uZ Fvy1065 48 ((F 48) + 1)) 49 = F 49 := (fn ((hFvy1065 49 (by decide) (by decide) (by decide) (by decide) (by decide) (by decide) (by decide)).trans ((hFvy970 49 (by decide) (by decide) (by decide) (by decide) (by decide)).trans ((hFvy904 49 (by decide) (by decide) (by decide) (by decide) (by decide) (by decide) (by decide)).trans ((hFvy47 49 (by decide) (by decide) (by decide) (by decide) (by decide)).trans (hFvy37 49 (by decide) (by decide)))))) (by decide))
              have hfry1094 : ∀ j, j ≠ (F 48).toNat → ry913 j = ai1 j := fun j n0 => (congrFun hvy914 _).trans ((uZ_n _ _ n0).trans (rfl))
              have hwy1095 : ry913 ((F 48).toNat) = vy904 := (congrFun hvy914 _).trans (uZ_s _ _ _)
              have haky1093 : ∀ k, k < 24 → -300 ≤ ry913 k ∧ ry913 k ≤ 100 := by
                intro k hk
                by_cases e : k = (F 48).toNat
                · subst e; have hk0 := hai1 ((F 48).toNat) (by omega); omega
                · have hk0 := hai1 k hk; rw [hfry1094 k e]; exact hk0
              have hfry1097 : ∀ j, j ≠ (F 48).toNat → ry954 j = fa1 j := fun j n0 => (congrFun hvy955 _).trans ((uZ_n _ _ n0).trans ((congrFun hvy924 _).trans ((uZ_n _ _ n0).trans (rfl))))
              have hfry1098 : ∀ j, j ≠ (F 48).toNat → ry1074 j = mu1 j := fun j n0 => (congrFun hvy1075 _).trans ((uZ_n _ _ n0).trans ((congrFun hvy935 _).trans ((uZ_n _ _ n0).trans (rfl))))
              have hwy1099 : ry954 ((F 48).toNat) = ((Fvy904 37) - 3) + 1 := (congrFun hvy955 _).trans (uZ_s _ _ _)
              have hwy1100 : ry1074 ((F 48).toNat) = vy1065 := (congrFun hvy1075 _).trans (uZ_s _ _ _)
              have haky1096 : ∀ k, k < 24 → (0 ≤ ry954 k ∧ ry954 k ≤ 3) ∧ (0 ≤ ry1074 k ∧ ry1074 k ≤ 50) ∧ (ry954 k = 1 ∨ ry954 k = 2 → 1 ≤ ry1074 k) := by
                intro k hk
                by_cases e : k = (F 48).toNat
                · subst e; have hk0 := hfa1 ((F 48).toNat) (by omega); omega
                · have hk0 := hfa1 k hk; rw [hfry1097 k e]; rw [hfry1098 k e]; exact hk0
              have hlay1101 : ∀ s l : Nat, (s : Int) < (uZ Fvy1065 48 ((F 48) + 1)) 47 → (l : Int) < mn1 s → lyT ly1 (84 * s + 7 * l) := fun s l a1 a2 => hly1 s l (by omega) a2
              have hgy1102 := (hfvy37 (i + 16) (ne_o (i := i) (c := 16) (d := 0) rfl)).trans ha16
              have hgy1103 := (hfvy47 (i + 16) (ne_o (i := i) (c := 16) (d := 0) rfl)).trans hgy1102
              have hgy1104 := (hfvy904 (i + 16) (ne_o (i := i) (c := 16) (d := 0) rfl)).trans hgy1103
              have hgy1105 := up_n egy911 hgy1104 (ne_o (i := i) (c := 16) (d := 19) rfl)
              have hgy1106 := up_n egy921 hgy1105 (ne_o (i := i) (c := 16) (d := 20) rfl)
              have hgy1107 := up_n egy932 hgy1106 (ne_o (i := i) (c := 16) (d := 21) rfl)
              have hgy1108 := up_n egy952 hgy1107 (ne_o (i := i) (c := 16) (d := 20) rfl)
              have hgy1109 := (hfvy970 (i + 16) (ne_o (i := i) (c := 16) (d := 0) rfl)).trans hgy1108
              have hgy1110 := (hfvy1065 (i + 16) (ne_o (i := i) (c := 16) (d := 0) rfl)).trans hgy1109
              have hgy1111 := up_n egy1072 hgy1110 (ne_o (i := i) (c := 16) (d := 21) rfl)
              have hgy1112 := up_n egy1078 hgy1111 (ne_o (i := i) (c := 16) (d := 0) rfl)
              have hgy1113 := (hfvy37 (i + 17) (ne_o (i := i) (c := 17) (d := 0) rfl)).trans ha17
              have hgy1114 := (hfvy47 (i + 17) (ne_o (i := i) (c := 17) (d := 0) rfl)).trans hgy1113
              have hgy1115 := (hfvy904 (i + 17) (ne_o (i := i) (c := 17) (d := 0) rfl)).trans hgy1114
              have hgy1116 := up_n egy911 hgy1115 (ne_o (i := i) (c := 17) (d := 19) rfl)
              have hgy1117 := up_n egy921 hgy1116 (ne_o (i := i) (c := 17) (d := 20) rfl)
              have hgy1118 := up_n egy932 hgy1117 (ne_o (i := i) (c := 17) (d := 21) rfl)
              have hgy1119 := up_n egy952 hgy1118 (ne_o (i := i) (c := 17) (d := 20) rfl)
              have hgy1120 := (hfvy970 (i + 17) (ne_o (i := i) (c := 17) (d := 0) rfl)).trans hgy1119
              have hgy1121 := (hfvy1065 (i + 17) (ne_o (i := i) (c := 17) (d := 0) rfl)).trans hgy1120
              have hgy1122 := up_n egy1072 hgy1121 (ne_o (i := i) (c := 17) (d := 21) rfl)
              have hgy1123 := up_n egy1078 hgy1122 (ne_o (i := i) (c := 17) (d := 0) rfl)
              have hgy1124 := (hfvy37 (i + 18) (ne_o (i := i) (c := 18) (d := 0) rfl)).trans ha18
              have hgy1125 := (hfvy47 (i + 18) (ne_o (i := i) (c := 18) (d := 0) rfl)).trans hgy1124
              have hgy1126 := (hfvy904 (i + 18) (ne_o (i := i) (c := 18) (d := 0) rfl)).trans hgy1125
              have hgy1127 := up_n egy911 hgy1126 (ne_o (i := i) (c := 18) (d := 19) rfl)
              have hgy1128 := up_n egy921 hgy1127 (ne_o (i := i) (c := 18) (d := 20) rfl)
              have hgy1129 := up_n egy932 hgy1128 (ne_o (i := i) (c := 18) (d := 21) rfl)
              have hgy1130 := up_n egy952 hgy1129 (ne_o (i := i) (c := 18) (d := 20) rfl)
              have hgy1131 := (hfvy970 (i + 18) (ne_o (i := i) (c := 18) (d := 0) rfl)).trans hgy1130
              have hgy1132 := (hfvy1065 (i + 18) (ne_o (i := i) (c := 18) (d := 0) rfl)).trans hgy1131
              have hgy1133 := up_n egy1072 hgy1132 (ne_o (i := i) (c := 18) (d := 21) rfl)
              have hgy1134 := up_n egy1078 hgy1133 (ne_o (i := i) (c := 18) (d := 0) rfl)
              have hgy1135 := up_n egy921 hgy912 (ne_o (i := i) (c := 19) (d := 20) rfl)
              have hgy1136 := up_n egy932 hgy1135 (ne_o (i := i) (c := 19) (d := 21) rfl)
              have hgy1137 := up_n egy952 hgy1136 (ne_o (i := i) (c := 19) (d := 20) rfl)
              have hgy1138 := (hfvy970 (i + 19) (ne_o (i := i) (c := 19) (d := 0) rfl)).trans hgy1137
              have hgy1139 := (hfvy1065 (i + 19) (ne_o (i := i) (c := 19) (d := 0) rfl)).trans hgy1138
              have hgy1140 := up_n egy1072 hgy1139 (ne_o (i := i) (c := 19) (d := 21) rfl)
              have hgy1141 := up_n egy1078 hgy1140 (ne_o (i := i) (c := 19) (d := 0) rfl)
              have hgy1142 := (hfvy1065 (i + 20) (ne_o (i := i) (c := 20) (d := 0) rfl)).trans hgy971
              have hgy1143 := up_n egy1072 hgy1142 (ne_o (i := i) (c := 20) (d := 21) rfl)
              have hgy1144 := up_n egy1078 hgy1143 (ne_o (i := i) (c := 20) (d := 0) rfl)
              have hgy1145 := up_n egy1078 hgy1073 (ne_o (i := i) (c := 21) (d := 0) rfl)
              have hgy1146 := (hfvy37 (i + 22) (ne_o (i := i) (c := 22) (d := 0) rfl)).trans ha22
              have hgy1147 := (hfvy47 (i + 22) (ne_o (i := i) (c := 22) (d := 0) rfl)).trans hgy1146
              have hgy1148 := (hfvy904 (i + 22) (ne_o (i := i) (c := 22) (d := 0) rfl)).trans hgy1147
              have hgy1149 := up_n egy911 hgy1148 (ne_o (i := i) (c := 22) (d := 19) rfl)
              have hgy1150 := up_n egy921 hgy1149 (ne_o (i := i) (c := 22) (d := 20) rfl)
              have hgy1151 := up_n egy932 hgy1150 (ne_o (i := i) (c := 22) (d := 21) rfl)
              have hgy1152 := up_n egy952 hgy1151 (ne_o (i := i) (c := 22) (d := 20) rfl)
              have hgy1153 := (hfvy970 (i + 22) (ne_o (i := i) (c := 22) (d := 0) rfl)).trans hgy1152
              have hgy1154 := (hfvy1065 (i + 22) (ne_o (i := i) (c := 22) (d := 0) rfl)).trans hgy1153
              have hgy1155 := up_n egy1072 hgy1154 (ne_o (i := i) (c := 22) (d := 21) rfl)
              have hgy1156 := up_n egy1078 hgy1155 (ne_o (i := i) (c := 22) (d := 0) rfl)
              have hgy1157 := (hfvy37 (i + 23) (ne_o (i := i) (c := 23) (d := 0) rfl)).trans ha23
              have hgy1158 := (hfvy47 (i + 23) (ne_o (i := i) (c := 23) (d := 0) rfl)).trans hgy1157
              have hgy1159 := (hfvy904 (i + 23) (ne_o (i := i) (c := 23) (d := 0) rfl)).trans hgy1158
              have hgy1160 := up_n egy911 hgy1159 (ne_o (i := i) (c := 23) (d := 19) rfl)
              have hgy1161 := up_n egy921 hgy1160 (ne_o (i := i) (c := 23) (d := 20) rfl)
              have hgy1162 := up_n egy932 hgy1161 (ne_o (i := i) (c := 23) (d := 21) rfl)
              have hgy1163 := up_n egy952 hgy1162 (ne_o (i := i) (c := 23) (d := 20) rfl)
              have hgy1164 := (hfvy970 (i + 23) (ne_o (i := i) (c := 23) (d := 0) rfl)).trans hgy1163
              have hgy1165 := (hfvy1065 (i + 23) (ne_o (i := i) (c := 23) (d := 0) rfl)).trans hgy1164
              have hgy1166 := up_n egy1072 hgy1165 (ne_o (i := i) (c := 23) (d := 21) rfl)
              have hgy1167 := up_n egy1078 hgy1166 (ne_o (i := i) (c := 23) (d := 0) rfl)
              have htxy1168 : okTx cs gy1077 i (uZ Fvy1065 48 ((F 48) + 1)) := ⟨_, _, _, _, _, _, _, _, ⟨hgy1112, hgy1123, hgy1134, hgy1141, hgy1144, hgy1145, hgy1156, hgy1167⟩, ⟨⟨by omega, by omega, by omega⟩, hop1, hmn1, haky1093, haky1096, htb1, hlay1101⟩⟩
              exact z_vret C hr hlk dX10_hour1_207 (by decide) (by decide) ⟨rfl, rfl, rfl, ⟨_, hgy1079, hrdy1088, by omega, by omega, hFy1080, htxy1168⟩, fun j j1 j2 => by rw [egy1078, va_up_ne _ _ (by omega)]; rw [egy1072, va_up_ne _ _ (by omega)]; rw [hfvy1065 _ (by omega)]; rw [hfvy970 _ (by omega)]; rw [egy952, va_up_ne _ _ (by omega)]; rw [egy932, va_up_ne _ _ (by omega)]; rw [egy921, va_up_ne _ _ (by omega)]; rw [egy911, va_up_ne _ _ (by omega)]; rw [hfvy904 _ (by omega)]; rw [hfvy47 _ (by omega)]; rw [hfvy37 _ (by omega)]⟩
          · refine z_aload_n C 2 dX10_hour1_131 rfl ?_
            refine z_iconst (z := 4) C dX10_hour1_132 rfl ?_
            have hey1169 : Fvy904 32 = Fvy904 32 := rfl
            have hey1170 : Fvy904 33 = Fvy904 33 := rfl
            have hey1171 : Fvy904 34 = F 34 := ((hFvy904 34 (by decide) (by decide) (by decide) (by decide) (by decide) (by decide) (by decide)).trans ((hFvy47 34 (by decide) (by decide) (by decide) (by decide) (by decide)).trans (hFvy37 34 (by decide) (by decide))))
            have hey1172 : Fvy904 35 = Fvy904 35 := rfl
            have hey1173 : Fvy904 36 = Fvy904 36 := rfl
            have hey1174 : Fvy904 37 = Fvy904 37 := rfl
            have hey1175 : Fvy904 38 = 0 := hxvy904
            have hrdy1176 : RD Fvy904 := by unfold RD; omega
            have hey1178 : Fvy904 38 = 0 := hxvy904
            have hey1179 : Fvy904 35 = Fvy904 35 := rfl
            have hey1180 : Fvy904 37 = Fvy904 37 := rfl
            refine z_cV (As := [.int (zI (4))]) (rest := []) (ci := 12) C (c_X10_is l D A cs tt N ad _ i hN _ hgy936 hrdy1176 (4) (by omega)) (by omega) hay1 hgy936 rfl rfl mv_yX10_is q_1705 hd_yX10_is (by decide) (Nat.le_of_ble_eq_true rfl) (by decide) dX10_hour1_133 rfl (kI0 fun vy1177 gvy1177 hvy1177 => ?_)
            rw [hey1178, hey1179, hey1180] at hvy1177
            obtain ⟨hrvy1177, hqvy1177, rfl⟩ := hvy1177
            refine z_if_ne (tgt := 147) C dX10_hour1_136 (by decide) (by omega) (fun hby1181 => ?_) (fun hby1181 => ?_)
            · refine z_aload_n C 2 dX10_hour1_147 rfl ?_
              refine z_get (v := .ref (ad (i + 20))) C (by omega) hay1 hgy936 rfl inA_X10 43 (by decide) q_1502 rfl rfl dX10_hour1_148 ?_
              refine z_aload_n C 2 dX10_hour1_151 rfl ?_
              refine z_get (v := .int (zI (F 48))) C (by omega) hay1 hgy936 rfl inA_X10 48 (by decide) q_1507 rfl (fv (F := Fvy904) (f := 48) ((hFvy904 48 (by decide) (by decide) (by decide) (by decide) (by decide) (by decide) (by decide)).trans ((hFvy47 48 (by decide) (by decide) (by decide) (by decide) (by decide)).trans (hFvy37 48 (by decide) (by decide))))) dX10_hour1_152 ?_
              refine z_aload_n C 2 dX10_hour1_155 rfl ?_
              refine z_get (v := .int (zI (Fvy904 37))) C (by omega) hay1 hgy936 rfl inA_X10 37 (by decide) q_1496 rfl (fv (F := Fvy904) (f := 37) rfl) dX10_hour1_156 ?_
              refine z_iconst (z := 3) C dX10_hour1_159 rfl ?_
              refine z_isub C dX10_hour1_160 ?_
              refine z_iconst (z := 1) C dX10_hour1_161 rfl ?_
              refine z_iadd C dX10_hour1_162 ?_
              have hgy1182 := up_n egy932 hgy922 (ne_o (i := i) (c := 20) (d := 21) rfl)
              refine z_iast C (by omega) hay7 hgy1182 ((F 48).toNat) (by omega) (by omega) (by decide) dX10_hour1_163 (fun gy1183 egy1184 => ?_)
              have hgy1185 := up_s egy1184
              obtain ⟨ry1186, hvy1187⟩ : ∃ rZ9 : Nat → Int, rZ9 = uZ ry923 ((F 48).toNat) (((Fvy904 37) - 3) + 1) := ⟨_, rfl⟩
              rw [← hvy1187] at hgy1185
              refine z_aload_n C 2 dX10_hour1_164 rfl ?_
              have hgy1188 := up_n egy1184 hgy936 (ne_o (i := i) (c := 0) (d := 20) rfl)
              have hey1189 : Fvy904 32 = Fvy904 32 := rfl
              have hey1190 : Fvy904 33 = Fvy904 33 := rfl
              have hey1191 : Fvy904 34 = F 34 := ((hFvy904 34 (by decide) (by decide) (by decide) (by decide) (by decide) (by decide) (by decide)).trans ((hFvy47 34 (by decide) (by decide) (by decide) (by decide) (by decide)).trans (hFvy37 34 (by decide) (by decide))))
              have hey1192 : Fvy904 35 = Fvy904 35 := rfl
              have hey1193 : Fvy904 36 = Fvy904 36 := rfl
              have hey1194 : Fvy904 37 = Fvy904 37 := rfl
              have hey1195 : Fvy904 38 = 0 := hxvy904
              have hrdy1196 : RD Fvy904 := by unfold RD; omega
              have hgy1197 := (hfvy904 (i + 13) (ne_o (i := i) (c := 13) (d := 0) rfl)).trans hgy903
              have hgy1198 := up_n egy911 hgy1197 (ne_o (i := i) (c := 13) (d := 19) rfl)
              have hgy1199 := up_n egy921 hgy1198 (ne_o (i := i) (c := 13) (d := 20) rfl)
              have hgy1200 := up_n egy932 hgy1199 (ne_o (i := i) (c := 13) (d := 21) rfl)
              have hgy1201 := up_n egy1184 hgy1200 (ne_o (i := i) (c := 13) (d := 20) rfl)
              refine z_cV (As := []) (rest := []) (ci := 12) C (c_X10_go l D A cs tt N ad _ i hN _ hgy1188 _ hgy1201 htp hrdy1196) (by omega) hay1 hgy1188 rfl rfl mv_yX10_go q_1652 hd_yX10_go (by decide) (Nat.le_of_ble_eq_true rfl) (by decide) dX10_hour1_165 rfl (kV0 fun gvy1202 hvy1202 => ?_)
              obtain ⟨⟨Fvy1202, hcvy1202, hdvy1202, hlvy1202, hsvy1202, hFvy1202⟩, hfvy1202⟩ := hvy1202
              have h32vy1202 : Fvy904 32 = Fvy904 32 := rfl
              have h34vy1202 : Fvy1202 34 = F 34 := (hFvy1202 34 (by decide) (by decide) (by decide) (by decide) (by decide)).trans (((hFvy904 34 (by decide) (by decide) (by decide) (by decide) (by decide) (by decide) (by decide)).trans ((hFvy47 34 (by decide) (by decide) (by decide) (by decide) (by decide)).trans (hFvy37 34 (by decide) (by decide)))))
              obtain ⟨d32vy1202, d33vy1202, d35vy1202, d36vy1202, d2vy1202, d37vy1202, d38vy1202⟩ := id hdvy1202
              have h38vy1202 : Fvy1202 38 = 0 := ((hFvy1202 38 (by decide) (by decide) (by decide) (by decide) (by decide)).trans hxvy904)
              refine z_aload_n C 2 dX10_hour1_168 rfl ?_
              refine z_get (v := .ref (ad (i + 20))) C (by omega) hay1 hcvy1202 rfl inA_X10 43 (by decide) q_1502 rfl rfl dX10_hour1_169 ?_
              refine z_aload_n C 2 dX10_hour1_172 rfl ?_
              refine z_get (v := .int (zI (F 48))) C (by omega) hay1 hcvy1202 rfl inA_X10 48 (by decide) q_1507 rfl (fv (F := Fvy1202) (f := 48) ((hFvy1202 48 (by decide) (by decide) (by decide) (by decide) (by decide)).trans ((hFvy904 48 (by decide) (by decide) (by decide) (by decide) (by decide) (by decide) (by decide)).trans ((hFvy47 48 (by decide) (by decide) (by decide) (by decide) (by decide)).trans (hFvy37 48 (by decide) (by decide)))))) dX10_hour1_173 ?_
              have hgy1203 := (hfvy1202 (i + 20) (ne_o (i := i) (c := 20) (d := 0) rfl)).trans hgy1185
              refine z_iald C (by omega) hay7 hgy1203 ((F 48).toNat) (by omega) (by omega) (by decide) dX10_hour1_176 ?_
              rw [show ry1186 ((F 48).toNat) = ((Fvy904 37) - 3) + 1 from (congrFun hvy1187 _).trans (uZ_s _ _ _)]
              refine z_iconst (z := 3) C dX10_hour1_177 rfl ?_
              obtain ⟨xy1204, exy1205, hxy1206⟩ := zI_of (zI (((Fvy904 37) - 3) + 1))
              rw [exy1205]
              refine z_icmp_ge (tgt := 197) C dX10_hour1_178 (by decide) (by omega) (by omega) (fun hby1207 => ?_) (fun hby1207 => ?_)
              · refine z_aload_n C 2 dX10_hour1_197 rfl ?_
                refine z_dup C dX10_hour1_198 rfl ?_
                refine z_get (v := .int (zI (F 48))) C (by omega) hay1 hcvy1202 rfl inA_X10 48 (by decide) q_1507 rfl (fv (F := Fvy1202) (f := 48) ((hFvy1202 48 (by decide) (by decide) (by decide) (by decide) (by decide)).trans ((hFvy904 48 (by decide) (by decide) (by decide) (by decide) (by decide) (by decide) (by decide)).trans ((hFvy47 48 (by decide) (by decide) (by decide) (by decide) (by decide)).trans (hFvy37 48 (by decide) (by decide)))))) dX10_hour1_199 ?_
                refine z_iconst (z := 1) C dX10_hour1_202 rfl ?_
                refine z_iadd C dX10_hour1_203 ?_
                refine z_put (fs' := mF ad (i) (uZ Fvy1202 48 ((F 48) + 1))) C (by omega) hay1 hcvy1202 tyX10 tyX10_ok nmX10 rfl inA_X10 48 (by decide) q_1507 rfl rfl rfl rfl (Nat.le_of_ble_eq_true rfl) rfl dX10_hour1_204 (fun gy1208 egy1209 => ?_)
                have hgy1210 := up_s egy1209
                have hFy1211 : ∀ f, f ≠ 24 → f ≠ 32 → f ≠ 33 → f ≠ 35 → f ≠ 36 → f ≠ 37 → f ≠ 38 → f ≠ 47 → f ≠ 48 → f ≠ 49 → (uZ Fvy1202 48 ((F 48) + 1)) f = F f := fun f n24 n32 n33 n35 n36 n37 n38 n47 n48 n49 => ((uZ_n _ _ n48).trans ((hFvy1202 f n32 n33 n35 n36 n37).trans ((hFvy904 f n24 n32 n33 n35 n36 n37 n38).trans ((hFvy47 f n32 n33 n35 n36 n37).trans (hFvy37 f n24 n38)))))
                have hey1212 : (uZ Fvy1202 48 ((F 48) + 1)) 32 = Fvy1202 32 := (fn rfl (by decide))
                have hey1213 : (uZ Fvy1202 48 ((F 48) + 1)) 33 = Fvy1202 33 := (fn rfl (by decide))
                have hey1214 : (uZ Fvy1202 48 ((F 48) + 1)) 34 = F 34 := (fn ((hFvy1202 34 (by decide) (by decide) (by decide) (by decide) (by decide)).trans ((hFvy904 34 (by decide) (by decide) (by decide) (by decide) (by decide) (by decide) (by decide)).trans ((hFvy47 34 (by decide) (by decide) (by decide) (by decide) (by decide)).trans (hFvy37 34 (by decide) (by decide))))) (by decide))
                have hey1215 : (uZ Fvy1202 48 ((F 48) + 1)) 35 = Fvy1202 35 := (fn rfl (by decide))
                have hey1216 : (uZ Fvy1202 48 ((F 48) + 1)) 36 = Fvy1202 36 := (fn rfl (by decide))
                have hey1217 : (uZ Fvy1202 48 ((F 48) + 1)) 37 = Fvy1202 37 := (fn rfl (by decide))
                have hey1218 : (uZ Fvy1202 48 ((F 48) + 1)) 38 = 0 := (fn ((hFvy1202 38 (by decide) (by decide) (by decide) (by decide) (by decide)).trans hxvy904) (by decide))
                have hrdy1219 : RD (uZ Fvy1202 48 ((F 48) + 1)) := by unfold RD; omega
                have hey1220 : (uZ Fvy1202 48 ((F 48) + 1)) 32 = Fvy1202 32 := (fn rfl (by decide))
                have hey1221 : (uZ Fvy1202 48 ((F 48) + 1)) 47 = F 47 := (fn ((hFvy1202 47 (by decide) (by decide) (by decide) (by decide) (by decide)).trans ((hFvy904 47 (by decide) (by decide) (by decide) (by decide) (by decide) (by decide) (by decide)).trans ((hFvy47 47 (by decide) (by decide) (by decide) (by decide) (by decide)).trans (hFvy37 47 (by decide) (by decide))))) (by decide))
                have hey1222 : (uZ Fvy1202 48 ((F 48) + 1)) 48 = (F 48) + 1 := (uZ_s _ _ _)
                have hey1223 : (uZ Fvy1202 48 ((F 48) + 1)) 49 = F 49 := (fn ((hFvy1202 49 (by decide) (by decide) (by decide) (by decide) (by decide)).trans ((hFvy904 49 (by decide) (by decide) (by decide) (by decide) (by decide) (by decide) (by decide)).trans ((hFvy47 49 (by decide) (by decide) (by decide) (by decide) (by decide)).trans (hFvy37 49 (by decide) (by decide))))) (by decide))
                have hfry1225 : ∀ j, j ≠ (F 48).toNat → ry913 j = ai1 j := fun j n0 => (congrFun hvy914 _).trans ((uZ_n _ _ n0).trans (rfl))
                have hwy1226 : ry913 ((F 48).toNat) = vy904 := (congrFun hvy914 _).trans (uZ_s _ _ _)
                have haky1224 : ∀ k, k < 24 → -300 ≤ ry913 k ∧ ry913 k ≤ 100 := by
                  intro k hk
                  by_cases e : k = (F 48).toNat
                  · subst e; have hk0 := hai1 ((F 48).toNat) (by omega); omega
                  · have hk0 := hai1 k hk; rw [hfry1225 k e]; exact hk0
                have hfry1228 : ∀ j, j ≠ (F 48).toNat → ry1186 j = fa1 j := fun j n0 => (congrFun hvy1187 _).trans ((uZ_n _ _ n0).trans ((congrFun hvy924 _).trans ((uZ_n _ _ n0).trans (rfl))))
                have hfry1229 : ∀ j, j ≠ (F 48).toNat → ry934 j = mu1 j := fun j n0 => (congrFun hvy935 _).trans ((uZ_n _ _ n0).trans (rfl))
                have hwy1230 : ry1186 ((F 48).toNat) = ((Fvy904 37) - 3) + 1 := (congrFun hvy1187 _).trans (uZ_s _ _ _)
                have hwy1231 : ry934 ((F 48).toNat) = 0 := (congrFun hvy935 _).trans (uZ_s _ _ _)
                have haky1227 : ∀ k, k < 24 → (0 ≤ ry1186 k ∧ ry1186 k ≤ 3) ∧ (0 ≤ ry934 k ∧ ry934 k ≤ 50) ∧ (ry1186 k = 1 ∨ ry1186 k = 2 → 1 ≤ ry934 k) := by
                  intro k hk
                  by_cases e : k = (F 48).toNat
                  · subst e; have hk0 := hfa1 ((F 48).toNat) (by omega); omega
                  · have hk0 := hfa1 k hk; rw [hfry1228 k e]; rw [hfry1229 k e]; exact hk0
                have hlay1232 : ∀ s l : Nat, (s : Int) < (uZ Fvy1202 48 ((F 48) + 1)) 47 → (l : Int) < mn1 s → lyT ly1 (84 * s + 7 * l) := fun s l a1 a2 => hly1 s l (by omega) a2
                have hgy1233 := (hfvy37 (i + 16) (ne_o (i := i) (c := 16) (d := 0) rfl)).trans ha16
                have hgy1234 := (hfvy47 (i + 16) (ne_o (i := i) (c := 16) (d := 0) rfl)).trans hgy1233
                have hgy1235 := (hfvy904 (i + 16) (ne_o (i := i) (c := 16) (d := 0) rfl)).trans hgy1234
                have hgy1236 := up_n egy911 hgy1235 (ne_o (i := i) (c := 16) (d := 19) rfl)
                have hgy1237 := up_n egy921 hgy1236 (ne_o (i := i) (c := 16) (d := 20) rfl)
                have hgy1238 := up_n egy932 hgy1237 (ne_o (i := i) (c := 16) (d := 21) rfl)
                have hgy1239 := up_n egy1184 hgy1238 (ne_o (i := i) (c := 16) (d := 20) rfl)
                have hgy1240 := (hfvy1202 (i + 16) (ne_o (i := i) (c := 16) (d := 0) rfl)).trans hgy1239
                have hgy1241 := up_n egy1209 hgy1240 (ne_o (i := i) (c := 16) (d := 0) rfl)
                have hgy1242 := (hfvy37 (i + 17) (ne_o (i := i) (c := 17) (d := 0) rfl)).trans ha17
                have hgy1243 := (hfvy47 (i + 17) (ne_o (i := i) (c := 17) (d := 0) rfl)).trans hgy1242
                have hgy1244 := (hfvy904 (i + 17) (ne_o (i := i) (c := 17) (d := 0) rfl)).trans hgy1243
                have hgy1245 := up_n egy911 hgy1244 (ne_o (i := i) (c := 17) (d := 19) rfl)
                have hgy1246 := up_n egy921 hgy1245 (ne_o (i := i) (c := 17) (d := 20) rfl)
                have hgy1247 := up_n egy932 hgy1246 (ne_o (i := i) (c := 17) (d := 21) rfl)
                have hgy1248 := up_n egy1184 hgy1247 (ne_o (i := i) (c := 17) (d := 20) rfl)
                have hgy1249 := (hfvy1202 (i + 17) (ne_o (i := i) (c := 17) (d := 0) rfl)).trans hgy1248
                have hgy1250 := up_n egy1209 hgy1249 (ne_o (i := i) (c := 17) (d := 0) rfl)
                have hgy1251 := (hfvy37 (i + 18) (ne_o (i := i) (c := 18) (d := 0) rfl)).trans ha18
                have hgy1252 := (hfvy47 (i + 18) (ne_o (i := i) (c := 18) (d := 0) rfl)).trans hgy1251
                have hgy1253 := (hfvy904 (i + 18) (ne_o (i := i) (c := 18) (d := 0) rfl)).trans hgy1252
                have hgy1254 := up_n egy911 hgy1253 (ne_o (i := i) (c := 18) (d := 19) rfl)
                have hgy1255 := up_n egy921 hgy1254 (ne_o (i := i) (c := 18) (d := 20) rfl)
                have hgy1256 := up_n egy932 hgy1255 (ne_o (i := i) (c := 18) (d := 21) rfl)
                have hgy1257 := up_n egy1184 hgy1256 (ne_o (i := i) (c := 18) (d := 20) rfl)
                have hgy1258 := (hfvy1202 (i + 18) (ne_o (i := i) (c := 18) (d := 0) rfl)).trans hgy1257
                have hgy1259 := up_n egy1209 hgy1258 (ne_o (i := i) (c := 18) (d := 0) rfl)
                have hgy1260 := up_n egy921 hgy912 (ne_o (i := i) (c := 19) (d := 20) rfl)
                have hgy1261 := up_n egy932 hgy1260 (ne_o (i := i) (c := 19) (d := 21) rfl)
                have hgy1262 := up_n egy1184 hgy1261 (ne_o (i := i) (c := 19) (d := 20) rfl)
                have hgy1263 := (hfvy1202 (i + 19) (ne_o (i := i) (c := 19) (d := 0) rfl)).trans hgy1262
                have hgy1264 := up_n egy1209 hgy1263 (ne_o (i := i) (c := 19) (d := 0) rfl)
                have hgy1265 := up_n egy1209 hgy1203 (ne_o (i := i) (c := 20) (d := 0) rfl)
                have hgy1266 := up_n egy1184 hgy933 (ne_o (i := i) (c := 21) (d := 20) rfl)
                have hgy1267 := (hfvy1202 (i + 21) (ne_o (i := i) (c := 21) (d := 0) rfl)).trans hgy1266
                have hgy1268 := up_n egy1209 hgy1267 (ne_o (i := i) (c := 21) (d := 0) rfl)
                have hgy1269 := (hfvy37 (i + 22) (ne_o (i := i) (c := 22) (d := 0) rfl)).trans ha22
                have hgy1270 := (hfvy47 (i + 22) (ne_o (i := i) (c := 22) (d := 0) rfl)).trans hgy1269
                have hgy1271 := (hfvy904 (i + 22) (ne_o (i := i) (c := 22) (d := 0) rfl)).trans hgy1270
                have hgy1272 := up_n egy911 hgy1271 (ne_o (i := i) (c := 22) (d := 19) rfl)
                have hgy1273 := up_n egy921 hgy1272 (ne_o (i := i) (c := 22) (d := 20) rfl)
                have hgy1274 := up_n egy932 hgy1273 (ne_o (i := i) (c := 22) (d := 21) rfl)
                have hgy1275 := up_n egy1184 hgy1274 (ne_o (i := i) (c := 22) (d := 20) rfl)
                have hgy1276 := (hfvy1202 (i + 22) (ne_o (i := i) (c := 22) (d := 0) rfl)).trans hgy1275
                have hgy1277 := up_n egy1209 hgy1276 (ne_o (i := i) (c := 22) (d := 0) rfl)
                have hgy1278 := (hfvy37 (i + 23) (ne_o (i := i) (c := 23) (d := 0) rfl)).trans ha23
                have hgy1279 := (hfvy47 (i + 23) (ne_o (i := i) (c := 23) (d := 0) rfl)).trans hgy1278
                have hgy1280 := (hfvy904 (i + 23) (ne_o (i := i) (c := 23) (d := 0) rfl)).trans hgy1279
                have hgy1281 := up_n egy911 hgy1280 (ne_o (i := i) (c := 23) (d := 19) rfl)
                have hgy1282 := up_n egy921 hgy1281 (ne_o (i := i) (c := 23) (d := 20) rfl)
                have hgy1283 := up_n egy932 hgy1282 (ne_o (i := i) (c := 23) (d := 21) rfl)
                have hgy1284 := up_n egy1184 hgy1283 (ne_o (i := i) (c := 23) (d := 20) rfl)
                have hgy1285 := (hfvy1202 (i + 23) (ne_o (i := i) (c := 23) (d := 0) rfl)).trans hgy1284
                have hgy1286 := up_n egy1209 hgy1285 (ne_o (i := i) (c := 23) (d := 0) rfl)
                have htxy1287 : okTx cs gy1208 i (uZ Fvy1202 48 ((F 48) + 1)) := ⟨_, _, _, _, _, _, _, _, ⟨hgy1241, hgy1250, hgy1259, hgy1264, hgy1265, hgy1268, hgy1277, hgy1286⟩, ⟨⟨by omega, by omega, by omega⟩, hop1, hmn1, haky1224, haky1227, htb1, hlay1232⟩⟩
                exact z_vret C hr hlk dX10_hour1_207 (by decide) (by decide) ⟨rfl, rfl, rfl, ⟨_, hgy1210, hrdy1219, by omega, by omega, hFy1211, htxy1287⟩, fun j j1 j2 => by rw [egy1209, va_up_ne _ _ (by omega)]; rw [hfvy1202 _ (by omega)]; rw [egy1184, va_up_ne _ _ (by omega)]; rw [egy932, va_up_ne _ _ (by omega)]; rw [egy921, va_up_ne _ _ (by omega)]; rw [egy911, va_up_ne _ _ (by omega)]; rw [hfvy904 _ (by omega)]; rw [hfvy47 _ (by omega)]; rw [hfvy37 _ (by omega)]⟩
              · refine z_aload_n C 2 dX10_hour1_181 rfl ?_
                refine z_get (v := .ref (ad (i + 21))) C (by omega) hay1 hcvy1202 rfl inA_X10 44 (by decide) q_1503 rfl rfl dX10_hour1_182 ?_
                refine z_aload_n C 2 dX10_hour1_185 rfl ?_
                refine z_get (v := .int (zI (F 48))) C (by omega) hay1 hcvy1202 rfl inA_X10 48 (by decide) q_1507 rfl (fv (F := Fvy1202) (f := 48) ((hFvy1202 48 (by decide) (by decide) (by decide) (by decide) (by decide)).trans ((hFvy904 48 (by decide) (by decide) (by decide) (by decide) (by decide) (by decide) (by decide)).trans ((hFvy47 48 (by decide) (by decide) (by decide) (by decide) (by decide)).trans (hFvy37 48 (by decide) (by decide)))))) dX10_hour1_186 ?_
                refine z_aload_n C 2 dX10_hour1_189 rfl ?_
                refine z_iconst (z := 1) C dX10_hour1_190 rfl ?_
                refine z_bipush (z := 50) C dX10_hour1_191 (by decide) ?_
                have hey1288 : Fvy1202 32 = Fvy1202 32 := rfl
                have hey1289 : Fvy1202 33 = Fvy1202 33 := rfl
                have hey1290 : Fvy1202 34 = F 34 := ((hFvy1202 34 (by decide) (by decide) (by decide) (by decide) (by decide)).trans ((hFvy904 34 (by decide) (by decide) (by decide) (by decide) (by decide) (by decide) (by decide)).trans ((hFvy47 34 (by decide) (by decide) (by decide) (by decide) (by decide)).trans (hFvy37 34 (by decide) (by decide)))))
                have hey1291 : Fvy1202 35 = Fvy1202 35 := rfl
                have hey1292 : Fvy1202 36 = Fvy1202 36 := rfl
                have hey1293 : Fvy1202 37 = Fvy1202 37 := rfl
                have hey1294 : Fvy1202 38 = 0 := ((hFvy1202 38 (by decide) (by decide) (by decide) (by decide) (by decide)).trans hxvy904)
                have hrdy1295 : RD Fvy1202 := by unfold RD; omega
                have hgy1296 := (hfvy1202 (i + 13) (ne_o (i := i) (c := 13) (d := 0) rfl)).trans hgy1201
                have hey1298 : Fvy1202 38 = 0 := ((hFvy1202 38 (by decide) (by decide) (by decide) (by decide) (by decide)).trans hxvy904)
                have hey1299 : Fvy1202 35 = Fvy1202 35 := rfl
                refine z_cV (As := [.int (zI (1)), .int (zI (50))]) (rest := [.int (zI (F 48)), .ref (ad (i + 21))]) (ci := 12) C (c_X10_number l D A cs tt N ad _ i hN _ hcvy1202 _ hgy1296 htp hrdy1295 (1) (by omega) (50) (by omega)) (by omega) hay1 hcvy1202 rfl rfl mv_yX10_number q_1682 hd_yX10_number (by decide) (Nat.le_of_ble_eq_true rfl) (by decide) dX10_hour1_193 rfl (kI0 fun vy1297 gvy1297 hvy1297 => ?_)
                obtain ⟨hrvy1297, ⟨Fvy1297, hcvy1297, hdvy1297, hlvy1297, hsvy1297, hFvy1297⟩, hfvy1297⟩ := hvy1297
                have h32vy1297 : Fvy1202 32 = Fvy1202 32 := rfl
                have h34vy1297 : Fvy1297 34 = F 34 := (hFvy1297 34 (by decide) (by decide) (by decide) (by decide) (by decide) (by decide) (by decide)).trans (((hFvy1202 34 (by decide) (by decide) (by decide) (by decide) (by decide)).trans ((hFvy904 34 (by decide) (by decide) (by decide) (by decide) (by decide) (by decide) (by decide)).trans ((hFvy47 34 (by decide) (by decide) (by decide) (by decide) (by decide)).trans (hFvy37 34 (by decide) (by decide))))))
                obtain ⟨d32vy1297, d33vy1297, d35vy1297, d36vy1297, d2vy1297, d37vy1297, d38vy1297⟩ := id hdvy1297
                have hgy1300 := up_n egy1184 hgy933 (ne_o (i := i) (c := 21) (d := 20) rfl)
                have hgy1301 := (hfvy1202 (i + 21) (ne_o (i := i) (c := 21) (d := 0) rfl)).trans hgy1300
                have hgy1302 := (hfvy1297 (i + 21) (ne_o (i := i) (c := 21) (d := 0) rfl)).trans hgy1301
                refine z_iast C (by omega) hay8 hgy1302 ((F 48).toNat) (by omega) (by omega) (by decide) dX10_hour1_196 (fun gy1303 egy1304 => ?_)
                have hgy1305 := up_s egy1304
                obtain ⟨ry1306, hvy1307⟩ : ∃ rZ9 : Nat → Int, rZ9 = uZ ry934 ((F 48).toNat) (vy1297) := ⟨_, rfl⟩
                rw [← hvy1307] at hgy1305
                refine z_aload_n C 2 dX10_hour1_197 rfl ?_
                refine z_dup C dX10_hour1_198 rfl ?_
                have hgy1308 := up_n egy1304 hcvy1297 (ne_o (i := i) (c := 0) (d := 21) rfl)
                refine z_get (v := .int (zI (F 48))) C (by omega) hay1 hgy1308 rfl inA_X10 48 (by decide) q_1507 rfl (fv (F := Fvy1297) (f := 48) ((hFvy1297 48 (by decide) (by decide) (by decide) (by decide) (by decide) (by decide) (by decide)).trans ((hFvy1202 48 (by decide) (by decide) (by decide) (by decide) (by decide)).trans ((hFvy904 48 (by decide) (by decide) (by decide) (by decide) (by decide) (by decide) (by decide)).trans ((hFvy47 48 (by decide) (by decide) (by decide) (by decide) (by decide)).trans (hFvy37 48 (by decide) (by decide))))))) dX10_hour1_199 ?_
                refine z_iconst (z := 1) C dX10_hour1_202 rfl ?_
                refine z_iadd C dX10_hour1_203 ?_
                refine z_put (fs' := mF ad (i) (uZ Fvy1297 48 ((F 48) + 1))) C (by omega) hay1 hgy1308 tyX10 tyX10_ok nmX10 rfl inA_X10 48 (by decide) q_1507 rfl rfl rfl rfl (Nat.le_of_ble_eq_true rfl) rfl dX10_hour1_204 (fun gy1309 egy1310 => ?_)
                have hgy1311 := up_s egy1310
                have hFy1312 : ∀ f, f ≠ 24 → f ≠ 32 → f ≠ 33 → f ≠ 35 → f ≠ 36 → f ≠ 37 → f ≠ 38 → f ≠ 47 → f ≠ 48 → f ≠ 49 → (uZ Fvy1297 48 ((F 48) + 1)) f = F f := fun f n24 n32 n33 n35 n36 n37 n38 n47 n48 n49 => ((uZ_n _ _ n48).trans ((hFvy1297 f n24 n32 n33 n35 n36 n37 n38).trans ((hFvy1202 f n32 n33 n35 n36 n37).trans ((hFvy904 f n24 n32 n33 n35 n36 n37 n38).trans ((hFvy47 f n32 n33 n35 n36 n37).trans (hFvy37 f n24 n38))))))
                have hey1313 : (uZ Fvy1297 48 ((F 48) + 1)) 32 = Fvy1297 32 := (fn rfl (by decide))
                have hey1314 : (uZ Fvy1297 48 ((F 48) + 1)) 33 = Fvy1297 33 := (fn rfl (by decide))
                have hey1315 : (uZ Fvy1297 48 ((F 48) + 1)) 34 = F 34 := (fn ((hFvy1297 34 (by decide) (by decide) (by decide) (by decide) (by decide) (by decide) (by decide)).trans ((hFvy1202 34 (by decide) (by decide) (by decide) (by decide) (by decide)).trans ((hFvy904 34 (by decide) (by decide) (by decide) (by decide) (by decide) (by decide) (by decide)).trans ((hFvy47 34 (by decide) (by decide) (by decide) (by decide) (by decide)).trans (hFvy37 34 (by decide) (by decide)))))) (by decide))
                have hey1316 : (uZ Fvy1297 48 ((F 48) + 1)) 35 = Fvy1297 35 := (fn rfl (by decide))
                have hey1317 : (uZ Fvy1297 48 ((F 48) + 1)) 36 = Fvy1297 36 := (fn rfl (by decide))
                have hey1318 : (uZ Fvy1297 48 ((F 48) + 1)) 37 = Fvy1297 37 := (fn rfl (by decide))
                have hey1319 : (uZ Fvy1297 48 ((F 48) + 1)) 38 = Fvy1297 38 := (fn rfl (by decide))
                have hrdy1320 : RD (uZ Fvy1297 48 ((F 48) + 1)) := by unfold RD; omega
                have hey1321 : (uZ Fvy1297 48 ((F 48) + 1)) 32 = Fvy1297 32 := (fn rfl (by decide))
                have hey1322 : (uZ Fvy1297 48 ((F 48) + 1)) 47 = F 47 := (fn ((hFvy1297 47 (by decide) (by decide) (by decide) (by decide) (by decide) (by decide) (by decide)).trans ((hFvy1202 47 (by decide) (by decide) (by decide) (by decide) (by decide)).trans ((hFvy904 47 (by decide) (by decide) (by decide) (by decide) (by decide) (by decide) (by decide)).trans ((hFvy47 47 (by decide) (by decide) (by decide) (by decide) (by decide)).trans (hFvy37 47 (by decide) (by decide)))))) (by decide))
                have hey1323 : (uZ Fvy1297 48 ((F 48) + 1)) 48 = (F 48) + 1 := (uZ_s _ _ _)
                have hey1324 : (uZ Fvy1297 48 ((F 48) + 1)) 49 = F 49 := (fn ((hFvy1297 49 (by decide) (by decide) (by decide) (by decide) (by decide) (by decide) (by decide)).trans ((hFvy1202 49 (by decide) (by decide) (by decide) (by decide) (by decide)).trans ((hFvy904 49 (by decide) (by decide) (by decide) (by decide) (by decide) (by decide) (by decide)).trans ((hFvy47 49 (by decide) (by decide) (by decide) (by decide) (by decide)).trans (hFvy37 49 (by decide) (by decide)))))) (by decide))
                have hfry1326 : ∀ j, j ≠ (F 48).toNat → ry913 j = ai1 j := fun j n0 => (congrFun hvy914 _).trans ((uZ_n _ _ n0).trans (rfl))
                have hwy1327 : ry913 ((F 48).toNat) = vy904 := (congrFun hvy914 _).trans (uZ_s _ _ _)
                have haky1325 : ∀ k, k < 24 → -300 ≤ ry913 k ∧ ry913 k ≤ 100 := by
                  intro k hk
                  by_cases e : k = (F 48).toNat
                  · subst e; have hk0 := hai1 ((F 48).toNat) (by omega); omega
                  · have hk0 := hai1 k hk; rw [hfry1326 k e]; exact hk0
                have hfry1329 : ∀ j, j ≠ (F 48).toNat → ry1186 j = fa1 j := fun j n0 => (congrFun hvy1187 _).trans ((uZ_n _ _ n0).trans ((congrFun hvy924 _).trans ((uZ_n _ _ n0).trans (rfl))))
                have hfry1330 : ∀ j, j ≠ (F 48).toNat → ry1306 j = mu1 j := fun j n0 => (congrFun hvy1307 _).trans ((uZ_n _ _ n0).trans ((congrFun hvy935 _).trans ((uZ_n _ _ n0).trans (rfl))))
                have hwy1331 : ry1186 ((F 48).toNat) = ((Fvy904 37) - 3) + 1 := (congrFun hvy1187 _).trans (uZ_s _ _ _)
                have hwy1332 : ry1306 ((F 48).toNat) = vy1297 := (congrFun hvy1307 _).trans (uZ_s _ _ _)
                have haky1328 : ∀ k, k < 24 → (0 ≤ ry1186 k ∧ ry1186 k ≤ 3) ∧ (0 ≤ ry1306 k ∧ ry1306 k ≤ 50) ∧ (ry1186 k = 1 ∨ ry1186 k = 2 → 1 ≤ ry1306 k) := by
                  intro k hk
                  by_cases e : k = (F 48).toNat
                  · subst e; have hk0 := hfa1 ((F 48).toNat) (by omega); omega
                  · have hk0 := hfa1 k hk; rw [hfry1329 k e]; rw [hfry1330 k e]; exact hk0
                have hlay1333 : ∀ s l : Nat, (s : Int) < (uZ Fvy1297 48 ((F 48) + 1)) 47 → (l : Int) < mn1 s → lyT ly1 (84 * s + 7 * l) := fun s l a1 a2 => hly1 s l (by omega) a2
                have hgy1334 := (hfvy37 (i + 16) (ne_o (i := i) (c := 16) (d := 0) rfl)).trans ha16
                have hgy1335 := (hfvy47 (i + 16) (ne_o (i := i) (c := 16) (d := 0) rfl)).trans hgy1334
                have hgy1336 := (hfvy904 (i + 16) (ne_o (i := i) (c := 16) (d := 0) rfl)).trans hgy1335
                have hgy1337 := up_n egy911 hgy1336 (ne_o (i := i) (c := 16) (d := 19) rfl)
                have hgy1338 := up_n egy921 hgy1337 (ne_o (i := i) (c := 16) (d := 20) rfl)
                have hgy1339 := up_n egy932 hgy1338 (ne_o (i := i) (c := 16) (d := 21) rfl)
                have hgy1340 := up_n egy1184 hgy1339 (ne_o (i := i) (c := 16) (d := 20) rfl)
                have hgy1341 := (hfvy1202 (i + 16) (ne_o (i := i) (c := 16) (d := 0) rfl)).trans hgy1340
                have hgy1342 := (hfvy1297 (i + 16) (ne_o (i := i) (c := 16) (d := 0) rfl)).trans hgy1341
                have hgy1343 := up_n egy1304 hgy1342 (ne_o (i := i) (c := 16) (d := 21) rfl)
                have hgy1344 := up_n egy1310 hgy1343 (ne_o (i := i) (c := 16) (d := 0) rfl)
                have hgy1345 := (hfvy37 (i + 17) (ne_o (i := i) (c := 17) (d := 0) rfl)).trans ha17
                have hgy1346 := (hfvy47 (i + 17) (ne_o (i := i) (c := 17) (d := 0) rfl)).trans hgy1345
                have hgy1347 := (hfvy904 (i + 17) (ne_o (i := i) (c := 17) (d := 0) rfl)).trans hgy1346
                have hgy1348 := up_n egy911 hgy1347 (ne_o (i := i) (c := 17) (d := 19) rfl)
                have hgy1349 := up_n egy921 hgy1348 (ne_o (i := i) (c := 17) (d := 20) rfl)
                have hgy1350 := up_n egy932 hgy1349 (ne_o (i := i) (c := 17) (d := 21) rfl)
                have hgy1351 := up_n egy1184 hgy1350 (ne_o (i := i) (c := 17) (d := 20) rfl)
                have hgy1352 := (hfvy1202 (i + 17) (ne_o (i := i) (c := 17) (d := 0) rfl)).trans hgy1351
                have hgy1353 := (hfvy1297 (i + 17) (ne_o (i := i) (c := 17) (d := 0) rfl)).trans hgy1352
                have hgy1354 := up_n egy1304 hgy1353 (ne_o (i := i) (c := 17) (d := 21) rfl)
                have hgy1355 := up_n egy1310 hgy1354 (ne_o (i := i) (c := 17) (d := 0) rfl)
                have hgy1356 := (hfvy37 (i + 18) (ne_o (i := i) (c := 18) (d := 0) rfl)).trans ha18
                have hgy1357 := (hfvy47 (i + 18) (ne_o (i := i) (c := 18) (d := 0) rfl)).trans hgy1356
                have hgy1358 := (hfvy904 (i + 18) (ne_o (i := i) (c := 18) (d := 0) rfl)).trans hgy1357
                have hgy1359 := up_n egy911 hgy1358 (ne_o (i := i) (c := 18) (d := 19) rfl)
                have hgy1360 := up_n egy921 hgy1359 (ne_o (i := i) (c := 18) (d := 20) rfl)
                have hgy1361 := up_n egy932 hgy1360 (ne_o (i := i) (c := 18) (d := 21) rfl)
                have hgy1362 := up_n egy1184 hgy1361 (ne_o (i := i) (c := 18) (d := 20) rfl)
                have hgy1363 := (hfvy1202 (i + 18) (ne_o (i := i) (c := 18) (d := 0) rfl)).trans hgy1362
                have hgy1364 := (hfvy1297 (i + 18) (ne_o (i := i) (c := 18) (d := 0) rfl)).trans hgy1363
                have hgy1365 := up_n egy1304 hgy1364 (ne_o (i := i) (c := 18) (d := 21) rfl)
                have hgy1366 := up_n egy1310 hgy1365 (ne_o (i := i) (c := 18) (d := 0) rfl)
                have hgy1367 := up_n egy921 hgy912 (ne_o (i := i) (c := 19) (d := 20) rfl)
                have hgy1368 := up_n egy932 hgy1367 (ne_o (i := i) (c := 19) (d := 21) rfl)
                have hgy1369 := up_n egy1184 hgy1368 (ne_o (i := i) (c := 19) (d := 20) rfl)
                have hgy1370 := (hfvy1202 (i + 19) (ne_o (i := i) (c := 19) (d := 0) rfl)).trans hgy1369
                have hgy1371 := (hfvy1297 (i + 19) (ne_o (i := i) (c := 19) (d := 0) rfl)).trans hgy1370
                have hgy1372 := up_n egy1304 hgy1371 (ne_o (i := i) (c := 19) (d := 21) rfl)
                have hgy1373 := up_n egy1310 hgy1372 (ne_o (i := i) (c := 19) (d := 0) rfl)
                have hgy1374 := (hfvy1297 (i + 20) (ne_o (i := i) (c := 20) (d := 0) rfl)).trans hgy1203
                have hgy1375 := up_n egy1304 hgy1374 (ne_o (i := i) (c := 20) (d := 21) rfl)
                have hgy1376 := up_n egy1310 hgy1375 (ne_o (i := i) (c := 20) (d := 0) rfl)
                have hgy1377 := up_n egy1310 hgy1305 (ne_o (i := i) (c := 21) (d := 0) rfl)
                have hgy1378 := (hfvy37 (i + 22) (ne_o (i := i) (c := 22) (d := 0) rfl)).trans ha22
                have hgy1379 := (hfvy47 (i + 22) (ne_o (i := i) (c := 22) (d := 0) rfl)).trans hgy1378
                have hgy1380 := (hfvy904 (i + 22) (ne_o (i := i) (c := 22) (d := 0) rfl)).trans hgy1379
                have hgy1381 := up_n egy911 hgy1380 (ne_o (i := i) (c := 22) (d := 19) rfl)
                have hgy1382 := up_n egy921 hgy1381 (ne_o (i := i) (c := 22) (d := 20) rfl)
                have hgy1383 := up_n egy932 hgy1382 (ne_o (i := i) (c := 22) (d := 21) rfl)
                have hgy1384 := up_n egy1184 hgy1383 (ne_o (i := i) (c := 22) (d := 20) rfl)
                have hgy1385 := (hfvy1202 (i + 22) (ne_o (i := i) (c := 22) (d := 0) rfl)).trans hgy1384
                have hgy1386 := (hfvy1297 (i + 22) (ne_o (i := i) (c := 22) (d := 0) rfl)).trans hgy1385
                have hgy1387 := up_n egy1304 hgy1386 (ne_o (i := i) (c := 22) (d := 21) rfl)
                have hgy1388 := up_n egy1310 hgy1387 (ne_o (i := i) (c := 22) (d := 0) rfl)
                have hgy1389 := (hfvy37 (i + 23) (ne_o (i := i) (c := 23) (d := 0) rfl)).trans ha23
                have hgy1390 := (hfvy47 (i + 23) (ne_o (i := i) (c := 23) (d := 0) rfl)).trans hgy1389
                have hgy1391 := (hfvy904 (i + 23) (ne_o (i := i) (c := 23) (d := 0) rfl)).trans hgy1390
                have hgy1392 := up_n egy911 hgy1391 (ne_o (i := i) (c := 23) (d := 19) rfl)
                have hgy1393 := up_n egy921 hgy1392 (ne_o (i := i) (c := 23) (d := 20) rfl)
                have hgy1394 := up_n egy932 hgy1393 (ne_o (i := i) (c := 23) (d := 21) rfl)
                have hgy1395 := up_n egy1184 hgy1394 (ne_o (i := i) (c := 23) (d := 20) rfl)
                have hgy1396 := (hfvy1202 (i + 23) (ne_o (i := i) (c := 23) (d := 0) rfl)).trans hgy1395
                have hgy1397 := (hfvy1297 (i + 23) (ne_o (i := i) (c := 23) (d := 0) rfl)).trans hgy1396
                have hgy1398 := up_n egy1304 hgy1397 (ne_o (i := i) (c := 23) (d := 21) rfl)
                have hgy1399 := up_n egy1310 hgy1398 (ne_o (i := i) (c := 23) (d := 0) rfl)
                have htxy1400 : okTx cs gy1309 i (uZ Fvy1297 48 ((F 48) + 1)) := ⟨_, _, _, _, _, _, _, _, ⟨hgy1344, hgy1355, hgy1366, hgy1373, hgy1376, hgy1377, hgy1388, hgy1399⟩, ⟨⟨by omega, by omega, by omega⟩, hop1, hmn1, haky1325, haky1328, htb1, hlay1333⟩⟩
                exact z_vret C hr hlk dX10_hour1_207 (by decide) (by decide) ⟨rfl, rfl, rfl, ⟨_, hgy1311, hrdy1320, by omega, by omega, hFy1312, htxy1400⟩, fun j j1 j2 => by rw [egy1310, va_up_ne _ _ (by omega)]; rw [egy1304, va_up_ne _ _ (by omega)]; rw [hfvy1297 _ (by omega)]; rw [hfvy1202 _ (by omega)]; rw [egy1184, va_up_ne _ _ (by omega)]; rw [egy932, va_up_ne _ _ (by omega)]; rw [egy921, va_up_ne _ _ (by omega)]; rw [egy911, va_up_ne _ _ (by omega)]; rw [hfvy904 _ (by omega)]; rw [hfvy47 _ (by omega)]; rw [hfvy37 _ (by omega)]⟩
            · refine z_aload_n C 2 dX10_hour1_139 rfl ?_
              refine z_iconst (z := 5) C dX10_hour1_140 rfl ?_
              have hey1401 : Fvy904 32 = Fvy904 32 := rfl
              have hey1402 : Fvy904 33 = Fvy904 33 := rfl
              have hey1403 : Fvy904 34 = F 34 := ((hFvy904 34 (by decide) (by decide) (by decide) (by decide) (by decide) (by decide) (by decide)).trans ((hFvy47 34 (by decide) (by decide) (by decide) (by decide) (by decide)).trans (hFvy37 34 (by decide) (by decide))))
              have hey1404 : Fvy904 35 = Fvy904 35 := rfl
              have hey1405 : Fvy904 36 = Fvy904 36 := rfl
              have hey1406 : Fvy904 37 = Fvy904 37 := rfl
              have hey1407 : Fvy904 38 = 0 := hxvy904
              have hrdy1408 : RD Fvy904 := by unfold RD; omega
              have hey1410 : Fvy904 38 = 0 := hxvy904
              have hey1411 : Fvy904 35 = Fvy904 35 := rfl
              have hey1412 : Fvy904 37 = Fvy904 37 := rfl
              refine z_cV (As := [.int (zI (5))]) (rest := []) (ci := 12) C (c_X10_is l D A cs tt N ad _ i hN _ hgy936 hrdy1408 (5) (by omega)) (by omega) hay1 hgy936 rfl rfl mv_yX10_is q_1705 hd_yX10_is (by decide) (Nat.le_of_ble_eq_true rfl) (by decide) dX10_hour1_141 rfl (kI0 fun vy1409 gvy1409 hvy1409 => ?_)
              rw [hey1410, hey1411, hey1412] at hvy1409
              obtain ⟨hrvy1409, hqvy1409, rfl⟩ := hvy1409
              refine z_if_eq (tgt := 197) C dX10_hour1_144 (by decide) (by omega) (fun hby1413 => ?_) (fun hby1413 => ?_)
              · refine z_aload_n C 2 dX10_hour1_197 rfl ?_
                refine z_dup C dX10_hour1_198 rfl ?_
                refine z_get (v := .int (zI (F 48))) C (by omega) hay1 hgy936 rfl inA_X10 48 (by decide) q_1507 rfl (fv (F := Fvy904) (f := 48) ((hFvy904 48 (by decide) (by decide) (by decide) (by decide) (by decide) (by decide) (by decide)).trans ((hFvy47 48 (by decide) (by decide) (by decide) (by decide) (by decide)).trans (hFvy37 48 (by decide) (by decide))))) dX10_hour1_199 ?_
                refine z_iconst (z := 1) C dX10_hour1_202 rfl ?_
                refine z_iadd C dX10_hour1_203 ?_
                refine z_put (fs' := mF ad (i) (uZ Fvy904 48 ((F 48) + 1))) C (by omega) hay1 hgy936 tyX10 tyX10_ok nmX10 rfl inA_X10 48 (by decide) q_1507 rfl rfl rfl rfl (Nat.le_of_ble_eq_true rfl) rfl dX10_hour1_204 (fun gy1414 egy1415 => ?_)
                have hgy1416 := up_s egy1415
                have hFy1417 : ∀ f, f ≠ 24 → f ≠ 32 → f ≠ 33 → f ≠ 35 → f ≠ 36 → f ≠ 37 → f ≠ 38 → f ≠ 47 → f ≠ 48 → f ≠ 49 → (uZ Fvy904 48 ((F 48) + 1)) f = F f := fun f n24 n32 n33 n35 n36 n37 n38 n47 n48 n49 => ((uZ_n _ _ n48).trans ((hFvy904 f n24 n32 n33 n35 n36 n37 n38).trans ((hFvy47 f n32 n33 n35 n36 n37).trans (hFvy37 f n24 n38))))
                have hey1418 : (uZ Fvy904 48 ((F 48) + 1)) 32 = Fvy904 32 := (fn rfl (by decide))
                have hey1419 : (uZ Fvy904 48 ((F 48) + 1)) 33 = Fvy904 33 := (fn rfl (by decide))
                have hey1420 : (uZ Fvy904 48 ((F 48) + 1)) 34 = F 34 := (fn ((hFvy904 34 (by decide) (by decide) (by decide) (by decide) (by decide) (by decide) (by decide)).trans ((hFvy47 34 (by decide) (by decide) (by decide) (by decide) (by decide)).trans (hFvy37 34 (by decide) (by decide)))) (by decide))
                have hey1421 : (uZ Fvy904 48 ((F 48) + 1)) 35 = Fvy904 35 := (fn rfl (by decide))
                have hey1422 : (uZ Fvy904 48 ((F 48) + 1)) 36 = Fvy904 36 := (fn rfl (by decide))
                have hey1423 : (uZ Fvy904 48 ((F 48) + 1)) 37 = Fvy904 37 := (fn rfl (by decide))
                have hey1424 : (uZ Fvy904 48 ((F 48) + 1)) 38 = 0 := (fn hxvy904 (by decide))
                have hrdy1425 : RD (uZ Fvy904 48 ((F 48) + 1)) := by unfold RD; omega
                have hey1426 : (uZ Fvy904 48 ((F 48) + 1)) 32 = Fvy904 32 := (fn rfl (by decide))
                have hey1427 : (uZ Fvy904 48 ((F 48) + 1)) 47 = F 47 := (fn ((hFvy904 47 (by decide) (by decide) (by decide) (by decide) (by decide) (by decide) (by decide)).trans ((hFvy47 47 (by decide) (by decide) (by decide) (by decide) (by decide)).trans (hFvy37 47 (by decide) (by decide)))) (by decide))
                have hey1428 : (uZ Fvy904 48 ((F 48) + 1)) 48 = (F 48) + 1 := (uZ_s _ _ _)
                have hey1429 : (uZ Fvy904 48 ((F 48) + 1)) 49 = F 49 := (fn ((hFvy904 49 (by decide) (by decide) (by decide) (by decide) (by decide) (by decide) (by decide)).trans ((hFvy47 49 (by decide) (by decide) (by decide) (by decide) (by decide)).trans (hFvy37 49 (by decide) (by decide)))) (by decide))
                have hfry1431 : ∀ j, j ≠ (F 48).toNat → ry913 j = ai1 j := fun j n0 => (congrFun hvy914 _).trans ((uZ_n _ _ n0).trans (rfl))
                have hwy1432 : ry913 ((F 48).toNat) = vy904 := (congrFun hvy914 _).trans (uZ_s _ _ _)
                have haky1430 : ∀ k, k < 24 → -300 ≤ ry913 k ∧ ry913 k ≤ 100 := by
                  intro k hk
                  by_cases e : k = (F 48).toNat
                  · subst e; have hk0 := hai1 ((F 48).toNat) (by omega); omega
                  · have hk0 := hai1 k hk; rw [hfry1431 k e]; exact hk0
                have hfry1434 : ∀ j, j ≠ (F 48).toNat → ry923 j = fa1 j := fun j n0 => (congrFun hvy924 _).trans ((uZ_n _ _ n0).trans (rfl))
                have hfry1435 : ∀ j, j ≠ (F 48).toNat → ry934 j = mu1 j := fun j n0 => (congrFun hvy935 _).trans ((uZ_n _ _ n0).trans (rfl))
                have hwy1436 : ry923 ((F 48).toNat) = 0 := (congrFun hvy924 _).trans (uZ_s _ _ _)
                have hwy1437 : ry934 ((F 48).toNat) = 0 := (congrFun hvy935 _).trans (uZ_s _ _ _)
                have haky1433 : ∀ k, k < 24 → (0 ≤ ry923 k ∧ ry923 k ≤ 3) ∧ (0 ≤ ry934 k ∧ ry934 k ≤ 50) ∧ (ry923 k = 1 ∨ ry923 k = 2 → 1 ≤ ry934 k) := by
                  intro k hk
                  by_cases e : k = (F 48).toNat
                  · subst e; have hk0 := hfa1 ((F 48).toNat) (by omega); omega
                  · have hk0 := hfa1 k hk; rw [hfry1434 k e]; rw [hfry1435 k e]; exact hk0
                have hlay1438 : ∀ s l : Nat, (s : Int) < (uZ Fvy904 48 ((F 48) + 1)) 47 → (l : Int) < mn1 s → lyT ly1 (84 * s + 7 * l) := fun s l a1 a2 => hly1 s l (by omega) a2
                have hgy1439 := (hfvy37 (i + 16) (ne_o (i := i) (c := 16) (d := 0) rfl)).trans ha16
                have hgy1440 := (hfvy47 (i + 16) (ne_o (i := i) (c := 16) (d := 0) rfl)).trans hgy1439
                have hgy1441 := (hfvy904 (i + 16) (ne_o (i := i) (c := 16) (d := 0) rfl)).trans hgy1440
                have hgy1442 := up_n egy911 hgy1441 (ne_o (i := i) (c := 16) (d := 19) rfl)
                have hgy1443 := up_n egy921 hgy1442 (ne_o (i := i) (c := 16) (d := 20) rfl)
                have hgy1444 := up_n egy932 hgy1443 (ne_o (i := i) (c := 16) (d := 21) rfl)
                have hgy1445 := up_n egy1415 hgy1444 (ne_o (i := i) (c := 16) (d := 0) rfl)
                have hgy1446 := (hfvy37 (i + 17) (ne_o (i := i) (c := 17) (d := 0) rfl)).trans ha17
                have hgy1447 := (hfvy47 (i + 17) (ne_o (i := i) (c := 17) (d := 0) rfl)).trans hgy1446
                have hgy1448 := (hfvy904 (i + 17) (ne_o (i := i) (c := 17) (d := 0) rfl)).trans hgy1447
                have hgy1449 := up_n egy911 hgy1448 (ne_o (i := i) (c := 17) (d := 19) rfl)
                have hgy1450 := up_n egy921 hgy1449 (ne_o (i := i) (c := 17) (d := 20) rfl)
                have hgy1451 := up_n egy932 hgy1450 (ne_o (i := i) (c := 17) (d := 21) rfl)
                have hgy1452 := up_n egy1415 hgy1451 (ne_o (i := i) (c := 17) (d := 0) rfl)
                have hgy1453 := (hfvy37 (i + 18) (ne_o (i := i) (c := 18) (d := 0) rfl)).trans ha18
                have hgy1454 := (hfvy47 (i + 18) (ne_o (i := i) (c := 18) (d := 0) rfl)).trans hgy1453
                have hgy1455 := (hfvy904 (i + 18) (ne_o (i := i) (c := 18) (d := 0) rfl)).trans hgy1454
                have hgy1456 := up_n egy911 hgy1455 (ne_o (i := i) (c := 18) (d := 19) rfl)
                have hgy1457 := up_n egy921 hgy1456 (ne_o (i := i) (c := 18) (d := 20) rfl)
                have hgy1458 := up_n egy932 hgy1457 (ne_o (i := i) (c := 18) (d := 21) rfl)
                have hgy1459 := up_n egy1415 hgy1458 (ne_o (i := i) (c := 18) (d := 0) rfl)
                have hgy1460 := up_n egy921 hgy912 (ne_o (i := i) (c := 19) (d := 20) rfl)
                have hgy1461 := up_n egy932 hgy1460 (ne_o (i := i) (c := 19) (d := 21) rfl)
                have hgy1462 := up_n egy1415 hgy1461 (ne_o (i := i) (c := 19) (d := 0) rfl)
                have hgy1463 := up_n egy932 hgy922 (ne_o (i := i) (c := 20) (d := 21) rfl)
                have hgy1464 := up_n egy1415 hgy1463 (ne_o (i := i) (c := 20) (d := 0) rfl)
                have hgy1465 := up_n egy1415 hgy933 (ne_o (i := i) (c := 21) (d := 0) rfl)
                have hgy1466 := (hfvy37 (i + 22) (ne_o (i := i) (c := 22) (d := 0) rfl)).trans ha22
                have hgy1467 := (hfvy47 (i + 22) (ne_o (i := i) (c := 22) (d := 0) rfl)).trans hgy1466
                have hgy1468 := (hfvy904 (i + 22) (ne_o (i := i) (c := 22) (d := 0) rfl)).trans hgy1467
                have hgy1469 := up_n egy911 hgy1468 (ne_o (i := i) (c := 22) (d := 19) rfl)
                have hgy1470 := up_n egy921 hgy1469 (ne_o (i := i) (c := 22) (d := 20) rfl)
                have hgy1471 := up_n egy932 hgy1470 (ne_o (i := i) (c := 22) (d := 21) rfl)
                have hgy1472 := up_n egy1415 hgy1471 (ne_o (i := i) (c := 22) (d := 0) rfl)
                have hgy1473 := (hfvy37 (i + 23) (ne_o (i := i) (c := 23) (d := 0) rfl)).trans ha23
                have hgy1474 := (hfvy47 (i + 23) (ne_o (i := i) (c := 23) (d := 0) rfl)).trans hgy1473
                have hgy1475 := (hfvy904 (i + 23) (ne_o (i := i) (c := 23) (d := 0) rfl)).trans hgy1474
                have hgy1476 := up_n egy911 hgy1475 (ne_o (i := i) (c := 23) (d := 19) rfl)
                have hgy1477 := up_n egy921 hgy1476 (ne_o (i := i) (c := 23) (d := 20) rfl)
                have hgy1478 := up_n egy932 hgy1477 (ne_o (i := i) (c := 23) (d := 21) rfl)
                have hgy1479 := up_n egy1415 hgy1478 (ne_o (i := i) (c := 23) (d := 0) rfl)
                have htxy1480 : okTx cs gy1414 i (uZ Fvy904 48 ((F 48) + 1)) := ⟨_, _, _, _, _, _, _, _, ⟨hgy1445, hgy1452, hgy1459, hgy1462, hgy1464, hgy1465, hgy1472, hgy1479⟩, ⟨⟨by omega, by omega, by omega⟩, hop1, hmn1, haky1430, haky1433, htb1, hlay1438⟩⟩
                exact z_vret C hr hlk dX10_hour1_207 (by decide) (by decide) ⟨rfl, rfl, rfl, ⟨_, hgy1416, hrdy1425, by omega, by omega, hFy1417, htxy1480⟩, fun j j1 j2 => by rw [egy1415, va_up_ne _ _ (by omega)]; rw [egy932, va_up_ne _ _ (by omega)]; rw [egy921, va_up_ne _ _ (by omega)]; rw [egy911, va_up_ne _ _ (by omega)]; rw [hfvy904 _ (by omega)]; rw [hfvy47 _ (by omega)]; rw [hfvy37 _ (by omega)]⟩
              · refine z_aload_n C 2 dX10_hour1_147 rfl ?_
                refine z_get (v := .ref (ad (i + 20))) C (by omega) hay1 hgy936 rfl inA_X10 43 (by decide) q_1502 rfl rfl dX10_hour1_148 ?_
                refine z_aload_n C 2 dX10_hour1_151 rfl ?_
                refine z_get (v := .int (zI (F 48))) C (by omega) hay1 hgy936 rfl inA_X10 48 (by decide) q_1507 rfl (fv (F := Fvy904) (f := 48) ((hFvy904 48 (by decide) (by decide) (by decide) (by decide) (by decide) (by decide) (by decide)).trans ((hFvy47 48 (by decide) (by decide) (by decide) (by decide) (by decide)).trans (hFvy37 48 (by decide) (by decide))))) dX10_hour1_152 ?_
                refine z_aload_n C 2 dX10_hour1_155 rfl ?_
                refine z_get (v := .int (zI (Fvy904 37))) C (by omega) hay1 hgy936 rfl inA_X10 37 (by decide) q_1496 rfl (fv (F := Fvy904) (f := 37) rfl) dX10_hour1_156 ?_
                refine z_iconst (z := 3) C dX10_hour1_159 rfl ?_
                refine z_isub C dX10_hour1_160 ?_
                refine z_iconst (z := 1) C dX10_hour1_161 rfl ?_
                refine z_iadd C dX10_hour1_162 ?_
                have hgy1481 := up_n egy932 hgy922 (ne_o (i := i) (c := 20) (d := 21) rfl)
                refine z_iast C (by omega) hay7 hgy1481 ((F 48).toNat) (by omega) (by omega) (by decide) dX10_hour1_163 (fun gy1482 egy1483 => ?_)
                have hgy1484 := up_s egy1483
                obtain ⟨ry1485, hvy1486⟩ : ∃ rZ9 : Nat → Int, rZ9 = uZ ry923 ((F 48).toNat) (((Fvy904 37) - 3) + 1) := ⟨_, rfl⟩
                rw [← hvy1486] at hgy1484
                refine z_aload_n C 2 dX10_hour1_164 rfl ?_
                have hgy1487 := up_n egy1483 hgy936 (ne_o (i := i) (c := 0) (d := 20) rfl)
                have hey1488 : Fvy904 32 = Fvy904 32 := rfl
                have hey1489 : Fvy904 33 = Fvy904 33 := rfl
                have hey1490 : Fvy904 34 = F 34 := ((hFvy904 34 (by decide) (by decide) (by decide) (by decide) (by decide) (by decide) (by decide)).trans ((hFvy47 34 (by decide) (by decide) (by decide) (by decide) (by decide)).trans (hFvy37 34 (by decide) (by decide))))
                have hey1491 : Fvy904 35 = Fvy904 35 := rfl
                have hey1492 : Fvy904 36 = Fvy904 36 := rfl
                have hey1493 : Fvy904 37 = Fvy904 37 := rfl
                have hey1494 : Fvy904 38 = 0 := hxvy904
                have hrdy1495 : RD Fvy904 := by unfold RD; omega
                have hgy1496 := (hfvy904 (i + 13) (ne_o (i := i) (c := 13) (d := 0) rfl)).trans hgy903
                have hgy1497 := up_n egy911 hgy1496 (ne_o (i := i) (c := 13) (d := 19) rfl)
                have hgy1498 := up_n egy921 hgy1497 (ne_o (i := i) (c := 13) (d := 20) rfl)
                have hgy1499 := up_n egy932 hgy1498 (ne_o (i := i) (c := 13) (d := 21) rfl)
                have hgy1500 := up_n egy1483 hgy1499 (ne_o (i := i) (c := 13) (d := 20) rfl)
                refine z_cV (As := []) (rest := []) (ci := 12) C (c_X10_go l D A cs tt N ad _ i hN _ hgy1487 _ hgy1500 htp hrdy1495) (by omega) hay1 hgy1487 rfl rfl mv_yX10_go q_1652 hd_yX10_go (by decide) (Nat.le_of_ble_eq_true rfl) (by decide) dX10_hour1_165 rfl (kV0 fun gvy1501 hvy1501 => ?_)
                obtain ⟨⟨Fvy1501, hcvy1501, hdvy1501, hlvy1501, hsvy1501, hFvy1501⟩, hfvy1501⟩ := hvy1501
                have h32vy1501 : Fvy904 32 = Fvy904 32 := rfl
                have h34vy1501 : Fvy1501 34 = F 34 := (hFvy1501 34 (by decide) (by decide) (by decide) (by decide) (by decide)).trans (((hFvy904 34 (by decide) (by decide) (by decide) (by decide) (by decide) (by decide) (by decide)).trans ((hFvy47 34 (by decide) (by decide) (by decide) (by decide) (by decide)).trans (hFvy37 34 (by decide) (by decide)))))
                obtain ⟨d32vy1501, d33vy1501, d35vy1501, d36vy1501, d2vy1501, d37vy1501, d38vy1501⟩ := id hdvy1501
                have h38vy1501 : Fvy1501 38 = 0 := ((hFvy1501 38 (by decide) (by decide) (by decide) (by decide) (by decide)).trans hxvy904)
                refine z_aload_n C 2 dX10_hour1_168 rfl ?_
                refine z_get (v := .ref (ad (i + 20))) C (by omega) hay1 hcvy1501 rfl inA_X10 43 (by decide) q_1502 rfl rfl dX10_hour1_169 ?_
                refine z_aload_n C 2 dX10_hour1_172 rfl ?_
                refine z_get (v := .int (zI (F 48))) C (by omega) hay1 hcvy1501 rfl inA_X10 48 (by decide) q_1507 rfl (fv (F := Fvy1501) (f := 48) ((hFvy1501 48 (by decide) (by decide) (by decide) (by decide) (by decide)).trans ((hFvy904 48 (by decide) (by decide) (by decide) (by decide) (by decide) (by decide) (by decide)).trans ((hFvy47 48 (by decide) (by decide) (by decide) (by decide) (by decide)).trans (hFvy37 48 (by decide) (by decide)))))) dX10_hour1_173 ?_
                have hgy1502 := (hfvy1501 (i + 20) (ne_o (i := i) (c := 20) (d := 0) rfl)).trans hgy1484
                refine z_iald C (by omega) hay7 hgy1502 ((F 48).toNat) (by omega) (by omega) (by decide) dX10_hour1_176 ?_
                rw [show ry1485 ((F 48).toNat) = ((Fvy904 37) - 3) + 1 from (congrFun hvy1486 _).trans (uZ_s _ _ _)]
                refine z_iconst (z := 3) C dX10_hour1_177 rfl ?_
                obtain ⟨xy1503, exy1504, hxy1505⟩ := zI_of (zI (((Fvy904 37) - 3) + 1))
                rw [exy1504]
                refine z_icmp_ge (tgt := 197) C dX10_hour1_178 (by decide) (by omega) (by omega) (fun hby1506 => ?_) (fun hby1506 => ?_)
                · refine z_aload_n C 2 dX10_hour1_197 rfl ?_
                  refine z_dup C dX10_hour1_198 rfl ?_
                  refine z_get (v := .int (zI (F 48))) C (by omega) hay1 hcvy1501 rfl inA_X10 48 (by decide) q_1507 rfl (fv (F := Fvy1501) (f := 48) ((hFvy1501 48 (by decide) (by decide) (by decide) (by decide) (by decide)).trans ((hFvy904 48 (by decide) (by decide) (by decide) (by decide) (by decide) (by decide) (by decide)).trans ((hFvy47 48 (by decide) (by decide) (by decide) (by decide) (by decide)).trans (hFvy37 48 (by decide) (by decide)))))) dX10_hour1_199 ?_
                  refine z_iconst (z := 1) C dX10_hour1_202 rfl ?_
                  refine z_iadd C dX10_hour1_203 ?_
                  refine z_put (fs' := mF ad (i) (uZ Fvy1501 48 ((F 48) + 1))) C (by omega) hay1 hcvy1501 tyX10 tyX10_ok nmX10 rfl inA_X10 48 (by decide) q_1507 rfl rfl rfl rfl (Nat.le_of_ble_eq_true rfl) rfl dX10_hour1_204 (fun gy1507 egy1508 => ?_)
                  have hgy1509 := up_s egy1508
                  have hFy1510 : ∀ f, f ≠ 24 → f ≠ 32 → f ≠ 33 → f ≠ 35 → f ≠ 36 → f ≠ 37 → f ≠ 38 → f ≠ 47 → f ≠ 48 → f ≠ 49 → (uZ Fvy1501 48 ((F 48) + 1)) f = F f := fun f n24 n32 n33 n35 n36 n37 n38 n47 n48 n49 => ((uZ_n _ _ n48).trans ((hFvy1501 f n32 n33 n35 n36 n37).trans ((hFvy904 f n24 n32 n33 n35 n36 n37 n38).trans ((hFvy47 f n32 n33 n35 n36 n37).trans (hFvy37 f n24 n38)))))
                  have hey1511 : (uZ Fvy1501 48 ((F 48) + 1)) 32 = Fvy1501 32 := (fn rfl (by decide))
                  have hey1512 : (uZ Fvy1501 48 ((F 48) + 1)) 33 = Fvy1501 33 := (fn rfl (by decide))
                  have hey1513 : (uZ Fvy1501 48 ((F 48) + 1)) 34 = F 34 := (fn ((hFvy1501 34 (by decide) (by decide) (by decide) (by decide) (by decide)).trans ((hFvy904 34 (by decide) (by decide) (by decide) (by decide) (by decide) (by decide) (by decide)).trans ((hFvy47 34 (by decide) (by decide) (by decide) (by decide) (by decide)).trans (hFvy37 34 (by decide) (by decide))))) (by decide))
                  have hey1514 : (uZ Fvy1501 48 ((F 48) + 1)) 35 = Fvy1501 35 := (fn rfl (by decide))
                  have hey1515 : (uZ Fvy1501 48 ((F 48) + 1)) 36 = Fvy1501 36 := (fn rfl (by decide))
                  have hey1516 : (uZ Fvy1501 48 ((F 48) + 1)) 37 = Fvy1501 37 := (fn rfl (by decide))
                  have hey1517 : (uZ Fvy1501 48 ((F 48) + 1)) 38 = 0 := (fn ((hFvy1501 38 (by decide) (by decide) (by decide) (by decide) (by decide)).trans hxvy904) (by decide))
                  have hrdy1518 : RD (uZ Fvy1501 48 ((F 48) + 1)) := by unfold RD; omega
                  have hey1519 : (uZ Fvy1501 48 ((F 48) + 1)) 32 = Fvy1501 32 := (fn rfl (by decide))
                  have hey1520 : (uZ Fvy1501 48 ((F 48) + 1)) 47 = F 47 := (fn ((hFvy1501 47 (by decide) (by decide) (by decide) (by decide) (by decide)).trans ((hFvy904 47 (by decide) (by decide) (by decide) (by decide) (by decide) (by decide) (by decide)).trans ((hFvy47 47 (by decide) (by decide) (by decide) (by decide) (by decide)).trans (hFvy37 47 (by decide) (by decide))))) (by decide))
                  have hey1521 : (uZ Fvy1501 48 ((F 48) + 1)) 48 = (F 48) + 1 := (uZ_s _ _ _)
                  have hey1522 : (uZ Fvy1501 48 ((F 48) + 1)) 49 = F 49 := (fn ((hFvy1501 49 (by decide) (by decide) (by decide) (by decide) (by decide)).trans ((hFvy904 49 (by decide) (by decide) (by decide) (by decide) (by decide) (by decide) (by decide)).trans ((hFvy47 49 (by decide) (by decide) (by decide) (by decide) (by decide)).trans (hFvy37 49 (by decide) (by decide))))) (by decide))
                  have hfry1524 : ∀ j, j ≠ (F 48).toNat → ry913 j = ai1 j := fun j n0 => (congrFun hvy914 _).trans ((uZ_n _ _ n0).trans (rfl))
                  have hwy1525 : ry913 ((F 48).toNat) = vy904 := (congrFun hvy914 _).trans (uZ_s _ _ _)
                  have haky1523 : ∀ k, k < 24 → -300 ≤ ry913 k ∧ ry913 k ≤ 100 := by
                    intro k hk
                    by_cases e : k = (F 48).toNat
                    · subst e; have hk0 := hai1 ((F 48).toNat) (by omega); omega
                    · have hk0 := hai1 k hk; rw [hfry1524 k e]; exact hk0
                  have hfry1527 : ∀ j, j ≠ (F 48).toNat → ry1485 j = fa1 j := fun j n0 => (congrFun hvy1486 _).trans ((uZ_n _ _ n0).trans ((congrFun hvy924 _).trans ((uZ_n _ _ n0).trans (rfl))))
                  have hfry1528 : ∀ j, j ≠ (F 48).toNat → ry934 j = mu1 j := fun j n0 => (congrFun hvy935 _).trans ((uZ_n _ _ n0).trans (rfl))
                  have hwy1529 : ry1485 ((F 48).toNat) = ((Fvy904 37) - 3) + 1 := (congrFun hvy1486 _).trans (uZ_s _ _ _)
                  have hwy1530 : ry934 ((F 48).toNat) = 0 := (congrFun hvy935 _).trans (uZ_s _ _ _)
                  have haky1526 : ∀ k, k < 24 → (0 ≤ ry1485 k ∧ ry1485 k ≤ 3) ∧ (0 ≤ ry934 k ∧ ry934 k ≤ 50) ∧ (ry1485 k = 1 ∨ ry1485 k = 2 → 1 ≤ ry934 k) := by
                    intro k hk
                    by_cases e : k = (F 48).toNat
                    · subst e; have hk0 := hfa1 ((F 48).toNat) (by omega); omega
                    · have hk0 := hfa1 k hk; rw [hfry1527 k e]; rw [hfry1528 k e]; exact hk0
                  have hlay1531 : ∀ s l : Nat, (s : Int) < (uZ Fvy1501 48 ((F 48) + 1)) 47 → (l : Int) < mn1 s → lyT ly1 (84 * s + 7 * l) := fun s l a1 a2 => hly1 s l (by omega) a2
                  have hgy1532 := (hfvy37 (i + 16) (ne_o (i := i) (c := 16) (d := 0) rfl)).trans ha16
                  have hgy1533 := (hfvy47 (i + 16) (ne_o (i := i) (c := 16) (d := 0) rfl)).trans hgy1532
                  have hgy1534 := (hfvy904 (i + 16) (ne_o (i := i) (c := 16) (d := 0) rfl)).trans hgy1533
                  have hgy1535 := up_n egy911 hgy1534 (ne_o (i := i) (c := 16) (d := 19) rfl)
                  have hgy1536 := up_n egy921 hgy1535 (ne_o (i := i) (c := 16) (d := 20) rfl)
                  have hgy1537 := up_n egy932 hgy1536 (ne_o (i := i) (c := 16) (d := 21) rfl)
                  have hgy1538 := up_n egy1483 hgy1537 (ne_o (i := i) (c := 16) (d := 20) rfl)
                  have hgy1539 := (hfvy1501 (i + 16) (ne_o (i := i) (c := 16) (d := 0) rfl)).trans hgy1538
                  have hgy1540 := up_n egy1508 hgy1539 (ne_o (i := i) (c := 16) (d := 0) rfl)
                  have hgy1541 := (hfvy37 (i + 17) (ne_o (i := i) (c := 17) (d := 0) rfl)).trans ha17
                  have hgy1542 := (hfvy47 (i + 17) (ne_o (i := i) (c := 17) (d := 0) rfl)).trans hgy1541
                  have hgy1543 := (hfvy904 (i + 17) (ne_o (i := i) (c := 17) (d := 0) rfl)).trans hgy1542
                  have hgy1544 := up_n egy911 hgy1543 (ne_o (i := i) (c := 17) (d := 19) rfl)
                  have hgy1545 := up_n egy921 hgy1544 (ne_o (i := i) (c := 17) (d := 20) rfl)
                  have hgy1546 := up_n egy932 hgy1545 (ne_o (i := i) (c := 17) (d := 21) rfl)
                  have hgy1547 := up_n egy1483 hgy1546 (ne_o (i := i) (c := 17) (d := 20) rfl)
                  have hgy1548 := (hfvy1501 (i + 17) (ne_o (i := i) (c := 17) (d := 0) rfl)).trans hgy1547
                  have hgy1549 := up_n egy1508 hgy1548 (ne_o (i := i) (c := 17) (d := 0) rfl)
                  have hgy1550 := (hfvy37 (i + 18) (ne_o (i := i) (c := 18) (d := 0) rfl)).trans ha18
                  have hgy1551 := (hfvy47 (i + 18) (ne_o (i := i) (c := 18) (d := 0) rfl)).trans hgy1550
                  have hgy1552 := (hfvy904 (i + 18) (ne_o (i := i) (c := 18) (d := 0) rfl)).trans hgy1551
                  have hgy1553 := up_n egy911 hgy1552 (ne_o (i := i) (c := 18) (d := 19) rfl)
                  have hgy1554 := up_n egy921 hgy1553 (ne_o (i := i) (c := 18) (d := 20) rfl)
                  have hgy1555 := up_n egy932 hgy1554 (ne_o (i := i) (c := 18) (d := 21) rfl)
                  have hgy1556 := up_n egy1483 hgy1555 (ne_o (i := i) (c := 18) (d := 20) rfl)
                  have hgy1557 := (hfvy1501 (i + 18) (ne_o (i := i) (c := 18) (d := 0) rfl)).trans hgy1556
                  have hgy1558 := up_n egy1508 hgy1557 (ne_o (i := i) (c := 18) (d := 0) rfl)
                  have hgy1559 := up_n egy921 hgy912 (ne_o (i := i) (c := 19) (d := 20) rfl)
                  have hgy1560 := up_n egy932 hgy1559 (ne_o (i := i) (c := 19) (d := 21) rfl)
                  have hgy1561 := up_n egy1483 hgy1560 (ne_o (i := i) (c := 19) (d := 20) rfl)
                  have hgy1562 := (hfvy1501 (i + 19) (ne_o (i := i) (c := 19) (d := 0) rfl)).trans hgy1561
                  have hgy1563 := up_n egy1508 hgy1562 (ne_o (i := i) (c := 19) (d := 0) rfl)
                  have hgy1564 := up_n egy1508 hgy1502 (ne_o (i := i) (c := 20) (d := 0) rfl)
                  have hgy1565 := up_n egy1483 hgy933 (ne_o (i := i) (c := 21) (d := 20) rfl)
                  have hgy1566 := (hfvy1501 (i + 21) (ne_o (i := i) (c := 21) (d := 0) rfl)).trans hgy1565
                  have hgy1567 := up_n egy1508 hgy1566 (ne_o (i := i) (c := 21) (d := 0) rfl)
                  have hgy1568 := (hfvy37 (i + 22) (ne_o (i := i) (c := 22) (d := 0) rfl)).trans ha22
                  have hgy1569 := (hfvy47 (i + 22) (ne_o (i := i) (c := 22) (d := 0) rfl)).trans hgy1568
                  have hgy1570 := (hfvy904 (i + 22) (ne_o (i := i) (c := 22) (d := 0) rfl)).trans hgy1569
                  have hgy1571 := up_n egy911 hgy1570 (ne_o (i := i) (c := 22) (d := 19) rfl)
                  have hgy1572 := up_n egy921 hgy1571 (ne_o (i := i) (c := 22) (d := 20) rfl)
                  have hgy1573 := up_n egy932 hgy1572 (ne_o (i := i) (c := 22) (d := 21) rfl)
                  have hgy1574 := up_n egy1483 hgy1573 (ne_o (i := i) (c := 22) (d := 20) rfl)
                  have hgy1575 := (hfvy1501 (i + 22) (ne_o (i := i) (c := 22) (d := 0) rfl)).trans hgy1574
                  have hgy1576 := up_n egy1508 hgy1575 (ne_o (i := i) (c := 22) (d := 0) rfl)
                  have hgy1577 := (hfvy37 (i + 23) (ne_o (i := i) (c := 23) (d := 0) rfl)).trans ha23
                  have hgy1578 := (hfvy47 (i + 23) (ne_o (i := i) (c := 23) (d := 0) rfl)).trans hgy1577
                  have hgy1579 := (hfvy904 (i + 23) (ne_o (i := i) (c := 23) (d := 0) rfl)).trans hgy1578
                  have hgy1580 := up_n egy911 hgy1579 (ne_o (i := i) (c := 23) (d := 19) rfl)
                  have hgy1581 := up_n egy921 hgy1580 (ne_o (i := i) (c := 23) (d := 20) rfl)
                  have hgy1582 := up_n egy932 hgy1581 (ne_o (i := i) (c := 23) (d := 21) rfl)
                  have hgy1583 := up_n egy1483 hgy1582 (ne_o (i := i) (c := 23) (d := 20) rfl)
                  have hgy1584 := (hfvy1501 (i + 23) (ne_o (i := i) (c := 23) (d := 0) rfl)).trans hgy1583
                  have hgy1585 := up_n egy1508 hgy1584 (ne_o (i := i) (c := 23) (d := 0) rfl)
                  have htxy1586 : okTx cs gy1507 i (uZ Fvy1501 48 ((F 48) + 1)) := ⟨_, _, _, _, _, _, _, _, ⟨hgy1540, hgy1549, hgy1558, hgy1563, hgy1564, hgy1567, hgy1576, hgy1585⟩, ⟨⟨by omega, by omega, by omega⟩, hop1, hmn1, haky1523, haky1526, htb1, hlay1531⟩⟩
                  exact z_vret C hr hlk dX10_hour1_207 (by decide) (by decide) ⟨rfl, rfl, rfl, ⟨_, hgy1509, hrdy1518, by omega, by omega, hFy1510, htxy1586⟩, fun j j1 j2 => by rw [egy1508, va_up_ne _ _ (by omega)]; rw [hfvy1501 _ (by omega)]; rw [egy1483, va_up_ne _ _ (by omega)]; rw [egy932, va_up_ne _ _ (by omega)]; rw [egy921, va_up_ne _ _ (by omega)]; rw [egy911, va_up_ne _ _ (by omega)]; rw [hfvy904 _ (by omega)]; rw [hfvy47 _ (by omega)]; rw [hfvy37 _ (by omega)]⟩
                · refine z_aload_n C 2 dX10_hour1_181 rfl ?_
                  refine z_get (v := .ref (ad (i + 21))) C (by omega) hay1 hcvy1501 rfl inA_X10 44 (by decide) q_1503 rfl rfl dX10_hour1_182 ?_
                  refine z_aload_n C 2 dX10_hour1_185 rfl ?_
                  refine z_get (v := .int (zI (F 48))) C (by omega) hay1 hcvy1501 rfl inA_X10 48 (by decide) q_1507 rfl (fv (F := Fvy1501) (f := 48) ((hFvy1501 48 (by decide) (by decide) (by decide) (by decide) (by decide)).trans ((hFvy904 48 (by decide) (by decide) (by decide) (by decide) (by decide) (by decide) (by decide)).trans ((hFvy47 48 (by decide) (by decide) (by decide) (by decide) (by decide)).trans (hFvy37 48 (by decide) (by decide)))))) dX10_hour1_186 ?_
                  refine z_aload_n C 2 dX10_hour1_189 rfl ?_
                  refine z_iconst (z := 1) C dX10_hour1_190 rfl ?_
                  refine z_bipush (z := 50) C dX10_hour1_191 (by decide) ?_
                  have hey1587 : Fvy1501 32 = Fvy1501 32 := rfl
                  have hey1588 : Fvy1501 33 = Fvy1501 33 := rfl
                  have hey1589 : Fvy1501 34 = F 34 := ((hFvy1501 34 (by decide) (by decide) (by decide) (by decide) (by decide)).trans ((hFvy904 34 (by decide) (by decide) (by decide) (by decide) (by decide) (by decide) (by decide)).trans ((hFvy47 34 (by decide) (by decide) (by decide) (by decide) (by decide)).trans (hFvy37 34 (by decide) (by decide)))))
                  have hey1590 : Fvy1501 35 = Fvy1501 35 := rfl
                  have hey1591 : Fvy1501 36 = Fvy1501 36 := rfl
                  have hey1592 : Fvy1501 37 = Fvy1501 37 := rfl
                  have hey1593 : Fvy1501 38 = 0 := ((hFvy1501 38 (by decide) (by decide) (by decide) (by decide) (by decide)).trans hxvy904)
                  have hrdy1594 : RD Fvy1501 := by unfold RD; omega
                  have hgy1595 := (hfvy1501 (i + 13) (ne_o (i := i) (c := 13) (d := 0) rfl)).trans hgy1500
                  have hey1597 : Fvy1501 38 = 0 := ((hFvy1501 38 (by decide) (by decide) (by decide) (by decide) (by decide)).trans hxvy904)
                  have hey1598 : Fvy1501 35 = Fvy1501 35 := rfl
                  refine z_cV (As := [.int (zI (1)), .int (zI (50))]) (rest := [.int (zI (F 48)), .ref (ad (i + 21))]) (ci := 12) C (c_X10_number l D A cs tt N ad _ i hN _ hcvy1501 _ hgy1595 htp hrdy1594 (1) (by omega) (50) (by omega)) (by omega) hay1 hcvy1501 rfl rfl mv_yX10_number q_1682 hd_yX10_number (by decide) (Nat.le_of_ble_eq_true rfl) (by decide) dX10_hour1_193 rfl (kI0 fun vy1596 gvy1596 hvy1596 => ?_)
                  obtain ⟨hrvy1596, ⟨Fvy1596, hcvy1596, hdvy1596, hlvy1596, hsvy1596, hFvy1596⟩, hfvy1596⟩ := hvy1596
                  have h32vy1596 : Fvy1501 32 = Fvy1501 32 := rfl
                  have h34vy1596 : Fvy1596 34 = F 34 := (hFvy1596 34 (by decide) (by decide) (by decide) (by decide) (by decide) (by decide) (by decide)).trans (((hFvy1501 34 (by decide) (by decide) (by decide) (by decide) (by decide)).trans ((hFvy904 34 (by decide) (by decide) (by decide) (by decide) (by decide) (by decide) (by decide)).trans ((hFvy47 34 (by decide) (by decide) (by decide) (by decide) (by decide)).trans (hFvy37 34 (by decide) (by decide))))))
                  obtain ⟨d32vy1596, d33vy1596, d35vy1596, d36vy1596, d2vy1596, d37vy1596, d38vy1596⟩ := id hdvy1596
                  have hgy1599 := up_n egy1483 hgy933 (ne_o (i := i) (c := 21) (d := 20) rfl)
                  have hgy1600 := (hfvy1501 (i + 21) (ne_o (i := i) (c := 21) (d := 0) rfl)).trans hgy1599
                  have hgy1601 := (hfvy1596 (i + 21) (ne_o (i := i) (c := 21) (d := 0) rfl)).trans hgy1600
                  refine z_iast C (by omega) hay8 hgy1601 ((F 48).toNat) (by omega) (by omega) (by decide) dX10_hour1_196 (fun gy1602 egy1603 => ?_)
                  have hgy1604 := up_s egy1603
                  obtain ⟨ry1605, hvy1606⟩ : ∃ rZ9 : Nat → Int, rZ9 = uZ ry934 ((F 48).toNat) (vy1596) := ⟨_, rfl⟩
                  rw [← hvy1606] at hgy1604
                  refine z_aload_n C 2 dX10_hour1_197 rfl ?_
                  refine z_dup C dX10_hour1_198 rfl ?_
                  have hgy1607 := up_n egy1603 hcvy1596 (ne_o (i := i) (c := 0) (d := 21) rfl)
                  refine z_get (v := .int (zI (F 48))) C (by omega) hay1 hgy1607 rfl inA_X10 48 (by decide) q_1507 rfl (fv (F := Fvy1596) (f := 48) ((hFvy1596 48 (by decide) (by decide) (by decide) (by decide) (by decide) (by decide) (by decide)).trans ((hFvy1501 48 (by decide) (by decide) (by decide) (by decide) (by decide)).trans ((hFvy904 48 (by decide) (by decide) (by decide) (by decide) (by decide) (by decide) (by decide)).trans ((hFvy47 48 (by decide) (by decide) (by decide) (by decide) (by decide)).trans (hFvy37 48 (by decide) (by decide))))))) dX10_hour1_199 ?_
                  refine z_iconst (z := 1) C dX10_hour1_202 rfl ?_
                  refine z_iadd C dX10_hour1_203 ?_
                  refine z_put (fs' := mF ad (i) (uZ Fvy1596 48 ((F 48) + 1))) C (by omega) hay1 hgy1607 tyX10 tyX10_ok nmX10 rfl inA_X10 48 (by decide) q_1507 rfl rfl rfl rfl (Nat.le_of_ble_eq_true rfl) rfl dX10_hour1_204 (fun gy1608 egy1609 => ?_)
                  have hgy1610 := up_s egy1609
                  have hFy1611 : ∀ f, f ≠ 24 → f ≠ 32 → f ≠ 33 → f ≠ 35 → f ≠ 36 → f ≠ 37 → f ≠ 38 → f ≠ 47 → f ≠ 48 → f ≠ 49 → (uZ Fvy1596 48 ((F 48) + 1)) f = F f := fun f n24 n32 n33 n35 n36 n37 n38 n47 n48 n49 => ((uZ_n _ _ n48).trans ((hFvy1596 f n24 n32 n33 n35 n36 n37 n38).trans ((hFvy1501 f n32 n33 n35 n36 n37).trans ((hFvy904 f n24 n32 n33 n35 n36 n37 n38).trans ((hFvy47 f n32 n33 n35 n36 n37).trans (hFvy37 f n24 n38))))))
                  have hey1612 : (uZ Fvy1596 48 ((F 48) + 1)) 32 = Fvy1596 32 := (fn rfl (by decide))
                  have hey1613 : (uZ Fvy1596 48 ((F 48) + 1)) 33 = Fvy1596 33 := (fn rfl (by decide))
                  have hey1614 : (uZ Fvy1596 48 ((F 48) + 1)) 34 = F 34 := (fn ((hFvy1596 34 (by decide) (by decide) (by decide) (by decide) (by decide) (by decide) (by decide)).trans ((hFvy1501 34 (by decide) (by decide) (by decide) (by decide) (by decide)).trans ((hFvy904 34 (by decide) (by decide) (by decide) (by decide) (by decide) (by decide) (by decide)).trans ((hFvy47 34 (by decide) (by decide) (by decide) (by decide) (by decide)).trans (hFvy37 34 (by decide) (by decide)))))) (by decide))
                  have hey1615 : (uZ Fvy1596 48 ((F 48) + 1)) 35 = Fvy1596 35 := (fn rfl (by decide))
                  have hey1616 : (uZ Fvy1596 48 ((F 48) + 1)) 36 = Fvy1596 36 := (fn rfl (by decide))
                  have hey1617 : (uZ Fvy1596 48 ((F 48) + 1)) 37 = Fvy1596 37 := (fn rfl (by decide))
                  have hey1618 : (uZ Fvy1596 48 ((F 48) + 1)) 38 = Fvy1596 38 := (fn rfl (by decide))
                  have hrdy1619 : RD (uZ Fvy1596 48 ((F 48) + 1)) := by unfold RD; omega
                  have hey1620 : (uZ Fvy1596 48 ((F 48) + 1)) 32 = Fvy1596 32 := (fn rfl (by decide))
                  have hey1621 : (uZ Fvy1596 48 ((F 48) + 1)) 47 = F 47 := (fn ((hFvy1596 47 (by decide) (by decide) (by decide) (by decide) (by decide) (by decide) (by decide)).trans ((hFvy1501 47 (by decide) (by decide) (by decide) (by decide) (by decide)).trans ((hFvy904 47 (by decide) (by decide) (by decide) (by decide) (by decide) (by decide) (by decide)).trans ((hFvy47 47 (by decide) (by decide) (by decide) (by decide) (by decide)).trans (hFvy37 47 (by decide) (by decide)))))) (by decide))
                  have hey1622 : (uZ Fvy1596 48 ((F 48) + 1)) 48 = (F 48) + 1 := (uZ_s _ _ _)
                  have hey1623 : (uZ Fvy1596 48 ((F 48) + 1)) 49 = F 49 := (fn ((hFvy1596 49 (by decide) (by decide) (by decide) (by decide) (by decide) (by decide) (by decide)).trans ((hFvy1501 49 (by decide) (by decide) (by decide) (by decide) (by decide)).trans ((hFvy904 49 (by decide) (by decide) (by decide) (by decide) (by decide) (by decide) (by decide)).trans ((hFvy47 49 (by decide) (by decide) (by decide) (by decide) (by decide)).trans (hFvy37 49 (by decide) (by decide)))))) (by decide))
                  have hfry1625 : ∀ j, j ≠ (F 48).toNat → ry913 j = ai1 j := fun j n0 => (congrFun hvy914 _).trans ((uZ_n _ _ n0).trans (rfl))
                  have hwy1626 : ry913 ((F 48).toNat) = vy904 := (congrFun hvy914 _).trans (uZ_s _ _ _)
                  have haky1624 : ∀ k, k < 24 → -300 ≤ ry913 k ∧ ry913 k ≤ 100 := by
                    intro k hk
                    by_cases e : k = (F 48).toNat
                    · subst e; have hk0 := hai1 ((F 48).toNat) (by omega); omega
                    · have hk0 := hai1 k hk; rw [hfry1625 k e]; exact hk0
                  have hfry1628 : ∀ j, j ≠ (F 48).toNat → ry1485 j = fa1 j := fun j n0 => (congrFun hvy1486 _).trans ((uZ_n _ _ n0).trans ((congrFun hvy924 _).trans ((uZ_n _ _ n0).trans (rfl))))
                  have hfry1629 : ∀ j, j ≠ (F 48).toNat → ry1605 j = mu1 j := fun j n0 => (congrFun hvy1606 _).trans ((uZ_n _ _ n0).trans ((congrFun hvy935 _).trans ((uZ_n _ _ n0).trans (rfl))))
                  have hwy1630 : ry1485 ((F 48).toNat) = ((Fvy904 37) - 3) + 1 := (congrFun hvy1486 _).trans (uZ_s _ _ _)
                  have hwy1631 : ry1605 ((F 48).toNat) = vy1596 := (congrFun hvy1606 _).trans (uZ_s _ _ _)
                  have haky1627 : ∀ k, k < 24 → (0 ≤ ry1485 k ∧ ry1485 k ≤ 3) ∧ (0 ≤ ry1605 k ∧ ry1605 k ≤ 50) ∧ (ry1485 k = 1 ∨ ry1485 k = 2 → 1 ≤ ry1605 k) := by
                    intro k hk
                    by_cases e : k = (F 48).toNat
                    · subst e; have hk0 := hfa1 ((F 48).toNat) (by omega); omega
                    · have hk0 := hfa1 k hk; rw [hfry1628 k e]; rw [hfry1629 k e]; exact hk0
                  have hlay1632 : ∀ s l : Nat, (s : Int) < (uZ Fvy1596 48 ((F 48) + 1)) 47 → (l : Int) < mn1 s → lyT ly1 (84 * s + 7 * l) := fun s l a1 a2 => hly1 s l (by omega) a2
                  have hgy1633 := (hfvy37 (i + 16) (ne_o (i := i) (c := 16) (d := 0) rfl)).trans ha16
                  have hgy1634 := (hfvy47 (i + 16) (ne_o (i := i) (c := 16) (d := 0) rfl)).trans hgy1633
                  have hgy1635 := (hfvy904 (i + 16) (ne_o (i := i) (c := 16) (d := 0) rfl)).trans hgy1634
                  have hgy1636 := up_n egy911 hgy1635 (ne_o (i := i) (c := 16) (d := 19) rfl)
                  have hgy1637 := up_n egy921 hgy1636 (ne_o (i := i) (c := 16) (d := 20) rfl)
                  have hgy1638 := up_n egy932 hgy1637 (ne_o (i := i) (c := 16) (d := 21) rfl)
                  have hgy1639 := up_n egy1483 hgy1638 (ne_o (i := i) (c := 16) (d := 20) rfl)
                  have hgy1640 := (hfvy1501 (i + 16) (ne_o (i := i) (c := 16) (d := 0) rfl)).trans hgy1639
                  have hgy1641 := (hfvy1596 (i + 16) (ne_o (i := i) (c := 16) (d := 0) rfl)).trans hgy1640
                  have hgy1642 := up_n egy1603 hgy1641 (ne_o (i := i) (c := 16) (d := 21) rfl)
                  have hgy1643 := up_n egy1609 hgy1642 (ne_o (i := i) (c := 16) (d := 0) rfl)
                  have hgy1644 := (hfvy37 (i + 17) (ne_o (i := i) (c := 17) (d := 0) rfl)).trans ha17
                  have hgy1645 := (hfvy47 (i + 17) (ne_o (i := i) (c := 17) (d := 0) rfl)).trans hgy1644
                  have hgy1646 := (hfvy904 (i + 17) (ne_o (i := i) (c := 17) (d := 0) rfl)).trans hgy1645
                  have hgy1647 := up_n egy911 hgy1646 (ne_o (i := i) (c := 17) (d := 19) rfl)
                  have hgy1648 := up_n egy921 hgy1647 (ne_o (i := i) (c := 17) (d := 20) rfl)
                  have hgy1649 := up_n egy932 hgy1648 (ne_o (i := i) (c := 17) (d := 21) rfl)
                  have hgy1650 := up_n egy1483 hgy1649 (ne_o (i := i) (c := 17) (d := 20) rfl)
                  have hgy1651 := (hfvy1501 (i + 17) (ne_o (i := i) (c := 17) (d := 0) rfl)).trans hgy1650
                  have hgy1652 := (hfvy1596 (i + 17) (ne_o (i := i) (c := 17) (d := 0) rfl)).trans hgy1651
                  have hgy1653 := up_n egy1603 hgy1652 (ne_o (i := i) (c := 17) (d := 21) rfl)
                  have hgy1654 := up_n egy1609 hgy1653 (ne_o (i := i) (c := 17) (d := 0) rfl)
                  have hgy1655 := (hfvy37 (i + 18) (ne_o (i := i) (c := 18) (d := 0) rfl)).trans ha18
                  have hgy1656 := (hfvy47 (i + 18) (ne_o (i := i) (c := 18) (d := 0) rfl)).trans hgy1655
                  have hgy1657 := (hfvy904 (i + 18) (ne_o (i := i) (c := 18) (d := 0) rfl)).trans hgy1656
                  have hgy1658 := up_n egy911 hgy1657 (ne_o (i := i) (c := 18) (d := 19) rfl)
                  have hgy1659 := up_n egy921 hgy1658 (ne_o (i := i) (c := 18) (d := 20) rfl)
                  have hgy1660 := up_n egy932 hgy1659 (ne_o (i := i) (c := 18) (d := 21) rfl)
                  have hgy1661 := up_n egy1483 hgy1660 (ne_o (i := i) (c := 18) (d := 20) rfl)
                  have hgy1662 := (hfvy1501 (i + 18) (ne_o (i := i) (c := 18) (d := 0) rfl)).trans hgy1661
                  have hgy1663 := (hfvy1596 (i + 18) (ne_o (i := i) (c := 18) (d := 0) rfl)).trans hgy1662
                  have hgy1664 := up_n egy1603 hgy1663 (ne_o (i := i) (c := 18) (d := 21) rfl)
                  have hgy1665 := up_n egy1609 hgy1664 (ne_o (i := i) (c := 18) (d := 0) rfl)
                  have hgy1666 := up_n egy921 hgy912 (ne_o (i := i) (c := 19) (d := 20) rfl)
                  have hgy1667 := up_n egy932 hgy1666 (ne_o (i := i) (c := 19) (d := 21) rfl)
                  have hgy1668 := up_n egy1483 hgy1667 (ne_o (i := i) (c := 19) (d := 20) rfl)
                  have hgy1669 := (hfvy1501 (i + 19) (ne_o (i := i) (c := 19) (d := 0) rfl)).trans hgy1668
                  have hgy1670 := (hfvy1596 (i + 19) (ne_o (i := i) (c := 19) (d := 0) rfl)).trans hgy1669
                  have hgy1671 := up_n egy1603 hgy1670 (ne_o (i := i) (c := 19) (d := 21) rfl)
                  have hgy1672 := up_n egy1609 hgy1671 (ne_o (i := i) (c := 19) (d := 0) rfl)
                  have hgy1673 := (hfvy1596 (i + 20) (ne_o (i := i) (c := 20) (d := 0) rfl)).trans hgy1502
                  have hgy1674 := up_n egy1603 hgy1673 (ne_o (i := i) (c := 20) (d := 21) rfl)
                  have hgy1675 := up_n egy1609 hgy1674 (ne_o (i := i) (c := 20) (d := 0) rfl)
                  have hgy1676 := up_n egy1609 hgy1604 (ne_o (i := i) (c := 21) (d := 0) rfl)
                  have hgy1677 := (hfvy37 (i + 22) (ne_o (i := i) (c := 22) (d := 0) rfl)).trans ha22
                  have hgy1678 := (hfvy47 (i + 22) (ne_o (i := i) (c := 22) (d := 0) rfl)).trans hgy1677
                  have hgy1679 := (hfvy904 (i + 22) (ne_o (i := i) (c := 22) (d := 0) rfl)).trans hgy1678
                  have hgy1680 := up_n egy911 hgy1679 (ne_o (i := i) (c := 22) (d := 19) rfl)
                  have hgy1681 := up_n egy921 hgy1680 (ne_o (i := i) (c := 22) (d := 20) rfl)
                  have hgy1682 := up_n egy932 hgy1681 (ne_o (i := i) (c := 22) (d := 21) rfl)
                  have hgy1683 := up_n egy1483 hgy1682 (ne_o (i := i) (c := 22) (d := 20) rfl)
                  have hgy1684 := (hfvy1501 (i + 22) (ne_o (i := i) (c := 22) (d := 0) rfl)).trans hgy1683
                  have hgy1685 := (hfvy1596 (i + 22) (ne_o (i := i) (c := 22) (d := 0) rfl)).trans hgy1684
                  have hgy1686 := up_n egy1603 hgy1685 (ne_o (i := i) (c := 22) (d := 21) rfl)
                  have hgy1687 := up_n egy1609 hgy1686 (ne_o (i := i) (c := 22) (d := 0) rfl)
                  have hgy1688 := (hfvy37 (i + 23) (ne_o (i := i) (c := 23) (d := 0) rfl)).trans ha23
                  have hgy1689 := (hfvy47 (i + 23) (ne_o (i := i) (c := 23) (d := 0) rfl)).trans hgy1688
                  have hgy1690 := (hfvy904 (i + 23) (ne_o (i := i) (c := 23) (d := 0) rfl)).trans hgy1689
                  have hgy1691 := up_n egy911 hgy1690 (ne_o (i := i) (c := 23) (d := 19) rfl)
                  have hgy1692 := up_n egy921 hgy1691 (ne_o (i := i) (c := 23) (d := 20) rfl)
                  have hgy1693 := up_n egy932 hgy1692 (ne_o (i := i) (c := 23) (d := 21) rfl)
                  have hgy1694 := up_n egy1483 hgy1693 (ne_o (i := i) (c := 23) (d := 20) rfl)
                  have hgy1695 := (hfvy1501 (i + 23) (ne_o (i := i) (c := 23) (d := 0) rfl)).trans hgy1694
                  have hgy1696 := (hfvy1596 (i + 23) (ne_o (i := i) (c := 23) (d := 0) rfl)).trans hgy1695
                  have hgy1697 := up_n egy1603 hgy1696 (ne_o (i := i) (c := 23) (d := 21) rfl)
                  have hgy1698 := up_n egy1609 hgy1697 (ne_o (i := i) (c := 23) (d := 0) rfl)
                  have htxy1699 : okTx cs gy1608 i (uZ Fvy1596 48 ((F 48) + 1)) := ⟨_, _, _, _, _, _, _, _, ⟨hgy1643, hgy1654, hgy1665, hgy1672, hgy1675, hgy1676, hgy1687, hgy1698⟩, ⟨⟨by omega, by omega, by omega⟩, hop1, hmn1, haky1624, haky1627, htb1, hlay1632⟩⟩
                  exact z_vret C hr hlk dX10_hour1_207 (by decide) (by decide) ⟨rfl, rfl, rfl, ⟨_, hgy1610, hrdy1619, by omega, by omega, hFy1611, htxy1699⟩, fun j j1 j2 => by rw [egy1609, va_up_ne _ _ (by omega)]; rw [egy1603, va_up_ne _ _ (by omega)]; rw [hfvy1596 _ (by omega)]; rw [hfvy1501 _ (by omega)]; rw [egy1483, va_up_ne _ _ (by omega)]; rw [egy932, va_up_ne _ _ (by omega)]; rw [egy921, va_up_ne _ _ (by omega)]; rw [egy911, va_up_ne _ _ (by omega)]; rw [hfvy904 _ (by omega)]; rw [hfvy47 _ (by omega)]; rw [hfvy37 _ (by omega)]⟩
        · refine z_istore_n (lv' := [(2, .int (zI (vy904))), (1, .int (zI (0))), (0, .ref (ad i))]) C dX10_hour1_75 rfl (by decide) rfl ?_
          refine z_aload_n C 2 dX10_hour1_76 rfl ?_
          refine z_get (v := .int (zI (Fvy904 38))) C (by omega) hay1 hcvy904 rfl inA_X10 38 (by decide) q_1497 rfl (fv (F := Fvy904) (f := 38) rfl) dX10_hour1_77 ?_
          refine z_if_eq (tgt := 84) C dX10_hour1_80 (by decide) (by omega) (fun h => absurd h (by omega)) (fun _ => ?_)
          have hFy1700 : ∀ f, f ≠ 24 → f ≠ 32 → f ≠ 33 → f ≠ 35 → f ≠ 36 → f ≠ 37 → f ≠ 38 → f ≠ 47 → f ≠ 48 → f ≠ 49 → Fvy904 f = F f := fun f n24 n32 n33 n35 n36 n37 n38 n47 n48 n49 => ((hFvy904 f n24 n32 n33 n35 n36 n37 n38).trans ((hFvy47 f n32 n33 n35 n36 n37).trans (hFvy37 f n24 n38)))
          have hey1701 : Fvy904 32 = Fvy904 32 := rfl
          have hey1702 : Fvy904 33 = Fvy904 33 := rfl
          have hey1703 : Fvy904 34 = F 34 := ((hFvy904 34 (by decide) (by decide) (by decide) (by decide) (by decide) (by decide) (by decide)).trans ((hFvy47 34 (by decide) (by decide) (by decide) (by decide) (by decide)).trans (hFvy37 34 (by decide) (by decide))))
          have hey1704 : Fvy904 35 = Fvy904 35 := rfl
          have hey1705 : Fvy904 36 = Fvy904 36 := rfl
          have hey1706 : Fvy904 37 = Fvy904 37 := rfl
          have hey1707 : Fvy904 38 = Fvy904 38 := rfl
          have hrdy1708 : RD Fvy904 := by unfold RD; omega
          have hey1709 : Fvy904 32 = Fvy904 32 := rfl
          have hey1710 : Fvy904 47 = F 47 := ((hFvy904 47 (by decide) (by decide) (by decide) (by decide) (by decide) (by decide) (by decide)).trans ((hFvy47 47 (by decide) (by decide) (by decide) (by decide) (by decide)).trans (hFvy37 47 (by decide) (by decide))))
          have hey1711 : Fvy904 48 = F 48 := ((hFvy904 48 (by decide) (by decide) (by decide) (by decide) (by decide) (by decide) (by decide)).trans ((hFvy47 48 (by decide) (by decide) (by decide) (by decide) (by decide)).trans (hFvy37 48 (by decide) (by decide))))
          have hey1712 : Fvy904 49 = F 49 := ((hFvy904 49 (by decide) (by decide) (by decide) (by decide) (by decide) (by decide) (by decide)).trans ((hFvy47 49 (by decide) (by decide) (by decide) (by decide) (by decide)).trans (hFvy37 49 (by decide) (by decide))))
          have hlay1714 : ∀ s l : Nat, (s : Int) < Fvy904 47 → (l : Int) < mn1 s → lyT ly1 (84 * s + 7 * l) := fun s l a1 a2 => hly1 s l (by omega) a2
          have hgy1715 := (hfvy37 (i + 16) (ne_o (i := i) (c := 16) (d := 0) rfl)).trans ha16
          have hgy1716 := (hfvy47 (i + 16) (ne_o (i := i) (c := 16) (d := 0) rfl)).trans hgy1715
          have hgy1717 := (hfvy904 (i + 16) (ne_o (i := i) (c := 16) (d := 0) rfl)).trans hgy1716
          have hgy1718 := (hfvy37 (i + 17) (ne_o (i := i) (c := 17) (d := 0) rfl)).trans ha17
          have hgy1719 := (hfvy47 (i + 17) (ne_o (i := i) (c := 17) (d := 0) rfl)).trans hgy1718
          have hgy1720 := (hfvy904 (i + 17) (ne_o (i := i) (c := 17) (d := 0) rfl)).trans hgy1719
          have hgy1721 := (hfvy37 (i + 18) (ne_o (i := i) (c := 18) (d := 0) rfl)).trans ha18
          have hgy1722 := (hfvy47 (i + 18) (ne_o (i := i) (c := 18) (d := 0) rfl)).trans hgy1721
          have hgy1723 := (hfvy904 (i + 18) (ne_o (i := i) (c := 18) (d := 0) rfl)).trans hgy1722
          have hgy1724 := (hfvy37 (i + 19) (ne_o (i := i) (c := 19) (d := 0) rfl)).trans ha19
          have hgy1725 := (hfvy47 (i + 19) (ne_o (i := i) (c := 19) (d := 0) rfl)).trans hgy1724
          have hgy1726 := (hfvy904 (i + 19) (ne_o (i := i) (c := 19) (d := 0) rfl)).trans hgy1725
          have hgy1727 := (hfvy37 (i + 20) (ne_o (i := i) (c := 20) (d := 0) rfl)).trans ha20
          have hgy1728 := (hfvy47 (i + 20) (ne_o (i := i) (c := 20) (d := 0) rfl)).trans hgy1727
          have hgy1729 := (hfvy904 (i + 20) (ne_o (i := i) (c := 20) (d := 0) rfl)).trans hgy1728
          have hgy1730 := (hfvy37 (i + 21) (ne_o (i := i) (c := 21) (d := 0) rfl)).trans ha21
          have hgy1731 := (hfvy47 (i + 21) (ne_o (i := i) (c := 21) (d := 0) rfl)).trans hgy1730
          have hgy1732 := (hfvy904 (i + 21) (ne_o (i := i) (c := 21) (d := 0) rfl)).trans hgy1731
          have hgy1733 := (hfvy37 (i + 22) (ne_o (i := i) (c := 22) (d := 0) rfl)).trans ha22
          have hgy1734 := (hfvy47 (i + 22) (ne_o (i := i) (c := 22) (d := 0) rfl)).trans hgy1733
          have hgy1735 := (hfvy904 (i + 22) (ne_o (i := i) (c := 22) (d := 0) rfl)).trans hgy1734
          have hgy1736 := (hfvy37 (i + 23) (ne_o (i := i) (c := 23) (d := 0) rfl)).trans ha23
          have hgy1737 := (hfvy47 (i + 23) (ne_o (i := i) (c := 23) (d := 0) rfl)).trans hgy1736
          have hgy1738 := (hfvy904 (i + 23) (ne_o (i := i) (c := 23) (d := 0) rfl)).trans hgy1737
          have htxy1739 : okTx cs gvy904 i Fvy904 := ⟨_, _, _, _, _, _, _, _, ⟨hgy1717, hgy1720, hgy1723, hgy1726, hgy1729, hgy1732, hgy1735, hgy1738⟩, ⟨⟨by omega, by omega, by omega⟩, hop1, hmn1, hai1, hfa1, htb1, hlay1714⟩⟩
          exact z_vret C hr hlk dX10_hour1_83 (by decide) (by decide) ⟨rfl, rfl, rfl, ⟨_, hcvy904, hrdy1708, by omega, by omega, hFy1700, htxy1739⟩, fun j j1 j2 => by rw [hfvy904 _ (by omega)]; rw [hfvy47 _ (by omega)]; rw [hfvy37 _ (by omega)]⟩
      · refine z_iconst (z := 1) C dX10_hour1_44 rfl ?_
        refine z_goto (tgt := 49) C dX10_hour1_45 (by decide) ?_
        refine z_istore_n (lv' := [(1, .int (zI (1))), (0, .ref (ad i))]) C dX10_hour1_49 rfl (by decide) rfl ?_
        refine z_iload_n C 0 dX10_hour1_50 rfl ?_
        refine z_if_eq (tgt := 58) C dX10_hour1_51 (by decide) (by omega) (fun h => absurd h (by omega)) (fun _ => ?_)
        refine z_aload_n C 1 dX10_hour1_54 rfl ?_
        have hey1740 : Fvy47 32 = Fvy47 32 := rfl
        have hey1741 : Fvy47 33 = Fvy47 33 := rfl
        have hey1742 : Fvy47 34 = F 34 := ((hFvy47 34 (by decide) (by decide) (by decide) (by decide) (by decide)).trans (hFvy37 34 (by decide) (by decide)))
        have hey1743 : Fvy47 35 = Fvy47 35 := rfl
        have hey1744 : Fvy47 36 = Fvy47 36 := rfl
        have hey1745 : Fvy47 37 = Fvy47 37 := rfl
        have hey1746 : Fvy47 38 = 0 := ((hFvy47 38 (by decide) (by decide) (by decide) (by decide) (by decide)).trans e38vy37)
        have hrdy1747 : RD Fvy47 := by unfold RD; omega
        have hgy1748 := (hfvy47 (i + 13) (ne_o (i := i) (c := 13) (d := 0) rfl)).trans hgy46
        refine z_cV (As := []) (rest := []) (ci := 12) C (c_X10_go l D A cs tt N ad _ i hN _ hcvy47 _ hgy1748 htp hrdy1747) (by omega) hay1 hcvy47 rfl rfl mv_yX10_go q_1652 hd_yX10_go (by decide) (Nat.le_of_ble_eq_true rfl) (by decide) dX10_hour1_55 rfl (kV0 fun gvy1749 hvy1749 => ?_)
        obtain ⟨⟨Fvy1749, hcvy1749, hdvy1749, hlvy1749, hsvy1749, hFvy1749⟩, hfvy1749⟩ := hvy1749
        have h32vy1749 : Fvy47 32 = Fvy47 32 := rfl
        have h34vy1749 : Fvy1749 34 = F 34 := (hFvy1749 34 (by decide) (by decide) (by decide) (by decide) (by decide)).trans (((hFvy47 34 (by decide) (by decide) (by decide) (by decide) (by decide)).trans (hFvy37 34 (by decide) (by decide))))
        obtain ⟨d32vy1749, d33vy1749, d35vy1749, d36vy1749, d2vy1749, d37vy1749, d38vy1749⟩ := id hdvy1749
        have h38vy1749 : Fvy1749 38 = 0 := ((hFvy1749 38 (by decide) (by decide) (by decide) (by decide) (by decide)).trans ((hFvy47 38 (by decide) (by decide) (by decide) (by decide) (by decide)).trans e38vy37))
        refine z_aload_n C 1 dX10_hour1_58 rfl ?_
        refine z_iconst (z := 0) C dX10_hour1_59 rfl ?_
        refine z_iload_n C 0 dX10_hour1_60 rfl ?_
        refine z_if_eq (tgt := 70) C dX10_hour1_61 (by decide) (by omega) (fun h => absurd h (by omega)) (fun _ => ?_)
        refine z_sipush (z := 300) C dX10_hour1_64 (by decide) ?_
        refine z_goto (tgt := 72) C dX10_hour1_67 (by decide) ?_
        have hey1750 : Fvy1749 32 = Fvy1749 32 := rfl
        have hey1751 : Fvy1749 33 = Fvy1749 33 := rfl
        have hey1752 : Fvy1749 34 = F 34 := ((hFvy1749 34 (by decide) (by decide) (by decide) (by decide) (by decide)).trans ((hFvy47 34 (by decide) (by decide) (by decide) (by decide) (by decide)).trans (hFvy37 34 (by decide) (by decide))))
        have hey1753 : Fvy1749 35 = Fvy1749 35 := rfl
        have hey1754 : Fvy1749 36 = Fvy1749 36 := rfl
        have hey1755 : Fvy1749 37 = Fvy1749 37 := rfl
        have hey1756 : Fvy1749 38 = 0 := ((hFvy1749 38 (by decide) (by decide) (by decide) (by decide) (by decide)).trans ((hFvy47 38 (by decide) (by decide) (by decide) (by decide) (by decide)).trans e38vy37))
        have hrdy1757 : RD Fvy1749 := by unfold RD; omega
        have hgy1758 := (hfvy1749 (i + 13) (ne_o (i := i) (c := 13) (d := 0) rfl)).trans hgy1748
        have hey1760 : Fvy1749 38 = 0 := ((hFvy1749 38 (by decide) (by decide) (by decide) (by decide) (by decide)).trans ((hFvy47 38 (by decide) (by decide) (by decide) (by decide) (by decide)).trans e38vy37))
        have hey1761 : Fvy1749 35 = Fvy1749 35 := rfl
        refine z_cV (As := [.int (zI (0)), .int (zI (300))]) (rest := []) (ci := 12) C (c_X10_number l D A cs tt N ad _ i hN _ hcvy1749 _ hgy1758 htp hrdy1757 (0) (by omega) (300) (by omega)) (by omega) hay1 hcvy1749 rfl rfl mv_yX10_number q_1682 hd_yX10_number (by decide) (Nat.le_of_ble_eq_true rfl) (by decide) dX10_hour1_72 rfl (kI0 fun vy1759 gvy1759 hvy1759 => ?_)
        obtain ⟨hrvy1759, ⟨Fvy1759, hcvy1759, hdvy1759, hlvy1759, hsvy1759, hFvy1759⟩, hfvy1759⟩ := hvy1759
        have h32vy1759 : Fvy1749 32 = Fvy1749 32 := rfl
        have h34vy1759 : Fvy1759 34 = F 34 := (hFvy1759 34 (by decide) (by decide) (by decide) (by decide) (by decide) (by decide) (by decide)).trans (((hFvy1749 34 (by decide) (by decide) (by decide) (by decide) (by decide)).trans ((hFvy47 34 (by decide) (by decide) (by decide) (by decide) (by decide)).trans (hFvy37 34 (by decide) (by decide)))))
        obtain ⟨d32vy1759, d33vy1759, d35vy1759, d36vy1759, d2vy1759, d37vy1759, d38vy1759⟩ := id hdvy1759
        rcases (show Fvy1759 38 = 0 ∨ Fvy1759 38 ≠ 0 by omega) with hxvy1759 | hxvy1759
        · refine z_istore_n (lv' := [(2, .int (zI (vy1759))), (1, .int (zI (1))), (0, .ref (ad i))]) C dX10_hour1_75 rfl (by decide) rfl ?_
          refine z_aload_n C 2 dX10_hour1_76 rfl ?_
          refine z_get (v := .int (zI (0))) C (by omega) hay1 hcvy1759 rfl inA_X10 38 (by decide) q_1497 rfl (fv (F := Fvy1759) (f := 38) hxvy1759) dX10_hour1_77 ?_
          refine z_if_eq (tgt := 84) C dX10_hour1_80 (by decide) (by omega) (fun _ => ?_) (fun h => absurd h (by omega))
          refine z_aload_n C 2 dX10_hour1_84 rfl ?_
          refine z_get (v := .ref (ad (i + 19))) C (by omega) hay1 hcvy1759 rfl inA_X10 42 (by decide) q_1501 rfl rfl dX10_hour1_85 ?_
          refine z_aload_n C 2 dX10_hour1_88 rfl ?_
          refine z_get (v := .int (zI (F 48))) C (by omega) hay1 hcvy1759 rfl inA_X10 48 (by decide) q_1507 rfl (fv (F := Fvy1759) (f := 48) ((hFvy1759 48 (by decide) (by decide) (by decide) (by decide) (by decide) (by decide) (by decide)).trans ((hFvy1749 48 (by decide) (by decide) (by decide) (by decide) (by decide)).trans ((hFvy47 48 (by decide) (by decide) (by decide) (by decide) (by decide)).trans (hFvy37 48 (by decide) (by decide)))))) dX10_hour1_89 ?_
          refine z_iload_n C 1 dX10_hour1_92 rfl ?_
          refine z_if_eq (tgt := 101) C dX10_hour1_93 (by decide) (by omega) (fun h => absurd h (by omega)) (fun _ => ?_)
          refine z_iload_n C 0 dX10_hour1_96 rfl ?_
          refine z_ineg C dX10_hour1_97 ?_
          refine z_goto (tgt := 102) C dX10_hour1_98 (by decide) ?_
          have hgy1762 := (hfvy37 (i + 19) (ne_o (i := i) (c := 19) (d := 0) rfl)).trans ha19
          have hgy1763 := (hfvy47 (i + 19) (ne_o (i := i) (c := 19) (d := 0) rfl)).trans hgy1762
          have hgy1764 := (hfvy1749 (i + 19) (ne_o (i := i) (c := 19) (d := 0) rfl)).trans hgy1763
          have hgy1765 := (hfvy1759 (i + 19) (ne_o (i := i) (c := 19) (d := 0) rfl)).trans hgy1764
          refine z_iast C (by omega) hay6 hgy1765 ((F 48).toNat) (by omega) (by omega) (by decide) dX10_hour1_102 (fun gy1766 egy1767 => ?_)
          have hgy1768 := up_s egy1767
          obtain ⟨ry1769, hvy1770⟩ : ∃ rZ9 : Nat → Int, rZ9 = uZ ai1 ((F 48).toNat) (-(vy1759)) := ⟨_, rfl⟩
          rw [← hvy1770] at hgy1768
          refine z_aload_n C 2 dX10_hour1_103 rfl ?_
          have hgy1771 := up_n egy1767 hcvy1759 (ne_o (i := i) (c := 0) (d := 19) rfl)
          refine z_get (v := .ref (ad (i + 20))) C (by omega) hay1 hgy1771 rfl inA_X10 43 (by decide) q_1502 rfl rfl dX10_hour1_104 ?_
          refine z_aload_n C 2 dX10_hour1_107 rfl ?_
          refine z_get (v := .int (zI (F 48))) C (by omega) hay1 hgy1771 rfl inA_X10 48 (by decide) q_1507 rfl (fv (F := Fvy1759) (f := 48) ((hFvy1759 48 (by decide) (by decide) (by decide) (by decide) (by decide) (by decide) (by decide)).trans ((hFvy1749 48 (by decide) (by decide) (by decide) (by decide) (by decide)).trans ((hFvy47 48 (by decide) (by decide) (by decide) (by decide) (by decide)).trans (hFvy37 48 (by decide) (by decide)))))) dX10_hour1_108 ?_
          refine z_iconst (z := 0) C dX10_hour1_111 rfl ?_
          have hgy1772 := (hfvy37 (i + 20) (ne_o (i := i) (c := 20) (d := 0) rfl)).trans ha20
          have hgy1773 := (hfvy47 (i + 20) (ne_o (i := i) (c := 20) (d := 0) rfl)).trans hgy1772
          have hgy1774 := (hfvy1749 (i + 20) (ne_o (i := i) (c := 20) (d := 0) rfl)).trans hgy1773
          have hgy1775 := (hfvy1759 (i + 20) (ne_o (i := i) (c := 20) (d := 0) rfl)).trans hgy1774
          have hgy1776 := up_n egy1767 hgy1775 (ne_o (i := i) (c := 20) (d := 19) rfl)
          refine z_iast C (by omega) hay7 hgy1776 ((F 48).toNat) (by omega) (by omega) (by decide) dX10_hour1_112 (fun gy1777 egy1778 => ?_)
          have hgy1779 := up_s egy1778
          obtain ⟨ry1780, hvy1781⟩ : ∃ rZ9 : Nat → Int, rZ9 = uZ fa1 ((F 48).toNat) (0) := ⟨_, rfl⟩
          rw [← hvy1781] at hgy1779
          refine z_aload_n C 2 dX10_hour1_113 rfl ?_
          have hgy1782 := up_n egy1778 hgy1771 (ne_o (i := i) (c := 0) (d := 20) rfl)
          refine z_get (v := .ref (ad (i + 21))) C (by omega) hay1 hgy1782 rfl inA_X10 44 (by decide) q_1503 rfl rfl dX10_hour1_114 ?_
          refine z_aload_n C 2 dX10_hour1_117 rfl ?_
          refine z_get (v := .int (zI (F 48))) C (by omega) hay1 hgy1782 rfl inA_X10 48 (by decide) q_1507 rfl (fv (F := Fvy1759) (f := 48) ((hFvy1759 48 (by decide) (by decide) (by decide) (by decide) (by decide) (by decide) (by decide)).trans ((hFvy1749 48 (by decide) (by decide) (by decide) (by decide) (by decide)).trans ((hFvy47 48 (by decide) (by decide) (by decide) (by decide) (by decide)).trans (hFvy37 48 (by decide) (by decide)))))) dX10_hour1_118 ?_
          refine z_iconst (z := 0) C dX10_hour1_121 rfl ?_
          have hgy1783 := (hfvy37 (i + 21) (ne_o (i := i) (c := 21) (d := 0) rfl)).trans ha21
          have hgy1784 := (hfvy47 (i + 21) (ne_o (i := i) (c := 21) (d := 0) rfl)).trans hgy1783
          have hgy1785 := (hfvy1749 (i + 21) (ne_o (i := i) (c := 21) (d := 0) rfl)).trans hgy1784
          have hgy1786 := (hfvy1759 (i + 21) (ne_o (i := i) (c := 21) (d := 0) rfl)).trans hgy1785
          have hgy1787 := up_n egy1767 hgy1786 (ne_o (i := i) (c := 21) (d := 19) rfl)
          have hgy1788 := up_n egy1778 hgy1787 (ne_o (i := i) (c := 21) (d := 20) rfl)
          refine z_iast C (by omega) hay8 hgy1788 ((F 48).toNat) (by omega) (by omega) (by decide) dX10_hour1_122 (fun gy1789 egy1790 => ?_)
          have hgy1791 := up_s egy1790
          obtain ⟨ry1792, hvy1793⟩ : ∃ rZ9 : Nat → Int, rZ9 = uZ mu1 ((F 48).toNat) (0) := ⟨_, rfl⟩
          rw [← hvy1793] at hgy1791
          refine z_aload_n C 2 dX10_hour1_123 rfl ?_
          refine z_iconst (z := 3) C dX10_hour1_124 rfl ?_
          have hgy1794 := up_n egy1790 hgy1782 (ne_o (i := i) (c := 0) (d := 21) rfl)
          have hey1795 : Fvy1759 32 = Fvy1759 32 := rfl
          have hey1796 : Fvy1759 33 = Fvy1759 33 := rfl
          have hey1797 : Fvy1759 34 = F 34 := ((hFvy1759 34 (by decide) (by decide) (by decide) (by decide) (by decide) (by decide) (by decide)).trans ((hFvy1749 34 (by decide) (by decide) (by decide) (by decide) (by decide)).trans ((hFvy47 34 (by decide) (by decide) (by decide) (by decide) (by decide)).trans (hFvy37 34 (by decide) (by decide)))))
          have hey1798 : Fvy1759 35 = Fvy1759 35 := rfl
          have hey1799 : Fvy1759 36 = Fvy1759 36 := rfl
          have hey1800 : Fvy1759 37 = Fvy1759 37 := rfl
          have hey1801 : Fvy1759 38 = 0 := hxvy1759
          have hrdy1802 : RD Fvy1759 := by unfold RD; omega
          have hey1804 : Fvy1759 38 = 0 := hxvy1759
          have hey1805 : Fvy1759 35 = Fvy1759 35 := rfl
          have hey1806 : Fvy1759 37 = Fvy1759 37 := rfl
          refine z_cV (As := [.int (zI (3))]) (rest := []) (ci := 12) C (c_X10_is l D A cs tt N ad _ i hN _ hgy1794 hrdy1802 (3) (by omega)) (by omega) hay1 hgy1794 rfl rfl mv_yX10_is q_1705 hd_yX10_is (by decide) (Nat.le_of_ble_eq_true rfl) (by decide) dX10_hour1_125 rfl (kI0 fun vy1803 gvy1803 hvy1803 => ?_)
          rw [hey1804, hey1805, hey1806] at hvy1803
          obtain ⟨hrvy1803, hqvy1803, rfl⟩ := hvy1803
          refine z_if_ne (tgt := 147) C dX10_hour1_128 (by decide) (by omega) (fun hby1807 => ?_) (fun hby1807 => ?_)
          · refine z_aload_n C 2 dX10_hour1_147 rfl ?_
            refine z_get (v := .ref (ad (i + 20))) C (by omega) hay1 hgy1794 rfl inA_X10 43 (by decide) q_1502 rfl rfl dX10_hour1_148 ?_
            refine z_aload_n C 2 dX10_hour1_151 rfl ?_
            refine z_get (v := .int (zI (F 48))) C (by omega) hay1 hgy1794 rfl inA_X10 48 (by decide) q_1507 rfl (fv (F := Fvy1759) (f := 48) ((hFvy1759 48 (by decide) (by decide) (by decide) (by decide) (by decide) (by decide) (by decide)).trans ((hFvy1749 48 (by decide) (by decide) (by decide) (by decide) (by decide)).trans ((hFvy47 48 (by decide) (by decide) (by decide) (by decide) (by decide)).trans (hFvy37 48 (by decide) (by decide)))))) dX10_hour1_152 ?_
            refine z_aload_n C 2 dX10_hour1_155 rfl ?_
            refine z_get (v := .int (zI (Fvy1759 37))) C (by omega) hay1 hgy1794 rfl inA_X10 37 (by decide) q_1496 rfl (fv (F := Fvy1759) (f := 37) rfl) dX10_hour1_156 ?_
            refine z_iconst (z := 3) C dX10_hour1_159 rfl ?_
            refine z_isub C dX10_hour1_160 ?_
            refine z_iconst (z := 1) C dX10_hour1_161 rfl ?_
            refine z_iadd C dX10_hour1_162 ?_
            have hgy1808 := up_n egy1790 hgy1779 (ne_o (i := i) (c := 20) (d := 21) rfl)
            refine z_iast C (by omega) hay7 hgy1808 ((F 48).toNat) (by omega) (by omega) (by decide) dX10_hour1_163 (fun gy1809 egy1810 => ?_)
            have hgy1811 := up_s egy1810
            obtain ⟨ry1812, hvy1813⟩ : ∃ rZ9 : Nat → Int, rZ9 = uZ ry1780 ((F 48).toNat) (((Fvy1759 37) - 3) + 1) := ⟨_, rfl⟩
            rw [← hvy1813] at hgy1811
            refine z_aload_n C 2 dX10_hour1_164 rfl ?_
            have hgy1814 := up_n egy1810 hgy1794 (ne_o (i := i) (c := 0) (d := 20) rfl)
            have hey1815 : Fvy1759 32 = Fvy1759 32 := rfl
            have hey1816 : Fvy1759 33 = Fvy1759 33 := rfl
            have hey1817 : Fvy1759 34 = F 34 := ((hFvy1759 34 (by decide) (by decide) (by decide) (by decide) (by decide) (by decide) (by decide)).trans ((hFvy1749 34 (by decide) (by decide) (by decide) (by decide) (by decide)).trans ((hFvy47 34 (by decide) (by decide) (by decide) (by decide) (by decide)).trans (hFvy37 34 (by decide) (by decide)))))
            have hey1818 : Fvy1759 35 = Fvy1759 35 := rfl
            have hey1819 : Fvy1759 36 = Fvy1759 36 := rfl
            have hey1820 : Fvy1759 37 = Fvy1759 37 := rfl
            have hey1821 : Fvy1759 38 = 0 := hxvy1759
            have hrdy1822 : RD Fvy1759 := by unfold RD; omega
            have hgy1823 := (hfvy1759 (i + 13) (ne_o (i := i) (c := 13) (d := 0) rfl)).trans hgy1758
            have hgy1824 := up_n egy1767 hgy1823 (ne_o (i := i) (c := 13) (d := 19) rfl)
            have hgy1825 := up_n egy1778 hgy1824 (ne_o (i := i) (c := 13) (d := 20) rfl)
            have hgy1826 := up_n egy1790 hgy1825 (ne_o (i := i) (c := 13) (d := 21) rfl)
            have hgy1827 := up_n egy1810 hgy1826 (ne_o (i := i) (c := 13) (d := 20) rfl)
            refine z_cV (As := []) (rest := []) (ci := 12) C (c_X10_go l D A cs tt N ad _ i hN _ hgy1814 _ hgy1827 htp hrdy1822) (by omega) hay1 hgy1814 rfl rfl mv_yX10_go q_1652 hd_yX10_go (by decide) (Nat.le_of_ble_eq_true rfl) (by decide) dX10_hour1_165 rfl (kV0 fun gvy1828 hvy1828 => ?_)
            obtain ⟨⟨Fvy1828, hcvy1828, hdvy1828, hlvy1828, hsvy1828, hFvy1828⟩, hfvy1828⟩ := hvy1828
            have h32vy1828 : Fvy1759 32 = Fvy1759 32 := rfl
            have h34vy1828 : Fvy1828 34 = F 34 := (hFvy1828 34 (by decide) (by decide) (by decide) (by decide) (by decide)).trans (((hFvy1759 34 (by decide) (by decide) (by decide) (by decide) (by decide) (by decide) (by decide)).trans ((hFvy1749 34 (by decide) (by decide) (by decide) (by decide) (by decide)).trans ((hFvy47 34 (by decide) (by decide) (by decide) (by decide) (by decide)).trans (hFvy37 34 (by decide) (by decide))))))
            obtain ⟨d32vy1828, d33vy1828, d35vy1828, d36vy1828, d2vy1828, d37vy1828, d38vy1828⟩ := id hdvy1828
            have h38vy1828 : Fvy1828 38 = 0 := ((hFvy1828 38 (by decide) (by decide) (by decide) (by decide) (by decide)).trans hxvy1759)
            refine z_aload_n C 2 dX10_hour1_168 rfl ?_
            refine z_get (v := .ref (ad (i + 20))) C (by omega) hay1 hcvy1828 rfl inA_X10 43 (by decide) q_1502 rfl rfl dX10_hour1_169 ?_
            refine z_aload_n C 2 dX10_hour1_172 rfl ?_
            refine z_get (v := .int (zI (F 48))) C (by omega) hay1 hcvy1828 rfl inA_X10 48 (by decide) q_1507 rfl (fv (F := Fvy1828) (f := 48) ((hFvy1828 48 (by decide) (by decide) (by decide) (by decide) (by decide)).trans ((hFvy1759 48 (by decide) (by decide) (by decide) (by decide) (by decide) (by decide) (by decide)).trans ((hFvy1749 48 (by decide) (by decide) (by decide) (by decide) (by decide)).trans ((hFvy47 48 (by decide) (by decide) (by decide) (by decide) (by decide)).trans (hFvy37 48 (by decide) (by decide))))))) dX10_hour1_173 ?_
            have hgy1829 := (hfvy1828 (i + 20) (ne_o (i := i) (c := 20) (d := 0) rfl)).trans hgy1811
            refine z_iald C (by omega) hay7 hgy1829 ((F 48).toNat) (by omega) (by omega) (by decide) dX10_hour1_176 ?_
            rw [show ry1812 ((F 48).toNat) = ((Fvy1759 37) - 3) + 1 from (congrFun hvy1813 _).trans (uZ_s _ _ _)]
            refine z_iconst (z := 3) C dX10_hour1_177 rfl ?_
            obtain ⟨xy1830, exy1831, hxy1832⟩ := zI_of (zI (((Fvy1759 37) - 3) + 1))
            rw [exy1831]
            refine z_icmp_ge (tgt := 197) C dX10_hour1_178 (by decide) (by omega) (by omega) (fun hby1833 => ?_) (fun hby1833 => ?_)
            · refine z_aload_n C 2 dX10_hour1_197 rfl ?_
              refine z_dup C dX10_hour1_198 rfl ?_
              refine z_get (v := .int (zI (F 48))) C (by omega) hay1 hcvy1828 rfl inA_X10 48 (by decide) q_1507 rfl (fv (F := Fvy1828) (f := 48) ((hFvy1828 48 (by decide) (by decide) (by decide) (by decide) (by decide)).trans ((hFvy1759 48 (by decide) (by decide) (by decide) (by decide) (by decide) (by decide) (by decide)).trans ((hFvy1749 48 (by decide) (by decide) (by decide) (by decide) (by decide)).trans ((hFvy47 48 (by decide) (by decide) (by decide) (by decide) (by decide)).trans (hFvy37 48 (by decide) (by decide))))))) dX10_hour1_199 ?_
              refine z_iconst (z := 1) C dX10_hour1_202 rfl ?_
              refine z_iadd C dX10_hour1_203 ?_
              refine z_put (fs' := mF ad (i) (uZ Fvy1828 48 ((F 48) + 1))) C (by omega) hay1 hcvy1828 tyX10 tyX10_ok nmX10 rfl inA_X10 48 (by decide) q_1507 rfl rfl rfl rfl (Nat.le_of_ble_eq_true rfl) rfl dX10_hour1_204 (fun gy1834 egy1835 => ?_)
              have hgy1836 := up_s egy1835
              have hFy1837 : ∀ f, f ≠ 24 → f ≠ 32 → f ≠ 33 → f ≠ 35 → f ≠ 36 → f ≠ 37 → f ≠ 38 → f ≠ 47 → f ≠ 48 → f ≠ 49 → (uZ Fvy1828 48 ((F 48) + 1)) f = F f := fun f n24 n32 n33 n35 n36 n37 n38 n47 n48 n49 => ((uZ_n _ _ n48).trans ((hFvy1828 f n32 n33 n35 n36 n37).trans ((hFvy1759 f n24 n32 n33 n35 n36 n37 n38).trans ((hFvy1749 f n32 n33 n35 n36 n37).trans ((hFvy47 f n32 n33 n35 n36 n37).trans (hFvy37 f n24 n38))))))
              have hey1838 : (uZ Fvy1828 48 ((F 48) + 1)) 32 = Fvy1828 32 := (fn rfl (by decide))
              have hey1839 : (uZ Fvy1828 48 ((F 48) + 1)) 33 = Fvy1828 33 := (fn rfl (by decide))
              have hey1840 : (uZ Fvy1828 48 ((F 48) + 1)) 34 = F 34 := (fn ((hFvy1828 34 (by decide) (by decide) (by decide) (by decide) (by decide)).trans ((hFvy1759 34 (by decide) (by decide) (by decide) (by decide) (by decide) (by decide) (by decide)).trans ((hFvy1749 34 (by decide) (by decide) (by decide) (by decide) (by decide)).trans ((hFvy47 34 (by decide) (by decide) (by decide) (by decide) (by decide)).trans (hFvy37 34 (by decide) (by decide)))))) (by decide))
              have hey1841 : (uZ Fvy1828 48 ((F 48) + 1)) 35 = Fvy1828 35 := (fn rfl (by decide))
              have hey1842 : (uZ Fvy1828 48 ((F 48) + 1)) 36 = Fvy1828 36 := (fn rfl (by decide))
              have hey1843 : (uZ Fvy1828 48 ((F 48) + 1)) 37 = Fvy1828 37 := (fn rfl (by decide))
              have hey1844 : (uZ Fvy1828 48 ((F 48) + 1)) 38 = 0 := (fn ((hFvy1828 38 (by decide) (by decide) (by decide) (by decide) (by decide)).trans hxvy1759) (by decide))
              have hrdy1845 : RD (uZ Fvy1828 48 ((F 48) + 1)) := by unfold RD; omega
              have hey1846 : (uZ Fvy1828 48 ((F 48) + 1)) 32 = Fvy1828 32 := (fn rfl (by decide))
              have hey1847 : (uZ Fvy1828 48 ((F 48) + 1)) 47 = F 47 := (fn ((hFvy1828 47 (by decide) (by decide) (by decide) (by decide) (by decide)).trans ((hFvy1759 47 (by decide) (by decide) (by decide) (by decide) (by decide) (by decide) (by decide)).trans ((hFvy1749 47 (by decide) (by decide) (by decide) (by decide) (by decide)).trans ((hFvy47 47 (by decide) (by decide) (by decide) (by decide) (by decide)).trans (hFvy37 47 (by decide) (by decide)))))) (by decide))
              have hey1848 : (uZ Fvy1828 48 ((F 48) + 1)) 48 = (F 48) + 1 := (uZ_s _ _ _)
              have hey1849 : (uZ Fvy1828 48 ((F 48) + 1)) 49 = F 49 := (fn ((hFvy1828 49 (by decide) (by decide) (by decide) (by decide) (by decide)).trans ((hFvy1759 49 (by decide) (by decide) (by decide) (by decide) (by decide) (by decide) (by decide)).trans ((hFvy1749 49 (by decide) (by decide) (by decide) (by decide) (by decide)).trans ((hFvy47 49 (by decide) (by decide) (by decide) (by decide) (by decide)).trans (hFvy37 49 (by decide) (by decide)))))) (by decide))
              have hfry1851 : ∀ j, j ≠ (F 48).toNat → ry1769 j = ai1 j := fun j n0 => (congrFun hvy1770 _).trans ((uZ_n _ _ n0).trans (rfl))
              have hwy1852 : ry1769 ((F 48).toNat) = -(vy1759) := (congrFun hvy1770 _).trans (uZ_s _ _ _)
              have haky1850 : ∀ k, k < 24 → -300 ≤ ry1769 k ∧ ry1769 k ≤ 100 := by
                intro k hk
                by_cases e : k = (F 48).toNat
                · subst e; have hk0 := hai1 ((F 48).toNat) (by omega); omega
                · have hk0 := hai1 k hk; rw [hfry1851 k e]; exact hk0
              have hfry1854 : ∀ j, j ≠ (F 48).toNat → ry1812 j = fa1 j := fun j n0 => (congrFun hvy1813 _).trans ((uZ_n _ _ n0).trans ((congrFun hvy1781 _).trans ((uZ_n _ _ n0).trans (rfl))))
              have hfry1855 : ∀ j, j ≠ (F 48).toNat → ry1792 j = mu1 j := fun j n0 => (congrFun hvy1793 _).trans ((uZ_n _ _ n0).trans (rfl))
              have hwy1856 : ry1812 ((F 48).toNat) = ((Fvy1759 37) - 3) + 1 := (congrFun hvy1813 _).trans (uZ_s _ _ _)
              have hwy1857 : ry1792 ((F 48).toNat) = 0 := (congrFun hvy1793 _).trans (uZ_s _ _ _)
              have haky1853 : ∀ k, k < 24 → (0 ≤ ry1812 k ∧ ry1812 k ≤ 3) ∧ (0 ≤ ry1792 k ∧ ry1792 k ≤ 50) ∧ (ry1812 k = 1 ∨ ry1812 k = 2 → 1 ≤ ry1792 k) := by
                intro k hk
                by_cases e : k = (F 48).toNat
                · subst e; have hk0 := hfa1 ((F 48).toNat) (by omega); omega
                · have hk0 := hfa1 k hk; rw [hfry1854 k e]; rw [hfry1855 k e]; exact hk0
              have hlay1858 : ∀ s l : Nat, (s : Int) < (uZ Fvy1828 48 ((F 48) + 1)) 47 → (l : Int) < mn1 s → lyT ly1 (84 * s + 7 * l) := fun s l a1 a2 => hly1 s l (by omega) a2
              have hgy1859 := (hfvy37 (i + 16) (ne_o (i := i) (c := 16) (d := 0) rfl)).trans ha16
              have hgy1860 := (hfvy47 (i + 16) (ne_o (i := i) (c := 16) (d := 0) rfl)).trans hgy1859
              have hgy1861 := (hfvy1749 (i + 16) (ne_o (i := i) (c := 16) (d := 0) rfl)).trans hgy1860
              have hgy1862 := (hfvy1759 (i + 16) (ne_o (i := i) (c := 16) (d := 0) rfl)).trans hgy1861
              have hgy1863 := up_n egy1767 hgy1862 (ne_o (i := i) (c := 16) (d := 19) rfl)
              have hgy1864 := up_n egy1778 hgy1863 (ne_o (i := i) (c := 16) (d := 20) rfl)
              have hgy1865 := up_n egy1790 hgy1864 (ne_o (i := i) (c := 16) (d := 21) rfl)
              have hgy1866 := up_n egy1810 hgy1865 (ne_o (i := i) (c := 16) (d := 20) rfl)
              have hgy1867 := (hfvy1828 (i + 16) (ne_o (i := i) (c := 16) (d := 0) rfl)).trans hgy1866
              have hgy1868 := up_n egy1835 hgy1867 (ne_o (i := i) (c := 16) (d := 0) rfl)
              have hgy1869 := (hfvy37 (i + 17) (ne_o (i := i) (c := 17) (d := 0) rfl)).trans ha17
              have hgy1870 := (hfvy47 (i + 17) (ne_o (i := i) (c := 17) (d := 0) rfl)).trans hgy1869
              have hgy1871 := (hfvy1749 (i + 17) (ne_o (i := i) (c := 17) (d := 0) rfl)).trans hgy1870
              have hgy1872 := (hfvy1759 (i + 17) (ne_o (i := i) (c := 17) (d := 0) rfl)).trans hgy1871
              have hgy1873 := up_n egy1767 hgy1872 (ne_o (i := i) (c := 17) (d := 19) rfl)
              have hgy1874 := up_n egy1778 hgy1873 (ne_o (i := i) (c := 17) (d := 20) rfl)
              have hgy1875 := up_n egy1790 hgy1874 (ne_o (i := i) (c := 17) (d := 21) rfl)
              have hgy1876 := up_n egy1810 hgy1875 (ne_o (i := i) (c := 17) (d := 20) rfl)
              have hgy1877 := (hfvy1828 (i + 17) (ne_o (i := i) (c := 17) (d := 0) rfl)).trans hgy1876
              have hgy1878 := up_n egy1835 hgy1877 (ne_o (i := i) (c := 17) (d := 0) rfl)
              have hgy1879 := (hfvy37 (i + 18) (ne_o (i := i) (c := 18) (d := 0) rfl)).trans ha18
              have hgy1880 := (hfvy47 (i + 18) (ne_o (i := i) (c := 18) (d := 0) rfl)).trans hgy1879
              have hgy1881 := (hfvy1749 (i + 18) (ne_o (i := i) (c := 18) (d := 0) rfl)).trans hgy1880
              have hgy1882 := (hfvy1759 (i + 18) (ne_o (i := i) (c := 18) (d := 0) rfl)).trans hgy1881
              have hgy1883 := up_n egy1767 hgy1882 (ne_o (i := i) (c := 18) (d := 19) rfl)
              have hgy1884 := up_n egy1778 hgy1883 (ne_o (i := i) (c := 18) (d := 20) rfl)
              have hgy1885 := up_n egy1790 hgy1884 (ne_o (i := i) (c := 18) (d := 21) rfl)
              have hgy1886 := up_n egy1810 hgy1885 (ne_o (i := i) (c := 18) (d := 20) rfl)
              have hgy1887 := (hfvy1828 (i + 18) (ne_o (i := i) (c := 18) (d := 0) rfl)).trans hgy1886
              have hgy1888 := up_n egy1835 hgy1887 (ne_o (i := i) (c := 18) (d := 0) rfl)
              have hgy1889 := up_n egy1778 hgy1768 (ne_o (i := i) (c := 19) (d := 20) rfl)
              have hgy1890 := up_n egy1790 hgy1889 (ne_o (i := i) (c := 19) (d := 21) rfl)
              have hgy1891 := up_n egy1810 hgy1890 (ne_o (i := i) (c := 19) (d := 20) rfl)
              have hgy1892 := (hfvy1828 (i + 19) (ne_o (i := i) (c := 19) (d := 0) rfl)).trans hgy1891
              have hgy1893 := up_n egy1835 hgy1892 (ne_o (i := i) (c := 19) (d := 0) rfl)
              have hgy1894 := up_n egy1835 hgy1829 (ne_o (i := i) (c := 20) (d := 0) rfl)
              have hgy1895 := up_n egy1810 hgy1791 (ne_o (i := i) (c := 21) (d := 20) rfl)
              have hgy1896 := (hfvy1828 (i + 21) (ne_o (i := i) (c := 21) (d := 0) rfl)).trans hgy1895
              have hgy1897 := up_n egy1835 hgy1896 (ne_o (i := i) (c := 21) (d := 0) rfl)
              have hgy1898 := (hfvy37 (i + 22) (ne_o (i := i) (c := 22) (d := 0) rfl)).trans ha22
              have hgy1899 := (hfvy47 (i + 22) (ne_o (i := i) (c := 22) (d := 0) rfl)).trans hgy1898
              have hgy1900 := (hfvy1749 (i + 22) (ne_o (i := i) (c := 22) (d := 0) rfl)).trans hgy1899
              have hgy1901 := (hfvy1759 (i + 22) (ne_o (i := i) (c := 22) (d := 0) rfl)).trans hgy1900
              have hgy1902 := up_n egy1767 hgy1901 (ne_o (i := i) (c := 22) (d := 19) rfl)
              have hgy1903 := up_n egy1778 hgy1902 (ne_o (i := i) (c := 22) (d := 20) rfl)
              have hgy1904 := up_n egy1790 hgy1903 (ne_o (i := i) (c := 22) (d := 21) rfl)
              have hgy1905 := up_n egy1810 hgy1904 (ne_o (i := i) (c := 22) (d := 20) rfl)
              have hgy1906 := (hfvy1828 (i + 22) (ne_o (i := i) (c := 22) (d := 0) rfl)).trans hgy1905
              have hgy1907 := up_n egy1835 hgy1906 (ne_o (i := i) (c := 22) (d := 0) rfl)
              have hgy1908 := (hfvy37 (i + 23) (ne_o (i := i) (c := 23) (d := 0) rfl)).trans ha23
              have hgy1909 := (hfvy47 (i + 23) (ne_o (i := i) (c := 23) (d := 0) rfl)).trans hgy1908
              have hgy1910 := (hfvy1749 (i + 23) (ne_o (i := i) (c := 23) (d := 0) rfl)).trans hgy1909
              have hgy1911 := (hfvy1759 (i + 23) (ne_o (i := i) (c := 23) (d := 0) rfl)).trans hgy1910
              have hgy1912 := up_n egy1767 hgy1911 (ne_o (i := i) (c := 23) (d := 19) rfl)
              have hgy1913 := up_n egy1778 hgy1912 (ne_o (i := i) (c := 23) (d := 20) rfl)
              have hgy1914 := up_n egy1790 hgy1913 (ne_o (i := i) (c := 23) (d := 21) rfl)
              have hgy1915 := up_n egy1810 hgy1914 (ne_o (i := i) (c := 23) (d := 20) rfl)
              have hgy1916 := (hfvy1828 (i + 23) (ne_o (i := i) (c := 23) (d := 0) rfl)).trans hgy1915
              have hgy1917 := up_n egy1835 hgy1916 (ne_o (i := i) (c := 23) (d := 0) rfl)
              have htxy1918 : okTx cs gy1834 i (uZ Fvy1828 48 ((F 48) + 1)) := ⟨_, _, _, _, _, _, _, _, ⟨hgy1868, hgy1878, hgy1888, hgy1893, hgy1894, hgy1897, hgy1907, hgy1917⟩, ⟨⟨by omega, by omega, by omega⟩, hop1, hmn1, haky1850, haky1853, htb1, hlay1858⟩⟩
              exact z_vret C hr hlk dX10_hour1_207 (by decide) (by decide) ⟨rfl, rfl, rfl, ⟨_, hgy1836, hrdy1845, by omega, by omega, hFy1837, htxy1918⟩, fun j j1 j2 => by rw [egy1835, va_up_ne _ _ (by omega)]; rw [hfvy1828 _ (by omega)]; rw [egy1810, va_up_ne _ _ (by omega)]; rw [egy1790, va_up_ne _ _ (by omega)]; rw [egy1778, va_up_ne _ _ (by omega)]; rw [egy1767, va_up_ne _ _ (by omega)]; rw [hfvy1759 _ (by omega)]; rw [hfvy1749 _ (by omega)]; rw [hfvy47 _ (by omega)]; rw [hfvy37 _ (by omega)]⟩
            · refine z_aload_n C 2 dX10_hour1_181 rfl ?_
              refine z_get (v := .ref (ad (i + 21))) C (by omega) hay1 hcvy1828 rfl inA_X10 44 (by decide) q_1503 rfl rfl dX10_hour1_182 ?_
              refine z_aload_n C 2 dX10_hour1_185 rfl ?_
              refine z_get (v := .int (zI (F 48))) C (by omega) hay1 hcvy1828 rfl inA_X10 48 (by decide) q_1507 rfl (fv (F := Fvy1828) (f := 48) ((hFvy1828 48 (by decide) (by decide) (by decide) (by decide) (by decide)).trans ((hFvy1759 48 (by decide) (by decide) (by decide) (by decide) (by decide) (by decide) (by decide)).trans ((hFvy1749 48 (by decide) (by decide) (by decide) (by decide) (by decide)).trans ((hFvy47 48 (by decide) (by decide) (by decide) (by decide) (by decide)).trans (hFvy37 48 (by decide) (by decide))))))) dX10_hour1_186 ?_
              refine z_aload_n C 2 dX10_hour1_189 rfl ?_
              refine z_iconst (z := 1) C dX10_hour1_190 rfl ?_
              refine z_bipush (z := 50) C dX10_hour1_191 (by decide) ?_
              have hey1919 : Fvy1828 32 = Fvy1828 32 := rfl
              have hey1920 : Fvy1828 33 = Fvy1828 33 := rfl
              have hey1921 : Fvy1828 34 = F 34 := ((hFvy1828 34 (by decide) (by decide) (by decide) (by decide) (by decide)).trans ((hFvy1759 34 (by decide) (by decide) (by decide) (by decide) (by decide) (by decide) (by decide)).trans ((hFvy1749 34 (by decide) (by decide) (by decide) (by decide) (by decide)).trans ((hFvy47 34 (by decide) (by decide) (by decide) (by decide) (by decide)).trans (hFvy37 34 (by decide) (by decide))))))
              have hey1922 : Fvy1828 35 = Fvy1828 35 := rfl
              have hey1923 : Fvy1828 36 = Fvy1828 36 := rfl
              have hey1924 : Fvy1828 37 = Fvy1828 37 := rfl
              have hey1925 : Fvy1828 38 = 0 := ((hFvy1828 38 (by decide) (by decide) (by decide) (by decide) (by decide)).trans hxvy1759)
              have hrdy1926 : RD Fvy1828 := by unfold RD; omega
              have hgy1927 := (hfvy1828 (i + 13) (ne_o (i := i) (c := 13) (d := 0) rfl)).trans hgy1827
              have hey1929 : Fvy1828 38 = 0 := ((hFvy1828 38 (by decide) (by decide) (by decide) (by decide) (by decide)).trans hxvy1759)
              have hey1930 : Fvy1828 35 = Fvy1828 35 := rfl
              refine z_cV (As := [.int (zI (1)), .int (zI (50))]) (rest := [.int (zI (F 48)), .ref (ad (i + 21))]) (ci := 12) C (c_X10_number l D A cs tt N ad _ i hN _ hcvy1828 _ hgy1927 htp hrdy1926 (1) (by omega) (50) (by omega)) (by omega) hay1 hcvy1828 rfl rfl mv_yX10_number q_1682 hd_yX10_number (by decide) (Nat.le_of_ble_eq_true rfl) (by decide) dX10_hour1_193 rfl (kI0 fun vy1928 gvy1928 hvy1928 => ?_)
              obtain ⟨hrvy1928, ⟨Fvy1928, hcvy1928, hdvy1928, hlvy1928, hsvy1928, hFvy1928⟩, hfvy1928⟩ := hvy1928
              have h32vy1928 : Fvy1828 32 = Fvy1828 32 := rfl
              have h34vy1928 : Fvy1928 34 = F 34 := (hFvy1928 34 (by decide) (by decide) (by decide) (by decide) (by decide) (by decide) (by decide)).trans (((hFvy1828 34 (by decide) (by decide) (by decide) (by decide) (by decide)).trans ((hFvy1759 34 (by decide) (by decide) (by decide) (by decide) (by decide) (by decide) (by decide)).trans ((hFvy1749 34 (by decide) (by decide) (by decide) (by decide) (by decide)).trans ((hFvy47 34 (by decide) (by decide) (by decide) (by decide) (by decide)).trans (hFvy37 34 (by decide) (by decide)))))))
              obtain ⟨d32vy1928, d33vy1928, d35vy1928, d36vy1928, d2vy1928, d37vy1928, d38vy1928⟩ := id hdvy1928
              have hgy1931 := up_n egy1810 hgy1791 (ne_o (i := i) (c := 21) (d := 20) rfl)
              have hgy1932 := (hfvy1828 (i + 21) (ne_o (i := i) (c := 21) (d := 0) rfl)).trans hgy1931
              have hgy1933 := (hfvy1928 (i + 21) (ne_o (i := i) (c := 21) (d := 0) rfl)).trans hgy1932
              refine z_iast C (by omega) hay8 hgy1933 ((F 48).toNat) (by omega) (by omega) (by decide) dX10_hour1_196 (fun gy1934 egy1935 => ?_)
              have hgy1936 := up_s egy1935
              obtain ⟨ry1937, hvy1938⟩ : ∃ rZ9 : Nat → Int, rZ9 = uZ ry1792 ((F 48).toNat) (vy1928) := ⟨_, rfl⟩
              rw [← hvy1938] at hgy1936
              refine z_aload_n C 2 dX10_hour1_197 rfl ?_
              refine z_dup C dX10_hour1_198 rfl ?_
              have hgy1939 := up_n egy1935 hcvy1928 (ne_o (i := i) (c := 0) (d := 21) rfl)
              refine z_get (v := .int (zI (F 48))) C (by omega) hay1 hgy1939 rfl inA_X10 48 (by decide) q_1507 rfl (fv (F := Fvy1928) (f := 48) ((hFvy1928 48 (by decide) (by decide) (by decide) (by decide) (by decide) (by decide) (by decide)).trans ((hFvy1828 48 (by decide) (by decide) (by decide) (by decide) (by decide)).trans ((hFvy1759 48 (by decide) (by decide) (by decide) (by decide) (by decide) (by decide) (by decide)).trans ((hFvy1749 48 (by decide) (by decide) (by decide) (by decide) (by decide)).trans ((hFvy47 48 (by decide) (by decide) (by decide) (by decide) (by decide)).trans (hFvy37 48 (by decide) (by decide)))))))) dX10_hour1_199 ?_
              refine z_iconst (z := 1) C dX10_hour1_202 rfl ?_
              refine z_iadd C dX10_hour1_203 ?_
              refine z_put (fs' := mF ad (i) (uZ Fvy1928 48 ((F 48) + 1))) C (by omega) hay1 hgy1939 tyX10 tyX10_ok nmX10 rfl inA_X10 48 (by decide) q_1507 rfl rfl rfl rfl (Nat.le_of_ble_eq_true rfl) rfl dX10_hour1_204 (fun gy1940 egy1941 => ?_)
              have hgy1942 := up_s egy1941
              have hFy1943 : ∀ f, f ≠ 24 → f ≠ 32 → f ≠ 33 → f ≠ 35 → f ≠ 36 → f ≠ 37 → f ≠ 38 → f ≠ 47 → f ≠ 48 → f ≠ 49 → (uZ Fvy1928 48 ((F 48) + 1)) f = F f := fun f n24 n32 n33 n35 n36 n37 n38 n47 n48 n49 => ((uZ_n _ _ n48).trans ((hFvy1928 f n24 n32 n33 n35 n36 n37 n38).trans ((hFvy1828 f n32 n33 n35 n36 n37).trans ((hFvy1759 f n24 n32 n33 n35 n36 n37 n38).trans ((hFvy1749 f n32 n33 n35 n36 n37).trans ((hFvy47 f n32 n33 n35 n36 n37).trans (hFvy37 f n24 n38)))))))
              have hey1944 : (uZ Fvy1928 48 ((F 48) + 1)) 32 = Fvy1928 32 := (fn rfl (by decide))
              have hey1945 : (uZ Fvy1928 48 ((F 48) + 1)) 33 = Fvy1928 33 := (fn rfl (by decide))
              have hey1946 : (uZ Fvy1928 48 ((F 48) + 1)) 34 = F 34 := (fn ((hFvy1928 34 (by decide) (by decide) (by decide) (by decide) (by decide) (by decide) (by decide)).trans ((hFvy1828 34 (by decide) (by decide) (by decide) (by decide) (by decide)).trans ((hFvy1759 34 (by decide) (by decide) (by decide) (by decide) (by decide) (by decide) (by decide)).trans ((hFvy1749 34 (by decide) (by decide) (by decide) (by decide) (by decide)).trans ((hFvy47 34 (by decide) (by decide) (by decide) (by decide) (by decide)).trans (hFvy37 34 (by decide) (by decide))))))) (by decide))
              have hey1947 : (uZ Fvy1928 48 ((F 48) + 1)) 35 = Fvy1928 35 := (fn rfl (by decide))
              have hey1948 : (uZ Fvy1928 48 ((F 48) + 1)) 36 = Fvy1928 36 := (fn rfl (by decide))
              have hey1949 : (uZ Fvy1928 48 ((F 48) + 1)) 37 = Fvy1928 37 := (fn rfl (by decide))
              have hey1950 : (uZ Fvy1928 48 ((F 48) + 1)) 38 = Fvy1928 38 := (fn rfl (by decide))
              have hrdy1951 : RD (uZ Fvy1928 48 ((F 48) + 1)) := by unfold RD; omega
              have hey1952 : (uZ Fvy1928 48 ((F 48) + 1)) 32 = Fvy1928 32 := (fn rfl (by decide))
              have hey1953 : (uZ Fvy1928 48 ((F 48) + 1)) 47 = F 47 := (fn ((hFvy1928 47 (by decide) (by decide) (by decide) (by decide) (by decide) (by decide) (by decide)).trans ((hFvy1828 47 (by decide) (by decide) (by decide) (by decide) (by decide)).trans ((hFvy1759 47 (by decide) (by decide) (by decide) (by decide) (by decide) (by decide) (by decide)).trans ((hFvy1749 47 (by decide) (by decide) (by decide) (by decide) (by decide)).trans ((hFvy47 47 (by decide) (by decide) (by decide) (by decide) (by decide)).trans (hFvy37 47 (by decide) (by decide))))))) (by decide))
              have hey1954 : (uZ Fvy1928 48 ((F 48) + 1)) 48 = (F 48) + 1 := (uZ_s _ _ _)
              have hey1955 : (uZ Fvy1928 48 ((F 48) + 1)) 49 = F 49 := (fn ((hFvy1928 49 (by decide) (by decide) (by decide) (by decide) (by decide) (by decide) (by decide)).trans ((hFvy1828 49 (by decide) (by decide) (by decide) (by decide) (by decide)).trans ((hFvy1759 49 (by decide) (by decide) (by decide) (by decide) (by decide) (by decide) (by decide)).trans ((hFvy1749 49 (by decide) (by decide) (by decide) (by decide) (by decide)).trans ((hFvy47 49 (by decide) (by decide) (by decide) (by decide) (by decide)).trans (hFvy37 49 (by decide) (by decide))))))) (by decide))
              have hfry1957 : ∀ j, j ≠ (F 48).toNat → ry1769 j = ai1 j := fun j n0 => (congrFun hvy1770 _).trans ((uZ_n _ _ n0).trans (rfl))
              have hwy1958 : ry1769 ((F 48).toNat) = -(vy1759) := (congrFun hvy1770 _).trans (uZ_s _ _ _)
              have haky1956 : ∀ k, k < 24 → -300 ≤ ry1769 k ∧ ry1769 k ≤ 100 := by
                intro k hk
                by_cases e : k = (F 48).toNat
                · subst e; have hk0 := hai1 ((F 48).toNat) (by omega); omega
                · have hk0 := hai1 k hk; rw [hfry1957 k e]; exact hk0
              have hfry1960 : ∀ j, j ≠ (F 48).toNat → ry1812 j = fa1 j := fun j n0 => (congrFun hvy1813 _).trans ((uZ_n _ _ n0).trans ((congrFun hvy1781 _).trans ((uZ_n _ _ n0).trans (rfl))))
              have hfry1961 : ∀ j, j ≠ (F 48).toNat → ry1937 j = mu1 j := fun j n0 => (congrFun hvy1938 _).trans ((uZ_n _ _ n0).trans ((congrFun hvy1793 _).trans ((uZ_n _ _ n0).trans (rfl))))
              have hwy1962 : ry1812 ((F 48).toNat) = ((Fvy1759 37) - 3) + 1 := (congrFun hvy1813 _).trans (uZ_s _ _ _)
              have hwy1963 : ry1937 ((F 48).toNat) = vy1928 := (congrFun hvy1938 _).trans (uZ_s _ _ _)
              have haky1959 : ∀ k, k < 24 → (0 ≤ ry1812 k ∧ ry1812 k ≤ 3) ∧ (0 ≤ ry1937 k ∧ ry1937 k ≤ 50) ∧ (ry1812 k = 1 ∨ ry1812 k = 2 → 1 ≤ ry1937 k) := by
                intro k hk
                by_cases e : k = (F 48).toNat
                · subst e; have hk0 := hfa1 ((F 48).toNat) (by omega); omega
                · have hk0 := hfa1 k hk; rw [hfry1960 k e]; rw [hfry1961 k e]; exact hk0
              have hlay1964 : ∀ s l : Nat, (s : Int) < (uZ Fvy1928 48 ((F 48) + 1)) 47 → (l : Int) < mn1 s → lyT ly1 (84 * s + 7 * l) := fun s l a1 a2 => hly1 s l (by omega) a2
              have hgy1965 := (hfvy37 (i + 16) (ne_o (i := i) (c := 16) (d := 0) rfl)).trans ha16
              have hgy1966 := (hfvy47 (i + 16) (ne_o (i := i) (c := 16) (d := 0) rfl)).trans hgy1965
              have hgy1967 := (hfvy1749 (i + 16) (ne_o (i := i) (c := 16) (d := 0) rfl)).trans hgy1966
              have hgy1968 := (hfvy1759 (i + 16) (ne_o (i := i) (c := 16) (d := 0) rfl)).trans hgy1967
              have hgy1969 := up_n egy1767 hgy1968 (ne_o (i := i) (c := 16) (d := 19) rfl)
              have hgy1970 := up_n egy1778 hgy1969 (ne_o (i := i) (c := 16) (d := 20) rfl)
              have hgy1971 := up_n egy1790 hgy1970 (ne_o (i := i) (c := 16) (d := 21) rfl)
              have hgy1972 := up_n egy1810 hgy1971 (ne_o (i := i) (c := 16) (d := 20) rfl)
              have hgy1973 := (hfvy1828 (i + 16) (ne_o (i := i) (c := 16) (d := 0) rfl)).trans hgy1972
              have hgy1974 := (hfvy1928 (i + 16) (ne_o (i := i) (c := 16) (d := 0) rfl)).trans hgy1973
              have hgy1975 := up_n egy1935 hgy1974 (ne_o (i := i) (c := 16) (d := 21) rfl)
              have hgy1976 := up_n egy1941 hgy1975 (ne_o (i := i) (c := 16) (d := 0) rfl)
              have hgy1977 := (hfvy37 (i + 17) (ne_o (i := i) (c := 17) (d := 0) rfl)).trans ha17
              have hgy1978 := (hfvy47 (i + 17) (ne_o (i := i) (c := 17) (d := 0) rfl)).trans hgy1977
              have hgy1979 := (hfvy1749 (i + 17) (ne_o (i := i) (c := 17) (d := 0) rfl)).trans hgy1978
              have hgy1980 := (hfvy1759 (i + 17) (ne_o (i := i) (c := 17) (d := 0) rfl)).trans hgy1979
              have hgy1981 := up_n egy1767 hgy1980 (ne_o (i := i) (c := 17) (d := 19) rfl)
              have hgy1982 := up_n egy1778 hgy1981 (ne_o (i := i) (c := 17) (d := 20) rfl)
              have hgy1983 := up_n egy1790 hgy1982 (ne_o (i := i) (c := 17) (d := 21) rfl)
              have hgy1984 := up_n egy1810 hgy1983 (ne_o (i := i) (c := 17) (d := 20) rfl)
              have hgy1985 := (hfvy1828 (i + 17) (ne_o (i := i) (c := 17) (d := 0) rfl)).trans hgy1984
              have hgy1986 := (hfvy1928 (i + 17) (ne_o (i := i) (c := 17) (d := 0) rfl)).trans hgy1985
              have hgy1987 := up_n egy1935 hgy1986 (ne_o (i := i) (c := 17) (d := 21) rfl)
              have hgy1988 := up_n egy1941 hgy1987 (ne_o (i := i) (c := 17) (d := 0) rfl)
              have hgy1989 := (hfvy37 (i + 18) (ne_o (i := i) (c := 18) (d := 0) rfl)).trans ha18
              have hgy1990 := (hfvy47 (i + 18) (ne_o (i := i) (c := 18) (d := 0) rfl)).trans hgy1989
              have hgy1991 := (hfvy1749 (i + 18) (ne_o (i := i) (c := 18) (d := 0) rfl)).trans hgy1990
              have hgy1992 := (hfvy1759 (i + 18) (ne_o (i := i) (c := 18) (d := 0) rfl)).trans hgy1991
              have hgy1993 := up_n egy1767 hgy1992 (ne_o (i := i) (c := 18) (d := 19) rfl)
              have hgy1994 := up_n egy1778 hgy1993 (ne_o (i := i) (c := 18) (d := 20) rfl)
              have hgy1995 := up_n egy1790 hgy1994 (ne_o (i := i) (c := 18) (d := 21) rfl)
              have hgy1996 := up_n egy1810 hgy1995 (ne_o (i := i) (c := 18) (d := 20) rfl)
              have hgy1997 := (hfvy1828 (i + 18) (ne_o (i := i) (c := 18) (d := 0) rfl)).trans hgy1996
              have hgy1998 := (hfvy1928 (i + 18) (ne_o (i := i) (c := 18) (d := 0) rfl)).trans hgy1997
              have hgy1999 := up_n egy1935 hgy1998 (ne_o (i := i) (c := 18) (d := 21) rfl)
              have hgy2000 := up_n egy1941 hgy1999 (ne_o (i := i) (c := 18) (d := 0) rfl)
              have hgy2001 := up_n egy1778 hgy1768 (ne_o (i := i) (c := 19) (d := 20) rfl)
              have hgy2002 := up_n egy1790 hgy2001 (ne_o (i := i) (c := 19) (d := 21) rfl)
              have hgy2003 := up_n egy1810 hgy2002 (ne_o (i := i) (c := 19) (d := 20) rfl)
              have hgy2004 := (hfvy1828 (i + 19) (ne_o (i := i) (c := 19) (d := 0) rfl)).trans hgy2003
              have hgy2005 := (hfvy1928 (i + 19) (ne_o (i := i) (c := 19) (d := 0) rfl)).trans hgy2004
              have hgy2006 := up_n egy1935 hgy2005 (ne_o (i := i) (c := 19) (d := 21) rfl)
              have hgy2007 := up_n egy1941 hgy2006 (ne_o (i := i) (c := 19) (d := 0) rfl)
              have hgy2008 := (hfvy1928 (i + 20) (ne_o (i := i) (c := 20) (d := 0) rfl)).trans hgy1829
              have hgy2009 := up_n egy1935 hgy2008 (ne_o (i := i) (c := 20) (d := 21) rfl)
              have hgy2010 := up_n egy1941 hgy2009 (ne_o (i := i) (c := 20) (d := 0) rfl)
              have hgy2011 := up_n egy1941 hgy1936 (ne_o (i := i) (c := 21) (d := 0) rfl)
              have hgy2012 := (hfvy37 (i + 22) (ne_o (i := i) (c := 22) (d := 0) rfl)).trans ha22
              have hgy2013 := (hfvy47 (i + 22) (ne_o (i := i) (c := 22) (d := 0) rfl)).trans hgy2012
              have hgy2014 := (hfvy1749 (i + 22) (ne_o (i := i) (c := 22) (d := 0) rfl)).trans hgy2013
              have hgy2015 := (hfvy1759 (i + 22) (ne_o (i := i) (c := 22) (d := 0) rfl)).trans hgy2014
              have hgy2016 := up_n egy1767 hgy2015 (ne_o (i := i) (c := 22) (d := 19) rfl)
              have hgy2017 := up_n egy1778 hgy2016 (ne_o (i := i) (c := 22) (d := 20) rfl)
              have hgy2018 := up_n egy1790 hgy2017 (ne_o (i := i) (c := 22) (d := 21) rfl)
              have hgy2019 := up_n egy1810 hgy2018 (ne_o (i := i) (c := 22) (d := 20) rfl)
              have hgy2020 := (hfvy1828 (i + 22) (ne_o (i := i) (c := 22) (d := 0) rfl)).trans hgy2019
              have hgy2021 := (hfvy1928 (i + 22) (ne_o (i := i) (c := 22) (d := 0) rfl)).trans hgy2020
              have hgy2022 := up_n egy1935 hgy2021 (ne_o (i := i) (c := 22) (d := 21) rfl)
              have hgy2023 := up_n egy1941 hgy2022 (ne_o (i := i) (c := 22) (d := 0) rfl)
              have hgy2024 := (hfvy37 (i + 23) (ne_o (i := i) (c := 23) (d := 0) rfl)).trans ha23
              have hgy2025 := (hfvy47 (i + 23) (ne_o (i := i) (c := 23) (d := 0) rfl)).trans hgy2024
              have hgy2026 := (hfvy1749 (i + 23) (ne_o (i := i) (c := 23) (d := 0) rfl)).trans hgy2025
              have hgy2027 := (hfvy1759 (i + 23) (ne_o (i := i) (c := 23) (d := 0) rfl)).trans hgy2026
              have hgy2028 := up_n egy1767 hgy2027 (ne_o (i := i) (c := 23) (d := 19) rfl)
              have hgy2029 := up_n egy1778 hgy2028 (ne_o (i := i) (c := 23) (d := 20) rfl)
              have hgy2030 := up_n egy1790 hgy2029 (ne_o (i := i) (c := 23) (d := 21) rfl)
              have hgy2031 := up_n egy1810 hgy2030 (ne_o (i := i) (c := 23) (d := 20) rfl)
              have hgy2032 := (hfvy1828 (i + 23) (ne_o (i := i) (c := 23) (d := 0) rfl)).trans hgy2031
              have hgy2033 := (hfvy1928 (i + 23) (ne_o (i := i) (c := 23) (d := 0) rfl)).trans hgy2032
              have hgy2034 := up_n egy1935 hgy2033 (ne_o (i := i) (c := 23) (d := 21) rfl)
              have hgy2035 := up_n egy1941 hgy2034 (ne_o (i := i) (c := 23) (d := 0) rfl)
              have htxy2036 : okTx cs gy1940 i (uZ Fvy1928 48 ((F 48) + 1)) := ⟨_, _, _, _, _, _, _, _, ⟨hgy1976, hgy1988, hgy2000, hgy2007, hgy2010, hgy2011, hgy2023, hgy2035⟩, ⟨⟨by omega, by omega, by omega⟩, hop1, hmn1, haky1956, haky1959, htb1, hlay1964⟩⟩
              exact z_vret C hr hlk dX10_hour1_207 (by decide) (by decide) ⟨rfl, rfl, rfl, ⟨_, hgy1942, hrdy1951, by omega, by omega, hFy1943, htxy2036⟩, fun j j1 j2 => by rw [egy1941, va_up_ne _ _ (by omega)]; rw [egy1935, va_up_ne _ _ (by omega)]; rw [hfvy1928 _ (by omega)]; rw [hfvy1828 _ (by omega)]; rw [egy1810, va_up_ne _ _ (by omega)]; rw [egy1790, va_up_ne _ _ (by omega)]; rw [egy1778, va_up_ne _ _ (by omega)]; rw [egy1767, va_up_ne _ _ (by omega)]; rw [hfvy1759 _ (by omega)]; rw [hfvy1749 _ (by omega)]; rw [hfvy47 _ (by omega)]; rw [hfvy37 _ (by omega)]⟩
          · refine z_aload_n C 2 dX10_hour1_131 rfl ?_
            refine z_iconst (z := 4) C dX10_hour1_132 rfl ?_
            have hey2037 : Fvy1759 32 = Fvy1759 32 := rfl
            have hey2038 : Fvy1759 33 = Fvy1759 33 := rfl
            have hey2039 : Fvy1759 34 = F 34 := ((hFvy1759 34 (by decide) (by decide) (by decide) (by decide) (by decide) (by decide) (by decide)).trans ((hFvy1749 34 (by decide) (by decide) (by decide) (by decide) (by decide)).trans ((hFvy47 34 (by decide) (by decide) (by decide) (by decide) (by decide)).trans (hFvy37 34 (by decide) (by decide)))))
            have hey2040 : Fvy1759 35 = Fvy1759 35 := rfl
            have hey2041 : Fvy1759 36 = Fvy1759 36 := rfl
            have hey2042 : Fvy1759 37 = Fvy1759 37 := rfl
            have hey2043 : Fvy1759 38 = 0 := hxvy1759
            have hrdy2044 : RD Fvy1759 := by unfold RD; omega
            have hey2046 : Fvy1759 38 = 0 := hxvy1759
            have hey2047 : Fvy1759 35 = Fvy1759 35 := rfl
            have hey2048 : Fvy1759 37 = Fvy1759 37 := rfl
            refine z_cV (As := [.int (zI (4))]) (rest := []) (ci := 12) C (c_X10_is l D A cs tt N ad _ i hN _ hgy1794 hrdy2044 (4) (by omega)) (by omega) hay1 hgy1794 rfl rfl mv_yX10_is q_1705 hd_yX10_is (by decide) (Nat.le_of_ble_eq_true rfl) (by decide) dX10_hour1_133 rfl (kI0 fun vy2045 gvy2045 hvy2045 => ?_)
            rw [hey2046, hey2047, hey2048] at hvy2045
            obtain ⟨hrvy2045, hqvy2045, rfl⟩ := hvy2045
            refine z_if_ne (tgt := 147) C dX10_hour1_136 (by decide) (by omega) (fun hby2049 => ?_) (fun hby2049 => ?_)
            · refine z_aload_n C 2 dX10_hour1_147 rfl ?_
              refine z_get (v := .ref (ad (i + 20))) C (by omega) hay1 hgy1794 rfl inA_X10 43 (by decide) q_1502 rfl rfl dX10_hour1_148 ?_
              refine z_aload_n C 2 dX10_hour1_151 rfl ?_
              refine z_get (v := .int (zI (F 48))) C (by omega) hay1 hgy1794 rfl inA_X10 48 (by decide) q_1507 rfl (fv (F := Fvy1759) (f := 48) ((hFvy1759 48 (by decide) (by decide) (by decide) (by decide) (by decide) (by decide) (by decide)).trans ((hFvy1749 48 (by decide) (by decide) (by decide) (by decide) (by decide)).trans ((hFvy47 48 (by decide) (by decide) (by decide) (by decide) (by decide)).trans (hFvy37 48 (by decide) (by decide)))))) dX10_hour1_152 ?_
              refine z_aload_n C 2 dX10_hour1_155 rfl ?_
              refine z_get (v := .int (zI (Fvy1759 37))) C (by omega) hay1 hgy1794 rfl inA_X10 37 (by decide) q_1496 rfl (fv (F := Fvy1759) (f := 37) rfl) dX10_hour1_156 ?_
              refine z_iconst (z := 3) C dX10_hour1_159 rfl ?_
              refine z_isub C dX10_hour1_160 ?_
              refine z_iconst (z := 1) C dX10_hour1_161 rfl ?_
              refine z_iadd C dX10_hour1_162 ?_
              have hgy2050 := up_n egy1790 hgy1779 (ne_o (i := i) (c := 20) (d := 21) rfl)
              refine z_iast C (by omega) hay7 hgy2050 ((F 48).toNat) (by omega) (by omega) (by decide) dX10_hour1_163 (fun gy2051 egy2052 => ?_)
              have hgy2053 := up_s egy2052
              obtain ⟨ry2054, hvy2055⟩ : ∃ rZ9 : Nat → Int, rZ9 = uZ ry1780 ((F 48).toNat) (((Fvy1759 37) - 3) + 1) := ⟨_, rfl⟩
              rw [← hvy2055] at hgy2053
              refine z_aload_n C 2 dX10_hour1_164 rfl ?_
              have hgy2056 := up_n egy2052 hgy1794 (ne_o (i := i) (c := 0) (d := 20) rfl)
              have hey2057 : Fvy1759 32 = Fvy1759 32 := rfl
              have hey2058 : Fvy1759 33 = Fvy1759 33 := rfl
              have hey2059 : Fvy1759 34 = F 34 := ((hFvy1759 34 (by decide) (by decide) (by decide) (by decide) (by decide) (by decide) (by decide)).trans ((hFvy1749 34 (by decide) (by decide) (by decide) (by decide) (by decide)).trans ((hFvy47 34 (by decide) (by decide) (by decide) (by decide) (by decide)).trans (hFvy37 34 (by decide) (by decide)))))
              have hey2060 : Fvy1759 35 = Fvy1759 35 := rfl
              have hey2061 : Fvy1759 36 = Fvy1759 36 := rfl
              have hey2062 : Fvy1759 37 = Fvy1759 37 := rfl
              have hey2063 : Fvy1759 38 = 0 := hxvy1759
              have hrdy2064 : RD Fvy1759 := by unfold RD; omega
              have hgy2065 := (hfvy1759 (i + 13) (ne_o (i := i) (c := 13) (d := 0) rfl)).trans hgy1758
              have hgy2066 := up_n egy1767 hgy2065 (ne_o (i := i) (c := 13) (d := 19) rfl)
              have hgy2067 := up_n egy1778 hgy2066 (ne_o (i := i) (c := 13) (d := 20) rfl)
              have hgy2068 := up_n egy1790 hgy2067 (ne_o (i := i) (c := 13) (d := 21) rfl)
              have hgy2069 := up_n egy2052 hgy2068 (ne_o (i := i) (c := 13) (d := 20) rfl)
              refine z_cV (As := []) (rest := []) (ci := 12) C (c_X10_go l D A cs tt N ad _ i hN _ hgy2056 _ hgy2069 htp hrdy2064) (by omega) hay1 hgy2056 rfl rfl mv_yX10_go q_1652 hd_yX10_go (by decide) (Nat.le_of_ble_eq_true rfl) (by decide) dX10_hour1_165 rfl (kV0 fun gvy2070 hvy2070 => ?_)
              obtain ⟨⟨Fvy2070, hcvy2070, hdvy2070, hlvy2070, hsvy2070, hFvy2070⟩, hfvy2070⟩ := hvy2070
              have h32vy2070 : Fvy1759 32 = Fvy1759 32 := rfl
              have h34vy2070 : Fvy2070 34 = F 34 := (hFvy2070 34 (by decide) (by decide) (by decide) (by decide) (by decide)).trans (((hFvy1759 34 (by decide) (by decide) (by decide) (by decide) (by decide) (by decide) (by decide)).trans ((hFvy1749 34 (by decide) (by decide) (by decide) (by decide) (by decide)).trans ((hFvy47 34 (by decide) (by decide) (by decide) (by decide) (by decide)).trans (hFvy37 34 (by decide) (by decide))))))
              obtain ⟨d32vy2070, d33vy2070, d35vy2070, d36vy2070, d2vy2070, d37vy2070, d38vy2070⟩ := id hdvy2070
              have h38vy2070 : Fvy2070 38 = 0 := ((hFvy2070 38 (by decide) (by decide) (by decide) (by decide) (by decide)).trans hxvy1759)
              refine z_aload_n C 2 dX10_hour1_168 rfl ?_
              refine z_get (v := .ref (ad (i + 20))) C (by omega) hay1 hcvy2070 rfl inA_X10 43 (by decide) q_1502 rfl rfl dX10_hour1_169 ?_
              refine z_aload_n C 2 dX10_hour1_172 rfl ?_
              refine z_get (v := .int (zI (F 48))) C (by omega) hay1 hcvy2070 rfl inA_X10 48 (by decide) q_1507 rfl (fv (F := Fvy2070) (f := 48) ((hFvy2070 48 (by decide) (by decide) (by decide) (by decide) (by decide)).trans ((hFvy1759 48 (by decide) (by decide) (by decide) (by decide) (by decide) (by decide) (by decide)).trans ((hFvy1749 48 (by decide) (by decide) (by decide) (by decide) (by decide)).trans ((hFvy47 48 (by decide) (by decide) (by decide) (by decide) (by decide)).trans (hFvy37 48 (by decide) (by decide))))))) dX10_hour1_173 ?_
              have hgy2071 := (hfvy2070 (i + 20) (ne_o (i := i) (c := 20) (d := 0) rfl)).trans hgy2053
              refine z_iald C (by omega) hay7 hgy2071 ((F 48).toNat) (by omega) (by omega) (by decide) dX10_hour1_176 ?_
              rw [show ry2054 ((F 48).toNat) = ((Fvy1759 37) - 3) + 1 from (congrFun hvy2055 _).trans (uZ_s _ _ _)]
              refine z_iconst (z := 3) C dX10_hour1_177 rfl ?_
              obtain ⟨xy2072, exy2073, hxy2074⟩ := zI_of (zI (((Fvy1759 37) - 3) + 1))
              rw [exy2073]
              refine z_icmp_ge (tgt := 197) C dX10_hour1_178 (by decide) (by omega) (by omega) (fun hby2075 => ?_) (fun hby2075 => ?_)
              · refine z_aload_n C 2 dX10_hour1_197 rfl ?_
                refine z_dup C dX10_hour1_198 rfl ?_
                refine z_get (v := .int (zI (F 48))) C (by omega) hay1 hcvy2070 rfl inA_X10 48 (by decide) q_1507 rfl (fv (F := Fvy2070) (f := 48) ((hFvy2070 48 (by decide) (by decide) (by decide) (by decide) (by decide)).trans ((hFvy1759 48 (by decide) (by decide) (by decide) (by decide) (by decide) (by decide) (by decide)).trans ((hFvy1749 48 (by decide) (by decide) (by decide) (by decide) (by decide)).trans ((hFvy47 48 (by decide) (by decide) (by decide) (by decide) (by decide)).trans (hFvy37 48 (by decide) (by decide))))))) dX10_hour1_199 ?_
                refine z_iconst (z := 1) C dX10_hour1_202 rfl ?_
                refine z_iadd C dX10_hour1_203 ?_
                refine z_put (fs' := mF ad (i) (uZ Fvy2070 48 ((F 48) + 1))) C (by omega) hay1 hcvy2070 tyX10 tyX10_ok nmX10 rfl inA_X10 48 (by decide) q_1507 rfl rfl rfl rfl (Nat.le_of_ble_eq_true rfl) rfl dX10_hour1_204 (fun gy2076 egy2077 => ?_)
                have hgy2078 := up_s egy2077
                have hFy2079 : ∀ f, f ≠ 24 → f ≠ 32 → f ≠ 33 → f ≠ 35 → f ≠ 36 → f ≠ 37 → f ≠ 38 → f ≠ 47 → f ≠ 48 → f ≠ 49 → (uZ Fvy2070 48 ((F 48) + 1)) f = F f := fun f n24 n32 n33 n35 n36 n37 n38 n47 n48 n49 => ((uZ_n _ _ n48).trans ((hFvy2070 f n32 n33 n35 n36 n37).trans ((hFvy1759 f n24 n32 n33 n35 n36 n37 n38).trans ((hFvy1749 f n32 n33 n35 n36 n37).trans ((hFvy47 f n32 n33 n35 n36 n37).trans (hFvy37 f n24 n38))))))
                have hey2080 : (uZ Fvy2070 48 ((F 48) + 1)) 32 = Fvy2070 32 := (fn rfl (by decide))
                have hey2081 : (uZ Fvy2070 48 ((F 48) + 1)) 33 = Fvy2070 33 := (fn rfl (by decide))
                have hey2082 : (uZ Fvy2070 48 ((F 48) + 1)) 34 = F 34 := (fn ((hFvy2070 34 (by decide) (by decide) (by decide) (by decide) (by decide)).trans ((hFvy1759 34 (by decide) (by decide) (by decide) (by decide) (by decide) (by decide) (by decide)).trans ((hFvy1749 34 (by decide) (by decide) (by decide) (by decide) (by decide)).trans ((hFvy47 34 (by decide) (by decide) (by decide) (by decide) (by decide)).trans (hFvy37 34 (by decide) (by decide)))))) (by decide))
                have hey2083 : (uZ Fvy2070 48 ((F 48) + 1)) 35 = Fvy2070 35 := (fn rfl (by decide))
                have hey2084 : (uZ Fvy2070 48 ((F 48) + 1)) 36 = Fvy2070 36 := (fn rfl (by decide))
                have hey2085 : (uZ Fvy2070 48 ((F 48) + 1)) 37 = Fvy2070 37 := (fn rfl (by decide))
                have hey2086 : (uZ Fvy2070 48 ((F 48) + 1)) 38 = 0 := (fn ((hFvy2070 38 (by decide) (by decide) (by decide) (by decide) (by decide)).trans hxvy1759) (by decide))
                have hrdy2087 : RD (uZ Fvy2070 48 ((F 48) + 1)) := by unfold RD; omega
                have hey2088 : (uZ Fvy2070 48 ((F 48) + 1)) 32 = Fvy2070 32 := (fn rfl (by decide))
                have hey2089 : (uZ Fvy2070 48 ((F 48) + 1)) 47 = F 47 := (fn ((hFvy2070 47 (by decide) (by decide) (by decide) (by decide) (by decide)).trans ((hFvy1759 47 (by decide) (by decide) (by decide) (by decide) (by decide) (by decide) (by decide)).trans ((hFvy1749 47 (by decide) (by decide) (by decide) (by decide) (by decide)).trans ((hFvy47 47 (by decide) (by decide) (by decide) (by decide) (by decide)).trans (hFvy37 47 (by decide) (by decide)))))) (by decide))
                have hey2090 : (uZ Fvy2070 48 ((F 48) + 1)) 48 = (F 48) + 1 := (uZ_s _ _ _)
                have hey2091 : (uZ Fvy2070 48 ((F 48) + 1)) 49 = F 49 := (fn ((hFvy2070 49 (by decide) (by decide) (by decide) (by decide) (by decide)).trans ((hFvy1759 49 (by decide) (by decide) (by decide) (by decide) (by decide) (by decide) (by decide)).trans ((hFvy1749 49 (by decide) (by decide) (by decide) (by decide) (by decide)).trans ((hFvy47 49 (by decide) (by decide) (by decide) (by decide) (by decide)).trans (hFvy37 49 (by decide) (by decide)))))) (by decide))
                have hfry2093 : ∀ j, j ≠ (F 48).toNat → ry1769 j = ai1 j := fun j n0 => (congrFun hvy1770 _).trans ((uZ_n _ _ n0).trans (rfl))
                have hwy2094 : ry1769 ((F 48).toNat) = -(vy1759) := (congrFun hvy1770 _).trans (uZ_s _ _ _)
                have haky2092 : ∀ k, k < 24 → -300 ≤ ry1769 k ∧ ry1769 k ≤ 100 := by
                  intro k hk
                  by_cases e : k = (F 48).toNat
                  · subst e; have hk0 := hai1 ((F 48).toNat) (by omega); omega
                  · have hk0 := hai1 k hk; rw [hfry2093 k e]; exact hk0
                have hfry2096 : ∀ j, j ≠ (F 48).toNat → ry2054 j = fa1 j := fun j n0 => (congrFun hvy2055 _).trans ((uZ_n _ _ n0).trans ((congrFun hvy1781 _).trans ((uZ_n _ _ n0).trans (rfl))))
                have hfry2097 : ∀ j, j ≠ (F 48).toNat → ry1792 j = mu1 j := fun j n0 => (congrFun hvy1793 _).trans ((uZ_n _ _ n0).trans (rfl))
                have hwy2098 : ry2054 ((F 48).toNat) = ((Fvy1759 37) - 3) + 1 := (congrFun hvy2055 _).trans (uZ_s _ _ _)
                have hwy2099 : ry1792 ((F 48).toNat) = 0 := (congrFun hvy1793 _).trans (uZ_s _ _ _)
                have haky2095 : ∀ k, k < 24 → (0 ≤ ry2054 k ∧ ry2054 k ≤ 3) ∧ (0 ≤ ry1792 k ∧ ry1792 k ≤ 50) ∧ (ry2054 k = 1 ∨ ry2054 k = 2 → 1 ≤ ry1792 k) := by
                  intro k hk
                  by_cases e : k = (F 48).toNat
                  · subst e; have hk0 := hfa1 ((F 48).toNat) (by omega); omega
                  · have hk0 := hfa1 k hk; rw [hfry2096 k e]; rw [hfry2097 k e]; exact hk0
                have hlay2100 : ∀ s l : Nat, (s : Int) < (uZ Fvy2070 48 ((F 48) + 1)) 47 → (l : Int) < mn1 s → lyT ly1 (84 * s + 7 * l) := fun s l a1 a2 => hly1 s l (by omega) a2
                have hgy2101 := (hfvy37 (i + 16) (ne_o (i := i) (c := 16) (d := 0) rfl)).trans ha16
                have hgy2102 := (hfvy47 (i + 16) (ne_o (i := i) (c := 16) (d := 0) rfl)).trans hgy2101
                have hgy2103 := (hfvy1749 (i + 16) (ne_o (i := i) (c := 16) (d := 0) rfl)).trans hgy2102
                have hgy2104 := (hfvy1759 (i + 16) (ne_o (i := i) (c := 16) (d := 0) rfl)).trans hgy2103
                have hgy2105 := up_n egy1767 hgy2104 (ne_o (i := i) (c := 16) (d := 19) rfl)
                have hgy2106 := up_n egy1778 hgy2105 (ne_o (i := i) (c := 16) (d := 20) rfl)
                have hgy2107 := up_n egy1790 hgy2106 (ne_o (i := i) (c := 16) (d := 21) rfl)
                have hgy2108 := up_n egy2052 hgy2107 (ne_o (i := i) (c := 16) (d := 20) rfl)
                have hgy2109 := (hfvy2070 (i + 16) (ne_o (i := i) (c := 16) (d := 0) rfl)).trans hgy2108
                have hgy2110 := up_n egy2077 hgy2109 (ne_o (i := i) (c := 16) (d := 0) rfl)
                have hgy2111 := (hfvy37 (i + 17) (ne_o (i := i) (c := 17) (d := 0) rfl)).trans ha17
                have hgy2112 := (hfvy47 (i + 17) (ne_o (i := i) (c := 17) (d := 0) rfl)).trans hgy2111
                have hgy2113 := (hfvy1749 (i + 17) (ne_o (i := i) (c := 17) (d := 0) rfl)).trans hgy2112
                have hgy2114 := (hfvy1759 (i + 17) (ne_o (i := i) (c := 17) (d := 0) rfl)).trans hgy2113
                have hgy2115 := up_n egy1767 hgy2114 (ne_o (i := i) (c := 17) (d := 19) rfl)
                have hgy2116 := up_n egy1778 hgy2115 (ne_o (i := i) (c := 17) (d := 20) rfl)
                have hgy2117 := up_n egy1790 hgy2116 (ne_o (i := i) (c := 17) (d := 21) rfl)
                have hgy2118 := up_n egy2052 hgy2117 (ne_o (i := i) (c := 17) (d := 20) rfl)
                have hgy2119 := (hfvy2070 (i + 17) (ne_o (i := i) (c := 17) (d := 0) rfl)).trans hgy2118
                have hgy2120 := up_n egy2077 hgy2119 (ne_o (i := i) (c := 17) (d := 0) rfl)
                have hgy2121 := (hfvy37 (i + 18) (ne_o (i := i) (c := 18) (d := 0) rfl)).trans ha18
                have hgy2122 := (hfvy47 (i + 18) (ne_o (i := i) (c := 18) (d := 0) rfl)).trans hgy2121
                have hgy2123 := (hfvy1749 (i + 18) (ne_o (i := i) (c := 18) (d := 0) rfl)).trans hgy2122
                have hgy2124 := (hfvy1759 (i + 18) (ne_o (i := i) (c := 18) (d := 0) rfl)).trans hgy2123
                have hgy2125 := up_n egy1767 hgy2124 (ne_o (i := i) (c := 18) (d := 19) rfl)
                have hgy2126 := up_n egy1778 hgy2125 (ne_o (i := i) (c := 18) (d := 20) rfl)
                have hgy2127 := up_n egy1790 hgy2126 (ne_o (i := i) (c := 18) (d := 21) rfl)
                have hgy2128 := up_n egy2052 hgy2127 (ne_o (i := i) (c := 18) (d := 20) rfl)
                have hgy2129 := (hfvy2070 (i + 18) (ne_o (i := i) (c := 18) (d := 0) rfl)).trans hgy2128
                have hgy2130 := up_n egy2077 hgy2129 (ne_o (i := i) (c := 18) (d := 0) rfl)
                have hgy2131 := up_n egy1778 hgy1768 (ne_o (i := i) (c := 19) (d := 20) rfl)
                have hgy2132 := up_n egy1790 hgy2131 (ne_o (i := i) (c := 19) (d := 21) rfl)
                have hgy2133 := up_n egy2052 hgy2132 (ne_o (i := i) (c := 19) (d := 20) rfl)
                have hgy2134 := (hfvy2070 (i + 19) (ne_o (i := i) (c := 19) (d := 0) rfl)).trans hgy2133
                have hgy2135 := up_n egy2077 hgy2134 (ne_o (i := i) (c := 19) (d := 0) rfl)
                have hgy2136 := up_n egy2077 hgy2071 (ne_o (i := i) (c := 20) (d := 0) rfl)
                have hgy2137 := up_n egy2052 hgy1791 (ne_o (i := i) (c := 21) (d := 20) rfl)
                have hgy2138 := (hfvy2070 (i + 21) (ne_o (i := i) (c := 21) (d := 0) rfl)).trans hgy2137
                have hgy2139 := up_n egy2077 hgy2138 (ne_o (i := i) (c := 21) (d := 0) rfl)
                have hgy2140 := (hfvy37 (i + 22) (ne_o (i := i) (c := 22) (d := 0) rfl)).trans ha22
                have hgy2141 := (hfvy47 (i + 22) (ne_o (i := i) (c := 22) (d := 0) rfl)).trans hgy2140
                have hgy2142 := (hfvy1749 (i + 22) (ne_o (i := i) (c := 22) (d := 0) rfl)).trans hgy2141
                have hgy2143 := (hfvy1759 (i + 22) (ne_o (i := i) (c := 22) (d := 0) rfl)).trans hgy2142
                have hgy2144 := up_n egy1767 hgy2143 (ne_o (i := i) (c := 22) (d := 19) rfl)
                have hgy2145 := up_n egy1778 hgy2144 (ne_o (i := i) (c := 22) (d := 20) rfl)
                have hgy2146 := up_n egy1790 hgy2145 (ne_o (i := i) (c := 22) (d := 21) rfl)
                have hgy2147 := up_n egy2052 hgy2146 (ne_o (i := i) (c := 22) (d := 20) rfl)
                have hgy2148 := (hfvy2070 (i + 22) (ne_o (i := i) (c := 22) (d := 0) rfl)).trans hgy2147
                have hgy2149 := up_n egy2077 hgy2148 (ne_o (i := i) (c := 22) (d := 0) rfl)
                have hgy2150 := (hfvy37 (i + 23) (ne_o (i := i) (c := 23) (d := 0) rfl)).trans ha23
                have hgy2151 := (hfvy47 (i + 23) (ne_o (i := i) (c := 23) (d := 0) rfl)).trans hgy2150
                have hgy2152 := (hfvy1749 (i + 23) (ne_o (i := i) (c := 23) (d := 0) rfl)).trans hgy2151
                have hgy2153 := (hfvy1759 (i + 23) (ne_o (i := i) (c := 23) (d := 0) rfl)).trans hgy2152
                have hgy2154 := up_n egy1767 hgy2153 (ne_o (i := i) (c := 23) (d := 19) rfl)
                have hgy2155 := up_n egy1778 hgy2154 (ne_o (i := i) (c := 23) (d := 20) rfl)
                have hgy2156 := up_n egy1790 hgy2155 (ne_o (i := i) (c := 23) (d := 21) rfl)
                have hgy2157 := up_n egy2052 hgy2156 (ne_o (i := i) (c := 23) (d := 20) rfl)
                have hgy2158 := (hfvy2070 (i + 23) (ne_o (i := i) (c := 23) (d := 0) rfl)).trans hgy2157
                have hgy2159 := up_n egy2077 hgy2158 (ne_o (i := i) (c := 23) (d := 0) rfl)
                have htxy2160 : okTx cs gy2076 i (uZ Fvy2070 48 ((F 48) + 1)) := ⟨_, _, _, _, _, _, _, _, ⟨hgy2110, hgy2120, hgy2130, hgy2135, hgy2136, hgy2139, hgy2149, hgy2159⟩, ⟨⟨by omega, by omega, by omega⟩, hop1, hmn1, haky2092, haky2095, htb1, hlay2100⟩⟩
                exact z_vret C hr hlk dX10_hour1_207 (by decide) (by decide) ⟨rfl, rfl, rfl, ⟨_, hgy2078, hrdy2087, by omega, by omega, hFy2079, htxy2160⟩, fun j j1 j2 => by rw [egy2077, va_up_ne _ _ (by omega)]; rw [hfvy2070 _ (by omega)]; rw [egy2052, va_up_ne _ _ (by omega)]; rw [egy1790, va_up_ne _ _ (by omega)]; rw [egy1778, va_up_ne _ _ (by omega)]; rw [egy1767, va_up_ne _ _ (by omega)]; rw [hfvy1759 _ (by omega)]; rw [hfvy1749 _ (by omega)]; rw [hfvy47 _ (by omega)]; rw [hfvy37 _ (by omega)]⟩
              · refine z_aload_n C 2 dX10_hour1_181 rfl ?_
                refine z_get (v := .ref (ad (i + 21))) C (by omega) hay1 hcvy2070 rfl inA_X10 44 (by decide) q_1503 rfl rfl dX10_hour1_182 ?_
                refine z_aload_n C 2 dX10_hour1_185 rfl ?_
                refine z_get (v := .int (zI (F 48))) C (by omega) hay1 hcvy2070 rfl inA_X10 48 (by decide) q_1507 rfl (fv (F := Fvy2070) (f := 48) ((hFvy2070 48 (by decide) (by decide) (by decide) (by decide) (by decide)).trans ((hFvy1759 48 (by decide) (by decide) (by decide) (by decide) (by decide) (by decide) (by decide)).trans ((hFvy1749 48 (by decide) (by decide) (by decide) (by decide) (by decide)).trans ((hFvy47 48 (by decide) (by decide) (by decide) (by decide) (by decide)).trans (hFvy37 48 (by decide) (by decide))))))) dX10_hour1_186 ?_
                refine z_aload_n C 2 dX10_hour1_189 rfl ?_
                refine z_iconst (z := 1) C dX10_hour1_190 rfl ?_
                refine z_bipush (z := 50) C dX10_hour1_191 (by decide) ?_
                have hey2161 : Fvy2070 32 = Fvy2070 32 := rfl
                have hey2162 : Fvy2070 33 = Fvy2070 33 := rfl
                have hey2163 : Fvy2070 34 = F 34 := ((hFvy2070 34 (by decide) (by decide) (by decide) (by decide) (by decide)).trans ((hFvy1759 34 (by decide) (by decide) (by decide) (by decide) (by decide) (by decide) (by decide)).trans ((hFvy1749 34 (by decide) (by decide) (by decide) (by decide) (by decide)).trans ((hFvy47 34 (by decide) (by decide) (by decide) (by decide) (by decide)).trans (hFvy37 34 (by decide) (by decide))))))
                have hey2164 : Fvy2070 35 = Fvy2070 35 := rfl
                have hey2165 : Fvy2070 36 = Fvy2070 36 := rfl
                have hey2166 : Fvy2070 37 = Fvy2070 37 := rfl
                have hey2167 : Fvy2070 38 = 0 := ((hFvy2070 38 (by decide) (by decide) (by decide) (by decide) (by decide)).trans hxvy1759)
                have hrdy2168 : RD Fvy2070 := by unfold RD; omega
                have hgy2169 := (hfvy2070 (i + 13) (ne_o (i := i) (c := 13) (d := 0) rfl)).trans hgy2069
                have hey2171 : Fvy2070 38 = 0 := ((hFvy2070 38 (by decide) (by decide) (by decide) (by decide) (by decide)).trans hxvy1759)
                have hey2172 : Fvy2070 35 = Fvy2070 35 := rfl
                refine z_cV (As := [.int (zI (1)), .int (zI (50))]) (rest := [.int (zI (F 48)), .ref (ad (i + 21))]) (ci := 12) C (c_X10_number l D A cs tt N ad _ i hN _ hcvy2070 _ hgy2169 htp hrdy2168 (1) (by omega) (50) (by omega)) (by omega) hay1 hcvy2070 rfl rfl mv_yX10_number q_1682 hd_yX10_number (by decide) (Nat.le_of_ble_eq_true rfl) (by decide) dX10_hour1_193 rfl (kI0 fun vy2170 gvy2170 hvy2170 => ?_)
                obtain ⟨hrvy2170, ⟨Fvy2170, hcvy2170, hdvy2170, hlvy2170, hsvy2170, hFvy2170⟩, hfvy2170⟩ := hvy2170
                have h32vy2170 : Fvy2070 32 = Fvy2070 32 := rfl
                have h34vy2170 : Fvy2170 34 = F 34 := (hFvy2170 34 (by decide) (by decide) (by decide) (by decide) (by decide) (by decide) (by decide)).trans (((hFvy2070 34 (by decide) (by decide) (by decide) (by decide) (by decide)).trans ((hFvy1759 34 (by decide) (by decide) (by decide) (by decide) (by decide) (by decide) (by decide)).trans ((hFvy1749 34 (by decide) (by decide) (by decide) (by decide) (by decide)).trans ((hFvy47 34 (by decide) (by decide) (by decide) (by decide) (by decide)).trans (hFvy37 34 (by decide) (by decide)))))))
                obtain ⟨d32vy2170, d33vy2170, d35vy2170, d36vy2170, d2vy2170, d37vy2170, d38vy2170⟩ := id hdvy2170
                have hgy2173 := up_n egy2052 hgy1791 (ne_o (i := i) (c := 21) (d := 20) rfl)
                have hgy2174 := (hfvy2070 (i + 21) (ne_o (i := i) (c := 21) (d := 0) rfl)).trans hgy2173
                have hgy2175 := (hfvy2170 (i + 21) (ne_o (i := i) (c := 21) (d := 0) rfl)).trans hgy2174
                refine z_iast C (by omega) hay8 hgy2175 ((F 48).toNat) (by omega) (by omega) (by decide) dX10_hour1_196 (fun gy2176 egy2177 => ?_)
                have hgy2178 := up_s egy2177
                obtain ⟨ry2179, hvy2180⟩ : ∃ rZ9 : Nat → Int, rZ9 = uZ ry1792 ((F 48).toNat) (vy2170) := ⟨_, rfl⟩
                rw [← hvy2180] at hgy2178
                refine z_aload_n C 2 dX10_hour1_197 rfl ?_
                refine z_dup C dX10_hour1_198 rfl ?_
                have hgy2181 := up_n egy2177 hcvy2170 (ne_o (i := i) (c := 0) (d := 21) rfl)
                refine z_get (v := .int (zI (F 48))) C (by omega) hay1 hgy2181 rfl inA_X10 48 (by decide) q_1507 rfl (fv (F := Fvy2170) (f := 48) ((hFvy2170 48 (by decide) (by decide) (by decide) (by decide) (by decide) (by decide) (by decide)).trans ((hFvy2070 48 (by decide) (by decide) (by decide) (by decide) (by decide)).trans ((hFvy1759 48 (by decide) (by decide) (by decide) (by decide) (by decide) (by decide) (by decide)).trans ((hFvy1749 48 (by decide) (by decide) (by decide) (by decide) (by decide)).trans ((hFvy47 48 (by decide) (by decide) (by decide) (by decide) (by decide)).trans (hFvy37 48 (by decide) (by decide)))))))) dX10_hour1_199 ?_
                refine z_iconst (z := 1) C dX10_hour1_202 rfl ?_
                refine z_iadd C dX10_hour1_203 ?_
                refine z_put (fs' := mF ad (i) (uZ Fvy2170 48 ((F 48) + 1))) C (by omega) hay1 hgy2181 tyX10 tyX10_ok nmX10 rfl inA_X10 48 (by decide) q_1507 rfl rfl rfl rfl (Nat.le_of_ble_eq_true rfl) rfl dX10_hour1_204 (fun gy2182 egy2183 => ?_)
                have hgy2184 := up_s egy2183
                have hFy2185 : ∀ f, f ≠ 24 → f ≠ 32 → f ≠ 33 → f ≠ 35 → f ≠ 36 → f ≠ 37 → f ≠ 38 → f ≠ 47 → f ≠ 48 → f ≠ 49 → (uZ Fvy2170 48 ((F 48) + 1)) f = F f := fun f n24 n32 n33 n35 n36 n37 n38 n47 n48 n49 => ((uZ_n _ _ n48).trans ((hFvy2170 f n24 n32 n33 n35 n36 n37 n38).trans ((hFvy2070 f n32 n33 n35 n36 n37).trans ((hFvy1759 f n24 n32 n33 n35 n36 n37 n38).trans ((hFvy1749 f n32 n33 n35 n36 n37).trans ((hFvy47 f n32 n33 n35 n36 n37).trans (hFvy37 f n24 n38)))))))
                have hey2186 : (uZ Fvy2170 48 ((F 48) + 1)) 32 = Fvy2170 32 := (fn rfl (by decide))
                have hey2187 : (uZ Fvy2170 48 ((F 48) + 1)) 33 = Fvy2170 33 := (fn rfl (by decide))
                have hey2188 : (uZ Fvy2170 48 ((F 48) + 1)) 34 = F 34 := (fn ((hFvy2170 34 (by decide) (by decide) (by decide) (by decide) (by decide) (by decide) (by decide)).trans ((hFvy2070 34 (by decide) (by decide) (by decide) (by decide) (by decide)).trans ((hFvy1759 34 (by decide) (by decide) (by decide) (by decide) (by decide) (by decide) (by decide)).trans ((hFvy1749 34 (by decide) (by decide) (by decide) (by decide) (by decide)).trans ((hFvy47 34 (by decide) (by decide) (by decide) (by decide) (by decide)).trans (hFvy37 34 (by decide) (by decide))))))) (by decide))
                have hey2189 : (uZ Fvy2170 48 ((F 48) + 1)) 35 = Fvy2170 35 := (fn rfl (by decide))
                have hey2190 : (uZ Fvy2170 48 ((F 48) + 1)) 36 = Fvy2170 36 := (fn rfl (by decide))
                have hey2191 : (uZ Fvy2170 48 ((F 48) + 1)) 37 = Fvy2170 37 := (fn rfl (by decide))
                have hey2192 : (uZ Fvy2170 48 ((F 48) + 1)) 38 = Fvy2170 38 := (fn rfl (by decide))
                have hrdy2193 : RD (uZ Fvy2170 48 ((F 48) + 1)) := by unfold RD; omega
                have hey2194 : (uZ Fvy2170 48 ((F 48) + 1)) 32 = Fvy2170 32 := (fn rfl (by decide))
                have hey2195 : (uZ Fvy2170 48 ((F 48) + 1)) 47 = F 47 := (fn ((hFvy2170 47 (by decide) (by decide) (by decide) (by decide) (by decide) (by decide) (by decide)).trans ((hFvy2070 47 (by decide) (by decide) (by decide) (by decide) (by decide)).trans ((hFvy1759 47 (by decide) (by decide) (by decide) (by decide) (by decide) (by decide) (by decide)).trans ((hFvy1749 47 (by decide) (by decide) (by decide) (by decide) (by decide)).trans ((hFvy47 47 (by decide) (by decide) (by decide) (by decide) (by decide)).trans (hFvy37 47 (by decide) (by decide))))))) (by decide))
                have hey2196 : (uZ Fvy2170 48 ((F 48) + 1)) 48 = (F 48) + 1 := (uZ_s _ _ _)
                have hey2197 : (uZ Fvy2170 48 ((F 48) + 1)) 49 = F 49 := (fn ((hFvy2170 49 (by decide) (by decide) (by decide) (by decide) (by decide) (by decide) (by decide)).trans ((hFvy2070 49 (by decide) (by decide) (by decide) (by decide) (by decide)).trans ((hFvy1759 49 (by decide) (by decide) (by decide) (by decide) (by decide) (by decide) (by decide)).trans ((hFvy1749 49 (by decide) (by decide) (by decide) (by decide) (by decide)).trans ((hFvy47 49 (by decide) (by decide) (by decide) (by decide) (by decide)).trans (hFvy37 49 (by decide) (by decide))))))) (by decide))
                have hfry2199 : ∀ j, j ≠ (F 48).toNat → ry1769 j = ai1 j := fun j n0 => (congrFun hvy1770 _).trans ((uZ_n _ _ n0).trans (rfl))
                have hwy2200 : ry1769 ((F 48).toNat) = -(vy1759) := (congrFun hvy1770 _).trans (uZ_s _ _ _)
                have haky2198 : ∀ k, k < 24 → -300 ≤ ry1769 k ∧ ry1769 k ≤ 100 := by
                  intro k hk
                  by_cases e : k = (F 48).toNat
                  · subst e; have hk0 := hai1 ((F 48).toNat) (by omega); omega
                  · have hk0 := hai1 k hk; rw [hfry2199 k e]; exact hk0
                have hfry2202 : ∀ j, j ≠ (F 48).toNat → ry2054 j = fa1 j := fun j n0 => (congrFun hvy2055 _).trans ((uZ_n _ _ n0).trans ((congrFun hvy1781 _).trans ((uZ_n _ _ n0).trans (rfl))))
                have hfry2203 : ∀ j, j ≠ (F 48).toNat → ry2179 j = mu1 j := fun j n0 => (congrFun hvy2180 _).trans ((uZ_n _ _ n0).trans ((congrFun hvy1793 _).trans ((uZ_n _ _ n0).trans (rfl))))
                have hwy2204 : ry2054 ((F 48).toNat) = ((Fvy1759 37) - 3) + 1 := (congrFun hvy2055 _).trans (uZ_s _ _ _)
                have hwy2205 : ry2179 ((F 48).toNat) = vy2170 := (congrFun hvy2180 _).trans (uZ_s _ _ _)
                have haky2201 : ∀ k, k < 24 → (0 ≤ ry2054 k ∧ ry2054 k ≤ 3) ∧ (0 ≤ ry2179 k ∧ ry2179 k ≤ 50) ∧ (ry2054 k = 1 ∨ ry2054 k = 2 → 1 ≤ ry2179 k) := by
                  intro k hk
                  by_cases e : k = (F 48).toNat
                  · subst e; have hk0 := hfa1 ((F 48).toNat) (by omega); omega
                  · have hk0 := hfa1 k hk; rw [hfry2202 k e]; rw [hfry2203 k e]; exact hk0
                have hlay2206 : ∀ s l : Nat, (s : Int) < (uZ Fvy2170 48 ((F 48) + 1)) 47 → (l : Int) < mn1 s → lyT ly1 (84 * s + 7 * l) := fun s l a1 a2 => hly1 s l (by omega) a2
                have hgy2207 := (hfvy37 (i + 16) (ne_o (i := i) (c := 16) (d := 0) rfl)).trans ha16
                have hgy2208 := (hfvy47 (i + 16) (ne_o (i := i) (c := 16) (d := 0) rfl)).trans hgy2207
                have hgy2209 := (hfvy1749 (i + 16) (ne_o (i := i) (c := 16) (d := 0) rfl)).trans hgy2208
                have hgy2210 := (hfvy1759 (i + 16) (ne_o (i := i) (c := 16) (d := 0) rfl)).trans hgy2209
                have hgy2211 := up_n egy1767 hgy2210 (ne_o (i := i) (c := 16) (d := 19) rfl)
                have hgy2212 := up_n egy1778 hgy2211 (ne_o (i := i) (c := 16) (d := 20) rfl)
                have hgy2213 := up_n egy1790 hgy2212 (ne_o (i := i) (c := 16) (d := 21) rfl)
                have hgy2214 := up_n egy2052 hgy2213 (ne_o (i := i) (c := 16) (d := 20) rfl)
                have hgy2215 := (hfvy2070 (i + 16) (ne_o (i := i) (c := 16) (d := 0) rfl)).trans hgy2214
                have hgy2216 := (hfvy2170 (i + 16) (ne_o (i := i) (c := 16) (d := 0) rfl)).trans hgy2215
                have hgy2217 := up_n egy2177 hgy2216 (ne_o (i := i) (c := 16) (d := 21) rfl)
                have hgy2218 := up_n egy2183 hgy2217 (ne_o (i := i) (c := 16) (d := 0) rfl)
                have hgy2219 := (hfvy37 (i + 17) (ne_o (i := i) (c := 17) (d := 0) rfl)).trans ha17
                have hgy2220 := (hfvy47 (i + 17) (ne_o (i := i) (c := 17) (d := 0) rfl)).trans hgy2219
                have hgy2221 := (hfvy1749 (i + 17) (ne_o (i := i) (c := 17) (d := 0) rfl)).trans hgy2220
                have hgy2222 := (hfvy1759 (i + 17) (ne_o (i := i) (c := 17) (d := 0) rfl)).trans hgy2221
                have hgy2223 := up_n egy1767 hgy2222 (ne_o (i := i) (c := 17) (d := 19) rfl)
                have hgy2224 := up_n egy1778 hgy2223 (ne_o (i := i) (c := 17) (d := 20) rfl)
                have hgy2225 := up_n egy1790 hgy2224 (ne_o (i := i) (c := 17) (d := 21) rfl)
                have hgy2226 := up_n egy2052 hgy2225 (ne_o (i := i) (c := 17) (d := 20) rfl)
                have hgy2227 := (hfvy2070 (i + 17) (ne_o (i := i) (c := 17) (d := 0) rfl)).trans hgy2226
                have hgy2228 := (hfvy2170 (i + 17) (ne_o (i := i) (c := 17) (d := 0) rfl)).trans hgy2227
                have hgy2229 := up_n egy2177 hgy2228 (ne_o (i := i) (c := 17) (d := 21) rfl)
                have hgy2230 := up_n egy2183 hgy2229 (ne_o (i := i) (c := 17) (d := 0) rfl)
                have hgy2231 := (hfvy37 (i + 18) (ne_o (i := i) (c := 18) (d := 0) rfl)).trans ha18
                have hgy2232 := (hfvy47 (i + 18) (ne_o (i := i) (c := 18) (d := 0) rfl)).trans hgy2231
                have hgy2233 := (hfvy1749 (i + 18) (ne_o (i := i) (c := 18) (d := 0) rfl)).trans hgy2232
                have hgy2234 := (hfvy1759 (i + 18) (ne_o (i := i) (c := 18) (d := 0) rfl)).trans hgy2233
                have hgy2235 := up_n egy1767 hgy2234 (ne_o (i := i) (c := 18) (d := 19) rfl)
                have hgy2236 := up_n egy1778 hgy2235 (ne_o (i := i) (c := 18) (d := 20) rfl)
                have hgy2237 := up_n egy1790 hgy2236 (ne_o (i := i) (c := 18) (d := 21) rfl)
                have hgy2238 := up_n egy2052 hgy2237 (ne_o (i := i) (c := 18) (d := 20) rfl)
                have hgy2239 := (hfvy2070 (i + 18) (ne_o (i := i) (c := 18) (d := 0) rfl)).trans hgy2238
                have hgy2240 := (hfvy2170 (i + 18) (ne_o (i := i) (c := 18) (d := 0) rfl)).trans hgy2239
                have hgy2241 := up_n egy2177 hgy2240 (ne_o (i := i) (c := 18) (d := 21) rfl)
                have hgy2242 := up_n egy2183 hgy2241 (ne_o (i := i) (c := 18) (d := 0) rfl)
                have hgy2243 := up_n egy1778 hgy1768 (ne_o (i := i) (c := 19) (d := 20) rfl)
                have hgy2244 := up_n egy1790 hgy2243 (ne_o (i := i) (c := 19) (d := 21) rfl)
                have hgy2245 := up_n egy2052 hgy2244 (ne_o (i := i) (c := 19) (d := 20) rfl)
                have hgy2246 := (hfvy2070 (i + 19) (ne_o (i := i) (c := 19) (d := 0) rfl)).trans hgy2245
                have hgy2247 := (hfvy2170 (i + 19) (ne_o (i := i) (c := 19) (d := 0) rfl)).trans hgy2246
                have hgy2248 := up_n egy2177 hgy2247 (ne_o (i := i) (c := 19) (d := 21) rfl)
                have hgy2249 := up_n egy2183 hgy2248 (ne_o (i := i) (c := 19) (d := 0) rfl)
                have hgy2250 := (hfvy2170 (i + 20) (ne_o (i := i) (c := 20) (d := 0) rfl)).trans hgy2071
                have hgy2251 := up_n egy2177 hgy2250 (ne_o (i := i) (c := 20) (d := 21) rfl)
                have hgy2252 := up_n egy2183 hgy2251 (ne_o (i := i) (c := 20) (d := 0) rfl)
                have hgy2253 := up_n egy2183 hgy2178 (ne_o (i := i) (c := 21) (d := 0) rfl)
                have hgy2254 := (hfvy37 (i + 22) (ne_o (i := i) (c := 22) (d := 0) rfl)).trans ha22
                have hgy2255 := (hfvy47 (i + 22) (ne_o (i := i) (c := 22) (d := 0) rfl)).trans hgy2254
                have hgy2256 := (hfvy1749 (i + 22) (ne_o (i := i) (c := 22) (d := 0) rfl)).trans hgy2255
                have hgy2257 := (hfvy1759 (i + 22) (ne_o (i := i) (c := 22) (d := 0) rfl)).trans hgy2256
                have hgy2258 := up_n egy1767 hgy2257 (ne_o (i := i) (c := 22) (d := 19) rfl)
                have hgy2259 := up_n egy1778 hgy2258 (ne_o (i := i) (c := 22) (d := 20) rfl)
                have hgy2260 := up_n egy1790 hgy2259 (ne_o (i := i) (c := 22) (d := 21) rfl)
                have hgy2261 := up_n egy2052 hgy2260 (ne_o (i := i) (c := 22) (d := 20) rfl)
                have hgy2262 := (hfvy2070 (i + 22) (ne_o (i := i) (c := 22) (d := 0) rfl)).trans hgy2261
                have hgy2263 := (hfvy2170 (i + 22) (ne_o (i := i) (c := 22) (d := 0) rfl)).trans hgy2262
                have hgy2264 := up_n egy2177 hgy2263 (ne_o (i := i) (c := 22) (d := 21) rfl)
                have hgy2265 := up_n egy2183 hgy2264 (ne_o (i := i) (c := 22) (d := 0) rfl)
                have hgy2266 := (hfvy37 (i + 23) (ne_o (i := i) (c := 23) (d := 0) rfl)).trans ha23
                have hgy2267 := (hfvy47 (i + 23) (ne_o (i := i) (c := 23) (d := 0) rfl)).trans hgy2266
                have hgy2268 := (hfvy1749 (i + 23) (ne_o (i := i) (c := 23) (d := 0) rfl)).trans hgy2267
                have hgy2269 := (hfvy1759 (i + 23) (ne_o (i := i) (c := 23) (d := 0) rfl)).trans hgy2268
                have hgy2270 := up_n egy1767 hgy2269 (ne_o (i := i) (c := 23) (d := 19) rfl)
                have hgy2271 := up_n egy1778 hgy2270 (ne_o (i := i) (c := 23) (d := 20) rfl)
                have hgy2272 := up_n egy1790 hgy2271 (ne_o (i := i) (c := 23) (d := 21) rfl)
                have hgy2273 := up_n egy2052 hgy2272 (ne_o (i := i) (c := 23) (d := 20) rfl)
                have hgy2274 := (hfvy2070 (i + 23) (ne_o (i := i) (c := 23) (d := 0) rfl)).trans hgy2273
                have hgy2275 := (hfvy2170 (i + 23) (ne_o (i := i) (c := 23) (d := 0) rfl)).trans hgy2274
                have hgy2276 := up_n egy2177 hgy2275 (ne_o (i := i) (c := 23) (d := 21) rfl)
                have hgy2277 := up_n egy2183 hgy2276 (ne_o (i := i) (c := 23) (d := 0) rfl)
                have htxy2278 : okTx cs gy2182 i (uZ Fvy2170 48 ((F 48) + 1)) := ⟨_, _, _, _, _, _, _, _, ⟨hgy2218, hgy2230, hgy2242, hgy2249, hgy2252, hgy2253, hgy2265, hgy2277⟩, ⟨⟨by omega, by omega, by omega⟩, hop1, hmn1, haky2198, haky2201, htb1, hlay2206⟩⟩
                exact z_vret C hr hlk dX10_hour1_207 (by decide) (by decide) ⟨rfl, rfl, rfl, ⟨_, hgy2184, hrdy2193, by omega, by omega, hFy2185, htxy2278⟩, fun j j1 j2 => by rw [egy2183, va_up_ne _ _ (by omega)]; rw [egy2177, va_up_ne _ _ (by omega)]; rw [hfvy2170 _ (by omega)]; rw [hfvy2070 _ (by omega)]; rw [egy2052, va_up_ne _ _ (by omega)]; rw [egy1790, va_up_ne _ _ (by omega)]; rw [egy1778, va_up_ne _ _ (by omega)]; rw [egy1767, va_up_ne _ _ (by omega)]; rw [hfvy1759 _ (by omega)]; rw [hfvy1749 _ (by omega)]; rw [hfvy47 _ (by omega)]; rw [hfvy37 _ (by omega)]⟩
            · refine z_aload_n C 2 dX10_hour1_139 rfl ?_
              refine z_iconst (z := 5) C dX10_hour1_140 rfl ?_
              have hey2279 : Fvy1759 32 = Fvy1759 32 := rfl
              have hey2280 : Fvy1759 33 = Fvy1759 33 := rfl
              have hey2281 : Fvy1759 34 = F 34 := ((hFvy1759 34 (by decide) (by decide) (by decide) (by decide) (by decide) (by decide) (by decide)).trans ((hFvy1749 34 (by decide) (by decide) (by decide) (by decide) (by decide)).trans ((hFvy47 34 (by decide) (by decide) (by decide) (by decide) (by decide)).trans (hFvy37 34 (by decide) (by decide)))))
              have hey2282 : Fvy1759 35 = Fvy1759 35 := rfl
              have hey2283 : Fvy1759 36 = Fvy1759 36 := rfl
              have hey2284 : Fvy1759 37 = Fvy1759 37 := rfl
              have hey2285 : Fvy1759 38 = 0 := hxvy1759
              have hrdy2286 : RD Fvy1759 := by unfold RD; omega
              have hey2288 : Fvy1759 38 = 0 := hxvy1759
              have hey2289 : Fvy1759 35 = Fvy1759 35 := rfl
              have hey2290 : Fvy1759 37 = Fvy1759 37 := rfl
              refine z_cV (As := [.int (zI (5))]) (rest := []) (ci := 12) C (c_X10_is l D A cs tt N ad _ i hN _ hgy1794 hrdy2286 (5) (by omega)) (by omega) hay1 hgy1794 rfl rfl mv_yX10_is q_1705 hd_yX10_is (by decide) (Nat.le_of_ble_eq_true rfl) (by decide) dX10_hour1_141 rfl (kI0 fun vy2287 gvy2287 hvy2287 => ?_)
              rw [hey2288, hey2289, hey2290] at hvy2287
              obtain ⟨hrvy2287, hqvy2287, rfl⟩ := hvy2287
              refine z_if_eq (tgt := 197) C dX10_hour1_144 (by decide) (by omega) (fun hby2291 => ?_) (fun hby2291 => ?_)
              · refine z_aload_n C 2 dX10_hour1_197 rfl ?_
                refine z_dup C dX10_hour1_198 rfl ?_
                refine z_get (v := .int (zI (F 48))) C (by omega) hay1 hgy1794 rfl inA_X10 48 (by decide) q_1507 rfl (fv (F := Fvy1759) (f := 48) ((hFvy1759 48 (by decide) (by decide) (by decide) (by decide) (by decide) (by decide) (by decide)).trans ((hFvy1749 48 (by decide) (by decide) (by decide) (by decide) (by decide)).trans ((hFvy47 48 (by decide) (by decide) (by decide) (by decide) (by decide)).trans (hFvy37 48 (by decide) (by decide)))))) dX10_hour1_199 ?_
                refine z_iconst (z := 1) C dX10_hour1_202 rfl ?_
                refine z_iadd C dX10_hour1_203 ?_
                refine z_put (fs' := mF ad (i) (uZ Fvy1759 48 ((F 48) + 1))) C (by omega) hay1 hgy1794 tyX10 tyX10_ok nmX10 rfl inA_X10 48 (by decide) q_1507 rfl rfl rfl rfl (Nat.le_of_ble_eq_true rfl) rfl dX10_hour1_204 (fun gy2292 egy2293 => ?_)
                have hgy2294 := up_s egy2293
                have hFy2295 : ∀ f, f ≠ 24 → f ≠ 32 → f ≠ 33 → f ≠ 35 → f ≠ 36 → f ≠ 37 → f ≠ 38 → f ≠ 47 → f ≠ 48 → f ≠ 49 → (uZ Fvy1759 48 ((F 48) + 1)) f = F f := fun f n24 n32 n33 n35 n36 n37 n38 n47 n48 n49 => ((uZ_n _ _ n48).trans ((hFvy1759 f n24 n32 n33 n35 n36 n37 n38).trans ((hFvy1749 f n32 n33 n35 n36 n37).trans ((hFvy47 f n32 n33 n35 n36 n37).trans (hFvy37 f n24 n38)))))
                have hey2296 : (uZ Fvy1759 48 ((F 48) + 1)) 32 = Fvy1759 32 := (fn rfl (by decide))
                have hey2297 : (uZ Fvy1759 48 ((F 48) + 1)) 33 = Fvy1759 33 := (fn rfl (by decide))
                have hey2298 : (uZ Fvy1759 48 ((F 48) + 1)) 34 = F 34 := (fn ((hFvy1759 34 (by decide) (by decide) (by decide) (by decide) (by decide) (by decide) (by decide)).trans ((hFvy1749 34 (by decide) (by decide) (by decide) (by decide) (by decide)).trans ((hFvy47 34 (by decide) (by decide) (by decide) (by decide) (by decide)).trans (hFvy37 34 (by decide) (by decide))))) (by decide))
                have hey2299 : (uZ Fvy1759 48 ((F 48) + 1)) 35 = Fvy1759 35 := (fn rfl (by decide))
                have hey2300 : (uZ Fvy1759 48 ((F 48) + 1)) 36 = Fvy1759 36 := (fn rfl (by decide))
                have hey2301 : (uZ Fvy1759 48 ((F 48) + 1)) 37 = Fvy1759 37 := (fn rfl (by decide))
                have hey2302 : (uZ Fvy1759 48 ((F 48) + 1)) 38 = 0 := (fn hxvy1759 (by decide))
                have hrdy2303 : RD (uZ Fvy1759 48 ((F 48) + 1)) := by unfold RD; omega
                have hey2304 : (uZ Fvy1759 48 ((F 48) + 1)) 32 = Fvy1759 32 := (fn rfl (by decide))
                have hey2305 : (uZ Fvy1759 48 ((F 48) + 1)) 47 = F 47 := (fn ((hFvy1759 47 (by decide) (by decide) (by decide) (by decide) (by decide) (by decide) (by decide)).trans ((hFvy1749 47 (by decide) (by decide) (by decide) (by decide) (by decide)).trans ((hFvy47 47 (by decide) (by decide) (by decide) (by decide) (by decide)).trans (hFvy37 47 (by decide) (by decide))))) (by decide))
                have hey2306 : (uZ Fvy1759 48 ((F 48) + 1)) 48 = (F 48) + 1 := (uZ_s _ _ _)
                have hey2307 : (uZ Fvy1759 48 ((F 48) + 1)) 49 = F 49 := (fn ((hFvy1759 49 (by decide) (by decide) (by decide) (by decide) (by decide) (by decide) (by decide)).trans ((hFvy1749 49 (by decide) (by decide) (by decide) (by decide) (by decide)).trans ((hFvy47 49 (by decide) (by decide) (by decide) (by decide) (by decide)).trans (hFvy37 49 (by decide) (by decide))))) (by decide))
                have hfry2309 : ∀ j, j ≠ (F 48).toNat → ry1769 j = ai1 j := fun j n0 => (congrFun hvy1770 _).trans ((uZ_n _ _ n0).trans (rfl))
                have hwy2310 : ry1769 ((F 48).toNat) = -(vy1759) := (congrFun hvy1770 _).trans (uZ_s _ _ _)
                have haky2308 : ∀ k, k < 24 → -300 ≤ ry1769 k ∧ ry1769 k ≤ 100 := by
                  intro k hk
                  by_cases e : k = (F 48).toNat
                  · subst e; have hk0 := hai1 ((F 48).toNat) (by omega); omega
                  · have hk0 := hai1 k hk; rw [hfry2309 k e]; exact hk0
                have hfry2312 : ∀ j, j ≠ (F 48).toNat → ry1780 j = fa1 j := fun j n0 => (congrFun hvy1781 _).trans ((uZ_n _ _ n0).trans (rfl))
                have hfry2313 : ∀ j, j ≠ (F 48).toNat → ry1792 j = mu1 j := fun j n0 => (congrFun hvy1793 _).trans ((uZ_n _ _ n0).trans (rfl))
                have hwy2314 : ry1780 ((F 48).toNat) = 0 := (congrFun hvy1781 _).trans (uZ_s _ _ _)
                have hwy2315 : ry1792 ((F 48).toNat) = 0 := (congrFun hvy1793 _).trans (uZ_s _ _ _)
                have haky2311 : ∀ k, k < 24 → (0 ≤ ry1780 k ∧ ry1780 k ≤ 3) ∧ (0 ≤ ry1792 k ∧ ry1792 k ≤ 50) ∧ (ry1780 k = 1 ∨ ry1780 k = 2 → 1 ≤ ry1792 k) := by
                  intro k hk
                  by_cases e : k = (F 48).toNat
                  · subst e; have hk0 := hfa1 ((F 48).toNat) (by omega); omega
                  · have hk0 := hfa1 k hk; rw [hfry2312 k e]; rw [hfry2313 k e]; exact hk0
                have hlay2316 : ∀ s l : Nat, (s : Int) < (uZ Fvy1759 48 ((F 48) + 1)) 47 → (l : Int) < mn1 s → lyT ly1 (84 * s + 7 * l) := fun s l a1 a2 => hly1 s l (by omega) a2
                have hgy2317 := (hfvy37 (i + 16) (ne_o (i := i) (c := 16) (d := 0) rfl)).trans ha16
                have hgy2318 := (hfvy47 (i + 16) (ne_o (i := i) (c := 16) (d := 0) rfl)).trans hgy2317
                have hgy2319 := (hfvy1749 (i + 16) (ne_o (i := i) (c := 16) (d := 0) rfl)).trans hgy2318
                have hgy2320 := (hfvy1759 (i + 16) (ne_o (i := i) (c := 16) (d := 0) rfl)).trans hgy2319
                have hgy2321 := up_n egy1767 hgy2320 (ne_o (i := i) (c := 16) (d := 19) rfl)
                have hgy2322 := up_n egy1778 hgy2321 (ne_o (i := i) (c := 16) (d := 20) rfl)
                have hgy2323 := up_n egy1790 hgy2322 (ne_o (i := i) (c := 16) (d := 21) rfl)
                have hgy2324 := up_n egy2293 hgy2323 (ne_o (i := i) (c := 16) (d := 0) rfl)
                have hgy2325 := (hfvy37 (i + 17) (ne_o (i := i) (c := 17) (d := 0) rfl)).trans ha17
                have hgy2326 := (hfvy47 (i + 17) (ne_o (i := i) (c := 17) (d := 0) rfl)).trans hgy2325
                have hgy2327 := (hfvy1749 (i + 17) (ne_o (i := i) (c := 17) (d := 0) rfl)).trans hgy2326
                have hgy2328 := (hfvy1759 (i + 17) (ne_o (i := i) (c := 17) (d := 0) rfl)).trans hgy2327
                have hgy2329 := up_n egy1767 hgy2328 (ne_o (i := i) (c := 17) (d := 19) rfl)
                have hgy2330 := up_n egy1778 hgy2329 (ne_o (i := i) (c := 17) (d := 20) rfl)
                have hgy2331 := up_n egy1790 hgy2330 (ne_o (i := i) (c := 17) (d := 21) rfl)
                have hgy2332 := up_n egy2293 hgy2331 (ne_o (i := i) (c := 17) (d := 0) rfl)
                have hgy2333 := (hfvy37 (i + 18) (ne_o (i := i) (c := 18) (d := 0) rfl)).trans ha18
                have hgy2334 := (hfvy47 (i + 18) (ne_o (i := i) (c := 18) (d := 0) rfl)).trans hgy2333
                have hgy2335 := (hfvy1749 (i + 18) (ne_o (i := i) (c := 18) (d := 0) rfl)).trans hgy2334
                have hgy2336 := (hfvy1759 (i + 18) (ne_o (i := i) (c := 18) (d := 0) rfl)).trans hgy2335
                have hgy2337 := up_n egy1767 hgy2336 (ne_o (i := i) (c := 18) (d := 19) rfl)
                have hgy2338 := up_n egy1778 hgy2337 (ne_o (i := i) (c := 18) (d := 20) rfl)
                have hgy2339 := up_n egy1790 hgy2338 (ne_o (i := i) (c := 18) (d := 21) rfl)
                have hgy2340 := up_n egy2293 hgy2339 (ne_o (i := i) (c := 18) (d := 0) rfl)
                have hgy2341 := up_n egy1778 hgy1768 (ne_o (i := i) (c := 19) (d := 20) rfl)
                have hgy2342 := up_n egy1790 hgy2341 (ne_o (i := i) (c := 19) (d := 21) rfl)
                have hgy2343 := up_n egy2293 hgy2342 (ne_o (i := i) (c := 19) (d := 0) rfl)
                have hgy2344 := up_n egy1790 hgy1779 (ne_o (i := i) (c := 20) (d := 21) rfl)
                have hgy2345 := up_n egy2293 hgy2344 (ne_o (i := i) (c := 20) (d := 0) rfl)
                have hgy2346 := up_n egy2293 hgy1791 (ne_o (i := i) (c := 21) (d := 0) rfl)
                have hgy2347 := (hfvy37 (i + 22) (ne_o (i := i) (c := 22) (d := 0) rfl)).trans ha22
                have hgy2348 := (hfvy47 (i + 22) (ne_o (i := i) (c := 22) (d := 0) rfl)).trans hgy2347
                have hgy2349 := (hfvy1749 (i + 22) (ne_o (i := i) (c := 22) (d := 0) rfl)).trans hgy2348
                have hgy2350 := (hfvy1759 (i + 22) (ne_o (i := i) (c := 22) (d := 0) rfl)).trans hgy2349
                have hgy2351 := up_n egy1767 hgy2350 (ne_o (i := i) (c := 22) (d := 19) rfl)
                have hgy2352 := up_n egy1778 hgy2351 (ne_o (i := i) (c := 22) (d := 20) rfl)
                have hgy2353 := up_n egy1790 hgy2352 (ne_o (i := i) (c := 22) (d := 21) rfl)
                have hgy2354 := up_n egy2293 hgy2353 (ne_o (i := i) (c := 22) (d := 0) rfl)
                have hgy2355 := (hfvy37 (i + 23) (ne_o (i := i) (c := 23) (d := 0) rfl)).trans ha23
                have hgy2356 := (hfvy47 (i + 23) (ne_o (i := i) (c := 23) (d := 0) rfl)).trans hgy2355
                have hgy2357 := (hfvy1749 (i + 23) (ne_o (i := i) (c := 23) (d := 0) rfl)).trans hgy2356
                have hgy2358 := (hfvy1759 (i + 23) (ne_o (i := i) (c := 23) (d := 0) rfl)).trans hgy2357
                have hgy2359 := up_n egy1767 hgy2358 (ne_o (i := i) (c := 23) (d := 19) rfl)
                have hgy2360 := up_n egy1778 hgy2359 (ne_o (i := i) (c := 23) (d := 20) rfl)
                have hgy2361 := up_n egy1790 hgy2360 (ne_o (i := i) (c := 23) (d := 21) rfl)
                have hgy2362 := up_n egy2293 hgy2361 (ne_o (i := i) (c := 23) (d := 0) rfl)
                have htxy2363 : okTx cs gy2292 i (uZ Fvy1759 48 ((F 48) + 1)) := ⟨_, _, _, _, _, _, _, _, ⟨hgy2324, hgy2332, hgy2340, hgy2343, hgy2345, hgy2346, hgy2354, hgy2362⟩, ⟨⟨by omega, by omega, by omega⟩, hop1, hmn1, haky2308, haky2311, htb1, hlay2316⟩⟩
                exact z_vret C hr hlk dX10_hour1_207 (by decide) (by decide) ⟨rfl, rfl, rfl, ⟨_, hgy2294, hrdy2303, by omega, by omega, hFy2295, htxy2363⟩, fun j j1 j2 => by rw [egy2293, va_up_ne _ _ (by omega)]; rw [egy1790, va_up_ne _ _ (by omega)]; rw [egy1778, va_up_ne _ _ (by omega)]; rw [egy1767, va_up_ne _ _ (by omega)]; rw [hfvy1759 _ (by omega)]; rw [hfvy1749 _ (by omega)]; rw [hfvy47 _ (by omega)]; rw [hfvy37 _ (by omega)]⟩
              · refine z_aload_n C 2 dX10_hour1_147 rfl ?_
                refine z_get (v := .ref (ad (i + 20))) C (by omega) hay1 hgy1794 rfl inA_X10 43 (by decide) q_1502 rfl rfl dX10_hour1_148 ?_
                refine z_aload_n C 2 dX10_hour1_151 rfl ?_
                refine z_get (v := .int (zI (F 48))) C (by omega) hay1 hgy1794 rfl inA_X10 48 (by decide) q_1507 rfl (fv (F := Fvy1759) (f := 48) ((hFvy1759 48 (by decide) (by decide) (by decide) (by decide) (by decide) (by decide) (by decide)).trans ((hFvy1749 48 (by decide) (by decide) (by decide) (by decide) (by decide)).trans ((hFvy47 48 (by decide) (by decide) (by decide) (by decide) (by decide)).trans (hFvy37 48 (by decide) (by decide)))))) dX10_hour1_152 ?_
                refine z_aload_n C 2 dX10_hour1_155 rfl ?_
                refine z_get (v := .int (zI (Fvy1759 37))) C (by omega) hay1 hgy1794 rfl inA_X10 37 (by decide) q_1496 rfl (fv (F := Fvy1759) (f := 37) rfl) dX10_hour1_156 ?_
                refine z_iconst (z := 3) C dX10_hour1_159 rfl ?_
                refine z_isub C dX10_hour1_160 ?_
                refine z_iconst (z := 1) C dX10_hour1_161 rfl ?_
                refine z_iadd C dX10_hour1_162 ?_
                have hgy2364 := up_n egy1790 hgy1779 (ne_o (i := i) (c := 20) (d := 21) rfl)
                refine z_iast C (by omega) hay7 hgy2364 ((F 48).toNat) (by omega) (by omega) (by decide) dX10_hour1_163 (fun gy2365 egy2366 => ?_)
                have hgy2367 := up_s egy2366
                obtain ⟨ry2368, hvy2369⟩ : ∃ rZ9 : Nat → Int, rZ9 = uZ ry1780 ((F 48).toNat) (((Fvy1759 37) - 3) + 1) := ⟨_, rfl⟩
                rw [← hvy2369] at hgy2367
                refine z_aload_n C 2 dX10_hour1_164 rfl ?_
                have hgy2370 := up_n egy2366 hgy1794 (ne_o (i := i) (c := 0) (d := 20) rfl)
                have hey2371 : Fvy1759 32 = Fvy1759 32 := rfl
                have hey2372 : Fvy1759 33 = Fvy1759 33 := rfl
                have hey2373 : Fvy1759 34 = F 34 := ((hFvy1759 34 (by decide) (by decide) (by decide) (by decide) (by decide) (by decide) (by decide)).trans ((hFvy1749 34 (by decide) (by decide) (by decide) (by decide) (by decide)).trans ((hFvy47 34 (by decide) (by decide) (by decide) (by decide) (by decide)).trans (hFvy37 34 (by decide) (by decide)))))
                have hey2374 : Fvy1759 35 = Fvy1759 35 := rfl
                have hey2375 : Fvy1759 36 = Fvy1759 36 := rfl
                have hey2376 : Fvy1759 37 = Fvy1759 37 := rfl
                have hey2377 : Fvy1759 38 = 0 := hxvy1759
                have hrdy2378 : RD Fvy1759 := by unfold RD; omega
                have hgy2379 := (hfvy1759 (i + 13) (ne_o (i := i) (c := 13) (d := 0) rfl)).trans hgy1758
                have hgy2380 := up_n egy1767 hgy2379 (ne_o (i := i) (c := 13) (d := 19) rfl)
                have hgy2381 := up_n egy1778 hgy2380 (ne_o (i := i) (c := 13) (d := 20) rfl)
                have hgy2382 := up_n egy1790 hgy2381 (ne_o (i := i) (c := 13) (d := 21) rfl)
                have hgy2383 := up_n egy2366 hgy2382 (ne_o (i := i) (c := 13) (d := 20) rfl)
                refine z_cV (As := []) (rest := []) (ci := 12) C (c_X10_go l D A cs tt N ad _ i hN _ hgy2370 _ hgy2383 htp hrdy2378) (by omega) hay1 hgy2370 rfl rfl mv_yX10_go q_1652 hd_yX10_go (by decide) (Nat.le_of_ble_eq_true rfl) (by decide) dX10_hour1_165 rfl (kV0 fun gvy2384 hvy2384 => ?_)
                obtain ⟨⟨Fvy2384, hcvy2384, hdvy2384, hlvy2384, hsvy2384, hFvy2384⟩, hfvy2384⟩ := hvy2384
                have h32vy2384 : Fvy1759 32 = Fvy1759 32 := rfl
                have h34vy2384 : Fvy2384 34 = F 34 := (hFvy2384 34 (by decide) (by decide) (by decide) (by decide) (by decide)).trans (((hFvy1759 34 (by decide) (by decide) (by decide) (by decide) (by decide) (by decide) (by decide)).trans ((hFvy1749 34 (by decide) (by decide) (by decide) (by decide) (by decide)).trans ((hFvy47 34 (by decide) (by decide) (by decide) (by decide) (by decide)).trans (hFvy37 34 (by decide) (by decide))))))
                obtain ⟨d32vy2384, d33vy2384, d35vy2384, d36vy2384, d2vy2384, d37vy2384, d38vy2384⟩ := id hdvy2384
                have h38vy2384 : Fvy2384 38 = 0 := ((hFvy2384 38 (by decide) (by decide) (by decide) (by decide) (by decide)).trans hxvy1759)
                refine z_aload_n C 2 dX10_hour1_168 rfl ?_
                refine z_get (v := .ref (ad (i + 20))) C (by omega) hay1 hcvy2384 rfl inA_X10 43 (by decide) q_1502 rfl rfl dX10_hour1_169 ?_
                refine z_aload_n C 2 dX10_hour1_172 rfl ?_
                refine z_get (v := .int (zI (F 48))) C (by omega) hay1 hcvy2384 rfl inA_X10 48 (by decide) q_1507 rfl (fv (F := Fvy2384) (f := 48) ((hFvy2384 48 (by decide) (by decide) (by decide) (by decide) (by decide)).trans ((hFvy1759 48 (by decide) (by decide) (by decide) (by decide) (by decide) (by decide) (by decide)).trans ((hFvy1749 48 (by decide) (by decide) (by decide) (by decide) (by decide)).trans ((hFvy47 48 (by decide) (by decide) (by decide) (by decide) (by decide)).trans (hFvy37 48 (by decide) (by decide))))))) dX10_hour1_173 ?_
                have hgy2385 := (hfvy2384 (i + 20) (ne_o (i := i) (c := 20) (d := 0) rfl)).trans hgy2367
                refine z_iald C (by omega) hay7 hgy2385 ((F 48).toNat) (by omega) (by omega) (by decide) dX10_hour1_176 ?_
                rw [show ry2368 ((F 48).toNat) = ((Fvy1759 37) - 3) + 1 from (congrFun hvy2369 _).trans (uZ_s _ _ _)]
                refine z_iconst (z := 3) C dX10_hour1_177 rfl ?_
                obtain ⟨xy2386, exy2387, hxy2388⟩ := zI_of (zI (((Fvy1759 37) - 3) + 1))
                rw [exy2387]
                refine z_icmp_ge (tgt := 197) C dX10_hour1_178 (by decide) (by omega) (by omega) (fun hby2389 => ?_) (fun hby2389 => ?_)
                · refine z_aload_n C 2 dX10_hour1_197 rfl ?_
                  refine z_dup C dX10_hour1_198 rfl ?_
                  refine z_get (v := .int (zI (F 48))) C (by omega) hay1 hcvy2384 rfl inA_X10 48 (by decide) q_1507 rfl (fv (F := Fvy2384) (f := 48) ((hFvy2384 48 (by decide) (by decide) (by decide) (by decide) (by decide)).trans ((hFvy1759 48 (by decide) (by decide) (by decide) (by decide) (by decide) (by decide) (by decide)).trans ((hFvy1749 48 (by decide) (by decide) (by decide) (by decide) (by decide)).trans ((hFvy47 48 (by decide) (by decide) (by decide) (by decide) (by decide)).trans (hFvy37 48 (by decide) (by decide))))))) dX10_hour1_199 ?_
                  refine z_iconst (z := 1) C dX10_hour1_202 rfl ?_
                  refine z_iadd C dX10_hour1_203 ?_
                  refine z_put (fs' := mF ad (i) (uZ Fvy2384 48 ((F 48) + 1))) C (by omega) hay1 hcvy2384 tyX10 tyX10_ok nmX10 rfl inA_X10 48 (by decide) q_1507 rfl rfl rfl rfl (Nat.le_of_ble_eq_true rfl) rfl dX10_hour1_204 (fun gy2390 egy2391 => ?_)
                  have hgy2392 := up_s egy2391
                  have hFy2393 : ∀ f, f ≠ 24 → f ≠ 32 → f ≠ 33 → f ≠ 35 → f ≠ 36 → f ≠ 37 → f ≠ 38 → f ≠ 47 → f ≠ 48 → f ≠ 49 → (uZ Fvy2384 48 ((F 48) + 1)) f = F f := fun f n24 n32 n33 n35 n36 n37 n38 n47 n48 n49 => ((uZ_n _ _ n48).trans ((hFvy2384 f n32 n33 n35 n36 n37).trans ((hFvy1759 f n24 n32 n33 n35 n36 n37 n38).trans ((hFvy1749 f n32 n33 n35 n36 n37).trans ((hFvy47 f n32 n33 n35 n36 n37).trans (hFvy37 f n24 n38))))))
                  have hey2394 : (uZ Fvy2384 48 ((F 48) + 1)) 32 = Fvy2384 32 := (fn rfl (by decide))
                  have hey2395 : (uZ Fvy2384 48 ((F 48) + 1)) 33 = Fvy2384 33 := (fn rfl (by decide))
                  have hey2396 : (uZ Fvy2384 48 ((F 48) + 1)) 34 = F 34 := (fn ((hFvy2384 34 (by decide) (by decide) (by decide) (by decide) (by decide)).trans ((hFvy1759 34 (by decide) (by decide) (by decide) (by decide) (by decide) (by decide) (by decide)).trans ((hFvy1749 34 (by decide) (by decide) (by decide) (by decide) (by decide)).trans ((hFvy47 34 (by decide) (by decide) (by decide) (by decide) (by decide)).trans (hFvy37 34 (by decide) (by decide)))))) (by decide))
                  have hey2397 : (uZ Fvy2384 48 ((F 48) + 1)) 35 = Fvy2384 35 := (fn rfl (by decide))
                  have hey2398 : (uZ Fvy2384 48 ((F 48) + 1)) 36 = Fvy2384 36 := (fn rfl (by decide))
                  have hey2399 : (uZ Fvy2384 48 ((F 48) + 1)) 37 = Fvy2384 37 := (fn rfl (by decide))
                  have hey2400 : (uZ Fvy2384 48 ((F 48) + 1)) 38 = 0 := (fn ((hFvy2384 38 (by decide) (by decide) (by decide) (by decide) (by decide)).trans hxvy1759) (by decide))
                  have hrdy2401 : RD (uZ Fvy2384 48 ((F 48) + 1)) := by unfold RD; omega
                  have hey2402 : (uZ Fvy2384 48 ((F 48) + 1)) 32 = Fvy2384 32 := (fn rfl (by decide))
                  have hey2403 : (uZ Fvy2384 48 ((F 48) + 1)) 47 = F 47 := (fn ((hFvy2384 47 (by decide) (by decide) (by decide) (by decide) (by decide)).trans ((hFvy1759 47 (by decide) (by decide) (by decide) (by decide) (by decide) (by decide) (by decide)).trans ((hFvy1749 47 (by decide) (by decide) (by decide) (by decide) (by decide)).trans ((hFvy47 47 (by decide) (by decide) (by decide) (by decide) (by decide)).trans (hFvy37 47 (by decide) (by decide)))))) (by decide))
                  have hey2404 : (uZ Fvy2384 48 ((F 48) + 1)) 48 = (F 48) + 1 := (uZ_s _ _ _)
                  have hey2405 : (uZ Fvy2384 48 ((F 48) + 1)) 49 = F 49 := (fn ((hFvy2384 49 (by decide) (by decide) (by decide) (by decide) (by decide)).trans ((hFvy1759 49 (by decide) (by decide) (by decide) (by decide) (by decide) (by decide) (by decide)).trans ((hFvy1749 49 (by decide) (by decide) (by decide) (by decide) (by decide)).trans ((hFvy47 49 (by decide) (by decide) (by decide) (by decide) (by decide)).trans (hFvy37 49 (by decide) (by decide)))))) (by decide))
                  have hfry2407 : ∀ j, j ≠ (F 48).toNat → ry1769 j = ai1 j := fun j n0 => (congrFun hvy1770 _).trans ((uZ_n _ _ n0).trans (rfl))
                  have hwy2408 : ry1769 ((F 48).toNat) = -(vy1759) := (congrFun hvy1770 _).trans (uZ_s _ _ _)
                  have haky2406 : ∀ k, k < 24 → -300 ≤ ry1769 k ∧ ry1769 k ≤ 100 := by
                    intro k hk
                    by_cases e : k = (F 48).toNat
                    · subst e; have hk0 := hai1 ((F 48).toNat) (by omega); omega
                    · have hk0 := hai1 k hk; rw [hfry2407 k e]; exact hk0
                  have hfry2410 : ∀ j, j ≠ (F 48).toNat → ry2368 j = fa1 j := fun j n0 => (congrFun hvy2369 _).trans ((uZ_n _ _ n0).trans ((congrFun hvy1781 _).trans ((uZ_n _ _ n0).trans (rfl))))
                  have hfry2411 : ∀ j, j ≠ (F 48).toNat → ry1792 j = mu1 j := fun j n0 => (congrFun hvy1793 _).trans ((uZ_n _ _ n0).trans (rfl))
                  have hwy2412 : ry2368 ((F 48).toNat) = ((Fvy1759 37) - 3) + 1 := (congrFun hvy2369 _).trans (uZ_s _ _ _)
                  have hwy2413 : ry1792 ((F 48).toNat) = 0 := (congrFun hvy1793 _).trans (uZ_s _ _ _)
                  have haky2409 : ∀ k, k < 24 → (0 ≤ ry2368 k ∧ ry2368 k ≤ 3) ∧ (0 ≤ ry1792 k ∧ ry1792 k ≤ 50) ∧ (ry2368 k = 1 ∨ ry2368 k = 2 → 1 ≤ ry1792 k) := by
                    intro k hk
                    by_cases e : k = (F 48).toNat
                    · subst e; have hk0 := hfa1 ((F 48).toNat) (by omega); omega
                    · have hk0 := hfa1 k hk; rw [hfry2410 k e]; rw [hfry2411 k e]; exact hk0
                  have hlay2414 : ∀ s l : Nat, (s : Int) < (uZ Fvy2384 48 ((F 48) + 1)) 47 → (l : Int) < mn1 s → lyT ly1 (84 * s + 7 * l) := fun s l a1 a2 => hly1 s l (by omega) a2
                  have hgy2415 := (hfvy37 (i + 16) (ne_o (i := i) (c := 16) (d := 0) rfl)).trans ha16
                  have hgy2416 := (hfvy47 (i + 16) (ne_o (i := i) (c := 16) (d := 0) rfl)).trans hgy2415
                  have hgy2417 := (hfvy1749 (i + 16) (ne_o (i := i) (c := 16) (d := 0) rfl)).trans hgy2416
                  have hgy2418 := (hfvy1759 (i + 16) (ne_o (i := i) (c := 16) (d := 0) rfl)).trans hgy2417
                  have hgy2419 := up_n egy1767 hgy2418 (ne_o (i := i) (c := 16) (d := 19) rfl)
                  have hgy2420 := up_n egy1778 hgy2419 (ne_o (i := i) (c := 16) (d := 20) rfl)
                  have hgy2421 := up_n egy1790 hgy2420 (ne_o (i := i) (c := 16) (d := 21) rfl)
                  have hgy2422 := up_n egy2366 hgy2421 (ne_o (i := i) (c := 16) (d := 20) rfl)
                  have hgy2423 := (hfvy2384 (i + 16) (ne_o (i := i) (c := 16) (d := 0) rfl)).trans hgy2422
                  have hgy2424 := up_n egy2391 hgy2423 (ne_o (i := i) (c := 16) (d := 0) rfl)
                  have hgy2425 := (hfvy37 (i + 17) (ne_o (i := i) (c := 17) (d := 0) rfl)).trans ha17
                  have hgy2426 := (hfvy47 (i + 17) (ne_o (i := i) (c := 17) (d := 0) rfl)).trans hgy2425
                  have hgy2427 := (hfvy1749 (i + 17) (ne_o (i := i) (c := 17) (d := 0) rfl)).trans hgy2426
                  have hgy2428 := (hfvy1759 (i + 17) (ne_o (i := i) (c := 17) (d := 0) rfl)).trans hgy2427
                  have hgy2429 := up_n egy1767 hgy2428 (ne_o (i := i) (c := 17) (d := 19) rfl)
                  have hgy2430 := up_n egy1778 hgy2429 (ne_o (i := i) (c := 17) (d := 20) rfl)
                  have hgy2431 := up_n egy1790 hgy2430 (ne_o (i := i) (c := 17) (d := 21) rfl)
                  have hgy2432 := up_n egy2366 hgy2431 (ne_o (i := i) (c := 17) (d := 20) rfl)
                  have hgy2433 := (hfvy2384 (i + 17) (ne_o (i := i) (c := 17) (d := 0) rfl)).trans hgy2432
                  have hgy2434 := up_n egy2391 hgy2433 (ne_o (i := i) (c := 17) (d := 0) rfl)
                  have hgy2435 := (hfvy37 (i + 18) (ne_o (i := i) (c := 18) (d := 0) rfl)).trans ha18
                  have hgy2436 := (hfvy47 (i + 18) (ne_o (i := i) (c := 18) (d := 0) rfl)).trans hgy2435
                  have hgy2437 := (hfvy1749 (i + 18) (ne_o (i := i) (c := 18) (d := 0) rfl)).trans hgy2436
                  have hgy2438 := (hfvy1759 (i + 18) (ne_o (i := i) (c := 18) (d := 0) rfl)).trans hgy2437
                  have hgy2439 := up_n egy1767 hgy2438 (ne_o (i := i) (c := 18) (d := 19) rfl)
                  have hgy2440 := up_n egy1778 hgy2439 (ne_o (i := i) (c := 18) (d := 20) rfl)
                  have hgy2441 := up_n egy1790 hgy2440 (ne_o (i := i) (c := 18) (d := 21) rfl)
                  have hgy2442 := up_n egy2366 hgy2441 (ne_o (i := i) (c := 18) (d := 20) rfl)
                  have hgy2443 := (hfvy2384 (i + 18) (ne_o (i := i) (c := 18) (d := 0) rfl)).trans hgy2442
                  have hgy2444 := up_n egy2391 hgy2443 (ne_o (i := i) (c := 18) (d := 0) rfl)
                  have hgy2445 := up_n egy1778 hgy1768 (ne_o (i := i) (c := 19) (d := 20) rfl)
                  have hgy2446 := up_n egy1790 hgy2445 (ne_o (i := i) (c := 19) (d := 21) rfl)
                  have hgy2447 := up_n egy2366 hgy2446 (ne_o (i := i) (c := 19) (d := 20) rfl)
                  have hgy2448 := (hfvy2384 (i + 19) (ne_o (i := i) (c := 19) (d := 0) rfl)).trans hgy2447
                  have hgy2449 := up_n egy2391 hgy2448 (ne_o (i := i) (c := 19) (d := 0) rfl)
                  have hgy2450 := up_n egy2391 hgy2385 (ne_o (i := i) (c := 20) (d := 0) rfl)
                  have hgy2451 := up_n egy2366 hgy1791 (ne_o (i := i) (c := 21) (d := 20) rfl)
                  have hgy2452 := (hfvy2384 (i + 21) (ne_o (i := i) (c := 21) (d := 0) rfl)).trans hgy2451
                  have hgy2453 := up_n egy2391 hgy2452 (ne_o (i := i) (c := 21) (d := 0) rfl)
                  have hgy2454 := (hfvy37 (i + 22) (ne_o (i := i) (c := 22) (d := 0) rfl)).trans ha22
                  have hgy2455 := (hfvy47 (i + 22) (ne_o (i := i) (c := 22) (d := 0) rfl)).trans hgy2454
                  have hgy2456 := (hfvy1749 (i + 22) (ne_o (i := i) (c := 22) (d := 0) rfl)).trans hgy2455
                  have hgy2457 := (hfvy1759 (i + 22) (ne_o (i := i) (c := 22) (d := 0) rfl)).trans hgy2456
                  have hgy2458 := up_n egy1767 hgy2457 (ne_o (i := i) (c := 22) (d := 19) rfl)
                  have hgy2459 := up_n egy1778 hgy2458 (ne_o (i := i) (c := 22) (d := 20) rfl)
                  have hgy2460 := up_n egy1790 hgy2459 (ne_o (i := i) (c := 22) (d := 21) rfl)
                  have hgy2461 := up_n egy2366 hgy2460 (ne_o (i := i) (c := 22) (d := 20) rfl)
                  have hgy2462 := (hfvy2384 (i + 22) (ne_o (i := i) (c := 22) (d := 0) rfl)).trans hgy2461
                  have hgy2463 := up_n egy2391 hgy2462 (ne_o (i := i) (c := 22) (d := 0) rfl)
                  have hgy2464 := (hfvy37 (i + 23) (ne_o (i := i) (c := 23) (d := 0) rfl)).trans ha23
                  have hgy2465 := (hfvy47 (i + 23) (ne_o (i := i) (c := 23) (d := 0) rfl)).trans hgy2464
                  have hgy2466 := (hfvy1749 (i + 23) (ne_o (i := i) (c := 23) (d := 0) rfl)).trans hgy2465
                  have hgy2467 := (hfvy1759 (i + 23) (ne_o (i := i) (c := 23) (d := 0) rfl)).trans hgy2466
                  have hgy2468 := up_n egy1767 hgy2467 (ne_o (i := i) (c := 23) (d := 19) rfl)
                  have hgy2469 := up_n egy1778 hgy2468 (ne_o (i := i) (c := 23) (d := 20) rfl)
                  have hgy2470 := up_n egy1790 hgy2469 (ne_o (i := i) (c := 23) (d := 21) rfl)
                  have hgy2471 := up_n egy2366 hgy2470 (ne_o (i := i) (c := 23) (d := 20) rfl)
                  have hgy2472 := (hfvy2384 (i + 23) (ne_o (i := i) (c := 23) (d := 0) rfl)).trans hgy2471
                  have hgy2473 := up_n egy2391 hgy2472 (ne_o (i := i) (c := 23) (d := 0) rfl)
                  have htxy2474 : okTx cs gy2390 i (uZ Fvy2384 48 ((F 48) + 1)) := ⟨_, _, _, _, _, _, _, _, ⟨hgy2424, hgy2434, hgy2444, hgy2449, hgy2450, hgy2453, hgy2463, hgy2473⟩, ⟨⟨by omega, by omega, by omega⟩, hop1, hmn1, haky2406, haky2409, htb1, hlay2414⟩⟩
                  exact z_vret C hr hlk dX10_hour1_207 (by decide) (by decide) ⟨rfl, rfl, rfl, ⟨_, hgy2392, hrdy2401, by omega, by omega, hFy2393, htxy2474⟩, fun j j1 j2 => by rw [egy2391, va_up_ne _ _ (by omega)]; rw [hfvy2384 _ (by omega)]; rw [egy2366, va_up_ne _ _ (by omega)]; rw [egy1790, va_up_ne _ _ (by omega)]; rw [egy1778, va_up_ne _ _ (by omega)]; rw [egy1767, va_up_ne _ _ (by omega)]; rw [hfvy1759 _ (by omega)]; rw [hfvy1749 _ (by omega)]; rw [hfvy47 _ (by omega)]; rw [hfvy37 _ (by omega)]⟩
                · refine z_aload_n C 2 dX10_hour1_181 rfl ?_
                  refine z_get (v := .ref (ad (i + 21))) C (by omega) hay1 hcvy2384 rfl inA_X10 44 (by decide) q_1503 rfl rfl dX10_hour1_182 ?_
                  refine z_aload_n C 2 dX10_hour1_185 rfl ?_
                  refine z_get (v := .int (zI (F 48))) C (by omega) hay1 hcvy2384 rfl inA_X10 48 (by decide) q_1507 rfl (fv (F := Fvy2384) (f := 48) ((hFvy2384 48 (by decide) (by decide) (by decide) (by decide) (by decide)).trans ((hFvy1759 48 (by decide) (by decide) (by decide) (by decide) (by decide) (by decide) (by decide)).trans ((hFvy1749 48 (by decide) (by decide) (by decide) (by decide) (by decide)).trans ((hFvy47 48 (by decide) (by decide) (by decide) (by decide) (by decide)).trans (hFvy37 48 (by decide) (by decide))))))) dX10_hour1_186 ?_
                  refine z_aload_n C 2 dX10_hour1_189 rfl ?_
                  refine z_iconst (z := 1) C dX10_hour1_190 rfl ?_
                  refine z_bipush (z := 50) C dX10_hour1_191 (by decide) ?_
                  have hey2475 : Fvy2384 32 = Fvy2384 32 := rfl
                  have hey2476 : Fvy2384 33 = Fvy2384 33 := rfl
                  have hey2477 : Fvy2384 34 = F 34 := ((hFvy2384 34 (by decide) (by decide) (by decide) (by decide) (by decide)).trans ((hFvy1759 34 (by decide) (by decide) (by decide) (by decide) (by decide) (by decide) (by decide)).trans ((hFvy1749 34 (by decide) (by decide) (by decide) (by decide) (by decide)).trans ((hFvy47 34 (by decide) (by decide) (by decide) (by decide) (by decide)).trans (hFvy37 34 (by decide) (by decide))))))
                  have hey2478 : Fvy2384 35 = Fvy2384 35 := rfl
                  have hey2479 : Fvy2384 36 = Fvy2384 36 := rfl
                  have hey2480 : Fvy2384 37 = Fvy2384 37 := rfl
                  have hey2481 : Fvy2384 38 = 0 := ((hFvy2384 38 (by decide) (by decide) (by decide) (by decide) (by decide)).trans hxvy1759)
                  have hrdy2482 : RD Fvy2384 := by unfold RD; omega
                  have hgy2483 := (hfvy2384 (i + 13) (ne_o (i := i) (c := 13) (d := 0) rfl)).trans hgy2383
                  have hey2485 : Fvy2384 38 = 0 := ((hFvy2384 38 (by decide) (by decide) (by decide) (by decide) (by decide)).trans hxvy1759)
                  have hey2486 : Fvy2384 35 = Fvy2384 35 := rfl
                  refine z_cV (As := [.int (zI (1)), .int (zI (50))]) (rest := [.int (zI (F 48)), .ref (ad (i + 21))]) (ci := 12) C (c_X10_number l D A cs tt N ad _ i hN _ hcvy2384 _ hgy2483 htp hrdy2482 (1) (by omega) (50) (by omega)) (by omega) hay1 hcvy2384 rfl rfl mv_yX10_number q_1682 hd_yX10_number (by decide) (Nat.le_of_ble_eq_true rfl) (by decide) dX10_hour1_193 rfl (kI0 fun vy2484 gvy2484 hvy2484 => ?_)
                  obtain ⟨hrvy2484, ⟨Fvy2484, hcvy2484, hdvy2484, hlvy2484, hsvy2484, hFvy2484⟩, hfvy2484⟩ := hvy2484
                  have h32vy2484 : Fvy2384 32 = Fvy2384 32 := rfl
                  have h34vy2484 : Fvy2484 34 = F 34 := (hFvy2484 34 (by decide) (by decide) (by decide) (by decide) (by decide) (by decide) (by decide)).trans (((hFvy2384 34 (by decide) (by decide) (by decide) (by decide) (by decide)).trans ((hFvy1759 34 (by decide) (by decide) (by decide) (by decide) (by decide) (by decide) (by decide)).trans ((hFvy1749 34 (by decide) (by decide) (by decide) (by decide) (by decide)).trans ((hFvy47 34 (by decide) (by decide) (by decide) (by decide) (by decide)).trans (hFvy37 34 (by decide) (by decide)))))))
                  obtain ⟨d32vy2484, d33vy2484, d35vy2484, d36vy2484, d2vy2484, d37vy2484, d38vy2484⟩ := id hdvy2484
                  have hgy2487 := up_n egy2366 hgy1791 (ne_o (i := i) (c := 21) (d := 20) rfl)
                  have hgy2488 := (hfvy2384 (i + 21) (ne_o (i := i) (c := 21) (d := 0) rfl)).trans hgy2487
                  have hgy2489 := (hfvy2484 (i + 21) (ne_o (i := i) (c := 21) (d := 0) rfl)).trans hgy2488
                  refine z_iast C (by omega) hay8 hgy2489 ((F 48).toNat) (by omega) (by omega) (by decide) dX10_hour1_196 (fun gy2490 egy2491 => ?_)
                  have hgy2492 := up_s egy2491
                  obtain ⟨ry2493, hvy2494⟩ : ∃ rZ9 : Nat → Int, rZ9 = uZ ry1792 ((F 48).toNat) (vy2484) := ⟨_, rfl⟩
                  rw [← hvy2494] at hgy2492
                  refine z_aload_n C 2 dX10_hour1_197 rfl ?_
                  refine z_dup C dX10_hour1_198 rfl ?_
                  have hgy2495 := up_n egy2491 hcvy2484 (ne_o (i := i) (c := 0) (d := 21) rfl)
                  refine z_get (v := .int (zI (F 48))) C (by omega) hay1 hgy2495 rfl inA_X10 48 (by decide) q_1507 rfl (fv (F := Fvy2484) (f := 48) ((hFvy2484 48 (by decide) (by decide) (by decide) (by decide) (by decide) (by decide) (by decide)).trans ((hFvy2384 48 (by decide) (by decide) (by decide) (by decide) (by decide)).trans ((hFvy1759 48 (by decide) (by decide) (by decide) (by decide) (by decide) (by decide) (by decide)).trans ((hFvy1749 48 (by decide) (by decide) (by decide) (by decide) (by decide)).trans ((hFvy47 48 (by decide) (by decide) (by decide) (by decide) (by decide)).trans (hFvy37 48 (by decide) (by decide)))))))) dX10_hour1_199 ?_
                  refine z_iconst (z := 1) C dX10_hour1_202 rfl ?_
                  refine z_iadd C dX10_hour1_203 ?_
                  refine z_put (fs' := mF ad (i) (uZ Fvy2484 48 ((F 48) + 1))) C (by omega) hay1 hgy2495 tyX10 tyX10_ok nmX10 rfl inA_X10 48 (by decide) q_1507 rfl rfl rfl rfl (Nat.le_of_ble_eq_true rfl) rfl dX10_hour1_204 (fun gy2496 egy2497 => ?_)
                  have hgy2498 := up_s egy2497
                  have hFy2499 : ∀ f, f ≠ 24 → f ≠ 32 → f ≠ 33 → f ≠ 35 → f ≠ 36 → f ≠ 37 → f ≠ 38 → f ≠ 47 → f ≠ 48 → f ≠ 49 → (uZ Fvy2484 48 ((F 48) + 1)) f = F f := fun f n24 n32 n33 n35 n36 n37 n38 n47 n48 n49 => ((uZ_n _ _ n48).trans ((hFvy2484 f n24 n32 n33 n35 n36 n37 n38).trans ((hFvy2384 f n32 n33 n35 n36 n37).trans ((hFvy1759 f n24 n32 n33 n35 n36 n37 n38).trans ((hFvy1749 f n32 n33 n35 n36 n37).trans ((hFvy47 f n32 n33 n35 n36 n37).trans (hFvy37 f n24 n38)))))))
                  have hey2500 : (uZ Fvy2484 48 ((F 48) + 1)) 32 = Fvy2484 32 := (fn rfl (by decide))
                  have hey2501 : (uZ Fvy2484 48 ((F 48) + 1)) 33 = Fvy2484 33 := (fn rfl (by decide))
                  have hey2502 : (uZ Fvy2484 48 ((F 48) + 1)) 34 = F 34 := (fn ((hFvy2484 34 (by decide) (by decide) (by decide) (by decide) (by decide) (by decide) (by decide)).trans ((hFvy2384 34 (by decide) (by decide) (by decide) (by decide) (by decide)).trans ((hFvy1759 34 (by decide) (by decide) (by decide) (by decide) (by decide) (by decide) (by decide)).trans ((hFvy1749 34 (by decide) (by decide) (by decide) (by decide) (by decide)).trans ((hFvy47 34 (by decide) (by decide) (by decide) (by decide) (by decide)).trans (hFvy37 34 (by decide) (by decide))))))) (by decide))
                  have hey2503 : (uZ Fvy2484 48 ((F 48) + 1)) 35 = Fvy2484 35 := (fn rfl (by decide))
                  have hey2504 : (uZ Fvy2484 48 ((F 48) + 1)) 36 = Fvy2484 36 := (fn rfl (by decide))
                  have hey2505 : (uZ Fvy2484 48 ((F 48) + 1)) 37 = Fvy2484 37 := (fn rfl (by decide))
                  have hey2506 : (uZ Fvy2484 48 ((F 48) + 1)) 38 = Fvy2484 38 := (fn rfl (by decide))
                  have hrdy2507 : RD (uZ Fvy2484 48 ((F 48) + 1)) := by unfold RD; omega
                  have hey2508 : (uZ Fvy2484 48 ((F 48) + 1)) 32 = Fvy2484 32 := (fn rfl (by decide))
                  have hey2509 : (uZ Fvy2484 48 ((F 48) + 1)) 47 = F 47 := (fn ((hFvy2484 47 (by decide) (by decide) (by decide) (by decide) (by decide) (by decide) (by decide)).trans ((hFvy2384 47 (by decide) (by decide) (by decide) (by decide) (by decide)).trans ((hFvy1759 47 (by decide) (by decide) (by decide) (by decide) (by decide) (by decide) (by decide)).trans ((hFvy1749 47 (by decide) (by decide) (by decide) (by decide) (by decide)).trans ((hFvy47 47 (by decide) (by decide) (by decide) (by decide) (by decide)).trans (hFvy37 47 (by decide) (by decide))))))) (by decide))
                  have hey2510 : (uZ Fvy2484 48 ((F 48) + 1)) 48 = (F 48) + 1 := (uZ_s _ _ _)
                  have hey2511 : (uZ Fvy2484 48 ((F 48) + 1)) 49 = F 49 := (fn ((hFvy2484 49 (by decide) (by decide) (by decide) (by decide) (by decide) (by decide) (by decide)).trans ((hFvy2384 49 (by decide) (by decide) (by decide) (by decide) (by decide)).trans ((hFvy1759 49 (by decide) (by decide) (by decide) (by decide) (by decide) (by decide) (by decide)).trans ((hFvy1749 49 (by decide) (by decide) (by decide) (by decide) (by decide)).trans ((hFvy47 49 (by decide) (by decide) (by decide) (by decide) (by decide)).trans (hFvy37 49 (by decide) (by decide))))))) (by decide))
                  have hfry2513 : ∀ j, j ≠ (F 48).toNat → ry1769 j = ai1 j := fun j n0 => (congrFun hvy1770 _).trans ((uZ_n _ _ n0).trans (rfl))
                  have hwy2514 : ry1769 ((F 48).toNat) = -(vy1759) := (congrFun hvy1770 _).trans (uZ_s _ _ _)
                  have haky2512 : ∀ k, k < 24 → -300 ≤ ry1769 k ∧ ry1769 k ≤ 100 := by
                    intro k hk
                    by_cases e : k = (F 48).toNat
                    · subst e; have hk0 := hai1 ((F 48).toNat) (by omega); omega
                    · have hk0 := hai1 k hk; rw [hfry2513 k e]; exact hk0
                  have hfry2516 : ∀ j, j ≠ (F 48).toNat → ry2368 j = fa1 j := fun j n0 => (congrFun hvy2369 _).trans ((uZ_n _ _ n0).trans ((congrFun hvy1781 _).trans ((uZ_n _ _ n0).trans (rfl))))
                  have hfry2517 : ∀ j, j ≠ (F 48).toNat → ry2493 j = mu1 j := fun j n0 => (congrFun hvy2494 _).trans ((uZ_n _ _ n0).trans ((congrFun hvy1793 _).trans ((uZ_n _ _ n0).trans (rfl))))
                  have hwy2518 : ry2368 ((F 48).toNat) = ((Fvy1759 37) - 3) + 1 := (congrFun hvy2369 _).trans (uZ_s _ _ _)
                  have hwy2519 : ry2493 ((F 48).toNat) = vy2484 := (congrFun hvy2494 _).trans (uZ_s _ _ _)
                  have haky2515 : ∀ k, k < 24 → (0 ≤ ry2368 k ∧ ry2368 k ≤ 3) ∧ (0 ≤ ry2493 k ∧ ry2493 k ≤ 50) ∧ (ry2368 k = 1 ∨ ry2368 k = 2 → 1 ≤ ry2493 k) := by
                    intro k hk
                    by_cases e : k = (F 48).toNat
                    · subst e; have hk0 := hfa1 ((F 48).toNat) (by omega); omega
                    · have hk0 := hfa1 k hk; rw [hfry2516 k e]; rw [hfry2517 k e]; exact hk0
                  have hlay2520 : ∀ s l : Nat, (s : Int) < (uZ Fvy2484 48 ((F 48) + 1)) 47 → (l : Int) < mn1 s → lyT ly1 (84 * s + 7 * l) := fun s l a1 a2 => hly1 s l (by omega) a2
                  have hgy2521 := (hfvy37 (i + 16) (ne_o (i := i) (c := 16) (d := 0) rfl)).trans ha16
                  have hgy2522 := (hfvy47 (i + 16) (ne_o (i := i) (c := 16) (d := 0) rfl)).trans hgy2521
                  have hgy2523 := (hfvy1749 (i + 16) (ne_o (i := i) (c := 16) (d := 0) rfl)).trans hgy2522
                  have hgy2524 := (hfvy1759 (i + 16) (ne_o (i := i) (c := 16) (d := 0) rfl)).trans hgy2523
                  have hgy2525 := up_n egy1767 hgy2524 (ne_o (i := i) (c := 16) (d := 19) rfl)
                  have hgy2526 := up_n egy1778 hgy2525 (ne_o (i := i) (c := 16) (d := 20) rfl)
                  have hgy2527 := up_n egy1790 hgy2526 (ne_o (i := i) (c := 16) (d := 21) rfl)
                  have hgy2528 := up_n egy2366 hgy2527 (ne_o (i := i) (c := 16) (d := 20) rfl)
                  have hgy2529 := (hfvy2384 (i + 16) (ne_o (i := i) (c := 16) (d := 0) rfl)).trans hgy2528
                  have hgy2530 := (hfvy2484 (i + 16) (ne_o (i := i) (c := 16) (d := 0) rfl)).trans hgy2529
                  have hgy2531 := up_n egy2491 hgy2530 (ne_o (i := i) (c := 16) (d := 21) rfl)
                  have hgy2532 := up_n egy2497 hgy2531 (ne_o (i := i) (c := 16) (d := 0) rfl)
                  have hgy2533 := (hfvy37 (i + 17) (ne_o (i := i) (c := 17) (d := 0) rfl)).trans ha17
                  have hgy2534 := (hfvy47 (i + 17) (ne_o (i := i) (c := 17) (d := 0) rfl)).trans hgy2533
                  have hgy2535 := (hfvy1749 (i + 17) (ne_o (i := i) (c := 17) (d := 0) rfl)).trans hgy2534
                  have hgy2536 := (hfvy1759 (i + 17) (ne_o (i := i) (c := 17) (d := 0) rfl)).trans hgy2535
                  have hgy2537 := up_n egy1767 hgy2536 (ne_o (i := i) (c := 17) (d := 19) rfl)
                  have hgy2538 := up_n egy1778 hgy2537 (ne_o (i := i) (c := 17) (d := 20) rfl)
                  have hgy2539 := up_n egy1790 hgy2538 (ne_o (i := i) (c := 17) (d := 21) rfl)
                  have hgy2540 := up_n egy2366 hgy2539 (ne_o (i := i) (c := 17) (d := 20) rfl)
                  have hgy2541 := (hfvy2384 (i + 17) (ne_o (i := i) (c := 17) (d := 0) rfl)).trans hgy2540
                  have hgy2542 := (hfvy2484 (i + 17) (ne_o (i := i) (c := 17) (d := 0) rfl)).trans hgy2541
                  have hgy2543 := up_n egy2491 hgy2542 (ne_o (i := i) (c := 17) (d := 21) rfl)
                  have hgy2544 := up_n egy2497 hgy2543 (ne_o (i := i) (c := 17) (d := 0) rfl)
                  have hgy2545 := (hfvy37 (i + 18) (ne_o (i := i) (c := 18) (d := 0) rfl)).trans ha18
                  have hgy2546 := (hfvy47 (i + 18) (ne_o (i := i) (c := 18) (d := 0) rfl)).trans hgy2545
                  have hgy2547 := (hfvy1749 (i + 18) (ne_o (i := i) (c := 18) (d := 0) rfl)).trans hgy2546
                  have hgy2548 := (hfvy1759 (i + 18) (ne_o (i := i) (c := 18) (d := 0) rfl)).trans hgy2547
                  have hgy2549 := up_n egy1767 hgy2548 (ne_o (i := i) (c := 18) (d := 19) rfl)
                  have hgy2550 := up_n egy1778 hgy2549 (ne_o (i := i) (c := 18) (d := 20) rfl)
                  have hgy2551 := up_n egy1790 hgy2550 (ne_o (i := i) (c := 18) (d := 21) rfl)
                  have hgy2552 := up_n egy2366 hgy2551 (ne_o (i := i) (c := 18) (d := 20) rfl)
                  have hgy2553 := (hfvy2384 (i + 18) (ne_o (i := i) (c := 18) (d := 0) rfl)).trans hgy2552
                  have hgy2554 := (hfvy2484 (i + 18) (ne_o (i := i) (c := 18) (d := 0) rfl)).trans hgy2553
                  have hgy2555 := up_n egy2491 hgy2554 (ne_o (i := i) (c := 18) (d := 21) rfl)
                  have hgy2556 := up_n egy2497 hgy2555 (ne_o (i := i) (c := 18) (d := 0) rfl)
                  have hgy2557 := up_n egy1778 hgy1768 (ne_o (i := i) (c := 19) (d := 20) rfl)
                  have hgy2558 := up_n egy1790 hgy2557 (ne_o (i := i) (c := 19) (d := 21) rfl)
                  have hgy2559 := up_n egy2366 hgy2558 (ne_o (i := i) (c := 19) (d := 20) rfl)
                  have hgy2560 := (hfvy2384 (i + 19) (ne_o (i := i) (c := 19) (d := 0) rfl)).trans hgy2559
                  have hgy2561 := (hfvy2484 (i + 19) (ne_o (i := i) (c := 19) (d := 0) rfl)).trans hgy2560
                  have hgy2562 := up_n egy2491 hgy2561 (ne_o (i := i) (c := 19) (d := 21) rfl)
                  have hgy2563 := up_n egy2497 hgy2562 (ne_o (i := i) (c := 19) (d := 0) rfl)
                  have hgy2564 := (hfvy2484 (i + 20) (ne_o (i := i) (c := 20) (d := 0) rfl)).trans hgy2385
                  have hgy2565 := up_n egy2491 hgy2564 (ne_o (i := i) (c := 20) (d := 21) rfl)
                  have hgy2566 := up_n egy2497 hgy2565 (ne_o (i := i) (c := 20) (d := 0) rfl)
                  have hgy2567 := up_n egy2497 hgy2492 (ne_o (i := i) (c := 21) (d := 0) rfl)
                  have hgy2568 := (hfvy37 (i + 22) (ne_o (i := i) (c := 22) (d := 0) rfl)).trans ha22
                  have hgy2569 := (hfvy47 (i + 22) (ne_o (i := i) (c := 22) (d := 0) rfl)).trans hgy2568
                  have hgy2570 := (hfvy1749 (i + 22) (ne_o (i := i) (c := 22) (d := 0) rfl)).trans hgy2569
                  have hgy2571 := (hfvy1759 (i + 22) (ne_o (i := i) (c := 22) (d := 0) rfl)).trans hgy2570
                  have hgy2572 := up_n egy1767 hgy2571 (ne_o (i := i) (c := 22) (d := 19) rfl)
                  have hgy2573 := up_n egy1778 hgy2572 (ne_o (i := i) (c := 22) (d := 20) rfl)
                  have hgy2574 := up_n egy1790 hgy2573 (ne_o (i := i) (c := 22) (d := 21) rfl)
                  have hgy2575 := up_n egy2366 hgy2574 (ne_o (i := i) (c := 22) (d := 20) rfl)
                  have hgy2576 := (hfvy2384 (i + 22) (ne_o (i := i) (c := 22) (d := 0) rfl)).trans hgy2575
                  have hgy2577 := (hfvy2484 (i + 22) (ne_o (i := i) (c := 22) (d := 0) rfl)).trans hgy2576
                  have hgy2578 := up_n egy2491 hgy2577 (ne_o (i := i) (c := 22) (d := 21) rfl)
                  have hgy2579 := up_n egy2497 hgy2578 (ne_o (i := i) (c := 22) (d := 0) rfl)
                  have hgy2580 := (hfvy37 (i + 23) (ne_o (i := i) (c := 23) (d := 0) rfl)).trans ha23
                  have hgy2581 := (hfvy47 (i + 23) (ne_o (i := i) (c := 23) (d := 0) rfl)).trans hgy2580
                  have hgy2582 := (hfvy1749 (i + 23) (ne_o (i := i) (c := 23) (d := 0) rfl)).trans hgy2581
                  have hgy2583 := (hfvy1759 (i + 23) (ne_o (i := i) (c := 23) (d := 0) rfl)).trans hgy2582
                  have hgy2584 := up_n egy1767 hgy2583 (ne_o (i := i) (c := 23) (d := 19) rfl)
                  have hgy2585 := up_n egy1778 hgy2584 (ne_o (i := i) (c := 23) (d := 20) rfl)
                  have hgy2586 := up_n egy1790 hgy2585 (ne_o (i := i) (c := 23) (d := 21) rfl)
                  have hgy2587 := up_n egy2366 hgy2586 (ne_o (i := i) (c := 23) (d := 20) rfl)
                  have hgy2588 := (hfvy2384 (i + 23) (ne_o (i := i) (c := 23) (d := 0) rfl)).trans hgy2587
                  have hgy2589 := (hfvy2484 (i + 23) (ne_o (i := i) (c := 23) (d := 0) rfl)).trans hgy2588
                  have hgy2590 := up_n egy2491 hgy2589 (ne_o (i := i) (c := 23) (d := 21) rfl)
                  have hgy2591 := up_n egy2497 hgy2590 (ne_o (i := i) (c := 23) (d := 0) rfl)
                  have htxy2592 : okTx cs gy2496 i (uZ Fvy2484 48 ((F 48) + 1)) := ⟨_, _, _, _, _, _, _, _, ⟨hgy2532, hgy2544, hgy2556, hgy2563, hgy2566, hgy2567, hgy2579, hgy2591⟩, ⟨⟨by omega, by omega, by omega⟩, hop1, hmn1, haky2512, haky2515, htb1, hlay2520⟩⟩
                  exact z_vret C hr hlk dX10_hour1_207 (by decide) (by decide) ⟨rfl, rfl, rfl, ⟨_, hgy2498, hrdy2507, by omega, by omega, hFy2499, htxy2592⟩, fun j j1 j2 => by rw [egy2497, va_up_ne _ _ (by omega)]; rw [egy2491, va_up_ne _ _ (by omega)]; rw [hfvy2484 _ (by omega)]; rw [hfvy2384 _ (by omega)]; rw [egy2366, va_up_ne _ _ (by omega)]; rw [egy1790, va_up_ne _ _ (by omega)]; rw [egy1778, va_up_ne _ _ (by omega)]; rw [egy1767, va_up_ne _ _ (by omega)]; rw [hfvy1759 _ (by omega)]; rw [hfvy1749 _ (by omega)]; rw [hfvy47 _ (by omega)]; rw [hfvy37 _ (by omega)]⟩
        · refine z_istore_n (lv' := [(2, .int (zI (vy1759))), (1, .int (zI (1))), (0, .ref (ad i))]) C dX10_hour1_75 rfl (by decide) rfl ?_
          refine z_aload_n C 2 dX10_hour1_76 rfl ?_
          refine z_get (v := .int (zI (Fvy1759 38))) C (by omega) hay1 hcvy1759 rfl inA_X10 38 (by decide) q_1497 rfl (fv (F := Fvy1759) (f := 38) rfl) dX10_hour1_77 ?_
          refine z_if_eq (tgt := 84) C dX10_hour1_80 (by decide) (by omega) (fun h => absurd h (by omega)) (fun _ => ?_)
          have hFy2593 : ∀ f, f ≠ 24 → f ≠ 32 → f ≠ 33 → f ≠ 35 → f ≠ 36 → f ≠ 37 → f ≠ 38 → f ≠ 47 → f ≠ 48 → f ≠ 49 → Fvy1759 f = F f := fun f n24 n32 n33 n35 n36 n37 n38 n47 n48 n49 => ((hFvy1759 f n24 n32 n33 n35 n36 n37 n38).trans ((hFvy1749 f n32 n33 n35 n36 n37).trans ((hFvy47 f n32 n33 n35 n36 n37).trans (hFvy37 f n24 n38))))
          have hey2594 : Fvy1759 32 = Fvy1759 32 := rfl
          have hey2595 : Fvy1759 33 = Fvy1759 33 := rfl
          have hey2596 : Fvy1759 34 = F 34 := ((hFvy1759 34 (by decide) (by decide) (by decide) (by decide) (by decide) (by decide) (by decide)).trans ((hFvy1749 34 (by decide) (by decide) (by decide) (by decide) (by decide)).trans ((hFvy47 34 (by decide) (by decide) (by decide) (by decide) (by decide)).trans (hFvy37 34 (by decide) (by decide)))))
          have hey2597 : Fvy1759 35 = Fvy1759 35 := rfl
          have hey2598 : Fvy1759 36 = Fvy1759 36 := rfl
          have hey2599 : Fvy1759 37 = Fvy1759 37 := rfl
          have hey2600 : Fvy1759 38 = Fvy1759 38 := rfl
          have hrdy2601 : RD Fvy1759 := by unfold RD; omega
          have hey2602 : Fvy1759 32 = Fvy1759 32 := rfl
          have hey2603 : Fvy1759 47 = F 47 := ((hFvy1759 47 (by decide) (by decide) (by decide) (by decide) (by decide) (by decide) (by decide)).trans ((hFvy1749 47 (by decide) (by decide) (by decide) (by decide) (by decide)).trans ((hFvy47 47 (by decide) (by decide) (by decide) (by decide) (by decide)).trans (hFvy37 47 (by decide) (by decide)))))
          have hey2604 : Fvy1759 48 = F 48 := ((hFvy1759 48 (by decide) (by decide) (by decide) (by decide) (by decide) (by decide) (by decide)).trans ((hFvy1749 48 (by decide) (by decide) (by decide) (by decide) (by decide)).trans ((hFvy47 48 (by decide) (by decide) (by decide) (by decide) (by decide)).trans (hFvy37 48 (by decide) (by decide)))))
          have hey2605 : Fvy1759 49 = F 49 := ((hFvy1759 49 (by decide) (by decide) (by decide) (by decide) (by decide) (by decide) (by decide)).trans ((hFvy1749 49 (by decide) (by decide) (by decide) (by decide) (by decide)).trans ((hFvy47 49 (by decide) (by decide) (by decide) (by decide) (by decide)).trans (hFvy37 49 (by decide) (by decide)))))
          have hlay2607 : ∀ s l : Nat, (s : Int) < Fvy1759 47 → (l : Int) < mn1 s → lyT ly1 (84 * s + 7 * l) := fun s l a1 a2 => hly1 s l (by omega) a2
          have hgy2608 := (hfvy37 (i + 16) (ne_o (i := i) (c := 16) (d := 0) rfl)).trans ha16
          have hgy2609 := (hfvy47 (i + 16) (ne_o (i := i) (c := 16) (d := 0) rfl)).trans hgy2608
          have hgy2610 := (hfvy1749 (i + 16) (ne_o (i := i) (c := 16) (d := 0) rfl)).trans hgy2609
          have hgy2611 := (hfvy1759 (i + 16) (ne_o (i := i) (c := 16) (d := 0) rfl)).trans hgy2610
          have hgy2612 := (hfvy37 (i + 17) (ne_o (i := i) (c := 17) (d := 0) rfl)).trans ha17
          have hgy2613 := (hfvy47 (i + 17) (ne_o (i := i) (c := 17) (d := 0) rfl)).trans hgy2612
          have hgy2614 := (hfvy1749 (i + 17) (ne_o (i := i) (c := 17) (d := 0) rfl)).trans hgy2613
          have hgy2615 := (hfvy1759 (i + 17) (ne_o (i := i) (c := 17) (d := 0) rfl)).trans hgy2614
          have hgy2616 := (hfvy37 (i + 18) (ne_o (i := i) (c := 18) (d := 0) rfl)).trans ha18
          have hgy2617 := (hfvy47 (i + 18) (ne_o (i := i) (c := 18) (d := 0) rfl)).trans hgy2616
          have hgy2618 := (hfvy1749 (i + 18) (ne_o (i := i) (c := 18) (d := 0) rfl)).trans hgy2617
          have hgy2619 := (hfvy1759 (i + 18) (ne_o (i := i) (c := 18) (d := 0) rfl)).trans hgy2618
          have hgy2620 := (hfvy37 (i + 19) (ne_o (i := i) (c := 19) (d := 0) rfl)).trans ha19
          have hgy2621 := (hfvy47 (i + 19) (ne_o (i := i) (c := 19) (d := 0) rfl)).trans hgy2620
          have hgy2622 := (hfvy1749 (i + 19) (ne_o (i := i) (c := 19) (d := 0) rfl)).trans hgy2621
          have hgy2623 := (hfvy1759 (i + 19) (ne_o (i := i) (c := 19) (d := 0) rfl)).trans hgy2622
          have hgy2624 := (hfvy37 (i + 20) (ne_o (i := i) (c := 20) (d := 0) rfl)).trans ha20
          have hgy2625 := (hfvy47 (i + 20) (ne_o (i := i) (c := 20) (d := 0) rfl)).trans hgy2624
          have hgy2626 := (hfvy1749 (i + 20) (ne_o (i := i) (c := 20) (d := 0) rfl)).trans hgy2625
          have hgy2627 := (hfvy1759 (i + 20) (ne_o (i := i) (c := 20) (d := 0) rfl)).trans hgy2626
          have hgy2628 := (hfvy37 (i + 21) (ne_o (i := i) (c := 21) (d := 0) rfl)).trans ha21
          have hgy2629 := (hfvy47 (i + 21) (ne_o (i := i) (c := 21) (d := 0) rfl)).trans hgy2628
          have hgy2630 := (hfvy1749 (i + 21) (ne_o (i := i) (c := 21) (d := 0) rfl)).trans hgy2629
          have hgy2631 := (hfvy1759 (i + 21) (ne_o (i := i) (c := 21) (d := 0) rfl)).trans hgy2630
          have hgy2632 := (hfvy37 (i + 22) (ne_o (i := i) (c := 22) (d := 0) rfl)).trans ha22
          have hgy2633 := (hfvy47 (i + 22) (ne_o (i := i) (c := 22) (d := 0) rfl)).trans hgy2632
          have hgy2634 := (hfvy1749 (i + 22) (ne_o (i := i) (c := 22) (d := 0) rfl)).trans hgy2633
          have hgy2635 := (hfvy1759 (i + 22) (ne_o (i := i) (c := 22) (d := 0) rfl)).trans hgy2634
          have hgy2636 := (hfvy37 (i + 23) (ne_o (i := i) (c := 23) (d := 0) rfl)).trans ha23
          have hgy2637 := (hfvy47 (i + 23) (ne_o (i := i) (c := 23) (d := 0) rfl)).trans hgy2636
          have hgy2638 := (hfvy1749 (i + 23) (ne_o (i := i) (c := 23) (d := 0) rfl)).trans hgy2637
          have hgy2639 := (hfvy1759 (i + 23) (ne_o (i := i) (c := 23) (d := 0) rfl)).trans hgy2638
          have htxy2640 : okTx cs gvy1759 i Fvy1759 := ⟨_, _, _, _, _, _, _, _, ⟨hgy2611, hgy2615, hgy2619, hgy2623, hgy2627, hgy2631, hgy2635, hgy2639⟩, ⟨⟨by omega, by omega, by omega⟩, hop1, hmn1, hai1, hfa1, htb1, hlay2607⟩⟩
          exact z_vret C hr hlk dX10_hour1_83 (by decide) (by decide) ⟨rfl, rfl, rfl, ⟨_, hcvy1759, hrdy2601, by omega, by omega, hFy2593, htxy2640⟩, fun j j1 j2 => by rw [hfvy1759 _ (by omega)]; rw [hfvy1749 _ (by omega)]; rw [hfvy47 _ (by omega)]; rw [hfvy37 _ (by omega)]⟩

set_option maxRecDepth 100000 in
set_option maxHeartbeats 4000000 in
theorem c_X10_table1 (l : Launch) (D : va_G) (A : Nat → Prop) (cs : Nat → ClassId) (tt : Nat) (N : Nat) (ad : Nat → Nat) (g : Nat → va_E) (i : Nat) (hN : i + 30 ≤ N) (F : Nat → Int) (hg : g i = mC ad i F) (tp : Nat → Int) (ha13 : g (i + 13) = iA cs 900 tp) (htp : ∀ k, k < 900 → 0 ≤ tp k ∧ tp k ≤ 255) (hRD : RD F) (h38 : F 38 = 0) (hTx : okTx cs g i F) (h37 : 6 ≤ F 37 ∧ F 37 ≤ 8) : zM l yX10_table1 cX10_table1 3 none ({ frames := 5, cells := 0, slots := 0, locals := 300 } : Room) D A cs tt N ad g [.ref (ad i)] (rV0 N ad fun g' => (∃ F' : Nat → Int, g' i = mC ad i F' ∧ RD F' ∧ F 32 ≤ F' 32 ∧ (F' 38 = 0 → F' 35 ≠ 0 → F 32 < F' 32) ∧ (∀ f, f ≠ 24 → f ≠ 32 → f ≠ 33 → f ≠ 35 → f ≠ 36 → f ≠ 37 → f ≠ 38 → f ≠ 47 → f ≠ 48 → f ≠ 49 → F' f = F f) ∧ okTx cs g' i F') ∧ ∀ j, j ≠ i → j < i + 16 ∨ i + 23 < j → g' j = g j) := by
  have hay1 : zAt ad (i) (ad i) := rfl
  have hay2 : zAt ad (i + 13) (ad (i + 13)) := rfl
  obtain ⟨d32, d33, d35, d36, d2, d37, d38⟩ := id hRD
  obtain ⟨st1, op1, mn1, ai1, fa1, mu1, tb1, ly1, ⟨ha16, ha17, ha18, ha19, ha20, ha21, ha22, ha23⟩, ⟨⟨t47, t48, t49⟩, hop1, hmn1, hai1, hfa1, htb1, hly1⟩⟩ := id hTx
  have hay3 : zAt ad (i + 16) (ad (i + 16)) := rfl
  have hay4 : zAt ad (i + 17) (ad (i + 17)) := rfl
  have hay5 : zAt ad (i + 18) (ad (i + 18)) := rfl
  have hay6 : zAt ad (i + 19) (ad (i + 19)) := rfl
  have hay7 : zAt ad (i + 20) (ad (i + 20)) := rfl
  have hay8 : zAt ad (i + 21) (ad (i + 21)) := rfl
  have hay9 : zAt ad (i + 22) (ad (i + 22)) := rfl
  have hay10 : zAt ad (i + 23) (ad (i + 23)) := rfl
  refine z_of (by decide) (Nat.le_of_ble_eq_true rfl) ?_
  intro pZ eZ sZ mZ below meth cZ C hr hlk hnm
  refine z_lv (lv' := [(0, .ref (ad i))]) [0] rfl ?_
  refine z_aload_n C 0 dX10_table1_0 rfl ?_
  refine z_get (v := .int (zI (F 37))) C (by omega) hay1 hg rfl inA_X10 37 (by decide) q_1496 rfl (fv (F := F) (f := 37) rfl) dX10_table1_1 ?_
  refine z_bipush (z := 6) C dX10_table1_4 (by decide) ?_
  refine z_isub C dX10_table1_6 ?_
  refine z_istore_n (lv' := [(1, .int (zI ((F 37) - 6))), (0, .ref (ad i))]) C dX10_table1_7 rfl (by decide) rfl ?_
  refine z_aload_n C 1 dX10_table1_8 rfl ?_
  have hey11 : F 32 = F 32 := rfl
  have hey12 : F 33 = F 33 := rfl
  have hey13 : F 34 = F 34 := rfl
  have hey14 : F 35 = F 35 := rfl
  have hey15 : F 36 = F 36 := rfl
  have hey16 : F 37 = F 37 := rfl
  have hey17 : F 38 = 0 := h38
  have hrdy18 : RD F := by unfold RD; omega
  refine z_cV (As := []) (rest := []) (ci := 12) C (c_X10_go l D A cs tt N ad _ i hN _ hg _ ha13 htp hrdy18) (by omega) hay1 hg rfl rfl mv_yX10_go q_1652 hd_yX10_go (by decide) (Nat.le_of_ble_eq_true rfl) (by decide) dX10_table1_9 rfl (kV0 fun gvy19 hvy19 => ?_)
  obtain ⟨⟨Fvy19, hcvy19, hdvy19, hlvy19, hsvy19, hFvy19⟩, hfvy19⟩ := hvy19
  have h32vy19 : F 32 = F 32 := rfl
  have h34vy19 : Fvy19 34 = F 34 := (hFvy19 34 (by decide) (by decide) (by decide) (by decide) (by decide)).trans (rfl)
  obtain ⟨d32vy19, d33vy19, d35vy19, d36vy19, d2vy19, d37vy19, d38vy19⟩ := id hdvy19
  have h38vy19 : Fvy19 38 = 0 := ((hFvy19 38 (by decide) (by decide) (by decide) (by decide) (by decide)).trans h38)
  refine z_aload_n C 1 dX10_table1_12 rfl ?_
  refine z_aload_n C 1 dX10_table1_13 rfl ?_
  have hey20 : Fvy19 32 = Fvy19 32 := rfl
  have hey21 : Fvy19 33 = Fvy19 33 := rfl
  have hey22 : Fvy19 34 = F 34 := (hFvy19 34 (by decide) (by decide) (by decide) (by decide) (by decide))
  have hey23 : Fvy19 35 = Fvy19 35 := rfl
  have hey24 : Fvy19 36 = Fvy19 36 := rfl
  have hey25 : Fvy19 37 = Fvy19 37 := rfl
  have hey26 : Fvy19 38 = 0 := ((hFvy19 38 (by decide) (by decide) (by decide) (by decide) (by decide)).trans h38)
  have hrdy27 : RD Fvy19 := by unfold RD; omega
  have hey29 : Fvy19 35 = Fvy19 35 := rfl
  have hey30 : Fvy19 37 = Fvy19 37 := rfl
  refine z_cV (As := []) (rest := [.ref (ad i)]) (ci := 12) C (c_X10_isKind l D A cs tt N ad _ i hN _ hcvy19 hrdy27 ) (by omega) hay1 hcvy19 rfl rfl mv_yX10_isKind q_1693 hd_yX10_isKind (by decide) (Nat.le_of_ble_eq_true rfl) (by decide) dX10_table1_14 rfl (kI0 fun vy28 gvy28 hvy28 => ?_)
  rw [hey29, hey30] at hvy28
  obtain ⟨hrvy28, hqvy28, rfl⟩ := hvy28
  refine z_iconst (z := 1) C dX10_table1_17 rfl ?_
  have h38vy31 : Fvy19 38 = 0 := ((hFvy19 38 (by decide) (by decide) (by decide) (by decide) (by decide)).trans h38)
  refine z_cV (As := [.int (zI (vy28)), .int (zI (1))]) (rest := []) (ci := 12) C (c_X10_wants l D A cs tt N ad _ i hN _ hcvy19 (by omega) (vy28) (by omega) (1) (by omega)) (by omega) hay1 hcvy19 rfl rfl mv_yX10_wants q_1678 hd_yX10_wants (by decide) (Nat.le_of_ble_eq_true rfl) (by decide) dX10_table1_18 rfl (kI0 fun vy31 gvy31 hvy31 => ?_)
  obtain ⟨⟨Fvy31, hcvy31, hqvy31, hbvy31, hFvy31⟩, hfvy31⟩ := hvy31
  rcases hqvy31 with ⟨rfl, hxvy31, hyvy31, hzvy31⟩ | ⟨rfl, hxvy31, hyvy31⟩
  · have e38vy31 : Fvy31 38 = 0 := by omega
    refine z_if_ne (tgt := 25) C dX10_table1_21 (by decide) (by omega) (fun _ => ?_) (fun h => absurd h (by omega))
    refine z_iconst (z := 5) C dX10_table1_25 rfl ?_
    refine z_iload_n C 0 dX10_table1_26 rfl ?_
    refine z_imul C dX10_table1_27 ?_
    refine z_aload_n C 1 dX10_table1_28 rfl ?_
    have hey32 : Fvy31 32 = Fvy19 32 := (hFvy31 32 (by decide) (by decide))
    have hey33 : Fvy31 33 = Fvy19 33 := (hFvy31 33 (by decide) (by decide))
    have hey34 : Fvy31 34 = F 34 := ((hFvy31 34 (by decide) (by decide)).trans (hFvy19 34 (by decide) (by decide) (by decide) (by decide) (by decide)))
    have hey35 : Fvy31 35 = Fvy19 35 := (hFvy31 35 (by decide) (by decide))
    have hey36 : Fvy31 36 = Fvy19 36 := (hFvy31 36 (by decide) (by decide))
    have hey37 : Fvy31 37 = Fvy19 37 := (hFvy31 37 (by decide) (by decide))
    have hey38 : Fvy31 38 = 0 := e38vy31
    have hrdy39 : RD Fvy31 := by unfold RD; omega
    have hey41 : Fvy31 37 = Fvy19 37 := (hFvy31 37 (by decide) (by decide))
    refine z_cV (As := []) (rest := [.int (zI (5 * ((F 37) - 6)))]) (ci := 12) C (c_X10_kindHere l D A cs tt N ad _ i hN _ hcvy31 hrdy39 ) (by omega) hay1 hcvy31 rfl rfl mv_yX10_kindHere q_1697 hd_yX10_kindHere (by decide) (Nat.le_of_ble_eq_true rfl) (by decide) dX10_table1_29 rfl (kI0 fun vy40 gvy40 hvy40 => ?_)
    rw [hey41] at hvy40
    obtain ⟨hrvy40, rfl⟩ := hvy40
    refine z_iadd C dX10_table1_32 ?_
    obtain ⟨kty42, hkty42⟩ : ∃ n9 : Nat, (5 * ((F 37) - 6)) + vy40 = (n9 : Int) := ⟨((5 * ((F 37) - 6)) + vy40).toNat, by omega⟩
    rw [hkty42]
    refine z_istore_n (lv' := [(2, .int (zI ((kty42 : Int)))), (1, .int (zI ((F 37) - 6))), (0, .ref (ad i))]) C dX10_table1_33 rfl (by decide) rfl ?_
    refine z_aload_n C 2 dX10_table1_34 rfl ?_
    refine z_aload_n C 2 dX10_table1_35 rfl ?_
    refine z_get (v := .ref (ad (i + 22))) C (by omega) hay1 hcvy31 rfl inA_X10 45 (by decide) q_1504 rfl rfl dX10_table1_36 ?_
    refine z_iload_n C 0 dX10_table1_39 rfl ?_
    have hgy43 := (hfvy19 (i + 22) (ne_o (i := i) (c := 22) (d := 0) rfl)).trans ha22
    have hgy44 := (hfvy31 (i + 22) (ne_o (i := i) (c := 22) (d := 0) rfl)).trans hgy43
    refine z_iald C (by omega) hay9 hgy44 (kty42) (by omega) (by omega) (by decide) dX10_table1_40 ?_
    refine z_iconst (z := -1) C dX10_table1_41 rfl ?_
    obtain ⟨xy45, exy46, hxy47⟩ := zI_of (zI (tb1 (kty42)))
    rw [exy46]
    refine z_icmp_ne (tgt := 49) C dX10_table1_42 (by decide) (by omega) (by omega) (fun hby48 => ?_) (fun hby48 => ?_)
    · refine z_iconst (z := 0) C dX10_table1_49 rfl ?_
      refine z_iconst (z := 4) C dX10_table1_50 rfl ?_
      have h38vy49 : Fvy31 38 = 0 := e38vy31
      refine z_cV (As := [.int (zI (0)), .int (zI (4))]) (rest := []) (ci := 12) C (c_X10_wants l D A cs tt N ad _ i hN _ hcvy31 (by omega) (0) (by omega) (4) (by omega)) (by omega) hay1 hcvy31 rfl rfl mv_yX10_wants q_1678 hd_yX10_wants (by decide) (Nat.le_of_ble_eq_true rfl) (by decide) dX10_table1_51 rfl (kI0 fun vy49 gvy49 hvy49 => ?_)
      obtain ⟨⟨Fvy49, hcvy49, hqvy49, hbvy49, hFvy49⟩, hfvy49⟩ := hvy49
      obtain rfl : vy49 = 0 := by omega
      refine z_if_ne (tgt := 58) C dX10_table1_54 (by decide) (by omega) (fun h => absurd h (by omega)) (fun _ => ?_)
      have hFy50 : ∀ f, f ≠ 24 → f ≠ 32 → f ≠ 33 → f ≠ 35 → f ≠ 36 → f ≠ 37 → f ≠ 38 → f ≠ 47 → f ≠ 48 → f ≠ 49 → Fvy49 f = F f := fun f n24 n32 n33 n35 n36 n37 n38 n47 n48 n49 => ((hFvy49 f n24 n38).trans ((hFvy31 f n24 n38).trans (hFvy19 f n32 n33 n35 n36 n37)))
      have hey51 : Fvy49 32 = Fvy19 32 := ((hFvy49 32 (by decide) (by decide)).trans (hFvy31 32 (by decide) (by decide)))
      have hey52 : Fvy49 33 = Fvy19 33 := ((hFvy49 33 (by decide) (by decide)).trans (hFvy31 33 (by decide) (by decide)))
      have hey53 : Fvy49 34 = F 34 := ((hFvy49 34 (by decide) (by decide)).trans ((hFvy31 34 (by decide) (by decide)).trans (hFvy19 34 (by decide) (by decide) (by decide) (by decide) (by decide))))
      have hey54 : Fvy49 35 = Fvy19 35 := ((hFvy49 35 (by decide) (by decide)).trans (hFvy31 35 (by decide) (by decide)))
      have hey55 : Fvy49 36 = Fvy19 36 := ((hFvy49 36 (by decide) (by decide)).trans (hFvy31 36 (by decide) (by decide)))
      have hey56 : Fvy49 37 = Fvy19 37 := ((hFvy49 37 (by decide) (by decide)).trans (hFvy31 37 (by decide) (by decide)))
      have hey57 : Fvy49 38 = Fvy49 38 := rfl
      have hrdy58 : RD Fvy49 := by unfold RD; omega
      have hey59 : Fvy49 32 = Fvy19 32 := ((hFvy49 32 (by decide) (by decide)).trans (hFvy31 32 (by decide) (by decide)))
      have hey60 : Fvy49 47 = F 47 := ((hFvy49 47 (by decide) (by decide)).trans ((hFvy31 47 (by decide) (by decide)).trans (hFvy19 47 (by decide) (by decide) (by decide) (by decide) (by decide))))
      have hey61 : Fvy49 48 = F 48 := ((hFvy49 48 (by decide) (by decide)).trans ((hFvy31 48 (by decide) (by decide)).trans (hFvy19 48 (by decide) (by decide) (by decide) (by decide) (by decide))))
      have hey62 : Fvy49 49 = F 49 := ((hFvy49 49 (by decide) (by decide)).trans ((hFvy31 49 (by decide) (by decide)).trans (hFvy19 49 (by decide) (by decide) (by decide) (by decide) (by decide))))
      have hlay64 : ∀ s l : Nat, (s : Int) < Fvy49 47 → (l : Int) < mn1 s → lyT ly1 (84 * s + 7 * l) := fun s l a1 a2 => hly1 s l (by omega) a2
      have hgy65 := (hfvy19 (i + 16) (ne_o (i := i) (c := 16) (d := 0) rfl)).trans ha16
      have hgy66 := (hfvy31 (i + 16) (ne_o (i := i) (c := 16) (d := 0) rfl)).trans hgy65
      have hgy67 := (hfvy49 (i + 16) (ne_o (i := i) (c := 16) (d := 0) rfl)).trans hgy66
      have hgy68 := (hfvy19 (i + 17) (ne_o (i := i) (c := 17) (d := 0) rfl)).trans ha17
      have hgy69 := (hfvy31 (i + 17) (ne_o (i := i) (c := 17) (d := 0) rfl)).trans hgy68
      have hgy70 := (hfvy49 (i + 17) (ne_o (i := i) (c := 17) (d := 0) rfl)).trans hgy69
      have hgy71 := (hfvy19 (i + 18) (ne_o (i := i) (c := 18) (d := 0) rfl)).trans ha18
      have hgy72 := (hfvy31 (i + 18) (ne_o (i := i) (c := 18) (d := 0) rfl)).trans hgy71
      have hgy73 := (hfvy49 (i + 18) (ne_o (i := i) (c := 18) (d := 0) rfl)).trans hgy72
      have hgy74 := (hfvy19 (i + 19) (ne_o (i := i) (c := 19) (d := 0) rfl)).trans ha19
      have hgy75 := (hfvy31 (i + 19) (ne_o (i := i) (c := 19) (d := 0) rfl)).trans hgy74
      have hgy76 := (hfvy49 (i + 19) (ne_o (i := i) (c := 19) (d := 0) rfl)).trans hgy75
      have hgy77 := (hfvy19 (i + 20) (ne_o (i := i) (c := 20) (d := 0) rfl)).trans ha20
      have hgy78 := (hfvy31 (i + 20) (ne_o (i := i) (c := 20) (d := 0) rfl)).trans hgy77
      have hgy79 := (hfvy49 (i + 20) (ne_o (i := i) (c := 20) (d := 0) rfl)).trans hgy78
      have hgy80 := (hfvy19 (i + 21) (ne_o (i := i) (c := 21) (d := 0) rfl)).trans ha21
      have hgy81 := (hfvy31 (i + 21) (ne_o (i := i) (c := 21) (d := 0) rfl)).trans hgy80
      have hgy82 := (hfvy49 (i + 21) (ne_o (i := i) (c := 21) (d := 0) rfl)).trans hgy81
      have hgy83 := (hfvy49 (i + 22) (ne_o (i := i) (c := 22) (d := 0) rfl)).trans hgy44
      have hgy84 := (hfvy19 (i + 23) (ne_o (i := i) (c := 23) (d := 0) rfl)).trans ha23
      have hgy85 := (hfvy31 (i + 23) (ne_o (i := i) (c := 23) (d := 0) rfl)).trans hgy84
      have hgy86 := (hfvy49 (i + 23) (ne_o (i := i) (c := 23) (d := 0) rfl)).trans hgy85
      have htxy87 : okTx cs gvy49 i Fvy49 := ⟨_, _, _, _, _, _, _, _, ⟨hgy67, hgy70, hgy73, hgy76, hgy79, hgy82, hgy83, hgy86⟩, ⟨⟨by omega, by omega, by omega⟩, hop1, hmn1, hai1, hfa1, htb1, hlay64⟩⟩
      exact z_vret C hr hlk dX10_table1_57 (by decide) (by decide) ⟨rfl, rfl, rfl, ⟨_, hcvy49, hrdy58, by omega, by omega, hFy50, htxy87⟩, fun j j1 j2 => by rw [hfvy49 _ (by omega)]; rw [hfvy31 _ (by omega)]; rw [hfvy19 _ (by omega)]⟩
    · refine z_iconst (z := 1) C dX10_table1_45 rfl ?_
      refine z_goto (tgt := 50) C dX10_table1_46 (by decide) ?_
      refine z_iconst (z := 4) C dX10_table1_50 rfl ?_
      have h38vy88 : Fvy31 38 = 0 := e38vy31
      refine z_cV (As := [.int (zI (1)), .int (zI (4))]) (rest := []) (ci := 12) C (c_X10_wants l D A cs tt N ad _ i hN _ hcvy31 (by omega) (1) (by omega) (4) (by omega)) (by omega) hay1 hcvy31 rfl rfl mv_yX10_wants q_1678 hd_yX10_wants (by decide) (Nat.le_of_ble_eq_true rfl) (by decide) dX10_table1_51 rfl (kI0 fun vy88 gvy88 hvy88 => ?_)
      obtain ⟨⟨Fvy88, hcvy88, hqvy88, hbvy88, hFvy88⟩, hfvy88⟩ := hvy88
      obtain rfl : vy88 = 1 := by omega
      have e38vy88 : Fvy88 38 = 0 := by omega
      refine z_if_ne (tgt := 58) C dX10_table1_54 (by decide) (by omega) (fun _ => ?_) (fun h => absurd h (by omega))
      refine z_aload_n C 2 dX10_table1_58 rfl ?_
      have hey89 : Fvy88 32 = Fvy19 32 := ((hFvy88 32 (by decide) (by decide)).trans (hFvy31 32 (by decide) (by decide)))
      have hey90 : Fvy88 33 = Fvy19 33 := ((hFvy88 33 (by decide) (by decide)).trans (hFvy31 33 (by decide) (by decide)))
      have hey91 : Fvy88 34 = F 34 := ((hFvy88 34 (by decide) (by decide)).trans ((hFvy31 34 (by decide) (by decide)).trans (hFvy19 34 (by decide) (by decide) (by decide) (by decide) (by decide))))
      have hey92 : Fvy88 35 = Fvy19 35 := ((hFvy88 35 (by decide) (by decide)).trans (hFvy31 35 (by decide) (by decide)))
      have hey93 : Fvy88 36 = Fvy19 36 := ((hFvy88 36 (by decide) (by decide)).trans (hFvy31 36 (by decide) (by decide)))
      have hey94 : Fvy88 37 = Fvy19 37 := ((hFvy88 37 (by decide) (by decide)).trans (hFvy31 37 (by decide) (by decide)))
      have hey95 : Fvy88 38 = 0 := e38vy88
      have hrdy96 : RD Fvy88 := by unfold RD; omega
      have hgy97 := (hfvy19 (i + 13) (ne_o (i := i) (c := 13) (d := 0) rfl)).trans ha13
      have hgy98 := (hfvy31 (i + 13) (ne_o (i := i) (c := 13) (d := 0) rfl)).trans hgy97
      have hgy99 := (hfvy88 (i + 13) (ne_o (i := i) (c := 13) (d := 0) rfl)).trans hgy98
      refine z_cV (As := []) (rest := []) (ci := 12) C (c_X10_go l D A cs tt N ad _ i hN _ hcvy88 _ hgy99 htp hrdy96) (by omega) hay1 hcvy88 rfl rfl mv_yX10_go q_1652 hd_yX10_go (by decide) (Nat.le_of_ble_eq_true rfl) (by decide) dX10_table1_59 rfl (kV0 fun gvy100 hvy100 => ?_)
      obtain ⟨⟨Fvy100, hcvy100, hdvy100, hlvy100, hsvy100, hFvy100⟩, hfvy100⟩ := hvy100
      have h32vy100 : Fvy88 32 = Fvy19 32 := ((hFvy88 32 (by decide) (by decide)).trans (hFvy31 32 (by decide) (by decide)))
      have h34vy100 : Fvy100 34 = F 34 := (hFvy100 34 (by decide) (by decide) (by decide) (by decide) (by decide)).trans (((hFvy88 34 (by decide) (by decide)).trans ((hFvy31 34 (by decide) (by decide)).trans (hFvy19 34 (by decide) (by decide) (by decide) (by decide) (by decide)))))
      obtain ⟨d32vy100, d33vy100, d35vy100, d36vy100, d2vy100, d37vy100, d38vy100⟩ := id hdvy100
      have h38vy100 : Fvy100 38 = 0 := ((hFvy100 38 (by decide) (by decide) (by decide) (by decide) (by decide)).trans e38vy88)
      refine z_aload_n C 2 dX10_table1_62 rfl ?_
      refine z_get (v := .ref (ad (i + 22))) C (by omega) hay1 hcvy100 rfl inA_X10 45 (by decide) q_1504 rfl rfl dX10_table1_63 ?_
      refine z_iload_n C 0 dX10_table1_66 rfl ?_
      refine z_aload_n C 2 dX10_table1_67 rfl ?_
      refine z_iload_n C 1 dX10_table1_68 rfl ?_
      refine z_iconst (z := 2) C dX10_table1_69 rfl ?_
      refine z_icmp_ne (tgt := 77) C dX10_table1_70 (by decide) (by omega) (by omega) (fun hby101 => ?_) (fun hby101 => ?_)
      · refine z_iconst (z := 0) C dX10_table1_77 rfl ?_
        refine z_iload_n C 1 dX10_table1_78 rfl ?_
        refine z_iconst (z := 2) C dX10_table1_79 rfl ?_
        refine z_icmp_ne (tgt := 89) C dX10_table1_80 (by decide) (by omega) (by omega) (fun hby102 => ?_) (fun hby102 => ?_)
        · refine z_bipush (z := 99) C dX10_table1_89 (by decide) ?_
          have hey103 : Fvy100 32 = Fvy100 32 := rfl
          have hey104 : Fvy100 33 = Fvy100 33 := rfl
          have hey105 : Fvy100 34 = F 34 := ((hFvy100 34 (by decide) (by decide) (by decide) (by decide) (by decide)).trans ((hFvy88 34 (by decide) (by decide)).trans ((hFvy31 34 (by decide) (by decide)).trans (hFvy19 34 (by decide) (by decide) (by decide) (by decide) (by decide)))))
          have hey106 : Fvy100 35 = Fvy100 35 := rfl
          have hey107 : Fvy100 36 = Fvy100 36 := rfl
          have hey108 : Fvy100 37 = Fvy100 37 := rfl
          have hey109 : Fvy100 38 = 0 := ((hFvy100 38 (by decide) (by decide) (by decide) (by decide) (by decide)).trans e38vy88)
          have hrdy110 : RD Fvy100 := by unfold RD; omega
          have hgy111 := (hfvy100 (i + 13) (ne_o (i := i) (c := 13) (d := 0) rfl)).trans hgy99
          have hey113 : Fvy100 38 = 0 := ((hFvy100 38 (by decide) (by decide) (by decide) (by decide) (by decide)).trans e38vy88)
          have hey114 : Fvy100 35 = Fvy100 35 := rfl
          refine z_cV (As := [.int (zI (0)), .int (zI (99))]) (rest := [.int (zI ((kty42 : Int))), .ref (ad (i + 22))]) (ci := 12) C (c_X10_number l D A cs tt N ad _ i hN _ hcvy100 _ hgy111 htp hrdy110 (0) (by omega) (99) (by omega)) (by omega) hay1 hcvy100 rfl rfl mv_yX10_number q_1682 hd_yX10_number (by decide) (Nat.le_of_ble_eq_true rfl) (by decide) dX10_table1_91 rfl (kI0 fun vy112 gvy112 hvy112 => ?_)
          obtain ⟨hrvy112, ⟨Fvy112, hcvy112, hdvy112, hlvy112, hsvy112, hFvy112⟩, hfvy112⟩ := hvy112
          have h32vy112 : Fvy100 32 = Fvy100 32 := rfl
          have h34vy112 : Fvy112 34 = F 34 := (hFvy112 34 (by decide) (by decide) (by decide) (by decide) (by decide) (by decide) (by decide)).trans (((hFvy100 34 (by decide) (by decide) (by decide) (by decide) (by decide)).trans ((hFvy88 34 (by decide) (by decide)).trans ((hFvy31 34 (by decide) (by decide)).trans (hFvy19 34 (by decide) (by decide) (by decide) (by decide) (by decide))))))
          obtain ⟨d32vy112, d33vy112, d35vy112, d36vy112, d2vy112, d37vy112, d38vy112⟩ := id hdvy112
          have hgy115 := (hfvy88 (i + 22) (ne_o (i := i) (c := 22) (d := 0) rfl)).trans hgy44
          have hgy116 := (hfvy100 (i + 22) (ne_o (i := i) (c := 22) (d := 0) rfl)).trans hgy115
          have hgy117 := (hfvy112 (i + 22) (ne_o (i := i) (c := 22) (d := 0) rfl)).trans hgy116
          refine z_iast C (by omega) hay9 hgy117 (kty42) (by omega) (by omega) (by decide) dX10_table1_94 (fun gy118 egy119 => ?_)
          have hgy120 := up_s egy119
          obtain ⟨ry121, hvy122⟩ : ∃ rZ9 : Nat → Int, rZ9 = uZ tb1 (kty42) (vy112) := ⟨_, rfl⟩
          rw [← hvy122] at hgy120
          have hgy123 := up_n egy119 hcvy112 (ne_o (i := i) (c := 0) (d := 22) rfl)
          have hFy124 : ∀ f, f ≠ 24 → f ≠ 32 → f ≠ 33 → f ≠ 35 → f ≠ 36 → f ≠ 37 → f ≠ 38 → f ≠ 47 → f ≠ 48 → f ≠ 49 → Fvy112 f = F f := fun f n24 n32 n33 n35 n36 n37 n38 n47 n48 n49 => ((hFvy112 f n24 n32 n33 n35 n36 n37 n38).trans ((hFvy100 f n32 n33 n35 n36 n37).trans ((hFvy88 f n24 n38).trans ((hFvy31 f n24 n38).trans (hFvy19 f n32 n33 n35 n36 n37)))))
          have hey125 : Fvy112 32 = Fvy112 32 := rfl
          have hey126 : Fvy112 33 = Fvy112 33 := rfl
          have hey127 : Fvy112 34 = F 34 := ((hFvy112 34 (by decide) (by decide) (by decide) (by decide) (by decide) (by decide) (by decide)).trans ((hFvy100 34 (by decide) (by decide) (by decide) (by decide) (by decide)).trans ((hFvy88 34 (by decide) (by decide)).trans ((hFvy31 34 (by decide) (by decide)).trans (hFvy19 34 (by decide) (by decide) (by decide) (by decide) (by decide))))))
          have hey128 : Fvy112 35 = Fvy112 35 := rfl
          have hey129 : Fvy112 36 = Fvy112 36 := rfl
          have hey130 : Fvy112 37 = Fvy112 37 := rfl
          have hey131 : Fvy112 38 = Fvy112 38 := rfl
          have hrdy132 : RD Fvy112 := by unfold RD; omega
          have hey133 : Fvy112 32 = Fvy112 32 := rfl
          have hey134 : Fvy112 47 = F 47 := ((hFvy112 47 (by decide) (by decide) (by decide) (by decide) (by decide) (by decide) (by decide)).trans ((hFvy100 47 (by decide) (by decide) (by decide) (by decide) (by decide)).trans ((hFvy88 47 (by decide) (by decide)).trans ((hFvy31 47 (by decide) (by decide)).trans (hFvy19 47 (by decide) (by decide) (by decide) (by decide) (by decide))))))
          have hey135 : Fvy112 48 = F 48 := ((hFvy112 48 (by decide) (by decide) (by decide) (by decide) (by decide) (by decide) (by decide)).trans ((hFvy100 48 (by decide) (by decide) (by decide) (by decide) (by decide)).trans ((hFvy88 48 (by decide) (by decide)).trans ((hFvy31 48 (by decide) (by decide)).trans (hFvy19 48 (by decide) (by decide) (by decide) (by decide) (by decide))))))
          have hey136 : Fvy112 49 = F 49 := ((hFvy112 49 (by decide) (by decide) (by decide) (by decide) (by decide) (by decide) (by decide)).trans ((hFvy100 49 (by decide) (by decide) (by decide) (by decide) (by decide)).trans ((hFvy88 49 (by decide) (by decide)).trans ((hFvy31 49 (by decide) (by decide)).trans (hFvy19 49 (by decide) (by decide) (by decide) (by decide) (by decide))))))
          have hfry139 : ∀ j, j ≠ kty42 → ry121 j = tb1 j := fun j n0 => (congrFun hvy122 _).trans ((uZ_n _ _ n0).trans (rfl))
          have hwy140 : ry121 (kty42) = vy112 := (congrFun hvy122 _).trans (uZ_s _ _ _)
          have haky138 : ∀ k, k < 15 → ry121 k = -1 ∨ ((0 ≤ ry121 k ∧ ry121 k ≤ 9999) ∧ (10 ≤ k → 1 ≤ ry121 k)) := by
            intro k hk
            by_cases e : k = kty42
            · subst e; have hk0 := htb1 (kty42) (by omega); omega
            · have hk0 := htb1 k hk; rw [hfry139 k e]; exact hk0
          have hlay141 : ∀ s l : Nat, (s : Int) < Fvy112 47 → (l : Int) < mn1 s → lyT ly1 (84 * s + 7 * l) := fun s l a1 a2 => hly1 s l (by omega) a2
          have hgy142 := (hfvy19 (i + 16) (ne_o (i := i) (c := 16) (d := 0) rfl)).trans ha16
          have hgy143 := (hfvy31 (i + 16) (ne_o (i := i) (c := 16) (d := 0) rfl)).trans hgy142
          have hgy144 := (hfvy88 (i + 16) (ne_o (i := i) (c := 16) (d := 0) rfl)).trans hgy143
          have hgy145 := (hfvy100 (i + 16) (ne_o (i := i) (c := 16) (d := 0) rfl)).trans hgy144
          have hgy146 := (hfvy112 (i + 16) (ne_o (i := i) (c := 16) (d := 0) rfl)).trans hgy145
          have hgy147 := up_n egy119 hgy146 (ne_o (i := i) (c := 16) (d := 22) rfl)
          have hgy148 := (hfvy19 (i + 17) (ne_o (i := i) (c := 17) (d := 0) rfl)).trans ha17
          have hgy149 := (hfvy31 (i + 17) (ne_o (i := i) (c := 17) (d := 0) rfl)).trans hgy148
          have hgy150 := (hfvy88 (i + 17) (ne_o (i := i) (c := 17) (d := 0) rfl)).trans hgy149
          have hgy151 := (hfvy100 (i + 17) (ne_o (i := i) (c := 17) (d := 0) rfl)).trans hgy150
          have hgy152 := (hfvy112 (i + 17) (ne_o (i := i) (c := 17) (d := 0) rfl)).trans hgy151
          have hgy153 := up_n egy119 hgy152 (ne_o (i := i) (c := 17) (d := 22) rfl)
          have hgy154 := (hfvy19 (i + 18) (ne_o (i := i) (c := 18) (d := 0) rfl)).trans ha18
          have hgy155 := (hfvy31 (i + 18) (ne_o (i := i) (c := 18) (d := 0) rfl)).trans hgy154
          have hgy156 := (hfvy88 (i + 18) (ne_o (i := i) (c := 18) (d := 0) rfl)).trans hgy155
          have hgy157 := (hfvy100 (i + 18) (ne_o (i := i) (c := 18) (d := 0) rfl)).trans hgy156
          have hgy158 := (hfvy112 (i + 18) (ne_o (i := i) (c := 18) (d := 0) rfl)).trans hgy157
          have hgy159 := up_n egy119 hgy158 (ne_o (i := i) (c := 18) (d := 22) rfl)
          have hgy160 := (hfvy19 (i + 19) (ne_o (i := i) (c := 19) (d := 0) rfl)).trans ha19
          have hgy161 := (hfvy31 (i + 19) (ne_o (i := i) (c := 19) (d := 0) rfl)).trans hgy160
          have hgy162 := (hfvy88 (i + 19) (ne_o (i := i) (c := 19) (d := 0) rfl)).trans hgy161
          have hgy163 := (hfvy100 (i + 19) (ne_o (i := i) (c := 19) (d := 0) rfl)).trans hgy162
          have hgy164 := (hfvy112 (i + 19) (ne_o (i := i) (c := 19) (d := 0) rfl)).trans hgy163
          have hgy165 := up_n egy119 hgy164 (ne_o (i := i) (c := 19) (d := 22) rfl)
          have hgy166 := (hfvy19 (i + 20) (ne_o (i := i) (c := 20) (d := 0) rfl)).trans ha20
          have hgy167 := (hfvy31 (i + 20) (ne_o (i := i) (c := 20) (d := 0) rfl)).trans hgy166
          have hgy168 := (hfvy88 (i + 20) (ne_o (i := i) (c := 20) (d := 0) rfl)).trans hgy167
          have hgy169 := (hfvy100 (i + 20) (ne_o (i := i) (c := 20) (d := 0) rfl)).trans hgy168
          have hgy170 := (hfvy112 (i + 20) (ne_o (i := i) (c := 20) (d := 0) rfl)).trans hgy169
          have hgy171 := up_n egy119 hgy170 (ne_o (i := i) (c := 20) (d := 22) rfl)
          have hgy172 := (hfvy19 (i + 21) (ne_o (i := i) (c := 21) (d := 0) rfl)).trans ha21
          have hgy173 := (hfvy31 (i + 21) (ne_o (i := i) (c := 21) (d := 0) rfl)).trans hgy172
          have hgy174 := (hfvy88 (i + 21) (ne_o (i := i) (c := 21) (d := 0) rfl)).trans hgy173
          have hgy175 := (hfvy100 (i + 21) (ne_o (i := i) (c := 21) (d := 0) rfl)).trans hgy174
          have hgy176 := (hfvy112 (i + 21) (ne_o (i := i) (c := 21) (d := 0) rfl)).trans hgy175
          have hgy177 := up_n egy119 hgy176 (ne_o (i := i) (c := 21) (d := 22) rfl)
          have hgy178 := (hfvy19 (i + 23) (ne_o (i := i) (c := 23) (d := 0) rfl)).trans ha23
          have hgy179 := (hfvy31 (i + 23) (ne_o (i := i) (c := 23) (d := 0) rfl)).trans hgy178
          have hgy180 := (hfvy88 (i + 23) (ne_o (i := i) (c := 23) (d := 0) rfl)).trans hgy179
          have hgy181 := (hfvy100 (i + 23) (ne_o (i := i) (c := 23) (d := 0) rfl)).trans hgy180
          have hgy182 := (hfvy112 (i + 23) (ne_o (i := i) (c := 23) (d := 0) rfl)).trans hgy181
          have hgy183 := up_n egy119 hgy182 (ne_o (i := i) (c := 23) (d := 22) rfl)
          have htxy184 : okTx cs gy118 i Fvy112 := ⟨_, _, _, _, _, _, _, _, ⟨hgy147, hgy153, hgy159, hgy165, hgy171, hgy177, hgy120, hgy183⟩, ⟨⟨by omega, by omega, by omega⟩, hop1, hmn1, hai1, hfa1, haky138, hlay141⟩⟩
          exact z_vret C hr hlk dX10_table1_95 (by decide) (by decide) ⟨rfl, rfl, rfl, ⟨_, hgy123, hrdy132, by omega, by omega, hFy124, htxy184⟩, fun j j1 j2 => by rw [egy119, va_up_ne _ _ (by omega)]; rw [hfvy112 _ (by omega)]; rw [hfvy100 _ (by omega)]; rw [hfvy88 _ (by omega)]; rw [hfvy31 _ (by omega)]; rw [hfvy19 _ (by omega)]⟩
        · refine z_sipush (z := 9999) C dX10_table1_83 (by decide) ?_
          refine z_goto (tgt := 91) C dX10_table1_86 (by decide) ?_
          have hey185 : Fvy100 32 = Fvy100 32 := rfl
          have hey186 : Fvy100 33 = Fvy100 33 := rfl
          have hey187 : Fvy100 34 = F 34 := ((hFvy100 34 (by decide) (by decide) (by decide) (by decide) (by decide)).trans ((hFvy88 34 (by decide) (by decide)).trans ((hFvy31 34 (by decide) (by decide)).trans (hFvy19 34 (by decide) (by decide) (by decide) (by decide) (by decide)))))
          have hey188 : Fvy100 35 = Fvy100 35 := rfl
          have hey189 : Fvy100 36 = Fvy100 36 := rfl
          have hey190 : Fvy100 37 = Fvy100 37 := rfl
          have hey191 : Fvy100 38 = 0 := ((hFvy100 38 (by decide) (by decide) (by decide) (by decide) (by decide)).trans e38vy88)
          have hrdy192 : RD Fvy100 := by unfold RD; omega
          have hgy193 := (hfvy100 (i + 13) (ne_o (i := i) (c := 13) (d := 0) rfl)).trans hgy99
          have hey195 : Fvy100 38 = 0 := ((hFvy100 38 (by decide) (by decide) (by decide) (by decide) (by decide)).trans e38vy88)
          have hey196 : Fvy100 35 = Fvy100 35 := rfl
          refine z_cV (As := [.int (zI (0)), .int (zI (9999))]) (rest := [.int (zI ((kty42 : Int))), .ref (ad (i + 22))]) (ci := 12) C (c_X10_number l D A cs tt N ad _ i hN _ hcvy100 _ hgy193 htp hrdy192 (0) (by omega) (9999) (by omega)) (by omega) hay1 hcvy100 rfl rfl mv_yX10_number q_1682 hd_yX10_number (by decide) (Nat.le_of_ble_eq_true rfl) (by decide) dX10_table1_91 rfl (kI0 fun vy194 gvy194 hvy194 => ?_)
          obtain ⟨hrvy194, ⟨Fvy194, hcvy194, hdvy194, hlvy194, hsvy194, hFvy194⟩, hfvy194⟩ := hvy194
          have h32vy194 : Fvy100 32 = Fvy100 32 := rfl
          have h34vy194 : Fvy194 34 = F 34 := (hFvy194 34 (by decide) (by decide) (by decide) (by decide) (by decide) (by decide) (by decide)).trans (((hFvy100 34 (by decide) (by decide) (by decide) (by decide) (by decide)).trans ((hFvy88 34 (by decide) (by decide)).trans ((hFvy31 34 (by decide) (by decide)).trans (hFvy19 34 (by decide) (by decide) (by decide) (by decide) (by decide))))))
          obtain ⟨d32vy194, d33vy194, d35vy194, d36vy194, d2vy194, d37vy194, d38vy194⟩ := id hdvy194
          have hgy197 := (hfvy88 (i + 22) (ne_o (i := i) (c := 22) (d := 0) rfl)).trans hgy44
          have hgy198 := (hfvy100 (i + 22) (ne_o (i := i) (c := 22) (d := 0) rfl)).trans hgy197
          have hgy199 := (hfvy194 (i + 22) (ne_o (i := i) (c := 22) (d := 0) rfl)).trans hgy198
          refine z_iast C (by omega) hay9 hgy199 (kty42) (by omega) (by omega) (by decide) dX10_table1_94 (fun gy200 egy201 => ?_)
          have hgy202 := up_s egy201
          obtain ⟨ry203, hvy204⟩ : ∃ rZ9 : Nat → Int, rZ9 = uZ tb1 (kty42) (vy194) := ⟨_, rfl⟩
          rw [← hvy204] at hgy202
          have hgy205 := up_n egy201 hcvy194 (ne_o (i := i) (c := 0) (d := 22) rfl)
          have hFy206 : ∀ f, f ≠ 24 → f ≠ 32 → f ≠ 33 → f ≠ 35 → f ≠ 36 → f ≠ 37 → f ≠ 38 → f ≠ 47 → f ≠ 48 → f ≠ 49 → Fvy194 f = F f := fun f n24 n32 n33 n35 n36 n37 n38 n47 n48 n49 => ((hFvy194 f n24 n32 n33 n35 n36 n37 n38).trans ((hFvy100 f n32 n33 n35 n36 n37).trans ((hFvy88 f n24 n38).trans ((hFvy31 f n24 n38).trans (hFvy19 f n32 n33 n35 n36 n37)))))
          have hey207 : Fvy194 32 = Fvy194 32 := rfl
          have hey208 : Fvy194 33 = Fvy194 33 := rfl
          have hey209 : Fvy194 34 = F 34 := ((hFvy194 34 (by decide) (by decide) (by decide) (by decide) (by decide) (by decide) (by decide)).trans ((hFvy100 34 (by decide) (by decide) (by decide) (by decide) (by decide)).trans ((hFvy88 34 (by decide) (by decide)).trans ((hFvy31 34 (by decide) (by decide)).trans (hFvy19 34 (by decide) (by decide) (by decide) (by decide) (by decide))))))
          have hey210 : Fvy194 35 = Fvy194 35 := rfl
          have hey211 : Fvy194 36 = Fvy194 36 := rfl
          have hey212 : Fvy194 37 = Fvy194 37 := rfl
          have hey213 : Fvy194 38 = Fvy194 38 := rfl
          have hrdy214 : RD Fvy194 := by unfold RD; omega
          have hey215 : Fvy194 32 = Fvy194 32 := rfl
          have hey216 : Fvy194 47 = F 47 := ((hFvy194 47 (by decide) (by decide) (by decide) (by decide) (by decide) (by decide) (by decide)).trans ((hFvy100 47 (by decide) (by decide) (by decide) (by decide) (by decide)).trans ((hFvy88 47 (by decide) (by decide)).trans ((hFvy31 47 (by decide) (by decide)).trans (hFvy19 47 (by decide) (by decide) (by decide) (by decide) (by decide))))))
          have hey217 : Fvy194 48 = F 48 := ((hFvy194 48 (by decide) (by decide) (by decide) (by decide) (by decide) (by decide) (by decide)).trans ((hFvy100 48 (by decide) (by decide) (by decide) (by decide) (by decide)).trans ((hFvy88 48 (by decide) (by decide)).trans ((hFvy31 48 (by decide) (by decide)).trans (hFvy19 48 (by decide) (by decide) (by decide) (by decide) (by decide))))))
          have hey218 : Fvy194 49 = F 49 := ((hFvy194 49 (by decide) (by decide) (by decide) (by decide) (by decide) (by decide) (by decide)).trans ((hFvy100 49 (by decide) (by decide) (by decide) (by decide) (by decide)).trans ((hFvy88 49 (by decide) (by decide)).trans ((hFvy31 49 (by decide) (by decide)).trans (hFvy19 49 (by decide) (by decide) (by decide) (by decide) (by decide))))))
          have hfry221 : ∀ j, j ≠ kty42 → ry203 j = tb1 j := fun j n0 => (congrFun hvy204 _).trans ((uZ_n _ _ n0).trans (rfl))
          have hwy222 : ry203 (kty42) = vy194 := (congrFun hvy204 _).trans (uZ_s _ _ _)
          have haky220 : ∀ k, k < 15 → ry203 k = -1 ∨ ((0 ≤ ry203 k ∧ ry203 k ≤ 9999) ∧ (10 ≤ k → 1 ≤ ry203 k)) := by
            intro k hk
            by_cases e : k = kty42
            · subst e; have hk0 := htb1 (kty42) (by omega); omega
            · have hk0 := htb1 k hk; rw [hfry221 k e]; exact hk0
          have hlay223 : ∀ s l : Nat, (s : Int) < Fvy194 47 → (l : Int) < mn1 s → lyT ly1 (84 * s + 7 * l) := fun s l a1 a2 => hly1 s l (by omega) a2
          have hgy224 := (hfvy19 (i + 16) (ne_o (i := i) (c := 16) (d := 0) rfl)).trans ha16
          have hgy225 := (hfvy31 (i + 16) (ne_o (i := i) (c := 16) (d := 0) rfl)).trans hgy224
          have hgy226 := (hfvy88 (i + 16) (ne_o (i := i) (c := 16) (d := 0) rfl)).trans hgy225
          have hgy227 := (hfvy100 (i + 16) (ne_o (i := i) (c := 16) (d := 0) rfl)).trans hgy226
          have hgy228 := (hfvy194 (i + 16) (ne_o (i := i) (c := 16) (d := 0) rfl)).trans hgy227
          have hgy229 := up_n egy201 hgy228 (ne_o (i := i) (c := 16) (d := 22) rfl)
          have hgy230 := (hfvy19 (i + 17) (ne_o (i := i) (c := 17) (d := 0) rfl)).trans ha17
          have hgy231 := (hfvy31 (i + 17) (ne_o (i := i) (c := 17) (d := 0) rfl)).trans hgy230
          have hgy232 := (hfvy88 (i + 17) (ne_o (i := i) (c := 17) (d := 0) rfl)).trans hgy231
          have hgy233 := (hfvy100 (i + 17) (ne_o (i := i) (c := 17) (d := 0) rfl)).trans hgy232
          have hgy234 := (hfvy194 (i + 17) (ne_o (i := i) (c := 17) (d := 0) rfl)).trans hgy233
          have hgy235 := up_n egy201 hgy234 (ne_o (i := i) (c := 17) (d := 22) rfl)
          have hgy236 := (hfvy19 (i + 18) (ne_o (i := i) (c := 18) (d := 0) rfl)).trans ha18
          have hgy237 := (hfvy31 (i + 18) (ne_o (i := i) (c := 18) (d := 0) rfl)).trans hgy236
          have hgy238 := (hfvy88 (i + 18) (ne_o (i := i) (c := 18) (d := 0) rfl)).trans hgy237
          have hgy239 := (hfvy100 (i + 18) (ne_o (i := i) (c := 18) (d := 0) rfl)).trans hgy238
          have hgy240 := (hfvy194 (i + 18) (ne_o (i := i) (c := 18) (d := 0) rfl)).trans hgy239
          have hgy241 := up_n egy201 hgy240 (ne_o (i := i) (c := 18) (d := 22) rfl)
          have hgy242 := (hfvy19 (i + 19) (ne_o (i := i) (c := 19) (d := 0) rfl)).trans ha19
          have hgy243 := (hfvy31 (i + 19) (ne_o (i := i) (c := 19) (d := 0) rfl)).trans hgy242
          have hgy244 := (hfvy88 (i + 19) (ne_o (i := i) (c := 19) (d := 0) rfl)).trans hgy243
          have hgy245 := (hfvy100 (i + 19) (ne_o (i := i) (c := 19) (d := 0) rfl)).trans hgy244
          have hgy246 := (hfvy194 (i + 19) (ne_o (i := i) (c := 19) (d := 0) rfl)).trans hgy245
          have hgy247 := up_n egy201 hgy246 (ne_o (i := i) (c := 19) (d := 22) rfl)
          have hgy248 := (hfvy19 (i + 20) (ne_o (i := i) (c := 20) (d := 0) rfl)).trans ha20
          have hgy249 := (hfvy31 (i + 20) (ne_o (i := i) (c := 20) (d := 0) rfl)).trans hgy248
          have hgy250 := (hfvy88 (i + 20) (ne_o (i := i) (c := 20) (d := 0) rfl)).trans hgy249
          have hgy251 := (hfvy100 (i + 20) (ne_o (i := i) (c := 20) (d := 0) rfl)).trans hgy250
          have hgy252 := (hfvy194 (i + 20) (ne_o (i := i) (c := 20) (d := 0) rfl)).trans hgy251
          have hgy253 := up_n egy201 hgy252 (ne_o (i := i) (c := 20) (d := 22) rfl)
          have hgy254 := (hfvy19 (i + 21) (ne_o (i := i) (c := 21) (d := 0) rfl)).trans ha21
          have hgy255 := (hfvy31 (i + 21) (ne_o (i := i) (c := 21) (d := 0) rfl)).trans hgy254
          have hgy256 := (hfvy88 (i + 21) (ne_o (i := i) (c := 21) (d := 0) rfl)).trans hgy255
          have hgy257 := (hfvy100 (i + 21) (ne_o (i := i) (c := 21) (d := 0) rfl)).trans hgy256
          have hgy258 := (hfvy194 (i + 21) (ne_o (i := i) (c := 21) (d := 0) rfl)).trans hgy257
          have hgy259 := up_n egy201 hgy258 (ne_o (i := i) (c := 21) (d := 22) rfl)
          have hgy260 := (hfvy19 (i + 23) (ne_o (i := i) (c := 23) (d := 0) rfl)).trans ha23
          have hgy261 := (hfvy31 (i + 23) (ne_o (i := i) (c := 23) (d := 0) rfl)).trans hgy260
          have hgy262 := (hfvy88 (i + 23) (ne_o (i := i) (c := 23) (d := 0) rfl)).trans hgy261
          have hgy263 := (hfvy100 (i + 23) (ne_o (i := i) (c := 23) (d := 0) rfl)).trans hgy262
          have hgy264 := (hfvy194 (i + 23) (ne_o (i := i) (c := 23) (d := 0) rfl)).trans hgy263
          have hgy265 := up_n egy201 hgy264 (ne_o (i := i) (c := 23) (d := 22) rfl)
          have htxy266 : okTx cs gy200 i Fvy194 := ⟨_, _, _, _, _, _, _, _, ⟨hgy229, hgy235, hgy241, hgy247, hgy253, hgy259, hgy202, hgy265⟩, ⟨⟨by omega, by omega, by omega⟩, hop1, hmn1, hai1, hfa1, haky220, hlay223⟩⟩
          exact z_vret C hr hlk dX10_table1_95 (by decide) (by decide) ⟨rfl, rfl, rfl, ⟨_, hgy205, hrdy214, by omega, by omega, hFy206, htxy266⟩, fun j j1 j2 => by rw [egy201, va_up_ne _ _ (by omega)]; rw [hfvy194 _ (by omega)]; rw [hfvy100 _ (by omega)]; rw [hfvy88 _ (by omega)]; rw [hfvy31 _ (by omega)]; rw [hfvy19 _ (by omega)]⟩
      · refine z_iconst (z := 1) C dX10_table1_73 rfl ?_
        refine z_goto (tgt := 78) C dX10_table1_74 (by decide) ?_
        refine z_iload_n C 1 dX10_table1_78 rfl ?_
        refine z_iconst (z := 2) C dX10_table1_79 rfl ?_
        refine z_icmp_ne (tgt := 89) C dX10_table1_80 (by decide) (by omega) (by omega) (fun hby267 => ?_) (fun hby267 => ?_)
        · refine z_bipush (z := 99) C dX10_table1_89 (by decide) ?_
          have hey268 : Fvy100 32 = Fvy100 32 := rfl
          have hey269 : Fvy100 33 = Fvy100 33 := rfl
          have hey270 : Fvy100 34 = F 34 := ((hFvy100 34 (by decide) (by decide) (by decide) (by decide) (by decide)).trans ((hFvy88 34 (by decide) (by decide)).trans ((hFvy31 34 (by decide) (by decide)).trans (hFvy19 34 (by decide) (by decide) (by decide) (by decide) (by decide)))))
          have hey271 : Fvy100 35 = Fvy100 35 := rfl
          have hey272 : Fvy100 36 = Fvy100 36 := rfl
          have hey273 : Fvy100 37 = Fvy100 37 := rfl
          have hey274 : Fvy100 38 = 0 := ((hFvy100 38 (by decide) (by decide) (by decide) (by decide) (by decide)).trans e38vy88)
          have hrdy275 : RD Fvy100 := by unfold RD; omega
          have hgy276 := (hfvy100 (i + 13) (ne_o (i := i) (c := 13) (d := 0) rfl)).trans hgy99
          have hey278 : Fvy100 38 = 0 := ((hFvy100 38 (by decide) (by decide) (by decide) (by decide) (by decide)).trans e38vy88)
          have hey279 : Fvy100 35 = Fvy100 35 := rfl
          refine z_cV (As := [.int (zI (1)), .int (zI (99))]) (rest := [.int (zI ((kty42 : Int))), .ref (ad (i + 22))]) (ci := 12) C (c_X10_number l D A cs tt N ad _ i hN _ hcvy100 _ hgy276 htp hrdy275 (1) (by omega) (99) (by omega)) (by omega) hay1 hcvy100 rfl rfl mv_yX10_number q_1682 hd_yX10_number (by decide) (Nat.le_of_ble_eq_true rfl) (by decide) dX10_table1_91 rfl (kI0 fun vy277 gvy277 hvy277 => ?_)
          obtain ⟨hrvy277, ⟨Fvy277, hcvy277, hdvy277, hlvy277, hsvy277, hFvy277⟩, hfvy277⟩ := hvy277
          have h32vy277 : Fvy100 32 = Fvy100 32 := rfl
          have h34vy277 : Fvy277 34 = F 34 := (hFvy277 34 (by decide) (by decide) (by decide) (by decide) (by decide) (by decide) (by decide)).trans (((hFvy100 34 (by decide) (by decide) (by decide) (by decide) (by decide)).trans ((hFvy88 34 (by decide) (by decide)).trans ((hFvy31 34 (by decide) (by decide)).trans (hFvy19 34 (by decide) (by decide) (by decide) (by decide) (by decide))))))
          obtain ⟨d32vy277, d33vy277, d35vy277, d36vy277, d2vy277, d37vy277, d38vy277⟩ := id hdvy277
          have hgy280 := (hfvy88 (i + 22) (ne_o (i := i) (c := 22) (d := 0) rfl)).trans hgy44
          have hgy281 := (hfvy100 (i + 22) (ne_o (i := i) (c := 22) (d := 0) rfl)).trans hgy280
          have hgy282 := (hfvy277 (i + 22) (ne_o (i := i) (c := 22) (d := 0) rfl)).trans hgy281
          refine z_iast C (by omega) hay9 hgy282 (kty42) (by omega) (by omega) (by decide) dX10_table1_94 (fun gy283 egy284 => ?_)
          have hgy285 := up_s egy284
          obtain ⟨ry286, hvy287⟩ : ∃ rZ9 : Nat → Int, rZ9 = uZ tb1 (kty42) (vy277) := ⟨_, rfl⟩
          rw [← hvy287] at hgy285
          have hgy288 := up_n egy284 hcvy277 (ne_o (i := i) (c := 0) (d := 22) rfl)
          have hFy289 : ∀ f, f ≠ 24 → f ≠ 32 → f ≠ 33 → f ≠ 35 → f ≠ 36 → f ≠ 37 → f ≠ 38 → f ≠ 47 → f ≠ 48 → f ≠ 49 → Fvy277 f = F f := fun f n24 n32 n33 n35 n36 n37 n38 n47 n48 n49 => ((hFvy277 f n24 n32 n33 n35 n36 n37 n38).trans ((hFvy100 f n32 n33 n35 n36 n37).trans ((hFvy88 f n24 n38).trans ((hFvy31 f n24 n38).trans (hFvy19 f n32 n33 n35 n36 n37)))))
          have hey290 : Fvy277 32 = Fvy277 32 := rfl
          have hey291 : Fvy277 33 = Fvy277 33 := rfl
          have hey292 : Fvy277 34 = F 34 := ((hFvy277 34 (by decide) (by decide) (by decide) (by decide) (by decide) (by decide) (by decide)).trans ((hFvy100 34 (by decide) (by decide) (by decide) (by decide) (by decide)).trans ((hFvy88 34 (by decide) (by decide)).trans ((hFvy31 34 (by decide) (by decide)).trans (hFvy19 34 (by decide) (by decide) (by decide) (by decide) (by decide))))))
          have hey293 : Fvy277 35 = Fvy277 35 := rfl
          have hey294 : Fvy277 36 = Fvy277 36 := rfl
          have hey295 : Fvy277 37 = Fvy277 37 := rfl
          have hey296 : Fvy277 38 = Fvy277 38 := rfl
          have hrdy297 : RD Fvy277 := by unfold RD; omega
          have hey298 : Fvy277 32 = Fvy277 32 := rfl
          have hey299 : Fvy277 47 = F 47 := ((hFvy277 47 (by decide) (by decide) (by decide) (by decide) (by decide) (by decide) (by decide)).trans ((hFvy100 47 (by decide) (by decide) (by decide) (by decide) (by decide)).trans ((hFvy88 47 (by decide) (by decide)).trans ((hFvy31 47 (by decide) (by decide)).trans (hFvy19 47 (by decide) (by decide) (by decide) (by decide) (by decide))))))
          have hey300 : Fvy277 48 = F 48 := ((hFvy277 48 (by decide) (by decide) (by decide) (by decide) (by decide) (by decide) (by decide)).trans ((hFvy100 48 (by decide) (by decide) (by decide) (by decide) (by decide)).trans ((hFvy88 48 (by decide) (by decide)).trans ((hFvy31 48 (by decide) (by decide)).trans (hFvy19 48 (by decide) (by decide) (by decide) (by decide) (by decide))))))
          have hey301 : Fvy277 49 = F 49 := ((hFvy277 49 (by decide) (by decide) (by decide) (by decide) (by decide) (by decide) (by decide)).trans ((hFvy100 49 (by decide) (by decide) (by decide) (by decide) (by decide)).trans ((hFvy88 49 (by decide) (by decide)).trans ((hFvy31 49 (by decide) (by decide)).trans (hFvy19 49 (by decide) (by decide) (by decide) (by decide) (by decide))))))
          have hfry304 : ∀ j, j ≠ kty42 → ry286 j = tb1 j := fun j n0 => (congrFun hvy287 _).trans ((uZ_n _ _ n0).trans (rfl))
          have hwy305 : ry286 (kty42) = vy277 := (congrFun hvy287 _).trans (uZ_s _ _ _)
          have haky303 : ∀ k, k < 15 → ry286 k = -1 ∨ ((0 ≤ ry286 k ∧ ry286 k ≤ 9999) ∧ (10 ≤ k → 1 ≤ ry286 k)) := by
            intro k hk
            by_cases e : k = kty42
            · subst e; have hk0 := htb1 (kty42) (by omega); omega
            · have hk0 := htb1 k hk; rw [hfry304 k e]; exact hk0
          have hlay306 : ∀ s l : Nat, (s : Int) < Fvy277 47 → (l : Int) < mn1 s → lyT ly1 (84 * s + 7 * l) := fun s l a1 a2 => hly1 s l (by omega) a2
          have hgy307 := (hfvy19 (i + 16) (ne_o (i := i) (c := 16) (d := 0) rfl)).trans ha16
          have hgy308 := (hfvy31 (i + 16) (ne_o (i := i) (c := 16) (d := 0) rfl)).trans hgy307
          have hgy309 := (hfvy88 (i + 16) (ne_o (i := i) (c := 16) (d := 0) rfl)).trans hgy308
          have hgy310 := (hfvy100 (i + 16) (ne_o (i := i) (c := 16) (d := 0) rfl)).trans hgy309
          have hgy311 := (hfvy277 (i + 16) (ne_o (i := i) (c := 16) (d := 0) rfl)).trans hgy310
          have hgy312 := up_n egy284 hgy311 (ne_o (i := i) (c := 16) (d := 22) rfl)
          have hgy313 := (hfvy19 (i + 17) (ne_o (i := i) (c := 17) (d := 0) rfl)).trans ha17
          have hgy314 := (hfvy31 (i + 17) (ne_o (i := i) (c := 17) (d := 0) rfl)).trans hgy313
          have hgy315 := (hfvy88 (i + 17) (ne_o (i := i) (c := 17) (d := 0) rfl)).trans hgy314
          have hgy316 := (hfvy100 (i + 17) (ne_o (i := i) (c := 17) (d := 0) rfl)).trans hgy315
          have hgy317 := (hfvy277 (i + 17) (ne_o (i := i) (c := 17) (d := 0) rfl)).trans hgy316
          have hgy318 := up_n egy284 hgy317 (ne_o (i := i) (c := 17) (d := 22) rfl)
          have hgy319 := (hfvy19 (i + 18) (ne_o (i := i) (c := 18) (d := 0) rfl)).trans ha18
          have hgy320 := (hfvy31 (i + 18) (ne_o (i := i) (c := 18) (d := 0) rfl)).trans hgy319
          have hgy321 := (hfvy88 (i + 18) (ne_o (i := i) (c := 18) (d := 0) rfl)).trans hgy320
          have hgy322 := (hfvy100 (i + 18) (ne_o (i := i) (c := 18) (d := 0) rfl)).trans hgy321
          have hgy323 := (hfvy277 (i + 18) (ne_o (i := i) (c := 18) (d := 0) rfl)).trans hgy322
          have hgy324 := up_n egy284 hgy323 (ne_o (i := i) (c := 18) (d := 22) rfl)
          have hgy325 := (hfvy19 (i + 19) (ne_o (i := i) (c := 19) (d := 0) rfl)).trans ha19
          have hgy326 := (hfvy31 (i + 19) (ne_o (i := i) (c := 19) (d := 0) rfl)).trans hgy325
          have hgy327 := (hfvy88 (i + 19) (ne_o (i := i) (c := 19) (d := 0) rfl)).trans hgy326
          have hgy328 := (hfvy100 (i + 19) (ne_o (i := i) (c := 19) (d := 0) rfl)).trans hgy327
          have hgy329 := (hfvy277 (i + 19) (ne_o (i := i) (c := 19) (d := 0) rfl)).trans hgy328
          have hgy330 := up_n egy284 hgy329 (ne_o (i := i) (c := 19) (d := 22) rfl)
          have hgy331 := (hfvy19 (i + 20) (ne_o (i := i) (c := 20) (d := 0) rfl)).trans ha20
          have hgy332 := (hfvy31 (i + 20) (ne_o (i := i) (c := 20) (d := 0) rfl)).trans hgy331
          have hgy333 := (hfvy88 (i + 20) (ne_o (i := i) (c := 20) (d := 0) rfl)).trans hgy332
          have hgy334 := (hfvy100 (i + 20) (ne_o (i := i) (c := 20) (d := 0) rfl)).trans hgy333
          have hgy335 := (hfvy277 (i + 20) (ne_o (i := i) (c := 20) (d := 0) rfl)).trans hgy334
          have hgy336 := up_n egy284 hgy335 (ne_o (i := i) (c := 20) (d := 22) rfl)
          have hgy337 := (hfvy19 (i + 21) (ne_o (i := i) (c := 21) (d := 0) rfl)).trans ha21
          have hgy338 := (hfvy31 (i + 21) (ne_o (i := i) (c := 21) (d := 0) rfl)).trans hgy337
          have hgy339 := (hfvy88 (i + 21) (ne_o (i := i) (c := 21) (d := 0) rfl)).trans hgy338
          have hgy340 := (hfvy100 (i + 21) (ne_o (i := i) (c := 21) (d := 0) rfl)).trans hgy339
          have hgy341 := (hfvy277 (i + 21) (ne_o (i := i) (c := 21) (d := 0) rfl)).trans hgy340
          have hgy342 := up_n egy284 hgy341 (ne_o (i := i) (c := 21) (d := 22) rfl)
          have hgy343 := (hfvy19 (i + 23) (ne_o (i := i) (c := 23) (d := 0) rfl)).trans ha23
          have hgy344 := (hfvy31 (i + 23) (ne_o (i := i) (c := 23) (d := 0) rfl)).trans hgy343
          have hgy345 := (hfvy88 (i + 23) (ne_o (i := i) (c := 23) (d := 0) rfl)).trans hgy344
          have hgy346 := (hfvy100 (i + 23) (ne_o (i := i) (c := 23) (d := 0) rfl)).trans hgy345
          have hgy347 := (hfvy277 (i + 23) (ne_o (i := i) (c := 23) (d := 0) rfl)).trans hgy346
          have hgy348 := up_n egy284 hgy347 (ne_o (i := i) (c := 23) (d := 22) rfl)
          have htxy349 : okTx cs gy283 i Fvy277 := ⟨_, _, _, _, _, _, _, _, ⟨hgy312, hgy318, hgy324, hgy330, hgy336, hgy342, hgy285, hgy348⟩, ⟨⟨by omega, by omega, by omega⟩, hop1, hmn1, hai1, hfa1, haky303, hlay306⟩⟩
          exact z_vret C hr hlk dX10_table1_95 (by decide) (by decide) ⟨rfl, rfl, rfl, ⟨_, hgy288, hrdy297, by omega, by omega, hFy289, htxy349⟩, fun j j1 j2 => by rw [egy284, va_up_ne _ _ (by omega)]; rw [hfvy277 _ (by omega)]; rw [hfvy100 _ (by omega)]; rw [hfvy88 _ (by omega)]; rw [hfvy31 _ (by omega)]; rw [hfvy19 _ (by omega)]⟩
        · refine z_sipush (z := 9999) C dX10_table1_83 (by decide) ?_
          refine z_goto (tgt := 91) C dX10_table1_86 (by decide) ?_
          have hey350 : Fvy100 32 = Fvy100 32 := rfl
          have hey351 : Fvy100 33 = Fvy100 33 := rfl
          have hey352 : Fvy100 34 = F 34 := ((hFvy100 34 (by decide) (by decide) (by decide) (by decide) (by decide)).trans ((hFvy88 34 (by decide) (by decide)).trans ((hFvy31 34 (by decide) (by decide)).trans (hFvy19 34 (by decide) (by decide) (by decide) (by decide) (by decide)))))
          have hey353 : Fvy100 35 = Fvy100 35 := rfl
          have hey354 : Fvy100 36 = Fvy100 36 := rfl
          have hey355 : Fvy100 37 = Fvy100 37 := rfl
          have hey356 : Fvy100 38 = 0 := ((hFvy100 38 (by decide) (by decide) (by decide) (by decide) (by decide)).trans e38vy88)
          have hrdy357 : RD Fvy100 := by unfold RD; omega
          have hgy358 := (hfvy100 (i + 13) (ne_o (i := i) (c := 13) (d := 0) rfl)).trans hgy99
          have hey360 : Fvy100 38 = 0 := ((hFvy100 38 (by decide) (by decide) (by decide) (by decide) (by decide)).trans e38vy88)
          have hey361 : Fvy100 35 = Fvy100 35 := rfl
          refine z_cV (As := [.int (zI (1)), .int (zI (9999))]) (rest := [.int (zI ((kty42 : Int))), .ref (ad (i + 22))]) (ci := 12) C (c_X10_number l D A cs tt N ad _ i hN _ hcvy100 _ hgy358 htp hrdy357 (1) (by omega) (9999) (by omega)) (by omega) hay1 hcvy100 rfl rfl mv_yX10_number q_1682 hd_yX10_number (by decide) (Nat.le_of_ble_eq_true rfl) (by decide) dX10_table1_91 rfl (kI0 fun vy359 gvy359 hvy359 => ?_)
          obtain ⟨hrvy359, ⟨Fvy359, hcvy359, hdvy359, hlvy359, hsvy359, hFvy359⟩, hfvy359⟩ := hvy359
          have h32vy359 : Fvy100 32 = Fvy100 32 := rfl
          have h34vy359 : Fvy359 34 = F 34 := (hFvy359 34 (by decide) (by decide) (by decide) (by decide) (by decide) (by decide) (by decide)).trans (((hFvy100 34 (by decide) (by decide) (by decide) (by decide) (by decide)).trans ((hFvy88 34 (by decide) (by decide)).trans ((hFvy31 34 (by decide) (by decide)).trans (hFvy19 34 (by decide) (by decide) (by decide) (by decide) (by decide))))))
          obtain ⟨d32vy359, d33vy359, d35vy359, d36vy359, d2vy359, d37vy359, d38vy359⟩ := id hdvy359
          have hgy362 := (hfvy88 (i + 22) (ne_o (i := i) (c := 22) (d := 0) rfl)).trans hgy44
          have hgy363 := (hfvy100 (i + 22) (ne_o (i := i) (c := 22) (d := 0) rfl)).trans hgy362
          have hgy364 := (hfvy359 (i + 22) (ne_o (i := i) (c := 22) (d := 0) rfl)).trans hgy363
          refine z_iast C (by omega) hay9 hgy364 (kty42) (by omega) (by omega) (by decide) dX10_table1_94 (fun gy365 egy366 => ?_)
          have hgy367 := up_s egy366
          obtain ⟨ry368, hvy369⟩ : ∃ rZ9 : Nat → Int, rZ9 = uZ tb1 (kty42) (vy359) := ⟨_, rfl⟩
          rw [← hvy369] at hgy367
          have hgy370 := up_n egy366 hcvy359 (ne_o (i := i) (c := 0) (d := 22) rfl)
          have hFy371 : ∀ f, f ≠ 24 → f ≠ 32 → f ≠ 33 → f ≠ 35 → f ≠ 36 → f ≠ 37 → f ≠ 38 → f ≠ 47 → f ≠ 48 → f ≠ 49 → Fvy359 f = F f := fun f n24 n32 n33 n35 n36 n37 n38 n47 n48 n49 => ((hFvy359 f n24 n32 n33 n35 n36 n37 n38).trans ((hFvy100 f n32 n33 n35 n36 n37).trans ((hFvy88 f n24 n38).trans ((hFvy31 f n24 n38).trans (hFvy19 f n32 n33 n35 n36 n37)))))
          have hey372 : Fvy359 32 = Fvy359 32 := rfl
          have hey373 : Fvy359 33 = Fvy359 33 := rfl
          have hey374 : Fvy359 34 = F 34 := ((hFvy359 34 (by decide) (by decide) (by decide) (by decide) (by decide) (by decide) (by decide)).trans ((hFvy100 34 (by decide) (by decide) (by decide) (by decide) (by decide)).trans ((hFvy88 34 (by decide) (by decide)).trans ((hFvy31 34 (by decide) (by decide)).trans (hFvy19 34 (by decide) (by decide) (by decide) (by decide) (by decide))))))
          have hey375 : Fvy359 35 = Fvy359 35 := rfl
          have hey376 : Fvy359 36 = Fvy359 36 := rfl
          have hey377 : Fvy359 37 = Fvy359 37 := rfl
          have hey378 : Fvy359 38 = Fvy359 38 := rfl
          have hrdy379 : RD Fvy359 := by unfold RD; omega
          have hey380 : Fvy359 32 = Fvy359 32 := rfl
          have hey381 : Fvy359 47 = F 47 := ((hFvy359 47 (by decide) (by decide) (by decide) (by decide) (by decide) (by decide) (by decide)).trans ((hFvy100 47 (by decide) (by decide) (by decide) (by decide) (by decide)).trans ((hFvy88 47 (by decide) (by decide)).trans ((hFvy31 47 (by decide) (by decide)).trans (hFvy19 47 (by decide) (by decide) (by decide) (by decide) (by decide))))))
          have hey382 : Fvy359 48 = F 48 := ((hFvy359 48 (by decide) (by decide) (by decide) (by decide) (by decide) (by decide) (by decide)).trans ((hFvy100 48 (by decide) (by decide) (by decide) (by decide) (by decide)).trans ((hFvy88 48 (by decide) (by decide)).trans ((hFvy31 48 (by decide) (by decide)).trans (hFvy19 48 (by decide) (by decide) (by decide) (by decide) (by decide))))))
          have hey383 : Fvy359 49 = F 49 := ((hFvy359 49 (by decide) (by decide) (by decide) (by decide) (by decide) (by decide) (by decide)).trans ((hFvy100 49 (by decide) (by decide) (by decide) (by decide) (by decide)).trans ((hFvy88 49 (by decide) (by decide)).trans ((hFvy31 49 (by decide) (by decide)).trans (hFvy19 49 (by decide) (by decide) (by decide) (by decide) (by decide))))))
          have hfry386 : ∀ j, j ≠ kty42 → ry368 j = tb1 j := fun j n0 => (congrFun hvy369 _).trans ((uZ_n _ _ n0).trans (rfl))
          have hwy387 : ry368 (kty42) = vy359 := (congrFun hvy369 _).trans (uZ_s _ _ _)
          have haky385 : ∀ k, k < 15 → ry368 k = -1 ∨ ((0 ≤ ry368 k ∧ ry368 k ≤ 9999) ∧ (10 ≤ k → 1 ≤ ry368 k)) := by
            intro k hk
            by_cases e : k = kty42
            · subst e; have hk0 := htb1 (kty42) (by omega); omega
            · have hk0 := htb1 k hk; rw [hfry386 k e]; exact hk0
          have hlay388 : ∀ s l : Nat, (s : Int) < Fvy359 47 → (l : Int) < mn1 s → lyT ly1 (84 * s + 7 * l) := fun s l a1 a2 => hly1 s l (by omega) a2
          have hgy389 := (hfvy19 (i + 16) (ne_o (i := i) (c := 16) (d := 0) rfl)).trans ha16
          have hgy390 := (hfvy31 (i + 16) (ne_o (i := i) (c := 16) (d := 0) rfl)).trans hgy389
          have hgy391 := (hfvy88 (i + 16) (ne_o (i := i) (c := 16) (d := 0) rfl)).trans hgy390
          have hgy392 := (hfvy100 (i + 16) (ne_o (i := i) (c := 16) (d := 0) rfl)).trans hgy391
          have hgy393 := (hfvy359 (i + 16) (ne_o (i := i) (c := 16) (d := 0) rfl)).trans hgy392
          have hgy394 := up_n egy366 hgy393 (ne_o (i := i) (c := 16) (d := 22) rfl)
          have hgy395 := (hfvy19 (i + 17) (ne_o (i := i) (c := 17) (d := 0) rfl)).trans ha17
          have hgy396 := (hfvy31 (i + 17) (ne_o (i := i) (c := 17) (d := 0) rfl)).trans hgy395
          have hgy397 := (hfvy88 (i + 17) (ne_o (i := i) (c := 17) (d := 0) rfl)).trans hgy396
          have hgy398 := (hfvy100 (i + 17) (ne_o (i := i) (c := 17) (d := 0) rfl)).trans hgy397
          have hgy399 := (hfvy359 (i + 17) (ne_o (i := i) (c := 17) (d := 0) rfl)).trans hgy398
          have hgy400 := up_n egy366 hgy399 (ne_o (i := i) (c := 17) (d := 22) rfl)
          have hgy401 := (hfvy19 (i + 18) (ne_o (i := i) (c := 18) (d := 0) rfl)).trans ha18
          have hgy402 := (hfvy31 (i + 18) (ne_o (i := i) (c := 18) (d := 0) rfl)).trans hgy401
          have hgy403 := (hfvy88 (i + 18) (ne_o (i := i) (c := 18) (d := 0) rfl)).trans hgy402
          have hgy404 := (hfvy100 (i + 18) (ne_o (i := i) (c := 18) (d := 0) rfl)).trans hgy403
          have hgy405 := (hfvy359 (i + 18) (ne_o (i := i) (c := 18) (d := 0) rfl)).trans hgy404
          have hgy406 := up_n egy366 hgy405 (ne_o (i := i) (c := 18) (d := 22) rfl)
          have hgy407 := (hfvy19 (i + 19) (ne_o (i := i) (c := 19) (d := 0) rfl)).trans ha19
          have hgy408 := (hfvy31 (i + 19) (ne_o (i := i) (c := 19) (d := 0) rfl)).trans hgy407
          have hgy409 := (hfvy88 (i + 19) (ne_o (i := i) (c := 19) (d := 0) rfl)).trans hgy408
          have hgy410 := (hfvy100 (i + 19) (ne_o (i := i) (c := 19) (d := 0) rfl)).trans hgy409
          have hgy411 := (hfvy359 (i + 19) (ne_o (i := i) (c := 19) (d := 0) rfl)).trans hgy410
          have hgy412 := up_n egy366 hgy411 (ne_o (i := i) (c := 19) (d := 22) rfl)
          have hgy413 := (hfvy19 (i + 20) (ne_o (i := i) (c := 20) (d := 0) rfl)).trans ha20
          have hgy414 := (hfvy31 (i + 20) (ne_o (i := i) (c := 20) (d := 0) rfl)).trans hgy413
          have hgy415 := (hfvy88 (i + 20) (ne_o (i := i) (c := 20) (d := 0) rfl)).trans hgy414
          have hgy416 := (hfvy100 (i + 20) (ne_o (i := i) (c := 20) (d := 0) rfl)).trans hgy415
          have hgy417 := (hfvy359 (i + 20) (ne_o (i := i) (c := 20) (d := 0) rfl)).trans hgy416
          have hgy418 := up_n egy366 hgy417 (ne_o (i := i) (c := 20) (d := 22) rfl)
          have hgy419 := (hfvy19 (i + 21) (ne_o (i := i) (c := 21) (d := 0) rfl)).trans ha21
          have hgy420 := (hfvy31 (i + 21) (ne_o (i := i) (c := 21) (d := 0) rfl)).trans hgy419
          have hgy421 := (hfvy88 (i + 21) (ne_o (i := i) (c := 21) (d := 0) rfl)).trans hgy420
          have hgy422 := (hfvy100 (i + 21) (ne_o (i := i) (c := 21) (d := 0) rfl)).trans hgy421
          have hgy423 := (hfvy359 (i + 21) (ne_o (i := i) (c := 21) (d := 0) rfl)).trans hgy422
          have hgy424 := up_n egy366 hgy423 (ne_o (i := i) (c := 21) (d := 22) rfl)
          have hgy425 := (hfvy19 (i + 23) (ne_o (i := i) (c := 23) (d := 0) rfl)).trans ha23
          have hgy426 := (hfvy31 (i + 23) (ne_o (i := i) (c := 23) (d := 0) rfl)).trans hgy425
          have hgy427 := (hfvy88 (i + 23) (ne_o (i := i) (c := 23) (d := 0) rfl)).trans hgy426
          have hgy428 := (hfvy100 (i + 23) (ne_o (i := i) (c := 23) (d := 0) rfl)).trans hgy427
          have hgy429 := (hfvy359 (i + 23) (ne_o (i := i) (c := 23) (d := 0) rfl)).trans hgy428
          have hgy430 := up_n egy366 hgy429 (ne_o (i := i) (c := 23) (d := 22) rfl)
          have htxy431 : okTx cs gy365 i Fvy359 := ⟨_, _, _, _, _, _, _, _, ⟨hgy394, hgy400, hgy406, hgy412, hgy418, hgy424, hgy367, hgy430⟩, ⟨⟨by omega, by omega, by omega⟩, hop1, hmn1, hai1, hfa1, haky385, hlay388⟩⟩
          exact z_vret C hr hlk dX10_table1_95 (by decide) (by decide) ⟨rfl, rfl, rfl, ⟨_, hgy370, hrdy379, by omega, by omega, hFy371, htxy431⟩, fun j j1 j2 => by rw [egy366, va_up_ne _ _ (by omega)]; rw [hfvy359 _ (by omega)]; rw [hfvy100 _ (by omega)]; rw [hfvy88 _ (by omega)]; rw [hfvy31 _ (by omega)]; rw [hfvy19 _ (by omega)]⟩
  · refine z_if_ne (tgt := 25) C dX10_table1_21 (by decide) (by omega) (fun h => absurd h (by omega)) (fun _ => ?_)
    have hFy432 : ∀ f, f ≠ 24 → f ≠ 32 → f ≠ 33 → f ≠ 35 → f ≠ 36 → f ≠ 37 → f ≠ 38 → f ≠ 47 → f ≠ 48 → f ≠ 49 → Fvy31 f = F f := fun f n24 n32 n33 n35 n36 n37 n38 n47 n48 n49 => ((hFvy31 f n24 n38).trans (hFvy19 f n32 n33 n35 n36 n37))
    have hey433 : Fvy31 32 = Fvy19 32 := (hFvy31 32 (by decide) (by decide))
    have hey434 : Fvy31 33 = Fvy19 33 := (hFvy31 33 (by decide) (by decide))
    have hey435 : Fvy31 34 = F 34 := ((hFvy31 34 (by decide) (by decide)).trans (hFvy19 34 (by decide) (by decide) (by decide) (by decide) (by decide)))
    have hey436 : Fvy31 35 = Fvy19 35 := (hFvy31 35 (by decide) (by decide))
    have hey437 : Fvy31 36 = Fvy19 36 := (hFvy31 36 (by decide) (by decide))
    have hey438 : Fvy31 37 = Fvy19 37 := (hFvy31 37 (by decide) (by decide))
    have hey439 : Fvy31 38 = Fvy31 38 := rfl
    have hrdy440 : RD Fvy31 := by unfold RD; omega
    have hey441 : Fvy31 32 = Fvy19 32 := (hFvy31 32 (by decide) (by decide))
    have hey442 : Fvy31 47 = F 47 := ((hFvy31 47 (by decide) (by decide)).trans (hFvy19 47 (by decide) (by decide) (by decide) (by decide) (by decide)))
    have hey443 : Fvy31 48 = F 48 := ((hFvy31 48 (by decide) (by decide)).trans (hFvy19 48 (by decide) (by decide) (by decide) (by decide) (by decide)))
    have hey444 : Fvy31 49 = F 49 := ((hFvy31 49 (by decide) (by decide)).trans (hFvy19 49 (by decide) (by decide) (by decide) (by decide) (by decide)))
    have hlay446 : ∀ s l : Nat, (s : Int) < Fvy31 47 → (l : Int) < mn1 s → lyT ly1 (84 * s + 7 * l) := fun s l a1 a2 => hly1 s l (by omega) a2
    have hgy447 := (hfvy19 (i + 16) (ne_o (i := i) (c := 16) (d := 0) rfl)).trans ha16
    have hgy448 := (hfvy31 (i + 16) (ne_o (i := i) (c := 16) (d := 0) rfl)).trans hgy447
    have hgy449 := (hfvy19 (i + 17) (ne_o (i := i) (c := 17) (d := 0) rfl)).trans ha17
    have hgy450 := (hfvy31 (i + 17) (ne_o (i := i) (c := 17) (d := 0) rfl)).trans hgy449
    have hgy451 := (hfvy19 (i + 18) (ne_o (i := i) (c := 18) (d := 0) rfl)).trans ha18
    have hgy452 := (hfvy31 (i + 18) (ne_o (i := i) (c := 18) (d := 0) rfl)).trans hgy451
    have hgy453 := (hfvy19 (i + 19) (ne_o (i := i) (c := 19) (d := 0) rfl)).trans ha19
    have hgy454 := (hfvy31 (i + 19) (ne_o (i := i) (c := 19) (d := 0) rfl)).trans hgy453
    have hgy455 := (hfvy19 (i + 20) (ne_o (i := i) (c := 20) (d := 0) rfl)).trans ha20
    have hgy456 := (hfvy31 (i + 20) (ne_o (i := i) (c := 20) (d := 0) rfl)).trans hgy455
    have hgy457 := (hfvy19 (i + 21) (ne_o (i := i) (c := 21) (d := 0) rfl)).trans ha21
    have hgy458 := (hfvy31 (i + 21) (ne_o (i := i) (c := 21) (d := 0) rfl)).trans hgy457
    have hgy459 := (hfvy19 (i + 22) (ne_o (i := i) (c := 22) (d := 0) rfl)).trans ha22
    have hgy460 := (hfvy31 (i + 22) (ne_o (i := i) (c := 22) (d := 0) rfl)).trans hgy459
    have hgy461 := (hfvy19 (i + 23) (ne_o (i := i) (c := 23) (d := 0) rfl)).trans ha23
    have hgy462 := (hfvy31 (i + 23) (ne_o (i := i) (c := 23) (d := 0) rfl)).trans hgy461
    have htxy463 : okTx cs gvy31 i Fvy31 := ⟨_, _, _, _, _, _, _, _, ⟨hgy448, hgy450, hgy452, hgy454, hgy456, hgy458, hgy460, hgy462⟩, ⟨⟨by omega, by omega, by omega⟩, hop1, hmn1, hai1, hfa1, htb1, hlay446⟩⟩
    exact z_vret C hr hlk dX10_table1_24 (by decide) (by decide) ⟨rfl, rfl, rfl, ⟨_, hcvy31, hrdy440, by omega, by omega, hFy432, htxy463⟩, fun j j1 j2 => by rw [hfvy31 _ (by omega)]; rw [hfvy19 _ (by omega)]⟩

set_option maxRecDepth 100000 in
set_option maxHeartbeats 4000000 in
theorem c_X10_clause1 (l : Launch) (D : va_G) (A : Nat → Prop) (cs : Nat → ClassId) (tt : Nat) (N : Nat) (ad : Nat → Nat) (g : Nat → va_E) (i : Nat) (hN : i + 30 ≤ N) (F : Nat → Int) (hg : g i = mC ad i F) (tp : Nat → Int) (ha13 : g (i + 13) = iA cs 900 tp) (htp : ∀ k, k < 900 → 0 ≤ tp k ∧ tp k ≤ 255) (hRD : RD F) (h38 : F 38 = 0) (hTx : okTx cs g i F) (h35 : F 35 ≠ 0) : zM l yX10_clause1 cX10_clause1 2 none ({ frames := 6, cells := 0, slots := 0, locals := 360 } : Room) D A cs tt N ad g [.ref (ad i)] (rV0 N ad fun g' => (∃ F' : Nat → Int, g' i = mC ad i F' ∧ RD F' ∧ F 32 ≤ F' 32 ∧ (F' 38 = 0 → F' 35 ≠ 0 → F 32 < F' 32) ∧ (∀ f, f ≠ 24 → f ≠ 32 → f ≠ 33 → f ≠ 35 → f ≠ 36 → f ≠ 37 → f ≠ 38 → f ≠ 47 → f ≠ 48 → f ≠ 49 → F' f = F f) ∧ okTx cs g' i F') ∧ ∀ j, j ≠ i → j < i + 16 ∨ i + 23 < j → g' j = g j) := by
  have hay1 : zAt ad (i) (ad i) := rfl
  have hay2 : zAt ad (i + 13) (ad (i + 13)) := rfl
  obtain ⟨d32, d33, d35, d36, d2, d37, d38⟩ := id hRD
  refine z_of (by decide) (Nat.le_of_ble_eq_true rfl) ?_
  intro pZ eZ sZ mZ below meth cZ C hr hlk hnm
  refine z_lv (lv' := [(0, .ref (ad i))]) [0] rfl ?_
  refine z_aload_n C 0 dX10_clause1_0 rfl ?_
  refine z_get (v := .int (zI (F 35))) C (by omega) hay1 hg rfl inA_X10 35 (by decide) q_1494 rfl (fv (F := F) (f := 35) rfl) dX10_clause1_1 ?_
  refine z_iconst (z := 1) C dX10_clause1_4 rfl ?_
  refine z_icmp_ne (tgt := 15) C dX10_clause1_5 (by decide) (by omega) (by omega) (fun hby3 => ?_) (fun hby3 => ?_)
  · refine z_iconst (z := -1) C dX10_clause1_15 rfl ?_
    refine z_istore_n (lv' := [(1, .int (zI (-1))), (0, .ref (ad i))]) C dX10_clause1_16 rfl (by decide) rfl ?_
    refine z_iload_n C 0 dX10_clause1_17 rfl ?_
    refine z_if_ne (tgt := 28) C dX10_clause1_18 (by decide) (by omega) (fun _ => ?_) (fun h => absurd h (by omega))
    refine z_iload_n C 0 dX10_clause1_28 rfl ?_
    refine z_iconst (z := 1) C dX10_clause1_29 rfl ?_
    refine z_icmp_ne (tgt := 40) C dX10_clause1_30 (by decide) (by omega) (by omega) (fun _ => ?_) (fun h => absurd h (by omega))
    refine z_iload_n C 0 dX10_clause1_40 rfl ?_
    refine z_iconst (z := 2) C dX10_clause1_41 rfl ?_
    refine z_icmp_ne (tgt := 52) C dX10_clause1_42 (by decide) (by omega) (by omega) (fun _ => ?_) (fun h => absurd h (by omega))
    refine z_iload_n C 0 dX10_clause1_52 rfl ?_
    refine z_bipush (z := 6) C dX10_clause1_53 (by decide) ?_
    refine z_bipush (z := 8) C dX10_clause1_55 (by decide) ?_
    refine z_cS (As := [.int (zI (-1)), .int (zI (6)), .int (zI (8))]) (rest := []) C (c_X10_within l D A cs tt N ad _ (-1) (by omega) (6) (by omega) (8) (by omega)) ms_yX10_within q_1686 hd_yX10_within (by decide) (Nat.le_of_ble_eq_true rfl) (by decide) dX10_clause1_57 rfl (kI0 fun vy4 gvy4 hvy4 => ?_)
    obtain ⟨hvy4, rfl⟩ := hvy4
    refine z_if_eq (tgt := 70) C dX10_clause1_60 (by decide) (by omega) (fun hby5 => ?_) (fun hby5 => ?_)
    · refine z_aload_n C 1 dX10_clause1_70 rfl ?_
      refine z_iconst (z := 0) C dX10_clause1_71 rfl ?_
      refine z_iconst (z := 1) C dX10_clause1_72 rfl ?_
      have h38vy6 : F 38 = 0 := h38
      refine z_cV (As := [.int (zI (0)), .int (zI (1))]) (rest := []) (ci := 12) C (c_X10_wants l D A cs tt N ad _ i hN _ hg (by omega) (0) (by omega) (1) (by omega)) (by omega) hay1 hg rfl rfl mv_yX10_wants q_1678 hd_yX10_wants (by decide) (Nat.le_of_ble_eq_true rfl) (by decide) dX10_clause1_73 rfl (kI0 fun vy6 gvy6 hvy6 => ?_)
      obtain ⟨⟨Fvy6, hcvy6, hqvy6, hbvy6, hFvy6⟩, hfvy6⟩ := hvy6
      obtain rfl : vy6 = 0 := by omega
      refine z_pop C dX10_clause1_76 rfl ?_
      have hFy7 : ∀ f, f ≠ 24 → f ≠ 32 → f ≠ 33 → f ≠ 35 → f ≠ 36 → f ≠ 37 → f ≠ 38 → f ≠ 47 → f ≠ 48 → f ≠ 49 → Fvy6 f = F f := fun f n24 n32 n33 n35 n36 n37 n38 n47 n48 n49 => (hFvy6 f n24 n38)
      have hey8 : Fvy6 32 = F 32 := (hFvy6 32 (by decide) (by decide))
      have hey9 : Fvy6 33 = F 33 := (hFvy6 33 (by decide) (by decide))
      have hey10 : Fvy6 34 = F 34 := (hFvy6 34 (by decide) (by decide))
      have hey11 : Fvy6 35 = F 35 := (hFvy6 35 (by decide) (by decide))
      have hey12 : Fvy6 36 = F 36 := (hFvy6 36 (by decide) (by decide))
      have hey13 : Fvy6 37 = F 37 := (hFvy6 37 (by decide) (by decide))
      have hey14 : Fvy6 38 = Fvy6 38 := rfl
      have hrdy15 : RD Fvy6 := by unfold RD; omega
      have hey16 : Fvy6 47 = F 47 := (hFvy6 47 (by decide) (by decide))
      have hey17 : Fvy6 48 = F 48 := (hFvy6 48 (by decide) (by decide))
      have hey18 : Fvy6 49 = F 49 := (hFvy6 49 (by decide) (by decide))
      have htx9 : okTx cs gvy6 i Fvy6 := hTx.mv (fun j j1 j2 => by rw [hfvy6 _ (by omega)]) ⟨by omega, by omega, by omega, by omega⟩
      exact z_vret C hr hlk dX10_clause1_77 (by decide) (by decide) ⟨rfl, rfl, rfl, ⟨_, hcvy6, hrdy15, by omega, by omega, hFy7, htx9⟩, fun j j1 j2 => by rw [hfvy6 _ (by omega)]⟩
    · refine z_aload_n C 1 dX10_clause1_63 rfl ?_
      have hey19 : F 32 = F 32 := rfl
      have hey20 : F 33 = F 33 := rfl
      have hey21 : F 34 = F 34 := rfl
      have hey22 : F 35 = F 35 := rfl
      have hey23 : F 36 = F 36 := rfl
      have hey24 : F 37 = F 37 := rfl
      have hey25 : F 38 = 0 := h38
      have hrdy26 : RD F := by unfold RD; omega
      have hey28 : F 32 = F 32 := rfl
      have hey29 : F 35 = F 35 := rfl
      have hey30 : F 37 = F 37 := rfl
      have hey31 : F 47 = F 47 := rfl
      have hey32 : F 48 = F 48 := rfl
      have hey33 : F 49 = F 49 := rfl
      refine z_cV (As := []) (rest := []) (ci := 12) C (c_X10_table1 l D A cs tt N ad _ i hN _ hg _ ha13 htp hrdy26 h38 hTx (by omega)) (by omega) hay1 hg rfl rfl mv_yX10_table1 q_1709 hd_yX10_table1 (by decide) (Nat.le_of_ble_eq_true rfl) (by decide) dX10_clause1_64 rfl (kV0 fun gvy27 hvy27 => ?_)
      obtain ⟨⟨Fvy27, hcvy27, hdvy27, hlvy27, hsvy27, hFvy27, hxvy27⟩, hfvy27⟩ := hvy27
      have h34vy27 : Fvy27 34 = F 34 := (hFvy27 34 (by decide) (by decide) (by decide) (by decide) (by decide) (by decide) (by decide) (by decide) (by decide) (by decide)).trans (rfl)
      obtain ⟨d32vy27, d33vy27, d35vy27, d36vy27, d2vy27, d37vy27, d38vy27⟩ := id hdvy27
      refine z_goto (tgt := 77) C dX10_clause1_67 (by decide) ?_
      have hFy34 : ∀ f, f ≠ 24 → f ≠ 32 → f ≠ 33 → f ≠ 35 → f ≠ 36 → f ≠ 37 → f ≠ 38 → f ≠ 47 → f ≠ 48 → f ≠ 49 → Fvy27 f = F f := fun f n24 n32 n33 n35 n36 n37 n38 n47 n48 n49 => (hFvy27 f n24 n32 n33 n35 n36 n37 n38 n47 n48 n49)
      have hey35 : Fvy27 32 = Fvy27 32 := rfl
      have hey36 : Fvy27 33 = Fvy27 33 := rfl
      have hey37 : Fvy27 34 = F 34 := (hFvy27 34 (by decide) (by decide) (by decide) (by decide) (by decide) (by decide) (by decide) (by decide) (by decide) (by decide))
      have hey38 : Fvy27 35 = Fvy27 35 := rfl
      have hey39 : Fvy27 36 = Fvy27 36 := rfl
      have hey40 : Fvy27 37 = Fvy27 37 := rfl
      have hey41 : Fvy27 38 = Fvy27 38 := rfl
      have hrdy42 : RD Fvy27 := by unfold RD; omega
      exact z_vret C hr hlk dX10_clause1_77 (by decide) (by decide) ⟨rfl, rfl, rfl, ⟨_, hcvy27, hrdy42, by omega, by omega, hFy34, hxvy27⟩, fun j j1 j2 => by rw [hfvy27 _ (by omega) (by omega)]⟩
  · refine z_aload_n C 0 dX10_clause1_8 rfl ?_
    refine z_get (v := .int (zI (F 37))) C (by omega) hay1 hg rfl inA_X10 37 (by decide) q_1496 rfl (fv (F := F) (f := 37) rfl) dX10_clause1_9 ?_
    refine z_goto (tgt := 16) C dX10_clause1_12 (by decide) ?_
    refine z_istore_n (lv' := [(1, .int (zI (F 37))), (0, .ref (ad i))]) C dX10_clause1_16 rfl (by decide) rfl ?_
    refine z_iload_n C 0 dX10_clause1_17 rfl ?_
    refine z_if_ne (tgt := 28) C dX10_clause1_18 (by decide) (by omega) (fun hby43 => ?_) (fun hby43 => ?_)
    · refine z_iload_n C 0 dX10_clause1_28 rfl ?_
      refine z_iconst (z := 1) C dX10_clause1_29 rfl ?_
      refine z_icmp_ne (tgt := 40) C dX10_clause1_30 (by decide) (by omega) (by omega) (fun hby44 => ?_) (fun hby44 => ?_)
      · refine z_iload_n C 0 dX10_clause1_40 rfl ?_
        refine z_iconst (z := 2) C dX10_clause1_41 rfl ?_
        refine z_icmp_ne (tgt := 52) C dX10_clause1_42 (by decide) (by omega) (by omega) (fun hby45 => ?_) (fun hby45 => ?_)
        · refine z_iload_n C 0 dX10_clause1_52 rfl ?_
          refine z_bipush (z := 6) C dX10_clause1_53 (by decide) ?_
          refine z_bipush (z := 8) C dX10_clause1_55 (by decide) ?_
          refine z_cS (As := [.int (zI (F 37)), .int (zI (6)), .int (zI (8))]) (rest := []) C (c_X10_within l D A cs tt N ad _ (F 37) (by omega) (6) (by omega) (8) (by omega)) ms_yX10_within q_1686 hd_yX10_within (by decide) (Nat.le_of_ble_eq_true rfl) (by decide) dX10_clause1_57 rfl (kI0 fun vy46 gvy46 hvy46 => ?_)
          obtain ⟨hvy46, rfl⟩ := hvy46
          refine z_if_eq (tgt := 70) C dX10_clause1_60 (by decide) (by omega) (fun hby47 => ?_) (fun hby47 => ?_)
          · refine z_aload_n C 1 dX10_clause1_70 rfl ?_
            refine z_iconst (z := 0) C dX10_clause1_71 rfl ?_
            refine z_iconst (z := 1) C dX10_clause1_72 rfl ?_
            have h38vy48 : F 38 = 0 := h38
            refine z_cV (As := [.int (zI (0)), .int (zI (1))]) (rest := []) (ci := 12) C (c_X10_wants l D A cs tt N ad _ i hN _ hg (by omega) (0) (by omega) (1) (by omega)) (by omega) hay1 hg rfl rfl mv_yX10_wants q_1678 hd_yX10_wants (by decide) (Nat.le_of_ble_eq_true rfl) (by decide) dX10_clause1_73 rfl (kI0 fun vy48 gvy48 hvy48 => ?_)
            obtain ⟨⟨Fvy48, hcvy48, hqvy48, hbvy48, hFvy48⟩, hfvy48⟩ := hvy48
            obtain rfl : vy48 = 0 := by omega
            refine z_pop C dX10_clause1_76 rfl ?_
            have hFy49 : ∀ f, f ≠ 24 → f ≠ 32 → f ≠ 33 → f ≠ 35 → f ≠ 36 → f ≠ 37 → f ≠ 38 → f ≠ 47 → f ≠ 48 → f ≠ 49 → Fvy48 f = F f := fun f n24 n32 n33 n35 n36 n37 n38 n47 n48 n49 => (hFvy48 f n24 n38)
            have hey50 : Fvy48 32 = F 32 := (hFvy48 32 (by decide) (by decide))
            have hey51 : Fvy48 33 = F 33 := (hFvy48 33 (by decide) (by decide))
            have hey52 : Fvy48 34 = F 34 := (hFvy48 34 (by decide) (by decide))
            have hey53 : Fvy48 35 = F 35 := (hFvy48 35 (by decide) (by decide))
            have hey54 : Fvy48 36 = F 36 := (hFvy48 36 (by decide) (by decide))
            have hey55 : Fvy48 37 = F 37 := (hFvy48 37 (by decide) (by decide))
            have hey56 : Fvy48 38 = Fvy48 38 := rfl
            have hrdy57 : RD Fvy48 := by unfold RD; omega
            have hey58 : Fvy48 47 = F 47 := (hFvy48 47 (by decide) (by decide))
            have hey59 : Fvy48 48 = F 48 := (hFvy48 48 (by decide) (by decide))
            have hey60 : Fvy48 49 = F 49 := (hFvy48 49 (by decide) (by decide))
            have htx9 : okTx cs gvy48 i Fvy48 := hTx.mv (fun j j1 j2 => by rw [hfvy48 _ (by omega)]) ⟨by omega, by omega, by omega, by omega⟩
            exact z_vret C hr hlk dX10_clause1_77 (by decide) (by decide) ⟨rfl, rfl, rfl, ⟨_, hcvy48, hrdy57, by omega, by omega, hFy49, htx9⟩, fun j j1 j2 => by rw [hfvy48 _ (by omega)]⟩
          · refine z_aload_n C 1 dX10_clause1_63 rfl ?_
            have hey61 : F 32 = F 32 := rfl
            have hey62 : F 33 = F 33 := rfl
            have hey63 : F 34 = F 34 := rfl
            have hey64 : F 35 = F 35 := rfl
            have hey65 : F 36 = F 36 := rfl
            have hey66 : F 37 = F 37 := rfl
            have hey67 : F 38 = 0 := h38
            have hrdy68 : RD F := by unfold RD; omega
            have hey70 : F 32 = F 32 := rfl
            have hey71 : F 35 = F 35 := rfl
            have hey72 : F 37 = F 37 := rfl
            have hey73 : F 47 = F 47 := rfl
            have hey74 : F 48 = F 48 := rfl
            have hey75 : F 49 = F 49 := rfl
            refine z_cV (As := []) (rest := []) (ci := 12) C (c_X10_table1 l D A cs tt N ad _ i hN _ hg _ ha13 htp hrdy68 h38 hTx (by omega)) (by omega) hay1 hg rfl rfl mv_yX10_table1 q_1709 hd_yX10_table1 (by decide) (Nat.le_of_ble_eq_true rfl) (by decide) dX10_clause1_64 rfl (kV0 fun gvy69 hvy69 => ?_)
            obtain ⟨⟨Fvy69, hcvy69, hdvy69, hlvy69, hsvy69, hFvy69, hxvy69⟩, hfvy69⟩ := hvy69
            have h34vy69 : Fvy69 34 = F 34 := (hFvy69 34 (by decide) (by decide) (by decide) (by decide) (by decide) (by decide) (by decide) (by decide) (by decide) (by decide)).trans (rfl)
            obtain ⟨d32vy69, d33vy69, d35vy69, d36vy69, d2vy69, d37vy69, d38vy69⟩ := id hdvy69
            refine z_goto (tgt := 77) C dX10_clause1_67 (by decide) ?_
            have hFy76 : ∀ f, f ≠ 24 → f ≠ 32 → f ≠ 33 → f ≠ 35 → f ≠ 36 → f ≠ 37 → f ≠ 38 → f ≠ 47 → f ≠ 48 → f ≠ 49 → Fvy69 f = F f := fun f n24 n32 n33 n35 n36 n37 n38 n47 n48 n49 => (hFvy69 f n24 n32 n33 n35 n36 n37 n38 n47 n48 n49)
            have hey77 : Fvy69 32 = Fvy69 32 := rfl
            have hey78 : Fvy69 33 = Fvy69 33 := rfl
            have hey79 : Fvy69 34 = F 34 := (hFvy69 34 (by decide) (by decide) (by decide) (by decide) (by decide) (by decide) (by decide) (by decide) (by decide) (by decide))
            have hey80 : Fvy69 35 = Fvy69 35 := rfl
            have hey81 : Fvy69 36 = Fvy69 36 := rfl
            have hey82 : Fvy69 37 = Fvy69 37 := rfl
            have hey83 : Fvy69 38 = Fvy69 38 := rfl
            have hrdy84 : RD Fvy69 := by unfold RD; omega
            exact z_vret C hr hlk dX10_clause1_77 (by decide) (by decide) ⟨rfl, rfl, rfl, ⟨_, hcvy69, hrdy84, by omega, by omega, hFy76, hxvy69⟩, fun j j1 j2 => by rw [hfvy69 _ (by omega) (by omega)]⟩
        · refine z_aload_n C 1 dX10_clause1_45 rfl ?_
          have hey85 : F 32 = F 32 := rfl
          have hey86 : F 33 = F 33 := rfl
          have hey87 : F 34 = F 34 := rfl
          have hey88 : F 35 = F 35 := rfl
          have hey89 : F 36 = F 36 := rfl
          have hey90 : F 37 = F 37 := rfl
          have hey91 : F 38 = 0 := h38
          have hrdy92 : RD F := by unfold RD; omega
          have hey94 : F 32 = F 32 := rfl
          have hey95 : F 35 = F 35 := rfl
          have hey96 : F 37 = F 37 := rfl
          have hey97 : F 47 = F 47 := rfl
          have hey98 : F 48 = F 48 := rfl
          have hey99 : F 49 = F 49 := rfl
          refine z_cV (As := []) (rest := []) (ci := 12) C (c_X10_hour1 l D A cs tt N ad _ i hN _ hg _ ha13 htp hrdy92 h38 hTx) (by omega) hay1 hg rfl rfl mv_yX10_hour1 q_1701 hd_yX10_hour1 (by decide) (Nat.le_of_ble_eq_true rfl) (by decide) dX10_clause1_46 rfl (kV0 fun gvy93 hvy93 => ?_)
          obtain ⟨⟨Fvy93, hcvy93, hdvy93, hlvy93, hsvy93, hFvy93, hxvy93⟩, hfvy93⟩ := hvy93
          have h34vy93 : Fvy93 34 = F 34 := (hFvy93 34 (by decide) (by decide) (by decide) (by decide) (by decide) (by decide) (by decide) (by decide) (by decide) (by decide)).trans (rfl)
          obtain ⟨d32vy93, d33vy93, d35vy93, d36vy93, d2vy93, d37vy93, d38vy93⟩ := id hdvy93
          refine z_goto (tgt := 77) C dX10_clause1_49 (by decide) ?_
          have hFy100 : ∀ f, f ≠ 24 → f ≠ 32 → f ≠ 33 → f ≠ 35 → f ≠ 36 → f ≠ 37 → f ≠ 38 → f ≠ 47 → f ≠ 48 → f ≠ 49 → Fvy93 f = F f := fun f n24 n32 n33 n35 n36 n37 n38 n47 n48 n49 => (hFvy93 f n24 n32 n33 n35 n36 n37 n38 n47 n48 n49)
          have hey101 : Fvy93 32 = Fvy93 32 := rfl
          have hey102 : Fvy93 33 = Fvy93 33 := rfl
          have hey103 : Fvy93 34 = F 34 := (hFvy93 34 (by decide) (by decide) (by decide) (by decide) (by decide) (by decide) (by decide) (by decide) (by decide) (by decide))
          have hey104 : Fvy93 35 = Fvy93 35 := rfl
          have hey105 : Fvy93 36 = Fvy93 36 := rfl
          have hey106 : Fvy93 37 = Fvy93 37 := rfl
          have hey107 : Fvy93 38 = Fvy93 38 := rfl
          have hrdy108 : RD Fvy93 := by unfold RD; omega
          exact z_vret C hr hlk dX10_clause1_77 (by decide) (by decide) ⟨rfl, rfl, rfl, ⟨_, hcvy93, hrdy108, by omega, by omega, hFy100, hxvy93⟩, fun j j1 j2 => by rw [hfvy93 _ (by omega) (by omega)]⟩
      · refine z_aload_n C 1 dX10_clause1_33 rfl ?_
        have hey109 : F 32 = F 32 := rfl
        have hey110 : F 33 = F 33 := rfl
        have hey111 : F 34 = F 34 := rfl
        have hey112 : F 35 = F 35 := rfl
        have hey113 : F 36 = F 36 := rfl
        have hey114 : F 37 = F 37 := rfl
        have hey115 : F 38 = 0 := h38
        have hrdy116 : RD F := by unfold RD; omega
        have hey118 : F 32 = F 32 := rfl
        have hey119 : F 35 = F 35 := rfl
        have hey120 : F 37 = F 37 := rfl
        have hey121 : F 47 = F 47 := rfl
        have hey122 : F 48 = F 48 := rfl
        have hey123 : F 49 = F 49 := rfl
        refine z_cV (As := []) (rest := []) (ci := 12) C (c_X10_layer1 l D A cs tt N ad _ i hN _ hg _ ha13 htp hrdy116 h38 hTx) (by omega) hay1 hg rfl rfl mv_yX10_layer1 q_1689 hd_yX10_layer1 (by decide) (Nat.le_of_ble_eq_true rfl) (by decide) dX10_clause1_34 rfl (kV0 fun gvy117 hvy117 => ?_)
        obtain ⟨⟨Fvy117, hcvy117, hdvy117, hlvy117, hsvy117, hFvy117, hxvy117⟩, hfvy117⟩ := hvy117
        have h34vy117 : Fvy117 34 = F 34 := (hFvy117 34 (by decide) (by decide) (by decide) (by decide) (by decide) (by decide) (by decide) (by decide) (by decide) (by decide)).trans (rfl)
        obtain ⟨d32vy117, d33vy117, d35vy117, d36vy117, d2vy117, d37vy117, d38vy117⟩ := id hdvy117
        refine z_goto (tgt := 77) C dX10_clause1_37 (by decide) ?_
        have hFy124 : ∀ f, f ≠ 24 → f ≠ 32 → f ≠ 33 → f ≠ 35 → f ≠ 36 → f ≠ 37 → f ≠ 38 → f ≠ 47 → f ≠ 48 → f ≠ 49 → Fvy117 f = F f := fun f n24 n32 n33 n35 n36 n37 n38 n47 n48 n49 => (hFvy117 f n24 n32 n33 n35 n36 n37 n38 n47 n48 n49)
        have hey125 : Fvy117 32 = Fvy117 32 := rfl
        have hey126 : Fvy117 33 = Fvy117 33 := rfl
        have hey127 : Fvy117 34 = F 34 := (hFvy117 34 (by decide) (by decide) (by decide) (by decide) (by decide) (by decide) (by decide) (by decide) (by decide) (by decide))
        have hey128 : Fvy117 35 = Fvy117 35 := rfl
        have hey129 : Fvy117 36 = Fvy117 36 := rfl
        have hey130 : Fvy117 37 = Fvy117 37 := rfl
        have hey131 : Fvy117 38 = Fvy117 38 := rfl
        have hrdy132 : RD Fvy117 := by unfold RD; omega
        exact z_vret C hr hlk dX10_clause1_77 (by decide) (by decide) ⟨rfl, rfl, rfl, ⟨_, hcvy117, hrdy132, by omega, by omega, hFy124, hxvy117⟩, fun j j1 j2 => by rw [hfvy117 _ (by omega) (by omega)]⟩
    · refine z_aload_n C 1 dX10_clause1_21 rfl ?_
      have hey133 : F 32 = F 32 := rfl
      have hey134 : F 33 = F 33 := rfl
      have hey135 : F 34 = F 34 := rfl
      have hey136 : F 35 = F 35 := rfl
      have hey137 : F 36 = F 36 := rfl
      have hey138 : F 37 = F 37 := rfl
      have hey139 : F 38 = 0 := h38
      have hrdy140 : RD F := by unfold RD; omega
      have hey142 : F 32 = F 32 := rfl
      have hey143 : F 35 = F 35 := rfl
      have hey144 : F 37 = F 37 := rfl
      have hey145 : F 47 = F 47 := rfl
      have hey146 : F 48 = F 48 := rfl
      have hey147 : F 49 = F 49 := rfl
      refine z_cV (As := []) (rest := []) (ci := 12) C (c_X10_slope1 l D A cs tt N ad _ i hN _ hg _ ha13 htp hrdy140 h38 hTx) (by omega) hay1 hg rfl rfl mv_yX10_slope1 q_1674 hd_yX10_slope1 (by decide) (Nat.le_of_ble_eq_true rfl) (by decide) dX10_clause1_22 rfl (kV0 fun gvy141 hvy141 => ?_)
      obtain ⟨⟨Fvy141, hcvy141, hdvy141, hlvy141, hsvy141, hFvy141, hxvy141⟩, hfvy141⟩ := hvy141
      have h34vy141 : Fvy141 34 = F 34 := (hFvy141 34 (by decide) (by decide) (by decide) (by decide) (by decide) (by decide) (by decide) (by decide) (by decide) (by decide)).trans (rfl)
      obtain ⟨d32vy141, d33vy141, d35vy141, d36vy141, d2vy141, d37vy141, d38vy141⟩ := id hdvy141
      refine z_goto (tgt := 77) C dX10_clause1_25 (by decide) ?_
      have hFy148 : ∀ f, f ≠ 24 → f ≠ 32 → f ≠ 33 → f ≠ 35 → f ≠ 36 → f ≠ 37 → f ≠ 38 → f ≠ 47 → f ≠ 48 → f ≠ 49 → Fvy141 f = F f := fun f n24 n32 n33 n35 n36 n37 n38 n47 n48 n49 => (hFvy141 f n24 n32 n33 n35 n36 n37 n38 n47 n48 n49)
      have hey149 : Fvy141 32 = Fvy141 32 := rfl
      have hey150 : Fvy141 33 = Fvy141 33 := rfl
      have hey151 : Fvy141 34 = F 34 := (hFvy141 34 (by decide) (by decide) (by decide) (by decide) (by decide) (by decide) (by decide) (by decide) (by decide) (by decide))
      have hey152 : Fvy141 35 = Fvy141 35 := rfl
      have hey153 : Fvy141 36 = Fvy141 36 := rfl
      have hey154 : Fvy141 37 = Fvy141 37 := rfl
      have hey155 : Fvy141 38 = Fvy141 38 := rfl
      have hrdy156 : RD Fvy141 := by unfold RD; omega
      exact z_vret C hr hlk dX10_clause1_77 (by decide) (by decide) ⟨rfl, rfl, rfl, ⟨_, hcvy141, hrdy156, by omega, by omega, hFy148, hxvy141⟩, fun j j1 j2 => by rw [hfvy141 _ (by omega) (by omega)]⟩

