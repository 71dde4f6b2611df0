set_option maxRecDepth 100000 in
set_option maxHeartbeats 4000000 in
theorem c_ySlope (l : Launch) (D : va_G) (A : Nat → Prop) (cs : Nat → ClassId) (tt : Nat) (N : Nat) (ad : Nat → Nat) (g : Nat → va_E) (i : Nat) (hN : i + 30 ≤ N) (F : Nat → Int) (hg : g i = mC ad i F) (tp : Nat → Int) (ha13 : g (i + 13) = iA cs 900 tp) (T : Nat → Int) (n : Nat) (hn : n ≤ 900) (hTb : ∀ k, k < n → 0 ≤ T k ∧ T k ≤ 255) (hTt : ∀ k, k < n → tp k = T k) (htp : ∀ k, k < 900 → 0 ≤ tp k ∧ tp k ≤ 255) (f : Nat) (hk : tkR T n F f) (h38 : F 38 = 0) (hfl : f < n) (sl ho nm : Int) (mn st op ai fa mu tb B : Nat → Int) (Lz : Nat → Nat → Int) (hX : xTx cs g i F (sl, ho, nm, mn, st, op, ai, fa, mu, tb, B, Lz)) : zM l yX10_slope1 cX10_slope1 1 none ({ frames := 5, cells := 0, slots := 0, locals := 300 } : Room) D A cs tt N ad g [.ref (ad i)] (rV0 N ad fun g' => (∃ F' : Nat → Int, g' i = mC ad i F' ∧ (∀ f, f ≠ 24 → f ≠ 32 → f ≠ 33 → f ≠ 35 → f ≠ 36 → f ≠ 37 → f ≠ 38 → f ≠ 47 → f ≠ 48 → f ≠ 49 → F' f = F f) ∧ ((∃ v, cl_slope T n sl f = .ok v ∧ F' 38 = 0 ∧ F' 24 = F 24 ∧ f < v.2 ∧ tkR T n F' v.2 ∧ xTx cs g' i F' (sl + 1, ho, nm, mn, uZ st (sl).toNat v.1.1, uZ op (sl).toNat v.1.2, ai, fa, mu, tb, B, Lz)) ∨ (∃ e : Int × Nat, cl_slope T n sl f = .error e ∧ F' 38 = e.1 ∧ F' 24 = (e.2 : Int) ∧ (1 ≤ e.1 ∧ e.1 ≤ 5) ∧ (∃ f9, tkR T n F' f9) ∧ okTx cs g' i F'))) ∧ ∀ j, j ≠ i → j < i + 16 ∨ i + 23 < j → g' j = g j) := by
  have hay1 : zAt ad (i) (ad i) := rfl
  have hay2 : zAt ad (i + 13) (ad (i + 13)) := rfl
  have hsry3 := srt_b T n f
  have hvly4 := vlu_b hTb f
  have hwby5 := tk_w_b T n f
  have hfny6 := hk.1
  obtain ⟨st1, op1, mn1, ai1, fa1, mu1, tb1, ly1, ⟨ha16, ha17, ha18, ha19, ha20, ha21, ha22, ha23⟩, ⟨⟨t47, t48, t49⟩, hop1, hmn1, hai1, hfa1, htb1, hly1⟩, hrT⟩ := hX
  have r47 : F 47 = sl := hrT.1.1
  have r48 : F 48 = ho := hrT.1.2.1
  have r49 : F 49 = nm := hrT.1.2.2
  have r32 : F 32 = ((tk_to T n f : Nat) : Int) := hk.2.1
  have hto0 := tk_to_nx (T := T) (n := n) (f := f) hk.1.1
  have rsl : ∀ k : Nat, (k : Int) < sl → mn1 k = mn k := fun k h9 => (hrT.2.1 k h9).2.2
  have rtb : ∀ k : Nat, k < 15 → (tb1 k = -1 ∧ B k = 0) ∨ (0 ≤ tb1 k ∧ B k = 1) := fun k h9 => by
    rcases hrT.2.2.2.1 k h9 with ⟨a9, b9, c9⟩ | ⟨a9, b9, c9⟩
    · exact Or.inl ⟨a9, b9⟩
    · exact Or.inr ⟨a9, b9⟩
  have rs4 : 0 ≤ sl ∧ sl ≤ 4 := by omega
  have rh4 : 0 ≤ ho ∧ ho ≤ 24 := by omega
  have hay7 : zAt ad (i + 16) (ad (i + 16)) := rfl
  have hay8 : zAt ad (i + 17) (ad (i + 17)) := rfl
  have hay9 : zAt ad (i + 18) (ad (i + 18)) := rfl
  have hay10 : zAt ad (i + 19) (ad (i + 19)) := rfl
  have hay11 : zAt ad (i + 20) (ad (i + 20)) := rfl
  have hay12 : zAt ad (i + 21) (ad (i + 21)) := rfl
  have hay13 : zAt ad (i + 22) (ad (i + 22)) := rfl
  have hay14 : zAt ad (i + 23) (ad (i + 23)) := rfl
  have htbr : ∀ k, k < 15 → -1 ≤ tb1 k ∧ tb1 k ≤ 9999 := fun k hk => by have h9 := htb1 k hk; omega
  refine z_of (by decide) (Nat.le_of_ble_eq_true rfl) ?_
  intro pZ eZ sZ mZ below meth cZ C hr hlk hnm
  refine z_lv (lv' := [(0, .ref (ad i))]) [0] rfl ?_
  refine z_aload_n C 0 dX10_slope1_0 rfl ?_
  refine z_aload_n C 0 dX10_slope1_1 rfl ?_
  refine z_get (v := .int (zI (sl))) C (lt_A0 hN rfl) hay1 hg rfl inA_X10 47 (by decide) q_1506 rfl (fv (F := F) (f := 47) r47) dX10_slope1_2 ?_
  refine z_iconst (z := 4) C dX10_slope1_5 rfl ?_
  refine z_icmp_ge (tgt := 13) C dX10_slope1_6 (by decide) (by omega) (by omega) (fun hby15 => ?_) (fun hby15 => ?_)
  · have hscy16 : (4 ≤ sl) := by omega
    refine z_iconst (z := 0) C dX10_slope1_13 rfl ?_
    refine z_iconst (z := 2) C dX10_slope1_14 rfl ?_
    have h33vy18 : F 33 = (f : Int) := hk.2.2.1
    have h24vy18 : F 24 = F 24 := rfl
    have htvy18 : tkR T n F f := hk
    refine z_cV (As := [.int (zI (0)), .int (zI (2))]) (rest := []) (ci := 12) C (c_yWants l D A cs tt N ad _ i hN _ hg h38 (0) (by omega) (2) (by omega)) (lt_A0 hN rfl) hay1 hg rfl rfl mv_yX10_wants q_1682 hd_yX10_wants (by decide) (Nat.le_of_ble_eq_true rfl) (by decide) dX10_slope1_15 rfl (kI0 fun vy18 gvy18 hvy18 => ?_)
    obtain ⟨⟨Fvy18, hcvy18, hqvy18, hFvy18⟩, hfvy18⟩ := hvy18
    obtain ⟨rfl, hevy18, hbvy18⟩ : vy18 = 0 ∧ Fvy18 38 = 2 ∧ Fvy18 24 = (f : Int) := by omega
    clear hqvy18 h33vy18 h24vy18
    have hkvy18 : tkR T n Fvy18 f := tkR.w htvy18 hFvy18 (by omega)
    refine z_if_ne (tgt := 22) C dX10_slope1_18 (by decide) (by omega) (fun h => absurd h (by omega)) (fun _ => ?_)
    have hFy19 : ∀ f, f ≠ 24 → f ≠ 32 → f ≠ 33 → f ≠ 35 → f ≠ 36 → f ≠ 37 → f ≠ 38 → f ≠ 47 → f ≠ 48 → f ≠ 49 → Fvy18 f = F f := fun f n24 n32 n33 n35 n36 n37 n38 n47 n48 n49 => (hFvy18 f n24 n38)
    have htky20 : tkR T n Fvy18 f := hkvy18
    have htoy21 := tk_to_w (T := T) (n := n) (f := f) htky20.1.1
    have h32y22 := htky20.2.1
    have hey23 : Fvy18 24 = (f : Int) := hbvy18
    have hey24 : Fvy18 38 = 2 := hevy18
    have hey25 : Fvy18 47 = sl := ((hFvy18 47 (by decide) (by decide)).trans r47)
    have hey26 : Fvy18 48 = ho := ((hFvy18 48 (by decide) (by decide)).trans r48)
    have hey27 : Fvy18 49 = nm := ((hFvy18 49 (by decide) (by decide)).trans r49)
    have hlay29 : ∀ s l : Nat, (s : Int) < Fvy18 47 → (l : Int) < mn1 s → lyT ly1 (84 * s + 7 * l) := by
      intro s l a1 a2
      have hm9 := hmn1 s (by omega)
      exact hly1 s l (by omega) a2
    have hgy30 := (hfvy18 (i + 16) (ne_o (i := i) (c := 16) (d := 0) rfl)).trans ha16
    have hgy31 := (hfvy18 (i + 17) (ne_o (i := i) (c := 17) (d := 0) rfl)).trans ha17
    have hgy32 := (hfvy18 (i + 18) (ne_o (i := i) (c := 18) (d := 0) rfl)).trans ha18
    have hgy33 := (hfvy18 (i + 19) (ne_o (i := i) (c := 19) (d := 0) rfl)).trans ha19
    have hgy34 := (hfvy18 (i + 20) (ne_o (i := i) (c := 20) (d := 0) rfl)).trans ha20
    have hgy35 := (hfvy18 (i + 21) (ne_o (i := i) (c := 21) (d := 0) rfl)).trans ha21
    have hgy36 := (hfvy18 (i + 22) (ne_o (i := i) (c := 22) (d := 0) rfl)).trans ha22
    have hgy37 := (hfvy18 (i + 23) (ne_o (i := i) (c := 23) (d := 0) rfl)).trans ha23
    have htxy38 : okTx cs gvy18 i Fvy18 := ⟨_, _, _, _, _, _, _, _, ⟨hgy30, hgy31, hgy32, hgy33, hgy34, hgy35, hgy36, hgy37⟩, ⟨⟨by omega, by omega, by omega⟩, hop1, hmn1, hai1, hfa1, htb1, hlay29⟩⟩
    exact z_vret C hr hlk dX10_slope1_21 (by decide) (by decide) ⟨rfl, rfl, rfl, ⟨_, hcvy18, hFy19, Or.inr ⟨(2, f), by simp only [cl_slope, if_pos hscy16], by show Fvy18 38 = 2; omega, by show Fvy18 24 = ((f : Nat) : Int); omega, by show 1 ≤ 2 ∧ 2 ≤ 5; omega, ⟨_, htky20⟩, htxy38⟩⟩, fun j j1 j2 => by rw [hfvy18 _ (by omega)]⟩
  · have hscy17 : ¬ (4 ≤ sl) := by omega
    refine z_iconst (z := 1) C dX10_slope1_9 rfl ?_
    refine z_goto (tgt := 14) C dX10_slope1_10 (by decide) ?_
    refine z_iconst (z := 2) C dX10_slope1_14 rfl ?_
    have h33vy39 : F 33 = (f : Int) := hk.2.2.1
    have h24vy39 : F 24 = F 24 := rfl
    have htvy39 : tkR T n F f := hk
    refine z_cV (As := [.int (zI (1)), .int (zI (2))]) (rest := []) (ci := 12) C (c_yWants l D A cs tt N ad _ i hN _ hg h38 (1) (by omega) (2) (by omega)) (lt_A0 hN rfl) hay1 hg rfl rfl mv_yX10_wants q_1682 hd_yX10_wants (by decide) (Nat.le_of_ble_eq_true rfl) (by decide) dX10_slope1_15 rfl (kI0 fun vy39 gvy39 hvy39 => ?_)
    obtain ⟨⟨Fvy39, hcvy39, hqvy39, hFvy39⟩, hfvy39⟩ := hvy39
    obtain ⟨rfl, hevy39, hbvy39⟩ : vy39 = 1 ∧ Fvy39 38 = 0 ∧ Fvy39 24 = F 24 := by omega
    clear hqvy39 h33vy39 h24vy39
    have hkvy39 : tkR T n Fvy39 f := tkR.w htvy39 hFvy39 (by omega)
    refine z_if_ne (tgt := 22) C dX10_slope1_18 (by decide) (by omega) (fun _ => ?_) (fun h => absurd h (by omega))
    refine z_aload_n C 0 dX10_slope1_22 rfl ?_
    have hgy40 := (hfvy39 (i + 13) (ne_o (i := i) (c := 13) (d := 0) rfl)).trans ha13
    have htvy41 : tkR T n Fvy39 f := hkvy39
    refine z_cV (As := []) (rest := []) (ci := 12) C (c_yGo l D A cs tt N ad _ i hN _ hcvy39 _ hgy40 T n hn hTb hTt htp (tk_to T n f) (tk_to_b htvy41.1.1).2.1 htvy41.2.1 htvy41.2.2.2.1 htvy41.2.2.2.2.2.2.2) (lt_A0 hN rfl) hay1 hcvy39 rfl rfl mv_yX10_go q_1656 hd_yX10_go (by decide) (Nat.le_of_ble_eq_true rfl) (by decide) dX10_slope1_23 rfl (kV0 fun gvy41 hvy41 => ?_)
    obtain ⟨⟨Fvy41, hcvy41, hjvy41, hFvy41⟩, hfvy41⟩ := hvy41
    have hkvy41 : tkR T n Fvy41 (tk_nx T n f) := hjvy41
    have hnbvy41 := tk_nx_s (T := T) (n := n) (f := f) hfl
    clear hjvy41
    have hsry42 := srt_b T n (tk_nx T n f)
    have hvly43 := vlu_b hTb (tk_nx T n f)
    have hwby44 := tk_w_b T n (tk_nx T n f)
    have hfny45 := hkvy41.1
    refine z_aload_n C 0 dX10_slope1_26 rfl ?_
    refine z_get (v := .ref (ad (i + 16))) C (lt_A0 hN rfl) hay1 hcvy41 rfl inA_X10 39 (by decide) q_1498 rfl rfl dX10_slope1_27 ?_
    refine z_aload_n C 0 dX10_slope1_30 rfl ?_
    refine z_get (v := .int (zI (sl))) C (lt_A0 hN rfl) hay1 hcvy41 rfl inA_X10 47 (by decide) q_1506 rfl (fv (F := Fvy41) (f := 47) ((hFvy41 47 (by decide) (by decide) (by decide) (by decide) (by decide)).trans ((hFvy39 47 (by decide) (by decide)).trans r47))) dX10_slope1_31 ?_
    refine z_aload_n C 0 dX10_slope1_34 rfl ?_
    refine z_iconst (z := 0) C dX10_slope1_35 rfl ?_
    refine z_bipush (z := 90) C dX10_slope1_36 (by decide) ?_
    have hgy46 := (hfvy41 (i + 13) (ne_o (i := i) (c := 13) (d := 0) rfl)).trans hgy40
    have h24vy47 : Fvy41 24 = F 24 := ((hFvy41 24 (by decide) (by decide) (by decide) (by decide) (by decide)).trans hbvy39)
    refine z_cV (As := [.int (zI (0)), .int (zI (90))]) (rest := [.int (zI (sl)), .ref (ad (i + 16))]) (ci := 12) C (c_yNumber l D A cs tt N ad _ i hN _ hcvy41 _ hgy46 T n hn hTb hTt htp (tk_nx T n f) hkvy41 ((hFvy41 38 (by decide) (by decide) (by decide) (by decide) (by decide)).trans hevy39) (0) (by omega) (90) (by omega)) (lt_A0 hN rfl) hay1 hcvy41 rfl rfl mv_yX10_number q_1686 hd_yX10_number (by decide) (Nat.le_of_ble_eq_true rfl) (by decide) dX10_slope1_38 rfl (kI0 fun vy47 gvy47 hvy47 => ?_)
    obtain ⟨⟨Fvy47, hcvy47, hqvy47, hFvy47⟩, hfvy47⟩ := hvy47
    rcases hqvy47 with hqvy47 | hqvy47
    · obtain ⟨hnvy47, hrvy47, hltvy47, hevy47, hb0vy47, hkvy47⟩ := hqvy47
      have hbvy47 : Fvy47 24 = F 24 := hb0vy47.trans h24vy47
      have hnbvy47 := tk_nx_s (T := T) (n := n) (f := (tk_nx T n f)) hltvy47
      clear hb0vy47 h24vy47
      have hsry48 := srt_b T n (tk_nx T n (tk_nx T n f))
      have hvly49 := vlu_b hTb (tk_nx T n (tk_nx T n f))
      have hwby50 := tk_w_b T n (tk_nx T n (tk_nx T n f))
      have hfny51 := hkvy47.1
      have hgy52 := (hfvy39 (i + 16) (ne_o (i := i) (c := 16) (d := 0) rfl)).trans ha16
      have hgy53 := (hfvy41 (i + 16) (ne_o (i := i) (c := 16) (d := 0) rfl)).trans hgy52
      have hgy54 := (hfvy47 (i + 16) (ne_o (i := i) (c := 16) (d := 0) rfl)).trans hgy53
      refine z_iast C (lt_A (c := 16) hN rfl) hay7 hgy54 ((sl).toNat) (by omega) (by omega) (by decide) dX10_slope1_41 (fun gy55 egy56 => ?_)
      have hgy57 := up_s egy56
      obtain ⟨ry58, hvy59⟩ : ∃ rZ9 : Nat → Int, rZ9 = uZ st1 ((sl).toNat) (vy47) := ⟨_, rfl⟩
      rw [← hvy59] at hgy57
      refine z_aload_n C 0 dX10_slope1_42 rfl ?_
      have hgy60 := up_n egy56 hcvy47 (ne_o (i := i) (c := 0) (d := 16) rfl)
      refine z_get (v := .int (zI (0))) C (lt_A0 hN rfl) hay1 hgy60 rfl inA_X10 38 (by decide) q_1497 rfl (fv (F := Fvy47) (f := 38) hevy47) dX10_slope1_43 ?_
      refine z_if_ne (tgt := 65) C dX10_slope1_46 (by decide) (by omega) (fun h => absurd h (by omega)) (fun _ => ?_)
      refine z_aload_n C 0 dX10_slope1_49 rfl ?_
      refine z_get (v := .ref (ad (i + 17))) C (lt_A0 hN rfl) hay1 hgy60 rfl inA_X10 40 (by decide) q_1499 rfl rfl dX10_slope1_50 ?_
      refine z_aload_n C 0 dX10_slope1_53 rfl ?_
      refine z_get (v := .int (zI (sl))) C (lt_A0 hN rfl) hay1 hgy60 rfl inA_X10 47 (by decide) q_1506 rfl (fv (F := Fvy47) (f := 47) ((hFvy47 47 (by decide) (by decide) (by decide) (by decide) (by decide) (by decide) (by decide)).trans ((hFvy41 47 (by decide) (by decide) (by decide) (by decide) (by decide)).trans ((hFvy39 47 (by decide) (by decide)).trans r47)))) dX10_slope1_54 ?_
      refine z_aload_n C 0 dX10_slope1_57 rfl ?_
      refine z_iconst (z := 0) C dX10_slope1_58 rfl ?_
      refine z_bipush (z := 20) C dX10_slope1_59 (by decide) ?_
      have hgy61 := (hfvy47 (i + 13) (ne_o (i := i) (c := 13) (d := 0) rfl)).trans hgy46
      have hgy62 := up_n egy56 hgy61 (ne_o (i := i) (c := 13) (d := 16) rfl)
      have h24vy63 : Fvy47 24 = F 24 := hbvy47
      refine z_cV (As := [.int (zI (0)), .int (zI (20))]) (rest := [.int (zI (sl)), .ref (ad (i + 17))]) (ci := 12) C (c_yNumber l D A cs tt N ad _ i hN _ hgy60 _ hgy62 T n hn hTb hTt htp (tk_nx T n (tk_nx T n f)) hkvy47 hevy47 (0) (by omega) (20) (by omega)) (lt_A0 hN rfl) hay1 hgy60 rfl rfl mv_yX10_number q_1686 hd_yX10_number (by decide) (Nat.le_of_ble_eq_true rfl) (by decide) dX10_slope1_61 rfl (kI0 fun vy63 gvy63 hvy63 => ?_)
      obtain ⟨⟨Fvy63, hcvy63, hqvy63, hFvy63⟩, hfvy63⟩ := hvy63
      rcases hqvy63 with hqvy63 | hqvy63
      · obtain ⟨hnvy63, hrvy63, hltvy63, hevy63, hb0vy63, hkvy63⟩ := hqvy63
        have hbvy63 : Fvy63 24 = F 24 := hb0vy63.trans h24vy63
        have hnbvy63 := tk_nx_s (T := T) (n := n) (f := (tk_nx T n (tk_nx T n f))) hltvy63
        clear hb0vy63 h24vy63
        have hsry64 := srt_b T n (tk_nx T n (tk_nx T n (tk_nx T n f)))
        have hvly65 := vlu_b hTb (tk_nx T n (tk_nx T n (tk_nx T n f)))
        have hwby66 := tk_w_b T n (tk_nx T n (tk_nx T n (tk_nx T n f)))
        have hfny67 := hkvy63.1
        have hgy68 := (hfvy39 (i + 17) (ne_o (i := i) (c := 17) (d := 0) rfl)).trans ha17
        have hgy69 := (hfvy41 (i + 17) (ne_o (i := i) (c := 17) (d := 0) rfl)).trans hgy68
        have hgy70 := (hfvy47 (i + 17) (ne_o (i := i) (c := 17) (d := 0) rfl)).trans hgy69
        have hgy71 := up_n egy56 hgy70 (ne_o (i := i) (c := 17) (d := 16) rfl)
        have hgy72 := (hfvy63 (i + 17) (ne_o (i := i) (c := 17) (d := 0) rfl)).trans hgy71
        refine z_iast C (lt_A (c := 17) hN rfl) hay8 hgy72 ((sl).toNat) (by omega) (by omega) (by decide) dX10_slope1_64 (fun gy73 egy74 => ?_)
        have hgy75 := up_s egy74
        obtain ⟨ry76, hvy77⟩ : ∃ rZ9 : Nat → Int, rZ9 = uZ op1 ((sl).toNat) (vy63) := ⟨_, rfl⟩
        rw [← hvy77] at hgy75
        refine z_aload_n C 0 dX10_slope1_65 rfl ?_
        have hgy78 := up_n egy74 hcvy63 (ne_o (i := i) (c := 0) (d := 17) rfl)
        refine z_get (v := .ref (ad (i + 18))) C (lt_A0 hN rfl) hay1 hgy78 rfl inA_X10 41 (by decide) q_1500 rfl rfl dX10_slope1_66 ?_
        refine z_aload_n C 0 dX10_slope1_69 rfl ?_
        refine z_get (v := .int (zI (sl))) C (lt_A0 hN rfl) hay1 hgy78 rfl inA_X10 47 (by decide) q_1506 rfl (fv (F := Fvy63) (f := 47) ((hFvy63 47 (by decide) (by decide) (by decide) (by decide) (by decide) (by decide) (by decide)).trans ((hFvy47 47 (by decide) (by decide) (by decide) (by decide) (by decide) (by decide) (by decide)).trans ((hFvy41 47 (by decide) (by decide) (by decide) (by decide) (by decide)).trans ((hFvy39 47 (by decide) (by decide)).trans r47))))) dX10_slope1_70 ?_
        refine z_iconst (z := 0) C dX10_slope1_73 rfl ?_
        have hgy79 := (hfvy39 (i + 18) (ne_o (i := i) (c := 18) (d := 0) rfl)).trans ha18
        have hgy80 := (hfvy41 (i + 18) (ne_o (i := i) (c := 18) (d := 0) rfl)).trans hgy79
        have hgy81 := (hfvy47 (i + 18) (ne_o (i := i) (c := 18) (d := 0) rfl)).trans hgy80
        have hgy82 := up_n egy56 hgy81 (ne_o (i := i) (c := 18) (d := 16) rfl)
        have hgy83 := (hfvy63 (i + 18) (ne_o (i := i) (c := 18) (d := 0) rfl)).trans hgy82
        have hgy84 := up_n egy74 hgy83 (ne_o (i := i) (c := 18) (d := 17) rfl)
        refine z_iast C (lt_A (c := 18) hN rfl) hay9 hgy84 ((sl).toNat) (by omega) (by omega) (by decide) dX10_slope1_74 (fun gy85 egy86 => ?_)
        have hgy87 := up_s egy86
        obtain ⟨ry88, hvy89⟩ : ∃ rZ9 : Nat → Int, rZ9 = uZ mn1 ((sl).toNat) (0) := ⟨_, rfl⟩
        rw [← hvy89] at hgy87
        refine z_aload_n C 0 dX10_slope1_75 rfl ?_
        refine z_dup C dX10_slope1_76 rfl ?_
        have hgy90 := up_n egy86 hgy78 (ne_o (i := i) (c := 0) (d := 18) rfl)
        refine z_get (v := .int (zI (sl))) C (lt_A0 hN rfl) hay1 hgy90 rfl inA_X10 47 (by decide) q_1506 rfl (fv (F := Fvy63) (f := 47) ((hFvy63 47 (by decide) (by decide) (by decide) (by decide) (by decide) (by decide) (by decide)).trans ((hFvy47 47 (by decide) (by decide) (by decide) (by decide) (by decide) (by decide) (by decide)).trans ((hFvy41 47 (by decide) (by decide) (by decide) (by decide) (by decide)).trans ((hFvy39 47 (by decide) (by decide)).trans r47))))) dX10_slope1_77 ?_
        refine z_iconst (z := 1) C dX10_slope1_80 rfl ?_
        refine z_iadd C dX10_slope1_81 ?_
        refine z_put (fs' := mF ad (i) (uZ Fvy63 47 (sl + 1))) C (lt_A0 hN rfl) hay1 hgy90 tyX10 tyX10_ok nmX10 rfl inA_X10 47 (by decide) q_1506 rfl rfl rfl rfl (Nat.le_of_ble_eq_true rfl) rfl dX10_slope1_82 (fun gy91 egy92 => ?_)
        have hgy93 := up_s egy92
        have hFy94 : ∀ f, f ≠ 24 → f ≠ 32 → f ≠ 33 → f ≠ 35 → f ≠ 36 → f ≠ 37 → f ≠ 38 → f ≠ 47 → f ≠ 48 → f ≠ 49 → (uZ Fvy63 47 (sl + 1)) f = F f := fun f n24 n32 n33 n35 n36 n37 n38 n47 n48 n49 => ((uZ_n _ _ n47).trans ((hFvy63 f n24 n32 n33 n35 n36 n37 n38).trans ((hFvy47 f n24 n32 n33 n35 n36 n37 n38).trans ((hFvy41 f n32 n33 n35 n36 n37).trans (hFvy39 f n24 n38)))))
        have htky95 : tkR T n (uZ Fvy63 47 (sl + 1)) (tk_nx T n (tk_nx T n (tk_nx T n f))) := (tkR.put hkvy63 (by decide))
        have htoy96 := tk_to_w (T := T) (n := n) (f := (tk_nx T n (tk_nx T n (tk_nx T n f)))) htky95.1.1
        have h32y97 := htky95.2.1
        have hey98 : (uZ Fvy63 47 (sl + 1)) 24 = F 24 := (fn hbvy63 (by decide))
        have hey99 : (uZ Fvy63 47 (sl + 1)) 38 = 0 := (fn hevy63 (by decide))
        have hey100 : (uZ Fvy63 47 (sl + 1)) 47 = sl + 1 := (uZ_s _ _ _)
        have hey101 : (uZ Fvy63 47 (sl + 1)) 48 = ho := (fn ((hFvy63 48 (by decide) (by decide) (by decide) (by decide) (by decide) (by decide) (by decide)).trans ((hFvy47 48 (by decide) (by decide) (by decide) (by decide) (by decide) (by decide) (by decide)).trans ((hFvy41 48 (by decide) (by decide) (by decide) (by decide) (by decide)).trans ((hFvy39 48 (by decide) (by decide)).trans r48)))) (by decide))
        have hey102 : (uZ Fvy63 47 (sl + 1)) 49 = nm := (fn ((hFvy63 49 (by decide) (by decide) (by decide) (by decide) (by decide) (by decide) (by decide)).trans ((hFvy47 49 (by decide) (by decide) (by decide) (by decide) (by decide) (by decide) (by decide)).trans ((hFvy41 49 (by decide) (by decide) (by decide) (by decide) (by decide)).trans ((hFvy39 49 (by decide) (by decide)).trans r49)))) (by decide))
        have hfry104 : ∀ j, j ≠ (sl).toNat → ry76 j = op1 j := fun j n0 => (congrFun hvy77 _).trans ((uZ_n _ _ n0).trans (rfl))
        have hwy105 : ry76 ((sl).toNat) = vy63 := (congrFun hvy77 _).trans (uZ_s _ _ _)
        have haky103 : ∀ k, k < 4 → 0 ≤ ry76 k ∧ ry76 k ≤ 20 := by
          intro k hk
          by_cases e : k = (sl).toNat
          · rw [e]; have hk0 := hop1 ((sl).toNat) (by omega); omega
          · have hk0 := hop1 k hk; rw [hfry104 k e]; exact hk0
        have hfry107 : ∀ j, j ≠ (sl).toNat → ry88 j = mn1 j := fun j n0 => (congrFun hvy89 _).trans ((uZ_n _ _ n0).trans (rfl))
        have hwy108 : ry88 ((sl).toNat) = 0 := (congrFun hvy89 _).trans (uZ_s _ _ _)
        have haky106 : ∀ k, k < 4 → 0 ≤ ry88 k ∧ ry88 k ≤ 12 := by
          intro k hk
          by_cases e : k = (sl).toNat
          · rw [e]; have hk0 := hmn1 ((sl).toNat) (by omega); omega
          · have hk0 := hmn1 k hk; rw [hfry107 k e]; exact hk0
        have hfry111 : ∀ j, j ≠ (sl).toNat → ry88 j = mn1 j := fun j n0 => (congrFun hvy89 _).trans ((uZ_n _ _ n0).trans (rfl))
        have hwy112 : ry88 ((sl).toNat) = 0 := (congrFun hvy89 _).trans (uZ_s _ _ _)
        have hlay110 : ∀ s l : Nat, (s : Int) < (uZ Fvy63 47 (sl + 1)) 47 → (l : Int) < ry88 s → lyT ly1 (84 * s + 7 * l) := by
          intro s l a1 a2
          by_cases e : s = (sl).toNat
          · subst e; omega
          · have hs9 := hfry111 s e; rw [hs9] at a2; have hm9 := hmn1 s (by omega); exact hly1 s l (by omega) a2
        have hgy113 := (hfvy63 (i + 16) (ne_o (i := i) (c := 16) (d := 0) rfl)).trans hgy57
        have hgy114 := up_n egy74 hgy113 (ne_o (i := i) (c := 16) (d := 17) rfl)
        have hgy115 := up_n egy86 hgy114 (ne_o (i := i) (c := 16) (d := 18) rfl)
        have hgy116 := up_n egy92 hgy115 (ne_o (i := i) (c := 16) (d := 0) rfl)
        have hgy117 := up_n egy86 hgy75 (ne_o (i := i) (c := 17) (d := 18) rfl)
        have hgy118 := up_n egy92 hgy117 (ne_o (i := i) (c := 17) (d := 0) rfl)
        have hgy119 := up_n egy92 hgy87 (ne_o (i := i) (c := 18) (d := 0) rfl)
        have hgy120 := (hfvy39 (i + 19) (ne_o (i := i) (c := 19) (d := 0) rfl)).trans ha19
        have hgy121 := (hfvy41 (i + 19) (ne_o (i := i) (c := 19) (d := 0) rfl)).trans hgy120
        have hgy122 := (hfvy47 (i + 19) (ne_o (i := i) (c := 19) (d := 0) rfl)).trans hgy121
        have hgy123 := up_n egy56 hgy122 (ne_o (i := i) (c := 19) (d := 16) rfl)
        have hgy124 := (hfvy63 (i + 19) (ne_o (i := i) (c := 19) (d := 0) rfl)).trans hgy123
        have hgy125 := up_n egy74 hgy124 (ne_o (i := i) (c := 19) (d := 17) rfl)
        have hgy126 := up_n egy86 hgy125 (ne_o (i := i) (c := 19) (d := 18) rfl)
        have hgy127 := up_n egy92 hgy126 (ne_o (i := i) (c := 19) (d := 0) rfl)
        have hgy128 := (hfvy39 (i + 20) (ne_o (i := i) (c := 20) (d := 0) rfl)).trans ha20
        have hgy129 := (hfvy41 (i + 20) (ne_o (i := i) (c := 20) (d := 0) rfl)).trans hgy128
        have hgy130 := (hfvy47 (i + 20) (ne_o (i := i) (c := 20) (d := 0) rfl)).trans hgy129
        have hgy131 := up_n egy56 hgy130 (ne_o (i := i) (c := 20) (d := 16) rfl)
        have hgy132 := (hfvy63 (i + 20) (ne_o (i := i) (c := 20) (d := 0) rfl)).trans hgy131
        have hgy133 := up_n egy74 hgy132 (ne_o (i := i) (c := 20) (d := 17) rfl)
        have hgy134 := up_n egy86 hgy133 (ne_o (i := i) (c := 20) (d := 18) rfl)
        have hgy135 := up_n egy92 hgy134 (ne_o (i := i) (c := 20) (d := 0) rfl)
        have hgy136 := (hfvy39 (i + 21) (ne_o (i := i) (c := 21) (d := 0) rfl)).trans ha21
        have hgy137 := (hfvy41 (i + 21) (ne_o (i := i) (c := 21) (d := 0) rfl)).trans hgy136
        have hgy138 := (hfvy47 (i + 21) (ne_o (i := i) (c := 21) (d := 0) rfl)).trans hgy137
        have hgy139 := up_n egy56 hgy138 (ne_o (i := i) (c := 21) (d := 16) rfl)
        have hgy140 := (hfvy63 (i + 21) (ne_o (i := i) (c := 21) (d := 0) rfl)).trans hgy139
        have hgy141 := up_n egy74 hgy140 (ne_o (i := i) (c := 21) (d := 17) rfl)
        have hgy142 := up_n egy86 hgy141 (ne_o (i := i) (c := 21) (d := 18) rfl)
        have hgy143 := up_n egy92 hgy142 (ne_o (i := i) (c := 21) (d := 0) rfl)
        have hgy144 := (hfvy39 (i + 22) (ne_o (i := i) (c := 22) (d := 0) rfl)).trans ha22
        have hgy145 := (hfvy41 (i + 22) (ne_o (i := i) (c := 22) (d := 0) rfl)).trans hgy144
        have hgy146 := (hfvy47 (i + 22) (ne_o (i := i) (c := 22) (d := 0) rfl)).trans hgy145
        have hgy147 := up_n egy56 hgy146 (ne_o (i := i) (c := 22) (d := 16) rfl)
        have hgy148 := (hfvy63 (i + 22) (ne_o (i := i) (c := 22) (d := 0) rfl)).trans hgy147
        have hgy149 := up_n egy74 hgy148 (ne_o (i := i) (c := 22) (d := 17) rfl)
        have hgy150 := up_n egy86 hgy149 (ne_o (i := i) (c := 22) (d := 18) rfl)
        have hgy151 := up_n egy92 hgy150 (ne_o (i := i) (c := 22) (d := 0) rfl)
        have hgy152 := (hfvy39 (i + 23) (ne_o (i := i) (c := 23) (d := 0) rfl)).trans ha23
        have hgy153 := (hfvy41 (i + 23) (ne_o (i := i) (c := 23) (d := 0) rfl)).trans hgy152
        have hgy154 := (hfvy47 (i + 23) (ne_o (i := i) (c := 23) (d := 0) rfl)).trans hgy153
        have hgy155 := up_n egy56 hgy154 (ne_o (i := i) (c := 23) (d := 16) rfl)
        have hgy156 := (hfvy63 (i + 23) (ne_o (i := i) (c := 23) (d := 0) rfl)).trans hgy155
        have hgy157 := up_n egy74 hgy156 (ne_o (i := i) (c := 23) (d := 17) rfl)
        have hgy158 := up_n egy86 hgy157 (ne_o (i := i) (c := 23) (d := 18) rfl)
        have hgy159 := up_n egy92 hgy158 (ne_o (i := i) (c := 23) (d := 0) rfl)
        have hfry160 : ∀ j, j ≠ (sl).toNat → ry58 j = st1 j := fun j n0 => (congrFun hvy59 _).trans ((uZ_n _ _ n0).trans (rfl))
        have hwy161 : ry58 ((sl).toNat) = vy47 := (congrFun hvy59 _).trans (uZ_s _ _ _)
        have hfry162 : ∀ j, j ≠ (sl).toNat → ry76 j = op1 j := fun j n0 => (congrFun hvy77 _).trans ((uZ_n _ _ n0).trans (rfl))
        have hwy163 : ry76 ((sl).toNat) = vy63 := (congrFun hvy77 _).trans (uZ_s _ _ _)
        have hfry164 : ∀ j, j ≠ (sl).toNat → ry88 j = mn1 j := fun j n0 => (congrFun hvy89 _).trans ((uZ_n _ _ n0).trans (rfl))
        have hwy165 : ry88 ((sl).toNat) = 0 := (congrFun hvy89 _).trans (uZ_s _ _ _)
        have hxty166 : xTx cs gy91 i (uZ Fvy63 47 (sl + 1)) _ := ⟨_, _, _, _, _, _, _, _, ⟨hgy116, hgy118, hgy119, hgy127, hgy135, hgy143, hgy151, hgy159⟩, ⟨⟨by omega, by omega, by omega⟩, haky103, haky106, hai1, hfa1, htb1, hlay110⟩, rT.slope hrT ((sl).toNat) (by show sl = _; omega) ⟨by show (uZ Fvy63 47 (sl + 1)) 47 = sl + 1; omega, by show (uZ Fvy63 47 (sl + 1)) 48 = ho; omega, by show (uZ Fvy63 47 (sl + 1)) 49 = nm; omega⟩ hfry160 (by omega) hfry162 (by omega) hfry164 (by omega)⟩
        exact z_vret C hr hlk dX10_slope1_85 (by decide) (by decide) ⟨rfl, rfl, rfl, ⟨_, hgy93, hFy94, Or.inl ⟨_, by simp only [cl_slope, if_neg hscy17, hnvy47, hnvy63]; rfl, by omega, by omega, by show f < (tk_nx T n (tk_nx T n (tk_nx T n f))); omega, htky95, hxty166⟩⟩, fun j j1 j2 => by rw [egy92, va_up_ne _ _ (by omega)]; rw [egy86, va_up_ne _ _ (by omega)]; rw [egy74, va_up_ne _ _ (by omega)]; rw [hfvy63 _ (by omega)]; rw [egy56, va_up_ne _ _ (by omega)]; rw [hfvy47 _ (by omega)]; rw [hfvy41 _ (by omega)]; rw [hfvy39 _ (by omega)]⟩
      · obtain ⟨rfl, cvy63, hrvy63, hnvy63, hevy63, hbvy63, hkvy63⟩ := hqvy63
        clear h24vy63
        have hsry167 := srt_b T n (tk_nx T n (tk_nx T n f))
        have hvly168 := vlu_b hTb (tk_nx T n (tk_nx T n f))
        have hwby169 := tk_w_b T n (tk_nx T n (tk_nx T n f))
        have hfny170 := hkvy63.1
        have hgy171 := (hfvy39 (i + 17) (ne_o (i := i) (c := 17) (d := 0) rfl)).trans ha17
        have hgy172 := (hfvy41 (i + 17) (ne_o (i := i) (c := 17) (d := 0) rfl)).trans hgy171
        have hgy173 := (hfvy47 (i + 17) (ne_o (i := i) (c := 17) (d := 0) rfl)).trans hgy172
        have hgy174 := up_n egy56 hgy173 (ne_o (i := i) (c := 17) (d := 16) rfl)
        have hgy175 := (hfvy63 (i + 17) (ne_o (i := i) (c := 17) (d := 0) rfl)).trans hgy174
        refine z_iast C (lt_A (c := 17) hN rfl) hay8 hgy175 ((sl).toNat) (by omega) (by omega) (by decide) dX10_slope1_64 (fun gy176 egy177 => ?_)
        have hgy178 := up_s egy177
        obtain ⟨ry179, hvy180⟩ : ∃ rZ9 : Nat → Int, rZ9 = uZ op1 ((sl).toNat) (0) := ⟨_, rfl⟩
        rw [← hvy180] at hgy178
        refine z_aload_n C 0 dX10_slope1_65 rfl ?_
        have hgy181 := up_n egy177 hcvy63 (ne_o (i := i) (c := 0) (d := 17) rfl)
        refine z_get (v := .ref (ad (i + 18))) C (lt_A0 hN rfl) hay1 hgy181 rfl inA_X10 41 (by decide) q_1500 rfl rfl dX10_slope1_66 ?_
        refine z_aload_n C 0 dX10_slope1_69 rfl ?_
        refine z_get (v := .int (zI (sl))) C (lt_A0 hN rfl) hay1 hgy181 rfl inA_X10 47 (by decide) q_1506 rfl (fv (F := Fvy63) (f := 47) ((hFvy63 47 (by decide) (by decide) (by decide) (by decide) (by decide) (by decide) (by decide)).trans ((hFvy47 47 (by decide) (by decide) (by decide) (by decide) (by decide) (by decide) (by decide)).trans ((hFvy41 47 (by decide) (by decide) (by decide) (by decide) (by decide)).trans ((hFvy39 47 (by decide) (by decide)).trans r47))))) dX10_slope1_70 ?_
        refine z_iconst (z := 0) C dX10_slope1_73 rfl ?_
        have hgy182 := (hfvy39 (i + 18) (ne_o (i := i) (c := 18) (d := 0) rfl)).trans ha18
        have hgy183 := (hfvy41 (i + 18) (ne_o (i := i) (c := 18) (d := 0) rfl)).trans hgy182
        have hgy184 := (hfvy47 (i + 18) (ne_o (i := i) (c := 18) (d := 0) rfl)).trans hgy183
        have hgy185 := up_n egy56 hgy184 (ne_o (i := i) (c := 18) (d := 16) rfl)
        have hgy186 := (hfvy63 (i + 18) (ne_o (i := i) (c := 18) (d := 0) rfl)).trans hgy185
        have hgy187 := up_n egy177 hgy186 (ne_o (i := i) (c := 18) (d := 17) rfl)
        refine z_iast C (lt_A (c := 18) hN rfl) hay9 hgy187 ((sl).toNat) (by omega) (by omega) (by decide) dX10_slope1_74 (fun gy188 egy189 => ?_)
        have hgy190 := up_s egy189
        obtain ⟨ry191, hvy192⟩ : ∃ rZ9 : Nat → Int, rZ9 = uZ mn1 ((sl).toNat) (0) := ⟨_, rfl⟩
        rw [← hvy192] at hgy190
        refine z_aload_n C 0 dX10_slope1_75 rfl ?_
        refine z_dup C dX10_slope1_76 rfl ?_
        have hgy193 := up_n egy189 hgy181 (ne_o (i := i) (c := 0) (d := 18) rfl)
        refine z_get (v := .int (zI (sl))) C (lt_A0 hN rfl) hay1 hgy193 rfl inA_X10 47 (by decide) q_1506 rfl (fv (F := Fvy63) (f := 47) ((hFvy63 47 (by decide) (by decide) (by decide) (by decide) (by decide) (by decide) (by decide)).trans ((hFvy47 47 (by decide) (by decide) (by decide) (by decide) (by decide) (by decide) (by decide)).trans ((hFvy41 47 (by decide) (by decide) (by decide) (by decide) (by decide)).trans ((hFvy39 47 (by decide) (by decide)).trans r47))))) dX10_slope1_77 ?_
        refine z_iconst (z := 1) C dX10_slope1_80 rfl ?_
        refine z_iadd C dX10_slope1_81 ?_
        refine z_put (fs' := mF ad (i) (uZ Fvy63 47 (sl + 1))) C (lt_A0 hN rfl) hay1 hgy193 tyX10 tyX10_ok nmX10 rfl inA_X10 47 (by decide) q_1506 rfl rfl rfl rfl (Nat.le_of_ble_eq_true rfl) rfl dX10_slope1_82 (fun gy194 egy195 => ?_)
        have hgy196 := up_s egy195
        have hFy197 : ∀ f, f ≠ 24 → f ≠ 32 → f ≠ 33 → f ≠ 35 → f ≠ 36 → f ≠ 37 → f ≠ 38 → f ≠ 47 → f ≠ 48 → f ≠ 49 → (uZ Fvy63 47 (sl + 1)) f = F f := fun f n24 n32 n33 n35 n36 n37 n38 n47 n48 n49 => ((uZ_n _ _ n47).trans ((hFvy63 f n24 n32 n33 n35 n36 n37 n38).trans ((hFvy47 f n24 n32 n33 n35 n36 n37 n38).trans ((hFvy41 f n32 n33 n35 n36 n37).trans (hFvy39 f n24 n38)))))
        have htky198 : tkR T n (uZ Fvy63 47 (sl + 1)) (tk_nx T n (tk_nx T n f)) := (tkR.put hkvy63 (by decide))
        have htoy199 := tk_to_w (T := T) (n := n) (f := (tk_nx T n (tk_nx T n f))) htky198.1.1
        have h32y200 := htky198.2.1
        have hey201 : (uZ Fvy63 47 (sl + 1)) 24 = ((tk_nx T n (tk_nx T n f)) : Int) := (fn hbvy63 (by decide))
        have hey202 : (uZ Fvy63 47 (sl + 1)) 38 = cvy63 := (fn hevy63 (by decide))
        have hey203 : (uZ Fvy63 47 (sl + 1)) 47 = sl + 1 := (uZ_s _ _ _)
        have hey204 : (uZ Fvy63 47 (sl + 1)) 48 = ho := (fn ((hFvy63 48 (by decide) (by decide) (by decide) (by decide) (by decide) (by decide) (by decide)).trans ((hFvy47 48 (by decide) (by decide) (by decide) (by decide) (by decide) (by decide) (by decide)).trans ((hFvy41 48 (by decide) (by decide) (by decide) (by decide) (by decide)).trans ((hFvy39 48 (by decide) (by decide)).trans r48)))) (by decide))
        have hey205 : (uZ Fvy63 47 (sl + 1)) 49 = nm := (fn ((hFvy63 49 (by decide) (by decide) (by decide) (by decide) (by decide) (by decide) (by decide)).trans ((hFvy47 49 (by decide) (by decide) (by decide) (by decide) (by decide) (by decide) (by decide)).trans ((hFvy41 49 (by decide) (by decide) (by decide) (by decide) (by decide)).trans ((hFvy39 49 (by decide) (by decide)).trans r49)))) (by decide))
        have hfry207 : ∀ j, j ≠ (sl).toNat → ry179 j = op1 j := fun j n0 => (congrFun hvy180 _).trans ((uZ_n _ _ n0).trans (rfl))
        have hwy208 : ry179 ((sl).toNat) = 0 := (congrFun hvy180 _).trans (uZ_s _ _ _)
        have haky206 : ∀ k, k < 4 → 0 ≤ ry179 k ∧ ry179 k ≤ 20 := by
          intro k hk
          by_cases e : k = (sl).toNat
          · rw [e]; have hk0 := hop1 ((sl).toNat) (by omega); omega
          · have hk0 := hop1 k hk; rw [hfry207 k e]; exact hk0
        have hfry210 : ∀ j, j ≠ (sl).toNat → ry191 j = mn1 j := fun j n0 => (congrFun hvy192 _).trans ((uZ_n _ _ n0).trans (rfl))
        have hwy211 : ry191 ((sl).toNat) = 0 := (congrFun hvy192 _).trans (uZ_s _ _ _)
        have haky209 : ∀ k, k < 4 → 0 ≤ ry191 k ∧ ry191 k ≤ 12 := by
          intro k hk
          by_cases e : k = (sl).toNat
          · rw [e]; have hk0 := hmn1 ((sl).toNat) (by omega); omega
          · have hk0 := hmn1 k hk; rw [hfry210 k e]; exact hk0
        have hfry214 : ∀ j, j ≠ (sl).toNat → ry191 j = mn1 j := fun j n0 => (congrFun hvy192 _).trans ((uZ_n _ _ n0).trans (rfl))
        have hwy215 : ry191 ((sl).toNat) = 0 := (congrFun hvy192 _).trans (uZ_s _ _ _)
        have hlay213 : ∀ s l : Nat, (s : Int) < (uZ Fvy63 47 (sl + 1)) 47 → (l : Int) < ry191 s → lyT ly1 (84 * s + 7 * l) := by
          intro s l a1 a2
          by_cases e : s = (sl).toNat
          · subst e; omega
          · have hs9 := hfry214 s e; rw [hs9] at a2; have hm9 := hmn1 s (by omega); exact hly1 s l (by omega) a2
        have hgy216 := (hfvy63 (i + 16) (ne_o (i := i) (c := 16) (d := 0) rfl)).trans hgy57
        have hgy217 := up_n egy177 hgy216 (ne_o (i := i) (c := 16) (d := 17) rfl)
        have hgy218 := up_n egy189 hgy217 (ne_o (i := i) (c := 16) (d := 18) rfl)
        have hgy219 := up_n egy195 hgy218 (ne_o (i := i) (c := 16) (d := 0) rfl)
        have hgy220 := up_n egy189 hgy178 (ne_o (i := i) (c := 17) (d := 18) rfl)
        have hgy221 := up_n egy195 hgy220 (ne_o (i := i) (c := 17) (d := 0) rfl)
        have hgy222 := up_n egy195 hgy190 (ne_o (i := i) (c := 18) (d := 0) rfl)
        have hgy223 := (hfvy39 (i + 19) (ne_o (i := i) (c := 19) (d := 0) rfl)).trans ha19
        have hgy224 := (hfvy41 (i + 19) (ne_o (i := i) (c := 19) (d := 0) rfl)).trans hgy223
        have hgy225 := (hfvy47 (i + 19) (ne_o (i := i) (c := 19) (d := 0) rfl)).trans hgy224
        have hgy226 := up_n egy56 hgy225 (ne_o (i := i) (c := 19) (d := 16) rfl)
        have hgy227 := (hfvy63 (i + 19) (ne_o (i := i) (c := 19) (d := 0) rfl)).trans hgy226
        have hgy228 := up_n egy177 hgy227 (ne_o (i := i) (c := 19) (d := 17) rfl)
        have hgy229 := up_n egy189 hgy228 (ne_o (i := i) (c := 19) (d := 18) rfl)
        have hgy230 := up_n egy195 hgy229 (ne_o (i := i) (c := 19) (d := 0) rfl)
        have hgy231 := (hfvy39 (i + 20) (ne_o (i := i) (c := 20) (d := 0) rfl)).trans ha20
        have hgy232 := (hfvy41 (i + 20) (ne_o (i := i) (c := 20) (d := 0) rfl)).trans hgy231
        have hgy233 := (hfvy47 (i + 20) (ne_o (i := i) (c := 20) (d := 0) rfl)).trans hgy232
        have hgy234 := up_n egy56 hgy233 (ne_o (i := i) (c := 20) (d := 16) rfl)
        have hgy235 := (hfvy63 (i + 20) (ne_o (i := i) (c := 20) (d := 0) rfl)).trans hgy234
        have hgy236 := up_n egy177 hgy235 (ne_o (i := i) (c := 20) (d := 17) rfl)
        have hgy237 := up_n egy189 hgy236 (ne_o (i := i) (c := 20) (d := 18) rfl)
        have hgy238 := up_n egy195 hgy237 (ne_o (i := i) (c := 20) (d := 0) rfl)
        have hgy239 := (hfvy39 (i + 21) (ne_o (i := i) (c := 21) (d := 0) rfl)).trans ha21
        have hgy240 := (hfvy41 (i + 21) (ne_o (i := i) (c := 21) (d := 0) rfl)).trans hgy239
        have hgy241 := (hfvy47 (i + 21) (ne_o (i := i) (c := 21) (d := 0) rfl)).trans hgy240
        have hgy242 := up_n egy56 hgy241 (ne_o (i := i) (c := 21) (d := 16) rfl)
        have hgy243 := (hfvy63 (i + 21) (ne_o (i := i) (c := 21) (d := 0) rfl)).trans hgy242
        have hgy244 := up_n egy177 hgy243 (ne_o (i := i) (c := 21) (d := 17) rfl)
        have hgy245 := up_n egy189 hgy244 (ne_o (i := i) (c := 21) (d := 18) rfl)
        have hgy246 := up_n egy195 hgy245 (ne_o (i := i) (c := 21) (d := 0) rfl)
        have hgy247 := (hfvy39 (i + 22) (ne_o (i := i) (c := 22) (d := 0) rfl)).trans ha22
        have hgy248 := (hfvy41 (i + 22) (ne_o (i := i) (c := 22) (d := 0) rfl)).trans hgy247
        have hgy249 := (hfvy47 (i + 22) (ne_o (i := i) (c := 22) (d := 0) rfl)).trans hgy248
        have hgy250 := up_n egy56 hgy249 (ne_o (i := i) (c := 22) (d := 16) rfl)
        have hgy251 := (hfvy63 (i + 22) (ne_o (i := i) (c := 22) (d := 0) rfl)).trans hgy250
        have hgy252 := up_n egy177 hgy251 (ne_o (i := i) (c := 22) (d := 17) rfl)
        have hgy253 := up_n egy189 hgy252 (ne_o (i := i) (c := 22) (d := 18) rfl)
        have hgy254 := up_n egy195 hgy253 (ne_o (i := i) (c := 22) (d := 0) rfl)
        have hgy255 := (hfvy39 (i + 23) (ne_o (i := i) (c := 23) (d := 0) rfl)).trans ha23
        have hgy256 := (hfvy41 (i + 23) (ne_o (i := i) (c := 23) (d := 0) rfl)).trans hgy255
        have hgy257 := (hfvy47 (i + 23) (ne_o (i := i) (c := 23) (d := 0) rfl)).trans hgy256
        have hgy258 := up_n egy56 hgy257 (ne_o (i := i) (c := 23) (d := 16) rfl)
        have hgy259 := (hfvy63 (i + 23) (ne_o (i := i) (c := 23) (d := 0) rfl)).trans hgy258
        have hgy260 := up_n egy177 hgy259 (ne_o (i := i) (c := 23) (d := 17) rfl)
        have hgy261 := up_n egy189 hgy260 (ne_o (i := i) (c := 23) (d := 18) rfl)
        have hgy262 := up_n egy195 hgy261 (ne_o (i := i) (c := 23) (d := 0) rfl)
        have htxy263 : okTx cs gy194 i (uZ Fvy63 47 (sl + 1)) := ⟨_, _, _, _, _, _, _, _, ⟨hgy219, hgy221, hgy222, hgy230, hgy238, hgy246, hgy254, hgy262⟩, ⟨⟨by omega, by omega, by omega⟩, haky206, haky209, hai1, hfa1, htb1, hlay213⟩⟩
        exact z_vret C hr hlk dX10_slope1_85 (by decide) (by decide) ⟨rfl, rfl, rfl, ⟨_, hgy196, hFy197, Or.inr ⟨(cvy63, (tk_nx T n (tk_nx T n f))), by simp only [cl_slope, if_neg hscy17, hnvy47, hnvy63], by show (uZ Fvy63 47 (sl + 1)) 38 = cvy63; omega, by show (uZ Fvy63 47 (sl + 1)) 24 = (((tk_nx T n (tk_nx T n f)) : Nat) : Int); omega, by show 1 ≤ cvy63 ∧ cvy63 ≤ 5; omega, ⟨_, htky198⟩, htxy263⟩⟩, fun j j1 j2 => by rw [egy195, va_up_ne _ _ (by omega)]; rw [egy189, va_up_ne _ _ (by omega)]; rw [egy177, va_up_ne _ _ (by omega)]; rw [hfvy63 _ (by omega)]; rw [egy56, va_up_ne _ _ (by omega)]; rw [hfvy47 _ (by omega)]; rw [hfvy41 _ (by omega)]; rw [hfvy39 _ (by omega)]⟩
    · obtain ⟨rfl, cvy47, hrvy47, hnvy47, hevy47, hbvy47, hkvy47⟩ := hqvy47
      clear h24vy47
      have hsry264 := srt_b T n (tk_nx T n f)
      have hvly265 := vlu_b hTb (tk_nx T n f)
      have hwby266 := tk_w_b T n (tk_nx T n f)
      have hfny267 := hkvy47.1
      have hgy268 := (hfvy39 (i + 16) (ne_o (i := i) (c := 16) (d := 0) rfl)).trans ha16
      have hgy269 := (hfvy41 (i + 16) (ne_o (i := i) (c := 16) (d := 0) rfl)).trans hgy268
      have hgy270 := (hfvy47 (i + 16) (ne_o (i := i) (c := 16) (d := 0) rfl)).trans hgy269
      refine z_iast C (lt_A (c := 16) hN rfl) hay7 hgy270 ((sl).toNat) (by omega) (by omega) (by decide) dX10_slope1_41 (fun gy271 egy272 => ?_)
      have hgy273 := up_s egy272
      obtain ⟨ry274, hvy275⟩ : ∃ rZ9 : Nat → Int, rZ9 = uZ st1 ((sl).toNat) (0) := ⟨_, rfl⟩
      rw [← hvy275] at hgy273
      refine z_aload_n C 0 dX10_slope1_42 rfl ?_
      have hgy276 := up_n egy272 hcvy47 (ne_o (i := i) (c := 0) (d := 16) rfl)
      refine z_get (v := .int (zI (cvy47))) C (lt_A0 hN rfl) hay1 hgy276 rfl inA_X10 38 (by decide) q_1497 rfl (fv (F := Fvy47) (f := 38) hevy47) dX10_slope1_43 ?_
      refine z_if_ne (tgt := 65) C dX10_slope1_46 (by decide) (by omega) (fun _ => ?_) (fun h => absurd h (by omega))
      refine z_aload_n C 0 dX10_slope1_65 rfl ?_
      refine z_get (v := .ref (ad (i + 18))) C (lt_A0 hN rfl) hay1 hgy276 rfl inA_X10 41 (by decide) q_1500 rfl rfl dX10_slope1_66 ?_
      refine z_aload_n C 0 dX10_slope1_69 rfl ?_
      refine z_get (v := .int (zI (sl))) C (lt_A0 hN rfl) hay1 hgy276 rfl inA_X10 47 (by decide) q_1506 rfl (fv (F := Fvy47) (f := 47) ((hFvy47 47 (by decide) (by decide) (by decide) (by decide) (by decide) (by decide) (by decide)).trans ((hFvy41 47 (by decide) (by decide) (by decide) (by decide) (by decide)).trans ((hFvy39 47 (by decide) (by decide)).trans r47)))) dX10_slope1_70 ?_
      refine z_iconst (z := 0) C dX10_slope1_73 rfl ?_
      have hgy277 := (hfvy39 (i + 18) (ne_o (i := i) (c := 18) (d := 0) rfl)).trans ha18
      have hgy278 := (hfvy41 (i + 18) (ne_o (i := i) (c := 18) (d := 0) rfl)).trans hgy277
      have hgy279 := (hfvy47 (i + 18) (ne_o (i := i) (c := 18) (d := 0) rfl)).trans hgy278
      have hgy280 := up_n egy272 hgy279 (ne_o (i := i) (c := 18) (d := 16) rfl)
      refine z_iast C (lt_A (c := 18) hN rfl) hay9 hgy280 ((sl).toNat) (by omega) (by omega) (by decide) dX10_slope1_74 (fun gy281 egy282 => ?_)
      have hgy283 := up_s egy282
      obtain ⟨ry284, hvy285⟩ : ∃ rZ9 : Nat → Int, rZ9 = uZ mn1 ((sl).toNat) (0) := ⟨_, rfl⟩
      rw [← hvy285] at hgy283
      refine z_aload_n C 0 dX10_slope1_75 rfl ?_
      refine z_dup C dX10_slope1_76 rfl ?_
      have hgy286 := up_n egy282 hgy276 (ne_o (i := i) (c := 0) (d := 18) rfl)
      refine z_get (v := .int (zI (sl))) C (lt_A0 hN rfl) hay1 hgy286 rfl inA_X10 47 (by decide) q_1506 rfl (fv (F := Fvy47) (f := 47) ((hFvy47 47 (by decide) (by decide) (by decide) (by decide) (by decide) (by decide) (by decide)).trans ((hFvy41 47 (by decide) (by decide) (by decide) (by decide) (by decide)).trans ((hFvy39 47 (by decide) (by decide)).trans r47)))) dX10_slope1_77 ?_
      refine z_iconst (z := 1) C dX10_slope1_80 rfl ?_
      refine z_iadd C dX10_slope1_81 ?_
      refine z_put (fs' := mF ad (i) (uZ Fvy47 47 (sl + 1))) C (lt_A0 hN rfl) hay1 hgy286 tyX10 tyX10_ok nmX10 rfl inA_X10 47 (by decide) q_1506 rfl rfl rfl rfl (Nat.le_of_ble_eq_true rfl) rfl dX10_slope1_82 (fun gy287 egy288 => ?_)
      have hgy289 := up_s egy288
      have hFy290 : ∀ f, f ≠ 24 → f ≠ 32 → f ≠ 33 → f ≠ 35 → f ≠ 36 → f ≠ 37 → f ≠ 38 → f ≠ 47 → f ≠ 48 → f ≠ 49 → (uZ Fvy47 47 (sl + 1)) f = F f := fun f n24 n32 n33 n35 n36 n37 n38 n47 n48 n49 => ((uZ_n _ _ n47).trans ((hFvy47 f n24 n32 n33 n35 n36 n37 n38).trans ((hFvy41 f n32 n33 n35 n36 n37).trans (hFvy39 f n24 n38))))
      have htky291 : tkR T n (uZ Fvy47 47 (sl + 1)) (tk_nx T n f) := (tkR.put hkvy47 (by decide))
      have htoy292 := tk_to_w (T := T) (n := n) (f := (tk_nx T n f)) htky291.1.1
      have h32y293 := htky291.2.1
      have hey294 : (uZ Fvy47 47 (sl + 1)) 24 = ((tk_nx T n f) : Int) := (fn hbvy47 (by decide))
      have hey295 : (uZ Fvy47 47 (sl + 1)) 38 = cvy47 := (fn hevy47 (by decide))
      have hey296 : (uZ Fvy47 47 (sl + 1)) 47 = sl + 1 := (uZ_s _ _ _)
      have hey297 : (uZ Fvy47 47 (sl + 1)) 48 = ho := (fn ((hFvy47 48 (by decide) (by decide) (by decide) (by decide) (by decide) (by decide) (by decide)).trans ((hFvy41 48 (by decide) (by decide) (by decide) (by decide) (by decide)).trans ((hFvy39 48 (by decide) (by decide)).trans r48))) (by decide))
      have hey298 : (uZ Fvy47 47 (sl + 1)) 49 = nm := (fn ((hFvy47 49 (by decide) (by decide) (by decide) (by decide) (by decide) (by decide) (by decide)).trans ((hFvy41 49 (by decide) (by decide) (by decide) (by decide) (by decide)).trans ((hFvy39 49 (by decide) (by decide)).trans r49))) (by decide))
      have hfry300 : ∀ j, j ≠ (sl).toNat → ry284 j = mn1 j := fun j n0 => (congrFun hvy285 _).trans ((uZ_n _ _ n0).trans (rfl))
      have hwy301 : ry284 ((sl).toNat) = 0 := (congrFun hvy285 _).trans (uZ_s _ _ _)
      have haky299 : ∀ k, k < 4 → 0 ≤ ry284 k ∧ ry284 k ≤ 12 := by
        intro k hk
        by_cases e : k = (sl).toNat
        · rw [e]; have hk0 := hmn1 ((sl).toNat) (by omega); omega
        · have hk0 := hmn1 k hk; rw [hfry300 k e]; exact hk0
      have hfry304 : ∀ j, j ≠ (sl).toNat → ry284 j = mn1 j := fun j n0 => (congrFun hvy285 _).trans ((uZ_n _ _ n0).trans (rfl))
      have hwy305 : ry284 ((sl).toNat) = 0 := (congrFun hvy285 _).trans (uZ_s _ _ _)
      have hlay303 : ∀ s l : Nat, (s : Int) < (uZ Fvy47 47 (sl + 1)) 47 → (l : Int) < ry284 s → lyT ly1 (84 * s + 7 * l) := by
        intro s l a1 a2
        by_cases e : s = (sl).toNat
        · subst e; omega
        · have hs9 := hfry304 s e; rw [hs9] at a2; have hm9 := hmn1 s (by omega); exact hly1 s l (by omega) a2
      have hgy306 := up_n egy282 hgy273 (ne_o (i := i) (c := 16) (d := 18) rfl)
      have hgy307 := up_n egy288 hgy306 (ne_o (i := i) (c := 16) (d := 0) rfl)
      have hgy308 := (hfvy39 (i + 17) (ne_o (i := i) (c := 17) (d := 0) rfl)).trans ha17
      have hgy309 := (hfvy41 (i + 17) (ne_o (i := i) (c := 17) (d := 0) rfl)).trans hgy308
      have hgy310 := (hfvy47 (i + 17) (ne_o (i := i) (c := 17) (d := 0) rfl)).trans hgy309
      have hgy311 := up_n egy272 hgy310 (ne_o (i := i) (c := 17) (d := 16) rfl)
      have hgy312 := up_n egy282 hgy311 (ne_o (i := i) (c := 17) (d := 18) rfl)
      have hgy313 := up_n egy288 hgy312 (ne_o (i := i) (c := 17) (d := 0) rfl)
      have hgy314 := up_n egy288 hgy283 (ne_o (i := i) (c := 18) (d := 0) rfl)
      have hgy315 := (hfvy39 (i + 19) (ne_o (i := i) (c := 19) (d := 0) rfl)).trans ha19
      have hgy316 := (hfvy41 (i + 19) (ne_o (i := i) (c := 19) (d := 0) rfl)).trans hgy315
      have hgy317 := (hfvy47 (i + 19) (ne_o (i := i) (c := 19) (d := 0) rfl)).trans hgy316
      have hgy318 := up_n egy272 hgy317 (ne_o (i := i) (c := 19) (d := 16) rfl)
      have hgy319 := up_n egy282 hgy318 (ne_o (i := i) (c := 19) (d := 18) rfl)
      have hgy320 := up_n egy288 hgy319 (ne_o (i := i) (c := 19) (d := 0) rfl)
      have hgy321 := (hfvy39 (i + 20) (ne_o (i := i) (c := 20) (d := 0) rfl)).trans ha20
      have hgy322 := (hfvy41 (i + 20) (ne_o (i := i) (c := 20) (d := 0) rfl)).trans hgy321
      have hgy323 := (hfvy47 (i + 20) (ne_o (i := i) (c := 20) (d := 0) rfl)).trans hgy322
      have hgy324 := up_n egy272 hgy323 (ne_o (i := i) (c := 20) (d := 16) rfl)
      have hgy325 := up_n egy282 hgy324 (ne_o (i := i) (c := 20) (d := 18) rfl)
      have hgy326 := up_n egy288 hgy325 (ne_o (i := i) (c := 20) (d := 0) rfl)
      have hgy327 := (hfvy39 (i + 21) (ne_o (i := i) (c := 21) (d := 0) rfl)).trans ha21
      have hgy328 := (hfvy41 (i + 21) (ne_o (i := i) (c := 21) (d := 0) rfl)).trans hgy327
      have hgy329 := (hfvy47 (i + 21) (ne_o (i := i) (c := 21) (d := 0) rfl)).trans hgy328
      have hgy330 := up_n egy272 hgy329 (ne_o (i := i) (c := 21) (d := 16) rfl)
      have hgy331 := up_n egy282 hgy330 (ne_o (i := i) (c := 21) (d := 18) rfl)
      have hgy332 := up_n egy288 hgy331 (ne_o (i := i) (c := 21) (d := 0) rfl)
      have hgy333 := (hfvy39 (i + 22) (ne_o (i := i) (c := 22) (d := 0) rfl)).trans ha22
      have hgy334 := (hfvy41 (i + 22) (ne_o (i := i) (c := 22) (d := 0) rfl)).trans hgy333
      have hgy335 := (hfvy47 (i + 22) (ne_o (i := i) (c := 22) (d := 0) rfl)).trans hgy334
      have hgy336 := up_n egy272 hgy335 (ne_o (i := i) (c := 22) (d := 16) rfl)
      have hgy337 := up_n egy282 hgy336 (ne_o (i := i) (c := 22) (d := 18) rfl)
      have hgy338 := up_n egy288 hgy337 (ne_o (i := i) (c := 22) (d := 0) rfl)
      have hgy339 := (hfvy39 (i + 23) (ne_o (i := i) (c := 23) (d := 0) rfl)).trans ha23
      have hgy340 := (hfvy41 (i + 23) (ne_o (i := i) (c := 23) (d := 0) rfl)).trans hgy339
      have hgy341 := (hfvy47 (i + 23) (ne_o (i := i) (c := 23) (d := 0) rfl)).trans hgy340
      have hgy342 := up_n egy272 hgy341 (ne_o (i := i) (c := 23) (d := 16) rfl)
      have hgy343 := up_n egy282 hgy342 (ne_o (i := i) (c := 23) (d := 18) rfl)
      have hgy344 := up_n egy288 hgy343 (ne_o (i := i) (c := 23) (d := 0) rfl)
      have htxy345 : okTx cs gy287 i (uZ Fvy47 47 (sl + 1)) := ⟨_, _, _, _, _, _, _, _, ⟨hgy307, hgy313, hgy314, hgy320, hgy326, hgy332, hgy338, hgy344⟩, ⟨⟨by omega, by omega, by omega⟩, hop1, haky299, hai1, hfa1, htb1, hlay303⟩⟩
      exact z_vret C hr hlk dX10_slope1_85 (by decide) (by decide) ⟨rfl, rfl, rfl, ⟨_, hgy289, hFy290, Or.inr ⟨(cvy47, (tk_nx T n f)), by simp only [cl_slope, if_neg hscy17, hnvy47], by show (uZ Fvy47 47 (sl + 1)) 38 = cvy47; omega, by show (uZ Fvy47 47 (sl + 1)) 24 = (((tk_nx T n f) : Nat) : Int); omega, by show 1 ≤ cvy47 ∧ cvy47 ≤ 5; omega, ⟨_, htky291⟩, htxy345⟩⟩, fun j j1 j2 => by rw [egy288, va_up_ne _ _ (by omega)]; rw [egy282, va_up_ne _ _ (by omega)]; rw [egy272, va_up_ne _ _ (by omega)]; rw [hfvy47 _ (by omega)]; rw [hfvy41 _ (by omega)]; rw [hfvy39 _ (by omega)]⟩

