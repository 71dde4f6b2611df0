section
-- 86nk.yhour.lean.txt
set_option maxRecDepth 100000 in
set_option maxHeartbeats 4000000 in
theorem c_yHour (l : Launch) (D : va_G) (A : Nat → Prop) (cs : Nat → ClassId) (tt : Nat) (N : Nat) (ad : Nat → Nat) (g : Nat → va_E) (i : Nat) (hN : i + 30 ≤ N) (F : Nat → Int) (hg : g i = mC ad i F) (tp : Nat → Int) (ha13 : g (i + 13) = iA cs 900 tp) (T : Nat → Int) (n : Nat) (hn : n ≤ 900) (hTb : ∀ k, k < n → 0 ≤ T k ∧ T k ≤ 255) (hTt : ∀ k, k < n → tp k = T k) (htp : ∀ k, k < 900 → 0 ≤ tp k ∧ tp k ≤ 255) (f : Nat) (hk : tkR T n F f) (h38 : F 38 = 0) (hfl : f < n) (sl ho nm : Int) (mn st op ai fa mu tb B : Nat → Int) (Lz : Nat → Nat → Int) (hX : xTx cs g i F (sl, ho, nm, mn, st, op, ai, fa, mu, tb, B, Lz)) : zM l yX10_hour1 cX10_hour1 3 none ({ frames := 5, cells := 0, slots := 0, locals := 300 } : Room) D A cs tt N ad g [.ref (ad i)] (rV0 N ad fun g' => (∃ F' : Nat → Int, g' i = mC ad i F' ∧ (∀ f, f ≠ 24 → f ≠ 32 → f ≠ 33 → f ≠ 35 → f ≠ 36 → f ≠ 37 → f ≠ 38 → f ≠ 47 → f ≠ 48 → f ≠ 49 → F' f = F f) ∧ ((∃ v, cl_hour T n ho f = .ok v ∧ F' 38 = 0 ∧ F' 24 = F 24 ∧ f < v.2 ∧ tkR T n F' v.2 ∧ xTx cs g' i F' (sl, ho + 1, nm, mn, st, op, uZ ai (ho).toNat v.1.1, uZ fa (ho).toNat v.1.2.1, uZ mu (ho).toNat v.1.2.2, tb, B, Lz)) ∨ (∃ e : Int × Nat, cl_hour T n ho f = .error e ∧ F' 38 = e.1 ∧ F' 24 = (e.2 : Int) ∧ (1 ≤ e.1 ∧ e.1 ≤ 5) ∧ (∃ f9, tkR T n F' f9) ∧ okTx cs g' i F'))) ∧ ∀ j, j ≠ i → j < i + 16 ∨ i + 23 < j → g' j = g j) := by
  have hay1 : zAt ad (i) (ad i) := rfl
  have hay2 : zAt ad (i + 13) (ad (i + 13)) := rfl
  have hsry3 := srt_b T n f
  have hvly4 := vlu_b hTb f
  have hwby5 := tk_w_b T n f
  have hfny6 := hk.1
  obtain ⟨st1, op1, mn1, ai1, fa1, mu1, tb1, ly1, ⟨ha16, ha17, ha18, ha19, ha20, ha21, ha22, ha23⟩, ⟨⟨t47, t48, t49⟩, hop1, hmn1, hai1, hfa1, htb1, hly1⟩, hrT⟩ := hX
  have r47 : F 47 = sl := hrT.1.1
  have r48 : F 48 = ho := hrT.1.2.1
  have r49 : F 49 = nm := hrT.1.2.2
  have r32 : F 32 = ((tk_to T n f : Nat) : Int) := hk.2.1
  have hto0 := tk_to_nx (T := T) (n := n) (f := f) hk.1.1
  have rsl : ∀ k : Nat, (k : Int) < sl → mn1 k = mn k := fun k h9 => (hrT.2.1 k h9).2.2
  have rtb : ∀ k : Nat, k < 15 → (tb1 k = -1 ∧ B k = 0) ∨ (0 ≤ tb1 k ∧ B k = 1) := fun k h9 => by
    rcases hrT.2.2.2.1 k h9 with ⟨a9, b9, c9⟩ | ⟨a9, b9, c9⟩
    · exact Or.inl ⟨a9, b9⟩
    · exact Or.inr ⟨a9, b9⟩
  have rs4 : 0 ≤ sl ∧ sl ≤ 4 := by omega
  have rh4 : 0 ≤ ho ∧ ho ≤ 24 := by omega
  have hay7 : zAt ad (i + 16) (ad (i + 16)) := rfl
  have hay8 : zAt ad (i + 17) (ad (i + 17)) := rfl
  have hay9 : zAt ad (i + 18) (ad (i + 18)) := rfl
  have hay10 : zAt ad (i + 19) (ad (i + 19)) := rfl
  have hay11 : zAt ad (i + 20) (ad (i + 20)) := rfl
  have hay12 : zAt ad (i + 21) (ad (i + 21)) := rfl
  have hay13 : zAt ad (i + 22) (ad (i + 22)) := rfl
  have hay14 : zAt ad (i + 23) (ad (i + 23)) := rfl
  have htbr : ∀ k, k < 15 → -1 ≤ tb1 k ∧ tb1 k ≤ 9999 := fun k hk => by have h9 := htb1 k hk; omega
  refine z_of (by decide) (Nat.le_of_ble_eq_true rfl) ?_
  intro pZ eZ sZ mZ below meth cZ C hr hlk hnm
  refine z_lv (lv' := [(0, .ref (ad i))]) [0] rfl ?_
  refine z_aload_n C 0 dX10_hour1_0 rfl ?_
  refine z_aload_n C 0 dX10_hour1_1 rfl ?_
  refine z_get (v := .int (zI (ho))) C (lt_A0 hN rfl) hay1 hg rfl inA_X10 48 (by decide) q_1507 rfl (fv (F := F) (f := 48) r48) dX10_hour1_2 ?_
  refine z_bipush (z := 24) C dX10_hour1_5 (by decide) ?_
  refine z_icmp_ge (tgt := 14) C dX10_hour1_7 (by decide) (by omega) (by omega) (fun hby15 => ?_) (fun hby15 => ?_)
  · have hscy16 : (24 ≤ ho) := by omega
    refine z_iconst (z := 0) C dX10_hour1_14 rfl ?_
    refine z_iconst (z := 2) C dX10_hour1_15 rfl ?_
    have h33vy18 : F 33 = (f : Int) := hk.2.2.1
    have h24vy18 : F 24 = F 24 := rfl
    have htvy18 : tkR T n F f := hk
    refine z_cV (As := [.int (zI (0)), .int (zI (2))]) (rest := []) (ci := 12) C (c_yWants l D A cs tt N ad _ i hN _ hg h38 (0) (by omega) (2) (by omega)) (lt_A0 hN rfl) hay1 hg rfl rfl mv_yX10_wants q_1678 hd_yX10_wants (by decide) (Nat.le_of_ble_eq_true rfl) (by decide) dX10_hour1_16 rfl (kI0 fun vy18 gvy18 hvy18 => ?_)
    obtain ⟨⟨Fvy18, hcvy18, hqvy18, hFvy18⟩, hfvy18⟩ := hvy18
    obtain ⟨rfl, hevy18, hbvy18⟩ : vy18 = 0 ∧ Fvy18 38 = 2 ∧ Fvy18 24 = (f : Int) := by omega
    clear hqvy18 h33vy18 h24vy18
    have hkvy18 : tkR T n Fvy18 f := tkR.w htvy18 hFvy18 (by omega)
    refine z_if_ne (tgt := 23) C dX10_hour1_19 (by decide) (by omega) (fun h => absurd h (by omega)) (fun _ => ?_)
    have hFy19 : ∀ f, f ≠ 24 → f ≠ 32 → f ≠ 33 → f ≠ 35 → f ≠ 36 → f ≠ 37 → f ≠ 38 → f ≠ 47 → f ≠ 48 → f ≠ 49 → Fvy18 f = F f := fun f n24 n32 n33 n35 n36 n37 n38 n47 n48 n49 => (hFvy18 f n24 n38)
    have htky20 : tkR T n Fvy18 f := hkvy18
    have htoy21 := tk_to_w (T := T) (n := n) (f := f) htky20.1.1
    have h32y22 := htky20.2.1
    have hey23 : Fvy18 24 = (f : Int) := hbvy18
    have hey24 : Fvy18 38 = 2 := hevy18
    have hey25 : Fvy18 47 = sl := ((hFvy18 47 (by decide) (by decide)).trans r47)
    have hey26 : Fvy18 48 = ho := ((hFvy18 48 (by decide) (by decide)).trans r48)
    have hey27 : Fvy18 49 = nm := ((hFvy18 49 (by decide) (by decide)).trans r49)
    have hlay29 : ∀ s l : Nat, (s : Int) < Fvy18 47 → (l : Int) < mn1 s → lyT ly1 (84 * s + 7 * l) := by
      intro s l a1 a2
      have hm9 := hmn1 s (by omega)
      exact hly1 s l (by omega) a2
    have hgy30 := (hfvy18 (i + 16) (ne_o (i := i) (c := 16) (d := 0) rfl)).trans ha16
    have hgy31 := (hfvy18 (i + 17) (ne_o (i := i) (c := 17) (d := 0) rfl)).trans ha17
    have hgy32 := (hfvy18 (i + 18) (ne_o (i := i) (c := 18) (d := 0) rfl)).trans ha18
    have hgy33 := (hfvy18 (i + 19) (ne_o (i := i) (c := 19) (d := 0) rfl)).trans ha19
    have hgy34 := (hfvy18 (i + 20) (ne_o (i := i) (c := 20) (d := 0) rfl)).trans ha20
    have hgy35 := (hfvy18 (i + 21) (ne_o (i := i) (c := 21) (d := 0) rfl)).trans ha21
    have hgy36 := (hfvy18 (i + 22) (ne_o (i := i) (c := 22) (d := 0) rfl)).trans ha22
    have hgy37 := (hfvy18 (i + 23) (ne_o (i := i) (c := 23) (d := 0) rfl)).trans ha23
    have htxy38 : okTx cs gvy18 i Fvy18 := ⟨_, _, _, _, _, _, _, _, ⟨hgy30, hgy31, hgy32, hgy33, hgy34, hgy35, hgy36, hgy37⟩, ⟨⟨by omega, by omega, by omega⟩, hop1, hmn1, hai1, hfa1, htb1, hlay29⟩⟩
    exact z_vret C hr hlk dX10_hour1_22 (by decide) (by decide) ⟨rfl, rfl, rfl, ⟨_, hcvy18, hFy19, Or.inr ⟨(2, f), by simp only [cl_hour, cl_hour2, if_pos hscy16], by show Fvy18 38 = 2; omega, by show Fvy18 24 = ((f : Nat) : Int); omega, by show 1 ≤ 2 ∧ 2 ≤ 5; omega, ⟨_, htky20⟩, htxy38⟩⟩, fun j j1 j2 => by rw [hfvy18 _ (by omega)]⟩
  · have hscy17 : ¬ (24 ≤ ho) := by omega
    refine z_iconst (z := 1) C dX10_hour1_10 rfl ?_
    refine z_goto (tgt := 15) C dX10_hour1_11 (by decide) ?_
    refine z_iconst (z := 2) C dX10_hour1_15 rfl ?_
    have h33vy39 : F 33 = (f : Int) := hk.2.2.1
    have h24vy39 : F 24 = F 24 := rfl
    have htvy39 : tkR T n F f := hk
    refine z_cV (As := [.int (zI (1)), .int (zI (2))]) (rest := []) (ci := 12) C (c_yWants l D A cs tt N ad _ i hN _ hg h38 (1) (by omega) (2) (by omega)) (lt_A0 hN rfl) hay1 hg rfl rfl mv_yX10_wants q_1678 hd_yX10_wants (by decide) (Nat.le_of_ble_eq_true rfl) (by decide) dX10_hour1_16 rfl (kI0 fun vy39 gvy39 hvy39 => ?_)
    obtain ⟨⟨Fvy39, hcvy39, hqvy39, hFvy39⟩, hfvy39⟩ := hvy39
    obtain ⟨rfl, hevy39, hbvy39⟩ : vy39 = 1 ∧ Fvy39 38 = 0 ∧ Fvy39 24 = F 24 := by omega
    clear hqvy39 h33vy39 h24vy39
    have hkvy39 : tkR T n Fvy39 f := tkR.w htvy39 hFvy39 (by omega)
    refine z_if_ne (tgt := 23) C dX10_hour1_19 (by decide) (by omega) (fun _ => ?_) (fun h => absurd h (by omega))
    refine z_aload_n C 0 dX10_hour1_23 rfl ?_
    have hgy40 := (hfvy39 (i + 13) (ne_o (i := i) (c := 13) (d := 0) rfl)).trans ha13
    have htvy41 : tkR T n Fvy39 f := hkvy39
    refine z_cV (As := []) (rest := []) (ci := 12) C (c_yGo l D A cs tt N ad _ i hN _ hcvy39 _ hgy40 T n hn hTb hTt htp (tk_to T n f) (tk_to_b htvy41.1.1).2.1 htvy41.2.1 htvy41.2.2.2.1 htvy41.2.2.2.2.2.2.2) (lt_A0 hN rfl) hay1 hcvy39 rfl rfl mv_yX10_go q_1652 hd_yX10_go (by decide) (Nat.le_of_ble_eq_true rfl) (by decide) dX10_hour1_24 rfl (kV0 fun gvy41 hvy41 => ?_)
    obtain ⟨⟨Fvy41, hcvy41, hjvy41, hFvy41⟩, hfvy41⟩ := hvy41
    have hkvy41 : tkR T n Fvy41 (tk_nx T n f) := hjvy41
    have hnbvy41 := tk_nx_s (T := T) (n := n) (f := f) hfl
    clear hjvy41
    have hsry42 := srt_b T n (tk_nx T n f)
    have hvly43 := vlu_b hTb (tk_nx T n f)
    have hwby44 := tk_w_b T n (tk_nx T n f)
    have hfny45 := hkvy41.1
    by_cases h4 : tk_so T n (tk_nx T n f) = 4
    · have hs4 : srt (tk_so T n (tk_nx T n f)) = 3 := by rw [h4]; rfl
      have hv45 : vlu T n (tk_nx T n f) = 45 := (vlu3 hs4 45 4 (by omega)).mpr h4
      refine z_aload_n C 0 dX10_hour1_27 rfl ?_
      refine z_get (v := .int (zI (srt (tk_so T n (tk_nx T n f))))) C (lt_A0 hN rfl) hay1 hcvy41 rfl inA_X10 35 (by decide) q_1494 rfl (fv (F := Fvy41) (f := 35) hkvy41.2.2.2.2.1) dX10_hour1_28 ?_
      refine z_iconst (z := 3) C dX10_hour1_31 rfl ?_
      refine z_icmp_ne (tgt := 48) C dX10_hour1_32 (by decide) (by omega) (by omega) (fun h => absurd h (by omega)) (fun _ => ?_)
      refine z_aload_n C 0 dX10_hour1_35 rfl ?_
      refine z_get (v := .int (zI (vlu T n (tk_nx T n f)))) C (lt_A0 hN rfl) hay1 hcvy41 rfl inA_X10 36 (by decide) q_1495 rfl (fv (F := Fvy41) (f := 36) hkvy41.2.2.2.2.2.1) dX10_hour1_36 ?_
      refine z_bipush (z := 45) C dX10_hour1_39 (by decide) ?_
      refine z_icmp_ne (tgt := 48) C dX10_hour1_41 (by decide) (by omega) (by omega) (fun h => absurd h (by omega)) (fun _ => ?_)
      refine z_iconst (z := 1) C dX10_hour1_44 rfl ?_
      refine z_goto (tgt := 49) C dX10_hour1_45 (by decide) ?_
      refine z_istore_n (lv' := [(1, .int (zI (1))), (0, .ref (ad i))]) C dX10_hour1_49 rfl (by decide) rfl ?_
      refine z_iload_n C 0 dX10_hour1_50 rfl ?_
      refine z_if_eq (tgt := 58) C dX10_hour1_51 (by decide) (by omega) (fun h => absurd h (by omega)) (fun _ => ?_)
      refine z_aload_n C 1 dX10_hour1_54 rfl ?_
      have hgy46 := (hfvy41 (i + 13) (ne_o (i := i) (c := 13) (d := 0) rfl)).trans hgy40
      have htvy47 : tkR T n Fvy41 (tk_nx T n f) := hkvy41
      refine z_cV (As := []) (rest := []) (ci := 12) C (c_yGo l D A cs tt N ad _ i hN _ hcvy41 _ hgy46 T n hn hTb hTt htp (tk_to T n (tk_nx T n f)) (tk_to_b htvy47.1.1).2.1 htvy47.2.1 htvy47.2.2.2.1 htvy47.2.2.2.2.2.2.2) (lt_A0 hN rfl) hay1 hcvy41 rfl rfl mv_yX10_go q_1652 hd_yX10_go (by decide) (Nat.le_of_ble_eq_true rfl) (by decide) dX10_hour1_55 rfl (kV0 fun gvy47 hvy47 => ?_)
      obtain ⟨⟨Fvy47, hcvy47, hjvy47, hFvy47⟩, hfvy47⟩ := hvy47
      have hkvy47 : tkR T n Fvy47 (tk_nx T n (tk_nx T n f)) := hjvy47
      have hnbvy47 := tk_nx_w (T := T) (n := n) (f := (tk_nx T n f)) htvy47.1.1
      clear hjvy47
      have hsry48 := srt_b T n (tk_nx T n (tk_nx T n f))
      have hvly49 := vlu_b hTb (tk_nx T n (tk_nx T n f))
      have hwby50 := tk_w_b T n (tk_nx T n (tk_nx T n f))
      have hfny51 := hkvy47.1
      refine z_aload_n C 1 dX10_hour1_58 rfl ?_
      refine z_iconst (z := 0) C dX10_hour1_59 rfl ?_
      refine z_iload_n C 0 dX10_hour1_60 rfl ?_
      refine z_if_eq (tgt := 70) C dX10_hour1_61 (by decide) (by omega) (fun h => absurd h (by omega)) (fun _ => ?_)
      refine z_sipush (z := 300) C dX10_hour1_64 (by decide) ?_
      refine z_goto (tgt := 72) C dX10_hour1_67 (by decide) ?_
      have hgy52 := (hfvy47 (i + 13) (ne_o (i := i) (c := 13) (d := 0) rfl)).trans hgy46
      have h24vy53 : Fvy47 24 = F 24 := ((hFvy47 24 (by decide) (by decide) (by decide) (by decide) (by decide)).trans ((hFvy41 24 (by decide) (by decide) (by decide) (by decide) (by decide)).trans hbvy39))
      refine z_cV (As := [.int (zI (0)), .int (zI (300))]) (rest := []) (ci := 12) C (c_yNumber l D A cs tt N ad _ i hN _ hcvy47 _ hgy52 T n hn hTb hTt htp (tk_nx T n (tk_nx T n f)) hkvy47 ((hFvy47 38 (by decide) (by decide) (by decide) (by decide) (by decide)).trans ((hFvy41 38 (by decide) (by decide) (by decide) (by decide) (by decide)).trans hevy39)) (0) (by omega) (300) (by omega)) (lt_A0 hN rfl) hay1 hcvy47 rfl rfl mv_yX10_number q_1682 hd_yX10_number (by decide) (Nat.le_of_ble_eq_true rfl) (by decide) dX10_hour1_72 rfl (kI0 fun vy53 gvy53 hvy53 => ?_)
      obtain ⟨⟨Fvy53, hcvy53, hqvy53, hFvy53⟩, hfvy53⟩ := hvy53
      rcases hqvy53 with hqvy53 | hqvy53
      · obtain ⟨hnvy53, hrvy53, hltvy53, hevy53, hb0vy53, hkvy53⟩ := hqvy53
        have hbvy53 : Fvy53 24 = F 24 := hb0vy53.trans h24vy53
        have hnbvy53 := tk_nx_s (T := T) (n := n) (f := (tk_nx T n (tk_nx T n f))) hltvy53
        clear hb0vy53 h24vy53
        have hsry54 := srt_b T n (tk_nx T n (tk_nx T n (tk_nx T n f)))
        have hvly55 := vlu_b hTb (tk_nx T n (tk_nx T n (tk_nx T n f)))
        have hwby56 := tk_w_b T n (tk_nx T n (tk_nx T n (tk_nx T n f)))
        have hfny57 := hkvy53.1
        refine z_istore_n (lv' := [(2, .int (zI (vy53))), (1, .int (zI (1))), (0, .ref (ad i))]) C dX10_hour1_75 rfl (by decide) rfl ?_
        refine z_aload_n C 2 dX10_hour1_76 rfl ?_
        refine z_get (v := .int (zI (0))) C (lt_A0 hN rfl) hay1 hcvy53 rfl inA_X10 38 (by decide) q_1497 rfl (fv (F := Fvy53) (f := 38) hevy53) dX10_hour1_77 ?_
        refine z_if_eq (tgt := 84) C dX10_hour1_80 (by decide) (by omega) (fun _ => ?_) (fun h => absurd h (by omega))
        refine z_aload_n C 2 dX10_hour1_84 rfl ?_
        refine z_get (v := .ref (ad (i + 19))) C (lt_A0 hN rfl) hay1 hcvy53 rfl inA_X10 42 (by decide) q_1501 rfl rfl dX10_hour1_85 ?_
        refine z_aload_n C 2 dX10_hour1_88 rfl ?_
        refine z_get (v := .int (zI (ho))) C (lt_A0 hN rfl) hay1 hcvy53 rfl inA_X10 48 (by decide) q_1507 rfl (fv (F := Fvy53) (f := 48) ((hFvy53 48 (by decide) (by decide) (by decide) (by decide) (by decide) (by decide) (by decide)).trans ((hFvy47 48 (by decide) (by decide) (by decide) (by decide) (by decide)).trans ((hFvy41 48 (by decide) (by decide) (by decide) (by decide) (by decide)).trans ((hFvy39 48 (by decide) (by decide)).trans r48))))) dX10_hour1_89 ?_
        refine z_iload_n C 1 dX10_hour1_92 rfl ?_
        refine z_if_eq (tgt := 101) C dX10_hour1_93 (by decide) (by omega) (fun h => absurd h (by omega)) (fun _ => ?_)
        refine z_iload_n C 0 dX10_hour1_96 rfl ?_
        refine z_ineg C dX10_hour1_97 ?_
        refine z_goto (tgt := 102) C dX10_hour1_98 (by decide) ?_
        have hgy58 := (hfvy39 (i + 19) (ne_o (i := i) (c := 19) (d := 0) rfl)).trans ha19
        have hgy59 := (hfvy41 (i + 19) (ne_o (i := i) (c := 19) (d := 0) rfl)).trans hgy58
        have hgy60 := (hfvy47 (i + 19) (ne_o (i := i) (c := 19) (d := 0) rfl)).trans hgy59
        have hgy61 := (hfvy53 (i + 19) (ne_o (i := i) (c := 19) (d := 0) rfl)).trans hgy60
        refine z_iast C (lt_A (c := 19) hN rfl) hay10 hgy61 ((ho).toNat) (by omega) (by omega) (by decide) dX10_hour1_102 (fun gy62 egy63 => ?_)
        have hgy64 := up_s egy63
        obtain ⟨ry65, hvy66⟩ : ∃ rZ9 : Nat → Int, rZ9 = uZ ai1 ((ho).toNat) (-(vy53)) := ⟨_, rfl⟩
        rw [← hvy66] at hgy64
        refine z_aload_n C 2 dX10_hour1_103 rfl ?_
        have hgy67 := up_n egy63 hcvy53 (ne_o (i := i) (c := 0) (d := 19) rfl)
        refine z_get (v := .ref (ad (i + 20))) C (lt_A0 hN rfl) hay1 hgy67 rfl inA_X10 43 (by decide) q_1502 rfl rfl dX10_hour1_104 ?_
        refine z_aload_n C 2 dX10_hour1_107 rfl ?_
        refine z_get (v := .int (zI (ho))) C (lt_A0 hN rfl) hay1 hgy67 rfl inA_X10 48 (by decide) q_1507 rfl (fv (F := Fvy53) (f := 48) ((hFvy53 48 (by decide) (by decide) (by decide) (by decide) (by decide) (by decide) (by decide)).trans ((hFvy47 48 (by decide) (by decide) (by decide) (by decide) (by decide)).trans ((hFvy41 48 (by decide) (by decide) (by decide) (by decide) (by decide)).trans ((hFvy39 48 (by decide) (by decide)).trans r48))))) dX10_hour1_108 ?_
        refine z_iconst (z := 0) C dX10_hour1_111 rfl ?_
        have hgy68 := (hfvy39 (i + 20) (ne_o (i := i) (c := 20) (d := 0) rfl)).trans ha20
        have hgy69 := (hfvy41 (i + 20) (ne_o (i := i) (c := 20) (d := 0) rfl)).trans hgy68
        have hgy70 := (hfvy47 (i + 20) (ne_o (i := i) (c := 20) (d := 0) rfl)).trans hgy69
        have hgy71 := (hfvy53 (i + 20) (ne_o (i := i) (c := 20) (d := 0) rfl)).trans hgy70
        have hgy72 := up_n egy63 hgy71 (ne_o (i := i) (c := 20) (d := 19) rfl)
        refine z_iast C (lt_A (c := 20) hN rfl) hay11 hgy72 ((ho).toNat) (by omega) (by omega) (by decide) dX10_hour1_112 (fun gy73 egy74 => ?_)
        have hgy75 := up_s egy74
        obtain ⟨ry76, hvy77⟩ : ∃ rZ9 : Nat → Int, rZ9 = uZ fa1 ((ho).toNat) (0) := ⟨_, rfl⟩
        rw [← hvy77] at hgy75
        refine z_aload_n C 2 dX10_hour1_113 rfl ?_
        have hgy78 := up_n egy74 hgy67 (ne_o (i := i) (c := 0) (d := 20) rfl)
        refine z_get (v := .ref (ad (i + 21))) C (lt_A0 hN rfl) hay1 hgy78 rfl inA_X10 44 (by decide) q_1503 rfl rfl dX10_hour1_114 ?_
        refine z_aload_n C 2 dX10_hour1_117 rfl ?_
        refine z_get (v := .int (zI (ho))) C (lt_A0 hN rfl) hay1 hgy78 rfl inA_X10 48 (by decide) q_1507 rfl (fv (F := Fvy53) (f := 48) ((hFvy53 48 (by decide) (by decide) (by decide) (by decide) (by decide) (by decide) (by decide)).trans ((hFvy47 48 (by decide) (by decide) (by decide) (by decide) (by decide)).trans ((hFvy41 48 (by decide) (by decide) (by decide) (by decide) (by decide)).trans ((hFvy39 48 (by decide) (by decide)).trans r48))))) dX10_hour1_118 ?_
        refine z_iconst (z := 0) C dX10_hour1_121 rfl ?_
        have hgy79 := (hfvy39 (i + 21) (ne_o (i := i) (c := 21) (d := 0) rfl)).trans ha21
        have hgy80 := (hfvy41 (i + 21) (ne_o (i := i) (c := 21) (d := 0) rfl)).trans hgy79
        have hgy81 := (hfvy47 (i + 21) (ne_o (i := i) (c := 21) (d := 0) rfl)).trans hgy80
        have hgy82 := (hfvy53 (i + 21) (ne_o (i := i) (c := 21) (d := 0) rfl)).trans hgy81
        have hgy83 := up_n egy63 hgy82 (ne_o (i := i) (c := 21) (d := 19) rfl)
        have hgy84 := up_n egy74 hgy83 (ne_o (i := i) (c := 21) (d := 20) rfl)
        refine z_iast C (lt_A (c := 21) hN rfl) hay12 hgy84 ((ho).toNat) (by omega) (by omega) (by decide) dX10_hour1_122 (fun gy85 egy86 => ?_)
        have hgy87 := up_s egy86
        obtain ⟨ry88, hvy89⟩ : ∃ rZ9 : Nat → Int, rZ9 = uZ mu1 ((ho).toNat) (0) := ⟨_, rfl⟩
        rw [← hvy89] at hgy87
        refine z_aload_n C 2 dX10_hour1_123 rfl ?_
        refine z_iconst (z := 3) C dX10_hour1_124 rfl ?_
        have hgy90 := up_n egy86 hgy78 (ne_o (i := i) (c := 0) (d := 21) rfl)
        have hgy92 := (hfvy53 (i + 13) (ne_o (i := i) (c := 13) (d := 0) rfl)).trans hgy52
        have hgy93 := up_n egy63 hgy92 (ne_o (i := i) (c := 13) (d := 19) rfl)
        have hgy94 := up_n egy74 hgy93 (ne_o (i := i) (c := 13) (d := 20) rfl)
        have hgy95 := up_n egy86 hgy94 (ne_o (i := i) (c := 13) (d := 21) rfl)
        refine z_cV (As := [.int (zI (3))]) (rest := []) (ci := 12) C (c_yIs l D A cs tt N ad _ i hN _ hgy90 tp T n hn hTb hTt htp (tk_nx T n (tk_nx T n (tk_nx T n f))) hkvy53 hevy53 (3) (by omega)) (lt_A0 hN rfl) hay1 hgy90 rfl rfl mv_yX10_is q_1705 hd_yX10_is (by decide) (Nat.le_of_ble_eq_true rfl) (by decide) dX10_hour1_125 rfl (kI0 fun vy91 gvy91 hvy91 => ?_)
        obtain ⟨hvy91, rfl⟩ := hvy91
        rcases hvy91 with ⟨rfl, hxvy91⟩ | ⟨rfl, hxvy91⟩
        · refine z_if_ne (tgt := 147) C dX10_hour1_128 (by decide) (by omega) (fun _ => ?_) (fun h => absurd h (by omega))
          have hfay96c := tk_fa_c T n (tk_nx T n (tk_nx T n (tk_nx T n f)))
          have hfay96 : tk_fa T n (tk_nx T n (tk_nx T n (tk_nx T n f))) = tk_w T n (tk_nx T n (tk_nx T n (tk_nx T n f))) - 2 ∧ (1 ≤ tk_fa T n (tk_nx T n (tk_nx T n (tk_nx T n f))) ∧ tk_fa T n (tk_nx T n (tk_nx T n (tk_nx T n f))) ≤ 3) := by omega
          clear hfay96c
          have hscy97 : ¬ (tk_fa T n (tk_nx T n (tk_nx T n (tk_nx T n f))) = 0) := by omega
          have hscy98 : ¬ (tk_fa T n (tk_nx T n (tk_nx T n (tk_nx T n f))) = 3) := by omega
          refine z_aload_n C 2 dX10_hour1_147 rfl ?_
          refine z_get (v := .ref (ad (i + 20))) C (lt_A0 hN rfl) hay1 hgy90 rfl inA_X10 43 (by decide) q_1502 rfl rfl dX10_hour1_148 ?_
          refine z_aload_n C 2 dX10_hour1_151 rfl ?_
          refine z_get (v := .int (zI (ho))) C (lt_A0 hN rfl) hay1 hgy90 rfl inA_X10 48 (by decide) q_1507 rfl (fv (F := Fvy53) (f := 48) ((hFvy53 48 (by decide) (by decide) (by decide) (by decide) (by decide) (by decide) (by decide)).trans ((hFvy47 48 (by decide) (by decide) (by decide) (by decide) (by decide)).trans ((hFvy41 48 (by decide) (by decide) (by decide) (by decide) (by decide)).trans ((hFvy39 48 (by decide) (by decide)).trans r48))))) dX10_hour1_152 ?_
          refine z_aload_n C 2 dX10_hour1_155 rfl ?_
          refine z_get (v := .int (zI (3))) C (lt_A0 hN rfl) hay1 hgy90 rfl inA_X10 37 (by decide) q_1496 rfl (fv (F := Fvy53) (f := 37) (hkvy53.2.2.2.2.2.2.1.trans hxvy91)) dX10_hour1_156 ?_
          refine z_iconst (z := 3) C dX10_hour1_159 rfl ?_
          refine z_isub C dX10_hour1_160 ?_
          refine z_iconst (z := 1) C dX10_hour1_161 rfl ?_
          refine z_iadd C dX10_hour1_162 ?_
          have hgy99 := up_n egy86 hgy75 (ne_o (i := i) (c := 20) (d := 21) rfl)
          refine z_iast C (lt_A (c := 20) hN rfl) hay11 hgy99 ((ho).toNat) (by omega) (by omega) (by decide) dX10_hour1_163 (fun gy100 egy101 => ?_)
          have hgy102 := up_s egy101
          obtain ⟨ry103, hvy104⟩ : ∃ rZ9 : Nat → Int, rZ9 = uZ ry76 ((ho).toNat) ((3 - 3) + 1) := ⟨_, rfl⟩
          rw [← hvy104] at hgy102
          refine z_aload_n C 2 dX10_hour1_164 rfl ?_
          have hgy105 := up_n egy101 hgy90 (ne_o (i := i) (c := 0) (d := 20) rfl)
          have hgy106 := up_n egy101 hgy95 (ne_o (i := i) (c := 13) (d := 20) rfl)
          have htvy107 : tkR T n Fvy53 (tk_nx T n (tk_nx T n (tk_nx T n f))) := hkvy53
          refine z_cV (As := []) (rest := []) (ci := 12) C (c_yGo l D A cs tt N ad _ i hN _ hgy105 _ hgy106 T n hn hTb hTt htp (tk_to T n (tk_nx T n (tk_nx T n (tk_nx T n f)))) (tk_to_b htvy107.1.1).2.1 htvy107.2.1 htvy107.2.2.2.1 htvy107.2.2.2.2.2.2.2) (lt_A0 hN rfl) hay1 hgy105 rfl rfl mv_yX10_go q_1652 hd_yX10_go (by decide) (Nat.le_of_ble_eq_true rfl) (by decide) dX10_hour1_165 rfl (kV0 fun gvy107 hvy107 => ?_)
          obtain ⟨⟨Fvy107, hcvy107, hjvy107, hFvy107⟩, hfvy107⟩ := hvy107
          have hkvy107 : tkR T n Fvy107 (tk_nx T n (tk_nx T n (tk_nx T n (tk_nx T n f)))) := hjvy107
          have hnbvy107 := tk_nx_w (T := T) (n := n) (f := (tk_nx T n (tk_nx T n (tk_nx T n f)))) htvy107.1.1
          clear hjvy107
          have hsry108 := srt_b T n (tk_nx T n (tk_nx T n (tk_nx T n (tk_nx T n f))))
          have hvly109 := vlu_b hTb (tk_nx T n (tk_nx T n (tk_nx T n (tk_nx T n f))))
          have hwby110 := tk_w_b T n (tk_nx T n (tk_nx T n (tk_nx T n (tk_nx T n f))))
          have hfny111 := hkvy107.1
          refine z_aload_n C 2 dX10_hour1_168 rfl ?_
          refine z_get (v := .ref (ad (i + 20))) C (lt_A0 hN rfl) hay1 hcvy107 rfl inA_X10 43 (by decide) q_1502 rfl rfl dX10_hour1_169 ?_
          refine z_aload_n C 2 dX10_hour1_172 rfl ?_
          refine z_get (v := .int (zI (ho))) C (lt_A0 hN rfl) hay1 hcvy107 rfl inA_X10 48 (by decide) q_1507 rfl (fv (F := Fvy107) (f := 48) ((hFvy107 48 (by decide) (by decide) (by decide) (by decide) (by decide)).trans ((hFvy53 48 (by decide) (by decide) (by decide) (by decide) (by decide) (by decide) (by decide)).trans ((hFvy47 48 (by decide) (by decide) (by decide) (by decide) (by decide)).trans ((hFvy41 48 (by decide) (by decide) (by decide) (by decide) (by decide)).trans ((hFvy39 48 (by decide) (by decide)).trans r48)))))) dX10_hour1_173 ?_
          have hgy112 := (hfvy107 (i + 20) (ne_o (i := i) (c := 20) (d := 0) rfl)).trans hgy102
          refine z_iald C (lt_A (c := 20) hN rfl) hay11 hgy112 ((ho).toNat) (by omega) (by omega) (by decide) dX10_hour1_176 ?_
          rw [show ry103 ((ho).toNat) = (3 - 3) + 1 from (congrFun hvy104 _).trans (uZ_s _ _ _)]
          refine z_iconst (z := 3) C dX10_hour1_177 rfl ?_
          refine z_icmp_ge (tgt := 197) C dX10_hour1_178 (by decide) (by omega) (by omega) (fun h => absurd h (by omega)) (fun _ => ?_)
          refine z_aload_n C 2 dX10_hour1_181 rfl ?_
          refine z_get (v := .ref (ad (i + 21))) C (lt_A0 hN rfl) hay1 hcvy107 rfl inA_X10 44 (by decide) q_1503 rfl rfl dX10_hour1_182 ?_
          refine z_aload_n C 2 dX10_hour1_185 rfl ?_
          refine z_get (v := .int (zI (ho))) C (lt_A0 hN rfl) hay1 hcvy107 rfl inA_X10 48 (by decide) q_1507 rfl (fv (F := Fvy107) (f := 48) ((hFvy107 48 (by decide) (by decide) (by decide) (by decide) (by decide)).trans ((hFvy53 48 (by decide) (by decide) (by decide) (by decide) (by decide) (by decide) (by decide)).trans ((hFvy47 48 (by decide) (by decide) (by decide) (by decide) (by decide)).trans ((hFvy41 48 (by decide) (by decide) (by decide) (by decide) (by decide)).trans ((hFvy39 48 (by decide) (by decide)).trans r48)))))) dX10_hour1_186 ?_
          refine z_aload_n C 2 dX10_hour1_189 rfl ?_
          refine z_iconst (z := 1) C dX10_hour1_190 rfl ?_
          refine z_bipush (z := 50) C dX10_hour1_191 (by decide) ?_
          have hgy113 := (hfvy107 (i + 13) (ne_o (i := i) (c := 13) (d := 0) rfl)).trans hgy106
          have h24vy114 : Fvy107 24 = F 24 := ((hFvy107 24 (by decide) (by decide) (by decide) (by decide) (by decide)).trans hbvy53)
          refine z_cV (As := [.int (zI (1)), .int (zI (50))]) (rest := [.int (zI (ho)), .ref (ad (i + 21))]) (ci := 12) C (c_yNumber l D A cs tt N ad _ i hN _ hcvy107 _ hgy113 T n hn hTb hTt htp (tk_nx T n (tk_nx T n (tk_nx T n (tk_nx T n f)))) hkvy107 ((hFvy107 38 (by decide) (by decide) (by decide) (by decide) (by decide)).trans hevy53) (1) (by omega) (50) (by omega)) (lt_A0 hN rfl) hay1 hcvy107 rfl rfl mv_yX10_number q_1682 hd_yX10_number (by decide) (Nat.le_of_ble_eq_true rfl) (by decide) dX10_hour1_193 rfl (kI0 fun vy114 gvy114 hvy114 => ?_)
          obtain ⟨⟨Fvy114, hcvy114, hqvy114, hFvy114⟩, hfvy114⟩ := hvy114
          rcases hqvy114 with hqvy114 | hqvy114
          · obtain ⟨hnvy114, hrvy114, hltvy114, hevy114, hb0vy114, hkvy114⟩ := hqvy114
            have hbvy114 : Fvy114 24 = F 24 := hb0vy114.trans h24vy114
            have hnbvy114 := tk_nx_s (T := T) (n := n) (f := (tk_nx T n (tk_nx T n (tk_nx T n (tk_nx T n f))))) hltvy114
            clear hb0vy114 h24vy114
            have hsry115 := srt_b T n (tk_nx T n (tk_nx T n (tk_nx T n (tk_nx T n (tk_nx T n f)))))
            have hvly116 := vlu_b hTb (tk_nx T n (tk_nx T n (tk_nx T n (tk_nx T n (tk_nx T n f)))))
            have hwby117 := tk_w_b T n (tk_nx T n (tk_nx T n (tk_nx T n (tk_nx T n (tk_nx T n f)))))
            have hfny118 := hkvy114.1
            have hgy119 := up_n egy101 hgy87 (ne_o (i := i) (c := 21) (d := 20) rfl)
            have hgy120 := (hfvy107 (i + 21) (ne_o (i := i) (c := 21) (d := 0) rfl)).trans hgy119
            have hgy121 := (hfvy114 (i + 21) (ne_o (i := i) (c := 21) (d := 0) rfl)).trans hgy120
            refine z_iast C (lt_A (c := 21) hN rfl) hay12 hgy121 ((ho).toNat) (by omega) (by omega) (by decide) dX10_hour1_196 (fun gy122 egy123 => ?_)
            have hgy124 := up_s egy123
            obtain ⟨ry125, hvy126⟩ : ∃ rZ9 : Nat → Int, rZ9 = uZ ry88 ((ho).toNat) (vy114) := ⟨_, rfl⟩
            rw [← hvy126] at hgy124
            refine z_aload_n C 2 dX10_hour1_197 rfl ?_
            refine z_dup C dX10_hour1_198 rfl ?_
            have hgy127 := up_n egy123 hcvy114 (ne_o (i := i) (c := 0) (d := 21) rfl)
            refine z_get (v := .int (zI (ho))) C (lt_A0 hN rfl) hay1 hgy127 rfl inA_X10 48 (by decide) q_1507 rfl (fv (F := Fvy114) (f := 48) ((hFvy114 48 (by decide) (by decide) (by decide) (by decide) (by decide) (by decide) (by decide)).trans ((hFvy107 48 (by decide) (by decide) (by decide) (by decide) (by decide)).trans ((hFvy53 48 (by decide) (by decide) (by decide) (by decide) (by decide) (by decide) (by decide)).trans ((hFvy47 48 (by decide) (by decide) (by decide) (by decide) (by decide)).trans ((hFvy41 48 (by decide) (by decide) (by decide) (by decide) (by decide)).trans ((hFvy39 48 (by decide) (by decide)).trans r48))))))) dX10_hour1_199 ?_
            refine z_iconst (z := 1) C dX10_hour1_202 rfl ?_
            refine z_iadd C dX10_hour1_203 ?_
            refine z_put (fs' := mF ad (i) (uZ Fvy114 48 (ho + 1))) C (lt_A0 hN rfl) hay1 hgy127 tyX10 tyX10_ok nmX10 rfl inA_X10 48 (by decide) q_1507 rfl rfl rfl rfl (Nat.le_of_ble_eq_true rfl) rfl dX10_hour1_204 (fun gy128 egy129 => ?_)
            have hgy130 := up_s egy129
            have hFy131 : ∀ f, f ≠ 24 → f ≠ 32 → f ≠ 33 → f ≠ 35 → f ≠ 36 → f ≠ 37 → f ≠ 38 → f ≠ 47 → f ≠ 48 → f ≠ 49 → (uZ Fvy114 48 (ho + 1)) f = F f := fun f n24 n32 n33 n35 n36 n37 n38 n47 n48 n49 => ((uZ_n _ _ n48).trans ((hFvy114 f n24 n32 n33 n35 n36 n37 n38).trans ((hFvy107 f n32 n33 n35 n36 n37).trans ((hFvy53 f n24 n32 n33 n35 n36 n37 n38).trans ((hFvy47 f n32 n33 n35 n36 n37).trans ((hFvy41 f n32 n33 n35 n36 n37).trans (hFvy39 f n24 n38)))))))
            have htky132 : tkR T n (uZ Fvy114 48 (ho + 1)) (tk_nx T n (tk_nx T n (tk_nx T n (tk_nx T n (tk_nx T n f))))) := (tkR.put hkvy114 (by decide))
            have htoy133 := tk_to_w (T := T) (n := n) (f := (tk_nx T n (tk_nx T n (tk_nx T n (tk_nx T n (tk_nx T n f)))))) htky132.1.1
            have h32y134 := htky132.2.1
            have hey135 : (uZ Fvy114 48 (ho + 1)) 24 = F 24 := (fn hbvy114 (by decide))
            have hey136 : (uZ Fvy114 48 (ho + 1)) 38 = 0 := (fn hevy114 (by decide))
            have hey137 : (uZ Fvy114 48 (ho + 1)) 47 = sl := (fn ((hFvy114 47 (by decide) (by decide) (by decide) (by decide) (by decide) (by decide) (by decide)).trans ((hFvy107 47 (by decide) (by decide) (by decide) (by decide) (by decide)).trans ((hFvy53 47 (by decide) (by decide) (by decide) (by decide) (by decide) (by decide) (by decide)).trans ((hFvy47 47 (by decide) (by decide) (by decide) (by decide) (by decide)).trans ((hFvy41 47 (by decide) (by decide) (by decide) (by decide) (by decide)).trans ((hFvy39 47 (by decide) (by decide)).trans r47)))))) (by decide))
            have hey138 : (uZ Fvy114 48 (ho + 1)) 48 = ho + 1 := (uZ_s _ _ _)
            have hey139 : (uZ Fvy114 48 (ho + 1)) 49 = nm := (fn ((hFvy114 49 (by decide) (by decide) (by decide) (by decide) (by decide) (by decide) (by decide)).trans ((hFvy107 49 (by decide) (by decide) (by decide) (by decide) (by decide)).trans ((hFvy53 49 (by decide) (by decide) (by decide) (by decide) (by decide) (by decide) (by decide)).trans ((hFvy47 49 (by decide) (by decide) (by decide) (by decide) (by decide)).trans ((hFvy41 49 (by decide) (by decide) (by decide) (by decide) (by decide)).trans ((hFvy39 49 (by decide) (by decide)).trans r49)))))) (by decide))
            have hfry141 : ∀ j, j ≠ (ho).toNat → ry65 j = ai1 j := fun j n0 => (congrFun hvy66 _).trans ((uZ_n _ _ n0).trans (rfl))
            have hwy142 : ry65 ((ho).toNat) = -(vy53) := (congrFun hvy66 _).trans (uZ_s _ _ _)
            have haky140 : ∀ k, k < 24 → -300 ≤ ry65 k ∧ ry65 k ≤ 100 := by
              intro k hk
              by_cases e : k = (ho).toNat
              · rw [e]; have hk0 := hai1 ((ho).toNat) (by omega); omega
              · have hk0 := hai1 k hk; rw [hfry141 k e]; exact hk0
            have hfry144 : ∀ j, j ≠ (ho).toNat → ry103 j = fa1 j := fun j n0 => (congrFun hvy104 _).trans ((uZ_n _ _ n0).trans ((congrFun hvy77 _).trans ((uZ_n _ _ n0).trans (rfl))))
            have hfry145 : ∀ j, j ≠ (ho).toNat → ry125 j = mu1 j := fun j n0 => (congrFun hvy126 _).trans ((uZ_n _ _ n0).trans ((congrFun hvy89 _).trans ((uZ_n _ _ n0).trans (rfl))))
            have hwy146 : ry103 ((ho).toNat) = (3 - 3) + 1 := (congrFun hvy104 _).trans (uZ_s _ _ _)
            have hwy147 : ry125 ((ho).toNat) = vy114 := (congrFun hvy126 _).trans (uZ_s _ _ _)
            have haky143 : ∀ k, k < 24 → (0 ≤ ry103 k ∧ ry103 k ≤ 3) ∧ (0 ≤ ry125 k ∧ ry125 k ≤ 50) ∧ (ry103 k = 1 ∨ ry103 k = 2 → 1 ≤ ry125 k) := by
              intro k hk
              by_cases e : k = (ho).toNat
              · rw [e]; have hk0 := hfa1 ((ho).toNat) (by omega); omega
              · have hk0 := hfa1 k hk; rw [hfry144 k e]; rw [hfry145 k e]; exact hk0
            have hlay148 : ∀ s l : Nat, (s : Int) < (uZ Fvy114 48 (ho + 1)) 47 → (l : Int) < mn1 s → lyT ly1 (84 * s + 7 * l) := by
              intro s l a1 a2
              have hm9 := hmn1 s (by omega)
              exact hly1 s l (by omega) a2
            have hgy149 := (hfvy39 (i + 16) (ne_o (i := i) (c := 16) (d := 0) rfl)).trans ha16
            have hgy150 := (hfvy41 (i + 16) (ne_o (i := i) (c := 16) (d := 0) rfl)).trans hgy149
            have hgy151 := (hfvy47 (i + 16) (ne_o (i := i) (c := 16) (d := 0) rfl)).trans hgy150
            have hgy152 := (hfvy53 (i + 16) (ne_o (i := i) (c := 16) (d := 0) rfl)).trans hgy151
            have hgy153 := up_n egy63 hgy152 (ne_o (i := i) (c := 16) (d := 19) rfl)
            have hgy154 := up_n egy74 hgy153 (ne_o (i := i) (c := 16) (d := 20) rfl)
            have hgy155 := up_n egy86 hgy154 (ne_o (i := i) (c := 16) (d := 21) rfl)
            have hgy156 := up_n egy101 hgy155 (ne_o (i := i) (c := 16) (d := 20) rfl)
            have hgy157 := (hfvy107 (i + 16) (ne_o (i := i) (c := 16) (d := 0) rfl)).trans hgy156
            have hgy158 := (hfvy114 (i + 16) (ne_o (i := i) (c := 16) (d := 0) rfl)).trans hgy157
            have hgy159 := up_n egy123 hgy158 (ne_o (i := i) (c := 16) (d := 21) rfl)
            have hgy160 := up_n egy129 hgy159 (ne_o (i := i) (c := 16) (d := 0) rfl)
            have hgy161 := (hfvy39 (i + 17) (ne_o (i := i) (c := 17) (d := 0) rfl)).trans ha17
            have hgy162 := (hfvy41 (i + 17) (ne_o (i := i) (c := 17) (d := 0) rfl)).trans hgy161
            have hgy163 := (hfvy47 (i + 17) (ne_o (i := i) (c := 17) (d := 0) rfl)).trans hgy162
            have hgy164 := (hfvy53 (i + 17) (ne_o (i := i) (c := 17) (d := 0) rfl)).trans hgy163
            have hgy165 := up_n egy63 hgy164 (ne_o (i := i) (c := 17) (d := 19) rfl)
            have hgy166 := up_n egy74 hgy165 (ne_o (i := i) (c := 17) (d := 20) rfl)
            have hgy167 := up_n egy86 hgy166 (ne_o (i := i) (c := 17) (d := 21) rfl)
            have hgy168 := up_n egy101 hgy167 (ne_o (i := i) (c := 17) (d := 20) rfl)
            have hgy169 := (hfvy107 (i + 17) (ne_o (i := i) (c := 17) (d := 0) rfl)).trans hgy168
            have hgy170 := (hfvy114 (i + 17) (ne_o (i := i) (c := 17) (d := 0) rfl)).trans hgy169
            have hgy171 := up_n egy123 hgy170 (ne_o (i := i) (c := 17) (d := 21) rfl)
            have hgy172 := up_n egy129 hgy171 (ne_o (i := i) (c := 17) (d := 0) rfl)
            have hgy173 := (hfvy39 (i + 18) (ne_o (i := i) (c := 18) (d := 0) rfl)).trans ha18
            have hgy174 := (hfvy41 (i + 18) (ne_o (i := i) (c := 18) (d := 0) rfl)).trans hgy173
            have hgy175 := (hfvy47 (i + 18) (ne_o (i := i) (c := 18) (d := 0) rfl)).trans hgy174
            have hgy176 := (hfvy53 (i + 18) (ne_o (i := i) (c := 18) (d := 0) rfl)).trans hgy175
            have hgy177 := up_n egy63 hgy176 (ne_o (i := i) (c := 18) (d := 19) rfl)
            have hgy178 := up_n egy74 hgy177 (ne_o (i := i) (c := 18) (d := 20) rfl)
            have hgy179 := up_n egy86 hgy178 (ne_o (i := i) (c := 18) (d := 21) rfl)
            have hgy180 := up_n egy101 hgy179 (ne_o (i := i) (c := 18) (d := 20) rfl)
            have hgy181 := (hfvy107 (i + 18) (ne_o (i := i) (c := 18) (d := 0) rfl)).trans hgy180
            have hgy182 := (hfvy114 (i + 18) (ne_o (i := i) (c := 18) (d := 0) rfl)).trans hgy181
            have hgy183 := up_n egy123 hgy182 (ne_o (i := i) (c := 18) (d := 21) rfl)
            have hgy184 := up_n egy129 hgy183 (ne_o (i := i) (c := 18) (d := 0) rfl)
            have hgy185 := up_n egy74 hgy64 (ne_o (i := i) (c := 19) (d := 20) rfl)
            have hgy186 := up_n egy86 hgy185 (ne_o (i := i) (c := 19) (d := 21) rfl)
            have hgy187 := up_n egy101 hgy186 (ne_o (i := i) (c := 19) (d := 20) rfl)
            have hgy188 := (hfvy107 (i + 19) (ne_o (i := i) (c := 19) (d := 0) rfl)).trans hgy187
            have hgy189 := (hfvy114 (i + 19) (ne_o (i := i) (c := 19) (d := 0) rfl)).trans hgy188
            have hgy190 := up_n egy123 hgy189 (ne_o (i := i) (c := 19) (d := 21) rfl)
            have hgy191 := up_n egy129 hgy190 (ne_o (i := i) (c := 19) (d := 0) rfl)
            have hgy192 := (hfvy114 (i + 20) (ne_o (i := i) (c := 20) (d := 0) rfl)).trans hgy112
            have hgy193 := up_n egy123 hgy192 (ne_o (i := i) (c := 20) (d := 21) rfl)
            have hgy194 := up_n egy129 hgy193 (ne_o (i := i) (c := 20) (d := 0) rfl)
            have hgy195 := up_n egy129 hgy124 (ne_o (i := i) (c := 21) (d := 0) rfl)
            have hgy196 := (hfvy39 (i + 22) (ne_o (i := i) (c := 22) (d := 0) rfl)).trans ha22
            have hgy197 := (hfvy41 (i + 22) (ne_o (i := i) (c := 22) (d := 0) rfl)).trans hgy196
            have hgy198 := (hfvy47 (i + 22) (ne_o (i := i) (c := 22) (d := 0) rfl)).trans hgy197
            have hgy199 := (hfvy53 (i + 22) (ne_o (i := i) (c := 22) (d := 0) rfl)).trans hgy198
            have hgy200 := up_n egy63 hgy199 (ne_o (i := i) (c := 22) (d := 19) rfl)
            have hgy201 := up_n egy74 hgy200 (ne_o (i := i) (c := 22) (d := 20) rfl)
            have hgy202 := up_n egy86 hgy201 (ne_o (i := i) (c := 22) (d := 21) rfl)
            have hgy203 := up_n egy101 hgy202 (ne_o (i := i) (c := 22) (d := 20) rfl)
            have hgy204 := (hfvy107 (i + 22) (ne_o (i := i) (c := 22) (d := 0) rfl)).trans hgy203
            have hgy205 := (hfvy114 (i + 22) (ne_o (i := i) (c := 22) (d := 0) rfl)).trans hgy204
            have hgy206 := up_n egy123 hgy205 (ne_o (i := i) (c := 22) (d := 21) rfl)
            have hgy207 := up_n egy129 hgy206 (ne_o (i := i) (c := 22) (d := 0) rfl)
            have hgy208 := (hfvy39 (i + 23) (ne_o (i := i) (c := 23) (d := 0) rfl)).trans ha23
            have hgy209 := (hfvy41 (i + 23) (ne_o (i := i) (c := 23) (d := 0) rfl)).trans hgy208
            have hgy210 := (hfvy47 (i + 23) (ne_o (i := i) (c := 23) (d := 0) rfl)).trans hgy209
            have hgy211 := (hfvy53 (i + 23) (ne_o (i := i) (c := 23) (d := 0) rfl)).trans hgy210
            have hgy212 := up_n egy63 hgy211 (ne_o (i := i) (c := 23) (d := 19) rfl)
            have hgy213 := up_n egy74 hgy212 (ne_o (i := i) (c := 23) (d := 20) rfl)
            have hgy214 := up_n egy86 hgy213 (ne_o (i := i) (c := 23) (d := 21) rfl)
            have hgy215 := up_n egy101 hgy214 (ne_o (i := i) (c := 23) (d := 20) rfl)
            have hgy216 := (hfvy107 (i + 23) (ne_o (i := i) (c := 23) (d := 0) rfl)).trans hgy215
            have hgy217 := (hfvy114 (i + 23) (ne_o (i := i) (c := 23) (d := 0) rfl)).trans hgy216
            have hgy218 := up_n egy123 hgy217 (ne_o (i := i) (c := 23) (d := 21) rfl)
            have hgy219 := up_n egy129 hgy218 (ne_o (i := i) (c := 23) (d := 0) rfl)
            have hfry220 : ∀ j, j ≠ (ho).toNat → ry65 j = ai1 j := fun j n0 => (congrFun hvy66 _).trans ((uZ_n _ _ n0).trans (rfl))
            have hwy221 : ry65 ((ho).toNat) = -(vy53) := (congrFun hvy66 _).trans (uZ_s _ _ _)
            have hfry222 : ∀ j, j ≠ (ho).toNat → ry103 j = fa1 j := fun j n0 => (congrFun hvy104 _).trans ((uZ_n _ _ n0).trans ((congrFun hvy77 _).trans ((uZ_n _ _ n0).trans (rfl))))
            have hwy223 : ry103 ((ho).toNat) = (3 - 3) + 1 := (congrFun hvy104 _).trans (uZ_s _ _ _)
            have hfry224 : ∀ j, j ≠ (ho).toNat → ry125 j = mu1 j := fun j n0 => (congrFun hvy126 _).trans ((uZ_n _ _ n0).trans ((congrFun hvy89 _).trans ((uZ_n _ _ n0).trans (rfl))))
            have hwy225 : ry125 ((ho).toNat) = vy114 := (congrFun hvy126 _).trans (uZ_s _ _ _)
            have hxty226 : xTx cs gy128 i (uZ Fvy114 48 (ho + 1)) _ := ⟨_, _, _, _, _, _, _, _, ⟨hgy160, hgy172, hgy184, hgy191, hgy194, hgy195, hgy207, hgy219⟩, ⟨⟨by omega, by omega, by omega⟩, hop1, hmn1, haky140, haky143, htb1, hlay148⟩, rT.hour (b := tk_fa T n (tk_nx T n (tk_nx T n (tk_nx T n f)))) hrT ((ho).toNat) (by show ho = _; omega) ⟨by show (uZ Fvy114 48 (ho + 1)) 47 = sl; omega, by show (uZ Fvy114 48 (ho + 1)) 48 = ho + 1; omega, by show (uZ Fvy114 48 (ho + 1)) 49 = nm; omega⟩ hfry220 (by omega) hfry222 (by omega) hfry224 (by omega)⟩
            exact z_vret C hr hlk dX10_hour1_207 (by decide) (by decide) ⟨rfl, rfl, rfl, ⟨_, hgy130, hFy131, Or.inl ⟨_, by simp only [cl_hour, cl_hour2, if_neg hscy17, if_pos h4, hnvy53, if_neg hscy97, if_neg hscy98, hnvy114]; rfl, by omega, by omega, by show f < (tk_nx T n (tk_nx T n (tk_nx T n (tk_nx T n (tk_nx T n f))))); omega, htky132, hxty226⟩⟩, fun j j1 j2 => by rw [egy129, va_up_ne _ _ (by omega)]; rw [egy123, va_up_ne _ _ (by omega)]; rw [hfvy114 _ (by omega)]; rw [hfvy107 _ (by omega)]; rw [egy101, va_up_ne _ _ (by omega)]; rw [egy86, va_up_ne _ _ (by omega)]; rw [egy74, va_up_ne _ _ (by omega)]; rw [egy63, va_up_ne _ _ (by omega)]; rw [hfvy53 _ (by omega)]; rw [hfvy47 _ (by omega)]; rw [hfvy41 _ (by omega)]; rw [hfvy39 _ (by omega)]⟩
          · obtain ⟨rfl, cvy114, hrvy114, hnvy114, hevy114, hbvy114, hkvy114⟩ := hqvy114
            clear h24vy114
            have hsry227 := srt_b T n (tk_nx T n (tk_nx T n (tk_nx T n (tk_nx T n f))))
            have hvly228 := vlu_b hTb (tk_nx T n (tk_nx T n (tk_nx T n (tk_nx T n f))))
            have hwby229 := tk_w_b T n (tk_nx T n (tk_nx T n (tk_nx T n (tk_nx T n f))))
            have hfny230 := hkvy114.1
            have hgy231 := up_n egy101 hgy87 (ne_o (i := i) (c := 21) (d := 20) rfl)
            have hgy232 := (hfvy107 (i + 21) (ne_o (i := i) (c := 21) (d := 0) rfl)).trans hgy231
            have hgy233 := (hfvy114 (i + 21) (ne_o (i := i) (c := 21) (d := 0) rfl)).trans hgy232
            refine z_iast C (lt_A (c := 21) hN rfl) hay12 hgy233 ((ho).toNat) (by omega) (by omega) (by decide) dX10_hour1_196 (fun gy234 egy235 => ?_)
            have hgy236 := up_s egy235
            obtain ⟨ry237, hvy238⟩ : ∃ rZ9 : Nat → Int, rZ9 = uZ ry88 ((ho).toNat) (1) := ⟨_, rfl⟩
            rw [← hvy238] at hgy236
            refine z_aload_n C 2 dX10_hour1_197 rfl ?_
            refine z_dup C dX10_hour1_198 rfl ?_
            have hgy239 := up_n egy235 hcvy114 (ne_o (i := i) (c := 0) (d := 21) rfl)
            refine z_get (v := .int (zI (ho))) C (lt_A0 hN rfl) hay1 hgy239 rfl inA_X10 48 (by decide) q_1507 rfl (fv (F := Fvy114) (f := 48) ((hFvy114 48 (by decide) (by decide) (by decide) (by decide) (by decide) (by decide) (by decide)).trans ((hFvy107 48 (by decide) (by decide) (by decide) (by decide) (by decide)).trans ((hFvy53 48 (by decide) (by decide) (by decide) (by decide) (by decide) (by decide) (by decide)).trans ((hFvy47 48 (by decide) (by decide) (by decide) (by decide) (by decide)).trans ((hFvy41 48 (by decide) (by decide) (by decide) (by decide) (by decide)).trans ((hFvy39 48 (by decide) (by decide)).trans r48))))))) dX10_hour1_199 ?_
            refine z_iconst (z := 1) C dX10_hour1_202 rfl ?_
            refine z_iadd C dX10_hour1_203 ?_
            refine z_put (fs' := mF ad (i) (uZ Fvy114 48 (ho + 1))) C (lt_A0 hN rfl) hay1 hgy239 tyX10 tyX10_ok nmX10 rfl inA_X10 48 (by decide) q_1507 rfl rfl rfl rfl (Nat.le_of_ble_eq_true rfl) rfl dX10_hour1_204 (fun gy240 egy241 => ?_)
            have hgy242 := up_s egy241
            have hFy243 : ∀ f, f ≠ 24 → f ≠ 32 → f ≠ 33 → f ≠ 35 → f ≠ 36 → f ≠ 37 → f ≠ 38 → f ≠ 47 → f ≠ 48 → f ≠ 49 → (uZ Fvy114 48 (ho + 1)) f = F f := fun f n24 n32 n33 n35 n36 n37 n38 n47 n48 n49 => ((uZ_n _ _ n48).trans ((hFvy114 f n24 n32 n33 n35 n36 n37 n38).trans ((hFvy107 f n32 n33 n35 n36 n37).trans ((hFvy53 f n24 n32 n33 n35 n36 n37 n38).trans ((hFvy47 f n32 n33 n35 n36 n37).trans ((hFvy41 f n32 n33 n35 n36 n37).trans (hFvy39 f n24 n38)))))))
            have htky244 : tkR T n (uZ Fvy114 48 (ho + 1)) (tk_nx T n (tk_nx T n (tk_nx T n (tk_nx T n f)))) := (tkR.put hkvy114 (by decide))
            have htoy245 := tk_to_w (T := T) (n := n) (f := (tk_nx T n (tk_nx T n (tk_nx T n (tk_nx T n f))))) htky244.1.1
            have h32y246 := htky244.2.1
            have hey247 : (uZ Fvy114 48 (ho + 1)) 24 = ((tk_nx T n (tk_nx T n (tk_nx T n (tk_nx T n f)))) : Int) := (fn hbvy114 (by decide))
            have hey248 : (uZ Fvy114 48 (ho + 1)) 38 = cvy114 := (fn hevy114 (by decide))
            have hey249 : (uZ Fvy114 48 (ho + 1)) 47 = sl := (fn ((hFvy114 47 (by decide) (by decide) (by decide) (by decide) (by decide) (by decide) (by decide)).trans ((hFvy107 47 (by decide) (by decide) (by decide) (by decide) (by decide)).trans ((hFvy53 47 (by decide) (by decide) (by decide) (by decide) (by decide) (by decide) (by decide)).trans ((hFvy47 47 (by decide) (by decide) (by decide) (by decide) (by decide)).trans ((hFvy41 47 (by decide) (by decide) (by decide) (by decide) (by decide)).trans ((hFvy39 47 (by decide) (by decide)).trans r47)))))) (by decide))
            have hey250 : (uZ Fvy114 48 (ho + 1)) 48 = ho + 1 := (uZ_s _ _ _)
            have hey251 : (uZ Fvy114 48 (ho + 1)) 49 = nm := (fn ((hFvy114 49 (by decide) (by decide) (by decide) (by decide) (by decide) (by decide) (by decide)).trans ((hFvy107 49 (by decide) (by decide) (by decide) (by decide) (by decide)).trans ((hFvy53 49 (by decide) (by decide) (by decide) (by decide) (by decide) (by decide) (by decide)).trans ((hFvy47 49 (by decide) (by decide) (by decide) (by decide) (by decide)).trans ((hFvy41 49 (by decide) (by decide) (by decide) (by decide) (by decide)).trans ((hFvy39 49 (by decide) (by decide)).trans r49)))))) (by decide))
            have hfry253 : ∀ j, j ≠ (ho).toNat → ry65 j = ai1 j := fun j n0 => (congrFun hvy66 _).trans ((uZ_n _ _ n0).trans (rfl))
            have hwy254 : ry65 ((ho).toNat) = -(vy53) := (congrFun hvy66 _).trans (uZ_s _ _ _)
            have haky252 : ∀ k, k < 24 → -300 ≤ ry65 k ∧ ry65 k ≤ 100 := by
              intro k hk
              by_cases e : k = (ho).toNat
              · rw [e]; have hk0 := hai1 ((ho).toNat) (by omega); omega
              · have hk0 := hai1 k hk; rw [hfry253 k e]; exact hk0
            have hfry256 : ∀ j, j ≠ (ho).toNat → ry103 j = fa1 j := fun j n0 => (congrFun hvy104 _).trans ((uZ_n _ _ n0).trans ((congrFun hvy77 _).trans ((uZ_n _ _ n0).trans (rfl))))
            have hfry257 : ∀ j, j ≠ (ho).toNat → ry237 j = mu1 j := fun j n0 => (congrFun hvy238 _).trans ((uZ_n _ _ n0).trans ((congrFun hvy89 _).trans ((uZ_n _ _ n0).trans (rfl))))
            have hwy258 : ry103 ((ho).toNat) = (3 - 3) + 1 := (congrFun hvy104 _).trans (uZ_s _ _ _)
            have hwy259 : ry237 ((ho).toNat) = 1 := (congrFun hvy238 _).trans (uZ_s _ _ _)
            have haky255 : ∀ k, k < 24 → (0 ≤ ry103 k ∧ ry103 k ≤ 3) ∧ (0 ≤ ry237 k ∧ ry237 k ≤ 50) ∧ (ry103 k = 1 ∨ ry103 k = 2 → 1 ≤ ry237 k) := by
              intro k hk
              by_cases e : k = (ho).toNat
              · rw [e]; have hk0 := hfa1 ((ho).toNat) (by omega); omega
              · have hk0 := hfa1 k hk; rw [hfry256 k e]; rw [hfry257 k e]; exact hk0
            have hlay260 : ∀ s l : Nat, (s : Int) < (uZ Fvy114 48 (ho + 1)) 47 → (l : Int) < mn1 s → lyT ly1 (84 * s + 7 * l) := by
              intro s l a1 a2
              have hm9 := hmn1 s (by omega)
              exact hly1 s l (by omega) a2
            have hgy261 := (hfvy39 (i + 16) (ne_o (i := i) (c := 16) (d := 0) rfl)).trans ha16
            have hgy262 := (hfvy41 (i + 16) (ne_o (i := i) (c := 16) (d := 0) rfl)).trans hgy261
            have hgy263 := (hfvy47 (i + 16) (ne_o (i := i) (c := 16) (d := 0) rfl)).trans hgy262
            have hgy264 := (hfvy53 (i + 16) (ne_o (i := i) (c := 16) (d := 0) rfl)).trans hgy263
            have hgy265 := up_n egy63 hgy264 (ne_o (i := i) (c := 16) (d := 19) rfl)
            have hgy266 := up_n egy74 hgy265 (ne_o (i := i) (c := 16) (d := 20) rfl)
            have hgy267 := up_n egy86 hgy266 (ne_o (i := i) (c := 16) (d := 21) rfl)
            have hgy268 := up_n egy101 hgy267 (ne_o (i := i) (c := 16) (d := 20) rfl)
            have hgy269 := (hfvy107 (i + 16) (ne_o (i := i) (c := 16) (d := 0) rfl)).trans hgy268
            have hgy270 := (hfvy114 (i + 16) (ne_o (i := i) (c := 16) (d := 0) rfl)).trans hgy269
            have hgy271 := up_n egy235 hgy270 (ne_o (i := i) (c := 16) (d := 21) rfl)
            have hgy272 := up_n egy241 hgy271 (ne_o (i := i) (c := 16) (d := 0) rfl)
            have hgy273 := (hfvy39 (i + 17) (ne_o (i := i) (c := 17) (d := 0) rfl)).trans ha17
            have hgy274 := (hfvy41 (i + 17) (ne_o (i := i) (c := 17) (d := 0) rfl)).trans hgy273
            have hgy275 := (hfvy47 (i + 17) (ne_o (i := i) (c := 17) (d := 0) rfl)).trans hgy274
            have hgy276 := (hfvy53 (i + 17) (ne_o (i := i) (c := 17) (d := 0) rfl)).trans hgy275
            have hgy277 := up_n egy63 hgy276 (ne_o (i := i) (c := 17) (d := 19) rfl)
            have hgy278 := up_n egy74 hgy277 (ne_o (i := i) (c := 17) (d := 20) rfl)
            have hgy279 := up_n egy86 hgy278 (ne_o (i := i) (c := 17) (d := 21) rfl)
            have hgy280 := up_n egy101 hgy279 (ne_o (i := i) (c := 17) (d := 20) rfl)
            have hgy281 := (hfvy107 (i + 17) (ne_o (i := i) (c := 17) (d := 0) rfl)).trans hgy280
            have hgy282 := (hfvy114 (i + 17) (ne_o (i := i) (c := 17) (d := 0) rfl)).trans hgy281
            have hgy283 := up_n egy235 hgy282 (ne_o (i := i) (c := 17) (d := 21) rfl)
            have hgy284 := up_n egy241 hgy283 (ne_o (i := i) (c := 17) (d := 0) rfl)
            have hgy285 := (hfvy39 (i + 18) (ne_o (i := i) (c := 18) (d := 0) rfl)).trans ha18
            have hgy286 := (hfvy41 (i + 18) (ne_o (i := i) (c := 18) (d := 0) rfl)).trans hgy285
            have hgy287 := (hfvy47 (i + 18) (ne_o (i := i) (c := 18) (d := 0) rfl)).trans hgy286
            have hgy288 := (hfvy53 (i + 18) (ne_o (i := i) (c := 18) (d := 0) rfl)).trans hgy287
            have hgy289 := up_n egy63 hgy288 (ne_o (i := i) (c := 18) (d := 19) rfl)
            have hgy290 := up_n egy74 hgy289 (ne_o (i := i) (c := 18) (d := 20) rfl)
            have hgy291 := up_n egy86 hgy290 (ne_o (i := i) (c := 18) (d := 21) rfl)
            have hgy292 := up_n egy101 hgy291 (ne_o (i := i) (c := 18) (d := 20) rfl)
            have hgy293 := (hfvy107 (i + 18) (ne_o (i := i) (c := 18) (d := 0) rfl)).trans hgy292
            have hgy294 := (hfvy114 (i + 18) (ne_o (i := i) (c := 18) (d := 0) rfl)).trans hgy293
            have hgy295 := up_n egy235 hgy294 (ne_o (i := i) (c := 18) (d := 21) rfl)
            have hgy296 := up_n egy241 hgy295 (ne_o (i := i) (c := 18) (d := 0) rfl)
            have hgy297 := up_n egy74 hgy64 (ne_o (i := i) (c := 19) (d := 20) rfl)
            have hgy298 := up_n egy86 hgy297 (ne_o (i := i) (c := 19) (d := 21) rfl)
            have hgy299 := up_n egy101 hgy298 (ne_o (i := i) (c := 19) (d := 20) rfl)
            have hgy300 := (hfvy107 (i + 19) (ne_o (i := i) (c := 19) (d := 0) rfl)).trans hgy299
            have hgy301 := (hfvy114 (i + 19) (ne_o (i := i) (c := 19) (d := 0) rfl)).trans hgy300
            have hgy302 := up_n egy235 hgy301 (ne_o (i := i) (c := 19) (d := 21) rfl)
            have hgy303 := up_n egy241 hgy302 (ne_o (i := i) (c := 19) (d := 0) rfl)
            have hgy304 := (hfvy114 (i + 20) (ne_o (i := i) (c := 20) (d := 0) rfl)).trans hgy112
            have hgy305 := up_n egy235 hgy304 (ne_o (i := i) (c := 20) (d := 21) rfl)
            have hgy306 := up_n egy241 hgy305 (ne_o (i := i) (c := 20) (d := 0) rfl)
            have hgy307 := up_n egy241 hgy236 (ne_o (i := i) (c := 21) (d := 0) rfl)
            have hgy308 := (hfvy39 (i + 22) (ne_o (i := i) (c := 22) (d := 0) rfl)).trans ha22
            have hgy309 := (hfvy41 (i + 22) (ne_o (i := i) (c := 22) (d := 0) rfl)).trans hgy308
            have hgy310 := (hfvy47 (i + 22) (ne_o (i := i) (c := 22) (d := 0) rfl)).trans hgy309
            have hgy311 := (hfvy53 (i + 22) (ne_o (i := i) (c := 22) (d := 0) rfl)).trans hgy310
            have hgy312 := up_n egy63 hgy311 (ne_o (i := i) (c := 22) (d := 19) rfl)
            have hgy313 := up_n egy74 hgy312 (ne_o (i := i) (c := 22) (d := 20) rfl)
            have hgy314 := up_n egy86 hgy313 (ne_o (i := i) (c := 22) (d := 21) rfl)
            have hgy315 := up_n egy101 hgy314 (ne_o (i := i) (c := 22) (d := 20) rfl)
            have hgy316 := (hfvy107 (i + 22) (ne_o (i := i) (c := 22) (d := 0) rfl)).trans hgy315
            have hgy317 := (hfvy114 (i + 22) (ne_o (i := i) (c := 22) (d := 0) rfl)).trans hgy316
            have hgy318 := up_n egy235 hgy317 (ne_o (i := i) (c := 22) (d := 21) rfl)
            have hgy319 := up_n egy241 hgy318 (ne_o (i := i) (c := 22) (d := 0) rfl)
            have hgy320 := (hfvy39 (i + 23) (ne_o (i := i) (c := 23) (d := 0) rfl)).trans ha23
            have hgy321 := (hfvy41 (i + 23) (ne_o (i := i) (c := 23) (d := 0) rfl)).trans hgy320
            have hgy322 := (hfvy47 (i + 23) (ne_o (i := i) (c := 23) (d := 0) rfl)).trans hgy321
            have hgy323 := (hfvy53 (i + 23) (ne_o (i := i) (c := 23) (d := 0) rfl)).trans hgy322
            have hgy324 := up_n egy63 hgy323 (ne_o (i := i) (c := 23) (d := 19) rfl)
            have hgy325 := up_n egy74 hgy324 (ne_o (i := i) (c := 23) (d := 20) rfl)
            have hgy326 := up_n egy86 hgy325 (ne_o (i := i) (c := 23) (d := 21) rfl)
            have hgy327 := up_n egy101 hgy326 (ne_o (i := i) (c := 23) (d := 20) rfl)
            have hgy328 := (hfvy107 (i + 23) (ne_o (i := i) (c := 23) (d := 0) rfl)).trans hgy327
            have hgy329 := (hfvy114 (i + 23) (ne_o (i := i) (c := 23) (d := 0) rfl)).trans hgy328
            have hgy330 := up_n egy235 hgy329 (ne_o (i := i) (c := 23) (d := 21) rfl)
            have hgy331 := up_n egy241 hgy330 (ne_o (i := i) (c := 23) (d := 0) rfl)
            have htxy332 : okTx cs gy240 i (uZ Fvy114 48 (ho + 1)) := ⟨_, _, _, _, _, _, _, _, ⟨hgy272, hgy284, hgy296, hgy303, hgy306, hgy307, hgy319, hgy331⟩, ⟨⟨by omega, by omega, by omega⟩, hop1, hmn1, haky252, haky255, htb1, hlay260⟩⟩
            exact z_vret C hr hlk dX10_hour1_207 (by decide) (by decide) ⟨rfl, rfl, rfl, ⟨_, hgy242, hFy243, Or.inr ⟨(cvy114, (tk_nx T n (tk_nx T n (tk_nx T n (tk_nx T n f))))), by simp only [cl_hour, cl_hour2, if_neg hscy17, if_pos h4, hnvy53, if_neg hscy97, if_neg hscy98, hnvy114], by show (uZ Fvy114 48 (ho + 1)) 38 = cvy114; omega, by show (uZ Fvy114 48 (ho + 1)) 24 = (((tk_nx T n (tk_nx T n (tk_nx T n (tk_nx T n f)))) : Nat) : Int); omega, by show 1 ≤ cvy114 ∧ cvy114 ≤ 5; omega, ⟨_, htky244⟩, htxy332⟩⟩, fun j j1 j2 => by rw [egy241, va_up_ne _ _ (by omega)]; rw [egy235, va_up_ne _ _ (by omega)]; rw [hfvy114 _ (by omega)]; rw [hfvy107 _ (by omega)]; rw [egy101, va_up_ne _ _ (by omega)]; rw [egy86, va_up_ne _ _ (by omega)]; rw [egy74, va_up_ne _ _ (by omega)]; rw [egy63, va_up_ne _ _ (by omega)]; rw [hfvy53 _ (by omega)]; rw [hfvy47 _ (by omega)]; rw [hfvy41 _ (by omega)]; rw [hfvy39 _ (by omega)]⟩
        · refine z_if_ne (tgt := 147) C dX10_hour1_128 (by decide) (by omega) (fun h => absurd h (by omega)) (fun _ => ?_)
          refine z_aload_n C 2 dX10_hour1_131 rfl ?_
          refine z_iconst (z := 4) C dX10_hour1_132 rfl ?_
          refine z_cV (As := [.int (zI (4))]) (rest := []) (ci := 12) C (c_yIs l D A cs tt N ad _ i hN _ hgy90 tp T n hn hTb hTt htp (tk_nx T n (tk_nx T n (tk_nx T n f))) hkvy53 hevy53 (4) (by omega)) (lt_A0 hN rfl) hay1 hgy90 rfl rfl mv_yX10_is q_1705 hd_yX10_is (by decide) (Nat.le_of_ble_eq_true rfl) (by decide) dX10_hour1_133 rfl (kI0 fun vy333 gvy333 hvy333 => ?_)
          obtain ⟨hvy333, rfl⟩ := hvy333
          rcases hvy333 with ⟨rfl, hxvy333⟩ | ⟨rfl, hxvy333⟩
          · refine z_if_ne (tgt := 147) C dX10_hour1_136 (by decide) (by omega) (fun _ => ?_) (fun h => absurd h (by omega))
            have hfay334c := tk_fa_c T n (tk_nx T n (tk_nx T n (tk_nx T n f)))
            have hfay334 : tk_fa T n (tk_nx T n (tk_nx T n (tk_nx T n f))) = tk_w T n (tk_nx T n (tk_nx T n (tk_nx T n f))) - 2 ∧ (1 ≤ tk_fa T n (tk_nx T n (tk_nx T n (tk_nx T n f))) ∧ tk_fa T n (tk_nx T n (tk_nx T n (tk_nx T n f))) ≤ 3) := by omega
            clear hfay334c
            have hscy335 : ¬ (tk_fa T n (tk_nx T n (tk_nx T n (tk_nx T n f))) = 0) := by omega
            have hscy336 : ¬ (tk_fa T n (tk_nx T n (tk_nx T n (tk_nx T n f))) = 3) := by omega
            refine z_aload_n C 2 dX10_hour1_147 rfl ?_
            refine z_get (v := .ref (ad (i + 20))) C (lt_A0 hN rfl) hay1 hgy90 rfl inA_X10 43 (by decide) q_1502 rfl rfl dX10_hour1_148 ?_
            refine z_aload_n C 2 dX10_hour1_151 rfl ?_
            refine z_get (v := .int (zI (ho))) C (lt_A0 hN rfl) hay1 hgy90 rfl inA_X10 48 (by decide) q_1507 rfl (fv (F := Fvy53) (f := 48) ((hFvy53 48 (by decide) (by decide) (by decide) (by decide) (by decide) (by decide) (by decide)).trans ((hFvy47 48 (by decide) (by decide) (by decide) (by decide) (by decide)).trans ((hFvy41 48 (by decide) (by decide) (by decide) (by decide) (by decide)).trans ((hFvy39 48 (by decide) (by decide)).trans r48))))) dX10_hour1_152 ?_
            refine z_aload_n C 2 dX10_hour1_155 rfl ?_
            refine z_get (v := .int (zI (4))) C (lt_A0 hN rfl) hay1 hgy90 rfl inA_X10 37 (by decide) q_1496 rfl (fv (F := Fvy53) (f := 37) (hkvy53.2.2.2.2.2.2.1.trans hxvy333)) dX10_hour1_156 ?_
            refine z_iconst (z := 3) C dX10_hour1_159 rfl ?_
            refine z_isub C dX10_hour1_160 ?_
            refine z_iconst (z := 1) C dX10_hour1_161 rfl ?_
            refine z_iadd C dX10_hour1_162 ?_
            have hgy337 := up_n egy86 hgy75 (ne_o (i := i) (c := 20) (d := 21) rfl)
            refine z_iast C (lt_A (c := 20) hN rfl) hay11 hgy337 ((ho).toNat) (by omega) (by omega) (by decide) dX10_hour1_163 (fun gy338 egy339 => ?_)
            have hgy340 := up_s egy339
            obtain ⟨ry341, hvy342⟩ : ∃ rZ9 : Nat → Int, rZ9 = uZ ry76 ((ho).toNat) ((4 - 3) + 1) := ⟨_, rfl⟩
            rw [← hvy342] at hgy340
            refine z_aload_n C 2 dX10_hour1_164 rfl ?_
            have hgy343 := up_n egy339 hgy90 (ne_o (i := i) (c := 0) (d := 20) rfl)
            have hgy344 := up_n egy339 hgy95 (ne_o (i := i) (c := 13) (d := 20) rfl)
            have htvy345 : tkR T n Fvy53 (tk_nx T n (tk_nx T n (tk_nx T n f))) := hkvy53
            refine z_cV (As := []) (rest := []) (ci := 12) C (c_yGo l D A cs tt N ad _ i hN _ hgy343 _ hgy344 T n hn hTb hTt htp (tk_to T n (tk_nx T n (tk_nx T n (tk_nx T n f)))) (tk_to_b htvy345.1.1).2.1 htvy345.2.1 htvy345.2.2.2.1 htvy345.2.2.2.2.2.2.2) (lt_A0 hN rfl) hay1 hgy343 rfl rfl mv_yX10_go q_1652 hd_yX10_go (by decide) (Nat.le_of_ble_eq_true rfl) (by decide) dX10_hour1_165 rfl (kV0 fun gvy345 hvy345 => ?_)
            obtain ⟨⟨Fvy345, hcvy345, hjvy345, hFvy345⟩, hfvy345⟩ := hvy345
            have hkvy345 : tkR T n Fvy345 (tk_nx T n (tk_nx T n (tk_nx T n (tk_nx T n f)))) := hjvy345
            have hnbvy345 := tk_nx_w (T := T) (n := n) (f := (tk_nx T n (tk_nx T n (tk_nx T n f)))) htvy345.1.1
            clear hjvy345
            have hsry346 := srt_b T n (tk_nx T n (tk_nx T n (tk_nx T n (tk_nx T n f))))
            have hvly347 := vlu_b hTb (tk_nx T n (tk_nx T n (tk_nx T n (tk_nx T n f))))
            have hwby348 := tk_w_b T n (tk_nx T n (tk_nx T n (tk_nx T n (tk_nx T n f))))
            have hfny349 := hkvy345.1
            refine z_aload_n C 2 dX10_hour1_168 rfl ?_
            refine z_get (v := .ref (ad (i + 20))) C (lt_A0 hN rfl) hay1 hcvy345 rfl inA_X10 43 (by decide) q_1502 rfl rfl dX10_hour1_169 ?_
            refine z_aload_n C 2 dX10_hour1_172 rfl ?_
            refine z_get (v := .int (zI (ho))) C (lt_A0 hN rfl) hay1 hcvy345 rfl inA_X10 48 (by decide) q_1507 rfl (fv (F := Fvy345) (f := 48) ((hFvy345 48 (by decide) (by decide) (by decide) (by decide) (by decide)).trans ((hFvy53 48 (by decide) (by decide) (by decide) (by decide) (by decide) (by decide) (by decide)).trans ((hFvy47 48 (by decide) (by decide) (by decide) (by decide) (by decide)).trans ((hFvy41 48 (by decide) (by decide) (by decide) (by decide) (by decide)).trans ((hFvy39 48 (by decide) (by decide)).trans r48)))))) dX10_hour1_173 ?_
            have hgy350 := (hfvy345 (i + 20) (ne_o (i := i) (c := 20) (d := 0) rfl)).trans hgy340
            refine z_iald C (lt_A (c := 20) hN rfl) hay11 hgy350 ((ho).toNat) (by omega) (by omega) (by decide) dX10_hour1_176 ?_
            rw [show ry341 ((ho).toNat) = (4 - 3) + 1 from (congrFun hvy342 _).trans (uZ_s _ _ _)]
            refine z_iconst (z := 3) C dX10_hour1_177 rfl ?_
            refine z_icmp_ge (tgt := 197) C dX10_hour1_178 (by decide) (by omega) (by omega) (fun h => absurd h (by omega)) (fun _ => ?_)
            refine z_aload_n C 2 dX10_hour1_181 rfl ?_
            refine z_get (v := .ref (ad (i + 21))) C (lt_A0 hN rfl) hay1 hcvy345 rfl inA_X10 44 (by decide) q_1503 rfl rfl dX10_hour1_182 ?_
            refine z_aload_n C 2 dX10_hour1_185 rfl ?_
            refine z_get (v := .int (zI (ho))) C (lt_A0 hN rfl) hay1 hcvy345 rfl inA_X10 48 (by decide) q_1507 rfl (fv (F := Fvy345) (f := 48) ((hFvy345 48 (by decide) (by decide) (by decide) (by decide) (by decide)).trans ((hFvy53 48 (by decide) (by decide) (by decide) (by decide) (by decide) (by decide) (by decide)).trans ((hFvy47 48 (by decide) (by decide) (by decide) (by decide) (by decide)).trans ((hFvy41 48 (by decide) (by decide) (by decide) (by decide) (by decide)).trans ((hFvy39 48 (by decide) (by decide)).trans r48)))))) dX10_hour1_186 ?_
            refine z_aload_n C 2 dX10_hour1_189 rfl ?_
            refine z_iconst (z := 1) C dX10_hour1_190 rfl ?_
            refine z_bipush (z := 50) C dX10_hour1_191 (by decide) ?_
            have hgy351 := (hfvy345 (i + 13) (ne_o (i := i) (c := 13) (d := 0) rfl)).trans hgy344
            have h24vy352 : Fvy345 24 = F 24 := ((hFvy345 24 (by decide) (by decide) (by decide) (by decide) (by decide)).trans hbvy53)
            refine z_cV (As := [.int (zI (1)), .int (zI (50))]) (rest := [.int (zI (ho)), .ref (ad (i + 21))]) (ci := 12) C (c_yNumber l D A cs tt N ad _ i hN _ hcvy345 _ hgy351 T n hn hTb hTt htp (tk_nx T n (tk_nx T n (tk_nx T n (tk_nx T n f)))) hkvy345 ((hFvy345 38 (by decide) (by decide) (by decide) (by decide) (by decide)).trans hevy53) (1) (by omega) (50) (by omega)) (lt_A0 hN rfl) hay1 hcvy345 rfl rfl mv_yX10_number q_1682 hd_yX10_number (by decide) (Nat.le_of_ble_eq_true rfl) (by decide) dX10_hour1_193 rfl (kI0 fun vy352 gvy352 hvy352 => ?_)
            obtain ⟨⟨Fvy352, hcvy352, hqvy352, hFvy352⟩, hfvy352⟩ := hvy352
            rcases hqvy352 with hqvy352 | hqvy352
            · obtain ⟨hnvy352, hrvy352, hltvy352, hevy352, hb0vy352, hkvy352⟩ := hqvy352
              have hbvy352 : Fvy352 24 = F 24 := hb0vy352.trans h24vy352
              have hnbvy352 := tk_nx_s (T := T) (n := n) (f := (tk_nx T n (tk_nx T n (tk_nx T n (tk_nx T n f))))) hltvy352
              clear hb0vy352 h24vy352
              have hsry353 := srt_b T n (tk_nx T n (tk_nx T n (tk_nx T n (tk_nx T n (tk_nx T n f)))))
              have hvly354 := vlu_b hTb (tk_nx T n (tk_nx T n (tk_nx T n (tk_nx T n (tk_nx T n f)))))
              have hwby355 := tk_w_b T n (tk_nx T n (tk_nx T n (tk_nx T n (tk_nx T n (tk_nx T n f)))))
              have hfny356 := hkvy352.1
              have hgy357 := up_n egy339 hgy87 (ne_o (i := i) (c := 21) (d := 20) rfl)
              have hgy358 := (hfvy345 (i + 21) (ne_o (i := i) (c := 21) (d := 0) rfl)).trans hgy357
              have hgy359 := (hfvy352 (i + 21) (ne_o (i := i) (c := 21) (d := 0) rfl)).trans hgy358
              refine z_iast C (lt_A (c := 21) hN rfl) hay12 hgy359 ((ho).toNat) (by omega) (by omega) (by decide) dX10_hour1_196 (fun gy360 egy361 => ?_)
              have hgy362 := up_s egy361
              obtain ⟨ry363, hvy364⟩ : ∃ rZ9 : Nat → Int, rZ9 = uZ ry88 ((ho).toNat) (vy352) := ⟨_, rfl⟩
              rw [← hvy364] at hgy362
              refine z_aload_n C 2 dX10_hour1_197 rfl ?_
              refine z_dup C dX10_hour1_198 rfl ?_
              have hgy365 := up_n egy361 hcvy352 (ne_o (i := i) (c := 0) (d := 21) rfl)
              refine z_get (v := .int (zI (ho))) C (lt_A0 hN rfl) hay1 hgy365 rfl inA_X10 48 (by decide) q_1507 rfl (fv (F := Fvy352) (f := 48) ((hFvy352 48 (by decide) (by decide) (by decide) (by decide) (by decide) (by decide) (by decide)).trans ((hFvy345 48 (by decide) (by decide) (by decide) (by decide) (by decide)).trans ((hFvy53 48 (by decide) (by decide) (by decide) (by decide) (by decide) (by decide) (by decide)).trans ((hFvy47 48 (by decide) (by decide) (by decide) (by decide) (by decide)).trans ((hFvy41 48 (by decide) (by decide) (by decide) (by decide) (by decide)).trans ((hFvy39 48 (by decide) (by decide)).trans r48))))))) dX10_hour1_199 ?_
              refine z_iconst (z := 1) C dX10_hour1_202 rfl ?_
              refine z_iadd C dX10_hour1_203 ?_
              refine z_put (fs' := mF ad (i) (uZ Fvy352 48 (ho + 1))) C (lt_A0 hN rfl) hay1 hgy365 tyX10 tyX10_ok nmX10 rfl inA_X10 48 (by decide) q_1507 rfl rfl rfl rfl (Nat.le_of_ble_eq_true rfl) rfl dX10_hour1_204 (fun gy366 egy367 => ?_)
              have hgy368 := up_s egy367
              have hFy369 : ∀ f, f ≠ 24 → f ≠ 32 → f ≠ 33 → f ≠ 35 → f ≠ 36 → f ≠ 37 → f ≠ 38 → f ≠ 47 → f ≠ 48 → f ≠ 49 → (uZ Fvy352 48 (ho + 1)) f = F f := fun f n24 n32 n33 n35 n36 n37 n38 n47 n48 n49 => ((uZ_n _ _ n48).trans ((hFvy352 f n24 n32 n33 n35 n36 n37 n38).trans ((hFvy345 f n32 n33 n35 n36 n37).trans ((hFvy53 f n24 n32 n33 n35 n36 n37 n38).trans ((hFvy47 f n32 n33 n35 n36 n37).trans ((hFvy41 f n32 n33 n35 n36 n37).trans (hFvy39 f n24 n38)))))))
              have htky370 : tkR T n (uZ Fvy352 48 (ho + 1)) (tk_nx T n (tk_nx T n (tk_nx T n (tk_nx T n (tk_nx T n f))))) := (tkR.put hkvy352 (by decide))
              have htoy371 := tk_to_w (T := T) (n := n) (f := (tk_nx T n (tk_nx T n (tk_nx T n (tk_nx T n (tk_nx T n f)))))) htky370.1.1
              have h32y372 := htky370.2.1
              have hey373 : (uZ Fvy352 48 (ho + 1)) 24 = F 24 := (fn hbvy352 (by decide))
              have hey374 : (uZ Fvy352 48 (ho + 1)) 38 = 0 := (fn hevy352 (by decide))
              have hey375 : (uZ Fvy352 48 (ho + 1)) 47 = sl := (fn ((hFvy352 47 (by decide) (by decide) (by decide) (by decide) (by decide) (by decide) (by decide)).trans ((hFvy345 47 (by decide) (by decide) (by decide) (by decide) (by decide)).trans ((hFvy53 47 (by decide) (by decide) (by decide) (by decide) (by decide) (by decide) (by decide)).trans ((hFvy47 47 (by decide) (by decide) (by decide) (by decide) (by decide)).trans ((hFvy41 47 (by decide) (by decide) (by decide) (by decide) (by decide)).trans ((hFvy39 47 (by decide) (by decide)).trans r47)))))) (by decide))
              have hey376 : (uZ Fvy352 48 (ho + 1)) 48 = ho + 1 := (uZ_s _ _ _)
              have hey377 : (uZ Fvy352 48 (ho + 1)) 49 = nm := (fn ((hFvy352 49 (by decide) (by decide) (by decide) (by decide) (by decide) (by decide) (by decide)).trans ((hFvy345 49 (by decide) (by decide) (by decide) (by decide) (by decide)).trans ((hFvy53 49 (by decide) (by decide) (by decide) (by decide) (by decide) (by decide) (by decide)).trans ((hFvy47 49 (by decide) (by decide) (by decide) (by decide) (by decide)).trans ((hFvy41 49 (by decide) (by decide) (by decide) (by decide) (by decide)).trans ((hFvy39 49 (by decide) (by decide)).trans r49)))))) (by decide))
              have hfry379 : ∀ j, j ≠ (ho).toNat → ry65 j = ai1 j := fun j n0 => (congrFun hvy66 _).trans ((uZ_n _ _ n0).trans (rfl))
              have hwy380 : ry65 ((ho).toNat) = -(vy53) := (congrFun hvy66 _).trans (uZ_s _ _ _)
              have haky378 : ∀ k, k < 24 → -300 ≤ ry65 k ∧ ry65 k ≤ 100 := by
                intro k hk
                by_cases e : k = (ho).toNat
                · rw [e]; have hk0 := hai1 ((ho).toNat) (by omega); omega
                · have hk0 := hai1 k hk; rw [hfry379 k e]; exact hk0
              have hfry382 : ∀ j, j ≠ (ho).toNat → ry341 j = fa1 j := fun j n0 => (congrFun hvy342 _).trans ((uZ_n _ _ n0).trans ((congrFun hvy77 _).trans ((uZ_n _ _ n0).trans (rfl))))
              have hfry383 : ∀ j, j ≠ (ho).toNat → ry363 j = mu1 j := fun j n0 => (congrFun hvy364 _).trans ((uZ_n _ _ n0).trans ((congrFun hvy89 _).trans ((uZ_n _ _ n0).trans (rfl))))
              have hwy384 : ry341 ((ho).toNat) = (4 - 3) + 1 := (congrFun hvy342 _).trans (uZ_s _ _ _)
              have hwy385 : ry363 ((ho).toNat) = vy352 := (congrFun hvy364 _).trans (uZ_s _ _ _)
              have haky381 : ∀ k, k < 24 → (0 ≤ ry341 k ∧ ry341 k ≤ 3) ∧ (0 ≤ ry363 k ∧ ry363 k ≤ 50) ∧ (ry341 k = 1 ∨ ry341 k = 2 → 1 ≤ ry363 k) := by
                intro k hk
                by_cases e : k = (ho).toNat
                · rw [e]; have hk0 := hfa1 ((ho).toNat) (by omega); omega
                · have hk0 := hfa1 k hk; rw [hfry382 k e]; rw [hfry383 k e]; exact hk0
              have hlay386 : ∀ s l : Nat, (s : Int) < (uZ Fvy352 48 (ho + 1)) 47 → (l : Int) < mn1 s → lyT ly1 (84 * s + 7 * l) := by
                intro s l a1 a2
                have hm9 := hmn1 s (by omega)
                exact hly1 s l (by omega) a2
              have hgy387 := (hfvy39 (i + 16) (ne_o (i := i) (c := 16) (d := 0) rfl)).trans ha16
              have hgy388 := (hfvy41 (i + 16) (ne_o (i := i) (c := 16) (d := 0) rfl)).trans hgy387
              have hgy389 := (hfvy47 (i + 16) (ne_o (i := i) (c := 16) (d := 0) rfl)).trans hgy388
              have hgy390 := (hfvy53 (i + 16) (ne_o (i := i) (c := 16) (d := 0) rfl)).trans hgy389
              have hgy391 := up_n egy63 hgy390 (ne_o (i := i) (c := 16) (d := 19) rfl)
              have hgy392 := up_n egy74 hgy391 (ne_o (i := i) (c := 16) (d := 20) rfl)
              have hgy393 := up_n egy86 hgy392 (ne_o (i := i) (c := 16) (d := 21) rfl)
              have hgy394 := up_n egy339 hgy393 (ne_o (i := i) (c := 16) (d := 20) rfl)
              have hgy395 := (hfvy345 (i + 16) (ne_o (i := i) (c := 16) (d := 0) rfl)).trans hgy394
              have hgy396 := (hfvy352 (i + 16) (ne_o (i := i) (c := 16) (d := 0) rfl)).trans hgy395
              have hgy397 := up_n egy361 hgy396 (ne_o (i := i) (c := 16) (d := 21) rfl)
              have hgy398 := up_n egy367 hgy397 (ne_o (i := i) (c := 16) (d := 0) rfl)
              have hgy399 := (hfvy39 (i + 17) (ne_o (i := i) (c := 17) (d := 0) rfl)).trans ha17
              have hgy400 := (hfvy41 (i + 17) (ne_o (i := i) (c := 17) (d := 0) rfl)).trans hgy399
              have hgy401 := (hfvy47 (i + 17) (ne_o (i := i) (c := 17) (d := 0) rfl)).trans hgy400
              have hgy402 := (hfvy53 (i + 17) (ne_o (i := i) (c := 17) (d := 0) rfl)).trans hgy401
              have hgy403 := up_n egy63 hgy402 (ne_o (i := i) (c := 17) (d := 19) rfl)
              have hgy404 := up_n egy74 hgy403 (ne_o (i := i) (c := 17) (d := 20) rfl)
              have hgy405 := up_n egy86 hgy404 (ne_o (i := i) (c := 17) (d := 21) rfl)
              have hgy406 := up_n egy339 hgy405 (ne_o (i := i) (c := 17) (d := 20) rfl)
              have hgy407 := (hfvy345 (i + 17) (ne_o (i := i) (c := 17) (d := 0) rfl)).trans hgy406
              have hgy408 := (hfvy352 (i + 17) (ne_o (i := i) (c := 17) (d := 0) rfl)).trans hgy407
              have hgy409 := up_n egy361 hgy408 (ne_o (i := i) (c := 17) (d := 21) rfl)
              have hgy410 := up_n egy367 hgy409 (ne_o (i := i) (c := 17) (d := 0) rfl)
              have hgy411 := (hfvy39 (i + 18) (ne_o (i := i) (c := 18) (d := 0) rfl)).trans ha18
              have hgy412 := (hfvy41 (i + 18) (ne_o (i := i) (c := 18) (d := 0) rfl)).trans hgy411
              have hgy413 := (hfvy47 (i + 18) (ne_o (i := i) (c := 18) (d := 0) rfl)).trans hgy412
              have hgy414 := (hfvy53 (i + 18) (ne_o (i := i) (c := 18) (d := 0) rfl)).trans hgy413
              have hgy415 := up_n egy63 hgy414 (ne_o (i := i) (c := 18) (d := 19) rfl)
              have hgy416 := up_n egy74 hgy415 (ne_o (i := i) (c := 18) (d := 20) rfl)
              have hgy417 := up_n egy86 hgy416 (ne_o (i := i) (c := 18) (d := 21) rfl)
              have hgy418 := up_n egy339 hgy417 (ne_o (i := i) (c := 18) (d := 20) rfl)
              have hgy419 := (hfvy345 (i + 18) (ne_o (i := i) (c := 18) (d := 0) rfl)).trans hgy418
              have hgy420 := (hfvy352 (i + 18) (ne_o (i := i) (c := 18) (d := 0) rfl)).trans hgy419
              have hgy421 := up_n egy361 hgy420 (ne_o (i := i) (c := 18) (d := 21) rfl)
              have hgy422 := up_n egy367 hgy421 (ne_o (i := i) (c := 18) (d := 0) rfl)
              have hgy423 := up_n egy74 hgy64 (ne_o (i := i) (c := 19) (d := 20) rfl)
              have hgy424 := up_n egy86 hgy423 (ne_o (i := i) (c := 19) (d := 21) rfl)
              have hgy425 := up_n egy339 hgy424 (ne_o (i := i) (c := 19) (d := 20) rfl)
              have hgy426 := (hfvy345 (i + 19) (ne_o (i := i) (c := 19) (d := 0) rfl)).trans hgy425
              have hgy427 := (hfvy352 (i + 19) (ne_o (i := i) (c := 19) (d := 0) rfl)).trans hgy426
              have hgy428 := up_n egy361 hgy427 (ne_o (i := i) (c := 19) (d := 21) rfl)
              have hgy429 := up_n egy367 hgy428 (ne_o (i := i) (c := 19) (d := 0) rfl)
              have hgy430 := (hfvy352 (i + 20) (ne_o (i := i) (c := 20) (d := 0) rfl)).trans hgy350
              have hgy431 := up_n egy361 hgy430 (ne_o (i := i) (c := 20) (d := 21) rfl)
              have hgy432 := up_n egy367 hgy431 (ne_o (i := i) (c := 20) (d := 0) rfl)
              have hgy433 := up_n egy367 hgy362 (ne_o (i := i) (c := 21) (d := 0) rfl)
              have hgy434 := (hfvy39 (i + 22) (ne_o (i := i) (c := 22) (d := 0) rfl)).trans ha22
              have hgy435 := (hfvy41 (i + 22) (ne_o (i := i) (c := 22) (d := 0) rfl)).trans hgy434
              have hgy436 := (hfvy47 (i + 22) (ne_o (i := i) (c := 22) (d := 0) rfl)).trans hgy435
              have hgy437 := (hfvy53 (i + 22) (ne_o (i := i) (c := 22) (d := 0) rfl)).trans hgy436
              have hgy438 := up_n egy63 hgy437 (ne_o (i := i) (c := 22) (d := 19) rfl)
              have hgy439 := up_n egy74 hgy438 (ne_o (i := i) (c := 22) (d := 20) rfl)
              have hgy440 := up_n egy86 hgy439 (ne_o (i := i) (c := 22) (d := 21) rfl)
              have hgy441 := up_n egy339 hgy440 (ne_o (i := i) (c := 22) (d := 20) rfl)
              have hgy442 := (hfvy345 (i + 22) (ne_o (i := i) (c := 22) (d := 0) rfl)).trans hgy441
              have hgy443 := (hfvy352 (i + 22) (ne_o (i := i) (c := 22) (d := 0) rfl)).trans hgy442
              have hgy444 := up_n egy361 hgy443 (ne_o (i := i) (c := 22) (d := 21) rfl)
              have hgy445 := up_n egy367 hgy444 (ne_o (i := i) (c := 22) (d := 0) rfl)
              have hgy446 := (hfvy39 (i + 23) (ne_o (i := i) (c := 23) (d := 0) rfl)).trans ha23
              have hgy447 := (hfvy41 (i + 23) (ne_o (i := i) (c := 23) (d := 0) rfl)).trans hgy446
              have hgy448 := (hfvy47 (i + 23) (ne_o (i := i) (c := 23) (d := 0) rfl)).trans hgy447
              have hgy449 := (hfvy53 (i + 23) (ne_o (i := i) (c := 23) (d := 0) rfl)).trans hgy448
              have hgy450 := up_n egy63 hgy449 (ne_o (i := i) (c := 23) (d := 19) rfl)
              have hgy451 := up_n egy74 hgy450 (ne_o (i := i) (c := 23) (d := 20) rfl)
              have hgy452 := up_n egy86 hgy451 (ne_o (i := i) (c := 23) (d := 21) rfl)
              have hgy453 := up_n egy339 hgy452 (ne_o (i := i) (c := 23) (d := 20) rfl)
              have hgy454 := (hfvy345 (i + 23) (ne_o (i := i) (c := 23) (d := 0) rfl)).trans hgy453
              have hgy455 := (hfvy352 (i + 23) (ne_o (i := i) (c := 23) (d := 0) rfl)).trans hgy454
              have hgy456 := up_n egy361 hgy455 (ne_o (i := i) (c := 23) (d := 21) rfl)
              have hgy457 := up_n egy367 hgy456 (ne_o (i := i) (c := 23) (d := 0) rfl)
              have hfry458 : ∀ j, j ≠ (ho).toNat → ry65 j = ai1 j := fun j n0 => (congrFun hvy66 _).trans ((uZ_n _ _ n0).trans (rfl))
              have hwy459 : ry65 ((ho).toNat) = -(vy53) := (congrFun hvy66 _).trans (uZ_s _ _ _)
              have hfry460 : ∀ j, j ≠ (ho).toNat → ry341 j = fa1 j := fun j n0 => (congrFun hvy342 _).trans ((uZ_n _ _ n0).trans ((congrFun hvy77 _).trans ((uZ_n _ _ n0).trans (rfl))))
              have hwy461 : ry341 ((ho).toNat) = (4 - 3) + 1 := (congrFun hvy342 _).trans (uZ_s _ _ _)
              have hfry462 : ∀ j, j ≠ (ho).toNat → ry363 j = mu1 j := fun j n0 => (congrFun hvy364 _).trans ((uZ_n _ _ n0).trans ((congrFun hvy89 _).trans ((uZ_n _ _ n0).trans (rfl))))
              have hwy463 : ry363 ((ho).toNat) = vy352 := (congrFun hvy364 _).trans (uZ_s _ _ _)
              have hxty464 : xTx cs gy366 i (uZ Fvy352 48 (ho + 1)) _ := ⟨_, _, _, _, _, _, _, _, ⟨hgy398, hgy410, hgy422, hgy429, hgy432, hgy433, hgy445, hgy457⟩, ⟨⟨by omega, by omega, by omega⟩, hop1, hmn1, haky378, haky381, htb1, hlay386⟩, rT.hour (b := tk_fa T n (tk_nx T n (tk_nx T n (tk_nx T n f)))) hrT ((ho).toNat) (by show ho = _; omega) ⟨by show (uZ Fvy352 48 (ho + 1)) 47 = sl; omega, by show (uZ Fvy352 48 (ho + 1)) 48 = ho + 1; omega, by show (uZ Fvy352 48 (ho + 1)) 49 = nm; omega⟩ hfry458 (by omega) hfry460 (by omega) hfry462 (by omega)⟩
              exact z_vret C hr hlk dX10_hour1_207 (by decide) (by decide) ⟨rfl, rfl, rfl, ⟨_, hgy368, hFy369, Or.inl ⟨_, by simp only [cl_hour, cl_hour2, if_neg hscy17, if_pos h4, hnvy53, if_neg hscy335, if_neg hscy336, hnvy352]; rfl, by omega, by omega, by show f < (tk_nx T n (tk_nx T n (tk_nx T n (tk_nx T n (tk_nx T n f))))); omega, htky370, hxty464⟩⟩, fun j j1 j2 => by rw [egy367, va_up_ne _ _ (by omega)]; rw [egy361, va_up_ne _ _ (by omega)]; rw [hfvy352 _ (by omega)]; rw [hfvy345 _ (by omega)]; rw [egy339, va_up_ne _ _ (by omega)]; rw [egy86, va_up_ne _ _ (by omega)]; rw [egy74, va_up_ne _ _ (by omega)]; rw [egy63, va_up_ne _ _ (by omega)]; rw [hfvy53 _ (by omega)]; rw [hfvy47 _ (by omega)]; rw [hfvy41 _ (by omega)]; rw [hfvy39 _ (by omega)]⟩
            · obtain ⟨rfl, cvy352, hrvy352, hnvy352, hevy352, hbvy352, hkvy352⟩ := hqvy352
              clear h24vy352
              have hsry465 := srt_b T n (tk_nx T n (tk_nx T n (tk_nx T n (tk_nx T n f))))
              have hvly466 := vlu_b hTb (tk_nx T n (tk_nx T n (tk_nx T n (tk_nx T n f))))
              have hwby467 := tk_w_b T n (tk_nx T n (tk_nx T n (tk_nx T n (tk_nx T n f))))
              have hfny468 := hkvy352.1
              have hgy469 := up_n egy339 hgy87 (ne_o (i := i) (c := 21) (d := 20) rfl)
              have hgy470 := (hfvy345 (i + 21) (ne_o (i := i) (c := 21) (d := 0) rfl)).trans hgy469
              have hgy471 := (hfvy352 (i + 21) (ne_o (i := i) (c := 21) (d := 0) rfl)).trans hgy470
              refine z_iast C (lt_A (c := 21) hN rfl) hay12 hgy471 ((ho).toNat) (by omega) (by omega) (by decide) dX10_hour1_196 (fun gy472 egy473 => ?_)
              have hgy474 := up_s egy473
              obtain ⟨ry475, hvy476⟩ : ∃ rZ9 : Nat → Int, rZ9 = uZ ry88 ((ho).toNat) (1) := ⟨_, rfl⟩
              rw [← hvy476] at hgy474
              refine z_aload_n C 2 dX10_hour1_197 rfl ?_
              refine z_dup C dX10_hour1_198 rfl ?_
              have hgy477 := up_n egy473 hcvy352 (ne_o (i := i) (c := 0) (d := 21) rfl)
              refine z_get (v := .int (zI (ho))) C (lt_A0 hN rfl) hay1 hgy477 rfl inA_X10 48 (by decide) q_1507 rfl (fv (F := Fvy352) (f := 48) ((hFvy352 48 (by decide) (by decide) (by decide) (by decide) (by decide) (by decide) (by decide)).trans ((hFvy345 48 (by decide) (by decide) (by decide) (by decide) (by decide)).trans ((hFvy53 48 (by decide) (by decide) (by decide) (by decide) (by decide) (by decide) (by decide)).trans ((hFvy47 48 (by decide) (by decide) (by decide) (by decide) (by decide)).trans ((hFvy41 48 (by decide) (by decide) (by decide) (by decide) (by decide)).trans ((hFvy39 48 (by decide) (by decide)).trans r48))))))) dX10_hour1_199 ?_
              refine z_iconst (z := 1) C dX10_hour1_202 rfl ?_
              refine z_iadd C dX10_hour1_203 ?_
              refine z_put (fs' := mF ad (i) (uZ Fvy352 48 (ho + 1))) C (lt_A0 hN rfl) hay1 hgy477 tyX10 tyX10_ok nmX10 rfl inA_X10 48 (by decide) q_1507 rfl rfl rfl rfl (Nat.le_of_ble_eq_true rfl) rfl dX10_hour1_204 (fun gy478 egy479 => ?_)
              have hgy480 := up_s egy479
              have hFy481 : ∀ f, f ≠ 24 → f ≠ 32 → f ≠ 33 → f ≠ 35 → f ≠ 36 → f ≠ 37 → f ≠ 38 → f ≠ 47 → f ≠ 48 → f ≠ 49 → (uZ Fvy352 48 (ho + 1)) f = F f := fun f n24 n32 n33 n35 n36 n37 n38 n47 n48 n49 => ((uZ_n _ _ n48).trans ((hFvy352 f n24 n32 n33 n35 n36 n37 n38).trans ((hFvy345 f n32 n33 n35 n36 n37).trans ((hFvy53 f n24 n32 n33 n35 n36 n37 n38).trans ((hFvy47 f n32 n33 n35 n36 n37).trans ((hFvy41 f n32 n33 n35 n36 n37).trans (hFvy39 f n24 n38)))))))
              have htky482 : tkR T n (uZ Fvy352 48 (ho + 1)) (tk_nx T n (tk_nx T n (tk_nx T n (tk_nx T n f)))) := (tkR.put hkvy352 (by decide))
              have htoy483 := tk_to_w (T := T) (n := n) (f := (tk_nx T n (tk_nx T n (tk_nx T n (tk_nx T n f))))) htky482.1.1
              have h32y484 := htky482.2.1
              have hey485 : (uZ Fvy352 48 (ho + 1)) 24 = ((tk_nx T n (tk_nx T n (tk_nx T n (tk_nx T n f)))) : Int) := (fn hbvy352 (by decide))
              have hey486 : (uZ Fvy352 48 (ho + 1)) 38 = cvy352 := (fn hevy352 (by decide))
              have hey487 : (uZ Fvy352 48 (ho + 1)) 47 = sl := (fn ((hFvy352 47 (by decide) (by decide) (by decide) (by decide) (by decide) (by decide) (by decide)).trans ((hFvy345 47 (by decide) (by decide) (by decide) (by decide) (by decide)).trans ((hFvy53 47 (by decide) (by decide) (by decide) (by decide) (by decide) (by decide) (by decide)).trans ((hFvy47 47 (by decide) (by decide) (by decide) (by decide) (by decide)).trans ((hFvy41 47 (by decide) (by decide) (by decide) (by decide) (by decide)).trans ((hFvy39 47 (by decide) (by decide)).trans r47)))))) (by decide))
              have hey488 : (uZ Fvy352 48 (ho + 1)) 48 = ho + 1 := (uZ_s _ _ _)
              have hey489 : (uZ Fvy352 48 (ho + 1)) 49 = nm := (fn ((hFvy352 49 (by decide) (by decide) (by decide) (by decide) (by decide) (by decide) (by decide)).trans ((hFvy345 49 (by decide) (by decide) (by decide) (by decide) (by decide)).trans ((hFvy53 49 (by decide) (by decide) (by decide) (by decide) (by decide) (by decide) (by decide)).trans ((hFvy47 49 (by decide) (by decide) (by decide) (by decide) (by decide)).trans ((hFvy41 49 (by decide) (by decide) (by decide) (by decide) (by decide)).trans ((hFvy39 49 (by decide) (by decide)).trans r49)))))) (by decide))
              have hfry491 : ∀ j, j ≠ (ho).toNat → ry65 j = ai1 j := fun j n0 => (congrFun hvy66 _).trans ((uZ_n _ _ n0).trans (rfl))
              have hwy492 : ry65 ((ho).toNat) = -(vy53) := (congrFun hvy66 _).trans (uZ_s _ _ _)
              have haky490 : ∀ k, k < 24 → -300 ≤ ry65 k ∧ ry65 k ≤ 100 := by
                intro k hk
                by_cases e : k = (ho).toNat
                · rw [e]; have hk0 := hai1 ((ho).toNat) (by omega); omega
                · have hk0 := hai1 k hk; rw [hfry491 k e]; exact hk0
              have hfry494 : ∀ j, j ≠ (ho).toNat → ry341 j = fa1 j := fun j n0 => (congrFun hvy342 _).trans ((uZ_n _ _ n0).trans ((congrFun hvy77 _).trans ((uZ_n _ _ n0).trans (rfl))))
              have hfry495 : ∀ j, j ≠ (ho).toNat → ry475 j = mu1 j := fun j n0 => (congrFun hvy476 _).trans ((uZ_n _ _ n0).trans ((congrFun hvy89 _).trans ((uZ_n _ _ n0).trans (rfl))))
              have hwy496 : ry341 ((ho).toNat) = (4 - 3) + 1 := (congrFun hvy342 _).trans (uZ_s _ _ _)
              have hwy497 : ry475 ((ho).toNat) = 1 := (congrFun hvy476 _).trans (uZ_s _ _ _)
              have haky493 : ∀ k, k < 24 → (0 ≤ ry341 k ∧ ry341 k ≤ 3) ∧ (0 ≤ ry475 k ∧ ry475 k ≤ 50) ∧ (ry341 k = 1 ∨ ry341 k = 2 → 1 ≤ ry475 k) := by
                intro k hk
                by_cases e : k = (ho).toNat
                · rw [e]; have hk0 := hfa1 ((ho).toNat) (by omega); omega
                · have hk0 := hfa1 k hk; rw [hfry494 k e]; rw [hfry495 k e]; exact hk0
              have hlay498 : ∀ s l : Nat, (s : Int) < (uZ Fvy352 48 (ho + 1)) 47 → (l : Int) < mn1 s → lyT ly1 (84 * s + 7 * l) := by
                intro s l a1 a2
                have hm9 := hmn1 s (by omega)
                exact hly1 s l (by omega) a2
              have hgy499 := (hfvy39 (i + 16) (ne_o (i := i) (c := 16) (d := 0) rfl)).trans ha16
              have hgy500 := (hfvy41 (i + 16) (ne_o (i := i) (c := 16) (d := 0) rfl)).trans hgy499
              have hgy501 := (hfvy47 (i + 16) (ne_o (i := i) (c := 16) (d := 0) rfl)).trans hgy500
              have hgy502 := (hfvy53 (i + 16) (ne_o (i := i) (c := 16) (d := 0) rfl)).trans hgy501
              have hgy503 := up_n egy63 hgy502 (ne_o (i := i) (c := 16) (d := 19) rfl)
              have hgy504 := up_n egy74 hgy503 (ne_o (i := i) (c := 16) (d := 20) rfl)
              have hgy505 := up_n egy86 hgy504 (ne_o (i := i) (c := 16) (d := 21) rfl)
              have hgy506 := up_n egy339 hgy505 (ne_o (i := i) (c := 16) (d := 20) rfl)
              have hgy507 := (hfvy345 (i + 16) (ne_o (i := i) (c := 16) (d := 0) rfl)).trans hgy506
              have hgy508 := (hfvy352 (i + 16) (ne_o (i := i) (c := 16) (d := 0) rfl)).trans hgy507
              have hgy509 := up_n egy473 hgy508 (ne_o (i := i) (c := 16) (d := 21) rfl)
              have hgy510 := up_n egy479 hgy509 (ne_o (i := i) (c := 16) (d := 0) rfl)
              have hgy511 := (hfvy39 (i + 17) (ne_o (i := i) (c := 17) (d := 0) rfl)).trans ha17
              have hgy512 := (hfvy41 (i + 17) (ne_o (i := i) (c := 17) (d := 0) rfl)).trans hgy511
              have hgy513 := (hfvy47 (i + 17) (ne_o (i := i) (c := 17) (d := 0) rfl)).trans hgy512
              have hgy514 := (hfvy53 (i + 17) (ne_o (i := i) (c := 17) (d := 0) rfl)).trans hgy513
              have hgy515 := up_n egy63 hgy514 (ne_o (i := i) (c := 17) (d := 19) rfl)
              have hgy516 := up_n egy74 hgy515 (ne_o (i := i) (c := 17) (d := 20) rfl)
              have hgy517 := up_n egy86 hgy516 (ne_o (i := i) (c := 17) (d := 21) rfl)
              have hgy518 := up_n egy339 hgy517 (ne_o (i := i) (c := 17) (d := 20) rfl)
              have hgy519 := (hfvy345 (i + 17) (ne_o (i := i) (c := 17) (d := 0) rfl)).trans hgy518
              have hgy520 := (hfvy352 (i + 17) (ne_o (i := i) (c := 17) (d := 0) rfl)).trans hgy519
              have hgy521 := up_n egy473 hgy520 (ne_o (i := i) (c := 17) (d := 21) rfl)
              have hgy522 := up_n egy479 hgy521 (ne_o (i := i) (c := 17) (d := 0) rfl)
              have hgy523 := (hfvy39 (i + 18) (ne_o (i := i) (c := 18) (d := 0) rfl)).trans ha18
              have hgy524 := (hfvy41 (i + 18) (ne_o (i := i) (c := 18) (d := 0) rfl)).trans hgy523
              have hgy525 := (hfvy47 (i + 18) (ne_o (i := i) (c := 18) (d := 0) rfl)).trans hgy524
              have hgy526 := (hfvy53 (i + 18) (ne_o (i := i) (c := 18) (d := 0) rfl)).trans hgy525
              have hgy527 := up_n egy63 hgy526 (ne_o (i := i) (c := 18) (d := 19) rfl)
              have hgy528 := up_n egy74 hgy527 (ne_o (i := i) (c := 18) (d := 20) rfl)
              have hgy529 := up_n egy86 hgy528 (ne_o (i := i) (c := 18) (d := 21) rfl)
              have hgy530 := up_n egy339 hgy529 (ne_o (i := i) (c := 18) (d := 20) rfl)
              have hgy531 := (hfvy345 (i + 18) (ne_o (i := i) (c := 18) (d := 0) rfl)).trans hgy530
              have hgy532 := (hfvy352 (i + 18) (ne_o (i := i) (c := 18) (d := 0) rfl)).trans hgy531
              have hgy533 := up_n egy473 hgy532 (ne_o (i := i) (c := 18) (d := 21) rfl)
              have hgy534 := up_n egy479 hgy533 (ne_o (i := i) (c := 18) (d := 0) rfl)
              have hgy535 := up_n egy74 hgy64 (ne_o (i := i) (c := 19) (d := 20) rfl)
              have hgy536 := up_n egy86 hgy535 (ne_o (i := i) (c := 19) (d := 21) rfl)
              have hgy537 := up_n egy339 hgy536 (ne_o (i := i) (c := 19) (d := 20) rfl)
              have hgy538 := (hfvy345 (i + 19) (ne_o (i := i) (c := 19) (d := 0) rfl)).trans hgy537
              have hgy539 := (hfvy352 (i + 19) (ne_o (i := i) (c := 19) (d := 0) rfl)).trans hgy538
              have hgy540 := up_n egy473 hgy539 (ne_o (i := i) (c := 19) (d := 21) rfl)
              have hgy541 := up_n egy479 hgy540 (ne_o (i := i) (c := 19) (d := 0) rfl)
              have hgy542 := (hfvy352 (i + 20) (ne_o (i := i) (c := 20) (d := 0) rfl)).trans hgy350
              have hgy543 := up_n egy473 hgy542 (ne_o (i := i) (c := 20) (d := 21) rfl)
              have hgy544 := up_n egy479 hgy543 (ne_o (i := i) (c := 20) (d := 0) rfl)
              have hgy545 := up_n egy479 hgy474 (ne_o (i := i) (c := 21) (d := 0) rfl)
              have hgy546 := (hfvy39 (i + 22) (ne_o (i := i) (c := 22) (d := 0) rfl)).trans ha22
              have hgy547 := (hfvy41 (i + 22) (ne_o (i := i) (c := 22) (d := 0) rfl)).trans hgy546
              have hgy548 := (hfvy47 (i + 22) (ne_o (i := i) (c := 22) (d := 0) rfl)).trans hgy547
              have hgy549 := (hfvy53 (i + 22) (ne_o (i := i) (c := 22) (d := 0) rfl)).trans hgy548
              have hgy550 := up_n egy63 hgy549 (ne_o (i := i) (c := 22) (d := 19) rfl)
              have hgy551 := up_n egy74 hgy550 (ne_o (i := i) (c := 22) (d := 20) rfl)
              have hgy552 := up_n egy86 hgy551 (ne_o (i := i) (c := 22) (d := 21) rfl)
              have hgy553 := up_n egy339 hgy552 (ne_o (i := i) (c := 22) (d := 20) rfl)
              have hgy554 := (hfvy345 (i + 22) (ne_o (i := i) (c := 22) (d := 0) rfl)).trans hgy553
              have hgy555 := (hfvy352 (i + 22) (ne_o (i := i) (c := 22) (d := 0) rfl)).trans hgy554
              have hgy556 := up_n egy473 hgy555 (ne_o (i := i) (c := 22) (d := 21) rfl)
              have hgy557 := up_n egy479 hgy556 (ne_o (i := i) (c := 22) (d := 0) rfl)
              have hgy558 := (hfvy39 (i + 23) (ne_o (i := i) (c := 23) (d := 0) rfl)).trans ha23
              have hgy559 := (hfvy41 (i + 23) (ne_o (i := i) (c := 23) (d := 0) rfl)).trans hgy558
              have hgy560 := (hfvy47 (i + 23) (ne_o (i := i) (c := 23) (d := 0) rfl)).trans hgy559
              have hgy561 := (hfvy53 (i + 23) (ne_o (i := i) (c := 23) (d := 0) rfl)).trans hgy560
              have hgy562 := up_n egy63 hgy561 (ne_o (i := i) (c := 23) (d := 19) rfl)
              have hgy563 := up_n egy74 hgy562 (ne_o (i := i) (c := 23) (d := 20) rfl)
              have hgy564 := up_n egy86 hgy563 (ne_o (i := i) (c := 23) (d := 21) rfl)
              have hgy565 := up_n egy339 hgy564 (ne_o (i := i) (c := 23) (d := 20) rfl)
              have hgy566 := (hfvy345 (i + 23) (ne_o (i := i) (c := 23) (d := 0) rfl)).trans hgy565
              have hgy567 := (hfvy352 (i + 23) (ne_o (i := i) (c := 23) (d := 0) rfl)).trans hgy566
              have hgy568 := up_n egy473 hgy567 (ne_o (i := i) (c := 23) (d := 21) rfl)
              have hgy569 := up_n egy479 hgy568 (ne_o (i := i) (c := 23) (d := 0) rfl)
              have htxy570 : okTx cs gy478 i (uZ Fvy352 48 (ho + 1)) := ⟨_, _, _, _, _, _, _, _, ⟨hgy510, hgy522, hgy534, hgy541, hgy544, hgy545, hgy557, hgy569⟩, ⟨⟨by omega, by omega, by omega⟩, hop1, hmn1, haky490, haky493, htb1, hlay498⟩⟩
              exact z_vret C hr hlk dX10_hour1_207 (by decide) (by decide) ⟨rfl, rfl, rfl, ⟨_, hgy480, hFy481, Or.inr ⟨(cvy352, (tk_nx T n (tk_nx T n (tk_nx T n (tk_nx T n f))))), by simp only [cl_hour, cl_hour2, if_neg hscy17, if_pos h4, hnvy53, if_neg hscy335, if_neg hscy336, hnvy352], by show (uZ Fvy352 48 (ho + 1)) 38 = cvy352; omega, by show (uZ Fvy352 48 (ho + 1)) 24 = (((tk_nx T n (tk_nx T n (tk_nx T n (tk_nx T n f)))) : Nat) : Int); omega, by show 1 ≤ cvy352 ∧ cvy352 ≤ 5; omega, ⟨_, htky482⟩, htxy570⟩⟩, fun j j1 j2 => by rw [egy479, va_up_ne _ _ (by omega)]; rw [egy473, va_up_ne _ _ (by omega)]; rw [hfvy352 _ (by omega)]; rw [hfvy345 _ (by omega)]; rw [egy339, va_up_ne _ _ (by omega)]; rw [egy86, va_up_ne _ _ (by omega)]; rw [egy74, va_up_ne _ _ (by omega)]; rw [egy63, va_up_ne _ _ (by omega)]; rw [hfvy53 _ (by omega)]; rw [hfvy47 _ (by omega)]; rw [hfvy41 _ (by omega)]; rw [hfvy39 _ (by omega)]⟩
          · refine z_if_ne (tgt := 147) C dX10_hour1_136 (by decide) (by omega) (fun h => absurd h (by omega)) (fun _ => ?_)
            refine z_aload_n C 2 dX10_hour1_139 rfl ?_
            refine z_iconst (z := 5) C dX10_hour1_140 rfl ?_
            refine z_cV (As := [.int (zI (5))]) (rest := []) (ci := 12) C (c_yIs l D A cs tt N ad _ i hN _ hgy90 tp T n hn hTb hTt htp (tk_nx T n (tk_nx T n (tk_nx T n f))) hkvy53 hevy53 (5) (by omega)) (lt_A0 hN rfl) hay1 hgy90 rfl rfl mv_yX10_is q_1705 hd_yX10_is (by decide) (Nat.le_of_ble_eq_true rfl) (by decide) dX10_hour1_141 rfl (kI0 fun vy571 gvy571 hvy571 => ?_)
            obtain ⟨hvy571, rfl⟩ := hvy571
            rcases hvy571 with ⟨rfl, hxvy571⟩ | ⟨rfl, hxvy571⟩
            · refine z_if_eq (tgt := 197) C dX10_hour1_144 (by decide) (by omega) (fun h => absurd h (by omega)) (fun _ => ?_)
              have hfay572c := tk_fa_c T n (tk_nx T n (tk_nx T n (tk_nx T n f)))
              have hfay572 : tk_fa T n (tk_nx T n (tk_nx T n (tk_nx T n f))) = tk_w T n (tk_nx T n (tk_nx T n (tk_nx T n f))) - 2 ∧ (1 ≤ tk_fa T n (tk_nx T n (tk_nx T n (tk_nx T n f))) ∧ tk_fa T n (tk_nx T n (tk_nx T n (tk_nx T n f))) ≤ 3) := by omega
              clear hfay572c
              have hscy573 : ¬ (tk_fa T n (tk_nx T n (tk_nx T n (tk_nx T n f))) = 0) := by omega
              have hscy574 : (tk_fa T n (tk_nx T n (tk_nx T n (tk_nx T n f))) = 3) := by omega
              refine z_aload_n C 2 dX10_hour1_147 rfl ?_
              refine z_get (v := .ref (ad (i + 20))) C (lt_A0 hN rfl) hay1 hgy90 rfl inA_X10 43 (by decide) q_1502 rfl rfl dX10_hour1_148 ?_
              refine z_aload_n C 2 dX10_hour1_151 rfl ?_
              refine z_get (v := .int (zI (ho))) C (lt_A0 hN rfl) hay1 hgy90 rfl inA_X10 48 (by decide) q_1507 rfl (fv (F := Fvy53) (f := 48) ((hFvy53 48 (by decide) (by decide) (by decide) (by decide) (by decide) (by decide) (by decide)).trans ((hFvy47 48 (by decide) (by decide) (by decide) (by decide) (by decide)).trans ((hFvy41 48 (by decide) (by decide) (by decide) (by decide) (by decide)).trans ((hFvy39 48 (by decide) (by decide)).trans r48))))) dX10_hour1_152 ?_
              refine z_aload_n C 2 dX10_hour1_155 rfl ?_
              refine z_get (v := .int (zI (5))) C (lt_A0 hN rfl) hay1 hgy90 rfl inA_X10 37 (by decide) q_1496 rfl (fv (F := Fvy53) (f := 37) (hkvy53.2.2.2.2.2.2.1.trans hxvy571)) dX10_hour1_156 ?_
              refine z_iconst (z := 3) C dX10_hour1_159 rfl ?_
              refine z_isub C dX10_hour1_160 ?_
              refine z_iconst (z := 1) C dX10_hour1_161 rfl ?_
              refine z_iadd C dX10_hour1_162 ?_
              have hgy575 := up_n egy86 hgy75 (ne_o (i := i) (c := 20) (d := 21) rfl)
              refine z_iast C (lt_A (c := 20) hN rfl) hay11 hgy575 ((ho).toNat) (by omega) (by omega) (by decide) dX10_hour1_163 (fun gy576 egy577 => ?_)
              have hgy578 := up_s egy577
              obtain ⟨ry579, hvy580⟩ : ∃ rZ9 : Nat → Int, rZ9 = uZ ry76 ((ho).toNat) ((5 - 3) + 1) := ⟨_, rfl⟩
              rw [← hvy580] at hgy578
              refine z_aload_n C 2 dX10_hour1_164 rfl ?_
              have hgy581 := up_n egy577 hgy90 (ne_o (i := i) (c := 0) (d := 20) rfl)
              have hgy582 := up_n egy577 hgy95 (ne_o (i := i) (c := 13) (d := 20) rfl)
              have htvy583 : tkR T n Fvy53 (tk_nx T n (tk_nx T n (tk_nx T n f))) := hkvy53
              refine z_cV (As := []) (rest := []) (ci := 12) C (c_yGo l D A cs tt N ad _ i hN _ hgy581 _ hgy582 T n hn hTb hTt htp (tk_to T n (tk_nx T n (tk_nx T n (tk_nx T n f)))) (tk_to_b htvy583.1.1).2.1 htvy583.2.1 htvy583.2.2.2.1 htvy583.2.2.2.2.2.2.2) (lt_A0 hN rfl) hay1 hgy581 rfl rfl mv_yX10_go q_1652 hd_yX10_go (by decide) (Nat.le_of_ble_eq_true rfl) (by decide) dX10_hour1_165 rfl (kV0 fun gvy583 hvy583 => ?_)
              obtain ⟨⟨Fvy583, hcvy583, hjvy583, hFvy583⟩, hfvy583⟩ := hvy583
              have hkvy583 : tkR T n Fvy583 (tk_nx T n (tk_nx T n (tk_nx T n (tk_nx T n f)))) := hjvy583
              have hnbvy583 := tk_nx_w (T := T) (n := n) (f := (tk_nx T n (tk_nx T n (tk_nx T n f)))) htvy583.1.1
              clear hjvy583
              have hsry584 := srt_b T n (tk_nx T n (tk_nx T n (tk_nx T n (tk_nx T n f))))
              have hvly585 := vlu_b hTb (tk_nx T n (tk_nx T n (tk_nx T n (tk_nx T n f))))
              have hwby586 := tk_w_b T n (tk_nx T n (tk_nx T n (tk_nx T n (tk_nx T n f))))
              have hfny587 := hkvy583.1
              refine z_aload_n C 2 dX10_hour1_168 rfl ?_
              refine z_get (v := .ref (ad (i + 20))) C (lt_A0 hN rfl) hay1 hcvy583 rfl inA_X10 43 (by decide) q_1502 rfl rfl dX10_hour1_169 ?_
              refine z_aload_n C 2 dX10_hour1_172 rfl ?_
              refine z_get (v := .int (zI (ho))) C (lt_A0 hN rfl) hay1 hcvy583 rfl inA_X10 48 (by decide) q_1507 rfl (fv (F := Fvy583) (f := 48) ((hFvy583 48 (by decide) (by decide) (by decide) (by decide) (by decide)).trans ((hFvy53 48 (by decide) (by decide) (by decide) (by decide) (by decide) (by decide) (by decide)).trans ((hFvy47 48 (by decide) (by decide) (by decide) (by decide) (by decide)).trans ((hFvy41 48 (by decide) (by decide) (by decide) (by decide) (by decide)).trans ((hFvy39 48 (by decide) (by decide)).trans r48)))))) dX10_hour1_173 ?_
              have hgy588 := (hfvy583 (i + 20) (ne_o (i := i) (c := 20) (d := 0) rfl)).trans hgy578
              refine z_iald C (lt_A (c := 20) hN rfl) hay11 hgy588 ((ho).toNat) (by omega) (by omega) (by decide) dX10_hour1_176 ?_
              rw [show ry579 ((ho).toNat) = (5 - 3) + 1 from (congrFun hvy580 _).trans (uZ_s _ _ _)]
              refine z_iconst (z := 3) C dX10_hour1_177 rfl ?_
              refine z_icmp_ge (tgt := 197) C dX10_hour1_178 (by decide) (by omega) (by omega) (fun _ => ?_) (fun h => absurd h (by omega))
              refine z_aload_n C 2 dX10_hour1_197 rfl ?_
              refine z_dup C dX10_hour1_198 rfl ?_
              refine z_get (v := .int (zI (ho))) C (lt_A0 hN rfl) hay1 hcvy583 rfl inA_X10 48 (by decide) q_1507 rfl (fv (F := Fvy583) (f := 48) ((hFvy583 48 (by decide) (by decide) (by decide) (by decide) (by decide)).trans ((hFvy53 48 (by decide) (by decide) (by decide) (by decide) (by decide) (by decide) (by decide)).trans ((hFvy47 48 (by decide) (by decide) (by decide) (by decide) (by decide)).trans ((hFvy41 48 (by decide) (by decide) (by decide) (by decide) (by decide)).trans ((hFvy39 48 (by decide) (by decide)).trans r48)))))) dX10_hour1_199 ?_
              refine z_iconst (z := 1) C dX10_hour1_202 rfl ?_
              refine z_iadd C dX10_hour1_203 ?_
              refine z_put (fs' := mF ad (i) (uZ Fvy583 48 (ho + 1))) C (lt_A0 hN rfl) hay1 hcvy583 tyX10 tyX10_ok nmX10 rfl inA_X10 48 (by decide) q_1507 rfl rfl rfl rfl (Nat.le_of_ble_eq_true rfl) rfl dX10_hour1_204 (fun gy589 egy590 => ?_)
              have hgy591 := up_s egy590
              have hFy592 : ∀ f, f ≠ 24 → f ≠ 32 → f ≠ 33 → f ≠ 35 → f ≠ 36 → f ≠ 37 → f ≠ 38 → f ≠ 47 → f ≠ 48 → f ≠ 49 → (uZ Fvy583 48 (ho + 1)) f = F f := fun f n24 n32 n33 n35 n36 n37 n38 n47 n48 n49 => ((uZ_n _ _ n48).trans ((hFvy583 f n32 n33 n35 n36 n37).trans ((hFvy53 f n24 n32 n33 n35 n36 n37 n38).trans ((hFvy47 f n32 n33 n35 n36 n37).trans ((hFvy41 f n32 n33 n35 n36 n37).trans (hFvy39 f n24 n38))))))
              have htky593 : tkR T n (uZ Fvy583 48 (ho + 1)) (tk_nx T n (tk_nx T n (tk_nx T n (tk_nx T n f)))) := (tkR.put hkvy583 (by decide))
              have htoy594 := tk_to_w (T := T) (n := n) (f := (tk_nx T n (tk_nx T n (tk_nx T n (tk_nx T n f))))) htky593.1.1
              have h32y595 := htky593.2.1
              have hey596 : (uZ Fvy583 48 (ho + 1)) 24 = F 24 := (fn ((hFvy583 24 (by decide) (by decide) (by decide) (by decide) (by decide)).trans hbvy53) (by decide))
              have hey597 : (uZ Fvy583 48 (ho + 1)) 38 = 0 := (fn ((hFvy583 38 (by decide) (by decide) (by decide) (by decide) (by decide)).trans hevy53) (by decide))
              have hey598 : (uZ Fvy583 48 (ho + 1)) 47 = sl := (fn ((hFvy583 47 (by decide) (by decide) (by decide) (by decide) (by decide)).trans ((hFvy53 47 (by decide) (by decide) (by decide) (by decide) (by decide) (by decide) (by decide)).trans ((hFvy47 47 (by decide) (by decide) (by decide) (by decide) (by decide)).trans ((hFvy41 47 (by decide) (by decide) (by decide) (by decide) (by decide)).trans ((hFvy39 47 (by decide) (by decide)).trans r47))))) (by decide))
              have hey599 : (uZ Fvy583 48 (ho + 1)) 48 = ho + 1 := (uZ_s _ _ _)
              have hey600 : (uZ Fvy583 48 (ho + 1)) 49 = nm := (fn ((hFvy583 49 (by decide) (by decide) (by decide) (by decide) (by decide)).trans ((hFvy53 49 (by decide) (by decide) (by decide) (by decide) (by decide) (by decide) (by decide)).trans ((hFvy47 49 (by decide) (by decide) (by decide) (by decide) (by decide)).trans ((hFvy41 49 (by decide) (by decide) (by decide) (by decide) (by decide)).trans ((hFvy39 49 (by decide) (by decide)).trans r49))))) (by decide))
              have hfry602 : ∀ j, j ≠ (ho).toNat → ry65 j = ai1 j := fun j n0 => (congrFun hvy66 _).trans ((uZ_n _ _ n0).trans (rfl))
              have hwy603 : ry65 ((ho).toNat) = -(vy53) := (congrFun hvy66 _).trans (uZ_s _ _ _)
              have haky601 : ∀ k, k < 24 → -300 ≤ ry65 k ∧ ry65 k ≤ 100 := by
                intro k hk
                by_cases e : k = (ho).toNat
                · rw [e]; have hk0 := hai1 ((ho).toNat) (by omega); omega
                · have hk0 := hai1 k hk; rw [hfry602 k e]; exact hk0
              have hfry605 : ∀ j, j ≠ (ho).toNat → ry579 j = fa1 j := fun j n0 => (congrFun hvy580 _).trans ((uZ_n _ _ n0).trans ((congrFun hvy77 _).trans ((uZ_n _ _ n0).trans (rfl))))
              have hfry606 : ∀ j, j ≠ (ho).toNat → ry88 j = mu1 j := fun j n0 => (congrFun hvy89 _).trans ((uZ_n _ _ n0).trans (rfl))
              have hwy607 : ry579 ((ho).toNat) = (5 - 3) + 1 := (congrFun hvy580 _).trans (uZ_s _ _ _)
              have hwy608 : ry88 ((ho).toNat) = 0 := (congrFun hvy89 _).trans (uZ_s _ _ _)
              have haky604 : ∀ k, k < 24 → (0 ≤ ry579 k ∧ ry579 k ≤ 3) ∧ (0 ≤ ry88 k ∧ ry88 k ≤ 50) ∧ (ry579 k = 1 ∨ ry579 k = 2 → 1 ≤ ry88 k) := by
                intro k hk
                by_cases e : k = (ho).toNat
                · rw [e]; have hk0 := hfa1 ((ho).toNat) (by omega); omega
                · have hk0 := hfa1 k hk; rw [hfry605 k e]; rw [hfry606 k e]; exact hk0
              have hlay609 : ∀ s l : Nat, (s : Int) < (uZ Fvy583 48 (ho + 1)) 47 → (l : Int) < mn1 s → lyT ly1 (84 * s + 7 * l) := by
                intro s l a1 a2
                have hm9 := hmn1 s (by omega)
                exact hly1 s l (by omega) a2
              have hgy610 := (hfvy39 (i + 16) (ne_o (i := i) (c := 16) (d := 0) rfl)).trans ha16
              have hgy611 := (hfvy41 (i + 16) (ne_o (i := i) (c := 16) (d := 0) rfl)).trans hgy610
              have hgy612 := (hfvy47 (i + 16) (ne_o (i := i) (c := 16) (d := 0) rfl)).trans hgy611
              have hgy613 := (hfvy53 (i + 16) (ne_o (i := i) (c := 16) (d := 0) rfl)).trans hgy612
              have hgy614 := up_n egy63 hgy613 (ne_o (i := i) (c := 16) (d := 19) rfl)
              have hgy615 := up_n egy74 hgy614 (ne_o (i := i) (c := 16) (d := 20) rfl)
              have hgy616 := up_n egy86 hgy615 (ne_o (i := i) (c := 16) (d := 21) rfl)
              have hgy617 := up_n egy577 hgy616 (ne_o (i := i) (c := 16) (d := 20) rfl)
              have hgy618 := (hfvy583 (i + 16) (ne_o (i := i) (c := 16) (d := 0) rfl)).trans hgy617
              have hgy619 := up_n egy590 hgy618 (ne_o (i := i) (c := 16) (d := 0) rfl)
              have hgy620 := (hfvy39 (i + 17) (ne_o (i := i) (c := 17) (d := 0) rfl)).trans ha17
              have hgy621 := (hfvy41 (i + 17) (ne_o (i := i) (c := 17) (d := 0) rfl)).trans hgy620
              have hgy622 := (hfvy47 (i + 17) (ne_o (i := i) (c := 17) (d := 0) rfl)).trans hgy621
              have hgy623 := (hfvy53 (i + 17) (ne_o (i := i) (c := 17) (d := 0) rfl)).trans hgy622
              have hgy624 := up_n egy63 hgy623 (ne_o (i := i) (c := 17) (d := 19) rfl)
              have hgy625 := up_n egy74 hgy624 (ne_o (i := i) (c := 17) (d := 20) rfl)
              have hgy626 := up_n egy86 hgy625 (ne_o (i := i) (c := 17) (d := 21) rfl)
              have hgy627 := up_n egy577 hgy626 (ne_o (i := i) (c := 17) (d := 20) rfl)
              have hgy628 := (hfvy583 (i + 17) (ne_o (i := i) (c := 17) (d := 0) rfl)).trans hgy627
              have hgy629 := up_n egy590 hgy628 (ne_o (i := i) (c := 17) (d := 0) rfl)
              have hgy630 := (hfvy39 (i + 18) (ne_o (i := i) (c := 18) (d := 0) rfl)).trans ha18
              have hgy631 := (hfvy41 (i + 18) (ne_o (i := i) (c := 18) (d := 0) rfl)).trans hgy630
              have hgy632 := (hfvy47 (i + 18) (ne_o (i := i) (c := 18) (d := 0) rfl)).trans hgy631
              have hgy633 := (hfvy53 (i + 18) (ne_o (i := i) (c := 18) (d := 0) rfl)).trans hgy632
              have hgy634 := up_n egy63 hgy633 (ne_o (i := i) (c := 18) (d := 19) rfl)
              have hgy635 := up_n egy74 hgy634 (ne_o (i := i) (c := 18) (d := 20) rfl)
              have hgy636 := up_n egy86 hgy635 (ne_o (i := i) (c := 18) (d := 21) rfl)
              have hgy637 := up_n egy577 hgy636 (ne_o (i := i) (c := 18) (d := 20) rfl)
              have hgy638 := (hfvy583 (i + 18) (ne_o (i := i) (c := 18) (d := 0) rfl)).trans hgy637
              have hgy639 := up_n egy590 hgy638 (ne_o (i := i) (c := 18) (d := 0) rfl)
              have hgy640 := up_n egy74 hgy64 (ne_o (i := i) (c := 19) (d := 20) rfl)
              have hgy641 := up_n egy86 hgy640 (ne_o (i := i) (c := 19) (d := 21) rfl)
              have hgy642 := up_n egy577 hgy641 (ne_o (i := i) (c := 19) (d := 20) rfl)
              have hgy643 := (hfvy583 (i + 19) (ne_o (i := i) (c := 19) (d := 0) rfl)).trans hgy642
              have hgy644 := up_n egy590 hgy643 (ne_o (i := i) (c := 19) (d := 0) rfl)
              have hgy645 := up_n egy590 hgy588 (ne_o (i := i) (c := 20) (d := 0) rfl)
              have hgy646 := up_n egy577 hgy87 (ne_o (i := i) (c := 21) (d := 20) rfl)
              have hgy647 := (hfvy583 (i + 21) (ne_o (i := i) (c := 21) (d := 0) rfl)).trans hgy646
              have hgy648 := up_n egy590 hgy647 (ne_o (i := i) (c := 21) (d := 0) rfl)
              have hgy649 := (hfvy39 (i + 22) (ne_o (i := i) (c := 22) (d := 0) rfl)).trans ha22
              have hgy650 := (hfvy41 (i + 22) (ne_o (i := i) (c := 22) (d := 0) rfl)).trans hgy649
              have hgy651 := (hfvy47 (i + 22) (ne_o (i := i) (c := 22) (d := 0) rfl)).trans hgy650
              have hgy652 := (hfvy53 (i + 22) (ne_o (i := i) (c := 22) (d := 0) rfl)).trans hgy651
              have hgy653 := up_n egy63 hgy652 (ne_o (i := i) (c := 22) (d := 19) rfl)
              have hgy654 := up_n egy74 hgy653 (ne_o (i := i) (c := 22) (d := 20) rfl)
              have hgy655 := up_n egy86 hgy654 (ne_o (i := i) (c := 22) (d := 21) rfl)
              have hgy656 := up_n egy577 hgy655 (ne_o (i := i) (c := 22) (d := 20) rfl)
              have hgy657 := (hfvy583 (i + 22) (ne_o (i := i) (c := 22) (d := 0) rfl)).trans hgy656
              have hgy658 := up_n egy590 hgy657 (ne_o (i := i) (c := 22) (d := 0) rfl)
              have hgy659 := (hfvy39 (i + 23) (ne_o (i := i) (c := 23) (d := 0) rfl)).trans ha23
              have hgy660 := (hfvy41 (i + 23) (ne_o (i := i) (c := 23) (d := 0) rfl)).trans hgy659
              have hgy661 := (hfvy47 (i + 23) (ne_o (i := i) (c := 23) (d := 0) rfl)).trans hgy660
              have hgy662 := (hfvy53 (i + 23) (ne_o (i := i) (c := 23) (d := 0) rfl)).trans hgy661
              have hgy663 := up_n egy63 hgy662 (ne_o (i := i) (c := 23) (d := 19) rfl)
              have hgy664 := up_n egy74 hgy663 (ne_o (i := i) (c := 23) (d := 20) rfl)
              have hgy665 := up_n egy86 hgy664 (ne_o (i := i) (c := 23) (d := 21) rfl)
              have hgy666 := up_n egy577 hgy665 (ne_o (i := i) (c := 23) (d := 20) rfl)
              have hgy667 := (hfvy583 (i + 23) (ne_o (i := i) (c := 23) (d := 0) rfl)).trans hgy666
              have hgy668 := up_n egy590 hgy667 (ne_o (i := i) (c := 23) (d := 0) rfl)
              have hfry669 : ∀ j, j ≠ (ho).toNat → ry65 j = ai1 j := fun j n0 => (congrFun hvy66 _).trans ((uZ_n _ _ n0).trans (rfl))
              have hwy670 : ry65 ((ho).toNat) = -(vy53) := (congrFun hvy66 _).trans (uZ_s _ _ _)
              have hfry671 : ∀ j, j ≠ (ho).toNat → ry579 j = fa1 j := fun j n0 => (congrFun hvy580 _).trans ((uZ_n _ _ n0).trans ((congrFun hvy77 _).trans ((uZ_n _ _ n0).trans (rfl))))
              have hwy672 : ry579 ((ho).toNat) = (5 - 3) + 1 := (congrFun hvy580 _).trans (uZ_s _ _ _)
              have hfry673 : ∀ j, j ≠ (ho).toNat → ry88 j = mu1 j := fun j n0 => (congrFun hvy89 _).trans ((uZ_n _ _ n0).trans (rfl))
              have hwy674 : ry88 ((ho).toNat) = 0 := (congrFun hvy89 _).trans (uZ_s _ _ _)
              have hxty675 : xTx cs gy589 i (uZ Fvy583 48 (ho + 1)) _ := ⟨_, _, _, _, _, _, _, _, ⟨hgy619, hgy629, hgy639, hgy644, hgy645, hgy648, hgy658, hgy668⟩, ⟨⟨by omega, by omega, by omega⟩, hop1, hmn1, haky601, haky604, htb1, hlay609⟩, rT.hour (b := tk_fa T n (tk_nx T n (tk_nx T n (tk_nx T n f)))) hrT ((ho).toNat) (by show ho = _; omega) ⟨by show (uZ Fvy583 48 (ho + 1)) 47 = sl; omega, by show (uZ Fvy583 48 (ho + 1)) 48 = ho + 1; omega, by show (uZ Fvy583 48 (ho + 1)) 49 = nm; omega⟩ hfry669 (by omega) hfry671 (by omega) hfry673 (by omega)⟩
              exact z_vret C hr hlk dX10_hour1_207 (by decide) (by decide) ⟨rfl, rfl, rfl, ⟨_, hgy591, hFy592, Or.inl ⟨_, by simp only [cl_hour, cl_hour2, if_neg hscy17, if_pos h4, hnvy53, if_neg hscy573, if_pos hscy574]; rfl, by omega, by omega, by show f < (tk_nx T n (tk_nx T n (tk_nx T n (tk_nx T n f)))); omega, htky593, hxty675⟩⟩, fun j j1 j2 => by rw [egy590, va_up_ne _ _ (by omega)]; rw [hfvy583 _ (by omega)]; rw [egy577, va_up_ne _ _ (by omega)]; rw [egy86, va_up_ne _ _ (by omega)]; rw [egy74, va_up_ne _ _ (by omega)]; rw [egy63, va_up_ne _ _ (by omega)]; rw [hfvy53 _ (by omega)]; rw [hfvy47 _ (by omega)]; rw [hfvy41 _ (by omega)]; rw [hfvy39 _ (by omega)]⟩
            · refine z_if_eq (tgt := 197) C dX10_hour1_144 (by decide) (by omega) (fun _ => ?_) (fun h => absurd h (by omega))
              refine z_aload_n C 2 dX10_hour1_197 rfl ?_
              refine z_dup C dX10_hour1_198 rfl ?_
              refine z_get (v := .int (zI (ho))) C (lt_A0 hN rfl) hay1 hgy90 rfl inA_X10 48 (by decide) q_1507 rfl (fv (F := Fvy53) (f := 48) ((hFvy53 48 (by decide) (by decide) (by decide) (by decide) (by decide) (by decide) (by decide)).trans ((hFvy47 48 (by decide) (by decide) (by decide) (by decide) (by decide)).trans ((hFvy41 48 (by decide) (by decide) (by decide) (by decide) (by decide)).trans ((hFvy39 48 (by decide) (by decide)).trans r48))))) dX10_hour1_199 ?_
              refine z_iconst (z := 1) C dX10_hour1_202 rfl ?_
              refine z_iadd C dX10_hour1_203 ?_
              refine z_put (fs' := mF ad (i) (uZ Fvy53 48 (ho + 1))) C (lt_A0 hN rfl) hay1 hgy90 tyX10 tyX10_ok nmX10 rfl inA_X10 48 (by decide) q_1507 rfl rfl rfl rfl (Nat.le_of_ble_eq_true rfl) rfl dX10_hour1_204 (fun gy676 egy677 => ?_)
              have hgy678 := up_s egy677
              have hfac := tk_fa_c T n (tk_nx T n (tk_nx T n (tk_nx T n f)))
              have hfa0 : tk_fa T n (tk_nx T n (tk_nx T n (tk_nx T n f))) = 0 := by omega
              clear hfac
              have hFy679 : ∀ f, f ≠ 24 → f ≠ 32 → f ≠ 33 → f ≠ 35 → f ≠ 36 → f ≠ 37 → f ≠ 38 → f ≠ 47 → f ≠ 48 → f ≠ 49 → (uZ Fvy53 48 (ho + 1)) f = F f := fun f n24 n32 n33 n35 n36 n37 n38 n47 n48 n49 => ((uZ_n _ _ n48).trans ((hFvy53 f n24 n32 n33 n35 n36 n37 n38).trans ((hFvy47 f n32 n33 n35 n36 n37).trans ((hFvy41 f n32 n33 n35 n36 n37).trans (hFvy39 f n24 n38)))))
              have htky680 : tkR T n (uZ Fvy53 48 (ho + 1)) (tk_nx T n (tk_nx T n (tk_nx T n f))) := (tkR.put hkvy53 (by decide))
              have htoy681 := tk_to_w (T := T) (n := n) (f := (tk_nx T n (tk_nx T n (tk_nx T n f)))) htky680.1.1
              have h32y682 := htky680.2.1
              have hey683 : (uZ Fvy53 48 (ho + 1)) 24 = F 24 := (fn hbvy53 (by decide))
              have hey684 : (uZ Fvy53 48 (ho + 1)) 38 = 0 := (fn hevy53 (by decide))
              have hey685 : (uZ Fvy53 48 (ho + 1)) 47 = sl := (fn ((hFvy53 47 (by decide) (by decide) (by decide) (by decide) (by decide) (by decide) (by decide)).trans ((hFvy47 47 (by decide) (by decide) (by decide) (by decide) (by decide)).trans ((hFvy41 47 (by decide) (by decide) (by decide) (by decide) (by decide)).trans ((hFvy39 47 (by decide) (by decide)).trans r47)))) (by decide))
              have hey686 : (uZ Fvy53 48 (ho + 1)) 48 = ho + 1 := (uZ_s _ _ _)
              have hey687 : (uZ Fvy53 48 (ho + 1)) 49 = nm := (fn ((hFvy53 49 (by decide) (by decide) (by decide) (by decide) (by decide) (by decide) (by decide)).trans ((hFvy47 49 (by decide) (by decide) (by decide) (by decide) (by decide)).trans ((hFvy41 49 (by decide) (by decide) (by decide) (by decide) (by decide)).trans ((hFvy39 49 (by decide) (by decide)).trans r49)))) (by decide))
              have hfry689 : ∀ j, j ≠ (ho).toNat → ry65 j = ai1 j := fun j n0 => (congrFun hvy66 _).trans ((uZ_n _ _ n0).trans (rfl))
              have hwy690 : ry65 ((ho).toNat) = -(vy53) := (congrFun hvy66 _).trans (uZ_s _ _ _)
              have haky688 : ∀ k, k < 24 → -300 ≤ ry65 k ∧ ry65 k ≤ 100 := by
                intro k hk
                by_cases e : k = (ho).toNat
                · rw [e]; have hk0 := hai1 ((ho).toNat) (by omega); omega
                · have hk0 := hai1 k hk; rw [hfry689 k e]; exact hk0
              have hfry692 : ∀ j, j ≠ (ho).toNat → ry76 j = fa1 j := fun j n0 => (congrFun hvy77 _).trans ((uZ_n _ _ n0).trans (rfl))
              have hfry693 : ∀ j, j ≠ (ho).toNat → ry88 j = mu1 j := fun j n0 => (congrFun hvy89 _).trans ((uZ_n _ _ n0).trans (rfl))
              have hwy694 : ry76 ((ho).toNat) = 0 := (congrFun hvy77 _).trans (uZ_s _ _ _)
              have hwy695 : ry88 ((ho).toNat) = 0 := (congrFun hvy89 _).trans (uZ_s _ _ _)
              have haky691 : ∀ k, k < 24 → (0 ≤ ry76 k ∧ ry76 k ≤ 3) ∧ (0 ≤ ry88 k ∧ ry88 k ≤ 50) ∧ (ry76 k = 1 ∨ ry76 k = 2 → 1 ≤ ry88 k) := by
                intro k hk
                by_cases e : k = (ho).toNat
                · rw [e]; have hk0 := hfa1 ((ho).toNat) (by omega); omega
                · have hk0 := hfa1 k hk; rw [hfry692 k e]; rw [hfry693 k e]; exact hk0
              have hlay696 : ∀ s l : Nat, (s : Int) < (uZ Fvy53 48 (ho + 1)) 47 → (l : Int) < mn1 s → lyT ly1 (84 * s + 7 * l) := by
                intro s l a1 a2
                have hm9 := hmn1 s (by omega)
                exact hly1 s l (by omega) a2
              have hgy697 := (hfvy39 (i + 16) (ne_o (i := i) (c := 16) (d := 0) rfl)).trans ha16
              have hgy698 := (hfvy41 (i + 16) (ne_o (i := i) (c := 16) (d := 0) rfl)).trans hgy697
              have hgy699 := (hfvy47 (i + 16) (ne_o (i := i) (c := 16) (d := 0) rfl)).trans hgy698
              have hgy700 := (hfvy53 (i + 16) (ne_o (i := i) (c := 16) (d := 0) rfl)).trans hgy699
              have hgy701 := up_n egy63 hgy700 (ne_o (i := i) (c := 16) (d := 19) rfl)
              have hgy702 := up_n egy74 hgy701 (ne_o (i := i) (c := 16) (d := 20) rfl)
              have hgy703 := up_n egy86 hgy702 (ne_o (i := i) (c := 16) (d := 21) rfl)
              have hgy704 := up_n egy677 hgy703 (ne_o (i := i) (c := 16) (d := 0) rfl)
              have hgy705 := (hfvy39 (i + 17) (ne_o (i := i) (c := 17) (d := 0) rfl)).trans ha17
              have hgy706 := (hfvy41 (i + 17) (ne_o (i := i) (c := 17) (d := 0) rfl)).trans hgy705
              have hgy707 := (hfvy47 (i + 17) (ne_o (i := i) (c := 17) (d := 0) rfl)).trans hgy706
              have hgy708 := (hfvy53 (i + 17) (ne_o (i := i) (c := 17) (d := 0) rfl)).trans hgy707
              have hgy709 := up_n egy63 hgy708 (ne_o (i := i) (c := 17) (d := 19) rfl)
              have hgy710 := up_n egy74 hgy709 (ne_o (i := i) (c := 17) (d := 20) rfl)
              have hgy711 := up_n egy86 hgy710 (ne_o (i := i) (c := 17) (d := 21) rfl)
              have hgy712 := up_n egy677 hgy711 (ne_o (i := i) (c := 17) (d := 0) rfl)
              have hgy713 := (hfvy39 (i + 18) (ne_o (i := i) (c := 18) (d := 0) rfl)).trans ha18
              have hgy714 := (hfvy41 (i + 18) (ne_o (i := i) (c := 18) (d := 0) rfl)).trans hgy713
              have hgy715 := (hfvy47 (i + 18) (ne_o (i := i) (c := 18) (d := 0) rfl)).trans hgy714
              have hgy716 := (hfvy53 (i + 18) (ne_o (i := i) (c := 18) (d := 0) rfl)).trans hgy715
              have hgy717 := up_n egy63 hgy716 (ne_o (i := i) (c := 18) (d := 19) rfl)
              have hgy718 := up_n egy74 hgy717 (ne_o (i := i) (c := 18) (d := 20) rfl)
              have hgy719 := up_n egy86 hgy718 (ne_o (i := i) (c := 18) (d := 21) rfl)
              have hgy720 := up_n egy677 hgy719 (ne_o (i := i) (c := 18) (d := 0) rfl)
              have hgy721 := up_n egy74 hgy64 (ne_o (i := i) (c := 19) (d := 20) rfl)
              have hgy722 := up_n egy86 hgy721 (ne_o (i := i) (c := 19) (d := 21) rfl)
              have hgy723 := up_n egy677 hgy722 (ne_o (i := i) (c := 19) (d := 0) rfl)
              have hgy724 := up_n egy86 hgy75 (ne_o (i := i) (c := 20) (d := 21) rfl)
              have hgy725 := up_n egy677 hgy724 (ne_o (i := i) (c := 20) (d := 0) rfl)
              have hgy726 := up_n egy677 hgy87 (ne_o (i := i) (c := 21) (d := 0) rfl)
              have hgy727 := (hfvy39 (i + 22) (ne_o (i := i) (c := 22) (d := 0) rfl)).trans ha22
              have hgy728 := (hfvy41 (i + 22) (ne_o (i := i) (c := 22) (d := 0) rfl)).trans hgy727
              have hgy729 := (hfvy47 (i + 22) (ne_o (i := i) (c := 22) (d := 0) rfl)).trans hgy728
              have hgy730 := (hfvy53 (i + 22) (ne_o (i := i) (c := 22) (d := 0) rfl)).trans hgy729
              have hgy731 := up_n egy63 hgy730 (ne_o (i := i) (c := 22) (d := 19) rfl)
              have hgy732 := up_n egy74 hgy731 (ne_o (i := i) (c := 22) (d := 20) rfl)
              have hgy733 := up_n egy86 hgy732 (ne_o (i := i) (c := 22) (d := 21) rfl)
              have hgy734 := up_n egy677 hgy733 (ne_o (i := i) (c := 22) (d := 0) rfl)
              have hgy735 := (hfvy39 (i + 23) (ne_o (i := i) (c := 23) (d := 0) rfl)).trans ha23
              have hgy736 := (hfvy41 (i + 23) (ne_o (i := i) (c := 23) (d := 0) rfl)).trans hgy735
              have hgy737 := (hfvy47 (i + 23) (ne_o (i := i) (c := 23) (d := 0) rfl)).trans hgy736
              have hgy738 := (hfvy53 (i + 23) (ne_o (i := i) (c := 23) (d := 0) rfl)).trans hgy737
              have hgy739 := up_n egy63 hgy738 (ne_o (i := i) (c := 23) (d := 19) rfl)
              have hgy740 := up_n egy74 hgy739 (ne_o (i := i) (c := 23) (d := 20) rfl)
              have hgy741 := up_n egy86 hgy740 (ne_o (i := i) (c := 23) (d := 21) rfl)
              have hgy742 := up_n egy677 hgy741 (ne_o (i := i) (c := 23) (d := 0) rfl)
              have hfry743 : ∀ j, j ≠ (ho).toNat → ry65 j = ai1 j := fun j n0 => (congrFun hvy66 _).trans ((uZ_n _ _ n0).trans (rfl))
              have hwy744 : ry65 ((ho).toNat) = -(vy53) := (congrFun hvy66 _).trans (uZ_s _ _ _)
              have hfry745 : ∀ j, j ≠ (ho).toNat → ry76 j = fa1 j := fun j n0 => (congrFun hvy77 _).trans ((uZ_n _ _ n0).trans (rfl))
              have hwy746 : ry76 ((ho).toNat) = 0 := (congrFun hvy77 _).trans (uZ_s _ _ _)
              have hfry747 : ∀ j, j ≠ (ho).toNat → ry88 j = mu1 j := fun j n0 => (congrFun hvy89 _).trans ((uZ_n _ _ n0).trans (rfl))
              have hwy748 : ry88 ((ho).toNat) = 0 := (congrFun hvy89 _).trans (uZ_s _ _ _)
              have hxty749 : xTx cs gy676 i (uZ Fvy53 48 (ho + 1)) _ := ⟨_, _, _, _, _, _, _, _, ⟨hgy704, hgy712, hgy720, hgy723, hgy725, hgy726, hgy734, hgy742⟩, ⟨⟨by omega, by omega, by omega⟩, hop1, hmn1, haky688, haky691, htb1, hlay696⟩, rT.hour hrT ((ho).toNat) (by show ho = _; omega) ⟨by show (uZ Fvy53 48 (ho + 1)) 47 = sl; omega, by show (uZ Fvy53 48 (ho + 1)) 48 = ho + 1; omega, by show (uZ Fvy53 48 (ho + 1)) 49 = nm; omega⟩ hfry743 (by omega) hfry745 (by omega) hfry747 (by omega)⟩
              exact z_vret C hr hlk dX10_hour1_207 (by decide) (by decide) ⟨rfl, rfl, rfl, ⟨_, hgy678, hFy679, Or.inl ⟨_, by simp only [cl_hour, cl_hour2, if_neg hscy17, if_pos h4, hnvy53, if_pos hfa0]; rfl, by omega, by omega, by show f < (tk_nx T n (tk_nx T n (tk_nx T n f))); omega, htky680, hxty749⟩⟩, fun j j1 j2 => by rw [egy677, va_up_ne _ _ (by omega)]; rw [egy86, va_up_ne _ _ (by omega)]; rw [egy74, va_up_ne _ _ (by omega)]; rw [egy63, va_up_ne _ _ (by omega)]; rw [hfvy53 _ (by omega)]; rw [hfvy47 _ (by omega)]; rw [hfvy41 _ (by omega)]; rw [hfvy39 _ (by omega)]⟩
      · obtain ⟨rfl, cvy53, hrvy53, hnvy53, hevy53, hbvy53, hkvy53⟩ := hqvy53
        clear h24vy53
        have hsry750 := srt_b T n (tk_nx T n (tk_nx T n f))
        have hvly751 := vlu_b hTb (tk_nx T n (tk_nx T n f))
        have hwby752 := tk_w_b T n (tk_nx T n (tk_nx T n f))
        have hfny753 := hkvy53.1
        refine z_istore_n (lv' := [(2, .int (zI (0))), (1, .int (zI (1))), (0, .ref (ad i))]) C dX10_hour1_75 rfl (by decide) rfl ?_
        refine z_aload_n C 2 dX10_hour1_76 rfl ?_
        refine z_get (v := .int (zI (cvy53))) C (lt_A0 hN rfl) hay1 hcvy53 rfl inA_X10 38 (by decide) q_1497 rfl (fv (F := Fvy53) (f := 38) hevy53) dX10_hour1_77 ?_
        refine z_if_eq (tgt := 84) C dX10_hour1_80 (by decide) (by omega) (fun h => absurd h (by omega)) (fun _ => ?_)
        have hFy754 : ∀ f, f ≠ 24 → f ≠ 32 → f ≠ 33 → f ≠ 35 → f ≠ 36 → f ≠ 37 → f ≠ 38 → f ≠ 47 → f ≠ 48 → f ≠ 49 → Fvy53 f = F f := fun f n24 n32 n33 n35 n36 n37 n38 n47 n48 n49 => ((hFvy53 f n24 n32 n33 n35 n36 n37 n38).trans ((hFvy47 f n32 n33 n35 n36 n37).trans ((hFvy41 f n32 n33 n35 n36 n37).trans (hFvy39 f n24 n38))))
        have htky755 : tkR T n Fvy53 (tk_nx T n (tk_nx T n f)) := hkvy53
        have htoy756 := tk_to_w (T := T) (n := n) (f := (tk_nx T n (tk_nx T n f))) htky755.1.1
        have h32y757 := htky755.2.1
        have hey758 : Fvy53 24 = ((tk_nx T n (tk_nx T n f)) : Int) := hbvy53
        have hey759 : Fvy53 38 = cvy53 := hevy53
        have hey760 : Fvy53 47 = sl := ((hFvy53 47 (by decide) (by decide) (by decide) (by decide) (by decide) (by decide) (by decide)).trans ((hFvy47 47 (by decide) (by decide) (by decide) (by decide) (by decide)).trans ((hFvy41 47 (by decide) (by decide) (by decide) (by decide) (by decide)).trans ((hFvy39 47 (by decide) (by decide)).trans r47))))
        have hey761 : Fvy53 48 = ho := ((hFvy53 48 (by decide) (by decide) (by decide) (by decide) (by decide) (by decide) (by decide)).trans ((hFvy47 48 (by decide) (by decide) (by decide) (by decide) (by decide)).trans ((hFvy41 48 (by decide) (by decide) (by decide) (by decide) (by decide)).trans ((hFvy39 48 (by decide) (by decide)).trans r48))))
        have hey762 : Fvy53 49 = nm := ((hFvy53 49 (by decide) (by decide) (by decide) (by decide) (by decide) (by decide) (by decide)).trans ((hFvy47 49 (by decide) (by decide) (by decide) (by decide) (by decide)).trans ((hFvy41 49 (by decide) (by decide) (by decide) (by decide) (by decide)).trans ((hFvy39 49 (by decide) (by decide)).trans r49))))
        have hlay764 : ∀ s l : Nat, (s : Int) < Fvy53 47 → (l : Int) < mn1 s → lyT ly1 (84 * s + 7 * l) := by
          intro s l a1 a2
          have hm9 := hmn1 s (by omega)
          exact hly1 s l (by omega) a2
        have hgy765 := (hfvy39 (i + 16) (ne_o (i := i) (c := 16) (d := 0) rfl)).trans ha16
        have hgy766 := (hfvy41 (i + 16) (ne_o (i := i) (c := 16) (d := 0) rfl)).trans hgy765
        have hgy767 := (hfvy47 (i + 16) (ne_o (i := i) (c := 16) (d := 0) rfl)).trans hgy766
        have hgy768 := (hfvy53 (i + 16) (ne_o (i := i) (c := 16) (d := 0) rfl)).trans hgy767
        have hgy769 := (hfvy39 (i + 17) (ne_o (i := i) (c := 17) (d := 0) rfl)).trans ha17
        have hgy770 := (hfvy41 (i + 17) (ne_o (i := i) (c := 17) (d := 0) rfl)).trans hgy769
        have hgy771 := (hfvy47 (i + 17) (ne_o (i := i) (c := 17) (d := 0) rfl)).trans hgy770
        have hgy772 := (hfvy53 (i + 17) (ne_o (i := i) (c := 17) (d := 0) rfl)).trans hgy771
        have hgy773 := (hfvy39 (i + 18) (ne_o (i := i) (c := 18) (d := 0) rfl)).trans ha18
        have hgy774 := (hfvy41 (i + 18) (ne_o (i := i) (c := 18) (d := 0) rfl)).trans hgy773
        have hgy775 := (hfvy47 (i + 18) (ne_o (i := i) (c := 18) (d := 0) rfl)).trans hgy774
        have hgy776 := (hfvy53 (i + 18) (ne_o (i := i) (c := 18) (d := 0) rfl)).trans hgy775
        have hgy777 := (hfvy39 (i + 19) (ne_o (i := i) (c := 19) (d := 0) rfl)).trans ha19
        have hgy778 := (hfvy41 (i + 19) (ne_o (i := i) (c := 19) (d := 0) rfl)).trans hgy777
        have hgy779 := (hfvy47 (i + 19) (ne_o (i := i) (c := 19) (d := 0) rfl)).trans hgy778
        have hgy780 := (hfvy53 (i + 19) (ne_o (i := i) (c := 19) (d := 0) rfl)).trans hgy779
        have hgy781 := (hfvy39 (i + 20) (ne_o (i := i) (c := 20) (d := 0) rfl)).trans ha20
        have hgy782 := (hfvy41 (i + 20) (ne_o (i := i) (c := 20) (d := 0) rfl)).trans hgy781
        have hgy783 := (hfvy47 (i + 20) (ne_o (i := i) (c := 20) (d := 0) rfl)).trans hgy782
        have hgy784 := (hfvy53 (i + 20) (ne_o (i := i) (c := 20) (d := 0) rfl)).trans hgy783
        have hgy785 := (hfvy39 (i + 21) (ne_o (i := i) (c := 21) (d := 0) rfl)).trans ha21
        have hgy786 := (hfvy41 (i + 21) (ne_o (i := i) (c := 21) (d := 0) rfl)).trans hgy785
        have hgy787 := (hfvy47 (i + 21) (ne_o (i := i) (c := 21) (d := 0) rfl)).trans hgy786
        have hgy788 := (hfvy53 (i + 21) (ne_o (i := i) (c := 21) (d := 0) rfl)).trans hgy787
        have hgy789 := (hfvy39 (i + 22) (ne_o (i := i) (c := 22) (d := 0) rfl)).trans ha22
        have hgy790 := (hfvy41 (i + 22) (ne_o (i := i) (c := 22) (d := 0) rfl)).trans hgy789
        have hgy791 := (hfvy47 (i + 22) (ne_o (i := i) (c := 22) (d := 0) rfl)).trans hgy790
        have hgy792 := (hfvy53 (i + 22) (ne_o (i := i) (c := 22) (d := 0) rfl)).trans hgy791
        have hgy793 := (hfvy39 (i + 23) (ne_o (i := i) (c := 23) (d := 0) rfl)).trans ha23
        have hgy794 := (hfvy41 (i + 23) (ne_o (i := i) (c := 23) (d := 0) rfl)).trans hgy793
        have hgy795 := (hfvy47 (i + 23) (ne_o (i := i) (c := 23) (d := 0) rfl)).trans hgy794
        have hgy796 := (hfvy53 (i + 23) (ne_o (i := i) (c := 23) (d := 0) rfl)).trans hgy795
        have htxy797 : okTx cs gvy53 i Fvy53 := ⟨_, _, _, _, _, _, _, _, ⟨hgy768, hgy772, hgy776, hgy780, hgy784, hgy788, hgy792, hgy796⟩, ⟨⟨by omega, by omega, by omega⟩, hop1, hmn1, hai1, hfa1, htb1, hlay764⟩⟩
        exact z_vret C hr hlk dX10_hour1_83 (by decide) (by decide) ⟨rfl, rfl, rfl, ⟨_, hcvy53, hFy754, Or.inr ⟨(cvy53, (tk_nx T n (tk_nx T n f))), by simp only [cl_hour, cl_hour2, if_neg hscy17, if_pos h4, hnvy53], by show Fvy53 38 = cvy53; omega, by show Fvy53 24 = (((tk_nx T n (tk_nx T n f)) : Nat) : Int); omega, by show 1 ≤ cvy53 ∧ cvy53 ≤ 5; omega, ⟨_, htky755⟩, htxy797⟩⟩, fun j j1 j2 => by rw [hfvy53 _ (by omega)]; rw [hfvy47 _ (by omega)]; rw [hfvy41 _ (by omega)]; rw [hfvy39 _ (by omega)]⟩
    · have seg : ∀ (n9 : Nat)  (g1 : Nat → va_E), 0 = n9 → (gvy41 = g1) → zV pZ l eZ ({ frames := 5, cells := 0, slots := 0, locals := 300 } : Room) sZ mZ ([.ref (ad i)] : List Value).toArray below meth cZ (MQ below (zPost D A (rV0 N ad fun g' => (∃ F' : Nat → Int, g' i = mC ad i F' ∧ (∀ f, f ≠ 24 → f ≠ 32 → f ≠ 33 → f ≠ 35 → f ≠ 36 → f ≠ 37 → f ≠ 38 → f ≠ 47 → f ≠ 48 → f ≠ 49 → F' f = F f) ∧ ((∃ v, cl_hour T n ho f = .ok v ∧ F' 38 = 0 ∧ F' 24 = F 24 ∧ f < v.2 ∧ tkR T n F' v.2 ∧ xTx cs g' i F' (sl, ho + 1, nm, mn, st, op, uZ ai (ho).toNat v.1.1, uZ fa (ho).toNat v.1.2.1, uZ mu (ho).toNat v.1.2.2, tb, B, Lz)) ∨ (∃ e : Int × Nat, cl_hour T n ho f = .error e ∧ F' 38 = e.1 ∧ F' 24 = (e.2 : Int) ∧ (1 ≤ e.1 ∧ e.1 ≤ 5) ∧ (∃ f9, tkR T n F' f9) ∧ okTx cs g' i F'))) ∧ ∀ j, j ≠ i → j < i + 16 ∨ i + 23 < j → g' j = g j)) ([.ref (ad i)] : List Value).toArray sZ ({ frames := 5, cells := 0, slots := 0, locals := 300 } : Room).cells ({ frames := 5, cells := 0, slots := 0, locals := 300 } : Room).slots A) D A 3 (N) ad g1 (0) (0) 50 [(0, .ref (ad i)), (1, .int (zI (0)))] [] := by
        intro n9
        induction n9 using Nat.strongRecOn with
        | ind n9 ih_seg =>
          intro  g1 hm9 hgz
          subst hgz
          refine z_iload_n C 1 dX10_hour1_50 rfl ?_
          refine z_if_eq (tgt := 58) C dX10_hour1_51 (by decide) (by omega) (fun _ => ?_) (fun h => absurd h (by omega))
          refine z_aload_n C 0 dX10_hour1_58 rfl ?_
          refine z_iconst (z := 0) C dX10_hour1_59 rfl ?_
          refine z_iload_n C 1 dX10_hour1_60 rfl ?_
          refine z_if_eq (tgt := 70) C dX10_hour1_61 (by decide) (by omega) (fun _ => ?_) (fun h => absurd h (by omega))
          refine z_bipush (z := 100) C dX10_hour1_70 (by decide) ?_
          have hgy798 := (hfvy41 (i + 13) (ne_o (i := i) (c := 13) (d := 0) rfl)).trans hgy40
          have h24vy799 : Fvy41 24 = F 24 := ((hFvy41 24 (by decide) (by decide) (by decide) (by decide) (by decide)).trans hbvy39)
          refine z_cV (As := [.int (zI (0)), .int (zI (100))]) (rest := []) (ci := 12) C (c_yNumber l D A cs tt N ad _ i hN _ hcvy41 _ hgy798 T n hn hTb hTt htp (tk_nx T n f) hkvy41 ((hFvy41 38 (by decide) (by decide) (by decide) (by decide) (by decide)).trans hevy39) (0) (by omega) (100) (by omega)) (lt_A0 hN rfl) hay1 hcvy41 rfl rfl mv_yX10_number q_1682 hd_yX10_number (by decide) (Nat.le_of_ble_eq_true rfl) (by decide) dX10_hour1_72 rfl (kI0 fun vy799 gvy799 hvy799 => ?_)
          obtain ⟨⟨Fvy799, hcvy799, hqvy799, hFvy799⟩, hfvy799⟩ := hvy799
          rcases hqvy799 with hqvy799 | hqvy799
          · obtain ⟨hnvy799, hrvy799, hltvy799, hevy799, hb0vy799, hkvy799⟩ := hqvy799
            have hbvy799 : Fvy799 24 = F 24 := hb0vy799.trans h24vy799
            have hnbvy799 := tk_nx_s (T := T) (n := n) (f := (tk_nx T n f)) hltvy799
            clear hb0vy799 h24vy799
            have hsry800 := srt_b T n (tk_nx T n (tk_nx T n f))
            have hvly801 := vlu_b hTb (tk_nx T n (tk_nx T n f))
            have hwby802 := tk_w_b T n (tk_nx T n (tk_nx T n f))
            have hfny803 := hkvy799.1
            refine z_istore_n (lv' := [(2, .int (zI (vy799))), (0, .ref (ad i)), (1, .int (zI (0)))]) C dX10_hour1_75 rfl (by decide) rfl ?_
            refine z_aload_n C 1 dX10_hour1_76 rfl ?_
            refine z_get (v := .int (zI (0))) C (lt_A0 hN rfl) hay1 hcvy799 rfl inA_X10 38 (by decide) q_1497 rfl (fv (F := Fvy799) (f := 38) hevy799) dX10_hour1_77 ?_
            refine z_if_eq (tgt := 84) C dX10_hour1_80 (by decide) (by omega) (fun _ => ?_) (fun h => absurd h (by omega))
            refine z_aload_n C 1 dX10_hour1_84 rfl ?_
            refine z_get (v := .ref (ad (i + 19))) C (lt_A0 hN rfl) hay1 hcvy799 rfl inA_X10 42 (by decide) q_1501 rfl rfl dX10_hour1_85 ?_
            refine z_aload_n C 1 dX10_hour1_88 rfl ?_
            refine z_get (v := .int (zI (ho))) C (lt_A0 hN rfl) hay1 hcvy799 rfl inA_X10 48 (by decide) q_1507 rfl (fv (F := Fvy799) (f := 48) ((hFvy799 48 (by decide) (by decide) (by decide) (by decide) (by decide) (by decide) (by decide)).trans ((hFvy41 48 (by decide) (by decide) (by decide) (by decide) (by decide)).trans ((hFvy39 48 (by decide) (by decide)).trans r48)))) dX10_hour1_89 ?_
            refine z_iload_n C 2 dX10_hour1_92 rfl ?_
            refine z_if_eq (tgt := 101) C dX10_hour1_93 (by decide) (by omega) (fun _ => ?_) (fun h => absurd h (by omega))
            refine z_iload_n C 0 dX10_hour1_101 rfl ?_
            have hgy804 := (hfvy39 (i + 19) (ne_o (i := i) (c := 19) (d := 0) rfl)).trans ha19
            have hgy805 := (hfvy41 (i + 19) (ne_o (i := i) (c := 19) (d := 0) rfl)).trans hgy804
            have hgy806 := (hfvy799 (i + 19) (ne_o (i := i) (c := 19) (d := 0) rfl)).trans hgy805
            refine z_iast C (lt_A (c := 19) hN rfl) hay10 hgy806 ((ho).toNat) (by omega) (by omega) (by decide) dX10_hour1_102 (fun gy807 egy808 => ?_)
            have hgy809 := up_s egy808
            obtain ⟨ry810, hvy811⟩ : ∃ rZ9 : Nat → Int, rZ9 = uZ ai1 ((ho).toNat) (vy799) := ⟨_, rfl⟩
            rw [← hvy811] at hgy809
            refine z_aload_n C 1 dX10_hour1_103 rfl ?_
            have hgy812 := up_n egy808 hcvy799 (ne_o (i := i) (c := 0) (d := 19) rfl)
            refine z_get (v := .ref (ad (i + 20))) C (lt_A0 hN rfl) hay1 hgy812 rfl inA_X10 43 (by decide) q_1502 rfl rfl dX10_hour1_104 ?_
            refine z_aload_n C 1 dX10_hour1_107 rfl ?_
            refine z_get (v := .int (zI (ho))) C (lt_A0 hN rfl) hay1 hgy812 rfl inA_X10 48 (by decide) q_1507 rfl (fv (F := Fvy799) (f := 48) ((hFvy799 48 (by decide) (by decide) (by decide) (by decide) (by decide) (by decide) (by decide)).trans ((hFvy41 48 (by decide) (by decide) (by decide) (by decide) (by decide)).trans ((hFvy39 48 (by decide) (by decide)).trans r48)))) dX10_hour1_108 ?_
            refine z_iconst (z := 0) C dX10_hour1_111 rfl ?_
            have hgy813 := (hfvy39 (i + 20) (ne_o (i := i) (c := 20) (d := 0) rfl)).trans ha20
            have hgy814 := (hfvy41 (i + 20) (ne_o (i := i) (c := 20) (d := 0) rfl)).trans hgy813
            have hgy815 := (hfvy799 (i + 20) (ne_o (i := i) (c := 20) (d := 0) rfl)).trans hgy814
            have hgy816 := up_n egy808 hgy815 (ne_o (i := i) (c := 20) (d := 19) rfl)
            refine z_iast C (lt_A (c := 20) hN rfl) hay11 hgy816 ((ho).toNat) (by omega) (by omega) (by decide) dX10_hour1_112 (fun gy817 egy818 => ?_)
            have hgy819 := up_s egy818
            obtain ⟨ry820, hvy821⟩ : ∃ rZ9 : Nat → Int, rZ9 = uZ fa1 ((ho).toNat) (0) := ⟨_, rfl⟩
            rw [← hvy821] at hgy819
            refine z_aload_n C 1 dX10_hour1_113 rfl ?_
            have hgy822 := up_n egy818 hgy812 (ne_o (i := i) (c := 0) (d := 20) rfl)
            refine z_get (v := .ref (ad (i + 21))) C (lt_A0 hN rfl) hay1 hgy822 rfl inA_X10 44 (by decide) q_1503 rfl rfl dX10_hour1_114 ?_
            refine z_aload_n C 1 dX10_hour1_117 rfl ?_
            refine z_get (v := .int (zI (ho))) C (lt_A0 hN rfl) hay1 hgy822 rfl inA_X10 48 (by decide) q_1507 rfl (fv (F := Fvy799) (f := 48) ((hFvy799 48 (by decide) (by decide) (by decide) (by decide) (by decide) (by decide) (by decide)).trans ((hFvy41 48 (by decide) (by decide) (by decide) (by decide) (by decide)).trans ((hFvy39 48 (by decide) (by decide)).trans r48)))) dX10_hour1_118 ?_
            refine z_iconst (z := 0) C dX10_hour1_121 rfl ?_
            have hgy823 := (hfvy39 (i + 21) (ne_o (i := i) (c := 21) (d := 0) rfl)).trans ha21
            have hgy824 := (hfvy41 (i + 21) (ne_o (i := i) (c := 21) (d := 0) rfl)).trans hgy823
            have hgy825 := (hfvy799 (i + 21) (ne_o (i := i) (c := 21) (d := 0) rfl)).trans hgy824
            have hgy826 := up_n egy808 hgy825 (ne_o (i := i) (c := 21) (d := 19) rfl)
            have hgy827 := up_n egy818 hgy826 (ne_o (i := i) (c := 21) (d := 20) rfl)
            refine z_iast C (lt_A (c := 21) hN rfl) hay12 hgy827 ((ho).toNat) (by omega) (by omega) (by decide) dX10_hour1_122 (fun gy828 egy829 => ?_)
            have hgy830 := up_s egy829
            obtain ⟨ry831, hvy832⟩ : ∃ rZ9 : Nat → Int, rZ9 = uZ mu1 ((ho).toNat) (0) := ⟨_, rfl⟩
            rw [← hvy832] at hgy830
            refine z_aload_n C 1 dX10_hour1_123 rfl ?_
            refine z_iconst (z := 3) C dX10_hour1_124 rfl ?_
            have hgy833 := up_n egy829 hgy822 (ne_o (i := i) (c := 0) (d := 21) rfl)
            have hgy835 := (hfvy799 (i + 13) (ne_o (i := i) (c := 13) (d := 0) rfl)).trans hgy798
            have hgy836 := up_n egy808 hgy835 (ne_o (i := i) (c := 13) (d := 19) rfl)
            have hgy837 := up_n egy818 hgy836 (ne_o (i := i) (c := 13) (d := 20) rfl)
            have hgy838 := up_n egy829 hgy837 (ne_o (i := i) (c := 13) (d := 21) rfl)
            refine z_cV (As := [.int (zI (3))]) (rest := []) (ci := 12) C (c_yIs l D A cs tt N ad _ i hN _ hgy833 tp T n hn hTb hTt htp (tk_nx T n (tk_nx T n f)) hkvy799 hevy799 (3) (by omega)) (lt_A0 hN rfl) hay1 hgy833 rfl rfl mv_yX10_is q_1705 hd_yX10_is (by decide) (Nat.le_of_ble_eq_true rfl) (by decide) dX10_hour1_125 rfl (kI0 fun vy834 gvy834 hvy834 => ?_)
            obtain ⟨hvy834, rfl⟩ := hvy834
            rcases hvy834 with ⟨rfl, hxvy834⟩ | ⟨rfl, hxvy834⟩
            · refine z_if_ne (tgt := 147) C dX10_hour1_128 (by decide) (by omega) (fun _ => ?_) (fun h => absurd h (by omega))
              have hfay839c := tk_fa_c T n (tk_nx T n (tk_nx T n f))
              have hfay839 : tk_fa T n (tk_nx T n (tk_nx T n f)) = tk_w T n (tk_nx T n (tk_nx T n f)) - 2 ∧ (1 ≤ tk_fa T n (tk_nx T n (tk_nx T n f)) ∧ tk_fa T n (tk_nx T n (tk_nx T n f)) ≤ 3) := by omega
              clear hfay839c
              have hscy840 : ¬ (tk_fa T n (tk_nx T n (tk_nx T n f)) = 0) := by omega
              have hscy841 : ¬ (tk_fa T n (tk_nx T n (tk_nx T n f)) = 3) := by omega
              refine z_aload_n C 1 dX10_hour1_147 rfl ?_
              refine z_get (v := .ref (ad (i + 20))) C (lt_A0 hN rfl) hay1 hgy833 rfl inA_X10 43 (by decide) q_1502 rfl rfl dX10_hour1_148 ?_
              refine z_aload_n C 1 dX10_hour1_151 rfl ?_
              refine z_get (v := .int (zI (ho))) C (lt_A0 hN rfl) hay1 hgy833 rfl inA_X10 48 (by decide) q_1507 rfl (fv (F := Fvy799) (f := 48) ((hFvy799 48 (by decide) (by decide) (by decide) (by decide) (by decide) (by decide) (by decide)).trans ((hFvy41 48 (by decide) (by decide) (by decide) (by decide) (by decide)).trans ((hFvy39 48 (by decide) (by decide)).trans r48)))) dX10_hour1_152 ?_
              refine z_aload_n C 1 dX10_hour1_155 rfl ?_
              refine z_get (v := .int (zI (3))) C (lt_A0 hN rfl) hay1 hgy833 rfl inA_X10 37 (by decide) q_1496 rfl (fv (F := Fvy799) (f := 37) (hkvy799.2.2.2.2.2.2.1.trans hxvy834)) dX10_hour1_156 ?_
              refine z_iconst (z := 3) C dX10_hour1_159 rfl ?_
              refine z_isub C dX10_hour1_160 ?_
              refine z_iconst (z := 1) C dX10_hour1_161 rfl ?_
              refine z_iadd C dX10_hour1_162 ?_
              have hgy842 := up_n egy829 hgy819 (ne_o (i := i) (c := 20) (d := 21) rfl)
              refine z_iast C (lt_A (c := 20) hN rfl) hay11 hgy842 ((ho).toNat) (by omega) (by omega) (by decide) dX10_hour1_163 (fun gy843 egy844 => ?_)
              have hgy845 := up_s egy844
              obtain ⟨ry846, hvy847⟩ : ∃ rZ9 : Nat → Int, rZ9 = uZ ry820 ((ho).toNat) ((3 - 3) + 1) := ⟨_, rfl⟩
              rw [← hvy847] at hgy845
              refine z_aload_n C 1 dX10_hour1_164 rfl ?_
              have hgy848 := up_n egy844 hgy833 (ne_o (i := i) (c := 0) (d := 20) rfl)
              have hgy849 := up_n egy844 hgy838 (ne_o (i := i) (c := 13) (d := 20) rfl)
              have htvy850 : tkR T n Fvy799 (tk_nx T n (tk_nx T n f)) := hkvy799
              refine z_cV (As := []) (rest := []) (ci := 12) C (c_yGo l D A cs tt N ad _ i hN _ hgy848 _ hgy849 T n hn hTb hTt htp (tk_to T n (tk_nx T n (tk_nx T n f))) (tk_to_b htvy850.1.1).2.1 htvy850.2.1 htvy850.2.2.2.1 htvy850.2.2.2.2.2.2.2) (lt_A0 hN rfl) hay1 hgy848 rfl rfl mv_yX10_go q_1652 hd_yX10_go (by decide) (Nat.le_of_ble_eq_true rfl) (by decide) dX10_hour1_165 rfl (kV0 fun gvy850 hvy850 => ?_)
              obtain ⟨⟨Fvy850, hcvy850, hjvy850, hFvy850⟩, hfvy850⟩ := hvy850
              have hkvy850 : tkR T n Fvy850 (tk_nx T n (tk_nx T n (tk_nx T n f))) := hjvy850
              have hnbvy850 := tk_nx_w (T := T) (n := n) (f := (tk_nx T n (tk_nx T n f))) htvy850.1.1
              clear hjvy850
              have hsry851 := srt_b T n (tk_nx T n (tk_nx T n (tk_nx T n f)))
              have hvly852 := vlu_b hTb (tk_nx T n (tk_nx T n (tk_nx T n f)))
              have hwby853 := tk_w_b T n (tk_nx T n (tk_nx T n (tk_nx T n f)))
              have hfny854 := hkvy850.1
              refine z_aload_n C 1 dX10_hour1_168 rfl ?_
              refine z_get (v := .ref (ad (i + 20))) C (lt_A0 hN rfl) hay1 hcvy850 rfl inA_X10 43 (by decide) q_1502 rfl rfl dX10_hour1_169 ?_
              refine z_aload_n C 1 dX10_hour1_172 rfl ?_
              refine z_get (v := .int (zI (ho))) C (lt_A0 hN rfl) hay1 hcvy850 rfl inA_X10 48 (by decide) q_1507 rfl (fv (F := Fvy850) (f := 48) ((hFvy850 48 (by decide) (by decide) (by decide) (by decide) (by decide)).trans ((hFvy799 48 (by decide) (by decide) (by decide) (by decide) (by decide) (by decide) (by decide)).trans ((hFvy41 48 (by decide) (by decide) (by decide) (by decide) (by decide)).trans ((hFvy39 48 (by decide) (by decide)).trans r48))))) dX10_hour1_173 ?_
              have hgy855 := (hfvy850 (i + 20) (ne_o (i := i) (c := 20) (d := 0) rfl)).trans hgy845
              refine z_iald C (lt_A (c := 20) hN rfl) hay11 hgy855 ((ho).toNat) (by omega) (by omega) (by decide) dX10_hour1_176 ?_
              rw [show ry846 ((ho).toNat) = (3 - 3) + 1 from (congrFun hvy847 _).trans (uZ_s _ _ _)]
              refine z_iconst (z := 3) C dX10_hour1_177 rfl ?_
              refine z_icmp_ge (tgt := 197) C dX10_hour1_178 (by decide) (by omega) (by omega) (fun h => absurd h (by omega)) (fun _ => ?_)
              refine z_aload_n C 1 dX10_hour1_181 rfl ?_
              refine z_get (v := .ref (ad (i + 21))) C (lt_A0 hN rfl) hay1 hcvy850 rfl inA_X10 44 (by decide) q_1503 rfl rfl dX10_hour1_182 ?_
              refine z_aload_n C 1 dX10_hour1_185 rfl ?_
              refine z_get (v := .int (zI (ho))) C (lt_A0 hN rfl) hay1 hcvy850 rfl inA_X10 48 (by decide) q_1507 rfl (fv (F := Fvy850) (f := 48) ((hFvy850 48 (by decide) (by decide) (by decide) (by decide) (by decide)).trans ((hFvy799 48 (by decide) (by decide) (by decide) (by decide) (by decide) (by decide) (by decide)).trans ((hFvy41 48 (by decide) (by decide) (by decide) (by decide) (by decide)).trans ((hFvy39 48 (by decide) (by decide)).trans r48))))) dX10_hour1_186 ?_
              refine z_aload_n C 1 dX10_hour1_189 rfl ?_
              refine z_iconst (z := 1) C dX10_hour1_190 rfl ?_
              refine z_bipush (z := 50) C dX10_hour1_191 (by decide) ?_
              have hgy856 := (hfvy850 (i + 13) (ne_o (i := i) (c := 13) (d := 0) rfl)).trans hgy849
              have h24vy857 : Fvy850 24 = F 24 := ((hFvy850 24 (by decide) (by decide) (by decide) (by decide) (by decide)).trans hbvy799)
              refine z_cV (As := [.int (zI (1)), .int (zI (50))]) (rest := [.int (zI (ho)), .ref (ad (i + 21))]) (ci := 12) C (c_yNumber l D A cs tt N ad _ i hN _ hcvy850 _ hgy856 T n hn hTb hTt htp (tk_nx T n (tk_nx T n (tk_nx T n f))) hkvy850 ((hFvy850 38 (by decide) (by decide) (by decide) (by decide) (by decide)).trans hevy799) (1) (by omega) (50) (by omega)) (lt_A0 hN rfl) hay1 hcvy850 rfl rfl mv_yX10_number q_1682 hd_yX10_number (by decide) (Nat.le_of_ble_eq_true rfl) (by decide) dX10_hour1_193 rfl (kI0 fun vy857 gvy857 hvy857 => ?_)
              obtain ⟨⟨Fvy857, hcvy857, hqvy857, hFvy857⟩, hfvy857⟩ := hvy857
              rcases hqvy857 with hqvy857 | hqvy857
              · obtain ⟨hnvy857, hrvy857, hltvy857, hevy857, hb0vy857, hkvy857⟩ := hqvy857
                have hbvy857 : Fvy857 24 = F 24 := hb0vy857.trans h24vy857
                have hnbvy857 := tk_nx_s (T := T) (n := n) (f := (tk_nx T n (tk_nx T n (tk_nx T n f)))) hltvy857
                clear hb0vy857 h24vy857
                have hsry858 := srt_b T n (tk_nx T n (tk_nx T n (tk_nx T n (tk_nx T n f))))
                have hvly859 := vlu_b hTb (tk_nx T n (tk_nx T n (tk_nx T n (tk_nx T n f))))
                have hwby860 := tk_w_b T n (tk_nx T n (tk_nx T n (tk_nx T n (tk_nx T n f))))
                have hfny861 := hkvy857.1
                have hgy862 := up_n egy844 hgy830 (ne_o (i := i) (c := 21) (d := 20) rfl)
                have hgy863 := (hfvy850 (i + 21) (ne_o (i := i) (c := 21) (d := 0) rfl)).trans hgy862
                have hgy864 := (hfvy857 (i + 21) (ne_o (i := i) (c := 21) (d := 0) rfl)).trans hgy863
                refine z_iast C (lt_A (c := 21) hN rfl) hay12 hgy864 ((ho).toNat) (by omega) (by omega) (by decide) dX10_hour1_196 (fun gy865 egy866 => ?_)
                have hgy867 := up_s egy866
                obtain ⟨ry868, hvy869⟩ : ∃ rZ9 : Nat → Int, rZ9 = uZ ry831 ((ho).toNat) (vy857) := ⟨_, rfl⟩
                rw [← hvy869] at hgy867
                refine z_aload_n C 1 dX10_hour1_197 rfl ?_
                refine z_dup C dX10_hour1_198 rfl ?_
                have hgy870 := up_n egy866 hcvy857 (ne_o (i := i) (c := 0) (d := 21) rfl)
                refine z_get (v := .int (zI (ho))) C (lt_A0 hN rfl) hay1 hgy870 rfl inA_X10 48 (by decide) q_1507 rfl (fv (F := Fvy857) (f := 48) ((hFvy857 48 (by decide) (by decide) (by decide) (by decide) (by decide) (by decide) (by decide)).trans ((hFvy850 48 (by decide) (by decide) (by decide) (by decide) (by decide)).trans ((hFvy799 48 (by decide) (by decide) (by decide) (by decide) (by decide) (by decide) (by decide)).trans ((hFvy41 48 (by decide) (by decide) (by decide) (by decide) (by decide)).trans ((hFvy39 48 (by decide) (by decide)).trans r48)))))) dX10_hour1_199 ?_
                refine z_iconst (z := 1) C dX10_hour1_202 rfl ?_
                refine z_iadd C dX10_hour1_203 ?_
                refine z_put (fs' := mF ad (i) (uZ Fvy857 48 (ho + 1))) C (lt_A0 hN rfl) hay1 hgy870 tyX10 tyX10_ok nmX10 rfl inA_X10 48 (by decide) q_1507 rfl rfl rfl rfl (Nat.le_of_ble_eq_true rfl) rfl dX10_hour1_204 (fun gy871 egy872 => ?_)
                have hgy873 := up_s egy872
                have hFy874 : ∀ f, f ≠ 24 → f ≠ 32 → f ≠ 33 → f ≠ 35 → f ≠ 36 → f ≠ 37 → f ≠ 38 → f ≠ 47 → f ≠ 48 → f ≠ 49 → (uZ Fvy857 48 (ho + 1)) f = F f := fun f n24 n32 n33 n35 n36 n37 n38 n47 n48 n49 => ((uZ_n _ _ n48).trans ((hFvy857 f n24 n32 n33 n35 n36 n37 n38).trans ((hFvy850 f n32 n33 n35 n36 n37).trans ((hFvy799 f n24 n32 n33 n35 n36 n37 n38).trans ((hFvy41 f n32 n33 n35 n36 n37).trans (hFvy39 f n24 n38))))))
                have htky875 : tkR T n (uZ Fvy857 48 (ho + 1)) (tk_nx T n (tk_nx T n (tk_nx T n (tk_nx T n f)))) := (tkR.put hkvy857 (by decide))
                have htoy876 := tk_to_w (T := T) (n := n) (f := (tk_nx T n (tk_nx T n (tk_nx T n (tk_nx T n f))))) htky875.1.1
                have h32y877 := htky875.2.1
                have hey878 : (uZ Fvy857 48 (ho + 1)) 24 = F 24 := (fn hbvy857 (by decide))
                have hey879 : (uZ Fvy857 48 (ho + 1)) 38 = 0 := (fn hevy857 (by decide))
                have hey880 : (uZ Fvy857 48 (ho + 1)) 47 = sl := (fn ((hFvy857 47 (by decide) (by decide) (by decide) (by decide) (by decide) (by decide) (by decide)).trans ((hFvy850 47 (by decide) (by decide) (by decide) (by decide) (by decide)).trans ((hFvy799 47 (by decide) (by decide) (by decide) (by decide) (by decide) (by decide) (by decide)).trans ((hFvy41 47 (by decide) (by decide) (by decide) (by decide) (by decide)).trans ((hFvy39 47 (by decide) (by decide)).trans r47))))) (by decide))
                have hey881 : (uZ Fvy857 48 (ho + 1)) 48 = ho + 1 := (uZ_s _ _ _)
                have hey882 : (uZ Fvy857 48 (ho + 1)) 49 = nm := (fn ((hFvy857 49 (by decide) (by decide) (by decide) (by decide) (by decide) (by decide) (by decide)).trans ((hFvy850 49 (by decide) (by decide) (by decide) (by decide) (by decide)).trans ((hFvy799 49 (by decide) (by decide) (by decide) (by decide) (by decide) (by decide) (by decide)).trans ((hFvy41 49 (by decide) (by decide) (by decide) (by decide) (by decide)).trans ((hFvy39 49 (by decide) (by decide)).trans r49))))) (by decide))
                have hfry884 : ∀ j, j ≠ (ho).toNat → ry810 j = ai1 j := fun j n0 => (congrFun hvy811 _).trans ((uZ_n _ _ n0).trans (rfl))
                have hwy885 : ry810 ((ho).toNat) = vy799 := (congrFun hvy811 _).trans (uZ_s _ _ _)
                have haky883 : ∀ k, k < 24 → -300 ≤ ry810 k ∧ ry810 k ≤ 100 := by
                  intro k hk
                  by_cases e : k = (ho).toNat
                  · rw [e]; have hk0 := hai1 ((ho).toNat) (by omega); omega
                  · have hk0 := hai1 k hk; rw [hfry884 k e]; exact hk0
                have hfry887 : ∀ j, j ≠ (ho).toNat → ry846 j = fa1 j := fun j n0 => (congrFun hvy847 _).trans ((uZ_n _ _ n0).trans ((congrFun hvy821 _).trans ((uZ_n _ _ n0).trans (rfl))))
                have hfry888 : ∀ j, j ≠ (ho).toNat → ry868 j = mu1 j := fun j n0 => (congrFun hvy869 _).trans ((uZ_n _ _ n0).trans ((congrFun hvy832 _).trans ((uZ_n _ _ n0).trans (rfl))))
                have hwy889 : ry846 ((ho).toNat) = (3 - 3) + 1 := (congrFun hvy847 _).trans (uZ_s _ _ _)
                have hwy890 : ry868 ((ho).toNat) = vy857 := (congrFun hvy869 _).trans (uZ_s _ _ _)
                have haky886 : ∀ k, k < 24 → (0 ≤ ry846 k ∧ ry846 k ≤ 3) ∧ (0 ≤ ry868 k ∧ ry868 k ≤ 50) ∧ (ry846 k = 1 ∨ ry846 k = 2 → 1 ≤ ry868 k) := by
                  intro k hk
                  by_cases e : k = (ho).toNat
                  · rw [e]; have hk0 := hfa1 ((ho).toNat) (by omega); omega
                  · have hk0 := hfa1 k hk; rw [hfry887 k e]; rw [hfry888 k e]; exact hk0
                have hlay891 : ∀ s l : Nat, (s : Int) < (uZ Fvy857 48 (ho + 1)) 47 → (l : Int) < mn1 s → lyT ly1 (84 * s + 7 * l) := by
                  intro s l a1 a2
                  have hm9 := hmn1 s (by omega)
                  exact hly1 s l (by omega) a2
                have hgy892 := (hfvy39 (i + 16) (ne_o (i := i) (c := 16) (d := 0) rfl)).trans ha16
                have hgy893 := (hfvy41 (i + 16) (ne_o (i := i) (c := 16) (d := 0) rfl)).trans hgy892
                have hgy894 := (hfvy799 (i + 16) (ne_o (i := i) (c := 16) (d := 0) rfl)).trans hgy893
                have hgy895 := up_n egy808 hgy894 (ne_o (i := i) (c := 16) (d := 19) rfl)
                have hgy896 := up_n egy818 hgy895 (ne_o (i := i) (c := 16) (d := 20) rfl)
                have hgy897 := up_n egy829 hgy896 (ne_o (i := i) (c := 16) (d := 21) rfl)
                have hgy898 := up_n egy844 hgy897 (ne_o (i := i) (c := 16) (d := 20) rfl)
                have hgy899 := (hfvy850 (i + 16) (ne_o (i := i) (c := 16) (d := 0) rfl)).trans hgy898
                have hgy900 := (hfvy857 (i + 16) (ne_o (i := i) (c := 16) (d := 0) rfl)).trans hgy899
                have hgy901 := up_n egy866 hgy900 (ne_o (i := i) (c := 16) (d := 21) rfl)
                have hgy902 := up_n egy872 hgy901 (ne_o (i := i) (c := 16) (d := 0) rfl)
                have hgy903 := (hfvy39 (i + 17) (ne_o (i := i) (c := 17) (d := 0) rfl)).trans ha17
                have hgy904 := (hfvy41 (i + 17) (ne_o (i := i) (c := 17) (d := 0) rfl)).trans hgy903
                have hgy905 := (hfvy799 (i + 17) (ne_o (i := i) (c := 17) (d := 0) rfl)).trans hgy904
                have hgy906 := up_n egy808 hgy905 (ne_o (i := i) (c := 17) (d := 19) rfl)
                have hgy907 := up_n egy818 hgy906 (ne_o (i := i) (c := 17) (d := 20) rfl)
                have hgy908 := up_n egy829 hgy907 (ne_o (i := i) (c := 17) (d := 21) rfl)
                have hgy909 := up_n egy844 hgy908 (ne_o (i := i) (c := 17) (d := 20) rfl)
                have hgy910 := (hfvy850 (i + 17) (ne_o (i := i) (c := 17) (d := 0) rfl)).trans hgy909
                have hgy911 := (hfvy857 (i + 17) (ne_o (i := i) (c := 17) (d := 0) rfl)).trans hgy910
                have hgy912 := up_n egy866 hgy911 (ne_o (i := i) (c := 17) (d := 21) rfl)
                have hgy913 := up_n egy872 hgy912 (ne_o (i := i) (c := 17) (d := 0) rfl)
                have hgy914 := (hfvy39 (i + 18) (ne_o (i := i) (c := 18) (d := 0) rfl)).trans ha18
                have hgy915 := (hfvy41 (i + 18) (ne_o (i := i) (c := 18) (d := 0) rfl)).trans hgy914
                have hgy916 := (hfvy799 (i + 18) (ne_o (i := i) (c := 18) (d := 0) rfl)).trans hgy915
                have hgy917 := up_n egy808 hgy916 (ne_o (i := i) (c := 18) (d := 19) rfl)
                have hgy918 := up_n egy818 hgy917 (ne_o (i := i) (c := 18) (d := 20) rfl)
                have hgy919 := up_n egy829 hgy918 (ne_o (i := i) (c := 18) (d := 21) rfl)
                have hgy920 := up_n egy844 hgy919 (ne_o (i := i) (c := 18) (d := 20) rfl)
                have hgy921 := (hfvy850 (i + 18) (ne_o (i := i) (c := 18) (d := 0) rfl)).trans hgy920
                have hgy922 := (hfvy857 (i + 18) (ne_o (i := i) (c := 18) (d := 0) rfl)).trans hgy921
                have hgy923 := up_n egy866 hgy922 (ne_o (i := i) (c := 18) (d := 21) rfl)
                have hgy924 := up_n egy872 hgy923 (ne_o (i := i) (c := 18) (d := 0) rfl)
                have hgy925 := up_n egy818 hgy809 (ne_o (i := i) (c := 19) (d := 20) rfl)
                have hgy926 := up_n egy829 hgy925 (ne_o (i := i) (c := 19) (d := 21) rfl)
                have hgy927 := up_n egy844 hgy926 (ne_o (i := i) (c := 19) (d := 20) rfl)
                have hgy928 := (hfvy850 (i + 19) (ne_o (i := i) (c := 19) (d := 0) rfl)).trans hgy927
                have hgy929 := (hfvy857 (i + 19) (ne_o (i := i) (c := 19) (d := 0) rfl)).trans hgy928
                have hgy930 := up_n egy866 hgy929 (ne_o (i := i) (c := 19) (d := 21) rfl)
                have hgy931 := up_n egy872 hgy930 (ne_o (i := i) (c := 19) (d := 0) rfl)
                have hgy932 := (hfvy857 (i + 20) (ne_o (i := i) (c := 20) (d := 0) rfl)).trans hgy855
                have hgy933 := up_n egy866 hgy932 (ne_o (i := i) (c := 20) (d := 21) rfl)
                have hgy934 := up_n egy872 hgy933 (ne_o (i := i) (c := 20) (d := 0) rfl)
                have hgy935 := up_n egy872 hgy867 (ne_o (i := i) (c := 21) (d := 0) rfl)
                have hgy936 := (hfvy39 (i + 22) (ne_o (i := i) (c := 22) (d := 0) rfl)).trans ha22
                have hgy937 := (hfvy41 (i + 22) (ne_o (i := i) (c := 22) (d := 0) rfl)).trans hgy936
                have hgy938 := (hfvy799 (i + 22) (ne_o (i := i) (c := 22) (d := 0) rfl)).trans hgy937
                have hgy939 := up_n egy808 hgy938 (ne_o (i := i) (c := 22) (d := 19) rfl)
                have hgy940 := up_n egy818 hgy939 (ne_o (i := i) (c := 22) (d := 20) rfl)
                have hgy941 := up_n egy829 hgy940 (ne_o (i := i) (c := 22) (d := 21) rfl)
                have hgy942 := up_n egy844 hgy941 (ne_o (i := i) (c := 22) (d := 20) rfl)
                have hgy943 := (hfvy850 (i + 22) (ne_o (i := i) (c := 22) (d := 0) rfl)).trans hgy942
                have hgy944 := (hfvy857 (i + 22) (ne_o (i := i) (c := 22) (d := 0) rfl)).trans hgy943
                have hgy945 := up_n egy866 hgy944 (ne_o (i := i) (c := 22) (d := 21) rfl)
                have hgy946 := up_n egy872 hgy945 (ne_o (i := i) (c := 22) (d := 0) rfl)
                have hgy947 := (hfvy39 (i + 23) (ne_o (i := i) (c := 23) (d := 0) rfl)).trans ha23
                have hgy948 := (hfvy41 (i + 23) (ne_o (i := i) (c := 23) (d := 0) rfl)).trans hgy947
                have hgy949 := (hfvy799 (i + 23) (ne_o (i := i) (c := 23) (d := 0) rfl)).trans hgy948
                have hgy950 := up_n egy808 hgy949 (ne_o (i := i) (c := 23) (d := 19) rfl)
                have hgy951 := up_n egy818 hgy950 (ne_o (i := i) (c := 23) (d := 20) rfl)
                have hgy952 := up_n egy829 hgy951 (ne_o (i := i) (c := 23) (d := 21) rfl)
                have hgy953 := up_n egy844 hgy952 (ne_o (i := i) (c := 23) (d := 20) rfl)
                have hgy954 := (hfvy850 (i + 23) (ne_o (i := i) (c := 23) (d := 0) rfl)).trans hgy953
                have hgy955 := (hfvy857 (i + 23) (ne_o (i := i) (c := 23) (d := 0) rfl)).trans hgy954
                have hgy956 := up_n egy866 hgy955 (ne_o (i := i) (c := 23) (d := 21) rfl)
                have hgy957 := up_n egy872 hgy956 (ne_o (i := i) (c := 23) (d := 0) rfl)
                have hfry958 : ∀ j, j ≠ (ho).toNat → ry810 j = ai1 j := fun j n0 => (congrFun hvy811 _).trans ((uZ_n _ _ n0).trans (rfl))
                have hwy959 : ry810 ((ho).toNat) = vy799 := (congrFun hvy811 _).trans (uZ_s _ _ _)
                have hfry960 : ∀ j, j ≠ (ho).toNat → ry846 j = fa1 j := fun j n0 => (congrFun hvy847 _).trans ((uZ_n _ _ n0).trans ((congrFun hvy821 _).trans ((uZ_n _ _ n0).trans (rfl))))
                have hwy961 : ry846 ((ho).toNat) = (3 - 3) + 1 := (congrFun hvy847 _).trans (uZ_s _ _ _)
                have hfry962 : ∀ j, j ≠ (ho).toNat → ry868 j = mu1 j := fun j n0 => (congrFun hvy869 _).trans ((uZ_n _ _ n0).trans ((congrFun hvy832 _).trans ((uZ_n _ _ n0).trans (rfl))))
                have hwy963 : ry868 ((ho).toNat) = vy857 := (congrFun hvy869 _).trans (uZ_s _ _ _)
                have hxty964 : xTx cs gy871 i (uZ Fvy857 48 (ho + 1)) _ := ⟨_, _, _, _, _, _, _, _, ⟨hgy902, hgy913, hgy924, hgy931, hgy934, hgy935, hgy946, hgy957⟩, ⟨⟨by omega, by omega, by omega⟩, hop1, hmn1, haky883, haky886, htb1, hlay891⟩, rT.hour (b := tk_fa T n (tk_nx T n (tk_nx T n f))) hrT ((ho).toNat) (by show ho = _; omega) ⟨by show (uZ Fvy857 48 (ho + 1)) 47 = sl; omega, by show (uZ Fvy857 48 (ho + 1)) 48 = ho + 1; omega, by show (uZ Fvy857 48 (ho + 1)) 49 = nm; omega⟩ hfry958 (by omega) hfry960 (by omega) hfry962 (by omega)⟩
                exact z_vret C hr hlk dX10_hour1_207 (by decide) (by decide) ⟨rfl, rfl, rfl, ⟨_, hgy873, hFy874, Or.inl ⟨_, by simp only [cl_hour, cl_hour2, if_neg hscy17, if_neg h4, hnvy799, if_neg hscy840, if_neg hscy841, hnvy857]; rfl, by omega, by omega, by show f < (tk_nx T n (tk_nx T n (tk_nx T n (tk_nx T n f)))); omega, htky875, hxty964⟩⟩, fun j j1 j2 => by rw [egy872, va_up_ne _ _ (by omega)]; rw [egy866, va_up_ne _ _ (by omega)]; rw [hfvy857 _ (by omega)]; rw [hfvy850 _ (by omega)]; rw [egy844, va_up_ne _ _ (by omega)]; rw [egy829, va_up_ne _ _ (by omega)]; rw [egy818, va_up_ne _ _ (by omega)]; rw [egy808, va_up_ne _ _ (by omega)]; rw [hfvy799 _ (by omega)]; rw [hfvy41 _ (by omega)]; rw [hfvy39 _ (by omega)]⟩
              · obtain ⟨rfl, cvy857, hrvy857, hnvy857, hevy857, hbvy857, hkvy857⟩ := hqvy857
                clear h24vy857
                have hsry965 := srt_b T n (tk_nx T n (tk_nx T n (tk_nx T n f)))
                have hvly966 := vlu_b hTb (tk_nx T n (tk_nx T n (tk_nx T n f)))
                have hwby967 := tk_w_b T n (tk_nx T n (tk_nx T n (tk_nx T n f)))
                have hfny968 := hkvy857.1
                have hgy969 := up_n egy844 hgy830 (ne_o (i := i) (c := 21) (d := 20) rfl)
                have hgy970 := (hfvy850 (i + 21) (ne_o (i := i) (c := 21) (d := 0) rfl)).trans hgy969
                have hgy971 := (hfvy857 (i + 21) (ne_o (i := i) (c := 21) (d := 0) rfl)).trans hgy970
                refine z_iast C (lt_A (c := 21) hN rfl) hay12 hgy971 ((ho).toNat) (by omega) (by omega) (by decide) dX10_hour1_196 (fun gy972 egy973 => ?_)
                have hgy974 := up_s egy973
                obtain ⟨ry975, hvy976⟩ : ∃ rZ9 : Nat → Int, rZ9 = uZ ry831 ((ho).toNat) (1) := ⟨_, rfl⟩
                rw [← hvy976] at hgy974
                refine z_aload_n C 1 dX10_hour1_197 rfl ?_
                refine z_dup C dX10_hour1_198 rfl ?_
                have hgy977 := up_n egy973 hcvy857 (ne_o (i := i) (c := 0) (d := 21) rfl)
                refine z_get (v := .int (zI (ho))) C (lt_A0 hN rfl) hay1 hgy977 rfl inA_X10 48 (by decide) q_1507 rfl (fv (F := Fvy857) (f := 48) ((hFvy857 48 (by decide) (by decide) (by decide) (by decide) (by decide) (by decide) (by decide)).trans ((hFvy850 48 (by decide) (by decide) (by decide) (by decide) (by decide)).trans ((hFvy799 48 (by decide) (by decide) (by decide) (by decide) (by decide) (by decide) (by decide)).trans ((hFvy41 48 (by decide) (by decide) (by decide) (by decide) (by decide)).trans ((hFvy39 48 (by decide) (by decide)).trans r48)))))) dX10_hour1_199 ?_
                refine z_iconst (z := 1) C dX10_hour1_202 rfl ?_
                refine z_iadd C dX10_hour1_203 ?_
                refine z_put (fs' := mF ad (i) (uZ Fvy857 48 (ho + 1))) C (lt_A0 hN rfl) hay1 hgy977 tyX10 tyX10_ok nmX10 rfl inA_X10 48 (by decide) q_1507 rfl rfl rfl rfl (Nat.le_of_ble_eq_true rfl) rfl dX10_hour1_204 (fun gy978 egy979 => ?_)
                have hgy980 := up_s egy979
                have hFy981 : ∀ f, f ≠ 24 → f ≠ 32 → f ≠ 33 → f ≠ 35 → f ≠ 36 → f ≠ 37 → f ≠ 38 → f ≠ 47 → f ≠ 48 → f ≠ 49 → (uZ Fvy857 48 (ho + 1)) f = F f := fun f n24 n32 n33 n35 n36 n37 n38 n47 n48 n49 => ((uZ_n _ _ n48).trans ((hFvy857 f n24 n32 n33 n35 n36 n37 n38).trans ((hFvy850 f n32 n33 n35 n36 n37).trans ((hFvy799 f n24 n32 n33 n35 n36 n37 n38).trans ((hFvy41 f n32 n33 n35 n36 n37).trans (hFvy39 f n24 n38))))))
                have htky982 : tkR T n (uZ Fvy857 48 (ho + 1)) (tk_nx T n (tk_nx T n (tk_nx T n f))) := (tkR.put hkvy857 (by decide))
                have htoy983 := tk_to_w (T := T) (n := n) (f := (tk_nx T n (tk_nx T n (tk_nx T n f)))) htky982.1.1
                have h32y984 := htky982.2.1
                have hey985 : (uZ Fvy857 48 (ho + 1)) 24 = ((tk_nx T n (tk_nx T n (tk_nx T n f))) : Int) := (fn hbvy857 (by decide))
                have hey986 : (uZ Fvy857 48 (ho + 1)) 38 = cvy857 := (fn hevy857 (by decide))
                have hey987 : (uZ Fvy857 48 (ho + 1)) 47 = sl := (fn ((hFvy857 47 (by decide) (by decide) (by decide) (by decide) (by decide) (by decide) (by decide)).trans ((hFvy850 47 (by decide) (by decide) (by decide) (by decide) (by decide)).trans ((hFvy799 47 (by decide) (by decide) (by decide) (by decide) (by decide) (by decide) (by decide)).trans ((hFvy41 47 (by decide) (by decide) (by decide) (by decide) (by decide)).trans ((hFvy39 47 (by decide) (by decide)).trans r47))))) (by decide))
                have hey988 : (uZ Fvy857 48 (ho + 1)) 48 = ho + 1 := (uZ_s _ _ _)
                have hey989 : (uZ Fvy857 48 (ho + 1)) 49 = nm := (fn ((hFvy857 49 (by decide) (by decide) (by decide) (by decide) (by decide) (by decide) (by decide)).trans ((hFvy850 49 (by decide) (by decide) (by decide) (by decide) (by decide)).trans ((hFvy799 49 (by decide) (by decide) (by decide) (by decide) (by decide) (by decide) (by decide)).trans ((hFvy41 49 (by decide) (by decide) (by decide) (by decide) (by decide)).trans ((hFvy39 49 (by decide) (by decide)).trans r49))))) (by decide))
                have hfry991 : ∀ j, j ≠ (ho).toNat → ry810 j = ai1 j := fun j n0 => (congrFun hvy811 _).trans ((uZ_n _ _ n0).trans (rfl))
                have hwy992 : ry810 ((ho).toNat) = vy799 := (congrFun hvy811 _).trans (uZ_s _ _ _)
                have haky990 : ∀ k, k < 24 → -300 ≤ ry810 k ∧ ry810 k ≤ 100 := by
                  intro k hk
                  by_cases e : k = (ho).toNat
                  · rw [e]; have hk0 := hai1 ((ho).toNat) (by omega); omega
                  · have hk0 := hai1 k hk; rw [hfry991 k e]; exact hk0
                have hfry994 : ∀ j, j ≠ (ho).toNat → ry846 j = fa1 j := fun j n0 => (congrFun hvy847 _).trans ((uZ_n _ _ n0).trans ((congrFun hvy821 _).trans ((uZ_n _ _ n0).trans (rfl))))
                have hfry995 : ∀ j, j ≠ (ho).toNat → ry975 j = mu1 j := fun j n0 => (congrFun hvy976 _).trans ((uZ_n _ _ n0).trans ((congrFun hvy832 _).trans ((uZ_n _ _ n0).trans (rfl))))
                have hwy996 : ry846 ((ho).toNat) = (3 - 3) + 1 := (congrFun hvy847 _).trans (uZ_s _ _ _)
                have hwy997 : ry975 ((ho).toNat) = 1 := (congrFun hvy976 _).trans (uZ_s _ _ _)
                have haky993 : ∀ k, k < 24 → (0 ≤ ry846 k ∧ ry846 k ≤ 3) ∧ (0 ≤ ry975 k ∧ ry975 k ≤ 50) ∧ (ry846 k = 1 ∨ ry846 k = 2 → 1 ≤ ry975 k) := by
                  intro k hk
                  by_cases e : k = (ho).toNat
                  · rw [e]; have hk0 := hfa1 ((ho).toNat) (by omega); omega
                  · have hk0 := hfa1 k hk; rw [hfry994 k e]; rw [hfry995 k e]; exact hk0
                have hlay998 : ∀ s l : Nat, (s : Int) < (uZ Fvy857 48 (ho + 1)) 47 → (l : Int) < mn1 s → lyT ly1 (84 * s + 7 * l) := by
                  intro s l a1 a2
                  have hm9 := hmn1 s (by omega)
                  exact hly1 s l (by omega) a2
                have hgy999 := (hfvy39 (i + 16) (ne_o (i := i) (c := 16) (d := 0) rfl)).trans ha16
                have hgy1000 := (hfvy41 (i + 16) (ne_o (i := i) (c := 16) (d := 0) rfl)).trans hgy999
                have hgy1001 := (hfvy799 (i + 16) (ne_o (i := i) (c := 16) (d := 0) rfl)).trans hgy1000
                have hgy1002 := up_n egy808 hgy1001 (ne_o (i := i) (c := 16) (d := 19) rfl)
                have hgy1003 := up_n egy818 hgy1002 (ne_o (i := i) (c := 16) (d := 20) rfl)
                have hgy1004 := up_n egy829 hgy1003 (ne_o (i := i) (c := 16) (d := 21) rfl)
                have hgy1005 := up_n egy844 hgy1004 (ne_o (i := i) (c := 16) (d := 20) rfl)
                have hgy1006 := (hfvy850 (i + 16) (ne_o (i := i) (c := 16) (d := 0) rfl)).trans hgy1005
                have hgy1007 := (hfvy857 (i + 16) (ne_o (i := i) (c := 16) (d := 0) rfl)).trans hgy1006
                have hgy1008 := up_n egy973 hgy1007 (ne_o (i := i) (c := 16) (d := 21) rfl)
                have hgy1009 := up_n egy979 hgy1008 (ne_o (i := i) (c := 16) (d := 0) rfl)
                have hgy1010 := (hfvy39 (i + 17) (ne_o (i := i) (c := 17) (d := 0) rfl)).trans ha17
                have hgy1011 := (hfvy41 (i + 17) (ne_o (i := i) (c := 17) (d := 0) rfl)).trans hgy1010
                have hgy1012 := (hfvy799 (i + 17) (ne_o (i := i) (c := 17) (d := 0) rfl)).trans hgy1011
                have hgy1013 := up_n egy808 hgy1012 (ne_o (i := i) (c := 17) (d := 19) rfl)
                have hgy1014 := up_n egy818 hgy1013 (ne_o (i := i) (c := 17) (d := 20) rfl)
                have hgy1015 := up_n egy829 hgy1014 (ne_o (i := i) (c := 17) (d := 21) rfl)
                have hgy1016 := up_n egy844 hgy1015 (ne_o (i := i) (c := 17) (d := 20) rfl)
                have hgy1017 := (hfvy850 (i + 17) (ne_o (i := i) (c := 17) (d := 0) rfl)).trans hgy1016
                have hgy1018 := (hfvy857 (i + 17) (ne_o (i := i) (c := 17) (d := 0) rfl)).trans hgy1017
                have hgy1019 := up_n egy973 hgy1018 (ne_o (i := i) (c := 17) (d := 21) rfl)
                have hgy1020 := up_n egy979 hgy1019 (ne_o (i := i) (c := 17) (d := 0) rfl)
                have hgy1021 := (hfvy39 (i + 18) (ne_o (i := i) (c := 18) (d := 0) rfl)).trans ha18
                have hgy1022 := (hfvy41 (i + 18) (ne_o (i := i) (c := 18) (d := 0) rfl)).trans hgy1021
                have hgy1023 := (hfvy799 (i + 18) (ne_o (i := i) (c := 18) (d := 0) rfl)).trans hgy1022
                have hgy1024 := up_n egy808 hgy1023 (ne_o (i := i) (c := 18) (d := 19) rfl)
                have hgy1025 := up_n egy818 hgy1024 (ne_o (i := i) (c := 18) (d := 20) rfl)
                have hgy1026 := up_n egy829 hgy1025 (ne_o (i := i) (c := 18) (d := 21) rfl)
                have hgy1027 := up_n egy844 hgy1026 (ne_o (i := i) (c := 18) (d := 20) rfl)
                have hgy1028 := (hfvy850 (i + 18) (ne_o (i := i) (c := 18) (d := 0) rfl)).trans hgy1027
                have hgy1029 := (hfvy857 (i + 18) (ne_o (i := i) (c := 18) (d := 0) rfl)).trans hgy1028
                have hgy1030 := up_n egy973 hgy1029 (ne_o (i := i) (c := 18) (d := 21) rfl)
                have hgy1031 := up_n egy979 hgy1030 (ne_o (i := i) (c := 18) (d := 0) rfl)
                have hgy1032 := up_n egy818 hgy809 (ne_o (i := i) (c := 19) (d := 20) rfl)
                have hgy1033 := up_n egy829 hgy1032 (ne_o (i := i) (c := 19) (d := 21) rfl)
                have hgy1034 := up_n egy844 hgy1033 (ne_o (i := i) (c := 19) (d := 20) rfl)
                have hgy1035 := (hfvy850 (i + 19) (ne_o (i := i) (c := 19) (d := 0) rfl)).trans hgy1034
                have hgy1036 := (hfvy857 (i + 19) (ne_o (i := i) (c := 19) (d := 0) rfl)).trans hgy1035
                have hgy1037 := up_n egy973 hgy1036 (ne_o (i := i) (c := 19) (d := 21) rfl)
                have hgy1038 := up_n egy979 hgy1037 (ne_o (i := i) (c := 19) (d := 0) rfl)
                have hgy1039 := (hfvy857 (i + 20) (ne_o (i := i) (c := 20) (d := 0) rfl)).trans hgy855
                have hgy1040 := up_n egy973 hgy1039 (ne_o (i := i) (c := 20) (d := 21) rfl)
                have hgy1041 := up_n egy979 hgy1040 (ne_o (i := i) (c := 20) (d := 0) rfl)
                have hgy1042 := up_n egy979 hgy974 (ne_o (i := i) (c := 21) (d := 0) rfl)
                have hgy1043 := (hfvy39 (i + 22) (ne_o (i := i) (c := 22) (d := 0) rfl)).trans ha22
                have hgy1044 := (hfvy41 (i + 22) (ne_o (i := i) (c := 22) (d := 0) rfl)).trans hgy1043
                have hgy1045 := (hfvy799 (i + 22) (ne_o (i := i) (c := 22) (d := 0) rfl)).trans hgy1044
                have hgy1046 := up_n egy808 hgy1045 (ne_o (i := i) (c := 22) (d := 19) rfl)
                have hgy1047 := up_n egy818 hgy1046 (ne_o (i := i) (c := 22) (d := 20) rfl)
                have hgy1048 := up_n egy829 hgy1047 (ne_o (i := i) (c := 22) (d := 21) rfl)
                have hgy1049 := up_n egy844 hgy1048 (ne_o (i := i) (c := 22) (d := 20) rfl)
                have hgy1050 := (hfvy850 (i + 22) (ne_o (i := i) (c := 22) (d := 0) rfl)).trans hgy1049
                have hgy1051 := (hfvy857 (i + 22) (ne_o (i := i) (c := 22) (d := 0) rfl)).trans hgy1050
                have hgy1052 := up_n egy973 hgy1051 (ne_o (i := i) (c := 22) (d := 21) rfl)
                have hgy1053 := up_n egy979 hgy1052 (ne_o (i := i) (c := 22) (d := 0) rfl)
                have hgy1054 := (hfvy39 (i + 23) (ne_o (i := i) (c := 23) (d := 0) rfl)).trans ha23
                have hgy1055 := (hfvy41 (i + 23) (ne_o (i := i) (c := 23) (d := 0) rfl)).trans hgy1054
                have hgy1056 := (hfvy799 (i + 23) (ne_o (i := i) (c := 23) (d := 0) rfl)).trans hgy1055
                have hgy1057 := up_n egy808 hgy1056 (ne_o (i := i) (c := 23) (d := 19) rfl)
                have hgy1058 := up_n egy818 hgy1057 (ne_o (i := i) (c := 23) (d := 20) rfl)
                have hgy1059 := up_n egy829 hgy1058 (ne_o (i := i) (c := 23) (d := 21) rfl)
                have hgy1060 := up_n egy844 hgy1059 (ne_o (i := i) (c := 23) (d := 20) rfl)
                have hgy1061 := (hfvy850 (i + 23) (ne_o (i := i) (c := 23) (d := 0) rfl)).trans hgy1060
                have hgy1062 := (hfvy857 (i + 23) (ne_o (i := i) (c := 23) (d := 0) rfl)).trans hgy1061
                have hgy1063 := up_n egy973 hgy1062 (ne_o (i := i) (c := 23) (d := 21) rfl)
                have hgy1064 := up_n egy979 hgy1063 (ne_o (i := i) (c := 23) (d := 0) rfl)
                have htxy1065 : okTx cs gy978 i (uZ Fvy857 48 (ho + 1)) := ⟨_, _, _, _, _, _, _, _, ⟨hgy1009, hgy1020, hgy1031, hgy1038, hgy1041, hgy1042, hgy1053, hgy1064⟩, ⟨⟨by omega, by omega, by omega⟩, hop1, hmn1, haky990, haky993, htb1, hlay998⟩⟩
                exact z_vret C hr hlk dX10_hour1_207 (by decide) (by decide) ⟨rfl, rfl, rfl, ⟨_, hgy980, hFy981, Or.inr ⟨(cvy857, (tk_nx T n (tk_nx T n (tk_nx T n f)))), by simp only [cl_hour, cl_hour2, if_neg hscy17, if_neg h4, hnvy799, if_neg hscy840, if_neg hscy841, hnvy857], by show (uZ Fvy857 48 (ho + 1)) 38 = cvy857; omega, by show (uZ Fvy857 48 (ho + 1)) 24 = (((tk_nx T n (tk_nx T n (tk_nx T n f))) : Nat) : Int); omega, by show 1 ≤ cvy857 ∧ cvy857 ≤ 5; omega, ⟨_, htky982⟩, htxy1065⟩⟩, fun j j1 j2 => by rw [egy979, va_up_ne _ _ (by omega)]; rw [egy973, va_up_ne _ _ (by omega)]; rw [hfvy857 _ (by omega)]; rw [hfvy850 _ (by omega)]; rw [egy844, va_up_ne _ _ (by omega)]; rw [egy829, va_up_ne _ _ (by omega)]; rw [egy818, va_up_ne _ _ (by omega)]; rw [egy808, va_up_ne _ _ (by omega)]; rw [hfvy799 _ (by omega)]; rw [hfvy41 _ (by omega)]; rw [hfvy39 _ (by omega)]⟩
            · refine z_if_ne (tgt := 147) C dX10_hour1_128 (by decide) (by omega) (fun h => absurd h (by omega)) (fun _ => ?_)
              refine z_aload_n C 1 dX10_hour1_131 rfl ?_
              refine z_iconst (z := 4) C dX10_hour1_132 rfl ?_
              refine z_cV (As := [.int (zI (4))]) (rest := []) (ci := 12) C (c_yIs l D A cs tt N ad _ i hN _ hgy833 tp T n hn hTb hTt htp (tk_nx T n (tk_nx T n f)) hkvy799 hevy799 (4) (by omega)) (lt_A0 hN rfl) hay1 hgy833 rfl rfl mv_yX10_is q_1705 hd_yX10_is (by decide) (Nat.le_of_ble_eq_true rfl) (by decide) dX10_hour1_133 rfl (kI0 fun vy1066 gvy1066 hvy1066 => ?_)
              obtain ⟨hvy1066, rfl⟩ := hvy1066
              rcases hvy1066 with ⟨rfl, hxvy1066⟩ | ⟨rfl, hxvy1066⟩
              · refine z_if_ne (tgt := 147) C dX10_hour1_136 (by decide) (by omega) (fun _ => ?_) (fun h => absurd h (by omega))
                have hfay1067c := tk_fa_c T n (tk_nx T n (tk_nx T n f))
                have hfay1067 : tk_fa T n (tk_nx T n (tk_nx T n f)) = tk_w T n (tk_nx T n (tk_nx T n f)) - 2 ∧ (1 ≤ tk_fa T n (tk_nx T n (tk_nx T n f)) ∧ tk_fa T n (tk_nx T n (tk_nx T n f)) ≤ 3) := by omega
                clear hfay1067c
                have hscy1068 : ¬ (tk_fa T n (tk_nx T n (tk_nx T n f)) = 0) := by omega
                have hscy1069 : ¬ (tk_fa T n (tk_nx T n (tk_nx T n f)) = 3) := by omega
                refine z_aload_n C 1 dX10_hour1_147 rfl ?_
                refine z_get (v := .ref (ad (i + 20))) C (lt_A0 hN rfl) hay1 hgy833 rfl inA_X10 43 (by decide) q_1502 rfl rfl dX10_hour1_148 ?_
                refine z_aload_n C 1 dX10_hour1_151 rfl ?_
                refine z_get (v := .int (zI (ho))) C (lt_A0 hN rfl) hay1 hgy833 rfl inA_X10 48 (by decide) q_1507 rfl (fv (F := Fvy799) (f := 48) ((hFvy799 48 (by decide) (by decide) (by decide) (by decide) (by decide) (by decide) (by decide)).trans ((hFvy41 48 (by decide) (by decide) (by decide) (by decide) (by decide)).trans ((hFvy39 48 (by decide) (by decide)).trans r48)))) dX10_hour1_152 ?_
                refine z_aload_n C 1 dX10_hour1_155 rfl ?_
                refine z_get (v := .int (zI (4))) C (lt_A0 hN rfl) hay1 hgy833 rfl inA_X10 37 (by decide) q_1496 rfl (fv (F := Fvy799) (f := 37) (hkvy799.2.2.2.2.2.2.1.trans hxvy1066)) dX10_hour1_156 ?_
                refine z_iconst (z := 3) C dX10_hour1_159 rfl ?_
                refine z_isub C dX10_hour1_160 ?_
                refine z_iconst (z := 1) C dX10_hour1_161 rfl ?_
                refine z_iadd C dX10_hour1_162 ?_
                have hgy1070 := up_n egy829 hgy819 (ne_o (i := i) (c := 20) (d := 21) rfl)
                refine z_iast C (lt_A (c := 20) hN rfl) hay11 hgy1070 ((ho).toNat) (by omega) (by omega) (by decide) dX10_hour1_163 (fun gy1071 egy1072 => ?_)
                have hgy1073 := up_s egy1072
                obtain ⟨ry1074, hvy1075⟩ : ∃ rZ9 : Nat → Int, rZ9 = uZ ry820 ((ho).toNat) ((4 - 3) + 1) := ⟨_, rfl⟩
                rw [← hvy1075] at hgy1073
                refine z_aload_n C 1 dX10_hour1_164 rfl ?_
                have hgy1076 := up_n egy1072 hgy833 (ne_o (i := i) (c := 0) (d := 20) rfl)
                have hgy1077 := up_n egy1072 hgy838 (ne_o (i := i) (c := 13) (d := 20) rfl)
                have htvy1078 : tkR T n Fvy799 (tk_nx T n (tk_nx T n f)) := hkvy799
                refine z_cV (As := []) (rest := []) (ci := 12) C (c_yGo l D A cs tt N ad _ i hN _ hgy1076 _ hgy1077 T n hn hTb hTt htp (tk_to T n (tk_nx T n (tk_nx T n f))) (tk_to_b htvy1078.1.1).2.1 htvy1078.2.1 htvy1078.2.2.2.1 htvy1078.2.2.2.2.2.2.2) (lt_A0 hN rfl) hay1 hgy1076 rfl rfl mv_yX10_go q_1652 hd_yX10_go (by decide) (Nat.le_of_ble_eq_true rfl) (by decide) dX10_hour1_165 rfl (kV0 fun gvy1078 hvy1078 => ?_)
                obtain ⟨⟨Fvy1078, hcvy1078, hjvy1078, hFvy1078⟩, hfvy1078⟩ := hvy1078
                have hkvy1078 : tkR T n Fvy1078 (tk_nx T n (tk_nx T n (tk_nx T n f))) := hjvy1078
                have hnbvy1078 := tk_nx_w (T := T) (n := n) (f := (tk_nx T n (tk_nx T n f))) htvy1078.1.1
                clear hjvy1078
                have hsry1079 := srt_b T n (tk_nx T n (tk_nx T n (tk_nx T n f)))
                have hvly1080 := vlu_b hTb (tk_nx T n (tk_nx T n (tk_nx T n f)))
                have hwby1081 := tk_w_b T n (tk_nx T n (tk_nx T n (tk_nx T n f)))
                have hfny1082 := hkvy1078.1
                refine z_aload_n C 1 dX10_hour1_168 rfl ?_
                refine z_get (v := .ref (ad (i + 20))) C (lt_A0 hN rfl) hay1 hcvy1078 rfl inA_X10 43 (by decide) q_1502 rfl rfl dX10_hour1_169 ?_
                refine z_aload_n C 1 dX10_hour1_172 rfl ?_
                refine z_get (v := .int (zI (ho))) C (lt_A0 hN rfl) hay1 hcvy1078 rfl inA_X10 48 (by decide) q_1507 rfl (fv (F := Fvy1078) (f := 48) ((hFvy1078 48 (by decide) (by decide) (by decide) (by decide) (by decide)).trans ((hFvy799 48 (by decide) (by decide) (by decide) (by decide) (by decide) (by decide) (by decide)).trans ((hFvy41 48 (by decide) (by decide) (by decide) (by decide) (by decide)).trans ((hFvy39 48 (by decide) (by decide)).trans r48))))) dX10_hour1_173 ?_
                have hgy1083 := (hfvy1078 (i + 20) (ne_o (i := i) (c := 20) (d := 0) rfl)).trans hgy1073
                refine z_iald C (lt_A (c := 20) hN rfl) hay11 hgy1083 ((ho).toNat) (by omega) (by omega) (by decide) dX10_hour1_176 ?_
                rw [show ry1074 ((ho).toNat) = (4 - 3) + 1 from (congrFun hvy1075 _).trans (uZ_s _ _ _)]
                refine z_iconst (z := 3) C dX10_hour1_177 rfl ?_
                refine z_icmp_ge (tgt := 197) C dX10_hour1_178 (by decide) (by omega) (by omega) (fun h => absurd h (by omega)) (fun _ => ?_)
                refine z_aload_n C 1 dX10_hour1_181 rfl ?_
                refine z_get (v := .ref (ad (i + 21))) C (lt_A0 hN rfl) hay1 hcvy1078 rfl inA_X10 44 (by decide) q_1503 rfl rfl dX10_hour1_182 ?_
                refine z_aload_n C 1 dX10_hour1_185 rfl ?_
                refine z_get (v := .int (zI (ho))) C (lt_A0 hN rfl) hay1 hcvy1078 rfl inA_X10 48 (by decide) q_1507 rfl (fv (F := Fvy1078) (f := 48) ((hFvy1078 48 (by decide) (by decide) (by decide) (by decide) (by decide)).trans ((hFvy799 48 (by decide) (by decide) (by decide) (by decide) (by decide) (by decide) (by decide)).trans ((hFvy41 48 (by decide) (by decide) (by decide) (by decide) (by decide)).trans ((hFvy39 48 (by decide) (by decide)).trans r48))))) dX10_hour1_186 ?_
                refine z_aload_n C 1 dX10_hour1_189 rfl ?_
                refine z_iconst (z := 1) C dX10_hour1_190 rfl ?_
                refine z_bipush (z := 50) C dX10_hour1_191 (by decide) ?_
                have hgy1084 := (hfvy1078 (i + 13) (ne_o (i := i) (c := 13) (d := 0) rfl)).trans hgy1077
                have h24vy1085 : Fvy1078 24 = F 24 := ((hFvy1078 24 (by decide) (by decide) (by decide) (by decide) (by decide)).trans hbvy799)
                refine z_cV (As := [.int (zI (1)), .int (zI (50))]) (rest := [.int (zI (ho)), .ref (ad (i + 21))]) (ci := 12) C (c_yNumber l D A cs tt N ad _ i hN _ hcvy1078 _ hgy1084 T n hn hTb hTt htp (tk_nx T n (tk_nx T n (tk_nx T n f))) hkvy1078 ((hFvy1078 38 (by decide) (by decide) (by decide) (by decide) (by decide)).trans hevy799) (1) (by omega) (50) (by omega)) (lt_A0 hN rfl) hay1 hcvy1078 rfl rfl mv_yX10_number q_1682 hd_yX10_number (by decide) (Nat.le_of_ble_eq_true rfl) (by decide) dX10_hour1_193 rfl (kI0 fun vy1085 gvy1085 hvy1085 => ?_)
                obtain ⟨⟨Fvy1085, hcvy1085, hqvy1085, hFvy1085⟩, hfvy1085⟩ := hvy1085
                rcases hqvy1085 with hqvy1085 | hqvy1085
                · obtain ⟨hnvy1085, hrvy1085, hltvy1085, hevy1085, hb0vy1085, hkvy1085⟩ := hqvy1085
                  have hbvy1085 : Fvy1085 24 = F 24 := hb0vy1085.trans h24vy1085
                  have hnbvy1085 := tk_nx_s (T := T) (n := n) (f := (tk_nx T n (tk_nx T n (tk_nx T n f)))) hltvy1085
                  clear hb0vy1085 h24vy1085
                  have hsry1086 := srt_b T n (tk_nx T n (tk_nx T n (tk_nx T n (tk_nx T n f))))
                  have hvly1087 := vlu_b hTb (tk_nx T n (tk_nx T n (tk_nx T n (tk_nx T n f))))
                  have hwby1088 := tk_w_b T n (tk_nx T n (tk_nx T n (tk_nx T n (tk_nx T n f))))
                  have hfny1089 := hkvy1085.1
                  have hgy1090 := up_n egy1072 hgy830 (ne_o (i := i) (c := 21) (d := 20) rfl)
                  have hgy1091 := (hfvy1078 (i + 21) (ne_o (i := i) (c := 21) (d := 0) rfl)).trans hgy1090
                  have hgy1092 := (hfvy1085 (i + 21) (ne_o (i := i) (c := 21) (d := 0) rfl)).trans hgy1091
                  refine z_iast C (lt_A (c := 21) hN rfl) hay12 hgy1092 ((ho).toNat) (by omega) (by omega) (by decide) dX10_hour1_196 (fun gy1093 egy1094 => ?_)
                  have hgy1095 := up_s egy1094
                  obtain ⟨ry1096, hvy1097⟩ : ∃ rZ9 : Nat → Int, rZ9 = uZ ry831 ((ho).toNat) (vy1085) := ⟨_, rfl⟩
                  rw [← hvy1097] at hgy1095
                  refine z_aload_n C 1 dX10_hour1_197 rfl ?_
                  refine z_dup C dX10_hour1_198 rfl ?_
                  have hgy1098 := up_n egy1094 hcvy1085 (ne_o (i := i) (c := 0) (d := 21) rfl)
                  refine z_get (v := .int (zI (ho))) C (lt_A0 hN rfl) hay1 hgy1098 rfl inA_X10 48 (by decide) q_1507 rfl (fv (F := Fvy1085) (f := 48) ((hFvy1085 48 (by decide) (by decide) (by decide) (by decide) (by decide) (by decide) (by decide)).trans ((hFvy1078 48 (by decide) (by decide) (by decide) (by decide) (by decide)).trans ((hFvy799 48 (by decide) (by decide) (by decide) (by decide) (by decide) (by decide) (by decide)).trans ((hFvy41 48 (by decide) (by decide) (by decide) (by decide) (by decide)).trans ((hFvy39 48 (by decide) (by decide)).trans r48)))))) dX10_hour1_199 ?_
                  refine z_iconst (z := 1) C dX10_hour1_202 rfl ?_
                  refine z_iadd C dX10_hour1_203 ?_
                  refine z_put (fs' := mF ad (i) (uZ Fvy1085 48 (ho + 1))) C (lt_A0 hN rfl) hay1 hgy1098 tyX10 tyX10_ok nmX10 rfl inA_X10 48 (by decide) q_1507 rfl rfl rfl rfl (Nat.le_of_ble_eq_true rfl) rfl dX10_hour1_204 (fun gy1099 egy1100 => ?_)
                  have hgy1101 := up_s egy1100
                  have hFy1102 : ∀ f, f ≠ 24 → f ≠ 32 → f ≠ 33 → f ≠ 35 → f ≠ 36 → f ≠ 37 → f ≠ 38 → f ≠ 47 → f ≠ 48 → f ≠ 49 → (uZ Fvy1085 48 (ho + 1)) f = F f := fun f n24 n32 n33 n35 n36 n37 n38 n47 n48 n49 => ((uZ_n _ _ n48).trans ((hFvy1085 f n24 n32 n33 n35 n36 n37 n38).trans ((hFvy1078 f n32 n33 n35 n36 n37).trans ((hFvy799 f n24 n32 n33 n35 n36 n37 n38).trans ((hFvy41 f n32 n33 n35 n36 n37).trans (hFvy39 f n24 n38))))))
                  have htky1103 : tkR T n (uZ Fvy1085 48 (ho + 1)) (tk_nx T n (tk_nx T n (tk_nx T n (tk_nx T n f)))) := (tkR.put hkvy1085 (by decide))
                  have htoy1104 := tk_to_w (T := T) (n := n) (f := (tk_nx T n (tk_nx T n (tk_nx T n (tk_nx T n f))))) htky1103.1.1
                  have h32y1105 := htky1103.2.1
                  have hey1106 : (uZ Fvy1085 48 (ho + 1)) 24 = F 24 := (fn hbvy1085 (by decide))
                  have hey1107 : (uZ Fvy1085 48 (ho + 1)) 38 = 0 := (fn hevy1085 (by decide))
                  have hey1108 : (uZ Fvy1085 48 (ho + 1)) 47 = sl := (fn ((hFvy1085 47 (by decide) (by decide) (by decide) (by decide) (by decide) (by decide) (by decide)).trans ((hFvy1078 47 (by decide) (by decide) (by decide) (by decide) (by decide)).trans ((hFvy799 47 (by decide) (by decide) (by decide) (by decide) (by decide) (by decide) (by decide)).trans ((hFvy41 47 (by decide) (by decide) (by decide) (by decide) (by decide)).trans ((hFvy39 47 (by decide) (by decide)).trans r47))))) (by decide))
                  have hey1109 : (uZ Fvy1085 48 (ho + 1)) 48 = ho + 1 := (uZ_s _ _ _)
                  have hey1110 : (uZ Fvy1085 48 (ho + 1)) 49 = nm := (fn ((hFvy1085 49 (by decide) (by decide) (by decide) (by decide) (by decide) (by decide) (by decide)).trans ((hFvy1078 49 (by decide) (by decide) (by decide) (by decide) (by decide)).trans ((hFvy799 49 (by decide) (by decide) (by decide) (by decide) (by decide) (by decide) (by decide)).trans ((hFvy41 49 (by decide) (by decide) (by decide) (by decide) (by decide)).trans ((hFvy39 49 (by decide) (by decide)).trans r49))))) (by decide))
                  have hfry1112 : ∀ j, j ≠ (ho).toNat → ry810 j = ai1 j := fun j n0 => (congrFun hvy811 _).trans ((uZ_n _ _ n0).trans (rfl))
                  have hwy1113 : ry810 ((ho).toNat) = vy799 := (congrFun hvy811 _).trans (uZ_s _ _ _)
                  have haky1111 : ∀ k, k < 24 → -300 ≤ ry810 k ∧ ry810 k ≤ 100 := by
                    intro k hk
                    by_cases e : k = (ho).toNat
                    · rw [e]; have hk0 := hai1 ((ho).toNat) (by omega); omega
                    · have hk0 := hai1 k hk; rw [hfry1112 k e]; exact hk0
                  have hfry1115 : ∀ j, j ≠ (ho).toNat → ry1074 j = fa1 j := fun j n0 => (congrFun hvy1075 _).trans ((uZ_n _ _ n0).trans ((congrFun hvy821 _).trans ((uZ_n _ _ n0).trans (rfl))))
                  have hfry1116 : ∀ j, j ≠ (ho).toNat → ry1096 j = mu1 j := fun j n0 => (congrFun hvy1097 _).trans ((uZ_n _ _ n0).trans ((congrFun hvy832 _).trans ((uZ_n _ _ n0).trans (rfl))))
                  have hwy1117 : ry1074 ((ho).toNat) = (4 - 3) + 1 := (congrFun hvy1075 _).trans (uZ_s _ _ _)
                  have hwy1118 : ry1096 ((ho).toNat) = vy1085 := (congrFun hvy1097 _).trans (uZ_s _ _ _)
                  have haky1114 : ∀ k, k < 24 → (0 ≤ ry1074 k ∧ ry1074 k ≤ 3) ∧ (0 ≤ ry1096 k ∧ ry1096 k ≤ 50) ∧ (ry1074 k = 1 ∨ ry1074 k = 2 → 1 ≤ ry1096 k) := by
                    intro k hk
                    by_cases e : k = (ho).toNat
                    · rw [e]; have hk0 := hfa1 ((ho).toNat) (by omega); omega
                    · have hk0 := hfa1 k hk; rw [hfry1115 k e]; rw [hfry1116 k e]; exact hk0
                  have hlay1119 : ∀ s l : Nat, (s : Int) < (uZ Fvy1085 48 (ho + 1)) 47 → (l : Int) < mn1 s → lyT ly1 (84 * s + 7 * l) := by
                    intro s l a1 a2
                    have hm9 := hmn1 s (by omega)
                    exact hly1 s l (by omega) a2
                  have hgy1120 := (hfvy39 (i + 16) (ne_o (i := i) (c := 16) (d := 0) rfl)).trans ha16
                  have hgy1121 := (hfvy41 (i + 16) (ne_o (i := i) (c := 16) (d := 0) rfl)).trans hgy1120
                  have hgy1122 := (hfvy799 (i + 16) (ne_o (i := i) (c := 16) (d := 0) rfl)).trans hgy1121
                  have hgy1123 := up_n egy808 hgy1122 (ne_o (i := i) (c := 16) (d := 19) rfl)
                  have hgy1124 := up_n egy818 hgy1123 (ne_o (i := i) (c := 16) (d := 20) rfl)
                  have hgy1125 := up_n egy829 hgy1124 (ne_o (i := i) (c := 16) (d := 21) rfl)
                  have hgy1126 := up_n egy1072 hgy1125 (ne_o (i := i) (c := 16) (d := 20) rfl)
                  have hgy1127 := (hfvy1078 (i + 16) (ne_o (i := i) (c := 16) (d := 0) rfl)).trans hgy1126
                  have hgy1128 := (hfvy1085 (i + 16) (ne_o (i := i) (c := 16) (d := 0) rfl)).trans hgy1127
                  have hgy1129 := up_n egy1094 hgy1128 (ne_o (i := i) (c := 16) (d := 21) rfl)
                  have hgy1130 := up_n egy1100 hgy1129 (ne_o (i := i) (c := 16) (d := 0) rfl)
                  have hgy1131 := (hfvy39 (i + 17) (ne_o (i := i) (c := 17) (d := 0) rfl)).trans ha17
                  have hgy1132 := (hfvy41 (i + 17) (ne_o (i := i) (c := 17) (d := 0) rfl)).trans hgy1131
                  have hgy1133 := (hfvy799 (i + 17) (ne_o (i := i) (c := 17) (d := 0) rfl)).trans hgy1132
                  have hgy1134 := up_n egy808 hgy1133 (ne_o (i := i) (c := 17) (d := 19) rfl)
                  have hgy1135 := up_n egy818 hgy1134 (ne_o (i := i) (c := 17) (d := 20) rfl)
                  have hgy1136 := up_n egy829 hgy1135 (ne_o (i := i) (c := 17) (d := 21) rfl)
                  have hgy1137 := up_n egy1072 hgy1136 (ne_o (i := i) (c := 17) (d := 20) rfl)
                  have hgy1138 := (hfvy1078 (i + 17) (ne_o (i := i) (c := 17) (d := 0) rfl)).trans hgy1137
                  have hgy1139 := (hfvy1085 (i + 17) (ne_o (i := i) (c := 17) (d := 0) rfl)).trans hgy1138
                  have hgy1140 := up_n egy1094 hgy1139 (ne_o (i := i) (c := 17) (d := 21) rfl)
                  have hgy1141 := up_n egy1100 hgy1140 (ne_o (i := i) (c := 17) (d := 0) rfl)
                  have hgy1142 := (hfvy39 (i + 18) (ne_o (i := i) (c := 18) (d := 0) rfl)).trans ha18
                  have hgy1143 := (hfvy41 (i + 18) (ne_o (i := i) (c := 18) (d := 0) rfl)).trans hgy1142
                  have hgy1144 := (hfvy799 (i + 18) (ne_o (i := i) (c := 18) (d := 0) rfl)).trans hgy1143
                  have hgy1145 := up_n egy808 hgy1144 (ne_o (i := i) (c := 18) (d := 19) rfl)
                  have hgy1146 := up_n egy818 hgy1145 (ne_o (i := i) (c := 18) (d := 20) rfl)
                  have hgy1147 := up_n egy829 hgy1146 (ne_o (i := i) (c := 18) (d := 21) rfl)
                  have hgy1148 := up_n egy1072 hgy1147 (ne_o (i := i) (c := 18) (d := 20) rfl)
                  have hgy1149 := (hfvy1078 (i + 18) (ne_o (i := i) (c := 18) (d := 0) rfl)).trans hgy1148
                  have hgy1150 := (hfvy1085 (i + 18) (ne_o (i := i) (c := 18) (d := 0) rfl)).trans hgy1149
                  have hgy1151 := up_n egy1094 hgy1150 (ne_o (i := i) (c := 18) (d := 21) rfl)
                  have hgy1152 := up_n egy1100 hgy1151 (ne_o (i := i) (c := 18) (d := 0) rfl)
                  have hgy1153 := up_n egy818 hgy809 (ne_o (i := i) (c := 19) (d := 20) rfl)
                  have hgy1154 := up_n egy829 hgy1153 (ne_o (i := i) (c := 19) (d := 21) rfl)
                  have hgy1155 := up_n egy1072 hgy1154 (ne_o (i := i) (c := 19) (d := 20) rfl)
                  have hgy1156 := (hfvy1078 (i + 19) (ne_o (i := i) (c := 19) (d := 0) rfl)).trans hgy1155
                  have hgy1157 := (hfvy1085 (i + 19) (ne_o (i := i) (c := 19) (d := 0) rfl)).trans hgy1156
                  have hgy1158 := up_n egy1094 hgy1157 (ne_o (i := i) (c := 19) (d := 21) rfl)
                  have hgy1159 := up_n egy1100 hgy1158 (ne_o (i := i) (c := 19) (d := 0) rfl)
                  have hgy1160 := (hfvy1085 (i + 20) (ne_o (i := i) (c := 20) (d := 0) rfl)).trans hgy1083
                  have hgy1161 := up_n egy1094 hgy1160 (ne_o (i := i) (c := 20) (d := 21) rfl)
                  have hgy1162 := up_n egy1100 hgy1161 (ne_o (i := i) (c := 20) (d := 0) rfl)
                  have hgy1163 := up_n egy1100 hgy1095 (ne_o (i := i) (c := 21) (d := 0) rfl)
                  have hgy1164 := (hfvy39 (i + 22) (ne_o (i := i) (c := 22) (d := 0) rfl)).trans ha22
                  have hgy1165 := (hfvy41 (i + 22) (ne_o (i := i) (c := 22) (d := 0) rfl)).trans hgy1164
                  have hgy1166 := (hfvy799 (i + 22) (ne_o (i := i) (c := 22) (d := 0) rfl)).trans hgy1165
                  have hgy1167 := up_n egy808 hgy1166 (ne_o (i := i) (c := 22) (d := 19) rfl)
                  have hgy1168 := up_n egy818 hgy1167 (ne_o (i := i) (c := 22) (d := 20) rfl)
                  have hgy1169 := up_n egy829 hgy1168 (ne_o (i := i) (c := 22) (d := 21) rfl)
                  have hgy1170 := up_n egy1072 hgy1169 (ne_o (i := i) (c := 22) (d := 20) rfl)
                  have hgy1171 := (hfvy1078 (i + 22) (ne_o (i := i) (c := 22) (d := 0) rfl)).trans hgy1170
                  have hgy1172 := (hfvy1085 (i + 22) (ne_o (i := i) (c := 22) (d := 0) rfl)).trans hgy1171
                  have hgy1173 := up_n egy1094 hgy1172 (ne_o (i := i) (c := 22) (d := 21) rfl)
                  have hgy1174 := up_n egy1100 hgy1173 (ne_o (i := i) (c := 22) (d := 0) rfl)
                  have hgy1175 := (hfvy39 (i + 23) (ne_o (i := i) (c := 23) (d := 0) rfl)).trans ha23
                  have hgy1176 := (hfvy41 (i + 23) (ne_o (i := i) (c := 23) (d := 0) rfl)).trans hgy1175
                  have hgy1177 := (hfvy799 (i + 23) (ne_o (i := i) (c := 23) (d := 0) rfl)).trans hgy1176
                  have hgy1178 := up_n egy808 hgy1177 (ne_o (i := i) (c := 23) (d := 19) rfl)
                  have hgy1179 := up_n egy818 hgy1178 (ne_o (i := i) (c := 23) (d := 20) rfl)
                  have hgy1180 := up_n egy829 hgy1179 (ne_o (i := i) (c := 23) (d := 21) rfl)
                  have hgy1181 := up_n egy1072 hgy1180 (ne_o (i := i) (c := 23) (d := 20) rfl)
                  have hgy1182 := (hfvy1078 (i + 23) (ne_o (i := i) (c := 23) (d := 0) rfl)).trans hgy1181
                  have hgy1183 := (hfvy1085 (i + 23) (ne_o (i := i) (c := 23) (d := 0) rfl)).trans hgy1182
                  have hgy1184 := up_n egy1094 hgy1183 (ne_o (i := i) (c := 23) (d := 21) rfl)
                  have hgy1185 := up_n egy1100 hgy1184 (ne_o (i := i) (c := 23) (d := 0) rfl)
                  have hfry1186 : ∀ j, j ≠ (ho).toNat → ry810 j = ai1 j := fun j n0 => (congrFun hvy811 _).trans ((uZ_n _ _ n0).trans (rfl))
                  have hwy1187 : ry810 ((ho).toNat) = vy799 := (congrFun hvy811 _).trans (uZ_s _ _ _)
                  have hfry1188 : ∀ j, j ≠ (ho).toNat → ry1074 j = fa1 j := fun j n0 => (congrFun hvy1075 _).trans ((uZ_n _ _ n0).trans ((congrFun hvy821 _).trans ((uZ_n _ _ n0).trans (rfl))))
                  have hwy1189 : ry1074 ((ho).toNat) = (4 - 3) + 1 := (congrFun hvy1075 _).trans (uZ_s _ _ _)
                  have hfry1190 : ∀ j, j ≠ (ho).toNat → ry1096 j = mu1 j := fun j n0 => (congrFun hvy1097 _).trans ((uZ_n _ _ n0).trans ((congrFun hvy832 _).trans ((uZ_n _ _ n0).trans (rfl))))
                  have hwy1191 : ry1096 ((ho).toNat) = vy1085 := (congrFun hvy1097 _).trans (uZ_s _ _ _)
                  have hxty1192 : xTx cs gy1099 i (uZ Fvy1085 48 (ho + 1)) _ := ⟨_, _, _, _, _, _, _, _, ⟨hgy1130, hgy1141, hgy1152, hgy1159, hgy1162, hgy1163, hgy1174, hgy1185⟩, ⟨⟨by omega, by omega, by omega⟩, hop1, hmn1, haky1111, haky1114, htb1, hlay1119⟩, rT.hour (b := tk_fa T n (tk_nx T n (tk_nx T n f))) hrT ((ho).toNat) (by show ho = _; omega) ⟨by show (uZ Fvy1085 48 (ho + 1)) 47 = sl; omega, by show (uZ Fvy1085 48 (ho + 1)) 48 = ho + 1; omega, by show (uZ Fvy1085 48 (ho + 1)) 49 = nm; omega⟩ hfry1186 (by omega) hfry1188 (by omega) hfry1190 (by omega)⟩
                  exact z_vret C hr hlk dX10_hour1_207 (by decide) (by decide) ⟨rfl, rfl, rfl, ⟨_, hgy1101, hFy1102, Or.inl ⟨_, by simp only [cl_hour, cl_hour2, if_neg hscy17, if_neg h4, hnvy799, if_neg hscy1068, if_neg hscy1069, hnvy1085]; rfl, by omega, by omega, by show f < (tk_nx T n (tk_nx T n (tk_nx T n (tk_nx T n f)))); omega, htky1103, hxty1192⟩⟩, fun j j1 j2 => by rw [egy1100, va_up_ne _ _ (by omega)]; rw [egy1094, va_up_ne _ _ (by omega)]; rw [hfvy1085 _ (by omega)]; rw [hfvy1078 _ (by omega)]; rw [egy1072, va_up_ne _ _ (by omega)]; rw [egy829, va_up_ne _ _ (by omega)]; rw [egy818, va_up_ne _ _ (by omega)]; rw [egy808, va_up_ne _ _ (by omega)]; rw [hfvy799 _ (by omega)]; rw [hfvy41 _ (by omega)]; rw [hfvy39 _ (by omega)]⟩
                · obtain ⟨rfl, cvy1085, hrvy1085, hnvy1085, hevy1085, hbvy1085, hkvy1085⟩ := hqvy1085
                  clear h24vy1085
                  have hsry1193 := srt_b T n (tk_nx T n (tk_nx T n (tk_nx T n f)))
                  have hvly1194 := vlu_b hTb (tk_nx T n (tk_nx T n (tk_nx T n f)))
                  have hwby1195 := tk_w_b T n (tk_nx T n (tk_nx T n (tk_nx T n f)))
                  have hfny1196 := hkvy1085.1
                  have hgy1197 := up_n egy1072 hgy830 (ne_o (i := i) (c := 21) (d := 20) rfl)
                  have hgy1198 := (hfvy1078 (i + 21) (ne_o (i := i) (c := 21) (d := 0) rfl)).trans hgy1197
                  have hgy1199 := (hfvy1085 (i + 21) (ne_o (i := i) (c := 21) (d := 0) rfl)).trans hgy1198
                  refine z_iast C (lt_A (c := 21) hN rfl) hay12 hgy1199 ((ho).toNat) (by omega) (by omega) (by decide) dX10_hour1_196 (fun gy1200 egy1201 => ?_)
                  have hgy1202 := up_s egy1201
                  obtain ⟨ry1203, hvy1204⟩ : ∃ rZ9 : Nat → Int, rZ9 = uZ ry831 ((ho).toNat) (1) := ⟨_, rfl⟩
                  rw [← hvy1204] at hgy1202
                  refine z_aload_n C 1 dX10_hour1_197 rfl ?_
                  refine z_dup C dX10_hour1_198 rfl ?_
                  have hgy1205 := up_n egy1201 hcvy1085 (ne_o (i := i) (c := 0) (d := 21) rfl)
                  refine z_get (v := .int (zI (ho))) C (lt_A0 hN rfl) hay1 hgy1205 rfl inA_X10 48 (by decide) q_1507 rfl (fv (F := Fvy1085) (f := 48) ((hFvy1085 48 (by decide) (by decide) (by decide) (by decide) (by decide) (by decide) (by decide)).trans ((hFvy1078 48 (by decide) (by decide) (by decide) (by decide) (by decide)).trans ((hFvy799 48 (by decide) (by decide) (by decide) (by decide) (by decide) (by decide) (by decide)).trans ((hFvy41 48 (by decide) (by decide) (by decide) (by decide) (by decide)).trans ((hFvy39 48 (by decide) (by decide)).trans r48)))))) dX10_hour1_199 ?_
                  refine z_iconst (z := 1) C dX10_hour1_202 rfl ?_
                  refine z_iadd C dX10_hour1_203 ?_
                  refine z_put (fs' := mF ad (i) (uZ Fvy1085 48 (ho + 1))) C (lt_A0 hN rfl) hay1 hgy1205 tyX10 tyX10_ok nmX10 rfl inA_X10 48 (by decide) q_1507 rfl rfl rfl rfl (Nat.le_of_ble_eq_true rfl) rfl dX10_hour1_204 (fun gy1206 egy1207 => ?_)
                  have hgy1208 := up_s egy1207
                  have hFy1209 : ∀ f, f ≠ 24 → f ≠ 32 → f ≠ 33 → f ≠ 35 → f ≠ 36 → f ≠ 37 → f ≠ 38 → f ≠ 47 → f ≠ 48 → f ≠ 49 → (uZ Fvy1085 48 (ho + 1)) f = F f := fun f n24 n32 n33 n35 n36 n37 n38 n47 n48 n49 => ((uZ_n _ _ n48).trans ((hFvy1085 f n24 n32 n33 n35 n36 n37 n38).trans ((hFvy1078 f n32 n33 n35 n36 n37).trans ((hFvy799 f n24 n32 n33 n35 n36 n37 n38).trans ((hFvy41 f n32 n33 n35 n36 n37).trans (hFvy39 f n24 n38))))))
                  have htky1210 : tkR T n (uZ Fvy1085 48 (ho + 1)) (tk_nx T n (tk_nx T n (tk_nx T n f))) := (tkR.put hkvy1085 (by decide))
                  have htoy1211 := tk_to_w (T := T) (n := n) (f := (tk_nx T n (tk_nx T n (tk_nx T n f)))) htky1210.1.1
                  have h32y1212 := htky1210.2.1
                  have hey1213 : (uZ Fvy1085 48 (ho + 1)) 24 = ((tk_nx T n (tk_nx T n (tk_nx T n f))) : Int) := (fn hbvy1085 (by decide))
                  have hey1214 : (uZ Fvy1085 48 (ho + 1)) 38 = cvy1085 := (fn hevy1085 (by decide))
                  have hey1215 : (uZ Fvy1085 48 (ho + 1)) 47 = sl := (fn ((hFvy1085 47 (by decide) (by decide) (by decide) (by decide) (by decide) (by decide) (by decide)).trans ((hFvy1078 47 (by decide) (by decide) (by decide) (by decide) (by decide)).trans ((hFvy799 47 (by decide) (by decide) (by decide) (by decide) (by decide) (by decide) (by decide)).trans ((hFvy41 47 (by decide) (by decide) (by decide) (by decide) (by decide)).trans ((hFvy39 47 (by decide) (by decide)).trans r47))))) (by decide))
                  have hey1216 : (uZ Fvy1085 48 (ho + 1)) 48 = ho + 1 := (uZ_s _ _ _)
                  have hey1217 : (uZ Fvy1085 48 (ho + 1)) 49 = nm := (fn ((hFvy1085 49 (by decide) (by decide) (by decide) (by decide) (by decide) (by decide) (by decide)).trans ((hFvy1078 49 (by decide) (by decide) (by decide) (by decide) (by decide)).trans ((hFvy799 49 (by decide) (by decide) (by decide) (by decide) (by decide) (by decide) (by decide)).trans ((hFvy41 49 (by decide) (by decide) (by decide) (by decide) (by decide)).trans ((hFvy39 49 (by decide) (by decide)).trans r49))))) (by decide))
                  have hfry1219 : ∀ j, j ≠ (ho).toNat → ry810 j = ai1 j := fun j n0 => (congrFun hvy811 _).trans ((uZ_n _ _ n0).trans (rfl))
                  have hwy1220 : ry810 ((ho).toNat) = vy799 := (congrFun hvy811 _).trans (uZ_s _ _ _)
                  have haky1218 : ∀ k, k < 24 → -300 ≤ ry810 k ∧ ry810 k ≤ 100 := by
                    intro k hk
                    by_cases e : k = (ho).toNat
                    · rw [e]; have hk0 := hai1 ((ho).toNat) (by omega); omega
                    · have hk0 := hai1 k hk; rw [hfry1219 k e]; exact hk0
                  have hfry1222 : ∀ j, j ≠ (ho).toNat → ry1074 j = fa1 j := fun j n0 => (congrFun hvy1075 _).trans ((uZ_n _ _ n0).trans ((congrFun hvy821 _).trans ((uZ_n _ _ n0).trans (rfl))))
                  have hfry1223 : ∀ j, j ≠ (ho).toNat → ry1203 j = mu1 j := fun j n0 => (congrFun hvy1204 _).trans ((uZ_n _ _ n0).trans ((congrFun hvy832 _).trans ((uZ_n _ _ n0).trans (rfl))))
                  have hwy1224 : ry1074 ((ho).toNat) = (4 - 3) + 1 := (congrFun hvy1075 _).trans (uZ_s _ _ _)
                  have hwy1225 : ry1203 ((ho).toNat) = 1 := (congrFun hvy1204 _).trans (uZ_s _ _ _)
                  have haky1221 : ∀ k, k < 24 → (0 ≤ ry1074 k ∧ ry1074 k ≤ 3) ∧ (0 ≤ ry1203 k ∧ ry1203 k ≤ 50) ∧ (ry1074 k = 1 ∨ ry1074 k = 2 → 1 ≤ ry1203 k) := by
                    intro k hk
                    by_cases e : k = (ho).toNat
                    · rw [e]; have hk0 := hfa1 ((ho).toNat) (by omega); omega
                    · have hk0 := hfa1 k hk; rw [hfry1222 k e]; rw [hfry1223 k e]; exact hk0
                  have hlay1226 : ∀ s l : Nat, (s : Int) < (uZ Fvy1085 48 (ho + 1)) 47 → (l : Int) < mn1 s → lyT ly1 (84 * s + 7 * l) := by
                    intro s l a1 a2
                    have hm9 := hmn1 s (by omega)
                    exact hly1 s l (by omega) a2
                  have hgy1227 := (hfvy39 (i + 16) (ne_o (i := i) (c := 16) (d := 0) rfl)).trans ha16
                  have hgy1228 := (hfvy41 (i + 16) (ne_o (i := i) (c := 16) (d := 0) rfl)).trans hgy1227
                  have hgy1229 := (hfvy799 (i + 16) (ne_o (i := i) (c := 16) (d := 0) rfl)).trans hgy1228
                  have hgy1230 := up_n egy808 hgy1229 (ne_o (i := i) (c := 16) (d := 19) rfl)
                  have hgy1231 := up_n egy818 hgy1230 (ne_o (i := i) (c := 16) (d := 20) rfl)
                  have hgy1232 := up_n egy829 hgy1231 (ne_o (i := i) (c := 16) (d := 21) rfl)
                  have hgy1233 := up_n egy1072 hgy1232 (ne_o (i := i) (c := 16) (d := 20) rfl)
                  have hgy1234 := (hfvy1078 (i + 16) (ne_o (i := i) (c := 16) (d := 0) rfl)).trans hgy1233
                  have hgy1235 := (hfvy1085 (i + 16) (ne_o (i := i) (c := 16) (d := 0) rfl)).trans hgy1234
                  have hgy1236 := up_n egy1201 hgy1235 (ne_o (i := i) (c := 16) (d := 21) rfl)
                  have hgy1237 := up_n egy1207 hgy1236 (ne_o (i := i) (c := 16) (d := 0) rfl)
                  have hgy1238 := (hfvy39 (i + 17) (ne_o (i := i) (c := 17) (d := 0) rfl)).trans ha17
                  have hgy1239 := (hfvy41 (i + 17) (ne_o (i := i) (c := 17) (d := 0) rfl)).trans hgy1238
                  have hgy1240 := (hfvy799 (i + 17) (ne_o (i := i) (c := 17) (d := 0) rfl)).trans hgy1239
                  have hgy1241 := up_n egy808 hgy1240 (ne_o (i := i) (c := 17) (d := 19) rfl)
                  have hgy1242 := up_n egy818 hgy1241 (ne_o (i := i) (c := 17) (d := 20) rfl)
                  have hgy1243 := up_n egy829 hgy1242 (ne_o (i := i) (c := 17) (d := 21) rfl)
                  have hgy1244 := up_n egy1072 hgy1243 (ne_o (i := i) (c := 17) (d := 20) rfl)
                  have hgy1245 := (hfvy1078 (i + 17) (ne_o (i := i) (c := 17) (d := 0) rfl)).trans hgy1244
                  have hgy1246 := (hfvy1085 (i + 17) (ne_o (i := i) (c := 17) (d := 0) rfl)).trans hgy1245
                  have hgy1247 := up_n egy1201 hgy1246 (ne_o (i := i) (c := 17) (d := 21) rfl)
                  have hgy1248 := up_n egy1207 hgy1247 (ne_o (i := i) (c := 17) (d := 0) rfl)
                  have hgy1249 := (hfvy39 (i + 18) (ne_o (i := i) (c := 18) (d := 0) rfl)).trans ha18
                  have hgy1250 := (hfvy41 (i + 18) (ne_o (i := i) (c := 18) (d := 0) rfl)).trans hgy1249
                  have hgy1251 := (hfvy799 (i + 18) (ne_o (i := i) (c := 18) (d := 0) rfl)).trans hgy1250
                  have hgy1252 := up_n egy808 hgy1251 (ne_o (i := i) (c := 18) (d := 19) rfl)
                  have hgy1253 := up_n egy818 hgy1252 (ne_o (i := i) (c := 18) (d := 20) rfl)
                  have hgy1254 := up_n egy829 hgy1253 (ne_o (i := i) (c := 18) (d := 21) rfl)
                  have hgy1255 := up_n egy1072 hgy1254 (ne_o (i := i) (c := 18) (d := 20) rfl)
                  have hgy1256 := (hfvy1078 (i + 18) (ne_o (i := i) (c := 18) (d := 0) rfl)).trans hgy1255
                  have hgy1257 := (hfvy1085 (i + 18) (ne_o (i := i) (c := 18) (d := 0) rfl)).trans hgy1256
                  have hgy1258 := up_n egy1201 hgy1257 (ne_o (i := i) (c := 18) (d := 21) rfl)
                  have hgy1259 := up_n egy1207 hgy1258 (ne_o (i := i) (c := 18) (d := 0) rfl)
                  have hgy1260 := up_n egy818 hgy809 (ne_o (i := i) (c := 19) (d := 20) rfl)
                  have hgy1261 := up_n egy829 hgy1260 (ne_o (i := i) (c := 19) (d := 21) rfl)
                  have hgy1262 := up_n egy1072 hgy1261 (ne_o (i := i) (c := 19) (d := 20) rfl)
                  have hgy1263 := (hfvy1078 (i + 19) (ne_o (i := i) (c := 19) (d := 0) rfl)).trans hgy1262
                  have hgy1264 := (hfvy1085 (i + 19) (ne_o (i := i) (c := 19) (d := 0) rfl)).trans hgy1263
                  have hgy1265 := up_n egy1201 hgy1264 (ne_o (i := i) (c := 19) (d := 21) rfl)
                  have hgy1266 := up_n egy1207 hgy1265 (ne_o (i := i) (c := 19) (d := 0) rfl)
                  have hgy1267 := (hfvy1085 (i + 20) (ne_o (i := i) (c := 20) (d := 0) rfl)).trans hgy1083
                  have hgy1268 := up_n egy1201 hgy1267 (ne_o (i := i) (c := 20) (d := 21) rfl)
                  have hgy1269 := up_n egy1207 hgy1268 (ne_o (i := i) (c := 20) (d := 0) rfl)
                  have hgy1270 := up_n egy1207 hgy1202 (ne_o (i := i) (c := 21) (d := 0) rfl)
                  have hgy1271 := (hfvy39 (i + 22) (ne_o (i := i) (c := 22) (d := 0) rfl)).trans ha22
                  have hgy1272 := (hfvy41 (i + 22) (ne_o (i := i) (c := 22) (d := 0) rfl)).trans hgy1271
                  have hgy1273 := (hfvy799 (i + 22) (ne_o (i := i) (c := 22) (d := 0) rfl)).trans hgy1272
                  have hgy1274 := up_n egy808 hgy1273 (ne_o (i := i) (c := 22) (d := 19) rfl)
                  have hgy1275 := up_n egy818 hgy1274 (ne_o (i := i) (c := 22) (d := 20) rfl)
                  have hgy1276 := up_n egy829 hgy1275 (ne_o (i := i) (c := 22) (d := 21) rfl)
                  have hgy1277 := up_n egy1072 hgy1276 (ne_o (i := i) (c := 22) (d := 20) rfl)
                  have hgy1278 := (hfvy1078 (i + 22) (ne_o (i := i) (c := 22) (d := 0) rfl)).trans hgy1277
                  have hgy1279 := (hfvy1085 (i + 22) (ne_o (i := i) (c := 22) (d := 0) rfl)).trans hgy1278
                  have hgy1280 := up_n egy1201 hgy1279 (ne_o (i := i) (c := 22) (d := 21) rfl)
                  have hgy1281 := up_n egy1207 hgy1280 (ne_o (i := i) (c := 22) (d := 0) rfl)
                  have hgy1282 := (hfvy39 (i + 23) (ne_o (i := i) (c := 23) (d := 0) rfl)).trans ha23
                  have hgy1283 := (hfvy41 (i + 23) (ne_o (i := i) (c := 23) (d := 0) rfl)).trans hgy1282
                  have hgy1284 := (hfvy799 (i + 23) (ne_o (i := i) (c := 23) (d := 0) rfl)).trans hgy1283
                  have hgy1285 := up_n egy808 hgy1284 (ne_o (i := i) (c := 23) (d := 19) rfl)
                  have hgy1286 := up_n egy818 hgy1285 (ne_o (i := i) (c := 23) (d := 20) rfl)
                  have hgy1287 := up_n egy829 hgy1286 (ne_o (i := i) (c := 23) (d := 21) rfl)
                  have hgy1288 := up_n egy1072 hgy1287 (ne_o (i := i) (c := 23) (d := 20) rfl)
                  have hgy1289 := (hfvy1078 (i + 23) (ne_o (i := i) (c := 23) (d := 0) rfl)).trans hgy1288
                  have hgy1290 := (hfvy1085 (i + 23) (ne_o (i := i) (c := 23) (d := 0) rfl)).trans hgy1289
                  have hgy1291 := up_n egy1201 hgy1290 (ne_o (i := i) (c := 23) (d := 21) rfl)
                  have hgy1292 := up_n egy1207 hgy1291 (ne_o (i := i) (c := 23) (d := 0) rfl)
                  have htxy1293 : okTx cs gy1206 i (uZ Fvy1085 48 (ho + 1)) := ⟨_, _, _, _, _, _, _, _, ⟨hgy1237, hgy1248, hgy1259, hgy1266, hgy1269, hgy1270, hgy1281, hgy1292⟩, ⟨⟨by omega, by omega, by omega⟩, hop1, hmn1, haky1218, haky1221, htb1, hlay1226⟩⟩
                  exact z_vret C hr hlk dX10_hour1_207 (by decide) (by decide) ⟨rfl, rfl, rfl, ⟨_, hgy1208, hFy1209, Or.inr ⟨(cvy1085, (tk_nx T n (tk_nx T n (tk_nx T n f)))), by simp only [cl_hour, cl_hour2, if_neg hscy17, if_neg h4, hnvy799, if_neg hscy1068, if_neg hscy1069, hnvy1085], by show (uZ Fvy1085 48 (ho + 1)) 38 = cvy1085; omega, by show (uZ Fvy1085 48 (ho + 1)) 24 = (((tk_nx T n (tk_nx T n (tk_nx T n f))) : Nat) : Int); omega, by show 1 ≤ cvy1085 ∧ cvy1085 ≤ 5; omega, ⟨_, htky1210⟩, htxy1293⟩⟩, fun j j1 j2 => by rw [egy1207, va_up_ne _ _ (by omega)]; rw [egy1201, va_up_ne _ _ (by omega)]; rw [hfvy1085 _ (by omega)]; rw [hfvy1078 _ (by omega)]; rw [egy1072, va_up_ne _ _ (by omega)]; rw [egy829, va_up_ne _ _ (by omega)]; rw [egy818, va_up_ne _ _ (by omega)]; rw [egy808, va_up_ne _ _ (by omega)]; rw [hfvy799 _ (by omega)]; rw [hfvy41 _ (by omega)]; rw [hfvy39 _ (by omega)]⟩
              · refine z_if_ne (tgt := 147) C dX10_hour1_136 (by decide) (by omega) (fun h => absurd h (by omega)) (fun _ => ?_)
                refine z_aload_n C 1 dX10_hour1_139 rfl ?_
                refine z_iconst (z := 5) C dX10_hour1_140 rfl ?_
                refine z_cV (As := [.int (zI (5))]) (rest := []) (ci := 12) C (c_yIs l D A cs tt N ad _ i hN _ hgy833 tp T n hn hTb hTt htp (tk_nx T n (tk_nx T n f)) hkvy799 hevy799 (5) (by omega)) (lt_A0 hN rfl) hay1 hgy833 rfl rfl mv_yX10_is q_1705 hd_yX10_is (by decide) (Nat.le_of_ble_eq_true rfl) (by decide) dX10_hour1_141 rfl (kI0 fun vy1294 gvy1294 hvy1294 => ?_)
                obtain ⟨hvy1294, rfl⟩ := hvy1294
                rcases hvy1294 with ⟨rfl, hxvy1294⟩ | ⟨rfl, hxvy1294⟩
                · refine z_if_eq (tgt := 197) C dX10_hour1_144 (by decide) (by omega) (fun h => absurd h (by omega)) (fun _ => ?_)
                  have hfay1295c := tk_fa_c T n (tk_nx T n (tk_nx T n f))
                  have hfay1295 : tk_fa T n (tk_nx T n (tk_nx T n f)) = tk_w T n (tk_nx T n (tk_nx T n f)) - 2 ∧ (1 ≤ tk_fa T n (tk_nx T n (tk_nx T n f)) ∧ tk_fa T n (tk_nx T n (tk_nx T n f)) ≤ 3) := by omega
                  clear hfay1295c
                  have hscy1296 : ¬ (tk_fa T n (tk_nx T n (tk_nx T n f)) = 0) := by omega
                  have hscy1297 : (tk_fa T n (tk_nx T n (tk_nx T n f)) = 3) := by omega
                  refine z_aload_n C 1 dX10_hour1_147 rfl ?_
                  refine z_get (v := .ref (ad (i + 20))) C (lt_A0 hN rfl) hay1 hgy833 rfl inA_X10 43 (by decide) q_1502 rfl rfl dX10_hour1_148 ?_
                  refine z_aload_n C 1 dX10_hour1_151 rfl ?_
                  refine z_get (v := .int (zI (ho))) C (lt_A0 hN rfl) hay1 hgy833 rfl inA_X10 48 (by decide) q_1507 rfl (fv (F := Fvy799) (f := 48) ((hFvy799 48 (by decide) (by decide) (by decide) (by decide) (by decide) (by decide) (by decide)).trans ((hFvy41 48 (by decide) (by decide) (by decide) (by decide) (by decide)).trans ((hFvy39 48 (by decide) (by decide)).trans r48)))) dX10_hour1_152 ?_
                  refine z_aload_n C 1 dX10_hour1_155 rfl ?_
                  refine z_get (v := .int (zI (5))) C (lt_A0 hN rfl) hay1 hgy833 rfl inA_X10 37 (by decide) q_1496 rfl (fv (F := Fvy799) (f := 37) (hkvy799.2.2.2.2.2.2.1.trans hxvy1294)) dX10_hour1_156 ?_
                  refine z_iconst (z := 3) C dX10_hour1_159 rfl ?_
                  refine z_isub C dX10_hour1_160 ?_
                  refine z_iconst (z := 1) C dX10_hour1_161 rfl ?_
                  refine z_iadd C dX10_hour1_162 ?_
                  have hgy1298 := up_n egy829 hgy819 (ne_o (i := i) (c := 20) (d := 21) rfl)
                  refine z_iast C (lt_A (c := 20) hN rfl) hay11 hgy1298 ((ho).toNat) (by omega) (by omega) (by decide) dX10_hour1_163 (fun gy1299 egy1300 => ?_)
                  have hgy1301 := up_s egy1300
                  obtain ⟨ry1302, hvy1303⟩ : ∃ rZ9 : Nat → Int, rZ9 = uZ ry820 ((ho).toNat) ((5 - 3) + 1) := ⟨_, rfl⟩
                  rw [← hvy1303] at hgy1301
                  refine z_aload_n C 1 dX10_hour1_164 rfl ?_
                  have hgy1304 := up_n egy1300 hgy833 (ne_o (i := i) (c := 0) (d := 20) rfl)
                  have hgy1305 := up_n egy1300 hgy838 (ne_o (i := i) (c := 13) (d := 20) rfl)
                  have htvy1306 : tkR T n Fvy799 (tk_nx T n (tk_nx T n f)) := hkvy799
                  refine z_cV (As := []) (rest := []) (ci := 12) C (c_yGo l D A cs tt N ad _ i hN _ hgy1304 _ hgy1305 T n hn hTb hTt htp (tk_to T n (tk_nx T n (tk_nx T n f))) (tk_to_b htvy1306.1.1).2.1 htvy1306.2.1 htvy1306.2.2.2.1 htvy1306.2.2.2.2.2.2.2) (lt_A0 hN rfl) hay1 hgy1304 rfl rfl mv_yX10_go q_1652 hd_yX10_go (by decide) (Nat.le_of_ble_eq_true rfl) (by decide) dX10_hour1_165 rfl (kV0 fun gvy1306 hvy1306 => ?_)
                  obtain ⟨⟨Fvy1306, hcvy1306, hjvy1306, hFvy1306⟩, hfvy1306⟩ := hvy1306
                  have hkvy1306 : tkR T n Fvy1306 (tk_nx T n (tk_nx T n (tk_nx T n f))) := hjvy1306
                  have hnbvy1306 := tk_nx_w (T := T) (n := n) (f := (tk_nx T n (tk_nx T n f))) htvy1306.1.1
                  clear hjvy1306
                  have hsry1307 := srt_b T n (tk_nx T n (tk_nx T n (tk_nx T n f)))
                  have hvly1308 := vlu_b hTb (tk_nx T n (tk_nx T n (tk_nx T n f)))
                  have hwby1309 := tk_w_b T n (tk_nx T n (tk_nx T n (tk_nx T n f)))
                  have hfny1310 := hkvy1306.1
                  refine z_aload_n C 1 dX10_hour1_168 rfl ?_
                  refine z_get (v := .ref (ad (i + 20))) C (lt_A0 hN rfl) hay1 hcvy1306 rfl inA_X10 43 (by decide) q_1502 rfl rfl dX10_hour1_169 ?_
                  refine z_aload_n C 1 dX10_hour1_172 rfl ?_
                  refine z_get (v := .int (zI (ho))) C (lt_A0 hN rfl) hay1 hcvy1306 rfl inA_X10 48 (by decide) q_1507 rfl (fv (F := Fvy1306) (f := 48) ((hFvy1306 48 (by decide) (by decide) (by decide) (by decide) (by decide)).trans ((hFvy799 48 (by decide) (by decide) (by decide) (by decide) (by decide) (by decide) (by decide)).trans ((hFvy41 48 (by decide) (by decide) (by decide) (by decide) (by decide)).trans ((hFvy39 48 (by decide) (by decide)).trans r48))))) dX10_hour1_173 ?_
                  have hgy1311 := (hfvy1306 (i + 20) (ne_o (i := i) (c := 20) (d := 0) rfl)).trans hgy1301
                  refine z_iald C (lt_A (c := 20) hN rfl) hay11 hgy1311 ((ho).toNat) (by omega) (by omega) (by decide) dX10_hour1_176 ?_
                  rw [show ry1302 ((ho).toNat) = (5 - 3) + 1 from (congrFun hvy1303 _).trans (uZ_s _ _ _)]
                  refine z_iconst (z := 3) C dX10_hour1_177 rfl ?_
                  refine z_icmp_ge (tgt := 197) C dX10_hour1_178 (by decide) (by omega) (by omega) (fun _ => ?_) (fun h => absurd h (by omega))
                  refine z_aload_n C 1 dX10_hour1_197 rfl ?_
                  refine z_dup C dX10_hour1_198 rfl ?_
                  refine z_get (v := .int (zI (ho))) C (lt_A0 hN rfl) hay1 hcvy1306 rfl inA_X10 48 (by decide) q_1507 rfl (fv (F := Fvy1306) (f := 48) ((hFvy1306 48 (by decide) (by decide) (by decide) (by decide) (by decide)).trans ((hFvy799 48 (by decide) (by decide) (by decide) (by decide) (by decide) (by decide) (by decide)).trans ((hFvy41 48 (by decide) (by decide) (by decide) (by decide) (by decide)).trans ((hFvy39 48 (by decide) (by decide)).trans r48))))) dX10_hour1_199 ?_
                  refine z_iconst (z := 1) C dX10_hour1_202 rfl ?_
                  refine z_iadd C dX10_hour1_203 ?_
                  refine z_put (fs' := mF ad (i) (uZ Fvy1306 48 (ho + 1))) C (lt_A0 hN rfl) hay1 hcvy1306 tyX10 tyX10_ok nmX10 rfl inA_X10 48 (by decide) q_1507 rfl rfl rfl rfl (Nat.le_of_ble_eq_true rfl) rfl dX10_hour1_204 (fun gy1312 egy1313 => ?_)
                  have hgy1314 := up_s egy1313
                  have hFy1315 : ∀ f, f ≠ 24 → f ≠ 32 → f ≠ 33 → f ≠ 35 → f ≠ 36 → f ≠ 37 → f ≠ 38 → f ≠ 47 → f ≠ 48 → f ≠ 49 → (uZ Fvy1306 48 (ho + 1)) f = F f := fun f n24 n32 n33 n35 n36 n37 n38 n47 n48 n49 => ((uZ_n _ _ n48).trans ((hFvy1306 f n32 n33 n35 n36 n37).trans ((hFvy799 f n24 n32 n33 n35 n36 n37 n38).trans ((hFvy41 f n32 n33 n35 n36 n37).trans (hFvy39 f n24 n38)))))
                  have htky1316 : tkR T n (uZ Fvy1306 48 (ho + 1)) (tk_nx T n (tk_nx T n (tk_nx T n f))) := (tkR.put hkvy1306 (by decide))
                  have htoy1317 := tk_to_w (T := T) (n := n) (f := (tk_nx T n (tk_nx T n (tk_nx T n f)))) htky1316.1.1
                  have h32y1318 := htky1316.2.1
                  have hey1319 : (uZ Fvy1306 48 (ho + 1)) 24 = F 24 := (fn ((hFvy1306 24 (by decide) (by decide) (by decide) (by decide) (by decide)).trans hbvy799) (by decide))
                  have hey1320 : (uZ Fvy1306 48 (ho + 1)) 38 = 0 := (fn ((hFvy1306 38 (by decide) (by decide) (by decide) (by decide) (by decide)).trans hevy799) (by decide))
                  have hey1321 : (uZ Fvy1306 48 (ho + 1)) 47 = sl := (fn ((hFvy1306 47 (by decide) (by decide) (by decide) (by decide) (by decide)).trans ((hFvy799 47 (by decide) (by decide) (by decide) (by decide) (by decide) (by decide) (by decide)).trans ((hFvy41 47 (by decide) (by decide) (by decide) (by decide) (by decide)).trans ((hFvy39 47 (by decide) (by decide)).trans r47)))) (by decide))
                  have hey1322 : (uZ Fvy1306 48 (ho + 1)) 48 = ho + 1 := (uZ_s _ _ _)
                  have hey1323 : (uZ Fvy1306 48 (ho + 1)) 49 = nm := (fn ((hFvy1306 49 (by decide) (by decide) (by decide) (by decide) (by decide)).trans ((hFvy799 49 (by decide) (by decide) (by decide) (by decide) (by decide) (by decide) (by decide)).trans ((hFvy41 49 (by decide) (by decide) (by decide) (by decide) (by decide)).trans ((hFvy39 49 (by decide) (by decide)).trans r49)))) (by decide))
                  have hfry1325 : ∀ j, j ≠ (ho).toNat → ry810 j = ai1 j := fun j n0 => (congrFun hvy811 _).trans ((uZ_n _ _ n0).trans (rfl))
                  have hwy1326 : ry810 ((ho).toNat) = vy799 := (congrFun hvy811 _).trans (uZ_s _ _ _)
                  have haky1324 : ∀ k, k < 24 → -300 ≤ ry810 k ∧ ry810 k ≤ 100 := by
                    intro k hk
                    by_cases e : k = (ho).toNat
                    · rw [e]; have hk0 := hai1 ((ho).toNat) (by omega); omega
                    · have hk0 := hai1 k hk; rw [hfry1325 k e]; exact hk0
                  have hfry1328 : ∀ j, j ≠ (ho).toNat → ry1302 j = fa1 j := fun j n0 => (congrFun hvy1303 _).trans ((uZ_n _ _ n0).trans ((congrFun hvy821 _).trans ((uZ_n _ _ n0).trans (rfl))))
                  have hfry1329 : ∀ j, j ≠ (ho).toNat → ry831 j = mu1 j := fun j n0 => (congrFun hvy832 _).trans ((uZ_n _ _ n0).trans (rfl))
                  have hwy1330 : ry1302 ((ho).toNat) = (5 - 3) + 1 := (congrFun hvy1303 _).trans (uZ_s _ _ _)
                  have hwy1331 : ry831 ((ho).toNat) = 0 := (congrFun hvy832 _).trans (uZ_s _ _ _)
                  have haky1327 : ∀ k, k < 24 → (0 ≤ ry1302 k ∧ ry1302 k ≤ 3) ∧ (0 ≤ ry831 k ∧ ry831 k ≤ 50) ∧ (ry1302 k = 1 ∨ ry1302 k = 2 → 1 ≤ ry831 k) := by
                    intro k hk
                    by_cases e : k = (ho).toNat
                    · rw [e]; have hk0 := hfa1 ((ho).toNat) (by omega); omega
                    · have hk0 := hfa1 k hk; rw [hfry1328 k e]; rw [hfry1329 k e]; exact hk0
                  have hlay1332 : ∀ s l : Nat, (s : Int) < (uZ Fvy1306 48 (ho + 1)) 47 → (l : Int) < mn1 s → lyT ly1 (84 * s + 7 * l) := by
                    intro s l a1 a2
                    have hm9 := hmn1 s (by omega)
                    exact hly1 s l (by omega) a2
                  have hgy1333 := (hfvy39 (i + 16) (ne_o (i := i) (c := 16) (d := 0) rfl)).trans ha16
                  have hgy1334 := (hfvy41 (i + 16) (ne_o (i := i) (c := 16) (d := 0) rfl)).trans hgy1333
                  have hgy1335 := (hfvy799 (i + 16) (ne_o (i := i) (c := 16) (d := 0) rfl)).trans hgy1334
                  have hgy1336 := up_n egy808 hgy1335 (ne_o (i := i) (c := 16) (d := 19) rfl)
                  have hgy1337 := up_n egy818 hgy1336 (ne_o (i := i) (c := 16) (d := 20) rfl)
                  have hgy1338 := up_n egy829 hgy1337 (ne_o (i := i) (c := 16) (d := 21) rfl)
                  have hgy1339 := up_n egy1300 hgy1338 (ne_o (i := i) (c := 16) (d := 20) rfl)
                  have hgy1340 := (hfvy1306 (i + 16) (ne_o (i := i) (c := 16) (d := 0) rfl)).trans hgy1339
                  have hgy1341 := up_n egy1313 hgy1340 (ne_o (i := i) (c := 16) (d := 0) rfl)
                  have hgy1342 := (hfvy39 (i + 17) (ne_o (i := i) (c := 17) (d := 0) rfl)).trans ha17
                  have hgy1343 := (hfvy41 (i + 17) (ne_o (i := i) (c := 17) (d := 0) rfl)).trans hgy1342
                  have hgy1344 := (hfvy799 (i + 17) (ne_o (i := i) (c := 17) (d := 0) rfl)).trans hgy1343
                  have hgy1345 := up_n egy808 hgy1344 (ne_o (i := i) (c := 17) (d := 19) rfl)
                  have hgy1346 := up_n egy818 hgy1345 (ne_o (i := i) (c := 17) (d := 20) rfl)
                  have hgy1347 := up_n egy829 hgy1346 (ne_o (i := i) (c := 17) (d := 21) rfl)
                  have hgy1348 := up_n egy1300 hgy1347 (ne_o (i := i) (c := 17) (d := 20) rfl)
                  have hgy1349 := (hfvy1306 (i + 17) (ne_o (i := i) (c := 17) (d := 0) rfl)).trans hgy1348
                  have hgy1350 := up_n egy1313 hgy1349 (ne_o (i := i) (c := 17) (d := 0) rfl)
                  have hgy1351 := (hfvy39 (i + 18) (ne_o (i := i) (c := 18) (d := 0) rfl)).trans ha18
                  have hgy1352 := (hfvy41 (i + 18) (ne_o (i := i) (c := 18) (d := 0) rfl)).trans hgy1351
                  have hgy1353 := (hfvy799 (i + 18) (ne_o (i := i) (c := 18) (d := 0) rfl)).trans hgy1352
                  have hgy1354 := up_n egy808 hgy1353 (ne_o (i := i) (c := 18) (d := 19) rfl)
                  have hgy1355 := up_n egy818 hgy1354 (ne_o (i := i) (c := 18) (d := 20) rfl)
                  have hgy1356 := up_n egy829 hgy1355 (ne_o (i := i) (c := 18) (d := 21) rfl)
                  have hgy1357 := up_n egy1300 hgy1356 (ne_o (i := i) (c := 18) (d := 20) rfl)
                  have hgy1358 := (hfvy1306 (i + 18) (ne_o (i := i) (c := 18) (d := 0) rfl)).trans hgy1357
                  have hgy1359 := up_n egy1313 hgy1358 (ne_o (i := i) (c := 18) (d := 0) rfl)
                  have hgy1360 := up_n egy818 hgy809 (ne_o (i := i) (c := 19) (d := 20) rfl)
                  have hgy1361 := up_n egy829 hgy1360 (ne_o (i := i) (c := 19) (d := 21) rfl)
                  have hgy1362 := up_n egy1300 hgy1361 (ne_o (i := i) (c := 19) (d := 20) rfl)
                  have hgy1363 := (hfvy1306 (i + 19) (ne_o (i := i) (c := 19) (d := 0) rfl)).trans hgy1362
                  have hgy1364 := up_n egy1313 hgy1363 (ne_o (i := i) (c := 19) (d := 0) rfl)
                  have hgy1365 := up_n egy1313 hgy1311 (ne_o (i := i) (c := 20) (d := 0) rfl)
                  have hgy1366 := up_n egy1300 hgy830 (ne_o (i := i) (c := 21) (d := 20) rfl)
                  have hgy1367 := (hfvy1306 (i + 21) (ne_o (i := i) (c := 21) (d := 0) rfl)).trans hgy1366
                  have hgy1368 := up_n egy1313 hgy1367 (ne_o (i := i) (c := 21) (d := 0) rfl)
                  have hgy1369 := (hfvy39 (i + 22) (ne_o (i := i) (c := 22) (d := 0) rfl)).trans ha22
                  have hgy1370 := (hfvy41 (i + 22) (ne_o (i := i) (c := 22) (d := 0) rfl)).trans hgy1369
                  have hgy1371 := (hfvy799 (i + 22) (ne_o (i := i) (c := 22) (d := 0) rfl)).trans hgy1370
                  have hgy1372 := up_n egy808 hgy1371 (ne_o (i := i) (c := 22) (d := 19) rfl)
                  have hgy1373 := up_n egy818 hgy1372 (ne_o (i := i) (c := 22) (d := 20) rfl)
                  have hgy1374 := up_n egy829 hgy1373 (ne_o (i := i) (c := 22) (d := 21) rfl)
                  have hgy1375 := up_n egy1300 hgy1374 (ne_o (i := i) (c := 22) (d := 20) rfl)
                  have hgy1376 := (hfvy1306 (i + 22) (ne_o (i := i) (c := 22) (d := 0) rfl)).trans hgy1375
                  have hgy1377 := up_n egy1313 hgy1376 (ne_o (i := i) (c := 22) (d := 0) rfl)
                  have hgy1378 := (hfvy39 (i + 23) (ne_o (i := i) (c := 23) (d := 0) rfl)).trans ha23
                  have hgy1379 := (hfvy41 (i + 23) (ne_o (i := i) (c := 23) (d := 0) rfl)).trans hgy1378
                  have hgy1380 := (hfvy799 (i + 23) (ne_o (i := i) (c := 23) (d := 0) rfl)).trans hgy1379
                  have hgy1381 := up_n egy808 hgy1380 (ne_o (i := i) (c := 23) (d := 19) rfl)
                  have hgy1382 := up_n egy818 hgy1381 (ne_o (i := i) (c := 23) (d := 20) rfl)
                  have hgy1383 := up_n egy829 hgy1382 (ne_o (i := i) (c := 23) (d := 21) rfl)
                  have hgy1384 := up_n egy1300 hgy1383 (ne_o (i := i) (c := 23) (d := 20) rfl)
                  have hgy1385 := (hfvy1306 (i + 23) (ne_o (i := i) (c := 23) (d := 0) rfl)).trans hgy1384
                  have hgy1386 := up_n egy1313 hgy1385 (ne_o (i := i) (c := 23) (d := 0) rfl)
                  have hfry1387 : ∀ j, j ≠ (ho).toNat → ry810 j = ai1 j := fun j n0 => (congrFun hvy811 _).trans ((uZ_n _ _ n0).trans (rfl))
                  have hwy1388 : ry810 ((ho).toNat) = vy799 := (congrFun hvy811 _).trans (uZ_s _ _ _)
                  have hfry1389 : ∀ j, j ≠ (ho).toNat → ry1302 j = fa1 j := fun j n0 => (congrFun hvy1303 _).trans ((uZ_n _ _ n0).trans ((congrFun hvy821 _).trans ((uZ_n _ _ n0).trans (rfl))))
                  have hwy1390 : ry1302 ((ho).toNat) = (5 - 3) + 1 := (congrFun hvy1303 _).trans (uZ_s _ _ _)
                  have hfry1391 : ∀ j, j ≠ (ho).toNat → ry831 j = mu1 j := fun j n0 => (congrFun hvy832 _).trans ((uZ_n _ _ n0).trans (rfl))
                  have hwy1392 : ry831 ((ho).toNat) = 0 := (congrFun hvy832 _).trans (uZ_s _ _ _)
                  have hxty1393 : xTx cs gy1312 i (uZ Fvy1306 48 (ho + 1)) _ := ⟨_, _, _, _, _, _, _, _, ⟨hgy1341, hgy1350, hgy1359, hgy1364, hgy1365, hgy1368, hgy1377, hgy1386⟩, ⟨⟨by omega, by omega, by omega⟩, hop1, hmn1, haky1324, haky1327, htb1, hlay1332⟩, rT.hour (b := tk_fa T n (tk_nx T n (tk_nx T n f))) hrT ((ho).toNat) (by show ho = _; omega) ⟨by show (uZ Fvy1306 48 (ho + 1)) 47 = sl; omega, by show (uZ Fvy1306 48 (ho + 1)) 48 = ho + 1; omega, by show (uZ Fvy1306 48 (ho + 1)) 49 = nm; omega⟩ hfry1387 (by omega) hfry1389 (by omega) hfry1391 (by omega)⟩
                  exact z_vret C hr hlk dX10_hour1_207 (by decide) (by decide) ⟨rfl, rfl, rfl, ⟨_, hgy1314, hFy1315, Or.inl ⟨_, by simp only [cl_hour, cl_hour2, if_neg hscy17, if_neg h4, hnvy799, if_neg hscy1296, if_pos hscy1297]; rfl, by omega, by omega, by show f < (tk_nx T n (tk_nx T n (tk_nx T n f))); omega, htky1316, hxty1393⟩⟩, fun j j1 j2 => by rw [egy1313, va_up_ne _ _ (by omega)]; rw [hfvy1306 _ (by omega)]; rw [egy1300, va_up_ne _ _ (by omega)]; rw [egy829, va_up_ne _ _ (by omega)]; rw [egy818, va_up_ne _ _ (by omega)]; rw [egy808, va_up_ne _ _ (by omega)]; rw [hfvy799 _ (by omega)]; rw [hfvy41 _ (by omega)]; rw [hfvy39 _ (by omega)]⟩
                · refine z_if_eq (tgt := 197) C dX10_hour1_144 (by decide) (by omega) (fun _ => ?_) (fun h => absurd h (by omega))
                  refine z_aload_n C 1 dX10_hour1_197 rfl ?_
                  refine z_dup C dX10_hour1_198 rfl ?_
                  refine z_get (v := .int (zI (ho))) C (lt_A0 hN rfl) hay1 hgy833 rfl inA_X10 48 (by decide) q_1507 rfl (fv (F := Fvy799) (f := 48) ((hFvy799 48 (by decide) (by decide) (by decide) (by decide) (by decide) (by decide) (by decide)).trans ((hFvy41 48 (by decide) (by decide) (by decide) (by decide) (by decide)).trans ((hFvy39 48 (by decide) (by decide)).trans r48)))) dX10_hour1_199 ?_
                  refine z_iconst (z := 1) C dX10_hour1_202 rfl ?_
                  refine z_iadd C dX10_hour1_203 ?_
                  refine z_put (fs' := mF ad (i) (uZ Fvy799 48 (ho + 1))) C (lt_A0 hN rfl) hay1 hgy833 tyX10 tyX10_ok nmX10 rfl inA_X10 48 (by decide) q_1507 rfl rfl rfl rfl (Nat.le_of_ble_eq_true rfl) rfl dX10_hour1_204 (fun gy1394 egy1395 => ?_)
                  have hgy1396 := up_s egy1395
                  have hfac := tk_fa_c T n (tk_nx T n (tk_nx T n f))
                  have hfa0 : tk_fa T n (tk_nx T n (tk_nx T n f)) = 0 := by omega
                  clear hfac
                  have hFy1397 : ∀ f, f ≠ 24 → f ≠ 32 → f ≠ 33 → f ≠ 35 → f ≠ 36 → f ≠ 37 → f ≠ 38 → f ≠ 47 → f ≠ 48 → f ≠ 49 → (uZ Fvy799 48 (ho + 1)) f = F f := fun f n24 n32 n33 n35 n36 n37 n38 n47 n48 n49 => ((uZ_n _ _ n48).trans ((hFvy799 f n24 n32 n33 n35 n36 n37 n38).trans ((hFvy41 f n32 n33 n35 n36 n37).trans (hFvy39 f n24 n38))))
                  have htky1398 : tkR T n (uZ Fvy799 48 (ho + 1)) (tk_nx T n (tk_nx T n f)) := (tkR.put hkvy799 (by decide))
                  have htoy1399 := tk_to_w (T := T) (n := n) (f := (tk_nx T n (tk_nx T n f))) htky1398.1.1
                  have h32y1400 := htky1398.2.1
                  have hey1401 : (uZ Fvy799 48 (ho + 1)) 24 = F 24 := (fn hbvy799 (by decide))
                  have hey1402 : (uZ Fvy799 48 (ho + 1)) 38 = 0 := (fn hevy799 (by decide))
                  have hey1403 : (uZ Fvy799 48 (ho + 1)) 47 = sl := (fn ((hFvy799 47 (by decide) (by decide) (by decide) (by decide) (by decide) (by decide) (by decide)).trans ((hFvy41 47 (by decide) (by decide) (by decide) (by decide) (by decide)).trans ((hFvy39 47 (by decide) (by decide)).trans r47))) (by decide))
                  have hey1404 : (uZ Fvy799 48 (ho + 1)) 48 = ho + 1 := (uZ_s _ _ _)
                  have hey1405 : (uZ Fvy799 48 (ho + 1)) 49 = nm := (fn ((hFvy799 49 (by decide) (by decide) (by decide) (by decide) (by decide) (by decide) (by decide)).trans ((hFvy41 49 (by decide) (by decide) (by decide) (by decide) (by decide)).trans ((hFvy39 49 (by decide) (by decide)).trans r49))) (by decide))
                  have hfry1407 : ∀ j, j ≠ (ho).toNat → ry810 j = ai1 j := fun j n0 => (congrFun hvy811 _).trans ((uZ_n _ _ n0).trans (rfl))
                  have hwy1408 : ry810 ((ho).toNat) = vy799 := (congrFun hvy811 _).trans (uZ_s _ _ _)
                  have haky1406 : ∀ k, k < 24 → -300 ≤ ry810 k ∧ ry810 k ≤ 100 := by
                    intro k hk
                    by_cases e : k = (ho).toNat
                    · rw [e]; have hk0 := hai1 ((ho).toNat) (by omega); omega
                    · have hk0 := hai1 k hk; rw [hfry1407 k e]; exact hk0
                  have hfry1410 : ∀ j, j ≠ (ho).toNat → ry820 j = fa1 j := fun j n0 => (congrFun hvy821 _).trans ((uZ_n _ _ n0).trans (rfl))
                  have hfry1411 : ∀ j, j ≠ (ho).toNat → ry831 j = mu1 j := fun j n0 => (congrFun hvy832 _).trans ((uZ_n _ _ n0).trans (rfl))
                  have hwy1412 : ry820 ((ho).toNat) = 0 := (congrFun hvy821 _).trans (uZ_s _ _ _)
                  have hwy1413 : ry831 ((ho).toNat) = 0 := (congrFun hvy832 _).trans (uZ_s _ _ _)
                  have haky1409 : ∀ k, k < 24 → (0 ≤ ry820 k ∧ ry820 k ≤ 3) ∧ (0 ≤ ry831 k ∧ ry831 k ≤ 50) ∧ (ry820 k = 1 ∨ ry820 k = 2 → 1 ≤ ry831 k) := by
                    intro k hk
                    by_cases e : k = (ho).toNat
                    · rw [e]; have hk0 := hfa1 ((ho).toNat) (by omega); omega
                    · have hk0 := hfa1 k hk; rw [hfry1410 k e]; rw [hfry1411 k e]; exact hk0
                  have hlay1414 : ∀ s l : Nat, (s : Int) < (uZ Fvy799 48 (ho + 1)) 47 → (l : Int) < mn1 s → lyT ly1 (84 * s + 7 * l) := by
                    intro s l a1 a2
                    have hm9 := hmn1 s (by omega)
                    exact hly1 s l (by omega) a2
                  have hgy1415 := (hfvy39 (i + 16) (ne_o (i := i) (c := 16) (d := 0) rfl)).trans ha16
                  have hgy1416 := (hfvy41 (i + 16) (ne_o (i := i) (c := 16) (d := 0) rfl)).trans hgy1415
                  have hgy1417 := (hfvy799 (i + 16) (ne_o (i := i) (c := 16) (d := 0) rfl)).trans hgy1416
                  have hgy1418 := up_n egy808 hgy1417 (ne_o (i := i) (c := 16) (d := 19) rfl)
                  have hgy1419 := up_n egy818 hgy1418 (ne_o (i := i) (c := 16) (d := 20) rfl)
                  have hgy1420 := up_n egy829 hgy1419 (ne_o (i := i) (c := 16) (d := 21) rfl)
                  have hgy1421 := up_n egy1395 hgy1420 (ne_o (i := i) (c := 16) (d := 0) rfl)
                  have hgy1422 := (hfvy39 (i + 17) (ne_o (i := i) (c := 17) (d := 0) rfl)).trans ha17
                  have hgy1423 := (hfvy41 (i + 17) (ne_o (i := i) (c := 17) (d := 0) rfl)).trans hgy1422
                  have hgy1424 := (hfvy799 (i + 17) (ne_o (i := i) (c := 17) (d := 0) rfl)).trans hgy1423
                  have hgy1425 := up_n egy808 hgy1424 (ne_o (i := i) (c := 17) (d := 19) rfl)
                  have hgy1426 := up_n egy818 hgy1425 (ne_o (i := i) (c := 17) (d := 20) rfl)
                  have hgy1427 := up_n egy829 hgy1426 (ne_o (i := i) (c := 17) (d := 21) rfl)
                  have hgy1428 := up_n egy1395 hgy1427 (ne_o (i := i) (c := 17) (d := 0) rfl)
                  have hgy1429 := (hfvy39 (i + 18) (ne_o (i := i) (c := 18) (d := 0) rfl)).trans ha18
                  have hgy1430 := (hfvy41 (i + 18) (ne_o (i := i) (c := 18) (d := 0) rfl)).trans hgy1429
                  have hgy1431 := (hfvy799 (i + 18) (ne_o (i := i) (c := 18) (d := 0) rfl)).trans hgy1430
                  have hgy1432 := up_n egy808 hgy1431 (ne_o (i := i) (c := 18) (d := 19) rfl)
                  have hgy1433 := up_n egy818 hgy1432 (ne_o (i := i) (c := 18) (d := 20) rfl)
                  have hgy1434 := up_n egy829 hgy1433 (ne_o (i := i) (c := 18) (d := 21) rfl)
                  have hgy1435 := up_n egy1395 hgy1434 (ne_o (i := i) (c := 18) (d := 0) rfl)
                  have hgy1436 := up_n egy818 hgy809 (ne_o (i := i) (c := 19) (d := 20) rfl)
                  have hgy1437 := up_n egy829 hgy1436 (ne_o (i := i) (c := 19) (d := 21) rfl)
                  have hgy1438 := up_n egy1395 hgy1437 (ne_o (i := i) (c := 19) (d := 0) rfl)
                  have hgy1439 := up_n egy829 hgy819 (ne_o (i := i) (c := 20) (d := 21) rfl)
                  have hgy1440 := up_n egy1395 hgy1439 (ne_o (i := i) (c := 20) (d := 0) rfl)
                  have hgy1441 := up_n egy1395 hgy830 (ne_o (i := i) (c := 21) (d := 0) rfl)
                  have hgy1442 := (hfvy39 (i + 22) (ne_o (i := i) (c := 22) (d := 0) rfl)).trans ha22
                  have hgy1443 := (hfvy41 (i + 22) (ne_o (i := i) (c := 22) (d := 0) rfl)).trans hgy1442
                  have hgy1444 := (hfvy799 (i + 22) (ne_o (i := i) (c := 22) (d := 0) rfl)).trans hgy1443
                  have hgy1445 := up_n egy808 hgy1444 (ne_o (i := i) (c := 22) (d := 19) rfl)
                  have hgy1446 := up_n egy818 hgy1445 (ne_o (i := i) (c := 22) (d := 20) rfl)
                  have hgy1447 := up_n egy829 hgy1446 (ne_o (i := i) (c := 22) (d := 21) rfl)
                  have hgy1448 := up_n egy1395 hgy1447 (ne_o (i := i) (c := 22) (d := 0) rfl)
                  have hgy1449 := (hfvy39 (i + 23) (ne_o (i := i) (c := 23) (d := 0) rfl)).trans ha23
                  have hgy1450 := (hfvy41 (i + 23) (ne_o (i := i) (c := 23) (d := 0) rfl)).trans hgy1449
                  have hgy1451 := (hfvy799 (i + 23) (ne_o (i := i) (c := 23) (d := 0) rfl)).trans hgy1450
                  have hgy1452 := up_n egy808 hgy1451 (ne_o (i := i) (c := 23) (d := 19) rfl)
                  have hgy1453 := up_n egy818 hgy1452 (ne_o (i := i) (c := 23) (d := 20) rfl)
                  have hgy1454 := up_n egy829 hgy1453 (ne_o (i := i) (c := 23) (d := 21) rfl)
                  have hgy1455 := up_n egy1395 hgy1454 (ne_o (i := i) (c := 23) (d := 0) rfl)
                  have hfry1456 : ∀ j, j ≠ (ho).toNat → ry810 j = ai1 j := fun j n0 => (congrFun hvy811 _).trans ((uZ_n _ _ n0).trans (rfl))
                  have hwy1457 : ry810 ((ho).toNat) = vy799 := (congrFun hvy811 _).trans (uZ_s _ _ _)
                  have hfry1458 : ∀ j, j ≠ (ho).toNat → ry820 j = fa1 j := fun j n0 => (congrFun hvy821 _).trans ((uZ_n _ _ n0).trans (rfl))
                  have hwy1459 : ry820 ((ho).toNat) = 0 := (congrFun hvy821 _).trans (uZ_s _ _ _)
                  have hfry1460 : ∀ j, j ≠ (ho).toNat → ry831 j = mu1 j := fun j n0 => (congrFun hvy832 _).trans ((uZ_n _ _ n0).trans (rfl))
                  have hwy1461 : ry831 ((ho).toNat) = 0 := (congrFun hvy832 _).trans (uZ_s _ _ _)
                  have hxty1462 : xTx cs gy1394 i (uZ Fvy799 48 (ho + 1)) _ := ⟨_, _, _, _, _, _, _, _, ⟨hgy1421, hgy1428, hgy1435, hgy1438, hgy1440, hgy1441, hgy1448, hgy1455⟩, ⟨⟨by omega, by omega, by omega⟩, hop1, hmn1, haky1406, haky1409, htb1, hlay1414⟩, rT.hour hrT ((ho).toNat) (by show ho = _; omega) ⟨by show (uZ Fvy799 48 (ho + 1)) 47 = sl; omega, by show (uZ Fvy799 48 (ho + 1)) 48 = ho + 1; omega, by show (uZ Fvy799 48 (ho + 1)) 49 = nm; omega⟩ hfry1456 (by omega) hfry1458 (by omega) hfry1460 (by omega)⟩
                  exact z_vret C hr hlk dX10_hour1_207 (by decide) (by decide) ⟨rfl, rfl, rfl, ⟨_, hgy1396, hFy1397, Or.inl ⟨_, by simp only [cl_hour, cl_hour2, if_neg hscy17, if_neg h4, hnvy799, if_pos hfa0]; rfl, by omega, by omega, by show f < (tk_nx T n (tk_nx T n f)); omega, htky1398, hxty1462⟩⟩, fun j j1 j2 => by rw [egy1395, va_up_ne _ _ (by omega)]; rw [egy829, va_up_ne _ _ (by omega)]; rw [egy818, va_up_ne _ _ (by omega)]; rw [egy808, va_up_ne _ _ (by omega)]; rw [hfvy799 _ (by omega)]; rw [hfvy41 _ (by omega)]; rw [hfvy39 _ (by omega)]⟩
          · obtain ⟨rfl, cvy799, hrvy799, hnvy799, hevy799, hbvy799, hkvy799⟩ := hqvy799
            clear h24vy799
            have hsry1463 := srt_b T n (tk_nx T n f)
            have hvly1464 := vlu_b hTb (tk_nx T n f)
            have hwby1465 := tk_w_b T n (tk_nx T n f)
            have hfny1466 := hkvy799.1
            refine z_istore_n (lv' := [(2, .int (zI (0))), (0, .ref (ad i)), (1, .int (zI (0)))]) C dX10_hour1_75 rfl (by decide) rfl ?_
            refine z_aload_n C 1 dX10_hour1_76 rfl ?_
            refine z_get (v := .int (zI (cvy799))) C (lt_A0 hN rfl) hay1 hcvy799 rfl inA_X10 38 (by decide) q_1497 rfl (fv (F := Fvy799) (f := 38) hevy799) dX10_hour1_77 ?_
            refine z_if_eq (tgt := 84) C dX10_hour1_80 (by decide) (by omega) (fun h => absurd h (by omega)) (fun _ => ?_)
            have hFy1467 : ∀ f, f ≠ 24 → f ≠ 32 → f ≠ 33 → f ≠ 35 → f ≠ 36 → f ≠ 37 → f ≠ 38 → f ≠ 47 → f ≠ 48 → f ≠ 49 → Fvy799 f = F f := fun f n24 n32 n33 n35 n36 n37 n38 n47 n48 n49 => ((hFvy799 f n24 n32 n33 n35 n36 n37 n38).trans ((hFvy41 f n32 n33 n35 n36 n37).trans (hFvy39 f n24 n38)))
            have htky1468 : tkR T n Fvy799 (tk_nx T n f) := hkvy799
            have htoy1469 := tk_to_w (T := T) (n := n) (f := (tk_nx T n f)) htky1468.1.1
            have h32y1470 := htky1468.2.1
            have hey1471 : Fvy799 24 = ((tk_nx T n f) : Int) := hbvy799
            have hey1472 : Fvy799 38 = cvy799 := hevy799
            have hey1473 : Fvy799 47 = sl := ((hFvy799 47 (by decide) (by decide) (by decide) (by decide) (by decide) (by decide) (by decide)).trans ((hFvy41 47 (by decide) (by decide) (by decide) (by decide) (by decide)).trans ((hFvy39 47 (by decide) (by decide)).trans r47)))
            have hey1474 : Fvy799 48 = ho := ((hFvy799 48 (by decide) (by decide) (by decide) (by decide) (by decide) (by decide) (by decide)).trans ((hFvy41 48 (by decide) (by decide) (by decide) (by decide) (by decide)).trans ((hFvy39 48 (by decide) (by decide)).trans r48)))
            have hey1475 : Fvy799 49 = nm := ((hFvy799 49 (by decide) (by decide) (by decide) (by decide) (by decide) (by decide) (by decide)).trans ((hFvy41 49 (by decide) (by decide) (by decide) (by decide) (by decide)).trans ((hFvy39 49 (by decide) (by decide)).trans r49)))
            have hlay1477 : ∀ s l : Nat, (s : Int) < Fvy799 47 → (l : Int) < mn1 s → lyT ly1 (84 * s + 7 * l) := by
              intro s l a1 a2
              have hm9 := hmn1 s (by omega)
              exact hly1 s l (by omega) a2
            have hgy1478 := (hfvy39 (i + 16) (ne_o (i := i) (c := 16) (d := 0) rfl)).trans ha16
            have hgy1479 := (hfvy41 (i + 16) (ne_o (i := i) (c := 16) (d := 0) rfl)).trans hgy1478
            have hgy1480 := (hfvy799 (i + 16) (ne_o (i := i) (c := 16) (d := 0) rfl)).trans hgy1479
            have hgy1481 := (hfvy39 (i + 17) (ne_o (i := i) (c := 17) (d := 0) rfl)).trans ha17
            have hgy1482 := (hfvy41 (i + 17) (ne_o (i := i) (c := 17) (d := 0) rfl)).trans hgy1481
            have hgy1483 := (hfvy799 (i + 17) (ne_o (i := i) (c := 17) (d := 0) rfl)).trans hgy1482
            have hgy1484 := (hfvy39 (i + 18) (ne_o (i := i) (c := 18) (d := 0) rfl)).trans ha18
            have hgy1485 := (hfvy41 (i + 18) (ne_o (i := i) (c := 18) (d := 0) rfl)).trans hgy1484
            have hgy1486 := (hfvy799 (i + 18) (ne_o (i := i) (c := 18) (d := 0) rfl)).trans hgy1485
            have hgy1487 := (hfvy39 (i + 19) (ne_o (i := i) (c := 19) (d := 0) rfl)).trans ha19
            have hgy1488 := (hfvy41 (i + 19) (ne_o (i := i) (c := 19) (d := 0) rfl)).trans hgy1487
            have hgy1489 := (hfvy799 (i + 19) (ne_o (i := i) (c := 19) (d := 0) rfl)).trans hgy1488
            have hgy1490 := (hfvy39 (i + 20) (ne_o (i := i) (c := 20) (d := 0) rfl)).trans ha20
            have hgy1491 := (hfvy41 (i + 20) (ne_o (i := i) (c := 20) (d := 0) rfl)).trans hgy1490
            have hgy1492 := (hfvy799 (i + 20) (ne_o (i := i) (c := 20) (d := 0) rfl)).trans hgy1491
            have hgy1493 := (hfvy39 (i + 21) (ne_o (i := i) (c := 21) (d := 0) rfl)).trans ha21
            have hgy1494 := (hfvy41 (i + 21) (ne_o (i := i) (c := 21) (d := 0) rfl)).trans hgy1493
            have hgy1495 := (hfvy799 (i + 21) (ne_o (i := i) (c := 21) (d := 0) rfl)).trans hgy1494
            have hgy1496 := (hfvy39 (i + 22) (ne_o (i := i) (c := 22) (d := 0) rfl)).trans ha22
            have hgy1497 := (hfvy41 (i + 22) (ne_o (i := i) (c := 22) (d := 0) rfl)).trans hgy1496
            have hgy1498 := (hfvy799 (i + 22) (ne_o (i := i) (c := 22) (d := 0) rfl)).trans hgy1497
            have hgy1499 := (hfvy39 (i + 23) (ne_o (i := i) (c := 23) (d := 0) rfl)).trans ha23
            have hgy1500 := (hfvy41 (i + 23) (ne_o (i := i) (c := 23) (d := 0) rfl)).trans hgy1499
            have hgy1501 := (hfvy799 (i + 23) (ne_o (i := i) (c := 23) (d := 0) rfl)).trans hgy1500
            have htxy1502 : okTx cs gvy799 i Fvy799 := ⟨_, _, _, _, _, _, _, _, ⟨hgy1480, hgy1483, hgy1486, hgy1489, hgy1492, hgy1495, hgy1498, hgy1501⟩, ⟨⟨by omega, by omega, by omega⟩, hop1, hmn1, hai1, hfa1, htb1, hlay1477⟩⟩
            exact z_vret C hr hlk dX10_hour1_83 (by decide) (by decide) ⟨rfl, rfl, rfl, ⟨_, hcvy799, hFy1467, Or.inr ⟨(cvy799, (tk_nx T n f)), by simp only [cl_hour, cl_hour2, if_neg hscy17, if_neg h4, hnvy799], by show Fvy799 38 = cvy799; omega, by show Fvy799 24 = (((tk_nx T n f) : Nat) : Int); omega, by show 1 ≤ cvy799 ∧ cvy799 ≤ 5; omega, ⟨_, htky1468⟩, htxy1502⟩⟩, fun j j1 j2 => by rw [hfvy799 _ (by omega)]; rw [hfvy41 _ (by omega)]; rw [hfvy39 _ (by omega)]⟩
      refine z_aload_n C 0 dX10_hour1_27 rfl ?_
      refine z_get (v := .int (zI (srt (tk_so T n (tk_nx T n f))))) C (lt_A0 hN rfl) hay1 hcvy41 rfl inA_X10 35 (by decide) q_1494 rfl (fv (F := Fvy41) (f := 35) hkvy41.2.2.2.2.1) dX10_hour1_28 ?_
      refine z_iconst (z := 3) C dX10_hour1_31 rfl ?_
      refine z_icmp_ne (tgt := 48) C dX10_hour1_32 (by decide) (by omega) (by omega) (fun hby1503 => ?_) (fun hby1503 => ?_)
      · refine z_iconst (z := 0) C dX10_hour1_48 rfl ?_
        refine z_istore_n (lv' := [(1, .int (zI (0))), (0, .ref (ad i))]) C dX10_hour1_49 rfl (by decide) rfl ?_
        refine z_lv (lv' := [(0, .ref (ad i)), (1, .int (zI (0)))]) [1, 0] rfl ?_
        exact seg _ _ rfl rfl
      · refine z_aload_n C 0 dX10_hour1_35 rfl ?_
        refine z_get (v := .int (zI (vlu T n (tk_nx T n f)))) C (lt_A0 hN rfl) hay1 hcvy41 rfl inA_X10 36 (by decide) q_1495 rfl (fv (F := Fvy41) (f := 36) hkvy41.2.2.2.2.2.1) dX10_hour1_36 ?_
        refine z_bipush (z := 45) C dX10_hour1_39 (by decide) ?_
        refine z_icmp_ne (tgt := 48) C dX10_hour1_41 (by decide) (by omega) (by omega) (fun hby1504 => ?_) (fun hby1504 => ?_)
        · refine z_iconst (z := 0) C dX10_hour1_48 rfl ?_
          refine z_istore_n (lv' := [(1, .int (zI (0))), (0, .ref (ad i))]) C dX10_hour1_49 rfl (by decide) rfl ?_
          refine z_lv (lv' := [(0, .ref (ad i)), (1, .int (zI (0)))]) [1, 0] rfl ?_
          exact seg _ _ rfl rfl
        · refine z_iconst (z := 1) C dX10_hour1_44 rfl ?_
          refine z_goto (tgt := 49) C dX10_hour1_45 (by decide) ?_
          refine z_istore_n (lv' := [(1, .int (zI (1))), (0, .ref (ad i))]) C dX10_hour1_49 rfl (by decide) rfl ?_
          exact absurd ((vlu3 (T := T) (n := n) (f := (tk_nx T n f)) (by omega) 45 4 (by omega)).mp (by omega)) h4
end
section
-- 86nm.dec.lean.txt
-- decode rows of ytable
theorem dX10_table1_0 : decode cX10_table1 0 = .ok (.aload_n 0, 1) := by decide +kernel
theorem dX10_table1_1 : decode cX10_table1 1 = .ok (.getfield 257, 3) := by decide +kernel
theorem dX10_table1_4 : decode cX10_table1 4 = .ok (.bipush 6, 2) := by decide +kernel
theorem dX10_table1_6 : decode cX10_table1 6 = .ok (.isub, 1) := by decide +kernel
theorem dX10_table1_7 : decode cX10_table1 7 = .ok (.istore_n 1, 1) := by decide +kernel
theorem dX10_table1_8 : decode cX10_table1 8 = .ok (.aload_n 0, 1) := by decide +kernel
theorem dX10_table1_9 : decode cX10_table1 9 = .ok (.invokevirtual 285, 3) := by decide +kernel
theorem dX10_table1_12 : decode cX10_table1 12 = .ok (.aload_n 0, 1) := by decide +kernel
theorem dX10_table1_13 : decode cX10_table1 13 = .ok (.aload_n 0, 1) := by decide +kernel
theorem dX10_table1_14 : decode cX10_table1 14 = .ok (.invokevirtual 294, 3) := by decide +kernel
theorem dX10_table1_17 : decode cX10_table1 17 = .ok (.iconst 1, 1) := by decide +kernel
theorem dX10_table1_18 : decode cX10_table1 18 = .ok (.invokevirtual 277, 3) := by decide +kernel
theorem dX10_table1_21 : decode cX10_table1 21 = .ok (.ifCond .ne 4, 3) := by decide +kernel
theorem dX10_table1_25 : decode cX10_table1 25 = .ok (.iconst 5, 1) := by decide +kernel
theorem dX10_table1_26 : decode cX10_table1 26 = .ok (.iload_n 1, 1) := by decide +kernel
theorem dX10_table1_27 : decode cX10_table1 27 = .ok (.imul, 1) := by decide +kernel
theorem dX10_table1_28 : decode cX10_table1 28 = .ok (.aload_n 0, 1) := by decide +kernel
theorem dX10_table1_29 : decode cX10_table1 29 = .ok (.invokevirtual 298, 3) := by decide +kernel
theorem dX10_table1_32 : decode cX10_table1 32 = .ok (.iadd, 1) := by decide +kernel
theorem dX10_table1_33 : decode cX10_table1 33 = .ok (.istore_n 2, 1) := by decide +kernel
theorem dX10_table1_34 : decode cX10_table1 34 = .ok (.aload_n 0, 1) := by decide +kernel
theorem dX10_table1_35 : decode cX10_table1 35 = .ok (.aload_n 0, 1) := by decide +kernel
theorem dX10_table1_36 : decode cX10_table1 36 = .ok (.getfield 83, 3) := by decide +kernel
theorem dX10_table1_39 : decode cX10_table1 39 = .ok (.iload_n 2, 1) := by decide +kernel
theorem dX10_table1_40 : decode cX10_table1 40 = .ok (.iaload, 1) := by decide +kernel
theorem dX10_table1_41 : decode cX10_table1 41 = .ok (.iconst (-1), 1) := by decide +kernel
theorem dX10_table1_42 : decode cX10_table1 42 = .ok (.if_icmp .ne 7, 3) := by decide +kernel
theorem dX10_table1_49 : decode cX10_table1 49 = .ok (.iconst 0, 1) := by decide +kernel
theorem dX10_table1_50 : decode cX10_table1 50 = .ok (.iconst 4, 1) := by decide +kernel
theorem dX10_table1_51 : decode cX10_table1 51 = .ok (.invokevirtual 277, 3) := by decide +kernel
theorem dX10_table1_54 : decode cX10_table1 54 = .ok (.ifCond .ne 4, 3) := by decide +kernel
theorem dX10_table1_57 : decode cX10_table1 57 = .ok (.return_, 1) := by decide +kernel
theorem dX10_table1_45 : decode cX10_table1 45 = .ok (.iconst 1, 1) := by decide +kernel
theorem dX10_table1_46 : decode cX10_table1 46 = .ok (.goto 4, 3) := by decide +kernel
theorem dX10_table1_58 : decode cX10_table1 58 = .ok (.aload_n 0, 1) := by decide +kernel
theorem dX10_table1_59 : decode cX10_table1 59 = .ok (.invokevirtual 285, 3) := by decide +kernel
theorem dX10_table1_62 : decode cX10_table1 62 = .ok (.aload_n 0, 1) := by decide +kernel
theorem dX10_table1_63 : decode cX10_table1 63 = .ok (.getfield 83, 3) := by decide +kernel
theorem dX10_table1_66 : decode cX10_table1 66 = .ok (.iload_n 2, 1) := by decide +kernel
theorem dX10_table1_67 : decode cX10_table1 67 = .ok (.aload_n 0, 1) := by decide +kernel
theorem dX10_table1_68 : decode cX10_table1 68 = .ok (.iload_n 1, 1) := by decide +kernel
theorem dX10_table1_69 : decode cX10_table1 69 = .ok (.iconst 2, 1) := by decide +kernel
theorem dX10_table1_70 : decode cX10_table1 70 = .ok (.if_icmp .ne 7, 3) := by decide +kernel
theorem dX10_table1_77 : decode cX10_table1 77 = .ok (.iconst 0, 1) := by decide +kernel
theorem dX10_table1_78 : decode cX10_table1 78 = .ok (.iload_n 1, 1) := by decide +kernel
theorem dX10_table1_79 : decode cX10_table1 79 = .ok (.iconst 2, 1) := by decide +kernel
theorem dX10_table1_80 : decode cX10_table1 80 = .ok (.if_icmp .ne 9, 3) := by decide +kernel
theorem dX10_table1_89 : decode cX10_table1 89 = .ok (.bipush 99, 2) := by decide +kernel
theorem dX10_table1_91 : decode cX10_table1 91 = .ok (.invokevirtual 291, 3) := by decide +kernel
theorem dX10_table1_94 : decode cX10_table1 94 = .ok (.iastore, 1) := by decide +kernel
theorem dX10_table1_95 : decode cX10_table1 95 = .ok (.return_, 1) := by decide +kernel
theorem dX10_table1_24 : decode cX10_table1 24 = .ok (.return_, 1) := by decide +kernel
theorem dX10_table1_73 : decode cX10_table1 73 = .ok (.iconst 1, 1) := by decide +kernel
theorem dX10_table1_74 : decode cX10_table1 74 = .ok (.goto 4, 3) := by decide +kernel
theorem dX10_table1_83 : decode cX10_table1 83 = .ok (.sipush 9999, 3) := by decide +kernel
theorem dX10_table1_86 : decode cX10_table1 86 = .ok (.goto 5, 3) := by decide +kernel
end
