section
-- 86nn.ytable.lean.txt
set_option maxRecDepth 100000 in
set_option maxHeartbeats 4000000 in
theorem c_yTable0 (l : Launch) (D : va_G) (A : Nat → Prop) (cs : Nat → ClassId) (tt : Nat) (N : Nat) (ad : Nat → Nat) (g : Nat → va_E) (i : Nat) (hN : i + 30 ≤ N) (F : Nat → Int) (hg : g i = mC ad i F) (tp : Nat → Int) (ha13 : g (i + 13) = iA cs 900 tp) (T : Nat → Int) (n : Nat) (hn : n ≤ 900) (hTb : ∀ k, k < n → 0 ≤ T k ∧ T k ≤ 255) (hTt : ∀ k, k < n → tp k = T k) (htp : ∀ k, k < 900 → 0 ≤ tp k ∧ tp k ≤ 255) (f : Nat) (hk : tkR T n F f) (h38 : F 38 = 0) (hfl : f < n) (sl ho nm : Int) (mn st op ai fa mu tb B : Nat → Int) (Lz : Nat → Nat → Int) (hX : xTx cs g i F (sl, ho, nm, mn, st, op, ai, fa, mu, tb, B, Lz)) (hwd : tk_w T n f = 6) : zM l yX10_table1 cX10_table1 3 none ({ frames := 5, cells := 0, slots := 0, locals := 300 } : Room) D A cs tt N ad g [.ref (ad i)] (rV0 N ad fun g' => (∃ F' : Nat → Int, g' i = mC ad i F' ∧ (∀ f, f ≠ 24 → f ≠ 32 → f ≠ 33 → f ≠ 35 → f ≠ 36 → f ≠ 37 → f ≠ 38 → f ≠ 47 → f ≠ 48 → f ≠ 49 → F' f = F f) ∧ ((∃ v, cl_table T n B 0 0 99 f = .ok v ∧ F' 38 = 0 ∧ F' 24 = F 24 ∧ f < v.2 ∧ tkR T n F' v.2 ∧ xTx cs g' i F' (sl, ho, nm, mn, st, op, ai, fa, mu, uZ tb v.1.1.toNat v.1.2, uZ B v.1.1.toNat 1, Lz)) ∨ (∃ e : Int × Nat, cl_table T n B 0 0 99 f = .error e ∧ F' 38 = e.1 ∧ F' 24 = (e.2 : Int) ∧ (1 ≤ e.1 ∧ e.1 ≤ 5) ∧ (∃ f9, tkR T n F' f9) ∧ okTx cs g' i F'))) ∧ ∀ j, j ≠ i → j < i + 16 ∨ i + 23 < j → g' j = g j) := by
  have hay1 : zAt ad (i) (ad i) := rfl
  have hay2 : zAt ad (i + 13) (ad (i + 13)) := rfl
  have hsry3 := srt_b T n f
  have hvly4 := vlu_b hTb f
  have hwby5 := tk_w_b T n f
  have hfny6 := hk.1
  obtain ⟨st1, op1, mn1, ai1, fa1, mu1, tb1, ly1, ⟨ha16, ha17, ha18, ha19, ha20, ha21, ha22, ha23⟩, ⟨⟨t47, t48, t49⟩, hop1, hmn1, hai1, hfa1, htb1, hly1⟩, hrT⟩ := hX
  have r47 : F 47 = sl := hrT.1.1
  have r48 : F 48 = ho := hrT.1.2.1
  have r49 : F 49 = nm := hrT.1.2.2
  have r32 : F 32 = ((tk_to T n f : Nat) : Int) := hk.2.1
  have hto0 := tk_to_nx (T := T) (n := n) (f := f) hk.1.1
  have rsl : ∀ k : Nat, (k : Int) < sl → mn1 k = mn k := fun k h9 => (hrT.2.1 k h9).2.2
  have rtb : ∀ k : Nat, k < 15 → (tb1 k = -1 ∧ B k = 0) ∨ (0 ≤ tb1 k ∧ B k = 1) := fun k h9 => by
    rcases hrT.2.2.2.1 k h9 with ⟨a9, b9, c9⟩ | ⟨a9, b9, c9⟩
    · exact Or.inl ⟨a9, b9⟩
    · exact Or.inr ⟨a9, b9⟩
  have rs4 : 0 ≤ sl ∧ sl ≤ 4 := by omega
  have rh4 : 0 ≤ ho ∧ ho ≤ 24 := by omega
  have hay7 : zAt ad (i + 16) (ad (i + 16)) := rfl
  have hay8 : zAt ad (i + 17) (ad (i + 17)) := rfl
  have hay9 : zAt ad (i + 18) (ad (i + 18)) := rfl
  have hay10 : zAt ad (i + 19) (ad (i + 19)) := rfl
  have hay11 : zAt ad (i + 20) (ad (i + 20)) := rfl
  have hay12 : zAt ad (i + 21) (ad (i + 21)) := rfl
  have hay13 : zAt ad (i + 22) (ad (i + 22)) := rfl
  have hay14 : zAt ad (i + 23) (ad (i + 23)) := rfl
  have htbr : ∀ k, k < 15 → -1 ≤ tb1 k ∧ tb1 k ≤ 9999 := fun k hk => by have h9 := htb1 k hk; omega
  have hw37 : F 37 = 6 := hk.2.2.2.2.2.2.1.trans hwd
  refine z_of (by decide) (Nat.le_of_ble_eq_true rfl) ?_
  intro pZ eZ sZ mZ below meth cZ C hr hlk hnm
  refine z_lv (lv' := [(0, .ref (ad i))]) [0] rfl ?_
  refine z_aload_n C 0 dX10_table1_0 rfl ?_
  refine z_get (v := .int (zI (6))) C (lt_A0 hN rfl) hay1 hg rfl inA_X10 37 (by decide) q_1496 rfl (fv (F := F) (f := 37) hw37) dX10_table1_1 ?_
  refine z_bipush (z := 6) C dX10_table1_4 (by decide) ?_
  refine z_isub C dX10_table1_6 ?_
  refine z_istore_n (lv' := [(1, .int (zI (6 - 6))), (0, .ref (ad i))]) C dX10_table1_7 rfl (by decide) rfl ?_
  refine z_aload_n C 1 dX10_table1_8 rfl ?_
  have htvy15 : tkR T n F f := hk
  refine z_cV (As := []) (rest := []) (ci := 12) C (c_yGo l D A cs tt N ad _ i hN _ hg _ ha13 T n hn hTb hTt htp (tk_to T n f) (tk_to_b htvy15.1.1).2.1 htvy15.2.1 htvy15.2.2.2.1 htvy15.2.2.2.2.2.2.2) (lt_A0 hN rfl) hay1 hg rfl rfl mv_yX10_go q_1652 hd_yX10_go (by decide) (Nat.le_of_ble_eq_true rfl) (by decide) dX10_table1_9 rfl (kV0 fun gvy15 hvy15 => ?_)
  obtain ⟨⟨Fvy15, hcvy15, hjvy15, hFvy15⟩, hfvy15⟩ := hvy15
  have hkvy15 : tkR T n Fvy15 (tk_nx T n f) := hjvy15
  have hnbvy15 := tk_nx_s (T := T) (n := n) (f := f) hfl
  clear hjvy15
  have hsry16 := srt_b T n (tk_nx T n f)
  have hvly17 := vlu_b hTb (tk_nx T n f)
  have hwby18 := tk_w_b T n (tk_nx T n f)
  have hfny19 := hkvy15.1
  refine z_aload_n C 1 dX10_table1_12 rfl ?_
  refine z_aload_n C 1 dX10_table1_13 rfl ?_
  have hgy21 := (hfvy15 (i + 13) (ne_o (i := i) (c := 13) (d := 0) rfl)).trans ha13
  refine z_cV (As := []) (rest := [.ref (ad i)]) (ci := 12) C (c_yIsKind l D A cs tt N ad _ i hN _ hcvy15 tp T n hn hTb hTt htp (tk_nx T n f) hkvy15) (lt_A0 hN rfl) hay1 hcvy15 rfl rfl mv_yX10_isKind q_1693 hd_yX10_isKind (by decide) (Nat.le_of_ble_eq_true rfl) (by decide) dX10_table1_14 rfl (kI0 fun vy20 gvy20 hvy20 => ?_)
  obtain ⟨hvy20, rfl⟩ := hvy20
  rcases hvy20 with ⟨rfl, hxvy20⟩ | ⟨rfl, hxvy20⟩
  · refine z_iconst (z := 1) C dX10_table1_17 rfl ?_
    have h33vy22 : Fvy15 33 = ((tk_nx T n f) : Int) := hkvy15.2.2.1
    have h24vy22 : Fvy15 24 = F 24 := (hFvy15 24 (by decide) (by decide) (by decide) (by decide) (by decide))
    have htvy22 : tkR T n Fvy15 (tk_nx T n f) := hkvy15
    refine z_cV (As := [.int (zI (1)), .int (zI (1))]) (rest := []) (ci := 12) C (c_yWants l D A cs tt N ad _ i hN _ hcvy15 ((hFvy15 38 (by decide) (by decide) (by decide) (by decide) (by decide)).trans h38) (1) (by omega) (1) (by omega)) (lt_A0 hN rfl) hay1 hcvy15 rfl rfl mv_yX10_wants q_1678 hd_yX10_wants (by decide) (Nat.le_of_ble_eq_true rfl) (by decide) dX10_table1_18 rfl (kI0 fun vy22 gvy22 hvy22 => ?_)
    obtain ⟨⟨Fvy22, hcvy22, hqvy22, hFvy22⟩, hfvy22⟩ := hvy22
    obtain ⟨rfl, hevy22, hbvy22⟩ : vy22 = 1 ∧ Fvy22 38 = 0 ∧ Fvy22 24 = F 24 := by omega
    clear hqvy22 h33vy22 h24vy22
    have hkvy22 : tkR T n Fvy22 (tk_nx T n f) := tkR.w htvy22 hFvy22 (by omega)
    refine z_if_ne (tgt := 25) C dX10_table1_21 (by decide) (by omega) (fun _ => ?_) (fun h => absurd h (by omega))
    refine z_iconst (z := 5) C dX10_table1_25 rfl ?_
    refine z_iload_n C 0 dX10_table1_26 rfl ?_
    refine z_imul C dX10_table1_27 ?_
    refine z_aload_n C 1 dX10_table1_28 rfl ?_
    have hgy24 := (hfvy22 (i + 13) (ne_o (i := i) (c := 13) (d := 0) rfl)).trans hgy21
    refine z_cV (As := []) (rest := [.int (zI (5 * (6 - 6)))]) (ci := 12) C (c_yKindHere l D A cs tt N ad _ i hN _ hcvy22 tp T n hn hTb hTt htp (tk_nx T n f) hkvy22 hxvy20) (lt_A0 hN rfl) hay1 hcvy22 rfl rfl mv_yX10_kindHere q_1697 hd_yX10_kindHere (by decide) (Nat.le_of_ble_eq_true rfl) (by decide) dX10_table1_29 rfl (kI0 fun vy23 gvy23 hvy23 => ?_)
    obtain ⟨rfl, rfl⟩ := hvy23
    have hkbvy23 : 0 ≤ tk_kd T n (tk_nx T n f) ∧ tk_kd T n (tk_nx T n f) ≤ 4 := by have hkc := tk_kd_c T n (tk_nx T n f); omega
    refine z_iadd C dX10_table1_32 ?_
    obtain ⟨kty25, hkty25⟩ : ∃ n9 : Nat, (5 * (6 - 6)) + (tk_kd T n (tk_nx T n f)) = (n9 : Int) := ⟨((5 * (6 - 6)) + (tk_kd T n (tk_nx T n f))).toNat, by omega⟩
    rw [hkty25]
    refine z_istore_n (lv' := [(2, .int (zI ((kty25 : Int)))), (1, .int (zI (6 - 6))), (0, .ref (ad i))]) C dX10_table1_33 rfl (by decide) rfl ?_
    refine z_aload_n C 2 dX10_table1_34 rfl ?_
    refine z_aload_n C 2 dX10_table1_35 rfl ?_
    refine z_get (v := .ref (ad (i + 22))) C (lt_A0 hN rfl) hay1 hcvy22 rfl inA_X10 45 (by decide) q_1504 rfl rfl dX10_table1_36 ?_
    refine z_iload_n C 0 dX10_table1_39 rfl ?_
    have hgy26 := (hfvy15 (i + 22) (ne_o (i := i) (c := 22) (d := 0) rfl)).trans ha22
    have hgy27 := (hfvy22 (i + 22) (ne_o (i := i) (c := 22) (d := 0) rfl)).trans hgy26
    refine z_iald C (lt_A (c := 22) hN rfl) hay13 hgy27 (kty25) (by omega) (by omega) (by decide) dX10_table1_40 ?_
    have hrfy28 := htbr (kty25) (by omega)
    refine z_iconst (z := -1) C dX10_table1_41 rfl ?_
    refine z_icmp_ne (tgt := 49) C dX10_table1_42 (by decide) (by omega) (by omega) (fun hby29 => ?_) (fun hby29 => ?_)
    · have hscy30 : (B (0 + tk_kd T n (tk_nx T n f)).toNat = 1) := by rw [show (0 + tk_kd T n (tk_nx T n f)).toNat = kty25 by omega]; have h9 := rtb kty25 (by omega); omega
      refine z_iconst (z := 0) C dX10_table1_49 rfl ?_
      refine z_iconst (z := 4) C dX10_table1_50 rfl ?_
      have h33vy32 : Fvy22 33 = ((tk_nx T n f) : Int) := ((hFvy22 33 (by decide) (by decide)).trans hkvy15.2.2.1)
      have h24vy32 : Fvy22 24 = F 24 := hbvy22
      have htvy32 : tkR T n Fvy22 (tk_nx T n f) := hkvy22
      refine z_cV (As := [.int (zI (0)), .int (zI (4))]) (rest := []) (ci := 12) C (c_yWants l D A cs tt N ad _ i hN _ hcvy22 hevy22 (0) (by omega) (4) (by omega)) (lt_A0 hN rfl) hay1 hcvy22 rfl rfl mv_yX10_wants q_1678 hd_yX10_wants (by decide) (Nat.le_of_ble_eq_true rfl) (by decide) dX10_table1_51 rfl (kI0 fun vy32 gvy32 hvy32 => ?_)
      obtain ⟨⟨Fvy32, hcvy32, hqvy32, hFvy32⟩, hfvy32⟩ := hvy32
      obtain ⟨rfl, hevy32, hbvy32⟩ : vy32 = 0 ∧ Fvy32 38 = 4 ∧ Fvy32 24 = ((tk_nx T n f) : Int) := by omega
      clear hqvy32 h33vy32 h24vy32
      have hkvy32 : tkR T n Fvy32 (tk_nx T n f) := tkR.w htvy32 hFvy32 (by omega)
      refine z_if_ne (tgt := 58) C dX10_table1_54 (by decide) (by omega) (fun h => absurd h (by omega)) (fun _ => ?_)
      have hFy33 : ∀ f, f ≠ 24 → f ≠ 32 → f ≠ 33 → f ≠ 35 → f ≠ 36 → f ≠ 37 → f ≠ 38 → f ≠ 47 → f ≠ 48 → f ≠ 49 → Fvy32 f = F f := fun f n24 n32 n33 n35 n36 n37 n38 n47 n48 n49 => ((hFvy32 f n24 n38).trans ((hFvy22 f n24 n38).trans (hFvy15 f n32 n33 n35 n36 n37)))
      have htky34 : tkR T n Fvy32 (tk_nx T n f) := hkvy32
      have htoy35 := tk_to_w (T := T) (n := n) (f := (tk_nx T n f)) htky34.1.1
      have h32y36 := htky34.2.1
      have hey37 : Fvy32 24 = ((tk_nx T n f) : Int) := hbvy32
      have hey38 : Fvy32 38 = 4 := hevy32
      have hey39 : Fvy32 47 = sl := ((hFvy32 47 (by decide) (by decide)).trans ((hFvy22 47 (by decide) (by decide)).trans ((hFvy15 47 (by decide) (by decide) (by decide) (by decide) (by decide)).trans r47)))
      have hey40 : Fvy32 48 = ho := ((hFvy32 48 (by decide) (by decide)).trans ((hFvy22 48 (by decide) (by decide)).trans ((hFvy15 48 (by decide) (by decide) (by decide) (by decide) (by decide)).trans r48)))
      have hey41 : Fvy32 49 = nm := ((hFvy32 49 (by decide) (by decide)).trans ((hFvy22 49 (by decide) (by decide)).trans ((hFvy15 49 (by decide) (by decide) (by decide) (by decide) (by decide)).trans r49)))
      have hlay43 : ∀ s l : Nat, (s : Int) < Fvy32 47 → (l : Int) < mn1 s → lyT ly1 (84 * s + 7 * l) := by
        intro s l a1 a2
        have hm9 := hmn1 s (by omega)
        exact hly1 s l (by omega) a2
      have hgy44 := (hfvy15 (i + 16) (ne_o (i := i) (c := 16) (d := 0) rfl)).trans ha16
      have hgy45 := (hfvy22 (i + 16) (ne_o (i := i) (c := 16) (d := 0) rfl)).trans hgy44
      have hgy46 := (hfvy32 (i + 16) (ne_o (i := i) (c := 16) (d := 0) rfl)).trans hgy45
      have hgy47 := (hfvy15 (i + 17) (ne_o (i := i) (c := 17) (d := 0) rfl)).trans ha17
      have hgy48 := (hfvy22 (i + 17) (ne_o (i := i) (c := 17) (d := 0) rfl)).trans hgy47
      have hgy49 := (hfvy32 (i + 17) (ne_o (i := i) (c := 17) (d := 0) rfl)).trans hgy48
      have hgy50 := (hfvy15 (i + 18) (ne_o (i := i) (c := 18) (d := 0) rfl)).trans ha18
      have hgy51 := (hfvy22 (i + 18) (ne_o (i := i) (c := 18) (d := 0) rfl)).trans hgy50
      have hgy52 := (hfvy32 (i + 18) (ne_o (i := i) (c := 18) (d := 0) rfl)).trans hgy51
      have hgy53 := (hfvy15 (i + 19) (ne_o (i := i) (c := 19) (d := 0) rfl)).trans ha19
      have hgy54 := (hfvy22 (i + 19) (ne_o (i := i) (c := 19) (d := 0) rfl)).trans hgy53
      have hgy55 := (hfvy32 (i + 19) (ne_o (i := i) (c := 19) (d := 0) rfl)).trans hgy54
      have hgy56 := (hfvy15 (i + 20) (ne_o (i := i) (c := 20) (d := 0) rfl)).trans ha20
      have hgy57 := (hfvy22 (i + 20) (ne_o (i := i) (c := 20) (d := 0) rfl)).trans hgy56
      have hgy58 := (hfvy32 (i + 20) (ne_o (i := i) (c := 20) (d := 0) rfl)).trans hgy57
      have hgy59 := (hfvy15 (i + 21) (ne_o (i := i) (c := 21) (d := 0) rfl)).trans ha21
      have hgy60 := (hfvy22 (i + 21) (ne_o (i := i) (c := 21) (d := 0) rfl)).trans hgy59
      have hgy61 := (hfvy32 (i + 21) (ne_o (i := i) (c := 21) (d := 0) rfl)).trans hgy60
      have hgy62 := (hfvy32 (i + 22) (ne_o (i := i) (c := 22) (d := 0) rfl)).trans hgy27
      have hgy63 := (hfvy15 (i + 23) (ne_o (i := i) (c := 23) (d := 0) rfl)).trans ha23
      have hgy64 := (hfvy22 (i + 23) (ne_o (i := i) (c := 23) (d := 0) rfl)).trans hgy63
      have hgy65 := (hfvy32 (i + 23) (ne_o (i := i) (c := 23) (d := 0) rfl)).trans hgy64
      have htxy66 : okTx cs gvy32 i Fvy32 := ⟨_, _, _, _, _, _, _, _, ⟨hgy46, hgy49, hgy52, hgy55, hgy58, hgy61, hgy62, hgy65⟩, ⟨⟨by omega, by omega, by omega⟩, hop1, hmn1, hai1, hfa1, htb1, hlay43⟩⟩
      exact z_vret C hr hlk dX10_table1_57 (by decide) (by decide) ⟨rfl, rfl, rfl, ⟨_, hcvy32, hFy33, Or.inr ⟨(4, (tk_nx T n f)), by simp only [cl_table, if_neg hxvy20, if_pos hscy30], by show Fvy32 38 = 4; omega, by show Fvy32 24 = (((tk_nx T n f) : Nat) : Int); omega, by show 1 ≤ 4 ∧ 4 ≤ 5; omega, ⟨_, htky34⟩, htxy66⟩⟩, fun j j1 j2 => by rw [hfvy32 _ (by omega)]; rw [hfvy22 _ (by omega)]; rw [hfvy15 _ (by omega)]⟩
    · have hscy31 : ¬ (B (0 + tk_kd T n (tk_nx T n f)).toNat = 1) := by rw [show (0 + tk_kd T n (tk_nx T n f)).toNat = kty25 by omega]; have h9 := rtb kty25 (by omega); omega
      refine z_iconst (z := 1) C dX10_table1_45 rfl ?_
      refine z_goto (tgt := 50) C dX10_table1_46 (by decide) ?_
      refine z_iconst (z := 4) C dX10_table1_50 rfl ?_
      have h33vy67 : Fvy22 33 = ((tk_nx T n f) : Int) := ((hFvy22 33 (by decide) (by decide)).trans hkvy15.2.2.1)
      have h24vy67 : Fvy22 24 = F 24 := hbvy22
      have htvy67 : tkR T n Fvy22 (tk_nx T n f) := hkvy22
      refine z_cV (As := [.int (zI (1)), .int (zI (4))]) (rest := []) (ci := 12) C (c_yWants l D A cs tt N ad _ i hN _ hcvy22 hevy22 (1) (by omega) (4) (by omega)) (lt_A0 hN rfl) hay1 hcvy22 rfl rfl mv_yX10_wants q_1678 hd_yX10_wants (by decide) (Nat.le_of_ble_eq_true rfl) (by decide) dX10_table1_51 rfl (kI0 fun vy67 gvy67 hvy67 => ?_)
      obtain ⟨⟨Fvy67, hcvy67, hqvy67, hFvy67⟩, hfvy67⟩ := hvy67
      obtain ⟨rfl, hevy67, hbvy67⟩ : vy67 = 1 ∧ Fvy67 38 = 0 ∧ Fvy67 24 = F 24 := by omega
      clear hqvy67 h33vy67 h24vy67
      have hkvy67 : tkR T n Fvy67 (tk_nx T n f) := tkR.w htvy67 hFvy67 (by omega)
      refine z_if_ne (tgt := 58) C dX10_table1_54 (by decide) (by omega) (fun _ => ?_) (fun h => absurd h (by omega))
      refine z_aload_n C 2 dX10_table1_58 rfl ?_
      have hgy68 := (hfvy67 (i + 13) (ne_o (i := i) (c := 13) (d := 0) rfl)).trans hgy24
      have htvy69 : tkR T n Fvy67 (tk_nx T n f) := hkvy67
      refine z_cV (As := []) (rest := []) (ci := 12) C (c_yGo l D A cs tt N ad _ i hN _ hcvy67 _ hgy68 T n hn hTb hTt htp (tk_to T n (tk_nx T n f)) (tk_to_b htvy69.1.1).2.1 htvy69.2.1 htvy69.2.2.2.1 htvy69.2.2.2.2.2.2.2) (lt_A0 hN rfl) hay1 hcvy67 rfl rfl mv_yX10_go q_1652 hd_yX10_go (by decide) (Nat.le_of_ble_eq_true rfl) (by decide) dX10_table1_59 rfl (kV0 fun gvy69 hvy69 => ?_)
      obtain ⟨⟨Fvy69, hcvy69, hjvy69, hFvy69⟩, hfvy69⟩ := hvy69
      have hkvy69 : tkR T n Fvy69 (tk_nx T n (tk_nx T n f)) := hjvy69
      have hnbvy69 := tk_nx_w (T := T) (n := n) (f := (tk_nx T n f)) htvy69.1.1
      clear hjvy69
      have hsry70 := srt_b T n (tk_nx T n (tk_nx T n f))
      have hvly71 := vlu_b hTb (tk_nx T n (tk_nx T n f))
      have hwby72 := tk_w_b T n (tk_nx T n (tk_nx T n f))
      have hfny73 := hkvy69.1
      refine z_aload_n C 2 dX10_table1_62 rfl ?_
      refine z_get (v := .ref (ad (i + 22))) C (lt_A0 hN rfl) hay1 hcvy69 rfl inA_X10 45 (by decide) q_1504 rfl rfl dX10_table1_63 ?_
      refine z_iload_n C 0 dX10_table1_66 rfl ?_
      refine z_aload_n C 2 dX10_table1_67 rfl ?_
      refine z_iload_n C 1 dX10_table1_68 rfl ?_
      refine z_iconst (z := 2) C dX10_table1_69 rfl ?_
      refine z_icmp_ne (tgt := 77) C dX10_table1_70 (by decide) (by omega) (by omega) (fun _ => ?_) (fun h => absurd h (by omega))
      refine z_iconst (z := 0) C dX10_table1_77 rfl ?_
      refine z_iload_n C 1 dX10_table1_78 rfl ?_
      refine z_iconst (z := 2) C dX10_table1_79 rfl ?_
      refine z_icmp_ne (tgt := 89) C dX10_table1_80 (by decide) (by omega) (by omega) (fun _ => ?_) (fun h => absurd h (by omega))
      refine z_bipush (z := 99) C dX10_table1_89 (by decide) ?_
      have hgy74 := (hfvy69 (i + 13) (ne_o (i := i) (c := 13) (d := 0) rfl)).trans hgy68
      have h24vy75 : Fvy69 24 = F 24 := ((hFvy69 24 (by decide) (by decide) (by decide) (by decide) (by decide)).trans hbvy67)
      refine z_cV (As := [.int (zI (0)), .int (zI (99))]) (rest := [.int (zI ((kty25 : Int))), .ref (ad (i + 22))]) (ci := 12) C (c_yNumber l D A cs tt N ad _ i hN _ hcvy69 _ hgy74 T n hn hTb hTt htp (tk_nx T n (tk_nx T n f)) hkvy69 ((hFvy69 38 (by decide) (by decide) (by decide) (by decide) (by decide)).trans hevy67) (0) (by omega) (99) (by omega)) (lt_A0 hN rfl) hay1 hcvy69 rfl rfl mv_yX10_number q_1682 hd_yX10_number (by decide) (Nat.le_of_ble_eq_true rfl) (by decide) dX10_table1_91 rfl (kI0 fun vy75 gvy75 hvy75 => ?_)
      obtain ⟨⟨Fvy75, hcvy75, hqvy75, hFvy75⟩, hfvy75⟩ := hvy75
      rcases hqvy75 with hqvy75 | hqvy75
      · obtain ⟨hnvy75, hrvy75, hltvy75, hevy75, hb0vy75, hkvy75⟩ := hqvy75
        have hbvy75 : Fvy75 24 = F 24 := hb0vy75.trans h24vy75
        have hnbvy75 := tk_nx_s (T := T) (n := n) (f := (tk_nx T n (tk_nx T n f))) hltvy75
        clear hb0vy75 h24vy75
        have hsry76 := srt_b T n (tk_nx T n (tk_nx T n (tk_nx T n f)))
        have hvly77 := vlu_b hTb (tk_nx T n (tk_nx T n (tk_nx T n f)))
        have hwby78 := tk_w_b T n (tk_nx T n (tk_nx T n (tk_nx T n f)))
        have hfny79 := hkvy75.1
        have hgy80 := (hfvy67 (i + 22) (ne_o (i := i) (c := 22) (d := 0) rfl)).trans hgy27
        have hgy81 := (hfvy69 (i + 22) (ne_o (i := i) (c := 22) (d := 0) rfl)).trans hgy80
        have hgy82 := (hfvy75 (i + 22) (ne_o (i := i) (c := 22) (d := 0) rfl)).trans hgy81
        refine z_iast C (lt_A (c := 22) hN rfl) hay13 hgy82 (kty25) (by omega) (by omega) (by decide) dX10_table1_94 (fun gy83 egy84 => ?_)
        have hgy85 := up_s egy84
        obtain ⟨ry86, hvy87⟩ : ∃ rZ9 : Nat → Int, rZ9 = uZ tb1 (kty25) (vy75) := ⟨_, rfl⟩
        rw [← hvy87] at hgy85
        have hgy88 := up_n egy84 hcvy75 (ne_o (i := i) (c := 0) (d := 22) rfl)
        have hFy89 : ∀ f, f ≠ 24 → f ≠ 32 → f ≠ 33 → f ≠ 35 → f ≠ 36 → f ≠ 37 → f ≠ 38 → f ≠ 47 → f ≠ 48 → f ≠ 49 → Fvy75 f = F f := fun f n24 n32 n33 n35 n36 n37 n38 n47 n48 n49 => ((hFvy75 f n24 n32 n33 n35 n36 n37 n38).trans ((hFvy69 f n32 n33 n35 n36 n37).trans ((hFvy67 f n24 n38).trans ((hFvy22 f n24 n38).trans (hFvy15 f n32 n33 n35 n36 n37)))))
        have htky90 : tkR T n Fvy75 (tk_nx T n (tk_nx T n (tk_nx T n f))) := hkvy75
        have htoy91 := tk_to_w (T := T) (n := n) (f := (tk_nx T n (tk_nx T n (tk_nx T n f)))) htky90.1.1
        have h32y92 := htky90.2.1
        have hey93 : Fvy75 24 = F 24 := hbvy75
        have hey94 : Fvy75 38 = 0 := hevy75
        have hey95 : Fvy75 47 = sl := ((hFvy75 47 (by decide) (by decide) (by decide) (by decide) (by decide) (by decide) (by decide)).trans ((hFvy69 47 (by decide) (by decide) (by decide) (by decide) (by decide)).trans ((hFvy67 47 (by decide) (by decide)).trans ((hFvy22 47 (by decide) (by decide)).trans ((hFvy15 47 (by decide) (by decide) (by decide) (by decide) (by decide)).trans r47)))))
        have hey96 : Fvy75 48 = ho := ((hFvy75 48 (by decide) (by decide) (by decide) (by decide) (by decide) (by decide) (by decide)).trans ((hFvy69 48 (by decide) (by decide) (by decide) (by decide) (by decide)).trans ((hFvy67 48 (by decide) (by decide)).trans ((hFvy22 48 (by decide) (by decide)).trans ((hFvy15 48 (by decide) (by decide) (by decide) (by decide) (by decide)).trans r48)))))
        have hey97 : Fvy75 49 = nm := ((hFvy75 49 (by decide) (by decide) (by decide) (by decide) (by decide) (by decide) (by decide)).trans ((hFvy69 49 (by decide) (by decide) (by decide) (by decide) (by decide)).trans ((hFvy67 49 (by decide) (by decide)).trans ((hFvy22 49 (by decide) (by decide)).trans ((hFvy15 49 (by decide) (by decide) (by decide) (by decide) (by decide)).trans r49)))))
        have hfry100 : ∀ j, j ≠ kty25 → ry86 j = tb1 j := fun j n0 => (congrFun hvy87 _).trans ((uZ_n _ _ n0).trans (rfl))
        have hwy101 : ry86 (kty25) = vy75 := (congrFun hvy87 _).trans (uZ_s _ _ _)
        have haky99 : ∀ k, k < 15 → ry86 k = -1 ∨ ((0 ≤ ry86 k ∧ ry86 k ≤ 9999) ∧ (10 ≤ k → 1 ≤ ry86 k)) := by
          intro k hk
          by_cases e : k = kty25
          · rw [e]; have hk0 := htb1 (kty25) (by omega); omega
          · have hk0 := htb1 k hk; rw [hfry100 k e]; exact hk0
        have hlay102 : ∀ s l : Nat, (s : Int) < Fvy75 47 → (l : Int) < mn1 s → lyT ly1 (84 * s + 7 * l) := by
          intro s l a1 a2
          have hm9 := hmn1 s (by omega)
          exact hly1 s l (by omega) a2
        have hgy103 := (hfvy15 (i + 16) (ne_o (i := i) (c := 16) (d := 0) rfl)).trans ha16
        have hgy104 := (hfvy22 (i + 16) (ne_o (i := i) (c := 16) (d := 0) rfl)).trans hgy103
        have hgy105 := (hfvy67 (i + 16) (ne_o (i := i) (c := 16) (d := 0) rfl)).trans hgy104
        have hgy106 := (hfvy69 (i + 16) (ne_o (i := i) (c := 16) (d := 0) rfl)).trans hgy105
        have hgy107 := (hfvy75 (i + 16) (ne_o (i := i) (c := 16) (d := 0) rfl)).trans hgy106
        have hgy108 := up_n egy84 hgy107 (ne_o (i := i) (c := 16) (d := 22) rfl)
        have hgy109 := (hfvy15 (i + 17) (ne_o (i := i) (c := 17) (d := 0) rfl)).trans ha17
        have hgy110 := (hfvy22 (i + 17) (ne_o (i := i) (c := 17) (d := 0) rfl)).trans hgy109
        have hgy111 := (hfvy67 (i + 17) (ne_o (i := i) (c := 17) (d := 0) rfl)).trans hgy110
        have hgy112 := (hfvy69 (i + 17) (ne_o (i := i) (c := 17) (d := 0) rfl)).trans hgy111
        have hgy113 := (hfvy75 (i + 17) (ne_o (i := i) (c := 17) (d := 0) rfl)).trans hgy112
        have hgy114 := up_n egy84 hgy113 (ne_o (i := i) (c := 17) (d := 22) rfl)
        have hgy115 := (hfvy15 (i + 18) (ne_o (i := i) (c := 18) (d := 0) rfl)).trans ha18
        have hgy116 := (hfvy22 (i + 18) (ne_o (i := i) (c := 18) (d := 0) rfl)).trans hgy115
        have hgy117 := (hfvy67 (i + 18) (ne_o (i := i) (c := 18) (d := 0) rfl)).trans hgy116
        have hgy118 := (hfvy69 (i + 18) (ne_o (i := i) (c := 18) (d := 0) rfl)).trans hgy117
        have hgy119 := (hfvy75 (i + 18) (ne_o (i := i) (c := 18) (d := 0) rfl)).trans hgy118
        have hgy120 := up_n egy84 hgy119 (ne_o (i := i) (c := 18) (d := 22) rfl)
        have hgy121 := (hfvy15 (i + 19) (ne_o (i := i) (c := 19) (d := 0) rfl)).trans ha19
        have hgy122 := (hfvy22 (i + 19) (ne_o (i := i) (c := 19) (d := 0) rfl)).trans hgy121
        have hgy123 := (hfvy67 (i + 19) (ne_o (i := i) (c := 19) (d := 0) rfl)).trans hgy122
        have hgy124 := (hfvy69 (i + 19) (ne_o (i := i) (c := 19) (d := 0) rfl)).trans hgy123
        have hgy125 := (hfvy75 (i + 19) (ne_o (i := i) (c := 19) (d := 0) rfl)).trans hgy124
        have hgy126 := up_n egy84 hgy125 (ne_o (i := i) (c := 19) (d := 22) rfl)
        have hgy127 := (hfvy15 (i + 20) (ne_o (i := i) (c := 20) (d := 0) rfl)).trans ha20
        have hgy128 := (hfvy22 (i + 20) (ne_o (i := i) (c := 20) (d := 0) rfl)).trans hgy127
        have hgy129 := (hfvy67 (i + 20) (ne_o (i := i) (c := 20) (d := 0) rfl)).trans hgy128
        have hgy130 := (hfvy69 (i + 20) (ne_o (i := i) (c := 20) (d := 0) rfl)).trans hgy129
        have hgy131 := (hfvy75 (i + 20) (ne_o (i := i) (c := 20) (d := 0) rfl)).trans hgy130
        have hgy132 := up_n egy84 hgy131 (ne_o (i := i) (c := 20) (d := 22) rfl)
        have hgy133 := (hfvy15 (i + 21) (ne_o (i := i) (c := 21) (d := 0) rfl)).trans ha21
        have hgy134 := (hfvy22 (i + 21) (ne_o (i := i) (c := 21) (d := 0) rfl)).trans hgy133
        have hgy135 := (hfvy67 (i + 21) (ne_o (i := i) (c := 21) (d := 0) rfl)).trans hgy134
        have hgy136 := (hfvy69 (i + 21) (ne_o (i := i) (c := 21) (d := 0) rfl)).trans hgy135
        have hgy137 := (hfvy75 (i + 21) (ne_o (i := i) (c := 21) (d := 0) rfl)).trans hgy136
        have hgy138 := up_n egy84 hgy137 (ne_o (i := i) (c := 21) (d := 22) rfl)
        have hgy139 := (hfvy15 (i + 23) (ne_o (i := i) (c := 23) (d := 0) rfl)).trans ha23
        have hgy140 := (hfvy22 (i + 23) (ne_o (i := i) (c := 23) (d := 0) rfl)).trans hgy139
        have hgy141 := (hfvy67 (i + 23) (ne_o (i := i) (c := 23) (d := 0) rfl)).trans hgy140
        have hgy142 := (hfvy69 (i + 23) (ne_o (i := i) (c := 23) (d := 0) rfl)).trans hgy141
        have hgy143 := (hfvy75 (i + 23) (ne_o (i := i) (c := 23) (d := 0) rfl)).trans hgy142
        have hgy144 := up_n egy84 hgy143 (ne_o (i := i) (c := 23) (d := 22) rfl)
        have hfry145 : ∀ j, j ≠ kty25 → ry86 j = tb1 j := fun j n0 => (congrFun hvy87 _).trans ((uZ_n _ _ n0).trans (rfl))
        have hwy146 : ry86 (kty25) = vy75 := (congrFun hvy87 _).trans (uZ_s _ _ _)
        have hxty147 : xTx cs gy83 i Fvy75 _ := ⟨_, _, _, _, _, _, _, _, ⟨hgy108, hgy114, hgy120, hgy126, hgy132, hgy138, hgy85, hgy144⟩, ⟨⟨by omega, by omega, by omega⟩, hop1, hmn1, hai1, hfa1, haky99, hlay102⟩, rT.table (v1 := 0 + tk_kd T n (tk_nx T n f)) (a := vy75) hrT (kty25) (by omega) (by omega) ⟨by show Fvy75 47 = sl; omega, by show Fvy75 48 = ho; omega, by show Fvy75 49 = nm; omega⟩ hfry145 (by omega)⟩
        exact z_vret C hr hlk dX10_table1_95 (by decide) (by decide) ⟨rfl, rfl, rfl, ⟨_, hgy88, hFy89, Or.inl ⟨_, by simp only [cl_table, if_neg hxvy20, if_neg hscy31, hnvy75]; rfl, by omega, by omega, by show f < (tk_nx T n (tk_nx T n (tk_nx T n f))); omega, htky90, hxty147⟩⟩, fun j j1 j2 => by rw [egy84, va_up_ne _ _ (by omega)]; rw [hfvy75 _ (by omega)]; rw [hfvy69 _ (by omega)]; rw [hfvy67 _ (by omega)]; rw [hfvy22 _ (by omega)]; rw [hfvy15 _ (by omega)]⟩
      · obtain ⟨rfl, cvy75, hrvy75, hnvy75, hevy75, hbvy75, hkvy75⟩ := hqvy75
        clear h24vy75
        have hsry148 := srt_b T n (tk_nx T n (tk_nx T n f))
        have hvly149 := vlu_b hTb (tk_nx T n (tk_nx T n f))
        have hwby150 := tk_w_b T n (tk_nx T n (tk_nx T n f))
        have hfny151 := hkvy75.1
        have hgy152 := (hfvy67 (i + 22) (ne_o (i := i) (c := 22) (d := 0) rfl)).trans hgy27
        have hgy153 := (hfvy69 (i + 22) (ne_o (i := i) (c := 22) (d := 0) rfl)).trans hgy152
        have hgy154 := (hfvy75 (i + 22) (ne_o (i := i) (c := 22) (d := 0) rfl)).trans hgy153
        refine z_iast C (lt_A (c := 22) hN rfl) hay13 hgy154 (kty25) (by omega) (by omega) (by decide) dX10_table1_94 (fun gy155 egy156 => ?_)
        have hgy157 := up_s egy156
        obtain ⟨ry158, hvy159⟩ : ∃ rZ9 : Nat → Int, rZ9 = uZ tb1 (kty25) (0) := ⟨_, rfl⟩
        rw [← hvy159] at hgy157
        have hgy160 := up_n egy156 hcvy75 (ne_o (i := i) (c := 0) (d := 22) rfl)
        have hFy161 : ∀ f, f ≠ 24 → f ≠ 32 → f ≠ 33 → f ≠ 35 → f ≠ 36 → f ≠ 37 → f ≠ 38 → f ≠ 47 → f ≠ 48 → f ≠ 49 → Fvy75 f = F f := fun f n24 n32 n33 n35 n36 n37 n38 n47 n48 n49 => ((hFvy75 f n24 n32 n33 n35 n36 n37 n38).trans ((hFvy69 f n32 n33 n35 n36 n37).trans ((hFvy67 f n24 n38).trans ((hFvy22 f n24 n38).trans (hFvy15 f n32 n33 n35 n36 n37)))))
        have htky162 : tkR T n Fvy75 (tk_nx T n (tk_nx T n f)) := hkvy75
        have htoy163 := tk_to_w (T := T) (n := n) (f := (tk_nx T n (tk_nx T n f))) htky162.1.1
        have h32y164 := htky162.2.1
        have hey165 : Fvy75 24 = ((tk_nx T n (tk_nx T n f)) : Int) := hbvy75
        have hey166 : Fvy75 38 = cvy75 := hevy75
        have hey167 : Fvy75 47 = sl := ((hFvy75 47 (by decide) (by decide) (by decide) (by decide) (by decide) (by decide) (by decide)).trans ((hFvy69 47 (by decide) (by decide) (by decide) (by decide) (by decide)).trans ((hFvy67 47 (by decide) (by decide)).trans ((hFvy22 47 (by decide) (by decide)).trans ((hFvy15 47 (by decide) (by decide) (by decide) (by decide) (by decide)).trans r47)))))
        have hey168 : Fvy75 48 = ho := ((hFvy75 48 (by decide) (by decide) (by decide) (by decide) (by decide) (by decide) (by decide)).trans ((hFvy69 48 (by decide) (by decide) (by decide) (by decide) (by decide)).trans ((hFvy67 48 (by decide) (by decide)).trans ((hFvy22 48 (by decide) (by decide)).trans ((hFvy15 48 (by decide) (by decide) (by decide) (by decide) (by decide)).trans r48)))))
        have hey169 : Fvy75 49 = nm := ((hFvy75 49 (by decide) (by decide) (by decide) (by decide) (by decide) (by decide) (by decide)).trans ((hFvy69 49 (by decide) (by decide) (by decide) (by decide) (by decide)).trans ((hFvy67 49 (by decide) (by decide)).trans ((hFvy22 49 (by decide) (by decide)).trans ((hFvy15 49 (by decide) (by decide) (by decide) (by decide) (by decide)).trans r49)))))
        have hfry172 : ∀ j, j ≠ kty25 → ry158 j = tb1 j := fun j n0 => (congrFun hvy159 _).trans ((uZ_n _ _ n0).trans (rfl))
        have hwy173 : ry158 (kty25) = 0 := (congrFun hvy159 _).trans (uZ_s _ _ _)
        have haky171 : ∀ k, k < 15 → ry158 k = -1 ∨ ((0 ≤ ry158 k ∧ ry158 k ≤ 9999) ∧ (10 ≤ k → 1 ≤ ry158 k)) := by
          intro k hk
          by_cases e : k = kty25
          · rw [e]; have hk0 := htb1 (kty25) (by omega); omega
          · have hk0 := htb1 k hk; rw [hfry172 k e]; exact hk0
        have hlay174 : ∀ s l : Nat, (s : Int) < Fvy75 47 → (l : Int) < mn1 s → lyT ly1 (84 * s + 7 * l) := by
          intro s l a1 a2
          have hm9 := hmn1 s (by omega)
          exact hly1 s l (by omega) a2
        have hgy175 := (hfvy15 (i + 16) (ne_o (i := i) (c := 16) (d := 0) rfl)).trans ha16
        have hgy176 := (hfvy22 (i + 16) (ne_o (i := i) (c := 16) (d := 0) rfl)).trans hgy175
        have hgy177 := (hfvy67 (i + 16) (ne_o (i := i) (c := 16) (d := 0) rfl)).trans hgy176
        have hgy178 := (hfvy69 (i + 16) (ne_o (i := i) (c := 16) (d := 0) rfl)).trans hgy177
        have hgy179 := (hfvy75 (i + 16) (ne_o (i := i) (c := 16) (d := 0) rfl)).trans hgy178
        have hgy180 := up_n egy156 hgy179 (ne_o (i := i) (c := 16) (d := 22) rfl)
        have hgy181 := (hfvy15 (i + 17) (ne_o (i := i) (c := 17) (d := 0) rfl)).trans ha17
        have hgy182 := (hfvy22 (i + 17) (ne_o (i := i) (c := 17) (d := 0) rfl)).trans hgy181
        have hgy183 := (hfvy67 (i + 17) (ne_o (i := i) (c := 17) (d := 0) rfl)).trans hgy182
        have hgy184 := (hfvy69 (i + 17) (ne_o (i := i) (c := 17) (d := 0) rfl)).trans hgy183
        have hgy185 := (hfvy75 (i + 17) (ne_o (i := i) (c := 17) (d := 0) rfl)).trans hgy184
        have hgy186 := up_n egy156 hgy185 (ne_o (i := i) (c := 17) (d := 22) rfl)
        have hgy187 := (hfvy15 (i + 18) (ne_o (i := i) (c := 18) (d := 0) rfl)).trans ha18
        have hgy188 := (hfvy22 (i + 18) (ne_o (i := i) (c := 18) (d := 0) rfl)).trans hgy187
        have hgy189 := (hfvy67 (i + 18) (ne_o (i := i) (c := 18) (d := 0) rfl)).trans hgy188
        have hgy190 := (hfvy69 (i + 18) (ne_o (i := i) (c := 18) (d := 0) rfl)).trans hgy189
        have hgy191 := (hfvy75 (i + 18) (ne_o (i := i) (c := 18) (d := 0) rfl)).trans hgy190
        have hgy192 := up_n egy156 hgy191 (ne_o (i := i) (c := 18) (d := 22) rfl)
        have hgy193 := (hfvy15 (i + 19) (ne_o (i := i) (c := 19) (d := 0) rfl)).trans ha19
        have hgy194 := (hfvy22 (i + 19) (ne_o (i := i) (c := 19) (d := 0) rfl)).trans hgy193
        have hgy195 := (hfvy67 (i + 19) (ne_o (i := i) (c := 19) (d := 0) rfl)).trans hgy194
        have hgy196 := (hfvy69 (i + 19) (ne_o (i := i) (c := 19) (d := 0) rfl)).trans hgy195
        have hgy197 := (hfvy75 (i + 19) (ne_o (i := i) (c := 19) (d := 0) rfl)).trans hgy196
        have hgy198 := up_n egy156 hgy197 (ne_o (i := i) (c := 19) (d := 22) rfl)
        have hgy199 := (hfvy15 (i + 20) (ne_o (i := i) (c := 20) (d := 0) rfl)).trans ha20
        have hgy200 := (hfvy22 (i + 20) (ne_o (i := i) (c := 20) (d := 0) rfl)).trans hgy199
        have hgy201 := (hfvy67 (i + 20) (ne_o (i := i) (c := 20) (d := 0) rfl)).trans hgy200
        have hgy202 := (hfvy69 (i + 20) (ne_o (i := i) (c := 20) (d := 0) rfl)).trans hgy201
        have hgy203 := (hfvy75 (i + 20) (ne_o (i := i) (c := 20) (d := 0) rfl)).trans hgy202
        have hgy204 := up_n egy156 hgy203 (ne_o (i := i) (c := 20) (d := 22) rfl)
        have hgy205 := (hfvy15 (i + 21) (ne_o (i := i) (c := 21) (d := 0) rfl)).trans ha21
        have hgy206 := (hfvy22 (i + 21) (ne_o (i := i) (c := 21) (d := 0) rfl)).trans hgy205
        have hgy207 := (hfvy67 (i + 21) (ne_o (i := i) (c := 21) (d := 0) rfl)).trans hgy206
        have hgy208 := (hfvy69 (i + 21) (ne_o (i := i) (c := 21) (d := 0) rfl)).trans hgy207
        have hgy209 := (hfvy75 (i + 21) (ne_o (i := i) (c := 21) (d := 0) rfl)).trans hgy208
        have hgy210 := up_n egy156 hgy209 (ne_o (i := i) (c := 21) (d := 22) rfl)
        have hgy211 := (hfvy15 (i + 23) (ne_o (i := i) (c := 23) (d := 0) rfl)).trans ha23
        have hgy212 := (hfvy22 (i + 23) (ne_o (i := i) (c := 23) (d := 0) rfl)).trans hgy211
        have hgy213 := (hfvy67 (i + 23) (ne_o (i := i) (c := 23) (d := 0) rfl)).trans hgy212
        have hgy214 := (hfvy69 (i + 23) (ne_o (i := i) (c := 23) (d := 0) rfl)).trans hgy213
        have hgy215 := (hfvy75 (i + 23) (ne_o (i := i) (c := 23) (d := 0) rfl)).trans hgy214
        have hgy216 := up_n egy156 hgy215 (ne_o (i := i) (c := 23) (d := 22) rfl)
        have htxy217 : okTx cs gy155 i Fvy75 := ⟨_, _, _, _, _, _, _, _, ⟨hgy180, hgy186, hgy192, hgy198, hgy204, hgy210, hgy157, hgy216⟩, ⟨⟨by omega, by omega, by omega⟩, hop1, hmn1, hai1, hfa1, haky171, hlay174⟩⟩
        exact z_vret C hr hlk dX10_table1_95 (by decide) (by decide) ⟨rfl, rfl, rfl, ⟨_, hgy160, hFy161, Or.inr ⟨(cvy75, (tk_nx T n (tk_nx T n f))), by simp only [cl_table, if_neg hxvy20, if_neg hscy31, hnvy75], by show Fvy75 38 = cvy75; omega, by show Fvy75 24 = (((tk_nx T n (tk_nx T n f)) : Nat) : Int); omega, by show 1 ≤ cvy75 ∧ cvy75 ≤ 5; omega, ⟨_, htky162⟩, htxy217⟩⟩, fun j j1 j2 => by rw [egy156, va_up_ne _ _ (by omega)]; rw [hfvy75 _ (by omega)]; rw [hfvy69 _ (by omega)]; rw [hfvy67 _ (by omega)]; rw [hfvy22 _ (by omega)]; rw [hfvy15 _ (by omega)]⟩
  · refine z_iconst (z := 1) C dX10_table1_17 rfl ?_
    have h33vy218 : Fvy15 33 = ((tk_nx T n f) : Int) := hkvy15.2.2.1
    have h24vy218 : Fvy15 24 = F 24 := (hFvy15 24 (by decide) (by decide) (by decide) (by decide) (by decide))
    have htvy218 : tkR T n Fvy15 (tk_nx T n f) := hkvy15
    refine z_cV (As := [.int (zI (0)), .int (zI (1))]) (rest := []) (ci := 12) C (c_yWants l D A cs tt N ad _ i hN _ hcvy15 ((hFvy15 38 (by decide) (by decide) (by decide) (by decide) (by decide)).trans h38) (0) (by omega) (1) (by omega)) (lt_A0 hN rfl) hay1 hcvy15 rfl rfl mv_yX10_wants q_1678 hd_yX10_wants (by decide) (Nat.le_of_ble_eq_true rfl) (by decide) dX10_table1_18 rfl (kI0 fun vy218 gvy218 hvy218 => ?_)
    obtain ⟨⟨Fvy218, hcvy218, hqvy218, hFvy218⟩, hfvy218⟩ := hvy218
    obtain ⟨rfl, hevy218, hbvy218⟩ : vy218 = 0 ∧ Fvy218 38 = 1 ∧ Fvy218 24 = ((tk_nx T n f) : Int) := by omega
    clear hqvy218 h33vy218 h24vy218
    have hkvy218 : tkR T n Fvy218 (tk_nx T n f) := tkR.w htvy218 hFvy218 (by omega)
    refine z_if_ne (tgt := 25) C dX10_table1_21 (by decide) (by omega) (fun h => absurd h (by omega)) (fun _ => ?_)
    have hFy219 : ∀ f, f ≠ 24 → f ≠ 32 → f ≠ 33 → f ≠ 35 → f ≠ 36 → f ≠ 37 → f ≠ 38 → f ≠ 47 → f ≠ 48 → f ≠ 49 → Fvy218 f = F f := fun f n24 n32 n33 n35 n36 n37 n38 n47 n48 n49 => ((hFvy218 f n24 n38).trans (hFvy15 f n32 n33 n35 n36 n37))
    have htky220 : tkR T n Fvy218 (tk_nx T n f) := hkvy218
    have htoy221 := tk_to_w (T := T) (n := n) (f := (tk_nx T n f)) htky220.1.1
    have h32y222 := htky220.2.1
    have hey223 : Fvy218 24 = ((tk_nx T n f) : Int) := hbvy218
    have hey224 : Fvy218 38 = 1 := hevy218
    have hey225 : Fvy218 47 = sl := ((hFvy218 47 (by decide) (by decide)).trans ((hFvy15 47 (by decide) (by decide) (by decide) (by decide) (by decide)).trans r47))
    have hey226 : Fvy218 48 = ho := ((hFvy218 48 (by decide) (by decide)).trans ((hFvy15 48 (by decide) (by decide) (by decide) (by decide) (by decide)).trans r48))
    have hey227 : Fvy218 49 = nm := ((hFvy218 49 (by decide) (by decide)).trans ((hFvy15 49 (by decide) (by decide) (by decide) (by decide) (by decide)).trans r49))
    have hlay229 : ∀ s l : Nat, (s : Int) < Fvy218 47 → (l : Int) < mn1 s → lyT ly1 (84 * s + 7 * l) := by
      intro s l a1 a2
      have hm9 := hmn1 s (by omega)
      exact hly1 s l (by omega) a2
    have hgy230 := (hfvy15 (i + 16) (ne_o (i := i) (c := 16) (d := 0) rfl)).trans ha16
    have hgy231 := (hfvy218 (i + 16) (ne_o (i := i) (c := 16) (d := 0) rfl)).trans hgy230
    have hgy232 := (hfvy15 (i + 17) (ne_o (i := i) (c := 17) (d := 0) rfl)).trans ha17
    have hgy233 := (hfvy218 (i + 17) (ne_o (i := i) (c := 17) (d := 0) rfl)).trans hgy232
    have hgy234 := (hfvy15 (i + 18) (ne_o (i := i) (c := 18) (d := 0) rfl)).trans ha18
    have hgy235 := (hfvy218 (i + 18) (ne_o (i := i) (c := 18) (d := 0) rfl)).trans hgy234
    have hgy236 := (hfvy15 (i + 19) (ne_o (i := i) (c := 19) (d := 0) rfl)).trans ha19
    have hgy237 := (hfvy218 (i + 19) (ne_o (i := i) (c := 19) (d := 0) rfl)).trans hgy236
    have hgy238 := (hfvy15 (i + 20) (ne_o (i := i) (c := 20) (d := 0) rfl)).trans ha20
    have hgy239 := (hfvy218 (i + 20) (ne_o (i := i) (c := 20) (d := 0) rfl)).trans hgy238
    have hgy240 := (hfvy15 (i + 21) (ne_o (i := i) (c := 21) (d := 0) rfl)).trans ha21
    have hgy241 := (hfvy218 (i + 21) (ne_o (i := i) (c := 21) (d := 0) rfl)).trans hgy240
    have hgy242 := (hfvy15 (i + 22) (ne_o (i := i) (c := 22) (d := 0) rfl)).trans ha22
    have hgy243 := (hfvy218 (i + 22) (ne_o (i := i) (c := 22) (d := 0) rfl)).trans hgy242
    have hgy244 := (hfvy15 (i + 23) (ne_o (i := i) (c := 23) (d := 0) rfl)).trans ha23
    have hgy245 := (hfvy218 (i + 23) (ne_o (i := i) (c := 23) (d := 0) rfl)).trans hgy244
    have htxy246 : okTx cs gvy218 i Fvy218 := ⟨_, _, _, _, _, _, _, _, ⟨hgy231, hgy233, hgy235, hgy237, hgy239, hgy241, hgy243, hgy245⟩, ⟨⟨by omega, by omega, by omega⟩, hop1, hmn1, hai1, hfa1, htb1, hlay229⟩⟩
    exact z_vret C hr hlk dX10_table1_24 (by decide) (by decide) ⟨rfl, rfl, rfl, ⟨_, hcvy218, hFy219, Or.inr ⟨(1, (tk_nx T n f)), by simp only [cl_table, if_pos hxvy20], by show Fvy218 38 = 1; omega, by show Fvy218 24 = (((tk_nx T n f) : Nat) : Int); omega, by show 1 ≤ 1 ∧ 1 ≤ 5; omega, ⟨_, htky220⟩, htxy246⟩⟩, fun j j1 j2 => by rw [hfvy218 _ (by omega)]; rw [hfvy15 _ (by omega)]⟩

set_option maxRecDepth 100000 in
set_option maxHeartbeats 4000000 in
theorem c_yTable1 (l : Launch) (D : va_G) (A : Nat → Prop) (cs : Nat → ClassId) (tt : Nat) (N : Nat) (ad : Nat → Nat) (g : Nat → va_E) (i : Nat) (hN : i + 30 ≤ N) (F : Nat → Int) (hg : g i = mC ad i F) (tp : Nat → Int) (ha13 : g (i + 13) = iA cs 900 tp) (T : Nat → Int) (n : Nat) (hn : n ≤ 900) (hTb : ∀ k, k < n → 0 ≤ T k ∧ T k ≤ 255) (hTt : ∀ k, k < n → tp k = T k) (htp : ∀ k, k < 900 → 0 ≤ tp k ∧ tp k ≤ 255) (f : Nat) (hk : tkR T n F f) (h38 : F 38 = 0) (hfl : f < n) (sl ho nm : Int) (mn st op ai fa mu tb B : Nat → Int) (Lz : Nat → Nat → Int) (hX : xTx cs g i F (sl, ho, nm, mn, st, op, ai, fa, mu, tb, B, Lz)) (hwd : tk_w T n f = 7) : zM l yX10_table1 cX10_table1 3 none ({ frames := 5, cells := 0, slots := 0, locals := 300 } : Room) D A cs tt N ad g [.ref (ad i)] (rV0 N ad fun g' => (∃ F' : Nat → Int, g' i = mC ad i F' ∧ (∀ f, f ≠ 24 → f ≠ 32 → f ≠ 33 → f ≠ 35 → f ≠ 36 → f ≠ 37 → f ≠ 38 → f ≠ 47 → f ≠ 48 → f ≠ 49 → F' f = F f) ∧ ((∃ v, cl_table T n B 5 0 99 f = .ok v ∧ F' 38 = 0 ∧ F' 24 = F 24 ∧ f < v.2 ∧ tkR T n F' v.2 ∧ xTx cs g' i F' (sl, ho, nm, mn, st, op, ai, fa, mu, uZ tb v.1.1.toNat v.1.2, uZ B v.1.1.toNat 1, Lz)) ∨ (∃ e : Int × Nat, cl_table T n B 5 0 99 f = .error e ∧ F' 38 = e.1 ∧ F' 24 = (e.2 : Int) ∧ (1 ≤ e.1 ∧ e.1 ≤ 5) ∧ (∃ f9, tkR T n F' f9) ∧ okTx cs g' i F'))) ∧ ∀ j, j ≠ i → j < i + 16 ∨ i + 23 < j → g' j = g j) := by
  have hay1 : zAt ad (i) (ad i) := rfl
  have hay2 : zAt ad (i + 13) (ad (i + 13)) := rfl
  have hsry3 := srt_b T n f
  have hvly4 := vlu_b hTb f
  have hwby5 := tk_w_b T n f
  have hfny6 := hk.1
  obtain ⟨st1, op1, mn1, ai1, fa1, mu1, tb1, ly1, ⟨ha16, ha17, ha18, ha19, ha20, ha21, ha22, ha23⟩, ⟨⟨t47, t48, t49⟩, hop1, hmn1, hai1, hfa1, htb1, hly1⟩, hrT⟩ := hX
  have r47 : F 47 = sl := hrT.1.1
  have r48 : F 48 = ho := hrT.1.2.1
  have r49 : F 49 = nm := hrT.1.2.2
  have r32 : F 32 = ((tk_to T n f : Nat) : Int) := hk.2.1
  have hto0 := tk_to_nx (T := T) (n := n) (f := f) hk.1.1
  have rsl : ∀ k : Nat, (k : Int) < sl → mn1 k = mn k := fun k h9 => (hrT.2.1 k h9).2.2
  have rtb : ∀ k : Nat, k < 15 → (tb1 k = -1 ∧ B k = 0) ∨ (0 ≤ tb1 k ∧ B k = 1) := fun k h9 => by
    rcases hrT.2.2.2.1 k h9 with ⟨a9, b9, c9⟩ | ⟨a9, b9, c9⟩
    · exact Or.inl ⟨a9, b9⟩
    · exact Or.inr ⟨a9, b9⟩
  have rs4 : 0 ≤ sl ∧ sl ≤ 4 := by omega
  have rh4 : 0 ≤ ho ∧ ho ≤ 24 := by omega
  have hay7 : zAt ad (i + 16) (ad (i + 16)) := rfl
  have hay8 : zAt ad (i + 17) (ad (i + 17)) := rfl
  have hay9 : zAt ad (i + 18) (ad (i + 18)) := rfl
  have hay10 : zAt ad (i + 19) (ad (i + 19)) := rfl
  have hay11 : zAt ad (i + 20) (ad (i + 20)) := rfl
  have hay12 : zAt ad (i + 21) (ad (i + 21)) := rfl
  have hay13 : zAt ad (i + 22) (ad (i + 22)) := rfl
  have hay14 : zAt ad (i + 23) (ad (i + 23)) := rfl
  have htbr : ∀ k, k < 15 → -1 ≤ tb1 k ∧ tb1 k ≤ 9999 := fun k hk => by have h9 := htb1 k hk; omega
  have hw37 : F 37 = 7 := hk.2.2.2.2.2.2.1.trans hwd
  refine z_of (by decide) (Nat.le_of_ble_eq_true rfl) ?_
  intro pZ eZ sZ mZ below meth cZ C hr hlk hnm
  refine z_lv (lv' := [(0, .ref (ad i))]) [0] rfl ?_
  refine z_aload_n C 0 dX10_table1_0 rfl ?_
  refine z_get (v := .int (zI (7))) C (lt_A0 hN rfl) hay1 hg rfl inA_X10 37 (by decide) q_1496 rfl (fv (F := F) (f := 37) hw37) dX10_table1_1 ?_
  refine z_bipush (z := 6) C dX10_table1_4 (by decide) ?_
  refine z_isub C dX10_table1_6 ?_
  refine z_istore_n (lv' := [(1, .int (zI (7 - 6))), (0, .ref (ad i))]) C dX10_table1_7 rfl (by decide) rfl ?_
  refine z_aload_n C 1 dX10_table1_8 rfl ?_
  have htvy15 : tkR T n F f := hk
  refine z_cV (As := []) (rest := []) (ci := 12) C (c_yGo l D A cs tt N ad _ i hN _ hg _ ha13 T n hn hTb hTt htp (tk_to T n f) (tk_to_b htvy15.1.1).2.1 htvy15.2.1 htvy15.2.2.2.1 htvy15.2.2.2.2.2.2.2) (lt_A0 hN rfl) hay1 hg rfl rfl mv_yX10_go q_1652 hd_yX10_go (by decide) (Nat.le_of_ble_eq_true rfl) (by decide) dX10_table1_9 rfl (kV0 fun gvy15 hvy15 => ?_)
  obtain ⟨⟨Fvy15, hcvy15, hjvy15, hFvy15⟩, hfvy15⟩ := hvy15
  have hkvy15 : tkR T n Fvy15 (tk_nx T n f) := hjvy15
  have hnbvy15 := tk_nx_s (T := T) (n := n) (f := f) hfl
  clear hjvy15
  have hsry16 := srt_b T n (tk_nx T n f)
  have hvly17 := vlu_b hTb (tk_nx T n f)
  have hwby18 := tk_w_b T n (tk_nx T n f)
  have hfny19 := hkvy15.1
  refine z_aload_n C 1 dX10_table1_12 rfl ?_
  refine z_aload_n C 1 dX10_table1_13 rfl ?_
  have hgy21 := (hfvy15 (i + 13) (ne_o (i := i) (c := 13) (d := 0) rfl)).trans ha13
  refine z_cV (As := []) (rest := [.ref (ad i)]) (ci := 12) C (c_yIsKind l D A cs tt N ad _ i hN _ hcvy15 tp T n hn hTb hTt htp (tk_nx T n f) hkvy15) (lt_A0 hN rfl) hay1 hcvy15 rfl rfl mv_yX10_isKind q_1693 hd_yX10_isKind (by decide) (Nat.le_of_ble_eq_true rfl) (by decide) dX10_table1_14 rfl (kI0 fun vy20 gvy20 hvy20 => ?_)
  obtain ⟨hvy20, rfl⟩ := hvy20
  rcases hvy20 with ⟨rfl, hxvy20⟩ | ⟨rfl, hxvy20⟩
  · refine z_iconst (z := 1) C dX10_table1_17 rfl ?_
    have h33vy22 : Fvy15 33 = ((tk_nx T n f) : Int) := hkvy15.2.2.1
    have h24vy22 : Fvy15 24 = F 24 := (hFvy15 24 (by decide) (by decide) (by decide) (by decide) (by decide))
    have htvy22 : tkR T n Fvy15 (tk_nx T n f) := hkvy15
    refine z_cV (As := [.int (zI (1)), .int (zI (1))]) (rest := []) (ci := 12) C (c_yWants l D A cs tt N ad _ i hN _ hcvy15 ((hFvy15 38 (by decide) (by decide) (by decide) (by decide) (by decide)).trans h38) (1) (by omega) (1) (by omega)) (lt_A0 hN rfl) hay1 hcvy15 rfl rfl mv_yX10_wants q_1678 hd_yX10_wants (by decide) (Nat.le_of_ble_eq_true rfl) (by decide) dX10_table1_18 rfl (kI0 fun vy22 gvy22 hvy22 => ?_)
    obtain ⟨⟨Fvy22, hcvy22, hqvy22, hFvy22⟩, hfvy22⟩ := hvy22
    obtain ⟨rfl, hevy22, hbvy22⟩ : vy22 = 1 ∧ Fvy22 38 = 0 ∧ Fvy22 24 = F 24 := by omega
    clear hqvy22 h33vy22 h24vy22
    have hkvy22 : tkR T n Fvy22 (tk_nx T n f) := tkR.w htvy22 hFvy22 (by omega)
    refine z_if_ne (tgt := 25) C dX10_table1_21 (by decide) (by omega) (fun _ => ?_) (fun h => absurd h (by omega))
    refine z_iconst (z := 5) C dX10_table1_25 rfl ?_
    refine z_iload_n C 0 dX10_table1_26 rfl ?_
    refine z_imul C dX10_table1_27 ?_
    refine z_aload_n C 1 dX10_table1_28 rfl ?_
    have hgy24 := (hfvy22 (i + 13) (ne_o (i := i) (c := 13) (d := 0) rfl)).trans hgy21
    refine z_cV (As := []) (rest := [.int (zI (5 * (7 - 6)))]) (ci := 12) C (c_yKindHere l D A cs tt N ad _ i hN _ hcvy22 tp T n hn hTb hTt htp (tk_nx T n f) hkvy22 hxvy20) (lt_A0 hN rfl) hay1 hcvy22 rfl rfl mv_yX10_kindHere q_1697 hd_yX10_kindHere (by decide) (Nat.le_of_ble_eq_true rfl) (by decide) dX10_table1_29 rfl (kI0 fun vy23 gvy23 hvy23 => ?_)
    obtain ⟨rfl, rfl⟩ := hvy23
    have hkbvy23 : 0 ≤ tk_kd T n (tk_nx T n f) ∧ tk_kd T n (tk_nx T n f) ≤ 4 := by have hkc := tk_kd_c T n (tk_nx T n f); omega
    refine z_iadd C dX10_table1_32 ?_
    obtain ⟨kty25, hkty25⟩ : ∃ n9 : Nat, (5 * (7 - 6)) + (tk_kd T n (tk_nx T n f)) = (n9 : Int) := ⟨((5 * (7 - 6)) + (tk_kd T n (tk_nx T n f))).toNat, by omega⟩
    rw [hkty25]
    refine z_istore_n (lv' := [(2, .int (zI ((kty25 : Int)))), (1, .int (zI (7 - 6))), (0, .ref (ad i))]) C dX10_table1_33 rfl (by decide) rfl ?_
    refine z_aload_n C 2 dX10_table1_34 rfl ?_
    refine z_aload_n C 2 dX10_table1_35 rfl ?_
    refine z_get (v := .ref (ad (i + 22))) C (lt_A0 hN rfl) hay1 hcvy22 rfl inA_X10 45 (by decide) q_1504 rfl rfl dX10_table1_36 ?_
    refine z_iload_n C 0 dX10_table1_39 rfl ?_
    have hgy26 := (hfvy15 (i + 22) (ne_o (i := i) (c := 22) (d := 0) rfl)).trans ha22
    have hgy27 := (hfvy22 (i + 22) (ne_o (i := i) (c := 22) (d := 0) rfl)).trans hgy26
    refine z_iald C (lt_A (c := 22) hN rfl) hay13 hgy27 (kty25) (by omega) (by omega) (by decide) dX10_table1_40 ?_
    have hrfy28 := htbr (kty25) (by omega)
    refine z_iconst (z := -1) C dX10_table1_41 rfl ?_
    refine z_icmp_ne (tgt := 49) C dX10_table1_42 (by decide) (by omega) (by omega) (fun hby29 => ?_) (fun hby29 => ?_)
    · have hscy30 : (B (5 + tk_kd T n (tk_nx T n f)).toNat = 1) := by rw [show (5 + tk_kd T n (tk_nx T n f)).toNat = kty25 by omega]; have h9 := rtb kty25 (by omega); omega
      refine z_iconst (z := 0) C dX10_table1_49 rfl ?_
      refine z_iconst (z := 4) C dX10_table1_50 rfl ?_
      have h33vy32 : Fvy22 33 = ((tk_nx T n f) : Int) := ((hFvy22 33 (by decide) (by decide)).trans hkvy15.2.2.1)
      have h24vy32 : Fvy22 24 = F 24 := hbvy22
      have htvy32 : tkR T n Fvy22 (tk_nx T n f) := hkvy22
      refine z_cV (As := [.int (zI (0)), .int (zI (4))]) (rest := []) (ci := 12) C (c_yWants l D A cs tt N ad _ i hN _ hcvy22 hevy22 (0) (by omega) (4) (by omega)) (lt_A0 hN rfl) hay1 hcvy22 rfl rfl mv_yX10_wants q_1678 hd_yX10_wants (by decide) (Nat.le_of_ble_eq_true rfl) (by decide) dX10_table1_51 rfl (kI0 fun vy32 gvy32 hvy32 => ?_)
      obtain ⟨⟨Fvy32, hcvy32, hqvy32, hFvy32⟩, hfvy32⟩ := hvy32
      obtain ⟨rfl, hevy32, hbvy32⟩ : vy32 = 0 ∧ Fvy32 38 = 4 ∧ Fvy32 24 = ((tk_nx T n f) : Int) := by omega
      clear hqvy32 h33vy32 h24vy32
      have hkvy32 : tkR T n Fvy32 (tk_nx T n f) := tkR.w htvy32 hFvy32 (by omega)
      refine z_if_ne (tgt := 58) C dX10_table1_54 (by decide) (by omega) (fun h => absurd h (by omega)) (fun _ => ?_)
      have hFy33 : ∀ f, f ≠ 24 → f ≠ 32 → f ≠ 33 → f ≠ 35 → f ≠ 36 → f ≠ 37 → f ≠ 38 → f ≠ 47 → f ≠ 48 → f ≠ 49 → Fvy32 f = F f := fun f n24 n32 n33 n35 n36 n37 n38 n47 n48 n49 => ((hFvy32 f n24 n38).trans ((hFvy22 f n24 n38).trans (hFvy15 f n32 n33 n35 n36 n37)))
      have htky34 : tkR T n Fvy32 (tk_nx T n f) := hkvy32
      have htoy35 := tk_to_w (T := T) (n := n) (f := (tk_nx T n f)) htky34.1.1
      have h32y36 := htky34.2.1
      have hey37 : Fvy32 24 = ((tk_nx T n f) : Int) := hbvy32
      have hey38 : Fvy32 38 = 4 := hevy32
      have hey39 : Fvy32 47 = sl := ((hFvy32 47 (by decide) (by decide)).trans ((hFvy22 47 (by decide) (by decide)).trans ((hFvy15 47 (by decide) (by decide) (by decide) (by decide) (by decide)).trans r47)))
      have hey40 : Fvy32 48 = ho := ((hFvy32 48 (by decide) (by decide)).trans ((hFvy22 48 (by decide) (by decide)).trans ((hFvy15 48 (by decide) (by decide) (by decide) (by decide) (by decide)).trans r48)))
      have hey41 : Fvy32 49 = nm := ((hFvy32 49 (by decide) (by decide)).trans ((hFvy22 49 (by decide) (by decide)).trans ((hFvy15 49 (by decide) (by decide) (by decide) (by decide) (by decide)).trans r49)))
      have hlay43 : ∀ s l : Nat, (s : Int) < Fvy32 47 → (l : Int) < mn1 s → lyT ly1 (84 * s + 7 * l) := by
        intro s l a1 a2
        have hm9 := hmn1 s (by omega)
        exact hly1 s l (by omega) a2
      have hgy44 := (hfvy15 (i + 16) (ne_o (i := i) (c := 16) (d := 0) rfl)).trans ha16
      have hgy45 := (hfvy22 (i + 16) (ne_o (i := i) (c := 16) (d := 0) rfl)).trans hgy44
      have hgy46 := (hfvy32 (i + 16) (ne_o (i := i) (c := 16) (d := 0) rfl)).trans hgy45
      have hgy47 := (hfvy15 (i + 17) (ne_o (i := i) (c := 17) (d := 0) rfl)).trans ha17
      have hgy48 := (hfvy22 (i + 17) (ne_o (i := i) (c := 17) (d := 0) rfl)).trans hgy47
      have hgy49 := (hfvy32 (i + 17) (ne_o (i := i) (c := 17) (d := 0) rfl)).trans hgy48
      have hgy50 := (hfvy15 (i + 18) (ne_o (i := i) (c := 18) (d := 0) rfl)).trans ha18
      have hgy51 := (hfvy22 (i + 18) (ne_o (i := i) (c := 18) (d := 0) rfl)).trans hgy50
      have hgy52 := (hfvy32 (i + 18) (ne_o (i := i) (c := 18) (d := 0) rfl)).trans hgy51
      have hgy53 := (hfvy15 (i + 19) (ne_o (i := i) (c := 19) (d := 0) rfl)).trans ha19
      have hgy54 := (hfvy22 (i + 19) (ne_o (i := i) (c := 19) (d := 0) rfl)).trans hgy53
      have hgy55 := (hfvy32 (i + 19) (ne_o (i := i) (c := 19) (d := 0) rfl)).trans hgy54
      have hgy56 := (hfvy15 (i + 20) (ne_o (i := i) (c := 20) (d := 0) rfl)).trans ha20
      have hgy57 := (hfvy22 (i + 20) (ne_o (i := i) (c := 20) (d := 0) rfl)).trans hgy56
      have hgy58 := (hfvy32 (i + 20) (ne_o (i := i) (c := 20) (d := 0) rfl)).trans hgy57
      have hgy59 := (hfvy15 (i + 21) (ne_o (i := i) (c := 21) (d := 0) rfl)).trans ha21
      have hgy60 := (hfvy22 (i + 21) (ne_o (i := i) (c := 21) (d := 0) rfl)).trans hgy59
      have hgy61 := (hfvy32 (i + 21) (ne_o (i := i) (c := 21) (d := 0) rfl)).trans hgy60
      have hgy62 := (hfvy32 (i + 22) (ne_o (i := i) (c := 22) (d := 0) rfl)).trans hgy27
      have hgy63 := (hfvy15 (i + 23) (ne_o (i := i) (c := 23) (d := 0) rfl)).trans ha23
      have hgy64 := (hfvy22 (i + 23) (ne_o (i := i) (c := 23) (d := 0) rfl)).trans hgy63
      have hgy65 := (hfvy32 (i + 23) (ne_o (i := i) (c := 23) (d := 0) rfl)).trans hgy64
      have htxy66 : okTx cs gvy32 i Fvy32 := ⟨_, _, _, _, _, _, _, _, ⟨hgy46, hgy49, hgy52, hgy55, hgy58, hgy61, hgy62, hgy65⟩, ⟨⟨by omega, by omega, by omega⟩, hop1, hmn1, hai1, hfa1, htb1, hlay43⟩⟩
      exact z_vret C hr hlk dX10_table1_57 (by decide) (by decide) ⟨rfl, rfl, rfl, ⟨_, hcvy32, hFy33, Or.inr ⟨(4, (tk_nx T n f)), by simp only [cl_table, if_neg hxvy20, if_pos hscy30], by show Fvy32 38 = 4; omega, by show Fvy32 24 = (((tk_nx T n f) : Nat) : Int); omega, by show 1 ≤ 4 ∧ 4 ≤ 5; omega, ⟨_, htky34⟩, htxy66⟩⟩, fun j j1 j2 => by rw [hfvy32 _ (by omega)]; rw [hfvy22 _ (by omega)]; rw [hfvy15 _ (by omega)]⟩
    · have hscy31 : ¬ (B (5 + tk_kd T n (tk_nx T n f)).toNat = 1) := by rw [show (5 + tk_kd T n (tk_nx T n f)).toNat = kty25 by omega]; have h9 := rtb kty25 (by omega); omega
      refine z_iconst (z := 1) C dX10_table1_45 rfl ?_
      refine z_goto (tgt := 50) C dX10_table1_46 (by decide) ?_
      refine z_iconst (z := 4) C dX10_table1_50 rfl ?_
      have h33vy67 : Fvy22 33 = ((tk_nx T n f) : Int) := ((hFvy22 33 (by decide) (by decide)).trans hkvy15.2.2.1)
      have h24vy67 : Fvy22 24 = F 24 := hbvy22
      have htvy67 : tkR T n Fvy22 (tk_nx T n f) := hkvy22
      refine z_cV (As := [.int (zI (1)), .int (zI (4))]) (rest := []) (ci := 12) C (c_yWants l D A cs tt N ad _ i hN _ hcvy22 hevy22 (1) (by omega) (4) (by omega)) (lt_A0 hN rfl) hay1 hcvy22 rfl rfl mv_yX10_wants q_1678 hd_yX10_wants (by decide) (Nat.le_of_ble_eq_true rfl) (by decide) dX10_table1_51 rfl (kI0 fun vy67 gvy67 hvy67 => ?_)
      obtain ⟨⟨Fvy67, hcvy67, hqvy67, hFvy67⟩, hfvy67⟩ := hvy67
      obtain ⟨rfl, hevy67, hbvy67⟩ : vy67 = 1 ∧ Fvy67 38 = 0 ∧ Fvy67 24 = F 24 := by omega
      clear hqvy67 h33vy67 h24vy67
      have hkvy67 : tkR T n Fvy67 (tk_nx T n f) := tkR.w htvy67 hFvy67 (by omega)
      refine z_if_ne (tgt := 58) C dX10_table1_54 (by decide) (by omega) (fun _ => ?_) (fun h => absurd h (by omega))
      refine z_aload_n C 2 dX10_table1_58 rfl ?_
      have hgy68 := (hfvy67 (i + 13) (ne_o (i := i) (c := 13) (d := 0) rfl)).trans hgy24
      have htvy69 : tkR T n Fvy67 (tk_nx T n f) := hkvy67
      refine z_cV (As := []) (rest := []) (ci := 12) C (c_yGo l D A cs tt N ad _ i hN _ hcvy67 _ hgy68 T n hn hTb hTt htp (tk_to T n (tk_nx T n f)) (tk_to_b htvy69.1.1).2.1 htvy69.2.1 htvy69.2.2.2.1 htvy69.2.2.2.2.2.2.2) (lt_A0 hN rfl) hay1 hcvy67 rfl rfl mv_yX10_go q_1652 hd_yX10_go (by decide) (Nat.le_of_ble_eq_true rfl) (by decide) dX10_table1_59 rfl (kV0 fun gvy69 hvy69 => ?_)
      obtain ⟨⟨Fvy69, hcvy69, hjvy69, hFvy69⟩, hfvy69⟩ := hvy69
      have hkvy69 : tkR T n Fvy69 (tk_nx T n (tk_nx T n f)) := hjvy69
      have hnbvy69 := tk_nx_w (T := T) (n := n) (f := (tk_nx T n f)) htvy69.1.1
      clear hjvy69
      have hsry70 := srt_b T n (tk_nx T n (tk_nx T n f))
      have hvly71 := vlu_b hTb (tk_nx T n (tk_nx T n f))
      have hwby72 := tk_w_b T n (tk_nx T n (tk_nx T n f))
      have hfny73 := hkvy69.1
      refine z_aload_n C 2 dX10_table1_62 rfl ?_
      refine z_get (v := .ref (ad (i + 22))) C (lt_A0 hN rfl) hay1 hcvy69 rfl inA_X10 45 (by decide) q_1504 rfl rfl dX10_table1_63 ?_
      refine z_iload_n C 0 dX10_table1_66 rfl ?_
      refine z_aload_n C 2 dX10_table1_67 rfl ?_
      refine z_iload_n C 1 dX10_table1_68 rfl ?_
      refine z_iconst (z := 2) C dX10_table1_69 rfl ?_
      refine z_icmp_ne (tgt := 77) C dX10_table1_70 (by decide) (by omega) (by omega) (fun _ => ?_) (fun h => absurd h (by omega))
      refine z_iconst (z := 0) C dX10_table1_77 rfl ?_
      refine z_iload_n C 1 dX10_table1_78 rfl ?_
      refine z_iconst (z := 2) C dX10_table1_79 rfl ?_
      refine z_icmp_ne (tgt := 89) C dX10_table1_80 (by decide) (by omega) (by omega) (fun _ => ?_) (fun h => absurd h (by omega))
      refine z_bipush (z := 99) C dX10_table1_89 (by decide) ?_
      have hgy74 := (hfvy69 (i + 13) (ne_o (i := i) (c := 13) (d := 0) rfl)).trans hgy68
      have h24vy75 : Fvy69 24 = F 24 := ((hFvy69 24 (by decide) (by decide) (by decide) (by decide) (by decide)).trans hbvy67)
      refine z_cV (As := [.int (zI (0)), .int (zI (99))]) (rest := [.int (zI ((kty25 : Int))), .ref (ad (i + 22))]) (ci := 12) C (c_yNumber l D A cs tt N ad _ i hN _ hcvy69 _ hgy74 T n hn hTb hTt htp (tk_nx T n (tk_nx T n f)) hkvy69 ((hFvy69 38 (by decide) (by decide) (by decide) (by decide) (by decide)).trans hevy67) (0) (by omega) (99) (by omega)) (lt_A0 hN rfl) hay1 hcvy69 rfl rfl mv_yX10_number q_1682 hd_yX10_number (by decide) (Nat.le_of_ble_eq_true rfl) (by decide) dX10_table1_91 rfl (kI0 fun vy75 gvy75 hvy75 => ?_)
      obtain ⟨⟨Fvy75, hcvy75, hqvy75, hFvy75⟩, hfvy75⟩ := hvy75
      rcases hqvy75 with hqvy75 | hqvy75
      · obtain ⟨hnvy75, hrvy75, hltvy75, hevy75, hb0vy75, hkvy75⟩ := hqvy75
        have hbvy75 : Fvy75 24 = F 24 := hb0vy75.trans h24vy75
        have hnbvy75 := tk_nx_s (T := T) (n := n) (f := (tk_nx T n (tk_nx T n f))) hltvy75
        clear hb0vy75 h24vy75
        have hsry76 := srt_b T n (tk_nx T n (tk_nx T n (tk_nx T n f)))
        have hvly77 := vlu_b hTb (tk_nx T n (tk_nx T n (tk_nx T n f)))
        have hwby78 := tk_w_b T n (tk_nx T n (tk_nx T n (tk_nx T n f)))
        have hfny79 := hkvy75.1
        have hgy80 := (hfvy67 (i + 22) (ne_o (i := i) (c := 22) (d := 0) rfl)).trans hgy27
        have hgy81 := (hfvy69 (i + 22) (ne_o (i := i) (c := 22) (d := 0) rfl)).trans hgy80
        have hgy82 := (hfvy75 (i + 22) (ne_o (i := i) (c := 22) (d := 0) rfl)).trans hgy81
        refine z_iast C (lt_A (c := 22) hN rfl) hay13 hgy82 (kty25) (by omega) (by omega) (by decide) dX10_table1_94 (fun gy83 egy84 => ?_)
        have hgy85 := up_s egy84
        obtain ⟨ry86, hvy87⟩ : ∃ rZ9 : Nat → Int, rZ9 = uZ tb1 (kty25) (vy75) := ⟨_, rfl⟩
        rw [← hvy87] at hgy85
        have hgy88 := up_n egy84 hcvy75 (ne_o (i := i) (c := 0) (d := 22) rfl)
        have hFy89 : ∀ f, f ≠ 24 → f ≠ 32 → f ≠ 33 → f ≠ 35 → f ≠ 36 → f ≠ 37 → f ≠ 38 → f ≠ 47 → f ≠ 48 → f ≠ 49 → Fvy75 f = F f := fun f n24 n32 n33 n35 n36 n37 n38 n47 n48 n49 => ((hFvy75 f n24 n32 n33 n35 n36 n37 n38).trans ((hFvy69 f n32 n33 n35 n36 n37).trans ((hFvy67 f n24 n38).trans ((hFvy22 f n24 n38).trans (hFvy15 f n32 n33 n35 n36 n37)))))
        have htky90 : tkR T n Fvy75 (tk_nx T n (tk_nx T n (tk_nx T n f))) := hkvy75
        have htoy91 := tk_to_w (T := T) (n := n) (f := (tk_nx T n (tk_nx T n (tk_nx T n f)))) htky90.1.1
        have h32y92 := htky90.2.1
        have hey93 : Fvy75 24 = F 24 := hbvy75
        have hey94 : Fvy75 38 = 0 := hevy75
        have hey95 : Fvy75 47 = sl := ((hFvy75 47 (by decide) (by decide) (by decide) (by decide) (by decide) (by decide) (by decide)).trans ((hFvy69 47 (by decide) (by decide) (by decide) (by decide) (by decide)).trans ((hFvy67 47 (by decide) (by decide)).trans ((hFvy22 47 (by decide) (by decide)).trans ((hFvy15 47 (by decide) (by decide) (by decide) (by decide) (by decide)).trans r47)))))
        have hey96 : Fvy75 48 = ho := ((hFvy75 48 (by decide) (by decide) (by decide) (by decide) (by decide) (by decide) (by decide)).trans ((hFvy69 48 (by decide) (by decide) (by decide) (by decide) (by decide)).trans ((hFvy67 48 (by decide) (by decide)).trans ((hFvy22 48 (by decide) (by decide)).trans ((hFvy15 48 (by decide) (by decide) (by decide) (by decide) (by decide)).trans r48)))))
        have hey97 : Fvy75 49 = nm := ((hFvy75 49 (by decide) (by decide) (by decide) (by decide) (by decide) (by decide) (by decide)).trans ((hFvy69 49 (by decide) (by decide) (by decide) (by decide) (by decide)).trans ((hFvy67 49 (by decide) (by decide)).trans ((hFvy22 49 (by decide) (by decide)).trans ((hFvy15 49 (by decide) (by decide) (by decide) (by decide) (by decide)).trans r49)))))
        have hfry100 : ∀ j, j ≠ kty25 → ry86 j = tb1 j := fun j n0 => (congrFun hvy87 _).trans ((uZ_n _ _ n0).trans (rfl))
        have hwy101 : ry86 (kty25) = vy75 := (congrFun hvy87 _).trans (uZ_s _ _ _)
        have haky99 : ∀ k, k < 15 → ry86 k = -1 ∨ ((0 ≤ ry86 k ∧ ry86 k ≤ 9999) ∧ (10 ≤ k → 1 ≤ ry86 k)) := by
          intro k hk
          by_cases e : k = kty25
          · rw [e]; have hk0 := htb1 (kty25) (by omega); omega
          · have hk0 := htb1 k hk; rw [hfry100 k e]; exact hk0
        have hlay102 : ∀ s l : Nat, (s : Int) < Fvy75 47 → (l : Int) < mn1 s → lyT ly1 (84 * s + 7 * l) := by
          intro s l a1 a2
          have hm9 := hmn1 s (by omega)
          exact hly1 s l (by omega) a2
        have hgy103 := (hfvy15 (i + 16) (ne_o (i := i) (c := 16) (d := 0) rfl)).trans ha16
        have hgy104 := (hfvy22 (i + 16) (ne_o (i := i) (c := 16) (d := 0) rfl)).trans hgy103
        have hgy105 := (hfvy67 (i + 16) (ne_o (i := i) (c := 16) (d := 0) rfl)).trans hgy104
        have hgy106 := (hfvy69 (i + 16) (ne_o (i := i) (c := 16) (d := 0) rfl)).trans hgy105
        have hgy107 := (hfvy75 (i + 16) (ne_o (i := i) (c := 16) (d := 0) rfl)).trans hgy106
        have hgy108 := up_n egy84 hgy107 (ne_o (i := i) (c := 16) (d := 22) rfl)
        have hgy109 := (hfvy15 (i + 17) (ne_o (i := i) (c := 17) (d := 0) rfl)).trans ha17
        have hgy110 := (hfvy22 (i + 17) (ne_o (i := i) (c := 17) (d := 0) rfl)).trans hgy109
        have hgy111 := (hfvy67 (i + 17) (ne_o (i := i) (c := 17) (d := 0) rfl)).trans hgy110
        have hgy112 := (hfvy69 (i + 17) (ne_o (i := i) (c := 17) (d := 0) rfl)).trans hgy111
        have hgy113 := (hfvy75 (i + 17) (ne_o (i := i) (c := 17) (d := 0) rfl)).trans hgy112
        have hgy114 := up_n egy84 hgy113 (ne_o (i := i) (c := 17) (d := 22) rfl)
        have hgy115 := (hfvy15 (i + 18) (ne_o (i := i) (c := 18) (d := 0) rfl)).trans ha18
        have hgy116 := (hfvy22 (i + 18) (ne_o (i := i) (c := 18) (d := 0) rfl)).trans hgy115
        have hgy117 := (hfvy67 (i + 18) (ne_o (i := i) (c := 18) (d := 0) rfl)).trans hgy116
        have hgy118 := (hfvy69 (i + 18) (ne_o (i := i) (c := 18) (d := 0) rfl)).trans hgy117
        have hgy119 := (hfvy75 (i + 18) (ne_o (i := i) (c := 18) (d := 0) rfl)).trans hgy118
        have hgy120 := up_n egy84 hgy119 (ne_o (i := i) (c := 18) (d := 22) rfl)
        have hgy121 := (hfvy15 (i + 19) (ne_o (i := i) (c := 19) (d := 0) rfl)).trans ha19
        have hgy122 := (hfvy22 (i + 19) (ne_o (i := i) (c := 19) (d := 0) rfl)).trans hgy121
        have hgy123 := (hfvy67 (i + 19) (ne_o (i := i) (c := 19) (d := 0) rfl)).trans hgy122
        have hgy124 := (hfvy69 (i + 19) (ne_o (i := i) (c := 19) (d := 0) rfl)).trans hgy123
        have hgy125 := (hfvy75 (i + 19) (ne_o (i := i) (c := 19) (d := 0) rfl)).trans hgy124
        have hgy126 := up_n egy84 hgy125 (ne_o (i := i) (c := 19) (d := 22) rfl)
        have hgy127 := (hfvy15 (i + 20) (ne_o (i := i) (c := 20) (d := 0) rfl)).trans ha20
        have hgy128 := (hfvy22 (i + 20) (ne_o (i := i) (c := 20) (d := 0) rfl)).trans hgy127
        have hgy129 := (hfvy67 (i + 20) (ne_o (i := i) (c := 20) (d := 0) rfl)).trans hgy128
        have hgy130 := (hfvy69 (i + 20) (ne_o (i := i) (c := 20) (d := 0) rfl)).trans hgy129
        have hgy131 := (hfvy75 (i + 20) (ne_o (i := i) (c := 20) (d := 0) rfl)).trans hgy130
        have hgy132 := up_n egy84 hgy131 (ne_o (i := i) (c := 20) (d := 22) rfl)
        have hgy133 := (hfvy15 (i + 21) (ne_o (i := i) (c := 21) (d := 0) rfl)).trans ha21
        have hgy134 := (hfvy22 (i + 21) (ne_o (i := i) (c := 21) (d := 0) rfl)).trans hgy133
        have hgy135 := (hfvy67 (i + 21) (ne_o (i := i) (c := 21) (d := 0) rfl)).trans hgy134
        have hgy136 := (hfvy69 (i + 21) (ne_o (i := i) (c := 21) (d := 0) rfl)).trans hgy135
        have hgy137 := (hfvy75 (i + 21) (ne_o (i := i) (c := 21) (d := 0) rfl)).trans hgy136
        have hgy138 := up_n egy84 hgy137 (ne_o (i := i) (c := 21) (d := 22) rfl)
        have hgy139 := (hfvy15 (i + 23) (ne_o (i := i) (c := 23) (d := 0) rfl)).trans ha23
        have hgy140 := (hfvy22 (i + 23) (ne_o (i := i) (c := 23) (d := 0) rfl)).trans hgy139
        have hgy141 := (hfvy67 (i + 23) (ne_o (i := i) (c := 23) (d := 0) rfl)).trans hgy140
        have hgy142 := (hfvy69 (i + 23) (ne_o (i := i) (c := 23) (d := 0) rfl)).trans hgy141
        have hgy143 := (hfvy75 (i + 23) (ne_o (i := i) (c := 23) (d := 0) rfl)).trans hgy142
        have hgy144 := up_n egy84 hgy143 (ne_o (i := i) (c := 23) (d := 22) rfl)
        have hfry145 : ∀ j, j ≠ kty25 → ry86 j = tb1 j := fun j n0 => (congrFun hvy87 _).trans ((uZ_n _ _ n0).trans (rfl))
        have hwy146 : ry86 (kty25) = vy75 := (congrFun hvy87 _).trans (uZ_s _ _ _)
        have hxty147 : xTx cs gy83 i Fvy75 _ := ⟨_, _, _, _, _, _, _, _, ⟨hgy108, hgy114, hgy120, hgy126, hgy132, hgy138, hgy85, hgy144⟩, ⟨⟨by omega, by omega, by omega⟩, hop1, hmn1, hai1, hfa1, haky99, hlay102⟩, rT.table (v1 := 5 + tk_kd T n (tk_nx T n f)) (a := vy75) hrT (kty25) (by omega) (by omega) ⟨by show Fvy75 47 = sl; omega, by show Fvy75 48 = ho; omega, by show Fvy75 49 = nm; omega⟩ hfry145 (by omega)⟩
        exact z_vret C hr hlk dX10_table1_95 (by decide) (by decide) ⟨rfl, rfl, rfl, ⟨_, hgy88, hFy89, Or.inl ⟨_, by simp only [cl_table, if_neg hxvy20, if_neg hscy31, hnvy75]; rfl, by omega, by omega, by show f < (tk_nx T n (tk_nx T n (tk_nx T n f))); omega, htky90, hxty147⟩⟩, fun j j1 j2 => by rw [egy84, va_up_ne _ _ (by omega)]; rw [hfvy75 _ (by omega)]; rw [hfvy69 _ (by omega)]; rw [hfvy67 _ (by omega)]; rw [hfvy22 _ (by omega)]; rw [hfvy15 _ (by omega)]⟩
      · obtain ⟨rfl, cvy75, hrvy75, hnvy75, hevy75, hbvy75, hkvy75⟩ := hqvy75
        clear h24vy75
        have hsry148 := srt_b T n (tk_nx T n (tk_nx T n f))
        have hvly149 := vlu_b hTb (tk_nx T n (tk_nx T n f))
        have hwby150 := tk_w_b T n (tk_nx T n (tk_nx T n f))
        have hfny151 := hkvy75.1
        have hgy152 := (hfvy67 (i + 22) (ne_o (i := i) (c := 22) (d := 0) rfl)).trans hgy27
        have hgy153 := (hfvy69 (i + 22) (ne_o (i := i) (c := 22) (d := 0) rfl)).trans hgy152
        have hgy154 := (hfvy75 (i + 22) (ne_o (i := i) (c := 22) (d := 0) rfl)).trans hgy153
        refine z_iast C (lt_A (c := 22) hN rfl) hay13 hgy154 (kty25) (by omega) (by omega) (by decide) dX10_table1_94 (fun gy155 egy156 => ?_)
        have hgy157 := up_s egy156
        obtain ⟨ry158, hvy159⟩ : ∃ rZ9 : Nat → Int, rZ9 = uZ tb1 (kty25) (0) := ⟨_, rfl⟩
        rw [← hvy159] at hgy157
        have hgy160 := up_n egy156 hcvy75 (ne_o (i := i) (c := 0) (d := 22) rfl)
        have hFy161 : ∀ f, f ≠ 24 → f ≠ 32 → f ≠ 33 → f ≠ 35 → f ≠ 36 → f ≠ 37 → f ≠ 38 → f ≠ 47 → f ≠ 48 → f ≠ 49 → Fvy75 f = F f := fun f n24 n32 n33 n35 n36 n37 n38 n47 n48 n49 => ((hFvy75 f n24 n32 n33 n35 n36 n37 n38).trans ((hFvy69 f n32 n33 n35 n36 n37).trans ((hFvy67 f n24 n38).trans ((hFvy22 f n24 n38).trans (hFvy15 f n32 n33 n35 n36 n37)))))
        have htky162 : tkR T n Fvy75 (tk_nx T n (tk_nx T n f)) := hkvy75
        have htoy163 := tk_to_w (T := T) (n := n) (f := (tk_nx T n (tk_nx T n f))) htky162.1.1
        have h32y164 := htky162.2.1
        have hey165 : Fvy75 24 = ((tk_nx T n (tk_nx T n f)) : Int) := hbvy75
        have hey166 : Fvy75 38 = cvy75 := hevy75
        have hey167 : Fvy75 47 = sl := ((hFvy75 47 (by decide) (by decide) (by decide) (by decide) (by decide) (by decide) (by decide)).trans ((hFvy69 47 (by decide) (by decide) (by decide) (by decide) (by decide)).trans ((hFvy67 47 (by decide) (by decide)).trans ((hFvy22 47 (by decide) (by decide)).trans ((hFvy15 47 (by decide) (by decide) (by decide) (by decide) (by decide)).trans r47)))))
        have hey168 : Fvy75 48 = ho := ((hFvy75 48 (by decide) (by decide) (by decide) (by decide) (by decide) (by decide) (by decide)).trans ((hFvy69 48 (by decide) (by decide) (by decide) (by decide) (by decide)).trans ((hFvy67 48 (by decide) (by decide)).trans ((hFvy22 48 (by decide) (by decide)).trans ((hFvy15 48 (by decide) (by decide) (by decide) (by decide) (by decide)).trans r48)))))
        have hey169 : Fvy75 49 = nm := ((hFvy75 49 (by decide) (by decide) (by decide) (by decide) (by decide) (by decide) (by decide)).trans ((hFvy69 49 (by decide) (by decide) (by decide) (by decide) (by decide)).trans ((hFvy67 49 (by decide) (by decide)).trans ((hFvy22 49 (by decide) (by decide)).trans ((hFvy15 49 (by decide) (by decide) (by decide) (by decide) (by decide)).trans r49)))))
        have hfry172 : ∀ j, j ≠ kty25 → ry158 j = tb1 j := fun j n0 => (congrFun hvy159 _).trans ((uZ_n _ _ n0).trans (rfl))
        have hwy173 : ry158 (kty25) = 0 := (congrFun hvy159 _).trans (uZ_s _ _ _)
        have haky171 : ∀ k, k < 15 → ry158 k = -1 ∨ ((0 ≤ ry158 k ∧ ry158 k ≤ 9999) ∧ (10 ≤ k → 1 ≤ ry158 k)) := by
          intro k hk
          by_cases e : k = kty25
          · rw [e]; have hk0 := htb1 (kty25) (by omega); omega
          · have hk0 := htb1 k hk; rw [hfry172 k e]; exact hk0
        have hlay174 : ∀ s l : Nat, (s : Int) < Fvy75 47 → (l : Int) < mn1 s → lyT ly1 (84 * s + 7 * l) := by
          intro s l a1 a2
          have hm9 := hmn1 s (by omega)
          exact hly1 s l (by omega) a2
        have hgy175 := (hfvy15 (i + 16) (ne_o (i := i) (c := 16) (d := 0) rfl)).trans ha16
        have hgy176 := (hfvy22 (i + 16) (ne_o (i := i) (c := 16) (d := 0) rfl)).trans hgy175
        have hgy177 := (hfvy67 (i + 16) (ne_o (i := i) (c := 16) (d := 0) rfl)).trans hgy176
        have hgy178 := (hfvy69 (i + 16) (ne_o (i := i) (c := 16) (d := 0) rfl)).trans hgy177
        have hgy179 := (hfvy75 (i + 16) (ne_o (i := i) (c := 16) (d := 0) rfl)).trans hgy178
        have hgy180 := up_n egy156 hgy179 (ne_o (i := i) (c := 16) (d := 22) rfl)
        have hgy181 := (hfvy15 (i + 17) (ne_o (i := i) (c := 17) (d := 0) rfl)).trans ha17
        have hgy182 := (hfvy22 (i + 17) (ne_o (i := i) (c := 17) (d := 0) rfl)).trans hgy181
        have hgy183 := (hfvy67 (i + 17) (ne_o (i := i) (c := 17) (d := 0) rfl)).trans hgy182
        have hgy184 := (hfvy69 (i + 17) (ne_o (i := i) (c := 17) (d := 0) rfl)).trans hgy183
        have hgy185 := (hfvy75 (i + 17) (ne_o (i := i) (c := 17) (d := 0) rfl)).trans hgy184
        have hgy186 := up_n egy156 hgy185 (ne_o (i := i) (c := 17) (d := 22) rfl)
        have hgy187 := (hfvy15 (i + 18) (ne_o (i := i) (c := 18) (d := 0) rfl)).trans ha18
        have hgy188 := (hfvy22 (i + 18) (ne_o (i := i) (c := 18) (d := 0) rfl)).trans hgy187
        have hgy189 := (hfvy67 (i + 18) (ne_o (i := i) (c := 18) (d := 0) rfl)).trans hgy188
        have hgy190 := (hfvy69 (i + 18) (ne_o (i := i) (c := 18) (d := 0) rfl)).trans hgy189
        have hgy191 := (hfvy75 (i + 18) (ne_o (i := i) (c := 18) (d := 0) rfl)).trans hgy190
        have hgy192 := up_n egy156 hgy191 (ne_o (i := i) (c := 18) (d := 22) rfl)
        have hgy193 := (hfvy15 (i + 19) (ne_o (i := i) (c := 19) (d := 0) rfl)).trans ha19
        have hgy194 := (hfvy22 (i + 19) (ne_o (i := i) (c := 19) (d := 0) rfl)).trans hgy193
        have hgy195 := (hfvy67 (i + 19) (ne_o (i := i) (c := 19) (d := 0) rfl)).trans hgy194
        have hgy196 := (hfvy69 (i + 19) (ne_o (i := i) (c := 19) (d := 0) rfl)).trans hgy195
        have hgy197 := (hfvy75 (i + 19) (ne_o (i := i) (c := 19) (d := 0) rfl)).trans hgy196
        have hgy198 := up_n egy156 hgy197 (ne_o (i := i) (c := 19) (d := 22) rfl)
        have hgy199 := (hfvy15 (i + 20) (ne_o (i := i) (c := 20) (d := 0) rfl)).trans ha20
        have hgy200 := (hfvy22 (i + 20) (ne_o (i := i) (c := 20) (d := 0) rfl)).trans hgy199
        have hgy201 := (hfvy67 (i + 20) (ne_o (i := i) (c := 20) (d := 0) rfl)).trans hgy200
        have hgy202 := (hfvy69 (i + 20) (ne_o (i := i) (c := 20) (d := 0) rfl)).trans hgy201
        have hgy203 := (hfvy75 (i + 20) (ne_o (i := i) (c := 20) (d := 0) rfl)).trans hgy202
        have hgy204 := up_n egy156 hgy203 (ne_o (i := i) (c := 20) (d := 22) rfl)
        have hgy205 := (hfvy15 (i + 21) (ne_o (i := i) (c := 21) (d := 0) rfl)).trans ha21
        have hgy206 := (hfvy22 (i + 21) (ne_o (i := i) (c := 21) (d := 0) rfl)).trans hgy205
        have hgy207 := (hfvy67 (i + 21) (ne_o (i := i) (c := 21) (d := 0) rfl)).trans hgy206
        have hgy208 := (hfvy69 (i + 21) (ne_o (i := i) (c := 21) (d := 0) rfl)).trans hgy207
        have hgy209 := (hfvy75 (i + 21) (ne_o (i := i) (c := 21) (d := 0) rfl)).trans hgy208
        have hgy210 := up_n egy156 hgy209 (ne_o (i := i) (c := 21) (d := 22) rfl)
        have hgy211 := (hfvy15 (i + 23) (ne_o (i := i) (c := 23) (d := 0) rfl)).trans ha23
        have hgy212 := (hfvy22 (i + 23) (ne_o (i := i) (c := 23) (d := 0) rfl)).trans hgy211
        have hgy213 := (hfvy67 (i + 23) (ne_o (i := i) (c := 23) (d := 0) rfl)).trans hgy212
        have hgy214 := (hfvy69 (i + 23) (ne_o (i := i) (c := 23) (d := 0) rfl)).trans hgy213
        have hgy215 := (hfvy75 (i + 23) (ne_o (i := i) (c := 23) (d := 0) rfl)).trans hgy214
        have hgy216 := up_n egy156 hgy215 (ne_o (i := i) (c := 23) (d := 22) rfl)
        have htxy217 : okTx cs gy155 i Fvy75 := ⟨_, _, _, _, _, _, _, _, ⟨hgy180, hgy186, hgy192, hgy198, hgy204, hgy210, hgy157, hgy216⟩, ⟨⟨by omega, by omega, by omega⟩, hop1, hmn1, hai1, hfa1, haky171, hlay174⟩⟩
        exact z_vret C hr hlk dX10_table1_95 (by decide) (by decide) ⟨rfl, rfl, rfl, ⟨_, hgy160, hFy161, Or.inr ⟨(cvy75, (tk_nx T n (tk_nx T n f))), by simp only [cl_table, if_neg hxvy20, if_neg hscy31, hnvy75], by show Fvy75 38 = cvy75; omega, by show Fvy75 24 = (((tk_nx T n (tk_nx T n f)) : Nat) : Int); omega, by show 1 ≤ cvy75 ∧ cvy75 ≤ 5; omega, ⟨_, htky162⟩, htxy217⟩⟩, fun j j1 j2 => by rw [egy156, va_up_ne _ _ (by omega)]; rw [hfvy75 _ (by omega)]; rw [hfvy69 _ (by omega)]; rw [hfvy67 _ (by omega)]; rw [hfvy22 _ (by omega)]; rw [hfvy15 _ (by omega)]⟩
  · refine z_iconst (z := 1) C dX10_table1_17 rfl ?_
    have h33vy218 : Fvy15 33 = ((tk_nx T n f) : Int) := hkvy15.2.2.1
    have h24vy218 : Fvy15 24 = F 24 := (hFvy15 24 (by decide) (by decide) (by decide) (by decide) (by decide))
    have htvy218 : tkR T n Fvy15 (tk_nx T n f) := hkvy15
    refine z_cV (As := [.int (zI (0)), .int (zI (1))]) (rest := []) (ci := 12) C (c_yWants l D A cs tt N ad _ i hN _ hcvy15 ((hFvy15 38 (by decide) (by decide) (by decide) (by decide) (by decide)).trans h38) (0) (by omega) (1) (by omega)) (lt_A0 hN rfl) hay1 hcvy15 rfl rfl mv_yX10_wants q_1678 hd_yX10_wants (by decide) (Nat.le_of_ble_eq_true rfl) (by decide) dX10_table1_18 rfl (kI0 fun vy218 gvy218 hvy218 => ?_)
    obtain ⟨⟨Fvy218, hcvy218, hqvy218, hFvy218⟩, hfvy218⟩ := hvy218
    obtain ⟨rfl, hevy218, hbvy218⟩ : vy218 = 0 ∧ Fvy218 38 = 1 ∧ Fvy218 24 = ((tk_nx T n f) : Int) := by omega
    clear hqvy218 h33vy218 h24vy218
    have hkvy218 : tkR T n Fvy218 (tk_nx T n f) := tkR.w htvy218 hFvy218 (by omega)
    refine z_if_ne (tgt := 25) C dX10_table1_21 (by decide) (by omega) (fun h => absurd h (by omega)) (fun _ => ?_)
    have hFy219 : ∀ f, f ≠ 24 → f ≠ 32 → f ≠ 33 → f ≠ 35 → f ≠ 36 → f ≠ 37 → f ≠ 38 → f ≠ 47 → f ≠ 48 → f ≠ 49 → Fvy218 f = F f := fun f n24 n32 n33 n35 n36 n37 n38 n47 n48 n49 => ((hFvy218 f n24 n38).trans (hFvy15 f n32 n33 n35 n36 n37))
    have htky220 : tkR T n Fvy218 (tk_nx T n f) := hkvy218
    have htoy221 := tk_to_w (T := T) (n := n) (f := (tk_nx T n f)) htky220.1.1
    have h32y222 := htky220.2.1
    have hey223 : Fvy218 24 = ((tk_nx T n f) : Int) := hbvy218
    have hey224 : Fvy218 38 = 1 := hevy218
    have hey225 : Fvy218 47 = sl := ((hFvy218 47 (by decide) (by decide)).trans ((hFvy15 47 (by decide) (by decide) (by decide) (by decide) (by decide)).trans r47))
    have hey226 : Fvy218 48 = ho := ((hFvy218 48 (by decide) (by decide)).trans ((hFvy15 48 (by decide) (by decide) (by decide) (by decide) (by decide)).trans r48))
    have hey227 : Fvy218 49 = nm := ((hFvy218 49 (by decide) (by decide)).trans ((hFvy15 49 (by decide) (by decide) (by decide) (by decide) (by decide)).trans r49))
    have hlay229 : ∀ s l : Nat, (s : Int) < Fvy218 47 → (l : Int) < mn1 s → lyT ly1 (84 * s + 7 * l) := by
      intro s l a1 a2
      have hm9 := hmn1 s (by omega)
      exact hly1 s l (by omega) a2
    have hgy230 := (hfvy15 (i + 16) (ne_o (i := i) (c := 16) (d := 0) rfl)).trans ha16
    have hgy231 := (hfvy218 (i + 16) (ne_o (i := i) (c := 16) (d := 0) rfl)).trans hgy230
    have hgy232 := (hfvy15 (i + 17) (ne_o (i := i) (c := 17) (d := 0) rfl)).trans ha17
    have hgy233 := (hfvy218 (i + 17) (ne_o (i := i) (c := 17) (d := 0) rfl)).trans hgy232
    have hgy234 := (hfvy15 (i + 18) (ne_o (i := i) (c := 18) (d := 0) rfl)).trans ha18
    have hgy235 := (hfvy218 (i + 18) (ne_o (i := i) (c := 18) (d := 0) rfl)).trans hgy234
    have hgy236 := (hfvy15 (i + 19) (ne_o (i := i) (c := 19) (d := 0) rfl)).trans ha19
    have hgy237 := (hfvy218 (i + 19) (ne_o (i := i) (c := 19) (d := 0) rfl)).trans hgy236
    have hgy238 := (hfvy15 (i + 20) (ne_o (i := i) (c := 20) (d := 0) rfl)).trans ha20
    have hgy239 := (hfvy218 (i + 20) (ne_o (i := i) (c := 20) (d := 0) rfl)).trans hgy238
    have hgy240 := (hfvy15 (i + 21) (ne_o (i := i) (c := 21) (d := 0) rfl)).trans ha21
    have hgy241 := (hfvy218 (i + 21) (ne_o (i := i) (c := 21) (d := 0) rfl)).trans hgy240
    have hgy242 := (hfvy15 (i + 22) (ne_o (i := i) (c := 22) (d := 0) rfl)).trans ha22
    have hgy243 := (hfvy218 (i + 22) (ne_o (i := i) (c := 22) (d := 0) rfl)).trans hgy242
    have hgy244 := (hfvy15 (i + 23) (ne_o (i := i) (c := 23) (d := 0) rfl)).trans ha23
    have hgy245 := (hfvy218 (i + 23) (ne_o (i := i) (c := 23) (d := 0) rfl)).trans hgy244
    have htxy246 : okTx cs gvy218 i Fvy218 := ⟨_, _, _, _, _, _, _, _, ⟨hgy231, hgy233, hgy235, hgy237, hgy239, hgy241, hgy243, hgy245⟩, ⟨⟨by omega, by omega, by omega⟩, hop1, hmn1, hai1, hfa1, htb1, hlay229⟩⟩
    exact z_vret C hr hlk dX10_table1_24 (by decide) (by decide) ⟨rfl, rfl, rfl, ⟨_, hcvy218, hFy219, Or.inr ⟨(1, (tk_nx T n f)), by simp only [cl_table, if_pos hxvy20], by show Fvy218 38 = 1; omega, by show Fvy218 24 = (((tk_nx T n f) : Nat) : Int); omega, by show 1 ≤ 1 ∧ 1 ≤ 5; omega, ⟨_, htky220⟩, htxy246⟩⟩, fun j j1 j2 => by rw [hfvy218 _ (by omega)]; rw [hfvy15 _ (by omega)]⟩

set_option maxRecDepth 100000 in
set_option maxHeartbeats 4000000 in
theorem c_yTable2 (l : Launch) (D : va_G) (A : Nat → Prop) (cs : Nat → ClassId) (tt : Nat) (N : Nat) (ad : Nat → Nat) (g : Nat → va_E) (i : Nat) (hN : i + 30 ≤ N) (F : Nat → Int) (hg : g i = mC ad i F) (tp : Nat → Int) (ha13 : g (i + 13) = iA cs 900 tp) (T : Nat → Int) (n : Nat) (hn : n ≤ 900) (hTb : ∀ k, k < n → 0 ≤ T k ∧ T k ≤ 255) (hTt : ∀ k, k < n → tp k = T k) (htp : ∀ k, k < 900 → 0 ≤ tp k ∧ tp k ≤ 255) (f : Nat) (hk : tkR T n F f) (h38 : F 38 = 0) (hfl : f < n) (sl ho nm : Int) (mn st op ai fa mu tb B : Nat → Int) (Lz : Nat → Nat → Int) (hX : xTx cs g i F (sl, ho, nm, mn, st, op, ai, fa, mu, tb, B, Lz)) (hwd : tk_w T n f = 8) : zM l yX10_table1 cX10_table1 3 none ({ frames := 5, cells := 0, slots := 0, locals := 300 } : Room) D A cs tt N ad g [.ref (ad i)] (rV0 N ad fun g' => (∃ F' : Nat → Int, g' i = mC ad i F' ∧ (∀ f, f ≠ 24 → f ≠ 32 → f ≠ 33 → f ≠ 35 → f ≠ 36 → f ≠ 37 → f ≠ 38 → f ≠ 47 → f ≠ 48 → f ≠ 49 → F' f = F f) ∧ ((∃ v, cl_table T n B 10 1 9999 f = .ok v ∧ F' 38 = 0 ∧ F' 24 = F 24 ∧ f < v.2 ∧ tkR T n F' v.2 ∧ xTx cs g' i F' (sl, ho, nm, mn, st, op, ai, fa, mu, uZ tb v.1.1.toNat v.1.2, uZ B v.1.1.toNat 1, Lz)) ∨ (∃ e : Int × Nat, cl_table T n B 10 1 9999 f = .error e ∧ F' 38 = e.1 ∧ F' 24 = (e.2 : Int) ∧ (1 ≤ e.1 ∧ e.1 ≤ 5) ∧ (∃ f9, tkR T n F' f9) ∧ okTx cs g' i F'))) ∧ ∀ j, j ≠ i → j < i + 16 ∨ i + 23 < j → g' j = g j) := by
  have hay1 : zAt ad (i) (ad i) := rfl
  have hay2 : zAt ad (i + 13) (ad (i + 13)) := rfl
  have hsry3 := srt_b T n f
  have hvly4 := vlu_b hTb f
  have hwby5 := tk_w_b T n f
  have hfny6 := hk.1
  obtain ⟨st1, op1, mn1, ai1, fa1, mu1, tb1, ly1, ⟨ha16, ha17, ha18, ha19, ha20, ha21, ha22, ha23⟩, ⟨⟨t47, t48, t49⟩, hop1, hmn1, hai1, hfa1, htb1, hly1⟩, hrT⟩ := hX
  have r47 : F 47 = sl := hrT.1.1
  have r48 : F 48 = ho := hrT.1.2.1
  have r49 : F 49 = nm := hrT.1.2.2
  have r32 : F 32 = ((tk_to T n f : Nat) : Int) := hk.2.1
  have hto0 := tk_to_nx (T := T) (n := n) (f := f) hk.1.1
  have rsl : ∀ k : Nat, (k : Int) < sl → mn1 k = mn k := fun k h9 => (hrT.2.1 k h9).2.2
  have rtb : ∀ k : Nat, k < 15 → (tb1 k = -1 ∧ B k = 0) ∨ (0 ≤ tb1 k ∧ B k = 1) := fun k h9 => by
    rcases hrT.2.2.2.1 k h9 with ⟨a9, b9, c9⟩ | ⟨a9, b9, c9⟩
    · exact Or.inl ⟨a9, b9⟩
    · exact Or.inr ⟨a9, b9⟩
  have rs4 : 0 ≤ sl ∧ sl ≤ 4 := by omega
  have rh4 : 0 ≤ ho ∧ ho ≤ 24 := by omega
  have hay7 : zAt ad (i + 16) (ad (i + 16)) := rfl
  have hay8 : zAt ad (i + 17) (ad (i + 17)) := rfl
  have hay9 : zAt ad (i + 18) (ad (i + 18)) := rfl
  have hay10 : zAt ad (i + 19) (ad (i + 19)) := rfl
  have hay11 : zAt ad (i + 20) (ad (i + 20)) := rfl
  have hay12 : zAt ad (i + 21) (ad (i + 21)) := rfl
  have hay13 : zAt ad (i + 22) (ad (i + 22)) := rfl
  have hay14 : zAt ad (i + 23) (ad (i + 23)) := rfl
  have htbr : ∀ k, k < 15 → -1 ≤ tb1 k ∧ tb1 k ≤ 9999 := fun k hk => by have h9 := htb1 k hk; omega
  have hw37 : F 37 = 8 := hk.2.2.2.2.2.2.1.trans hwd
  refine z_of (by decide) (Nat.le_of_ble_eq_true rfl) ?_
  intro pZ eZ sZ mZ below meth cZ C hr hlk hnm
  refine z_lv (lv' := [(0, .ref (ad i))]) [0] rfl ?_
  refine z_aload_n C 0 dX10_table1_0 rfl ?_
  refine z_get (v := .int (zI (8))) C (lt_A0 hN rfl) hay1 hg rfl inA_X10 37 (by decide) q_1496 rfl (fv (F := F) (f := 37) hw37) dX10_table1_1 ?_
  refine z_bipush (z := 6) C dX10_table1_4 (by decide) ?_
  refine z_isub C dX10_table1_6 ?_
  refine z_istore_n (lv' := [(1, .int (zI (8 - 6))), (0, .ref (ad i))]) C dX10_table1_7 rfl (by decide) rfl ?_
  refine z_aload_n C 1 dX10_table1_8 rfl ?_
  have htvy15 : tkR T n F f := hk
  refine z_cV (As := []) (rest := []) (ci := 12) C (c_yGo l D A cs tt N ad _ i hN _ hg _ ha13 T n hn hTb hTt htp (tk_to T n f) (tk_to_b htvy15.1.1).2.1 htvy15.2.1 htvy15.2.2.2.1 htvy15.2.2.2.2.2.2.2) (lt_A0 hN rfl) hay1 hg rfl rfl mv_yX10_go q_1652 hd_yX10_go (by decide) (Nat.le_of_ble_eq_true rfl) (by decide) dX10_table1_9 rfl (kV0 fun gvy15 hvy15 => ?_)
  obtain ⟨⟨Fvy15, hcvy15, hjvy15, hFvy15⟩, hfvy15⟩ := hvy15
  have hkvy15 : tkR T n Fvy15 (tk_nx T n f) := hjvy15
  have hnbvy15 := tk_nx_s (T := T) (n := n) (f := f) hfl
  clear hjvy15
  have hsry16 := srt_b T n (tk_nx T n f)
  have hvly17 := vlu_b hTb (tk_nx T n f)
  have hwby18 := tk_w_b T n (tk_nx T n f)
  have hfny19 := hkvy15.1
  refine z_aload_n C 1 dX10_table1_12 rfl ?_
  refine z_aload_n C 1 dX10_table1_13 rfl ?_
  have hgy21 := (hfvy15 (i + 13) (ne_o (i := i) (c := 13) (d := 0) rfl)).trans ha13
  refine z_cV (As := []) (rest := [.ref (ad i)]) (ci := 12) C (c_yIsKind l D A cs tt N ad _ i hN _ hcvy15 tp T n hn hTb hTt htp (tk_nx T n f) hkvy15) (lt_A0 hN rfl) hay1 hcvy15 rfl rfl mv_yX10_isKind q_1693 hd_yX10_isKind (by decide) (Nat.le_of_ble_eq_true rfl) (by decide) dX10_table1_14 rfl (kI0 fun vy20 gvy20 hvy20 => ?_)
  obtain ⟨hvy20, rfl⟩ := hvy20
  rcases hvy20 with ⟨rfl, hxvy20⟩ | ⟨rfl, hxvy20⟩
  · refine z_iconst (z := 1) C dX10_table1_17 rfl ?_
    have h33vy22 : Fvy15 33 = ((tk_nx T n f) : Int) := hkvy15.2.2.1
    have h24vy22 : Fvy15 24 = F 24 := (hFvy15 24 (by decide) (by decide) (by decide) (by decide) (by decide))
    have htvy22 : tkR T n Fvy15 (tk_nx T n f) := hkvy15
    refine z_cV (As := [.int (zI (1)), .int (zI (1))]) (rest := []) (ci := 12) C (c_yWants l D A cs tt N ad _ i hN _ hcvy15 ((hFvy15 38 (by decide) (by decide) (by decide) (by decide) (by decide)).trans h38) (1) (by omega) (1) (by omega)) (lt_A0 hN rfl) hay1 hcvy15 rfl rfl mv_yX10_wants q_1678 hd_yX10_wants (by decide) (Nat.le_of_ble_eq_true rfl) (by decide) dX10_table1_18 rfl (kI0 fun vy22 gvy22 hvy22 => ?_)
    obtain ⟨⟨Fvy22, hcvy22, hqvy22, hFvy22⟩, hfvy22⟩ := hvy22
    obtain ⟨rfl, hevy22, hbvy22⟩ : vy22 = 1 ∧ Fvy22 38 = 0 ∧ Fvy22 24 = F 24 := by omega
    clear hqvy22 h33vy22 h24vy22
    have hkvy22 : tkR T n Fvy22 (tk_nx T n f) := tkR.w htvy22 hFvy22 (by omega)
    refine z_if_ne (tgt := 25) C dX10_table1_21 (by decide) (by omega) (fun _ => ?_) (fun h => absurd h (by omega))
    refine z_iconst (z := 5) C dX10_table1_25 rfl ?_
    refine z_iload_n C 0 dX10_table1_26 rfl ?_
    refine z_imul C dX10_table1_27 ?_
    refine z_aload_n C 1 dX10_table1_28 rfl ?_
    have hgy24 := (hfvy22 (i + 13) (ne_o (i := i) (c := 13) (d := 0) rfl)).trans hgy21
    refine z_cV (As := []) (rest := [.int (zI (5 * (8 - 6)))]) (ci := 12) C (c_yKindHere l D A cs tt N ad _ i hN _ hcvy22 tp T n hn hTb hTt htp (tk_nx T n f) hkvy22 hxvy20) (lt_A0 hN rfl) hay1 hcvy22 rfl rfl mv_yX10_kindHere q_1697 hd_yX10_kindHere (by decide) (Nat.le_of_ble_eq_true rfl) (by decide) dX10_table1_29 rfl (kI0 fun vy23 gvy23 hvy23 => ?_)
    obtain ⟨rfl, rfl⟩ := hvy23
    have hkbvy23 : 0 ≤ tk_kd T n (tk_nx T n f) ∧ tk_kd T n (tk_nx T n f) ≤ 4 := by have hkc := tk_kd_c T n (tk_nx T n f); omega
    refine z_iadd C dX10_table1_32 ?_
    obtain ⟨kty25, hkty25⟩ : ∃ n9 : Nat, (5 * (8 - 6)) + (tk_kd T n (tk_nx T n f)) = (n9 : Int) := ⟨((5 * (8 - 6)) + (tk_kd T n (tk_nx T n f))).toNat, by omega⟩
    rw [hkty25]
    refine z_istore_n (lv' := [(2, .int (zI ((kty25 : Int)))), (1, .int (zI (8 - 6))), (0, .ref (ad i))]) C dX10_table1_33 rfl (by decide) rfl ?_
    refine z_aload_n C 2 dX10_table1_34 rfl ?_
    refine z_aload_n C 2 dX10_table1_35 rfl ?_
    refine z_get (v := .ref (ad (i + 22))) C (lt_A0 hN rfl) hay1 hcvy22 rfl inA_X10 45 (by decide) q_1504 rfl rfl dX10_table1_36 ?_
    refine z_iload_n C 0 dX10_table1_39 rfl ?_
    have hgy26 := (hfvy15 (i + 22) (ne_o (i := i) (c := 22) (d := 0) rfl)).trans ha22
    have hgy27 := (hfvy22 (i + 22) (ne_o (i := i) (c := 22) (d := 0) rfl)).trans hgy26
    refine z_iald C (lt_A (c := 22) hN rfl) hay13 hgy27 (kty25) (by omega) (by omega) (by decide) dX10_table1_40 ?_
    have hrfy28 := htbr (kty25) (by omega)
    refine z_iconst (z := -1) C dX10_table1_41 rfl ?_
    refine z_icmp_ne (tgt := 49) C dX10_table1_42 (by decide) (by omega) (by omega) (fun hby29 => ?_) (fun hby29 => ?_)
    · have hscy30 : (B (10 + tk_kd T n (tk_nx T n f)).toNat = 1) := by rw [show (10 + tk_kd T n (tk_nx T n f)).toNat = kty25 by omega]; have h9 := rtb kty25 (by omega); omega
      refine z_iconst (z := 0) C dX10_table1_49 rfl ?_
      refine z_iconst (z := 4) C dX10_table1_50 rfl ?_
      have h33vy32 : Fvy22 33 = ((tk_nx T n f) : Int) := ((hFvy22 33 (by decide) (by decide)).trans hkvy15.2.2.1)
      have h24vy32 : Fvy22 24 = F 24 := hbvy22
      have htvy32 : tkR T n Fvy22 (tk_nx T n f) := hkvy22
      refine z_cV (As := [.int (zI (0)), .int (zI (4))]) (rest := []) (ci := 12) C (c_yWants l D A cs tt N ad _ i hN _ hcvy22 hevy22 (0) (by omega) (4) (by omega)) (lt_A0 hN rfl) hay1 hcvy22 rfl rfl mv_yX10_wants q_1678 hd_yX10_wants (by decide) (Nat.le_of_ble_eq_true rfl) (by decide) dX10_table1_51 rfl (kI0 fun vy32 gvy32 hvy32 => ?_)
      obtain ⟨⟨Fvy32, hcvy32, hqvy32, hFvy32⟩, hfvy32⟩ := hvy32
      obtain ⟨rfl, hevy32, hbvy32⟩ : vy32 = 0 ∧ Fvy32 38 = 4 ∧ Fvy32 24 = ((tk_nx T n f) : Int) := by omega
      clear hqvy32 h33vy32 h24vy32
      have hkvy32 : tkR T n Fvy32 (tk_nx T n f) := tkR.w htvy32 hFvy32 (by omega)
      refine z_if_ne (tgt := 58) C dX10_table1_54 (by decide) (by omega) (fun h => absurd h (by omega)) (fun _ => ?_)
      have hFy33 : ∀ f, f ≠ 24 → f ≠ 32 → f ≠ 33 → f ≠ 35 → f ≠ 36 → f ≠ 37 → f ≠ 38 → f ≠ 47 → f ≠ 48 → f ≠ 49 → Fvy32 f = F f := fun f n24 n32 n33 n35 n36 n37 n38 n47 n48 n49 => ((hFvy32 f n24 n38).trans ((hFvy22 f n24 n38).trans (hFvy15 f n32 n33 n35 n36 n37)))
      have htky34 : tkR T n Fvy32 (tk_nx T n f) := hkvy32
      have htoy35 := tk_to_w (T := T) (n := n) (f := (tk_nx T n f)) htky34.1.1
      have h32y36 := htky34.2.1
      have hey37 : Fvy32 24 = ((tk_nx T n f) : Int) := hbvy32
      have hey38 : Fvy32 38 = 4 := hevy32
      have hey39 : Fvy32 47 = sl := ((hFvy32 47 (by decide) (by decide)).trans ((hFvy22 47 (by decide) (by decide)).trans ((hFvy15 47 (by decide) (by decide) (by decide) (by decide) (by decide)).trans r47)))
      have hey40 : Fvy32 48 = ho := ((hFvy32 48 (by decide) (by decide)).trans ((hFvy22 48 (by decide) (by decide)).trans ((hFvy15 48 (by decide) (by decide) (by decide) (by decide) (by decide)).trans r48)))
      have hey41 : Fvy32 49 = nm := ((hFvy32 49 (by decide) (by decide)).trans ((hFvy22 49 (by decide) (by decide)).trans ((hFvy15 49 (by decide) (by decide) (by decide) (by decide) (by decide)).trans r49)))
      have hlay43 : ∀ s l : Nat, (s : Int) < Fvy32 47 → (l : Int) < mn1 s → lyT ly1 (84 * s + 7 * l) := by
        intro s l a1 a2
        have hm9 := hmn1 s (by omega)
        exact hly1 s l (by omega) a2
      have hgy44 := (hfvy15 (i + 16) (ne_o (i := i) (c := 16) (d := 0) rfl)).trans ha16
      have hgy45 := (hfvy22 (i + 16) (ne_o (i := i) (c := 16) (d := 0) rfl)).trans hgy44
      have hgy46 := (hfvy32 (i + 16) (ne_o (i := i) (c := 16) (d := 0) rfl)).trans hgy45
      have hgy47 := (hfvy15 (i + 17) (ne_o (i := i) (c := 17) (d := 0) rfl)).trans ha17
      have hgy48 := (hfvy22 (i + 17) (ne_o (i := i) (c := 17) (d := 0) rfl)).trans hgy47
      have hgy49 := (hfvy32 (i + 17) (ne_o (i := i) (c := 17) (d := 0) rfl)).trans hgy48
      have hgy50 := (hfvy15 (i + 18) (ne_o (i := i) (c := 18) (d := 0) rfl)).trans ha18
      have hgy51 := (hfvy22 (i + 18) (ne_o (i := i) (c := 18) (d := 0) rfl)).trans hgy50
      have hgy52 := (hfvy32 (i + 18) (ne_o (i := i) (c := 18) (d := 0) rfl)).trans hgy51
      have hgy53 := (hfvy15 (i + 19) (ne_o (i := i) (c := 19) (d := 0) rfl)).trans ha19
      have hgy54 := (hfvy22 (i + 19) (ne_o (i := i) (c := 19) (d := 0) rfl)).trans hgy53
      have hgy55 := (hfvy32 (i + 19) (ne_o (i := i) (c := 19) (d := 0) rfl)).trans hgy54
      have hgy56 := (hfvy15 (i + 20) (ne_o (i := i) (c := 20) (d := 0) rfl)).trans ha20
      have hgy57 := (hfvy22 (i + 20) (ne_o (i := i) (c := 20) (d := 0) rfl)).trans hgy56
      have hgy58 := (hfvy32 (i + 20) (ne_o (i := i) (c := 20) (d := 0) rfl)).trans hgy57
      have hgy59 := (hfvy15 (i + 21) (ne_o (i := i) (c := 21) (d := 0) rfl)).trans ha21
      have hgy60 := (hfvy22 (i + 21) (ne_o (i := i) (c := 21) (d := 0) rfl)).trans hgy59
      have hgy61 := (hfvy32 (i + 21) (ne_o (i := i) (c := 21) (d := 0) rfl)).trans hgy60
      have hgy62 := (hfvy32 (i + 22) (ne_o (i := i) (c := 22) (d := 0) rfl)).trans hgy27
      have hgy63 := (hfvy15 (i + 23) (ne_o (i := i) (c := 23) (d := 0) rfl)).trans ha23
      have hgy64 := (hfvy22 (i + 23) (ne_o (i := i) (c := 23) (d := 0) rfl)).trans hgy63
      have hgy65 := (hfvy32 (i + 23) (ne_o (i := i) (c := 23) (d := 0) rfl)).trans hgy64
      have htxy66 : okTx cs gvy32 i Fvy32 := ⟨_, _, _, _, _, _, _, _, ⟨hgy46, hgy49, hgy52, hgy55, hgy58, hgy61, hgy62, hgy65⟩, ⟨⟨by omega, by omega, by omega⟩, hop1, hmn1, hai1, hfa1, htb1, hlay43⟩⟩
      exact z_vret C hr hlk dX10_table1_57 (by decide) (by decide) ⟨rfl, rfl, rfl, ⟨_, hcvy32, hFy33, Or.inr ⟨(4, (tk_nx T n f)), by simp only [cl_table, if_neg hxvy20, if_pos hscy30], by show Fvy32 38 = 4; omega, by show Fvy32 24 = (((tk_nx T n f) : Nat) : Int); omega, by show 1 ≤ 4 ∧ 4 ≤ 5; omega, ⟨_, htky34⟩, htxy66⟩⟩, fun j j1 j2 => by rw [hfvy32 _ (by omega)]; rw [hfvy22 _ (by omega)]; rw [hfvy15 _ (by omega)]⟩
    · have hscy31 : ¬ (B (10 + tk_kd T n (tk_nx T n f)).toNat = 1) := by rw [show (10 + tk_kd T n (tk_nx T n f)).toNat = kty25 by omega]; have h9 := rtb kty25 (by omega); omega
      refine z_iconst (z := 1) C dX10_table1_45 rfl ?_
      refine z_goto (tgt := 50) C dX10_table1_46 (by decide) ?_
      refine z_iconst (z := 4) C dX10_table1_50 rfl ?_
      have h33vy67 : Fvy22 33 = ((tk_nx T n f) : Int) := ((hFvy22 33 (by decide) (by decide)).trans hkvy15.2.2.1)
      have h24vy67 : Fvy22 24 = F 24 := hbvy22
      have htvy67 : tkR T n Fvy22 (tk_nx T n f) := hkvy22
      refine z_cV (As := [.int (zI (1)), .int (zI (4))]) (rest := []) (ci := 12) C (c_yWants l D A cs tt N ad _ i hN _ hcvy22 hevy22 (1) (by omega) (4) (by omega)) (lt_A0 hN rfl) hay1 hcvy22 rfl rfl mv_yX10_wants q_1678 hd_yX10_wants (by decide) (Nat.le_of_ble_eq_true rfl) (by decide) dX10_table1_51 rfl (kI0 fun vy67 gvy67 hvy67 => ?_)
      obtain ⟨⟨Fvy67, hcvy67, hqvy67, hFvy67⟩, hfvy67⟩ := hvy67
      obtain ⟨rfl, hevy67, hbvy67⟩ : vy67 = 1 ∧ Fvy67 38 = 0 ∧ Fvy67 24 = F 24 := by omega
      clear hqvy67 h33vy67 h24vy67
      have hkvy67 : tkR T n Fvy67 (tk_nx T n f) := tkR.w htvy67 hFvy67 (by omega)
      refine z_if_ne (tgt := 58) C dX10_table1_54 (by decide) (by omega) (fun _ => ?_) (fun h => absurd h (by omega))
      refine z_aload_n C 2 dX10_table1_58 rfl ?_
      have hgy68 := (hfvy67 (i + 13) (ne_o (i := i) (c := 13) (d := 0) rfl)).trans hgy24
      have htvy69 : tkR T n Fvy67 (tk_nx T n f) := hkvy67
      refine z_cV (As := []) (rest := []) (ci := 12) C (c_yGo l D A cs tt N ad _ i hN _ hcvy67 _ hgy68 T n hn hTb hTt htp (tk_to T n (tk_nx T n f)) (tk_to_b htvy69.1.1).2.1 htvy69.2.1 htvy69.2.2.2.1 htvy69.2.2.2.2.2.2.2) (lt_A0 hN rfl) hay1 hcvy67 rfl rfl mv_yX10_go q_1652 hd_yX10_go (by decide) (Nat.le_of_ble_eq_true rfl) (by decide) dX10_table1_59 rfl (kV0 fun gvy69 hvy69 => ?_)
      obtain ⟨⟨Fvy69, hcvy69, hjvy69, hFvy69⟩, hfvy69⟩ := hvy69
      have hkvy69 : tkR T n Fvy69 (tk_nx T n (tk_nx T n f)) := hjvy69
      have hnbvy69 := tk_nx_w (T := T) (n := n) (f := (tk_nx T n f)) htvy69.1.1
      clear hjvy69
      have hsry70 := srt_b T n (tk_nx T n (tk_nx T n f))
      have hvly71 := vlu_b hTb (tk_nx T n (tk_nx T n f))
      have hwby72 := tk_w_b T n (tk_nx T n (tk_nx T n f))
      have hfny73 := hkvy69.1
      refine z_aload_n C 2 dX10_table1_62 rfl ?_
      refine z_get (v := .ref (ad (i + 22))) C (lt_A0 hN rfl) hay1 hcvy69 rfl inA_X10 45 (by decide) q_1504 rfl rfl dX10_table1_63 ?_
      refine z_iload_n C 0 dX10_table1_66 rfl ?_
      refine z_aload_n C 2 dX10_table1_67 rfl ?_
      refine z_iload_n C 1 dX10_table1_68 rfl ?_
      refine z_iconst (z := 2) C dX10_table1_69 rfl ?_
      refine z_icmp_ne (tgt := 77) C dX10_table1_70 (by decide) (by omega) (by omega) (fun h => absurd h (by omega)) (fun _ => ?_)
      refine z_iconst (z := 1) C dX10_table1_73 rfl ?_
      refine z_goto (tgt := 78) C dX10_table1_74 (by decide) ?_
      refine z_iload_n C 1 dX10_table1_78 rfl ?_
      refine z_iconst (z := 2) C dX10_table1_79 rfl ?_
      refine z_icmp_ne (tgt := 89) C dX10_table1_80 (by decide) (by omega) (by omega) (fun h => absurd h (by omega)) (fun _ => ?_)
      refine z_sipush (z := 9999) C dX10_table1_83 (by decide) ?_
      refine z_goto (tgt := 91) C dX10_table1_86 (by decide) ?_
      have hgy74 := (hfvy69 (i + 13) (ne_o (i := i) (c := 13) (d := 0) rfl)).trans hgy68
      have h24vy75 : Fvy69 24 = F 24 := ((hFvy69 24 (by decide) (by decide) (by decide) (by decide) (by decide)).trans hbvy67)
      refine z_cV (As := [.int (zI (1)), .int (zI (9999))]) (rest := [.int (zI ((kty25 : Int))), .ref (ad (i + 22))]) (ci := 12) C (c_yNumber l D A cs tt N ad _ i hN _ hcvy69 _ hgy74 T n hn hTb hTt htp (tk_nx T n (tk_nx T n f)) hkvy69 ((hFvy69 38 (by decide) (by decide) (by decide) (by decide) (by decide)).trans hevy67) (1) (by omega) (9999) (by omega)) (lt_A0 hN rfl) hay1 hcvy69 rfl rfl mv_yX10_number q_1682 hd_yX10_number (by decide) (Nat.le_of_ble_eq_true rfl) (by decide) dX10_table1_91 rfl (kI0 fun vy75 gvy75 hvy75 => ?_)
      obtain ⟨⟨Fvy75, hcvy75, hqvy75, hFvy75⟩, hfvy75⟩ := hvy75
      rcases hqvy75 with hqvy75 | hqvy75
      · obtain ⟨hnvy75, hrvy75, hltvy75, hevy75, hb0vy75, hkvy75⟩ := hqvy75
        have hbvy75 : Fvy75 24 = F 24 := hb0vy75.trans h24vy75
        have hnbvy75 := tk_nx_s (T := T) (n := n) (f := (tk_nx T n (tk_nx T n f))) hltvy75
        clear hb0vy75 h24vy75
        have hsry76 := srt_b T n (tk_nx T n (tk_nx T n (tk_nx T n f)))
        have hvly77 := vlu_b hTb (tk_nx T n (tk_nx T n (tk_nx T n f)))
        have hwby78 := tk_w_b T n (tk_nx T n (tk_nx T n (tk_nx T n f)))
        have hfny79 := hkvy75.1
        have hgy80 := (hfvy67 (i + 22) (ne_o (i := i) (c := 22) (d := 0) rfl)).trans hgy27
        have hgy81 := (hfvy69 (i + 22) (ne_o (i := i) (c := 22) (d := 0) rfl)).trans hgy80
        have hgy82 := (hfvy75 (i + 22) (ne_o (i := i) (c := 22) (d := 0) rfl)).trans hgy81
        refine z_iast C (lt_A (c := 22) hN rfl) hay13 hgy82 (kty25) (by omega) (by omega) (by decide) dX10_table1_94 (fun gy83 egy84 => ?_)
        have hgy85 := up_s egy84
        obtain ⟨ry86, hvy87⟩ : ∃ rZ9 : Nat → Int, rZ9 = uZ tb1 (kty25) (vy75) := ⟨_, rfl⟩
        rw [← hvy87] at hgy85
        have hgy88 := up_n egy84 hcvy75 (ne_o (i := i) (c := 0) (d := 22) rfl)
        have hFy89 : ∀ f, f ≠ 24 → f ≠ 32 → f ≠ 33 → f ≠ 35 → f ≠ 36 → f ≠ 37 → f ≠ 38 → f ≠ 47 → f ≠ 48 → f ≠ 49 → Fvy75 f = F f := fun f n24 n32 n33 n35 n36 n37 n38 n47 n48 n49 => ((hFvy75 f n24 n32 n33 n35 n36 n37 n38).trans ((hFvy69 f n32 n33 n35 n36 n37).trans ((hFvy67 f n24 n38).trans ((hFvy22 f n24 n38).trans (hFvy15 f n32 n33 n35 n36 n37)))))
        have htky90 : tkR T n Fvy75 (tk_nx T n (tk_nx T n (tk_nx T n f))) := hkvy75
        have htoy91 := tk_to_w (T := T) (n := n) (f := (tk_nx T n (tk_nx T n (tk_nx T n f)))) htky90.1.1
        have h32y92 := htky90.2.1
        have hey93 : Fvy75 24 = F 24 := hbvy75
        have hey94 : Fvy75 38 = 0 := hevy75
        have hey95 : Fvy75 47 = sl := ((hFvy75 47 (by decide) (by decide) (by decide) (by decide) (by decide) (by decide) (by decide)).trans ((hFvy69 47 (by decide) (by decide) (by decide) (by decide) (by decide)).trans ((hFvy67 47 (by decide) (by decide)).trans ((hFvy22 47 (by decide) (by decide)).trans ((hFvy15 47 (by decide) (by decide) (by decide) (by decide) (by decide)).trans r47)))))
        have hey96 : Fvy75 48 = ho := ((hFvy75 48 (by decide) (by decide) (by decide) (by decide) (by decide) (by decide) (by decide)).trans ((hFvy69 48 (by decide) (by decide) (by decide) (by decide) (by decide)).trans ((hFvy67 48 (by decide) (by decide)).trans ((hFvy22 48 (by decide) (by decide)).trans ((hFvy15 48 (by decide) (by decide) (by decide) (by decide) (by decide)).trans r48)))))
        have hey97 : Fvy75 49 = nm := ((hFvy75 49 (by decide) (by decide) (by decide) (by decide) (by decide) (by decide) (by decide)).trans ((hFvy69 49 (by decide) (by decide) (by decide) (by decide) (by decide)).trans ((hFvy67 49 (by decide) (by decide)).trans ((hFvy22 49 (by decide) (by decide)).trans ((hFvy15 49 (by decide) (by decide) (by decide) (by decide) (by decide)).trans r49)))))
        have hfry100 : ∀ j, j ≠ kty25 → ry86 j = tb1 j := fun j n0 => (congrFun hvy87 _).trans ((uZ_n _ _ n0).trans (rfl))
        have hwy101 : ry86 (kty25) = vy75 := (congrFun hvy87 _).trans (uZ_s _ _ _)
        have haky99 : ∀ k, k < 15 → ry86 k = -1 ∨ ((0 ≤ ry86 k ∧ ry86 k ≤ 9999) ∧ (10 ≤ k → 1 ≤ ry86 k)) := by
          intro k hk
          by_cases e : k = kty25
          · rw [e]; have hk0 := htb1 (kty25) (by omega); omega
          · have hk0 := htb1 k hk; rw [hfry100 k e]; exact hk0
        have hlay102 : ∀ s l : Nat, (s : Int) < Fvy75 47 → (l : Int) < mn1 s → lyT ly1 (84 * s + 7 * l) := by
          intro s l a1 a2
          have hm9 := hmn1 s (by omega)
          exact hly1 s l (by omega) a2
        have hgy103 := (hfvy15 (i + 16) (ne_o (i := i) (c := 16) (d := 0) rfl)).trans ha16
        have hgy104 := (hfvy22 (i + 16) (ne_o (i := i) (c := 16) (d := 0) rfl)).trans hgy103
        have hgy105 := (hfvy67 (i + 16) (ne_o (i := i) (c := 16) (d := 0) rfl)).trans hgy104
        have hgy106 := (hfvy69 (i + 16) (ne_o (i := i) (c := 16) (d := 0) rfl)).trans hgy105
        have hgy107 := (hfvy75 (i + 16) (ne_o (i := i) (c := 16) (d := 0) rfl)).trans hgy106
        have hgy108 := up_n egy84 hgy107 (ne_o (i := i) (c := 16) (d := 22) rfl)
        have hgy109 := (hfvy15 (i + 17) (ne_o (i := i) (c := 17) (d := 0) rfl)).trans ha17
        have hgy110 := (hfvy22 (i + 17) (ne_o (i := i) (c := 17) (d := 0) rfl)).trans hgy109
        have hgy111 := (hfvy67 (i + 17) (ne_o (i := i) (c := 17) (d := 0) rfl)).trans hgy110
        have hgy112 := (hfvy69 (i + 17) (ne_o (i := i) (c := 17) (d := 0) rfl)).trans hgy111
        have hgy113 := (hfvy75 (i + 17) (ne_o (i := i) (c := 17) (d := 0) rfl)).trans hgy112
        have hgy114 := up_n egy84 hgy113 (ne_o (i := i) (c := 17) (d := 22) rfl)
        have hgy115 := (hfvy15 (i + 18) (ne_o (i := i) (c := 18) (d := 0) rfl)).trans ha18
        have hgy116 := (hfvy22 (i + 18) (ne_o (i := i) (c := 18) (d := 0) rfl)).trans hgy115
        have hgy117 := (hfvy67 (i + 18) (ne_o (i := i) (c := 18) (d := 0) rfl)).trans hgy116
        have hgy118 := (hfvy69 (i + 18) (ne_o (i := i) (c := 18) (d := 0) rfl)).trans hgy117
        have hgy119 := (hfvy75 (i + 18) (ne_o (i := i) (c := 18) (d := 0) rfl)).trans hgy118
        have hgy120 := up_n egy84 hgy119 (ne_o (i := i) (c := 18) (d := 22) rfl)
        have hgy121 := (hfvy15 (i + 19) (ne_o (i := i) (c := 19) (d := 0) rfl)).trans ha19
        have hgy122 := (hfvy22 (i + 19) (ne_o (i := i) (c := 19) (d := 0) rfl)).trans hgy121
        have hgy123 := (hfvy67 (i + 19) (ne_o (i := i) (c := 19) (d := 0) rfl)).trans hgy122
        have hgy124 := (hfvy69 (i + 19) (ne_o (i := i) (c := 19) (d := 0) rfl)).trans hgy123
        have hgy125 := (hfvy75 (i + 19) (ne_o (i := i) (c := 19) (d := 0) rfl)).trans hgy124
        have hgy126 := up_n egy84 hgy125 (ne_o (i := i) (c := 19) (d := 22) rfl)
        have hgy127 := (hfvy15 (i + 20) (ne_o (i := i) (c := 20) (d := 0) rfl)).trans ha20
        have hgy128 := (hfvy22 (i + 20) (ne_o (i := i) (c := 20) (d := 0) rfl)).trans hgy127
        have hgy129 := (hfvy67 (i + 20) (ne_o (i := i) (c := 20) (d := 0) rfl)).trans hgy128
        have hgy130 := (hfvy69 (i + 20) (ne_o (i := i) (c := 20) (d := 0) rfl)).trans hgy129
        have hgy131 := (hfvy75 (i + 20) (ne_o (i := i) (c := 20) (d := 0) rfl)).trans hgy130
        have hgy132 := up_n egy84 hgy131 (ne_o (i := i) (c := 20) (d := 22) rfl)
        have hgy133 := (hfvy15 (i + 21) (ne_o (i := i) (c := 21) (d := 0) rfl)).trans ha21
        have hgy134 := (hfvy22 (i + 21) (ne_o (i := i) (c := 21) (d := 0) rfl)).trans hgy133
        have hgy135 := (hfvy67 (i + 21) (ne_o (i := i) (c := 21) (d := 0) rfl)).trans hgy134
        have hgy136 := (hfvy69 (i + 21) (ne_o (i := i) (c := 21) (d := 0) rfl)).trans hgy135
        have hgy137 := (hfvy75 (i + 21) (ne_o (i := i) (c := 21) (d := 0) rfl)).trans hgy136
        have hgy138 := up_n egy84 hgy137 (ne_o (i := i) (c := 21) (d := 22) rfl)
        have hgy139 := (hfvy15 (i + 23) (ne_o (i := i) (c := 23) (d := 0) rfl)).trans ha23
        have hgy140 := (hfvy22 (i + 23) (ne_o (i := i) (c := 23) (d := 0) rfl)).trans hgy139
        have hgy141 := (hfvy67 (i + 23) (ne_o (i := i) (c := 23) (d := 0) rfl)).trans hgy140
        have hgy142 := (hfvy69 (i + 23) (ne_o (i := i) (c := 23) (d := 0) rfl)).trans hgy141
        have hgy143 := (hfvy75 (i + 23) (ne_o (i := i) (c := 23) (d := 0) rfl)).trans hgy142
        have hgy144 := up_n egy84 hgy143 (ne_o (i := i) (c := 23) (d := 22) rfl)
        have hfry145 : ∀ j, j ≠ kty25 → ry86 j = tb1 j := fun j n0 => (congrFun hvy87 _).trans ((uZ_n _ _ n0).trans (rfl))
        have hwy146 : ry86 (kty25) = vy75 := (congrFun hvy87 _).trans (uZ_s _ _ _)
        have hxty147 : xTx cs gy83 i Fvy75 _ := ⟨_, _, _, _, _, _, _, _, ⟨hgy108, hgy114, hgy120, hgy126, hgy132, hgy138, hgy85, hgy144⟩, ⟨⟨by omega, by omega, by omega⟩, hop1, hmn1, hai1, hfa1, haky99, hlay102⟩, rT.table (v1 := 10 + tk_kd T n (tk_nx T n f)) (a := vy75) hrT (kty25) (by omega) (by omega) ⟨by show Fvy75 47 = sl; omega, by show Fvy75 48 = ho; omega, by show Fvy75 49 = nm; omega⟩ hfry145 (by omega)⟩
        exact z_vret C hr hlk dX10_table1_95 (by decide) (by decide) ⟨rfl, rfl, rfl, ⟨_, hgy88, hFy89, Or.inl ⟨_, by simp only [cl_table, if_neg hxvy20, if_neg hscy31, hnvy75]; rfl, by omega, by omega, by show f < (tk_nx T n (tk_nx T n (tk_nx T n f))); omega, htky90, hxty147⟩⟩, fun j j1 j2 => by rw [egy84, va_up_ne _ _ (by omega)]; rw [hfvy75 _ (by omega)]; rw [hfvy69 _ (by omega)]; rw [hfvy67 _ (by omega)]; rw [hfvy22 _ (by omega)]; rw [hfvy15 _ (by omega)]⟩
      · obtain ⟨rfl, cvy75, hrvy75, hnvy75, hevy75, hbvy75, hkvy75⟩ := hqvy75
        clear h24vy75
        have hsry148 := srt_b T n (tk_nx T n (tk_nx T n f))
        have hvly149 := vlu_b hTb (tk_nx T n (tk_nx T n f))
        have hwby150 := tk_w_b T n (tk_nx T n (tk_nx T n f))
        have hfny151 := hkvy75.1
        have hgy152 := (hfvy67 (i + 22) (ne_o (i := i) (c := 22) (d := 0) rfl)).trans hgy27
        have hgy153 := (hfvy69 (i + 22) (ne_o (i := i) (c := 22) (d := 0) rfl)).trans hgy152
        have hgy154 := (hfvy75 (i + 22) (ne_o (i := i) (c := 22) (d := 0) rfl)).trans hgy153
        refine z_iast C (lt_A (c := 22) hN rfl) hay13 hgy154 (kty25) (by omega) (by omega) (by decide) dX10_table1_94 (fun gy155 egy156 => ?_)
        have hgy157 := up_s egy156
        obtain ⟨ry158, hvy159⟩ : ∃ rZ9 : Nat → Int, rZ9 = uZ tb1 (kty25) (1) := ⟨_, rfl⟩
        rw [← hvy159] at hgy157
        have hgy160 := up_n egy156 hcvy75 (ne_o (i := i) (c := 0) (d := 22) rfl)
        have hFy161 : ∀ f, f ≠ 24 → f ≠ 32 → f ≠ 33 → f ≠ 35 → f ≠ 36 → f ≠ 37 → f ≠ 38 → f ≠ 47 → f ≠ 48 → f ≠ 49 → Fvy75 f = F f := fun f n24 n32 n33 n35 n36 n37 n38 n47 n48 n49 => ((hFvy75 f n24 n32 n33 n35 n36 n37 n38).trans ((hFvy69 f n32 n33 n35 n36 n37).trans ((hFvy67 f n24 n38).trans ((hFvy22 f n24 n38).trans (hFvy15 f n32 n33 n35 n36 n37)))))
        have htky162 : tkR T n Fvy75 (tk_nx T n (tk_nx T n f)) := hkvy75
        have htoy163 := tk_to_w (T := T) (n := n) (f := (tk_nx T n (tk_nx T n f))) htky162.1.1
        have h32y164 := htky162.2.1
        have hey165 : Fvy75 24 = ((tk_nx T n (tk_nx T n f)) : Int) := hbvy75
        have hey166 : Fvy75 38 = cvy75 := hevy75
        have hey167 : Fvy75 47 = sl := ((hFvy75 47 (by decide) (by decide) (by decide) (by decide) (by decide) (by decide) (by decide)).trans ((hFvy69 47 (by decide) (by decide) (by decide) (by decide) (by decide)).trans ((hFvy67 47 (by decide) (by decide)).trans ((hFvy22 47 (by decide) (by decide)).trans ((hFvy15 47 (by decide) (by decide) (by decide) (by decide) (by decide)).trans r47)))))
        have hey168 : Fvy75 48 = ho := ((hFvy75 48 (by decide) (by decide) (by decide) (by decide) (by decide) (by decide) (by decide)).trans ((hFvy69 48 (by decide) (by decide) (by decide) (by decide) (by decide)).trans ((hFvy67 48 (by decide) (by decide)).trans ((hFvy22 48 (by decide) (by decide)).trans ((hFvy15 48 (by decide) (by decide) (by decide) (by decide) (by decide)).trans r48)))))
        have hey169 : Fvy75 49 = nm := ((hFvy75 49 (by decide) (by decide) (by decide) (by decide) (by decide) (by decide) (by decide)).trans ((hFvy69 49 (by decide) (by decide) (by decide) (by decide) (by decide)).trans ((hFvy67 49 (by decide) (by decide)).trans ((hFvy22 49 (by decide) (by decide)).trans ((hFvy15 49 (by decide) (by decide) (by decide) (by decide) (by decide)).trans r49)))))
        have hfry172 : ∀ j, j ≠ kty25 → ry158 j = tb1 j := fun j n0 => (congrFun hvy159 _).trans ((uZ_n _ _ n0).trans (rfl))
        have hwy173 : ry158 (kty25) = 1 := (congrFun hvy159 _).trans (uZ_s _ _ _)
        have haky171 : ∀ k, k < 15 → ry158 k = -1 ∨ ((0 ≤ ry158 k ∧ ry158 k ≤ 9999) ∧ (10 ≤ k → 1 ≤ ry158 k)) := by
          intro k hk
          by_cases e : k = kty25
          · rw [e]; have hk0 := htb1 (kty25) (by omega); omega
          · have hk0 := htb1 k hk; rw [hfry172 k e]; exact hk0
        have hlay174 : ∀ s l : Nat, (s : Int) < Fvy75 47 → (l : Int) < mn1 s → lyT ly1 (84 * s + 7 * l) := by
          intro s l a1 a2
          have hm9 := hmn1 s (by omega)
          exact hly1 s l (by omega) a2
        have hgy175 := (hfvy15 (i + 16) (ne_o (i := i) (c := 16) (d := 0) rfl)).trans ha16
        have hgy176 := (hfvy22 (i + 16) (ne_o (i := i) (c := 16) (d := 0) rfl)).trans hgy175
        have hgy177 := (hfvy67 (i + 16) (ne_o (i := i) (c := 16) (d := 0) rfl)).trans hgy176
        have hgy178 := (hfvy69 (i + 16) (ne_o (i := i) (c := 16) (d := 0) rfl)).trans hgy177
        have hgy179 := (hfvy75 (i + 16) (ne_o (i := i) (c := 16) (d := 0) rfl)).trans hgy178
        have hgy180 := up_n egy156 hgy179 (ne_o (i := i) (c := 16) (d := 22) rfl)
        have hgy181 := (hfvy15 (i + 17) (ne_o (i := i) (c := 17) (d := 0) rfl)).trans ha17
        have hgy182 := (hfvy22 (i + 17) (ne_o (i := i) (c := 17) (d := 0) rfl)).trans hgy181
        have hgy183 := (hfvy67 (i + 17) (ne_o (i := i) (c := 17) (d := 0) rfl)).trans hgy182
        have hgy184 := (hfvy69 (i + 17) (ne_o (i := i) (c := 17) (d := 0) rfl)).trans hgy183
        have hgy185 := (hfvy75 (i + 17) (ne_o (i := i) (c := 17) (d := 0) rfl)).trans hgy184
        have hgy186 := up_n egy156 hgy185 (ne_o (i := i) (c := 17) (d := 22) rfl)
        have hgy187 := (hfvy15 (i + 18) (ne_o (i := i) (c := 18) (d := 0) rfl)).trans ha18
        have hgy188 := (hfvy22 (i + 18) (ne_o (i := i) (c := 18) (d := 0) rfl)).trans hgy187
        have hgy189 := (hfvy67 (i + 18) (ne_o (i := i) (c := 18) (d := 0) rfl)).trans hgy188
        have hgy190 := (hfvy69 (i + 18) (ne_o (i := i) (c := 18) (d := 0) rfl)).trans hgy189
        have hgy191 := (hfvy75 (i + 18) (ne_o (i := i) (c := 18) (d := 0) rfl)).trans hgy190
        have hgy192 := up_n egy156 hgy191 (ne_o (i := i) (c := 18) (d := 22) rfl)
        have hgy193 := (hfvy15 (i + 19) (ne_o (i := i) (c := 19) (d := 0) rfl)).trans ha19
        have hgy194 := (hfvy22 (i + 19) (ne_o (i := i) (c := 19) (d := 0) rfl)).trans hgy193
        have hgy195 := (hfvy67 (i + 19) (ne_o (i := i) (c := 19) (d := 0) rfl)).trans hgy194
        have hgy196 := (hfvy69 (i + 19) (ne_o (i := i) (c := 19) (d := 0) rfl)).trans hgy195
        have hgy197 := (hfvy75 (i + 19) (ne_o (i := i) (c := 19) (d := 0) rfl)).trans hgy196
        have hgy198 := up_n egy156 hgy197 (ne_o (i := i) (c := 19) (d := 22) rfl)
        have hgy199 := (hfvy15 (i + 20) (ne_o (i := i) (c := 20) (d := 0) rfl)).trans ha20
        have hgy200 := (hfvy22 (i + 20) (ne_o (i := i) (c := 20) (d := 0) rfl)).trans hgy199
        have hgy201 := (hfvy67 (i + 20) (ne_o (i := i) (c := 20) (d := 0) rfl)).trans hgy200
        have hgy202 := (hfvy69 (i + 20) (ne_o (i := i) (c := 20) (d := 0) rfl)).trans hgy201
        have hgy203 := (hfvy75 (i + 20) (ne_o (i := i) (c := 20) (d := 0) rfl)).trans hgy202
        have hgy204 := up_n egy156 hgy203 (ne_o (i := i) (c := 20) (d := 22) rfl)
        have hgy205 := (hfvy15 (i + 21) (ne_o (i := i) (c := 21) (d := 0) rfl)).trans ha21
        have hgy206 := (hfvy22 (i + 21) (ne_o (i := i) (c := 21) (d := 0) rfl)).trans hgy205
        have hgy207 := (hfvy67 (i + 21) (ne_o (i := i) (c := 21) (d := 0) rfl)).trans hgy206
        have hgy208 := (hfvy69 (i + 21) (ne_o (i := i) (c := 21) (d := 0) rfl)).trans hgy207
        have hgy209 := (hfvy75 (i + 21) (ne_o (i := i) (c := 21) (d := 0) rfl)).trans hgy208
        have hgy210 := up_n egy156 hgy209 (ne_o (i := i) (c := 21) (d := 22) rfl)
        have hgy211 := (hfvy15 (i + 23) (ne_o (i := i) (c := 23) (d := 0) rfl)).trans ha23
        have hgy212 := (hfvy22 (i + 23) (ne_o (i := i) (c := 23) (d := 0) rfl)).trans hgy211
        have hgy213 := (hfvy67 (i + 23) (ne_o (i := i) (c := 23) (d := 0) rfl)).trans hgy212
        have hgy214 := (hfvy69 (i + 23) (ne_o (i := i) (c := 23) (d := 0) rfl)).trans hgy213
        have hgy215 := (hfvy75 (i + 23) (ne_o (i := i) (c := 23) (d := 0) rfl)).trans hgy214
        have hgy216 := up_n egy156 hgy215 (ne_o (i := i) (c := 23) (d := 22) rfl)
        have htxy217 : okTx cs gy155 i Fvy75 := ⟨_, _, _, _, _, _, _, _, ⟨hgy180, hgy186, hgy192, hgy198, hgy204, hgy210, hgy157, hgy216⟩, ⟨⟨by omega, by omega, by omega⟩, hop1, hmn1, hai1, hfa1, haky171, hlay174⟩⟩
        exact z_vret C hr hlk dX10_table1_95 (by decide) (by decide) ⟨rfl, rfl, rfl, ⟨_, hgy160, hFy161, Or.inr ⟨(cvy75, (tk_nx T n (tk_nx T n f))), by simp only [cl_table, if_neg hxvy20, if_neg hscy31, hnvy75], by show Fvy75 38 = cvy75; omega, by show Fvy75 24 = (((tk_nx T n (tk_nx T n f)) : Nat) : Int); omega, by show 1 ≤ cvy75 ∧ cvy75 ≤ 5; omega, ⟨_, htky162⟩, htxy217⟩⟩, fun j j1 j2 => by rw [egy156, va_up_ne _ _ (by omega)]; rw [hfvy75 _ (by omega)]; rw [hfvy69 _ (by omega)]; rw [hfvy67 _ (by omega)]; rw [hfvy22 _ (by omega)]; rw [hfvy15 _ (by omega)]⟩
  · refine z_iconst (z := 1) C dX10_table1_17 rfl ?_
    have h33vy218 : Fvy15 33 = ((tk_nx T n f) : Int) := hkvy15.2.2.1
    have h24vy218 : Fvy15 24 = F 24 := (hFvy15 24 (by decide) (by decide) (by decide) (by decide) (by decide))
    have htvy218 : tkR T n Fvy15 (tk_nx T n f) := hkvy15
    refine z_cV (As := [.int (zI (0)), .int (zI (1))]) (rest := []) (ci := 12) C (c_yWants l D A cs tt N ad _ i hN _ hcvy15 ((hFvy15 38 (by decide) (by decide) (by decide) (by decide) (by decide)).trans h38) (0) (by omega) (1) (by omega)) (lt_A0 hN rfl) hay1 hcvy15 rfl rfl mv_yX10_wants q_1678 hd_yX10_wants (by decide) (Nat.le_of_ble_eq_true rfl) (by decide) dX10_table1_18 rfl (kI0 fun vy218 gvy218 hvy218 => ?_)
    obtain ⟨⟨Fvy218, hcvy218, hqvy218, hFvy218⟩, hfvy218⟩ := hvy218
    obtain ⟨rfl, hevy218, hbvy218⟩ : vy218 = 0 ∧ Fvy218 38 = 1 ∧ Fvy218 24 = ((tk_nx T n f) : Int) := by omega
    clear hqvy218 h33vy218 h24vy218
    have hkvy218 : tkR T n Fvy218 (tk_nx T n f) := tkR.w htvy218 hFvy218 (by omega)
    refine z_if_ne (tgt := 25) C dX10_table1_21 (by decide) (by omega) (fun h => absurd h (by omega)) (fun _ => ?_)
    have hFy219 : ∀ f, f ≠ 24 → f ≠ 32 → f ≠ 33 → f ≠ 35 → f ≠ 36 → f ≠ 37 → f ≠ 38 → f ≠ 47 → f ≠ 48 → f ≠ 49 → Fvy218 f = F f := fun f n24 n32 n33 n35 n36 n37 n38 n47 n48 n49 => ((hFvy218 f n24 n38).trans (hFvy15 f n32 n33 n35 n36 n37))
    have htky220 : tkR T n Fvy218 (tk_nx T n f) := hkvy218
    have htoy221 := tk_to_w (T := T) (n := n) (f := (tk_nx T n f)) htky220.1.1
    have h32y222 := htky220.2.1
    have hey223 : Fvy218 24 = ((tk_nx T n f) : Int) := hbvy218
    have hey224 : Fvy218 38 = 1 := hevy218
    have hey225 : Fvy218 47 = sl := ((hFvy218 47 (by decide) (by decide)).trans ((hFvy15 47 (by decide) (by decide) (by decide) (by decide) (by decide)).trans r47))
    have hey226 : Fvy218 48 = ho := ((hFvy218 48 (by decide) (by decide)).trans ((hFvy15 48 (by decide) (by decide) (by decide) (by decide) (by decide)).trans r48))
    have hey227 : Fvy218 49 = nm := ((hFvy218 49 (by decide) (by decide)).trans ((hFvy15 49 (by decide) (by decide) (by decide) (by decide) (by decide)).trans r49))
    have hlay229 : ∀ s l : Nat, (s : Int) < Fvy218 47 → (l : Int) < mn1 s → lyT ly1 (84 * s + 7 * l) := by
      intro s l a1 a2
      have hm9 := hmn1 s (by omega)
      exact hly1 s l (by omega) a2
    have hgy230 := (hfvy15 (i + 16) (ne_o (i := i) (c := 16) (d := 0) rfl)).trans ha16
    have hgy231 := (hfvy218 (i + 16) (ne_o (i := i) (c := 16) (d := 0) rfl)).trans hgy230
    have hgy232 := (hfvy15 (i + 17) (ne_o (i := i) (c := 17) (d := 0) rfl)).trans ha17
    have hgy233 := (hfvy218 (i + 17) (ne_o (i := i) (c := 17) (d := 0) rfl)).trans hgy232
    have hgy234 := (hfvy15 (i + 18) (ne_o (i := i) (c := 18) (d := 0) rfl)).trans ha18
    have hgy235 := (hfvy218 (i + 18) (ne_o (i := i) (c := 18) (d := 0) rfl)).trans hgy234
    have hgy236 := (hfvy15 (i + 19) (ne_o (i := i) (c := 19) (d := 0) rfl)).trans ha19
    have hgy237 := (hfvy218 (i + 19) (ne_o (i := i) (c := 19) (d := 0) rfl)).trans hgy236
    have hgy238 := (hfvy15 (i + 20) (ne_o (i := i) (c := 20) (d := 0) rfl)).trans ha20
    have hgy239 := (hfvy218 (i + 20) (ne_o (i := i) (c := 20) (d := 0) rfl)).trans hgy238
    have hgy240 := (hfvy15 (i + 21) (ne_o (i := i) (c := 21) (d := 0) rfl)).trans ha21
    have hgy241 := (hfvy218 (i + 21) (ne_o (i := i) (c := 21) (d := 0) rfl)).trans hgy240
    have hgy242 := (hfvy15 (i + 22) (ne_o (i := i) (c := 22) (d := 0) rfl)).trans ha22
    have hgy243 := (hfvy218 (i + 22) (ne_o (i := i) (c := 22) (d := 0) rfl)).trans hgy242
    have hgy244 := (hfvy15 (i + 23) (ne_o (i := i) (c := 23) (d := 0) rfl)).trans ha23
    have hgy245 := (hfvy218 (i + 23) (ne_o (i := i) (c := 23) (d := 0) rfl)).trans hgy244
    have htxy246 : okTx cs gvy218 i Fvy218 := ⟨_, _, _, _, _, _, _, _, ⟨hgy231, hgy233, hgy235, hgy237, hgy239, hgy241, hgy243, hgy245⟩, ⟨⟨by omega, by omega, by omega⟩, hop1, hmn1, hai1, hfa1, htb1, hlay229⟩⟩
    exact z_vret C hr hlk dX10_table1_24 (by decide) (by decide) ⟨rfl, rfl, rfl, ⟨_, hcvy218, hFy219, Or.inr ⟨(1, (tk_nx T n f)), by simp only [cl_table, if_pos hxvy20], by show Fvy218 38 = 1; omega, by show Fvy218 24 = (((tk_nx T n f) : Nat) : Int); omega, by show 1 ≤ 1 ∧ 1 ≤ 5; omega, ⟨_, htky220⟩, htxy246⟩⟩, fun j j1 j2 => by rw [hfvy218 _ (by omega)]; rw [hfvy15 _ (by omega)]⟩
end
section
-- 86q.words.lean.txt
-- words of yclause1
theorem q_1674 : (Jvm.Cond.methodLink "SnowRecorderModel" (311 : Nat) ({ cls := "SnowRecorderModel", name := "slope1", desc := "()V" } : Jvm.MethodName)) ∈ AW := AW_m7 234 (by decide +kernel) (by decide +kernel)
theorem q_1676 : (Jvm.Cond.instanceMethod ({ cls := "SnowRecorderModel", name := "slope1", desc := "()V" } : Jvm.MethodName)) ∈ AW := AW_m7 236 (by decide +kernel) (by decide +kernel)
theorem q_1677 : (Jvm.Cond.code ({ cls := "SnowRecorderModel", name := "slope1", desc := "()V" } : Jvm.MethodName) prog_12_method_54_code (1 : Nat) (Option.none : Option Jvm.ClassFile.FieldType)) ∈ AW := AW_m7 237 (by decide +kernel) (by decide +kernel)
theorem q_1689 : (Jvm.Cond.methodLink "SnowRecorderModel" (314 : Nat) ({ cls := "SnowRecorderModel", name := "layer1", desc := "()V" } : Jvm.MethodName)) ∈ AW := AW_m8 9 (by decide +kernel) (by decide +kernel)
theorem q_1691 : (Jvm.Cond.instanceMethod ({ cls := "SnowRecorderModel", name := "layer1", desc := "()V" } : Jvm.MethodName)) ∈ AW := AW_m8 11 (by decide +kernel) (by decide +kernel)
theorem q_1692 : (Jvm.Cond.code ({ cls := "SnowRecorderModel", name := "layer1", desc := "()V" } : Jvm.MethodName) prog_12_method_55_code (3 : Nat) (Option.none : Option Jvm.ClassFile.FieldType)) ∈ AW := AW_m8 12 (by decide +kernel) (by decide +kernel)
theorem q_1701 : (Jvm.Cond.methodLink "SnowRecorderModel" (316 : Nat) ({ cls := "SnowRecorderModel", name := "hour1", desc := "()V" } : Jvm.MethodName)) ∈ AW := AW_m8 21 (by decide +kernel) (by decide +kernel)
theorem q_1703 : (Jvm.Cond.instanceMethod ({ cls := "SnowRecorderModel", name := "hour1", desc := "()V" } : Jvm.MethodName)) ∈ AW := AW_m8 23 (by decide +kernel) (by decide +kernel)
theorem q_1704 : (Jvm.Cond.code ({ cls := "SnowRecorderModel", name := "hour1", desc := "()V" } : Jvm.MethodName) prog_12_method_56_code (3 : Nat) (Option.none : Option Jvm.ClassFile.FieldType)) ∈ AW := AW_m8 24 (by decide +kernel) (by decide +kernel)
theorem q_1709 : (Jvm.Cond.methodLink "SnowRecorderModel" (319 : Nat) ({ cls := "SnowRecorderModel", name := "table1", desc := "()V" } : Jvm.MethodName)) ∈ AW := AW_m8 29 (by decide +kernel) (by decide +kernel)
theorem q_1711 : (Jvm.Cond.instanceMethod ({ cls := "SnowRecorderModel", name := "table1", desc := "()V" } : Jvm.MethodName)) ∈ AW := AW_m8 31 (by decide +kernel) (by decide +kernel)
theorem q_1712 : (Jvm.Cond.code ({ cls := "SnowRecorderModel", name := "table1", desc := "()V" } : Jvm.MethodName) prog_12_method_57_code (3 : Nat) (Option.none : Option Jvm.ClassFile.FieldType)) ∈ AW := AW_m8 32 (by decide +kernel) (by decide +kernel)
theorem s_45 : Cond.selects "SnowRecorderModel" ({ cls := "SnowRecorderModel", name := "slope1", desc := "()V" } : Jvm.MethodName) ({ cls := "SnowRecorderModel", name := "slope1", desc := "()V" } : Jvm.MethodName) ∈ AW := AW_m 45 (by decide +kernel) (by decide +kernel)
theorem s_48 : Cond.selects "SnowRecorderModel" ({ cls := "SnowRecorderModel", name := "layer1", desc := "()V" } : Jvm.MethodName) ({ cls := "SnowRecorderModel", name := "layer1", desc := "()V" } : Jvm.MethodName) ∈ AW := AW_m 48 (by decide +kernel) (by decide +kernel)
theorem s_51 : Cond.selects "SnowRecorderModel" ({ cls := "SnowRecorderModel", name := "hour1", desc := "()V" } : Jvm.MethodName) ({ cls := "SnowRecorderModel", name := "hour1", desc := "()V" } : Jvm.MethodName) ∈ AW := AW_m 51 (by decide +kernel) (by decide +kernel)
theorem s_53 : Cond.selects "SnowRecorderModel" ({ cls := "SnowRecorderModel", name := "table1", desc := "()V" } : Jvm.MethodName) ({ cls := "SnowRecorderModel", name := "table1", desc := "()V" } : Jvm.MethodName) ∈ AW := AW_m 53 (by decide +kernel) (by decide +kernel)
theorem hd_yX10_table1 : yX10_table1.cls ≠ "java/lang/invoke/MethodHandle" ∧ yX10_table1.cls ≠ "java/lang/invoke/VarHandle" ∧ (parseMethodDescriptor yX10_table1.desc).map (fun d => d.parameters.length) = some 0 := by decide +kernel
theorem hd_yX10_hour1 : yX10_hour1.cls ≠ "java/lang/invoke/MethodHandle" ∧ yX10_hour1.cls ≠ "java/lang/invoke/VarHandle" ∧ (parseMethodDescriptor yX10_hour1.desc).map (fun d => d.parameters.length) = some 0 := by decide +kernel
theorem hd_yX10_layer1 : yX10_layer1.cls ≠ "java/lang/invoke/MethodHandle" ∧ yX10_layer1.cls ≠ "java/lang/invoke/VarHandle" ∧ (parseMethodDescriptor yX10_layer1.desc).map (fun d => d.parameters.length) = some 0 := by decide +kernel
theorem hd_yX10_slope1 : yX10_slope1.cls ≠ "java/lang/invoke/MethodHandle" ∧ yX10_slope1.cls ≠ "java/lang/invoke/VarHandle" ∧ (parseMethodDescriptor yX10_slope1.desc).map (fun d => d.parameters.length) = some 0 := by decide +kernel
theorem mv_yX10_table1 : zWv yX10_table1 cX10_table1 3 none := ⟨q_1711, s_53, q_15, q_1712⟩
theorem mv_yX10_hour1 : zWv yX10_hour1 cX10_hour1 3 none := ⟨q_1703, s_51, q_15, q_1704⟩
theorem mv_yX10_layer1 : zWv yX10_layer1 cX10_layer1 3 none := ⟨q_1691, s_48, q_15, q_1692⟩
theorem mv_yX10_slope1 : zWv yX10_slope1 cX10_slope1 1 none := ⟨q_1676, s_45, q_15, q_1677⟩
end
section
-- 86r.dec.lean.txt
-- decode rows of yclause1
theorem dX10_clause1_0 : decode cX10_clause1 0 = .ok (.aload_n 0, 1) := by decide +kernel
theorem dX10_clause1_1 : decode cX10_clause1 1 = .ok (.getfield 263, 3) := by decide +kernel
theorem dX10_clause1_4 : decode cX10_clause1 4 = .ok (.iconst 1, 1) := by decide +kernel
theorem dX10_clause1_5 : decode cX10_clause1 5 = .ok (.if_icmp .ne 10, 3) := by decide +kernel
theorem dX10_clause1_15 : decode cX10_clause1 15 = .ok (.iconst (-1), 1) := by decide +kernel
theorem dX10_clause1_16 : decode cX10_clause1 16 = .ok (.istore_n 1, 1) := by decide +kernel
theorem dX10_clause1_17 : decode cX10_clause1 17 = .ok (.iload_n 1, 1) := by decide +kernel
theorem dX10_clause1_18 : decode cX10_clause1 18 = .ok (.ifCond .ne 10, 3) := by decide +kernel
theorem dX10_clause1_28 : decode cX10_clause1 28 = .ok (.iload_n 1, 1) := by decide +kernel
theorem dX10_clause1_29 : decode cX10_clause1 29 = .ok (.iconst 1, 1) := by decide +kernel
theorem dX10_clause1_30 : decode cX10_clause1 30 = .ok (.if_icmp .ne 10, 3) := by decide +kernel
theorem dX10_clause1_40 : decode cX10_clause1 40 = .ok (.iload_n 1, 1) := by decide +kernel
theorem dX10_clause1_41 : decode cX10_clause1 41 = .ok (.iconst 2, 1) := by decide +kernel
theorem dX10_clause1_42 : decode cX10_clause1 42 = .ok (.if_icmp .ne 10, 3) := by decide +kernel
theorem dX10_clause1_52 : decode cX10_clause1 52 = .ok (.iload_n 1, 1) := by decide +kernel
theorem dX10_clause1_53 : decode cX10_clause1 53 = .ok (.bipush 6, 2) := by decide +kernel
theorem dX10_clause1_55 : decode cX10_clause1 55 = .ok (.bipush 8, 2) := by decide +kernel
theorem dX10_clause1_57 : decode cX10_clause1 57 = .ok (.invokestatic 281, 3) := by decide +kernel
theorem dX10_clause1_60 : decode cX10_clause1 60 = .ok (.ifCond .eq 10, 3) := by decide +kernel
theorem dX10_clause1_70 : decode cX10_clause1 70 = .ok (.aload_n 0, 1) := by decide +kernel
theorem dX10_clause1_71 : decode cX10_clause1 71 = .ok (.iconst 0, 1) := by decide +kernel
theorem dX10_clause1_72 : decode cX10_clause1 72 = .ok (.iconst 1, 1) := by decide +kernel
theorem dX10_clause1_73 : decode cX10_clause1 73 = .ok (.invokevirtual 277, 3) := by decide +kernel
theorem dX10_clause1_76 : decode cX10_clause1 76 = .ok (.pop, 1) := by decide +kernel
theorem dX10_clause1_77 : decode cX10_clause1 77 = .ok (.return_, 1) := by decide +kernel
theorem dX10_clause1_8 : decode cX10_clause1 8 = .ok (.aload_n 0, 1) := by decide +kernel
theorem dX10_clause1_9 : decode cX10_clause1 9 = .ok (.getfield 257, 3) := by decide +kernel
theorem dX10_clause1_12 : decode cX10_clause1 12 = .ok (.goto 4, 3) := by decide +kernel
theorem dX10_clause1_63 : decode cX10_clause1 63 = .ok (.aload_n 0, 1) := by decide +kernel
theorem dX10_clause1_64 : decode cX10_clause1 64 = .ok (.invokevirtual 319, 3) := by decide +kernel
theorem dX10_clause1_67 : decode cX10_clause1 67 = .ok (.goto 10, 3) := by decide +kernel
theorem dX10_clause1_45 : decode cX10_clause1 45 = .ok (.aload_n 0, 1) := by decide +kernel
theorem dX10_clause1_46 : decode cX10_clause1 46 = .ok (.invokevirtual 316, 3) := by decide +kernel
theorem dX10_clause1_49 : decode cX10_clause1 49 = .ok (.goto 28, 3) := by decide +kernel
theorem dX10_clause1_33 : decode cX10_clause1 33 = .ok (.aload_n 0, 1) := by decide +kernel
theorem dX10_clause1_34 : decode cX10_clause1 34 = .ok (.invokevirtual 314, 3) := by decide +kernel
theorem dX10_clause1_37 : decode cX10_clause1 37 = .ok (.goto 40, 3) := by decide +kernel
theorem dX10_clause1_21 : decode cX10_clause1 21 = .ok (.aload_n 0, 1) := by decide +kernel
theorem dX10_clause1_22 : decode cX10_clause1 22 = .ok (.invokevirtual 311, 3) := by decide +kernel
theorem dX10_clause1_25 : decode cX10_clause1 25 = .ok (.goto 52, 3) := by decide +kernel
end
section
-- 86s.yclause1.lean.txt
def cl_map {a b : Type} (t : a → b) (x : Except (Int × Nat) (a × Nat)) : Except (Int × Nat) (b × Nat) := match x with
  | .error e => .error e
  | .ok v => .ok (t v.1, v.2)
/-- a clause without its semicolon -/
def ps_cl (T : Nat → Int) (n : Nat) (s : Int × Int × Int × (Nat → Int) × (Nat → Int) × (Nat → Int) × (Nat → Int) × (Nat → Int) × (Nat → Int) × (Nat → Int) × (Nat → Int) × (Nat → Nat → Int)) (f : Nat) : Except (Int × Nat) ((Int × Int × Int × (Nat → Int) × (Nat → Int) × (Nat → Int) × (Nat → Int) × (Nat → Int) × (Nat → Int) × (Nat → Int) × (Nat → Int) × (Nat → Nat → Int)) × Nat) :=
  if tk_w T n f = 0 then cl_map (fun v => (s.1 + 1, s.2.1, s.2.2.1, s.2.2.2.1, uZ s.2.2.2.2.1 (s.1).toNat v.1, uZ s.2.2.2.2.2.1 (s.1).toNat v.2, s.2.2.2.2.2.2.1, s.2.2.2.2.2.2.2.1, s.2.2.2.2.2.2.2.2.1, s.2.2.2.2.2.2.2.2.2.1, s.2.2.2.2.2.2.2.2.2.2.1, s.2.2.2.2.2.2.2.2.2.2.2)) (cl_slope T n s.1 f)
  else if tk_w T n f = 1 then cl_map (fun v => (s.1, s.2.1, s.2.2.1 + 1, uZ s.2.2.2.1 v.1.toNat (s.2.2.2.1 v.1.toNat + 1), s.2.2.2.2.1, s.2.2.2.2.2.1, s.2.2.2.2.2.2.1, s.2.2.2.2.2.2.2.1, s.2.2.2.2.2.2.2.2.1, s.2.2.2.2.2.2.2.2.2.1, s.2.2.2.2.2.2.2.2.2.2.1, (fun j => if j = v.1.toNat then la_ (s.2.2.2.2.2.2.2.2.2.2.2 v.1.toNat) (s.2.2.2.1 v.1.toNat) v.2.1 v.2.2.1 v.2.2.2.1 v.2.2.2.2.1 v.2.2.2.2.2 s.2.2.1 else s.2.2.2.2.2.2.2.2.2.2.2 j))) (cl_layer T n s.1 s.2.2.2.1 f)
  else if tk_w T n f = 2 then cl_map (fun v => (s.1, s.2.1 + 1, s.2.2.1, s.2.2.2.1, s.2.2.2.2.1, s.2.2.2.2.2.1, uZ s.2.2.2.2.2.2.1 (s.2.1).toNat v.1, uZ s.2.2.2.2.2.2.2.1 (s.2.1).toNat v.2.1, uZ s.2.2.2.2.2.2.2.2.1 (s.2.1).toNat v.2.2, s.2.2.2.2.2.2.2.2.2.1, s.2.2.2.2.2.2.2.2.2.2.1, s.2.2.2.2.2.2.2.2.2.2.2)) (cl_hour T n s.2.1 f)
  else if tk_w T n f = 6 then cl_map (fun v => (s.1, s.2.1, s.2.2.1, s.2.2.2.1, s.2.2.2.2.1, s.2.2.2.2.2.1, s.2.2.2.2.2.2.1, s.2.2.2.2.2.2.2.1, s.2.2.2.2.2.2.2.2.1, uZ s.2.2.2.2.2.2.2.2.2.1 v.1.toNat v.2, uZ s.2.2.2.2.2.2.2.2.2.2.1 v.1.toNat 1, s.2.2.2.2.2.2.2.2.2.2.2)) (cl_table T n s.2.2.2.2.2.2.2.2.2.2.1 0 0 99 f)
  else if tk_w T n f = 7 then cl_map (fun v => (s.1, s.2.1, s.2.2.1, s.2.2.2.1, s.2.2.2.2.1, s.2.2.2.2.2.1, s.2.2.2.2.2.2.1, s.2.2.2.2.2.2.2.1, s.2.2.2.2.2.2.2.2.1, uZ s.2.2.2.2.2.2.2.2.2.1 v.1.toNat v.2, uZ s.2.2.2.2.2.2.2.2.2.2.1 v.1.toNat 1, s.2.2.2.2.2.2.2.2.2.2.2)) (cl_table T n s.2.2.2.2.2.2.2.2.2.2.1 5 0 99 f)
  else if tk_w T n f = 8 then cl_map (fun v => (s.1, s.2.1, s.2.2.1, s.2.2.2.1, s.2.2.2.2.1, s.2.2.2.2.2.1, s.2.2.2.2.2.2.1, s.2.2.2.2.2.2.2.1, s.2.2.2.2.2.2.2.2.1, uZ s.2.2.2.2.2.2.2.2.2.1 v.1.toNat v.2, uZ s.2.2.2.2.2.2.2.2.2.2.1 v.1.toNat 1, s.2.2.2.2.2.2.2.2.2.2.2)) (cl_table T n s.2.2.2.2.2.2.2.2.2.2.1 10 1 9999 f)
  else .error (1, f)
theorem ps_step_cl (T : Nat → Int) (n : Nat) (s : Int × Int × Int × (Nat → Int) × (Nat → Int) × (Nat → Int) × (Nat → Int) × (Nat → Int) × (Nat → Int) × (Nat → Int) × (Nat → Int) × (Nat → Nat → Int)) (f : Nat) : ps_step T n s f = cl_fin T n (ps_cl T n s f) := by
  unfold ps_step ps_cl
  by_cases h0 : tk_w T n f = 0
  · rw [if_pos h0, if_pos h0]
    cases cl_slope T n s.1 f with
    | error e => rfl
    | ok v =>
      by_cases h9 : tk_so T n v.2 = 3
      · simp only [cl_fin, cl_map, if_pos h9]
      · simp only [cl_fin, cl_map, if_neg h9]
  rw [if_neg h0, if_neg h0]
  by_cases h1 : tk_w T n f = 1
  · rw [if_pos h1, if_pos h1]
    cases cl_layer T n s.1 s.2.2.2.1 f with
    | error e => rfl
    | ok v =>
      by_cases h9 : tk_so T n v.2 = 3
      · simp only [cl_fin, cl_map, if_pos h9]
      · simp only [cl_fin, cl_map, if_neg h9]
  rw [if_neg h1, if_neg h1]
  by_cases h2 : tk_w T n f = 2
  · rw [if_pos h2, if_pos h2]
    cases cl_hour T n s.2.1 f with
    | error e => rfl
    | ok v =>
      by_cases h9 : tk_so T n v.2 = 3
      · simp only [cl_fin, cl_map, if_pos h9]
      · simp only [cl_fin, cl_map, if_neg h9]
  rw [if_neg h2, if_neg h2]
  by_cases h6 : tk_w T n f = 6
  · rw [if_pos h6, if_pos h6]
    cases cl_table T n s.2.2.2.2.2.2.2.2.2.2.1 0 0 99 f with
    | error e => rfl
    | ok v =>
      by_cases h9 : tk_so T n v.2 = 3
      · simp only [cl_fin, cl_map, if_pos h9]
      · simp only [cl_fin, cl_map, if_neg h9]
  rw [if_neg h6, if_neg h6]
  by_cases h7 : tk_w T n f = 7
  · rw [if_pos h7, if_pos h7]
    cases cl_table T n s.2.2.2.2.2.2.2.2.2.2.1 5 0 99 f with
    | error e => rfl
    | ok v =>
      by_cases h9 : tk_so T n v.2 = 3
      · simp only [cl_fin, cl_map, if_pos h9]
      · simp only [cl_fin, cl_map, if_neg h9]
  rw [if_neg h7, if_neg h7]
  by_cases h8 : tk_w T n f = 8
  · rw [if_pos h8, if_pos h8]
    cases cl_table T n s.2.2.2.2.2.2.2.2.2.2.1 10 1 9999 f with
    | error e => rfl
    | ok v =>
      by_cases h9 : tk_so T n v.2 = 3
      · simp only [cl_fin, cl_map, if_pos h9]
      · simp only [cl_fin, cl_map, if_neg h9]
  rw [if_neg h8, if_neg h8]
  rfl
theorem ps_step_er {T : Nat → Int} {n : Nat} {s : Int × Int × Int × (Nat → Int) × (Nat → Int) × (Nat → Int) × (Nat → Int) × (Nat → Int) × (Nat → Int) × (Nat → Int) × (Nat → Int) × (Nat → Nat → Int)} {f : Nat} {e : Int × Nat} (h : ps_cl T n s f = .error e) : ps_step T n s f = .error e := by
  rw [ps_step_cl, h]
  rfl
theorem ps_step_ok {T : Nat → Int} {n : Nat} {s : Int × Int × Int × (Nat → Int) × (Nat → Int) × (Nat → Int) × (Nat → Int) × (Nat → Int) × (Nat → Int) × (Nat → Int) × (Nat → Int) × (Nat → Nat → Int)} {f : Nat} {v : (Int × Int × Int × (Nat → Int) × (Nat → Int) × (Nat → Int) × (Nat → Int) × (Nat → Int) × (Nat → Int) × (Nat → Int) × (Nat → Int) × (Nat → Nat → Int)) × Nat} (h : ps_cl T n s f = .ok v) (h3 : tk_so T n v.2 = 3) : ps_step T n s f = .ok (v.1, tk_nx T n v.2) := by
  rw [ps_step_cl, h]
  simp only [cl_fin, if_pos h3]
theorem ps_step_ns {T : Nat → Int} {n : Nat} {s : Int × Int × Int × (Nat → Int) × (Nat → Int) × (Nat → Int) × (Nat → Int) × (Nat → Int) × (Nat → Int) × (Nat → Int) × (Nat → Int) × (Nat → Nat → Int)} {f : Nat} {v : (Int × Int × Int × (Nat → Int) × (Nat → Int) × (Nat → Int) × (Nat → Int) × (Nat → Int) × (Nat → Int) × (Nat → Int) × (Nat → Int) × (Nat → Nat → Int)) × Nat} (h : ps_cl T n s f = .ok v) (h3 : tk_so T n v.2 ≠ 3) : ps_step T n s f = .error (1, v.2) := by
  rw [ps_step_cl, h]
  simp only [cl_fin, if_neg h3]

set_option maxRecDepth 100000 in
set_option maxHeartbeats 4000000 in
theorem c_yClause1 (l : Launch) (D : va_G) (A : Nat → Prop) (cs : Nat → ClassId) (tt : Nat) (N : Nat) (ad : Nat → Nat) (g : Nat → va_E) (i : Nat) (hN : i + 30 ≤ N) (F : Nat → Int) (hg : g i = mC ad i F) (tp : Nat → Int) (ha13 : g (i + 13) = iA cs 900 tp) (T : Nat → Int) (n : Nat) (hn : n ≤ 900) (hTb : ∀ k, k < n → 0 ≤ T k ∧ T k ≤ 255) (hTt : ∀ k, k < n → tp k = T k) (htp : ∀ k, k < 900 → 0 ≤ tp k ∧ tp k ≤ 255) (f : Nat) (hk : tkR T n F f) (h38 : F 38 = 0) (hfl : f < n) (sl ho nm : Int) (mn st op ai fa mu tb B : Nat → Int) (Lz : Nat → Nat → Int) (hX : xTx cs g i F (sl, ho, nm, mn, st, op, ai, fa, mu, tb, B, Lz)) : zM l yX10_clause1 cX10_clause1 2 none ({ frames := 6, cells := 0, slots := 0, locals := 360 } : Room) D A cs tt N ad g [.ref (ad i)] (rV0 N ad fun g' => (∃ F' : Nat → Int, g' i = mC ad i F' ∧ (∀ f, f ≠ 24 → f ≠ 32 → f ≠ 33 → f ≠ 35 → f ≠ 36 → f ≠ 37 → f ≠ 38 → f ≠ 47 → f ≠ 48 → f ≠ 49 → F' f = F f) ∧ ((∃ v, ps_cl T n (sl, ho, nm, mn, st, op, ai, fa, mu, tb, B, Lz) f = .ok v ∧ F' 38 = 0 ∧ F' 24 = F 24 ∧ f < v.2 ∧ tkR T n F' v.2 ∧ xTx cs g' i F' v.1) ∨ (∃ e : Int × Nat, ps_cl T n (sl, ho, nm, mn, st, op, ai, fa, mu, tb, B, Lz) f = .error e ∧ F' 38 = e.1 ∧ F' 24 = (e.2 : Int) ∧ (1 ≤ e.1 ∧ e.1 ≤ 5) ∧ (∃ f9, tkR T n F' f9) ∧ okTx cs g' i F'))) ∧ ∀ j, j ≠ i → j < i + 16 ∨ i + 23 < j → g' j = g j) := by
  have hay1 : zAt ad (i) (ad i) := rfl
  have hay2 : zAt ad (i + 13) (ad (i + 13)) := rfl
  have hsry3 := srt_b T n f
  have hvly4 := vlu_b hTb f
  have hwby5 := tk_w_b T n f
  have hfny6 := hk.1
  have hwb := tk_w_b T n f
  refine z_of (by decide) (Nat.le_of_ble_eq_true rfl) ?_
  intro pZ eZ sZ mZ below meth cZ C hr hlk hnm
  refine z_lv (lv' := [(0, .ref (ad i))]) [0] rfl ?_
  refine z_aload_n C 0 dX10_clause1_0 rfl ?_
  refine z_get (v := .int (zI (srt (tk_so T n f)))) C (lt_A0 hN rfl) hay1 hg rfl inA_X10 35 (by decide) q_1494 rfl (fv (F := F) (f := 35) hk.2.2.2.2.1) dX10_clause1_1 ?_
  refine z_iconst (z := 1) C dX10_clause1_4 rfl ?_
  refine z_icmp_ne (tgt := 15) C dX10_clause1_5 (by decide) (by omega) (by omega) (fun hby7 => ?_) (fun hby7 => ?_)
  · have hw1 : tk_w T n f = -1 := tk_w_let (fun e9 => by have := srt1.mpr e9; omega)
    refine z_iconst (z := -1) C dX10_clause1_15 rfl ?_
    refine z_istore_n (lv' := [(1, .int (zI (-1))), (0, .ref (ad i))]) C dX10_clause1_16 rfl (by decide) rfl ?_
    refine z_iload_n C 0 dX10_clause1_17 rfl ?_
    refine z_if_ne (tgt := 28) C dX10_clause1_18 (by decide) (by omega) (fun _ => ?_) (fun h => absurd h (by omega))
    refine z_iload_n C 0 dX10_clause1_28 rfl ?_
    refine z_iconst (z := 1) C dX10_clause1_29 rfl ?_
    refine z_icmp_ne (tgt := 40) C dX10_clause1_30 (by decide) (by omega) (by omega) (fun _ => ?_) (fun h => absurd h (by omega))
    refine z_iload_n C 0 dX10_clause1_40 rfl ?_
    refine z_iconst (z := 2) C dX10_clause1_41 rfl ?_
    refine z_icmp_ne (tgt := 52) C dX10_clause1_42 (by decide) (by omega) (by omega) (fun _ => ?_) (fun h => absurd h (by omega))
    refine z_iload_n C 0 dX10_clause1_52 rfl ?_
    refine z_bipush (z := 6) C dX10_clause1_53 (by decide) ?_
    refine z_bipush (z := 8) C dX10_clause1_55 (by decide) ?_
    refine z_cS (As := [.int (zI (-1)), .int (zI (6)), .int (zI (8))]) (rest := []) C (c_X10_within l D A cs tt N ad _ (-1) (by omega) (6) (by omega) (8) (by omega)) ms_yX10_within q_1686 hd_yX10_within (by decide) (Nat.le_of_ble_eq_true rfl) (by decide) dX10_clause1_57 rfl (kI0 fun vy8 gvy8 hvy8 => ?_)
    obtain ⟨hvy8, rfl⟩ := hvy8
    obtain rfl : vy8 = 0 := by omega
    refine z_if_eq (tgt := 70) C dX10_clause1_60 (by decide) (by omega) (fun _ => ?_) (fun h => absurd h (by omega))
    refine z_aload_n C 1 dX10_clause1_70 rfl ?_
    refine z_iconst (z := 0) C dX10_clause1_71 rfl ?_
    refine z_iconst (z := 1) C dX10_clause1_72 rfl ?_
    have h33vy9 : F 33 = (f : Int) := hk.2.2.1
    have h24vy9 : F 24 = F 24 := rfl
    have htvy9 : tkR T n F f := hk
    refine z_cV (As := [.int (zI (0)), .int (zI (1))]) (rest := []) (ci := 12) C (c_yWants l D A cs tt N ad _ i hN _ hg h38 (0) (by omega) (1) (by omega)) (lt_A0 hN rfl) hay1 hg rfl rfl mv_yX10_wants q_1678 hd_yX10_wants (by decide) (Nat.le_of_ble_eq_true rfl) (by decide) dX10_clause1_73 rfl (kI0 fun vy9 gvy9 hvy9 => ?_)
    obtain ⟨⟨Fvy9, hcvy9, hqvy9, hFvy9⟩, hfvy9⟩ := hvy9
    obtain ⟨rfl, hevy9, hbvy9⟩ : vy9 = 0 ∧ Fvy9 38 = 1 ∧ Fvy9 24 = (f : Int) := by omega
    clear hqvy9 h33vy9 h24vy9
    have hkvy9 : tkR T n Fvy9 f := tkR.w htvy9 hFvy9 (by omega)
    refine z_pop C dX10_clause1_76 rfl ?_
    have hFy10 : ∀ f, f ≠ 24 → f ≠ 32 → f ≠ 33 → f ≠ 35 → f ≠ 36 → f ≠ 37 → f ≠ 38 → f ≠ 47 → f ≠ 48 → f ≠ 49 → Fvy9 f = F f := fun f n24 n32 n33 n35 n36 n37 n38 n47 n48 n49 => (hFvy9 f n24 n38)
    have hwcy11 : ¬ tk_w T n f = 0 := by omega
    have hwcy12 : ¬ tk_w T n f = 1 := by omega
    have hwcy13 : ¬ tk_w T n f = 2 := by omega
    have hwcy14 : ¬ tk_w T n f = 6 := by omega
    have hwcy15 : ¬ tk_w T n f = 7 := by omega
    have hwcy16 : ¬ tk_w T n f = 8 := by omega
    have hey17 : Fvy9 24 = (f : Int) := hbvy9
    have hey18 : Fvy9 38 = 1 := hevy9
    have hey19 : Fvy9 32 = ((tk_to T n f : Nat) : Int) := ((hFvy9 32 (by decide) (by decide)).trans hk.2.1)
    have hey20 : Fvy9 47 = F 47 := (hFvy9 47 (by decide) (by decide))
    have hey21 : Fvy9 48 = F 48 := (hFvy9 48 (by decide) (by decide))
    have hey22 : Fvy9 49 = F 49 := (hFvy9 49 (by decide) (by decide))
    have htx9 : okTx cs gvy9 i Fvy9 := hX.ok.mv (fun j a b => by rw [hfvy9 _ (by omega)]) ⟨by omega, by omega, by omega, by have := hk.2.1; omega⟩
    exact z_vret C hr hlk dX10_clause1_77 (by decide) (by decide) ⟨rfl, rfl, rfl, ⟨_, hcvy9, hFy10, Or.inr ⟨(1, f), by simp only [ps_cl, if_neg hwcy11, if_neg hwcy12, if_neg hwcy13, if_neg hwcy14, if_neg hwcy15, if_neg hwcy16], by show Fvy9 38 = 1; omega, by show Fvy9 24 = ((f : Nat) : Int); omega, by show 1 ≤ 1 ∧ 1 ≤ 5; omega, ⟨_, hkvy9⟩, htx9⟩⟩, fun j j1 j2 => by rw [hfvy9 _ (by omega)]⟩
  · refine z_aload_n C 0 dX10_clause1_8 rfl ?_
    refine z_get (v := .int (zI (tk_w T n f))) C (lt_A0 hN rfl) hay1 hg rfl inA_X10 37 (by decide) q_1496 rfl (fv (F := F) (f := 37) hk.2.2.2.2.2.2.1) dX10_clause1_9 ?_
    refine z_goto (tgt := 16) C dX10_clause1_12 (by decide) ?_
    refine z_istore_n (lv' := [(1, .int (zI (tk_w T n f))), (0, .ref (ad i))]) C dX10_clause1_16 rfl (by decide) rfl ?_
    refine z_iload_n C 0 dX10_clause1_17 rfl ?_
    refine z_if_ne (tgt := 28) C dX10_clause1_18 (by decide) (by omega) (fun hby23 => ?_) (fun hby23 => ?_)
    · refine z_iload_n C 0 dX10_clause1_28 rfl ?_
      refine z_iconst (z := 1) C dX10_clause1_29 rfl ?_
      refine z_icmp_ne (tgt := 40) C dX10_clause1_30 (by decide) (by omega) (by omega) (fun hby24 => ?_) (fun hby24 => ?_)
      · refine z_iload_n C 0 dX10_clause1_40 rfl ?_
        refine z_iconst (z := 2) C dX10_clause1_41 rfl ?_
        refine z_icmp_ne (tgt := 52) C dX10_clause1_42 (by decide) (by omega) (by omega) (fun hby25 => ?_) (fun hby25 => ?_)
        · refine z_iload_n C 0 dX10_clause1_52 rfl ?_
          refine z_bipush (z := 6) C dX10_clause1_53 (by decide) ?_
          refine z_bipush (z := 8) C dX10_clause1_55 (by decide) ?_
          refine z_cS (As := [.int (zI (tk_w T n f)), .int (zI (6)), .int (zI (8))]) (rest := []) C (c_X10_within l D A cs tt N ad _ (tk_w T n f) (by omega) (6) (by omega) (8) (by omega)) ms_yX10_within q_1686 hd_yX10_within (by decide) (Nat.le_of_ble_eq_true rfl) (by decide) dX10_clause1_57 rfl (kI0 fun vy26 gvy26 hvy26 => ?_)
          obtain ⟨hvy26, rfl⟩ := hvy26
          rcases hvy26 with ⟨rfl, hxvy26⟩ | ⟨rfl, hxvy26⟩
          · refine z_if_eq (tgt := 70) C dX10_clause1_60 (by decide) (by omega) (fun h => absurd h (by omega)) (fun _ => ?_)
            refine z_aload_n C 1 dX10_clause1_63 rfl ?_
            rcases (show tk_w T n f = 6 ∨ tk_w T n f = 7 ∨ tk_w T n f = 8 by omega) with hwd | hwd | hwd
            · have hwcy28 : ¬ tk_w T n f = 0 := by omega
              have hwcy29 : ¬ tk_w T n f = 1 := by omega
              have hwcy30 : ¬ tk_w T n f = 2 := by omega
              have hwcy31 : tk_w T n f = 6 := by omega
              refine z_cV (As := []) (rest := []) (ci := 12) C (c_yTable0 l D A cs tt N ad _ i hN _ hg _ ha13 T n hn hTb hTt htp f hk h38 hfl sl ho nm mn st op ai fa mu tb B Lz hX hwd) (lt_A0 hN rfl) hay1 hg rfl rfl mv_yX10_table1 q_1709 hd_yX10_table1 (by decide) (Nat.le_of_ble_eq_true rfl) (by decide) dX10_clause1_64 rfl (kV0 fun gvy27 hvy27 => ?_)
              obtain ⟨⟨Fvy27, hcvy27, hFvy27, hqvy27⟩, hfvy27⟩ := hvy27
              rcases hqvy27 with hqvy27 | hqvy27
              · obtain ⟨vvy27, hvvy27, havy27, hbvy27, hlvy27, hkvy27, hxvy27⟩ := hqvy27
                refine z_goto (tgt := 77) C dX10_clause1_67 (by decide) ?_
                exact z_vret C hr hlk dX10_clause1_77 (by decide) (by decide) ⟨rfl, rfl, rfl, ⟨_, hcvy27, hFvy27, Or.inl ⟨((sl, ho, nm, mn, st, op, ai, fa, mu, uZ tb vvy27.1.1.toNat vvy27.1.2, uZ B vvy27.1.1.toNat 1, Lz), vvy27.2), by simp only [ps_cl, if_neg hwcy28, if_neg hwcy29, if_neg hwcy30, if_pos hwcy31, cl_map, hvvy27], havy27, hbvy27, hlvy27, hkvy27, hxvy27⟩⟩, fun j j1 j2 => by rw [hfvy27 _ (by omega) (by omega)]⟩
              · obtain ⟨evy27, hvvy27, havy27, hbvy27, hlvy27, hkvy27, hxvy27⟩ := hqvy27
                refine z_goto (tgt := 77) C dX10_clause1_67 (by decide) ?_
                exact z_vret C hr hlk dX10_clause1_77 (by decide) (by decide) ⟨rfl, rfl, rfl, ⟨_, hcvy27, hFvy27, Or.inr ⟨evy27, by simp only [ps_cl, if_neg hwcy28, if_neg hwcy29, if_neg hwcy30, if_pos hwcy31, cl_map, hvvy27], havy27, hbvy27, hlvy27, hkvy27, hxvy27⟩⟩, fun j j1 j2 => by rw [hfvy27 _ (by omega) (by omega)]⟩
            · have hwcy33 : ¬ tk_w T n f = 0 := by omega
              have hwcy34 : ¬ tk_w T n f = 1 := by omega
              have hwcy35 : ¬ tk_w T n f = 2 := by omega
              have hwcy36 : ¬ tk_w T n f = 6 := by omega
              have hwcy37 : tk_w T n f = 7 := by omega
              refine z_cV (As := []) (rest := []) (ci := 12) C (c_yTable1 l D A cs tt N ad _ i hN _ hg _ ha13 T n hn hTb hTt htp f hk h38 hfl sl ho nm mn st op ai fa mu tb B Lz hX hwd) (lt_A0 hN rfl) hay1 hg rfl rfl mv_yX10_table1 q_1709 hd_yX10_table1 (by decide) (Nat.le_of_ble_eq_true rfl) (by decide) dX10_clause1_64 rfl (kV0 fun gvy32 hvy32 => ?_)
              obtain ⟨⟨Fvy32, hcvy32, hFvy32, hqvy32⟩, hfvy32⟩ := hvy32
              rcases hqvy32 with hqvy32 | hqvy32
              · obtain ⟨vvy32, hvvy32, havy32, hbvy32, hlvy32, hkvy32, hxvy32⟩ := hqvy32
                refine z_goto (tgt := 77) C dX10_clause1_67 (by decide) ?_
                exact z_vret C hr hlk dX10_clause1_77 (by decide) (by decide) ⟨rfl, rfl, rfl, ⟨_, hcvy32, hFvy32, Or.inl ⟨((sl, ho, nm, mn, st, op, ai, fa, mu, uZ tb vvy32.1.1.toNat vvy32.1.2, uZ B vvy32.1.1.toNat 1, Lz), vvy32.2), by simp only [ps_cl, if_neg hwcy33, if_neg hwcy34, if_neg hwcy35, if_neg hwcy36, if_pos hwcy37, cl_map, hvvy32], havy32, hbvy32, hlvy32, hkvy32, hxvy32⟩⟩, fun j j1 j2 => by rw [hfvy32 _ (by omega) (by omega)]⟩
              · obtain ⟨evy32, hvvy32, havy32, hbvy32, hlvy32, hkvy32, hxvy32⟩ := hqvy32
                refine z_goto (tgt := 77) C dX10_clause1_67 (by decide) ?_
                exact z_vret C hr hlk dX10_clause1_77 (by decide) (by decide) ⟨rfl, rfl, rfl, ⟨_, hcvy32, hFvy32, Or.inr ⟨evy32, by simp only [ps_cl, if_neg hwcy33, if_neg hwcy34, if_neg hwcy35, if_neg hwcy36, if_pos hwcy37, cl_map, hvvy32], havy32, hbvy32, hlvy32, hkvy32, hxvy32⟩⟩, fun j j1 j2 => by rw [hfvy32 _ (by omega) (by omega)]⟩
            · have hwcy39 : ¬ tk_w T n f = 0 := by omega
              have hwcy40 : ¬ tk_w T n f = 1 := by omega
              have hwcy41 : ¬ tk_w T n f = 2 := by omega
              have hwcy42 : ¬ tk_w T n f = 6 := by omega
              have hwcy43 : ¬ tk_w T n f = 7 := by omega
              have hwcy44 : tk_w T n f = 8 := by omega
              refine z_cV (As := []) (rest := []) (ci := 12) C (c_yTable2 l D A cs tt N ad _ i hN _ hg _ ha13 T n hn hTb hTt htp f hk h38 hfl sl ho nm mn st op ai fa mu tb B Lz hX hwd) (lt_A0 hN rfl) hay1 hg rfl rfl mv_yX10_table1 q_1709 hd_yX10_table1 (by decide) (Nat.le_of_ble_eq_true rfl) (by decide) dX10_clause1_64 rfl (kV0 fun gvy38 hvy38 => ?_)
              obtain ⟨⟨Fvy38, hcvy38, hFvy38, hqvy38⟩, hfvy38⟩ := hvy38
              rcases hqvy38 with hqvy38 | hqvy38
              · obtain ⟨vvy38, hvvy38, havy38, hbvy38, hlvy38, hkvy38, hxvy38⟩ := hqvy38
                refine z_goto (tgt := 77) C dX10_clause1_67 (by decide) ?_
                exact z_vret C hr hlk dX10_clause1_77 (by decide) (by decide) ⟨rfl, rfl, rfl, ⟨_, hcvy38, hFvy38, Or.inl ⟨((sl, ho, nm, mn, st, op, ai, fa, mu, uZ tb vvy38.1.1.toNat vvy38.1.2, uZ B vvy38.1.1.toNat 1, Lz), vvy38.2), by simp only [ps_cl, if_neg hwcy39, if_neg hwcy40, if_neg hwcy41, if_neg hwcy42, if_neg hwcy43, if_pos hwcy44, cl_map, hvvy38], havy38, hbvy38, hlvy38, hkvy38, hxvy38⟩⟩, fun j j1 j2 => by rw [hfvy38 _ (by omega) (by omega)]⟩
              · obtain ⟨evy38, hvvy38, havy38, hbvy38, hlvy38, hkvy38, hxvy38⟩ := hqvy38
                refine z_goto (tgt := 77) C dX10_clause1_67 (by decide) ?_
                exact z_vret C hr hlk dX10_clause1_77 (by decide) (by decide) ⟨rfl, rfl, rfl, ⟨_, hcvy38, hFvy38, Or.inr ⟨evy38, by simp only [ps_cl, if_neg hwcy39, if_neg hwcy40, if_neg hwcy41, if_neg hwcy42, if_neg hwcy43, if_pos hwcy44, cl_map, hvvy38], havy38, hbvy38, hlvy38, hkvy38, hxvy38⟩⟩, fun j j1 j2 => by rw [hfvy38 _ (by omega) (by omega)]⟩
          · refine z_if_eq (tgt := 70) C dX10_clause1_60 (by decide) (by omega) (fun _ => ?_) (fun h => absurd h (by omega))
            refine z_aload_n C 1 dX10_clause1_70 rfl ?_
            refine z_iconst (z := 0) C dX10_clause1_71 rfl ?_
            refine z_iconst (z := 1) C dX10_clause1_72 rfl ?_
            have h33vy45 : F 33 = (f : Int) := hk.2.2.1
            have h24vy45 : F 24 = F 24 := rfl
            have htvy45 : tkR T n F f := hk
            refine z_cV (As := [.int (zI (0)), .int (zI (1))]) (rest := []) (ci := 12) C (c_yWants l D A cs tt N ad _ i hN _ hg h38 (0) (by omega) (1) (by omega)) (lt_A0 hN rfl) hay1 hg rfl rfl mv_yX10_wants q_1678 hd_yX10_wants (by decide) (Nat.le_of_ble_eq_true rfl) (by decide) dX10_clause1_73 rfl (kI0 fun vy45 gvy45 hvy45 => ?_)
            obtain ⟨⟨Fvy45, hcvy45, hqvy45, hFvy45⟩, hfvy45⟩ := hvy45
            obtain ⟨rfl, hevy45, hbvy45⟩ : vy45 = 0 ∧ Fvy45 38 = 1 ∧ Fvy45 24 = (f : Int) := by omega
            clear hqvy45 h33vy45 h24vy45
            have hkvy45 : tkR T n Fvy45 f := tkR.w htvy45 hFvy45 (by omega)
            refine z_pop C dX10_clause1_76 rfl ?_
            have hFy46 : ∀ f, f ≠ 24 → f ≠ 32 → f ≠ 33 → f ≠ 35 → f ≠ 36 → f ≠ 37 → f ≠ 38 → f ≠ 47 → f ≠ 48 → f ≠ 49 → Fvy45 f = F f := fun f n24 n32 n33 n35 n36 n37 n38 n47 n48 n49 => (hFvy45 f n24 n38)
            have hwcy47 : ¬ tk_w T n f = 0 := by omega
            have hwcy48 : ¬ tk_w T n f = 1 := by omega
            have hwcy49 : ¬ tk_w T n f = 2 := by omega
            have hwcy50 : ¬ tk_w T n f = 6 := by omega
            have hwcy51 : ¬ tk_w T n f = 7 := by omega
            have hwcy52 : ¬ tk_w T n f = 8 := by omega
            have hey53 : Fvy45 24 = (f : Int) := hbvy45
            have hey54 : Fvy45 38 = 1 := hevy45
            have hey55 : Fvy45 32 = ((tk_to T n f : Nat) : Int) := ((hFvy45 32 (by decide) (by decide)).trans hk.2.1)
            have hey56 : Fvy45 47 = F 47 := (hFvy45 47 (by decide) (by decide))
            have hey57 : Fvy45 48 = F 48 := (hFvy45 48 (by decide) (by decide))
            have hey58 : Fvy45 49 = F 49 := (hFvy45 49 (by decide) (by decide))
            have htx9 : okTx cs gvy45 i Fvy45 := hX.ok.mv (fun j a b => by rw [hfvy45 _ (by omega)]) ⟨by omega, by omega, by omega, by have := hk.2.1; omega⟩
            exact z_vret C hr hlk dX10_clause1_77 (by decide) (by decide) ⟨rfl, rfl, rfl, ⟨_, hcvy45, hFy46, Or.inr ⟨(1, f), by simp only [ps_cl, if_neg hwcy47, if_neg hwcy48, if_neg hwcy49, if_neg hwcy50, if_neg hwcy51, if_neg hwcy52], by show Fvy45 38 = 1; omega, by show Fvy45 24 = ((f : Nat) : Int); omega, by show 1 ≤ 1 ∧ 1 ≤ 5; omega, ⟨_, hkvy45⟩, htx9⟩⟩, fun j j1 j2 => by rw [hfvy45 _ (by omega)]⟩
        · refine z_aload_n C 1 dX10_clause1_45 rfl ?_
          have hwcy60 : ¬ tk_w T n f = 0 := by omega
          have hwcy61 : ¬ tk_w T n f = 1 := by omega
          have hwcy62 : tk_w T n f = 2 := by omega
          refine z_cV (As := []) (rest := []) (ci := 12) C (c_yHour l D A cs tt N ad _ i hN _ hg _ ha13 T n hn hTb hTt htp f hk h38 hfl sl ho nm mn st op ai fa mu tb B Lz hX) (lt_A0 hN rfl) hay1 hg rfl rfl mv_yX10_hour1 q_1701 hd_yX10_hour1 (by decide) (Nat.le_of_ble_eq_true rfl) (by decide) dX10_clause1_46 rfl (kV0 fun gvy59 hvy59 => ?_)
          obtain ⟨⟨Fvy59, hcvy59, hFvy59, hqvy59⟩, hfvy59⟩ := hvy59
          rcases hqvy59 with hqvy59 | hqvy59
          · obtain ⟨vvy59, hvvy59, havy59, hbvy59, hlvy59, hkvy59, hxvy59⟩ := hqvy59
            refine z_goto (tgt := 77) C dX10_clause1_49 (by decide) ?_
            exact z_vret C hr hlk dX10_clause1_77 (by decide) (by decide) ⟨rfl, rfl, rfl, ⟨_, hcvy59, hFvy59, Or.inl ⟨((sl, ho + 1, nm, mn, st, op, uZ ai (ho).toNat vvy59.1.1, uZ fa (ho).toNat vvy59.1.2.1, uZ mu (ho).toNat vvy59.1.2.2, tb, B, Lz), vvy59.2), by simp only [ps_cl, if_neg hwcy60, if_neg hwcy61, if_pos hwcy62, cl_map, hvvy59], havy59, hbvy59, hlvy59, hkvy59, hxvy59⟩⟩, fun j j1 j2 => by rw [hfvy59 _ (by omega) (by omega)]⟩
          · obtain ⟨evy59, hvvy59, havy59, hbvy59, hlvy59, hkvy59, hxvy59⟩ := hqvy59
            refine z_goto (tgt := 77) C dX10_clause1_49 (by decide) ?_
            exact z_vret C hr hlk dX10_clause1_77 (by decide) (by decide) ⟨rfl, rfl, rfl, ⟨_, hcvy59, hFvy59, Or.inr ⟨evy59, by simp only [ps_cl, if_neg hwcy60, if_neg hwcy61, if_pos hwcy62, cl_map, hvvy59], havy59, hbvy59, hlvy59, hkvy59, hxvy59⟩⟩, fun j j1 j2 => by rw [hfvy59 _ (by omega) (by omega)]⟩
      · refine z_aload_n C 1 dX10_clause1_33 rfl ?_
        have hwcy64 : ¬ tk_w T n f = 0 := by omega
        have hwcy65 : tk_w T n f = 1 := by omega
        refine z_cV (As := []) (rest := []) (ci := 12) C (c_yLayer l D A cs tt N ad _ i hN _ hg _ ha13 T n hn hTb hTt htp f hk h38 hfl sl ho nm mn st op ai fa mu tb B Lz hX) (lt_A0 hN rfl) hay1 hg rfl rfl mv_yX10_layer1 q_1689 hd_yX10_layer1 (by decide) (Nat.le_of_ble_eq_true rfl) (by decide) dX10_clause1_34 rfl (kV0 fun gvy63 hvy63 => ?_)
        obtain ⟨⟨Fvy63, hcvy63, hFvy63, hqvy63⟩, hfvy63⟩ := hvy63
        rcases hqvy63 with hqvy63 | hqvy63
        · obtain ⟨vvy63, hvvy63, havy63, hbvy63, hlvy63, hkvy63, hxvy63⟩ := hqvy63
          refine z_goto (tgt := 77) C dX10_clause1_37 (by decide) ?_
          exact z_vret C hr hlk dX10_clause1_77 (by decide) (by decide) ⟨rfl, rfl, rfl, ⟨_, hcvy63, hFvy63, Or.inl ⟨((sl, ho, nm + 1, uZ mn vvy63.1.1.toNat (mn vvy63.1.1.toNat + 1), st, op, ai, fa, mu, tb, B, (fun j => if j = vvy63.1.1.toNat then la_ (Lz vvy63.1.1.toNat) (mn vvy63.1.1.toNat) vvy63.1.2.1 vvy63.1.2.2.1 vvy63.1.2.2.2.1 vvy63.1.2.2.2.2.1 vvy63.1.2.2.2.2.2 nm else Lz j)), vvy63.2), by simp only [ps_cl, if_neg hwcy64, if_pos hwcy65, cl_map, hvvy63], havy63, hbvy63, hlvy63, hkvy63, hxvy63⟩⟩, fun j j1 j2 => by rw [hfvy63 _ (by omega) (by omega)]⟩
        · obtain ⟨evy63, hvvy63, havy63, hbvy63, hlvy63, hkvy63, hxvy63⟩ := hqvy63
          refine z_goto (tgt := 77) C dX10_clause1_37 (by decide) ?_
          exact z_vret C hr hlk dX10_clause1_77 (by decide) (by decide) ⟨rfl, rfl, rfl, ⟨_, hcvy63, hFvy63, Or.inr ⟨evy63, by simp only [ps_cl, if_neg hwcy64, if_pos hwcy65, cl_map, hvvy63], havy63, hbvy63, hlvy63, hkvy63, hxvy63⟩⟩, fun j j1 j2 => by rw [hfvy63 _ (by omega) (by omega)]⟩
    · refine z_aload_n C 1 dX10_clause1_21 rfl ?_
      have hwcy67 : tk_w T n f = 0 := by omega
      refine z_cV (As := []) (rest := []) (ci := 12) C (c_ySlope l D A cs tt N ad _ i hN _ hg _ ha13 T n hn hTb hTt htp f hk h38 hfl sl ho nm mn st op ai fa mu tb B Lz hX) (lt_A0 hN rfl) hay1 hg rfl rfl mv_yX10_slope1 q_1674 hd_yX10_slope1 (by decide) (Nat.le_of_ble_eq_true rfl) (by decide) dX10_clause1_22 rfl (kV0 fun gvy66 hvy66 => ?_)
      obtain ⟨⟨Fvy66, hcvy66, hFvy66, hqvy66⟩, hfvy66⟩ := hvy66
      rcases hqvy66 with hqvy66 | hqvy66
      · obtain ⟨vvy66, hvvy66, havy66, hbvy66, hlvy66, hkvy66, hxvy66⟩ := hqvy66
        refine z_goto (tgt := 77) C dX10_clause1_25 (by decide) ?_
        exact z_vret C hr hlk dX10_clause1_77 (by decide) (by decide) ⟨rfl, rfl, rfl, ⟨_, hcvy66, hFvy66, Or.inl ⟨((sl + 1, ho, nm, mn, uZ st (sl).toNat vvy66.1.1, uZ op (sl).toNat vvy66.1.2, ai, fa, mu, tb, B, Lz), vvy66.2), by simp only [ps_cl, if_pos hwcy67, cl_map, hvvy66], havy66, hbvy66, hlvy66, hkvy66, hxvy66⟩⟩, fun j j1 j2 => by rw [hfvy66 _ (by omega) (by omega)]⟩
      · obtain ⟨evy66, hvvy66, havy66, hbvy66, hlvy66, hkvy66, hxvy66⟩ := hqvy66
        refine z_goto (tgt := 77) C dX10_clause1_25 (by decide) ?_
        exact z_vret C hr hlk dX10_clause1_77 (by decide) (by decide) ⟨rfl, rfl, rfl, ⟨_, hcvy66, hFvy66, Or.inr ⟨evy66, by simp only [ps_cl, if_pos hwcy67, cl_map, hvvy66], havy66, hbvy66, hlvy66, hkvy66, hxvy66⟩⟩, fun j j1 j2 => by rw [hfvy66 _ (by omega) (by omega)]⟩
end
section
-- 87.words.lean.txt
-- words of refs
theorem q_1471 : (Jvm.Cond.fieldLink "SnowRecorderModel" (110 : Nat) "SnowRecorderModel" "thrown" "I") ∈ AW := AW_m7 31 (by decide +kernel) (by decide +kernel)
theorem q_1474 : (Jvm.Cond.fieldLink "SnowRecorderModel" (342 : Nat) "SnowRecorderModel" "acts" "I") ∈ AW := AW_m7 34 (by decide +kernel) (by decide +kernel)
theorem q_1475 : (Jvm.Cond.fieldLink "SnowRecorderModel" (339 : Nat) "SnowRecorderModel" "firstAct" "I") ∈ AW := AW_m7 35 (by decide +kernel) (by decide +kernel)
theorem q_1648 : (Jvm.Cond.methodLink "SnowRecorderModel" (324 : Nat) ({ cls := "SnowRecorderModel", name := "right", desc := "(ZI)Z" } : Jvm.MethodName)) ∈ AW := AW_m7 208 (by decide +kernel) (by decide +kernel)
theorem q_1650 : (Jvm.Cond.instanceMethod ({ cls := "SnowRecorderModel", name := "right", desc := "(ZI)Z" } : Jvm.MethodName)) ∈ AW := AW_m7 210 (by decide +kernel) (by decide +kernel)
theorem q_1651 : (Jvm.Cond.code ({ cls := "SnowRecorderModel", name := "right", desc := "(ZI)Z" } : Jvm.MethodName) prog_12_method_4_code (3 : Nat) (Option.some Jvm.ClassFile.FieldType.boolean)) ∈ AW := AW_m7 211 (by decide +kernel) (by decide +kernel)
theorem q_1803 : (Jvm.Cond.methodLink "SnowRecorderModel" (360 : Nat) ({ cls := "SnowRecorderModel", name := "isSlope", desc := "(I)Z" } : Jvm.MethodName)) ∈ AW := AW_m8 123 (by decide +kernel) (by decide +kernel)
theorem q_1805 : (Jvm.Cond.instanceMethod ({ cls := "SnowRecorderModel", name := "isSlope", desc := "(I)Z" } : Jvm.MethodName)) ∈ AW := AW_m8 125 (by decide +kernel) (by decide +kernel)
theorem q_1806 : (Jvm.Cond.code ({ cls := "SnowRecorderModel", name := "isSlope", desc := "(I)Z" } : Jvm.MethodName) prog_12_method_69_code (2 : Nat) (Option.some Jvm.ClassFile.FieldType.boolean)) ∈ AW := AW_m8 126 (by decide +kernel) (by decide +kernel)
theorem q_1807 : (Jvm.Cond.methodLink "SnowRecorderModel" (363 : Nat) ({ cls := "SnowRecorderModel", name := "weakest", desc := "(II)I" } : Jvm.MethodName)) ∈ AW := AW_m8 127 (by decide +kernel) (by decide +kernel)
theorem q_1809 : (Jvm.Cond.instanceMethod ({ cls := "SnowRecorderModel", name := "weakest", desc := "(II)I" } : Jvm.MethodName)) ∈ AW := AW_m8 129 (by decide +kernel) (by decide +kernel)
theorem q_1810 : (Jvm.Cond.code ({ cls := "SnowRecorderModel", name := "weakest", desc := "(II)I" } : Jvm.MethodName) prog_12_method_41_code (3 : Nat) (Option.some Jvm.ClassFile.FieldType.int)) ∈ AW := AW_m8 130 (by decide +kernel) (by decide +kernel)
theorem q_1874 : (Jvm.Cond.methodLink "SnowRecorderModel" (388 : Nat) ({ cls := "SnowRecorderModel", name := "keptAt", desc := "(II)I" } : Jvm.MethodName)) ∈ AW := AW_m8 194 (by decide +kernel) (by decide +kernel)
theorem q_1875 : (Jvm.Cond.static ({ cls := "SnowRecorderModel", name := "keptAt", desc := "(II)I" } : Jvm.MethodName)) ∈ AW := AW_m8 195 (by decide +kernel) (by decide +kernel)
theorem q_1876 : (Jvm.Cond.code ({ cls := "SnowRecorderModel", name := "keptAt", desc := "(II)I" } : Jvm.MethodName) prog_12_method_78_code (2 : Nat) (Option.some Jvm.ClassFile.FieldType.int)) ∈ AW := AW_m8 196 (by decide +kernel) (by decide +kernel)
theorem q_1877 : (Jvm.Cond.methodLink "SnowRecorderModel" (391 : Nat) ({ cls := "SnowRecorderModel", name := "copies", desc := "(III)V" } : Jvm.MethodName)) ∈ AW := AW_m8 197 (by decide +kernel) (by decide +kernel)
theorem q_1879 : (Jvm.Cond.instanceMethod ({ cls := "SnowRecorderModel", name := "copies", desc := "(III)V" } : Jvm.MethodName)) ∈ AW := AW_m8 199 (by decide +kernel) (by decide +kernel)
theorem q_1880 : (Jvm.Cond.code ({ cls := "SnowRecorderModel", name := "copies", desc := "(III)V" } : Jvm.MethodName) prog_12_method_9_code (5 : Nat) (Option.none : Option Jvm.ClassFile.FieldType)) ∈ AW := AW_m8 200 (by decide +kernel) (by decide +kernel)
theorem s_40 : Cond.selects "SnowRecorderModel" ({ cls := "SnowRecorderModel", name := "right", desc := "(ZI)Z" } : Jvm.MethodName) ({ cls := "SnowRecorderModel", name := "right", desc := "(ZI)Z" } : Jvm.MethodName) ∈ AW := AW_m 40 (by decide +kernel) (by decide +kernel)
theorem s_71 : Cond.selects "SnowRecorderModel" ({ cls := "SnowRecorderModel", name := "isSlope", desc := "(I)Z" } : Jvm.MethodName) ({ cls := "SnowRecorderModel", name := "isSlope", desc := "(I)Z" } : Jvm.MethodName) ∈ AW := AW_m 71 (by decide +kernel) (by decide +kernel)
theorem s_72 : Cond.selects "SnowRecorderModel" ({ cls := "SnowRecorderModel", name := "weakest", desc := "(II)I" } : Jvm.MethodName) ({ cls := "SnowRecorderModel", name := "weakest", desc := "(II)I" } : Jvm.MethodName) ∈ AW := AW_m 72 (by decide +kernel) (by decide +kernel)
theorem s_85 : Cond.selects "SnowRecorderModel" ({ cls := "SnowRecorderModel", name := "copies", desc := "(III)V" } : Jvm.MethodName) ({ cls := "SnowRecorderModel", name := "copies", desc := "(III)V" } : Jvm.MethodName) ∈ AW := AW_m 85 (by decide +kernel) (by decide +kernel)
theorem hd_yX10_right : yX10_right.cls ≠ "java/lang/invoke/MethodHandle" ∧ yX10_right.cls ≠ "java/lang/invoke/VarHandle" ∧ (parseMethodDescriptor yX10_right.desc).map (fun d => d.parameters.length) = some 2 := by decide +kernel
theorem hd_yX10_isSlope : yX10_isSlope.cls ≠ "java/lang/invoke/MethodHandle" ∧ yX10_isSlope.cls ≠ "java/lang/invoke/VarHandle" ∧ (parseMethodDescriptor yX10_isSlope.desc).map (fun d => d.parameters.length) = some 1 := by decide +kernel
theorem hd_yX10_keptAt : yX10_keptAt.cls ≠ "java/lang/invoke/MethodHandle" ∧ yX10_keptAt.cls ≠ "java/lang/invoke/VarHandle" ∧ (parseMethodDescriptor yX10_keptAt.desc).map (fun d => d.parameters.length) = some 2 := by decide +kernel
theorem hd_yX10_copies : yX10_copies.cls ≠ "java/lang/invoke/MethodHandle" ∧ yX10_copies.cls ≠ "java/lang/invoke/VarHandle" ∧ (parseMethodDescriptor yX10_copies.desc).map (fun d => d.parameters.length) = some 3 := by decide +kernel
theorem hd_yX10_weakest : yX10_weakest.cls ≠ "java/lang/invoke/MethodHandle" ∧ yX10_weakest.cls ≠ "java/lang/invoke/VarHandle" ∧ (parseMethodDescriptor yX10_weakest.desc).map (fun d => d.parameters.length) = some 2 := by decide +kernel
theorem mv_yX10_right : zWv yX10_right cX10_right 3 (some .boolean) := ⟨q_1650, s_40, q_15, q_1651⟩
theorem mv_yX10_isSlope : zWv yX10_isSlope cX10_isSlope 2 (some .boolean) := ⟨q_1805, s_71, q_15, q_1806⟩
theorem ms_yX10_keptAt : zWs yX10_keptAt cX10_keptAt 2 (some .int) := ⟨q_1875, q_15, q_1876⟩
theorem mv_yX10_copies : zWv yX10_copies cX10_copies 5 none := ⟨q_1879, s_85, q_15, q_1880⟩
theorem mv_yX10_weakest : zWv yX10_weakest cX10_weakest 3 (some .int) := ⟨q_1809, s_72, q_15, q_1810⟩
end
section
-- 88.dec.lean.txt
-- decode rows of refs
theorem dX10_right_0 : decode cX10_right 0 = .ok (.aload_n 0, 1) := by decide +kernel
theorem dX10_right_1 : decode cX10_right 1 = .ok (.getfield 110, 3) := by decide +kernel
theorem dX10_right_4 : decode cX10_right 4 = .ok (.ifCond .ne 12, 3) := by decide +kernel
theorem dX10_right_16 : decode cX10_right 16 = .ok (.aload_n 0, 1) := by decide +kernel
theorem dX10_right_17 : decode cX10_right 17 = .ok (.getfield 110, 3) := by decide +kernel
theorem dX10_right_20 : decode cX10_right 20 = .ok (.ifCond .ne 7, 3) := by decide +kernel
theorem dX10_right_27 : decode cX10_right 27 = .ok (.iconst 0, 1) := by decide +kernel
theorem dX10_right_28 : decode cX10_right 28 = .ok (.ireturn, 1) := by decide +kernel
theorem dX10_right_23 : decode cX10_right 23 = .ok (.iconst 1, 1) := by decide +kernel
theorem dX10_right_24 : decode cX10_right 24 = .ok (.goto 4, 3) := by decide +kernel
theorem dX10_right_7 : decode cX10_right 7 = .ok (.iload_n 1, 1) := by decide +kernel
theorem dX10_right_8 : decode cX10_right 8 = .ok (.ifCond .ne 8, 3) := by decide +kernel
theorem dX10_right_11 : decode cX10_right 11 = .ok (.aload_n 0, 1) := by decide +kernel
theorem dX10_right_12 : decode cX10_right 12 = .ok (.iload_n 2, 1) := by decide +kernel
theorem dX10_right_13 : decode cX10_right 13 = .ok (.putfield 110, 3) := by decide +kernel
theorem dX10_isSlope_0 : decode cX10_isSlope 0 = .ok (.aload_n 0, 1) := by decide +kernel
theorem dX10_isSlope_1 : decode cX10_isSlope 1 = .ok (.iload_n 1, 1) := by decide +kernel
theorem dX10_isSlope_2 : decode cX10_isSlope 2 = .ok (.iconst 0, 1) := by decide +kernel
theorem dX10_isSlope_3 : decode cX10_isSlope 3 = .ok (.aload_n 0, 1) := by decide +kernel
theorem dX10_isSlope_4 : decode cX10_isSlope 4 = .ok (.getfield 198, 3) := by decide +kernel
theorem dX10_isSlope_7 : decode cX10_isSlope 7 = .ok (.iconst 1, 1) := by decide +kernel
theorem dX10_isSlope_8 : decode cX10_isSlope 8 = .ok (.isub, 1) := by decide +kernel
theorem dX10_isSlope_9 : decode cX10_isSlope 9 = .ok (.invokestatic 281, 3) := by decide +kernel
theorem dX10_isSlope_12 : decode cX10_isSlope 12 = .ok (.iconst 1, 1) := by decide +kernel
theorem dX10_isSlope_13 : decode cX10_isSlope 13 = .ok (.invokevirtual 324, 3) := by decide +kernel
theorem dX10_isSlope_16 : decode cX10_isSlope 16 = .ok (.ireturn, 1) := by decide +kernel
theorem dX10_isLayer_0 : decode cX10_isLayer 0 = .ok (.aload_n 0, 1) := by decide +kernel
theorem dX10_isLayer_1 : decode cX10_isLayer 1 = .ok (.iload_n 1, 1) := by decide +kernel
theorem dX10_isLayer_2 : decode cX10_isLayer 2 = .ok (.invokevirtual 360, 3) := by decide +kernel
theorem dX10_isLayer_5 : decode cX10_isLayer 5 = .ok (.ifCond .eq 28, 3) := by decide +kernel
theorem dX10_isLayer_8 : decode cX10_isLayer 8 = .ok (.aload_n 0, 1) := by decide +kernel
theorem dX10_isLayer_9 : decode cX10_isLayer 9 = .ok (.iload_n 2, 1) := by decide +kernel
theorem dX10_isLayer_10 : decode cX10_isLayer 10 = .ok (.iconst 0, 1) := by decide +kernel
theorem dX10_isLayer_11 : decode cX10_isLayer 11 = .ok (.aload_n 0, 1) := by decide +kernel
theorem dX10_isLayer_12 : decode cX10_isLayer 12 = .ok (.iconst 0, 1) := by decide +kernel
theorem dX10_isLayer_13 : decode cX10_isLayer 13 = .ok (.iload_n 1, 1) := by decide +kernel
theorem dX10_isLayer_14 : decode cX10_isLayer 14 = .ok (.invokevirtual 121, 3) := by decide +kernel
theorem dX10_isLayer_17 : decode cX10_isLayer 17 = .ok (.iconst 1, 1) := by decide +kernel
theorem dX10_isLayer_18 : decode cX10_isLayer 18 = .ok (.isub, 1) := by decide +kernel
theorem dX10_isLayer_19 : decode cX10_isLayer 19 = .ok (.invokestatic 281, 3) := by decide +kernel
theorem dX10_isLayer_22 : decode cX10_isLayer 22 = .ok (.iconst 1, 1) := by decide +kernel
theorem dX10_isLayer_23 : decode cX10_isLayer 23 = .ok (.invokevirtual 324, 3) := by decide +kernel
theorem dX10_isLayer_26 : decode cX10_isLayer 26 = .ok (.ifCond .eq 7, 3) := by decide +kernel
theorem dX10_isLayer_29 : decode cX10_isLayer 29 = .ok (.iconst 1, 1) := by decide +kernel
theorem dX10_isLayer_30 : decode cX10_isLayer 30 = .ok (.goto 4, 3) := by decide +kernel
theorem dX10_isLayer_34 : decode cX10_isLayer 34 = .ok (.ireturn, 1) := by decide +kernel
theorem dX10_isLayer_33 : decode cX10_isLayer 33 = .ok (.iconst 0, 1) := by decide +kernel
theorem dX10_isPit_0 : decode cX10_isPit 0 = .ok (.aload_n 0, 1) := by decide +kernel
theorem dX10_isPit_1 : decode cX10_isPit 1 = .ok (.iload_n 1, 1) := by decide +kernel
theorem dX10_isPit_2 : decode cX10_isPit 2 = .ok (.iconst 0, 1) := by decide +kernel
theorem dX10_isPit_3 : decode cX10_isPit 3 = .ok (.aload_n 0, 1) := by decide +kernel
theorem dX10_isPit_4 : decode cX10_isPit 4 = .ok (.getfield 9, 3) := by decide +kernel
theorem dX10_isPit_7 : decode cX10_isPit 7 = .ok (.iconst 5, 1) := by decide +kernel
theorem dX10_isPit_8 : decode cX10_isPit 8 = .ok (.iaload, 1) := by decide +kernel
theorem dX10_isPit_9 : decode cX10_isPit 9 = .ok (.iconst 1, 1) := by decide +kernel
theorem dX10_isPit_10 : decode cX10_isPit 10 = .ok (.isub, 1) := by decide +kernel
theorem dX10_isPit_11 : decode cX10_isPit 11 = .ok (.invokestatic 281, 3) := by decide +kernel
theorem dX10_isPit_14 : decode cX10_isPit 14 = .ok (.iconst 1, 1) := by decide +kernel
theorem dX10_isPit_15 : decode cX10_isPit 15 = .ok (.invokevirtual 324, 3) := by decide +kernel
theorem dX10_isPit_18 : decode cX10_isPit 18 = .ok (.ireturn, 1) := by decide +kernel
theorem dX10_keptAt_0 : decode cX10_keptAt 0 = .ok (.sipush 700, 3) := by decide +kernel
theorem dX10_keptAt_3 : decode cX10_keptAt 3 = .ok (.sipush 350, 3) := by decide +kernel
theorem dX10_keptAt_6 : decode cX10_keptAt 6 = .ok (.iload_n 0, 1) := by decide +kernel
theorem dX10_keptAt_7 : decode cX10_keptAt 7 = .ok (.iload_n 1, 1) := by decide +kernel
theorem dX10_keptAt_8 : decode cX10_keptAt 8 = .ok (.iadd, 1) := by decide +kernel
theorem dX10_keptAt_9 : decode cX10_keptAt 9 = .ok (.bipush 40, 2) := by decide +kernel
theorem dX10_keptAt_11 : decode cX10_keptAt 11 = .ok (.irem, 1) := by decide +kernel
theorem dX10_keptAt_12 : decode cX10_keptAt 12 = .ok (.imul, 1) := by decide +kernel
theorem dX10_keptAt_13 : decode cX10_keptAt 13 = .ok (.iadd, 1) := by decide +kernel
theorem dX10_keptAt_14 : decode cX10_keptAt 14 = .ok (.ireturn, 1) := by decide +kernel
theorem dX10_copies_3 : decode cX10_copies 3 = .ok (.iload 4, 2) := by decide +kernel
theorem dX10_copies_5 : decode cX10_copies 5 = .ok (.iload_n 3, 1) := by decide +kernel
theorem dX10_copies_6 : decode cX10_copies 6 = .ok (.if_icmp .ge 27, 3) := by decide +kernel
theorem dX10_copies_33 : decode cX10_copies 33 = .ok (.return_, 1) := by decide +kernel
theorem dX10_copies_9 : decode cX10_copies 9 = .ok (.aload_n 0, 1) := by decide +kernel
theorem dX10_copies_10 : decode cX10_copies 10 = .ok (.getfield 9, 3) := by decide +kernel
theorem dX10_copies_13 : decode cX10_copies 13 = .ok (.iload_n 2, 1) := by decide +kernel
theorem dX10_copies_14 : decode cX10_copies 14 = .ok (.iload 4, 2) := by decide +kernel
theorem dX10_copies_16 : decode cX10_copies 16 = .ok (.iadd, 1) := by decide +kernel
theorem dX10_copies_17 : decode cX10_copies 17 = .ok (.aload_n 0, 1) := by decide +kernel
theorem dX10_copies_18 : decode cX10_copies 18 = .ok (.getfield 9, 3) := by decide +kernel
theorem dX10_copies_21 : decode cX10_copies 21 = .ok (.iload_n 1, 1) := by decide +kernel
theorem dX10_copies_22 : decode cX10_copies 22 = .ok (.iload 4, 2) := by decide +kernel
theorem dX10_copies_24 : decode cX10_copies 24 = .ok (.iadd, 1) := by decide +kernel
theorem dX10_copies_25 : decode cX10_copies 25 = .ok (.iaload, 1) := by decide +kernel
theorem dX10_copies_26 : decode cX10_copies 26 = .ok (.iastore, 1) := by decide +kernel
theorem dX10_copies_27 : decode cX10_copies 27 = .ok (.iinc 4 1, 3) := by decide +kernel
theorem dX10_copies_30 : decode cX10_copies 30 = .ok (.goto (-27), 3) := by decide +kernel
theorem dX10_copies_0 : decode cX10_copies 0 = .ok (.iconst 0, 1) := by decide +kernel
theorem dX10_copies_1 : decode cX10_copies 1 = .ok (.istore 4, 2) := by decide +kernel
theorem dX10_keeps_0 : decode cX10_keeps 0 = .ok (.aload_n 0, 1) := by decide +kernel
theorem dX10_keeps_1 : decode cX10_keeps 1 = .ok (.getfield 342, 3) := by decide +kernel
theorem dX10_keeps_4 : decode cX10_keeps 4 = .ok (.bipush 40, 2) := by decide +kernel
theorem dX10_keeps_6 : decode cX10_keeps 6 = .ok (.if_icmp .ne 26, 3) := by decide +kernel
theorem dX10_keeps_32 : decode cX10_keeps 32 = .ok (.aload_n 0, 1) := by decide +kernel
theorem dX10_keeps_33 : decode cX10_keeps 33 = .ok (.iconst 0, 1) := by decide +kernel
theorem dX10_keeps_34 : decode cX10_keeps 34 = .ok (.aload_n 0, 1) := by decide +kernel
theorem dX10_keeps_35 : decode cX10_keeps 35 = .ok (.getfield 339, 3) := by decide +kernel
theorem dX10_keeps_38 : decode cX10_keeps 38 = .ok (.aload_n 0, 1) := by decide +kernel
theorem dX10_keeps_39 : decode cX10_keeps 39 = .ok (.getfield 342, 3) := by decide +kernel
theorem dX10_keeps_42 : decode cX10_keeps 42 = .ok (.invokestatic 388, 3) := by decide +kernel
theorem dX10_keeps_45 : decode cX10_keeps 45 = .ok (.sipush 350, 3) := by decide +kernel
theorem dX10_keeps_48 : decode cX10_keeps 48 = .ok (.invokevirtual 391, 3) := by decide +kernel
theorem dX10_keeps_51 : decode cX10_keeps 51 = .ok (.aload_n 0, 1) := by decide +kernel
theorem dX10_keeps_52 : decode cX10_keeps 52 = .ok (.dup, 1) := by decide +kernel
theorem dX10_keeps_53 : decode cX10_keeps 53 = .ok (.getfield 342, 3) := by decide +kernel
theorem dX10_keeps_56 : decode cX10_keeps 56 = .ok (.iconst 1, 1) := by decide +kernel
theorem dX10_keeps_57 : decode cX10_keeps 57 = .ok (.iadd, 1) := by decide +kernel
theorem dX10_keeps_58 : decode cX10_keeps 58 = .ok (.putfield 342, 3) := by decide +kernel
theorem dX10_keeps_61 : decode cX10_keeps 61 = .ok (.return_, 1) := by decide +kernel
theorem dX10_keeps_9 : decode cX10_keeps 9 = .ok (.aload_n 0, 1) := by decide +kernel
theorem dX10_keeps_10 : decode cX10_keeps 10 = .ok (.aload_n 0, 1) := by decide +kernel
theorem dX10_keeps_11 : decode cX10_keeps 11 = .ok (.getfield 339, 3) := by decide +kernel
theorem dX10_keeps_14 : decode cX10_keeps 14 = .ok (.iconst 1, 1) := by decide +kernel
theorem dX10_keeps_15 : decode cX10_keeps 15 = .ok (.iadd, 1) := by decide +kernel
theorem dX10_keeps_16 : decode cX10_keeps 16 = .ok (.bipush 40, 2) := by decide +kernel
theorem dX10_keeps_18 : decode cX10_keeps 18 = .ok (.irem, 1) := by decide +kernel
theorem dX10_keeps_19 : decode cX10_keeps 19 = .ok (.putfield 339, 3) := by decide +kernel
theorem dX10_keeps_22 : decode cX10_keeps 22 = .ok (.aload_n 0, 1) := by decide +kernel
theorem dX10_keeps_23 : decode cX10_keeps 23 = .ok (.dup, 1) := by decide +kernel
theorem dX10_keeps_24 : decode cX10_keeps 24 = .ok (.getfield 342, 3) := by decide +kernel
theorem dX10_keeps_27 : decode cX10_keeps 27 = .ok (.iconst 1, 1) := by decide +kernel
theorem dX10_keeps_28 : decode cX10_keeps 28 = .ok (.isub, 1) := by decide +kernel
theorem dX10_keeps_29 : decode cX10_keeps 29 = .ok (.putfield 342, 3) := by decide +kernel
theorem dX10_tries_0 : decode cX10_tries 0 = .ok (.aload_n 0, 1) := by decide +kernel
theorem dX10_tries_1 : decode cX10_tries 1 = .ok (.iconst 0, 1) := by decide +kernel
theorem dX10_tries_2 : decode cX10_tries 2 = .ok (.sipush 350, 3) := by decide +kernel
theorem dX10_tries_5 : decode cX10_tries 5 = .ok (.sipush 350, 3) := by decide +kernel
theorem dX10_tries_8 : decode cX10_tries 8 = .ok (.invokevirtual 391, 3) := by decide +kernel
theorem dX10_tries_11 : decode cX10_tries 11 = .ok (.return_, 1) := by decide +kernel
theorem dX10_refuses_0 : decode cX10_refuses 0 = .ok (.aload_n 0, 1) := by decide +kernel
theorem dX10_refuses_1 : decode cX10_refuses 1 = .ok (.getfield 40, 3) := by decide +kernel
theorem dX10_refuses_4 : decode cX10_refuses 4 = .ok (.iload_n 1, 1) := by decide +kernel
theorem dX10_refuses_5 : decode cX10_refuses 5 = .ok (.dup2, 1) := by decide +kernel
theorem dX10_refuses_6 : decode cX10_refuses 6 = .ok (.iaload, 1) := by decide +kernel
theorem dX10_refuses_7 : decode cX10_refuses 7 = .ok (.iconst 1, 1) := by decide +kernel
theorem dX10_refuses_8 : decode cX10_refuses 8 = .ok (.iadd, 1) := by decide +kernel
theorem dX10_refuses_9 : decode cX10_refuses 9 = .ok (.iastore, 1) := by decide +kernel
theorem dX10_refuses_10 : decode cX10_refuses 10 = .ok (.iconst (-1), 1) := by decide +kernel
theorem dX10_refuses_11 : decode cX10_refuses 11 = .ok (.ireturn, 1) := by decide +kernel
theorem dX10_digs_0 : decode cX10_digs 0 = .ok (.aload_n 0, 1) := by decide +kernel
theorem dX10_digs_1 : decode cX10_digs 1 = .ok (.iload_n 1, 1) := by decide +kernel
theorem dX10_digs_2 : decode cX10_digs 2 = .ok (.iload_n 2, 1) := by decide +kernel
theorem dX10_digs_3 : decode cX10_digs 3 = .ok (.invokevirtual 121, 3) := by decide +kernel
theorem dX10_digs_6 : decode cX10_digs 6 = .ok (.iconst 1, 1) := by decide +kernel
theorem dX10_digs_7 : decode cX10_digs 7 = .ok (.isub, 1) := by decide +kernel
theorem dX10_digs_8 : decode cX10_digs 8 = .ok (.istore_n 3, 1) := by decide +kernel
theorem dX10_digs_9 : decode cX10_digs 9 = .ok (.aload_n 0, 1) := by decide +kernel
theorem dX10_digs_10 : decode cX10_digs 10 = .ok (.getfield 9, 3) := by decide +kernel
theorem dX10_digs_13 : decode cX10_digs 13 = .ok (.iload_n 1, 1) := by decide +kernel
theorem dX10_digs_14 : decode cX10_digs 14 = .ok (.iconst 2, 1) := by decide +kernel
theorem dX10_digs_15 : decode cX10_digs 15 = .ok (.iadd, 1) := by decide +kernel
theorem dX10_digs_16 : decode cX10_digs 16 = .ok (.dup2, 1) := by decide +kernel
theorem dX10_digs_17 : decode cX10_digs 17 = .ok (.iaload, 1) := by decide +kernel
theorem dX10_digs_18 : decode cX10_digs 18 = .ok (.aload_n 0, 1) := by decide +kernel
theorem dX10_digs_19 : decode cX10_digs 19 = .ok (.iload_n 1, 1) := by decide +kernel
theorem dX10_digs_20 : decode cX10_digs 20 = .ok (.iload_n 2, 1) := by decide +kernel
theorem dX10_digs_21 : decode cX10_digs 21 = .ok (.iload_n 3, 1) := by decide +kernel
theorem dX10_digs_22 : decode cX10_digs 22 = .ok (.invokevirtual 125, 3) := by decide +kernel
theorem dX10_digs_25 : decode cX10_digs 25 = .ok (.iadd, 1) := by decide +kernel
theorem dX10_digs_26 : decode cX10_digs 26 = .ok (.iastore, 1) := by decide +kernel
theorem dX10_digs_27 : decode cX10_digs 27 = .ok (.aload_n 0, 1) := by decide +kernel
theorem dX10_digs_28 : decode cX10_digs 28 = .ok (.iload_n 1, 1) := by decide +kernel
theorem dX10_digs_29 : decode cX10_digs 29 = .ok (.iload_n 2, 1) := by decide +kernel
theorem dX10_digs_30 : decode cX10_digs 30 = .ok (.iload_n 3, 1) := by decide +kernel
theorem dX10_digs_31 : decode cX10_digs 31 = .ok (.invokevirtual 135, 3) := by decide +kernel
theorem dX10_digs_34 : decode cX10_digs 34 = .ok (.return_, 1) := by decide +kernel
theorem dX10_slides_0 : decode cX10_slides 0 = .ok (.aload_n 0, 1) := by decide +kernel
theorem dX10_slides_1 : decode cX10_slides 1 = .ok (.iload_n 1, 1) := by decide +kernel
theorem dX10_slides_2 : decode cX10_slides 2 = .ok (.iload_n 2, 1) := by decide +kernel
theorem dX10_slides_3 : decode cX10_slides 3 = .ok (.invokevirtual 363, 3) := by decide +kernel
theorem dX10_slides_6 : decode cX10_slides 6 = .ok (.istore_n 3, 1) := by decide +kernel
theorem dX10_slides_7 : decode cX10_slides 7 = .ok (.aload_n 0, 1) := by decide +kernel
theorem dX10_slides_8 : decode cX10_slides 8 = .ok (.iload_n 1, 1) := by decide +kernel
theorem dX10_slides_9 : decode cX10_slides 9 = .ok (.iload_n 2, 1) := by decide +kernel
theorem dX10_slides_10 : decode cX10_slides 10 = .ok (.invokevirtual 121, 3) := by decide +kernel
theorem dX10_slides_13 : decode cX10_slides 13 = .ok (.iconst 1, 1) := by decide +kernel
theorem dX10_slides_14 : decode cX10_slides 14 = .ok (.isub, 1) := by decide +kernel
theorem dX10_slides_15 : decode cX10_slides 15 = .ok (.iload_n 3, 1) := by decide +kernel
theorem dX10_slides_16 : decode cX10_slides 16 = .ok (.isub, 1) := by decide +kernel
theorem dX10_slides_17 : decode cX10_slides 17 = .ok (.istore 4, 2) := by decide +kernel
theorem dX10_slides_19 : decode cX10_slides 19 = .ok (.aload_n 0, 1) := by decide +kernel
theorem dX10_slides_20 : decode cX10_slides 20 = .ok (.getfield 9, 3) := by decide +kernel
theorem dX10_slides_23 : decode cX10_slides 23 = .ok (.iload_n 1, 1) := by decide +kernel
theorem dX10_slides_24 : decode cX10_slides 24 = .ok (.iconst 3, 1) := by decide +kernel
theorem dX10_slides_25 : decode cX10_slides 25 = .ok (.iadd, 1) := by decide +kernel
theorem dX10_slides_26 : decode cX10_slides 26 = .ok (.dup2, 1) := by decide +kernel
theorem dX10_slides_27 : decode cX10_slides 27 = .ok (.iaload, 1) := by decide +kernel
theorem dX10_slides_28 : decode cX10_slides 28 = .ok (.aload_n 0, 1) := by decide +kernel
theorem dX10_slides_29 : decode cX10_slides 29 = .ok (.iload_n 1, 1) := by decide +kernel
theorem dX10_slides_30 : decode cX10_slides 30 = .ok (.iload_n 2, 1) := by decide +kernel
theorem dX10_slides_31 : decode cX10_slides 31 = .ok (.iload_n 3, 1) := by decide +kernel
theorem dX10_slides_32 : decode cX10_slides 32 = .ok (.invokevirtual 180, 3) := by decide +kernel
theorem dX10_slides_35 : decode cX10_slides 35 = .ok (.iadd, 1) := by decide +kernel
theorem dX10_slides_36 : decode cX10_slides 36 = .ok (.iastore, 1) := by decide +kernel
theorem dX10_slides_37 : decode cX10_slides 37 = .ok (.aload_n 0, 1) := by decide +kernel
theorem dX10_slides_38 : decode cX10_slides 38 = .ok (.getfield 9, 3) := by decide +kernel
theorem dX10_slides_41 : decode cX10_slides 41 = .ok (.iload_n 1, 1) := by decide +kernel
theorem dX10_slides_42 : decode cX10_slides 42 = .ok (.iconst 4, 1) := by decide +kernel
theorem dX10_slides_43 : decode cX10_slides 43 = .ok (.iadd, 1) := by decide +kernel
theorem dX10_slides_44 : decode cX10_slides 44 = .ok (.dup2, 1) := by decide +kernel
theorem dX10_slides_45 : decode cX10_slides 45 = .ok (.iaload, 1) := by decide +kernel
theorem dX10_slides_46 : decode cX10_slides 46 = .ok (.iconst 1, 1) := by decide +kernel
theorem dX10_slides_47 : decode cX10_slides 47 = .ok (.iadd, 1) := by decide +kernel
theorem dX10_slides_48 : decode cX10_slides 48 = .ok (.iastore, 1) := by decide +kernel
theorem dX10_slides_49 : decode cX10_slides 49 = .ok (.aload_n 0, 1) := by decide +kernel
theorem dX10_slides_50 : decode cX10_slides 50 = .ok (.iload_n 1, 1) := by decide +kernel
theorem dX10_slides_51 : decode cX10_slides 51 = .ok (.iload_n 2, 1) := by decide +kernel
theorem dX10_slides_52 : decode cX10_slides 52 = .ok (.iload_n 3, 1) := by decide +kernel
theorem dX10_slides_53 : decode cX10_slides 53 = .ok (.iconst 1, 1) := by decide +kernel
theorem dX10_slides_54 : decode cX10_slides 54 = .ok (.iadd, 1) := by decide +kernel
theorem dX10_slides_55 : decode cX10_slides 55 = .ok (.invokevirtual 135, 3) := by decide +kernel
theorem dX10_slides_58 : decode cX10_slides 58 = .ok (.iload 4, 2) := by decide +kernel
theorem dX10_slides_60 : decode cX10_slides 60 = .ok (.ireturn, 1) := by decide +kernel
end
section
-- 89.refs.lean.txt
/-- all rows of numbers but the tried one -/
def okA (r : Nat → Int) (x : Int) : Prop := ∀ w, w < 83 → w ≠ 1 → okW r (350 * w) x ∧ r (350 * w) ≤ 2000
theorem okA.mono {r : Nat → Int} {x y : Int} (h : okA r x) (hxy : x ≤ y) : okA r y := fun w a b => ⟨(h w a b).1.mono hxy, (h w a b).2⟩
theorem okA.at0 {r : Nat → Int} {x : Int} (h : okA r x) : okW r 0 x ∧ r 0 ≤ 2000 := h 0 (by omega) (by omega)
/-- what changes the tried row alone -/
theorem okA.tried {r r' : Nat → Int} {x : Int} (h : okA r x) (he : ∀ j, j < 350 ∨ 700 ≤ j → r' j = r j) : okA r' x := fun w a b => by
  obtain ⟨h1, h2⟩ := h w a b
  exact ⟨okW.ext (fun k hk => he _ (by omega)) h1, by rw [he _ (by omega)]; exact h2⟩
/-- what changes the first row alone -/
theorem okA.first {r r' : Nat → Int} {x y : Int} (h : okA r x) (hxy : x ≤ y) (he : ∀ j, 350 ≤ j → r' j = r j) (h0 : okW r' 0 y) (ht : r' 0 ≤ 2000) : okA r' y := fun w a b => by
  by_cases e : w = 0
  · subst e; exact ⟨h0, ht⟩
  · obtain ⟨h1, h2⟩ := h w a b
    exact ⟨okW.ext (fun k hk => he _ (by omega)) (h1.mono hxy), by rw [he _ (by omega)]; exact h2⟩
/-- rows copied: m rows from the row a to the row b -/
theorem okA.copy {r r' : Nat → Int} {x : Int} {a b m : Nat} (h : okA r x) (ha : a + m ≤ 83) (ha1 : a = 0 ∧ m = 1 ∨ 2 ≤ a) (hb : b + m ≤ 83) (he : ∀ k, k < 350 * m → r' (350 * b + k) = r (350 * a + k)) (hf : ∀ j, j < 350 * b ∨ 350 * b + 350 * m ≤ j → r' j = r j) : okA r' x := fun w c d => by
  by_cases e : b ≤ w ∧ w < b + m
  · obtain ⟨h1, h2⟩ := h (a + (w - b)) (by omega) (by omega)
    have h3 : ∀ k, k < 350 → r' (350 * w + k) = r (350 * (a + (w - b)) + k) := fun k hk => by
      rw [show 350 * w + k = 350 * b + (350 * (w - b) + k) by omega, show 350 * (a + (w - b)) + k = 350 * a + (350 * (w - b) + k) by omega]
      exact he _ (by omega)
    exact ⟨okW.ext h3 h1, by have := h3 0 (by omega); rw [Nat.add_zero, Nat.add_zero] at this; rw [this]; exact h2⟩
  · obtain ⟨h1, h2⟩ := h w c d
    exact ⟨okW.ext (fun k hk => hf _ (by omega)) h1, by rw [hf _ (by omega)]; exact h2⟩
/-- one slope of a row changed, and its counts -/
theorem okW.slope {r r' : Nat → Int} {b s p : Nat} {x : Int} (h : okW r b x) (hs : s < 4) (hp : b + 6 + 86 * s = p) (hS : okS r' p (mB (r b + x) + 50) (eB (r b + x) + 500)) (hn : r (b + 1) ≤ r' (b + 1) ∧ r' (b + 1) ≤ r (b + 1) + 1) (h0 : r' b = r b) (h5 : 0 ≤ r' (b + 5) ∧ r' (b + 5) ≤ 6) (he : ∀ j, b + 6 ≤ j → j < b + 350 → j < p ∨ p + 86 ≤ j → r' j = r j) : okW r' b (x + 1) := by
  obtain ⟨h1, h2, h3, h4⟩ := h
  refine ⟨fun k hk => ?_, by rw [h0]; exact h2, by rw [h0]; omega, h5⟩
  rw [h0]
  by_cases e : k = s
  · subst e; rw [hp]; exact hS.mono (by unfold mB; omega) (by unfold eB; omega)
  · exact ((h1 k hk).mono (by unfold mB; omega) (by unfold eB; omega)).ext (fun j a1 a2 => he j (by omega) (by omega) (by omega))
def okPt (pi : Nat → Int) : Prop := ∀ k, k < 12 → (0 ≤ pi (90 * k) ∧ pi (90 * k) ≤ 3) ∧ (0 ≤ pi (90 * k + 2) ∧ pi (90 * k + 2) ≤ 12) ∧ ∀ l : Nat, (l : Int) < pi (90 * k + 2) → (0 ≤ pi (90 * k + 3 + 7 * l) ∧ pi (90 * k + 3 + 7 * l) ≤ 4) ∧ 1 ≤ pi (90 * k + 3 + 7 * l + 3) ∧ pi (90 * k + 3 + 7 * l + 3) ≤ 400000000
theorem mBb {t : Int} (h : 0 ≤ t ∧ t ≤ 2722) : mB t ≤ 138500 ∧ eB t ≤ 400000000 ∧ mB t = 2400 + 50 * t ∧ eB t = 12000 + 139000 * t := by
  have e1 : mB t = 2400 + 50 * t := rfl
  have e2 : eB t = 12000 + 139000 * t := rfl
  omega

set_option maxRecDepth 100000 in
set_option maxHeartbeats 4000000 in
theorem c_X10_right (l : Launch) (D : va_G) (A : Nat → Prop) (cs : Nat → ClassId) (tt : Nat) (N : Nat) (ad : Nat → Nat) (g : Nat → va_E) (i : Nat) (hN : i + 30 ≤ N) (F : Nat → Int) (hg : g i = mC ad i F) (h12 : 0 ≤ F 12 ∧ F 12 ≤ 2) (z : Int) (hz : 0 ≤ z ∧ z ≤ 1) (z1 : Int) (hz1 : 1 ≤ z1 ∧ z1 ≤ 2) : zM l yX10_right cX10_right 3 (some .boolean) ({ frames := 1, cells := 0, slots := 0, locals := 60 } : Room) D A cs tt N ad g [.ref (ad i), .int (zI (z)), .int (zI (z1))] (rI0 N ad fun r g' => ((0 ≤ r ∧ r ≤ 1) ∧ (r = 1 → z = 1)) ∧ (∃ F' : Nat → Int, g' i = mC ad i F' ∧ (0 ≤ F' 12 ∧ F' 12 ≤ 2) ∧ (∀ f, f ≠ 12 → F' f = F f)) ∧ ∀ j, j ≠ i → g' j = g j) := by
  have hay1 : zAt ad (i) (ad i) := rfl
  refine z_of (by decide) (Nat.le_of_ble_eq_true rfl) ?_
  intro pZ eZ sZ mZ below meth cZ C hr hlk hnm
  refine z_lv (lv' := [(0, .ref (ad i)), (1, .int (zI (z))), (2, .int (zI (z1)))]) [0, 1, 2] rfl ?_
  refine z_aload_n C 0 dX10_right_0 rfl ?_
  refine z_get (v := .int (zI (F 12))) C (lt_A0 hN rfl) hay1 hg rfl inA_X10 12 (by decide) q_1471 rfl (fv (F := F) (f := 12) rfl) dX10_right_1 ?_
  refine z_if_ne (tgt := 16) C dX10_right_4 (by decide) (by omega) (fun hby2 => ?_) (fun hby2 => ?_)
  · refine z_aload_n C 0 dX10_right_16 rfl ?_
    refine z_get (v := .int (zI (F 12))) C (lt_A0 hN rfl) hay1 hg rfl inA_X10 12 (by decide) q_1471 rfl (fv (F := F) (f := 12) rfl) dX10_right_17 ?_
    refine z_if_ne (tgt := 27) C dX10_right_20 (by decide) (by omega) (fun hby3 => ?_) (fun hby3 => ?_)
    · refine z_iconst (z := 0) C dX10_right_27 rfl ?_
      have hFy4 : ∀ f, f ≠ 12 → F f = F f := fun f n12 => rfl
      have hey5 : F 12 = F 12 := rfl
      exact z_zret C hr hlk dX10_right_28 (by decide) (by decide) (by decide) ⟨0, rfl, rfl, rfl, by omega, ⟨_, hg, by omega, hFy4⟩, fun j j1 => by rfl⟩
    · refine z_iconst (z := 1) C dX10_right_23 rfl ?_
      refine z_goto (tgt := 28) C dX10_right_24 (by decide) ?_
      have hFy6 : ∀ f, f ≠ 12 → F f = F f := fun f n12 => rfl
      have hey7 : F 12 = F 12 := rfl
      exact z_zret C hr hlk dX10_right_28 (by decide) (by decide) (by decide) ⟨1, rfl, rfl, rfl, by omega, ⟨_, hg, by omega, hFy6⟩, fun j j1 => by rfl⟩
  · refine z_iload_n C 1 dX10_right_7 rfl ?_
    refine z_if_ne (tgt := 16) C dX10_right_8 (by decide) (by omega) (fun hby8 => ?_) (fun hby8 => ?_)
    · refine z_aload_n C 0 dX10_right_16 rfl ?_
      refine z_get (v := .int (zI (F 12))) C (lt_A0 hN rfl) hay1 hg rfl inA_X10 12 (by decide) q_1471 rfl (fv (F := F) (f := 12) rfl) dX10_right_17 ?_
      refine z_if_ne (tgt := 27) C dX10_right_20 (by decide) (by omega) (fun hby9 => ?_) (fun hby9 => ?_)
      · refine z_iconst (z := 0) C dX10_right_27 rfl ?_
        have hFy10 : ∀ f, f ≠ 12 → F f = F f := fun f n12 => rfl
        have hey11 : F 12 = F 12 := rfl
        exact z_zret C hr hlk dX10_right_28 (by decide) (by decide) (by decide) ⟨0, rfl, rfl, rfl, by omega, ⟨_, hg, by omega, hFy10⟩, fun j j1 => by rfl⟩
      · refine z_iconst (z := 1) C dX10_right_23 rfl ?_
        refine z_goto (tgt := 28) C dX10_right_24 (by decide) ?_
        have hFy12 : ∀ f, f ≠ 12 → F f = F f := fun f n12 => rfl
        have hey13 : F 12 = F 12 := rfl
        exact z_zret C hr hlk dX10_right_28 (by decide) (by decide) (by decide) ⟨1, rfl, rfl, rfl, by omega, ⟨_, hg, by omega, hFy12⟩, fun j j1 => by rfl⟩
    · refine z_aload_n C 0 dX10_right_11 rfl ?_
      refine z_iload_n C 2 dX10_right_12 rfl ?_
      refine z_put (fs' := mF ad (i) (uZ F 12 (z1))) C (lt_A0 hN rfl) hay1 hg tyX10 tyX10_ok nmX10 rfl inA_X10 12 (by decide) q_1471 rfl rfl rfl rfl (Nat.le_of_ble_eq_true rfl) rfl dX10_right_13 (fun gy14 egy15 => ?_)
      have hgy16 := up_s egy15
      refine z_aload_n C 0 dX10_right_16 rfl ?_
      refine z_get (v := .int (zI (z1))) C (lt_A0 hN rfl) hay1 hgy16 rfl inA_X10 12 (by decide) q_1471 rfl (fv (F := (uZ F 12 (z1))) (f := 12) (uZ_s _ _ _)) dX10_right_17 ?_
      refine z_if_ne (tgt := 27) C dX10_right_20 (by decide) (by omega) (fun hby17 => ?_) (fun hby17 => ?_)
      · refine z_iconst (z := 0) C dX10_right_27 rfl ?_
        have hFy18 : ∀ f, f ≠ 12 → (uZ F 12 (z1)) f = F f := fun f n12 => ((uZ_n _ _ n12).trans rfl)
        have hey19 : (uZ F 12 (z1)) 12 = z1 := (uZ_s _ _ _)
        exact z_zret C hr hlk dX10_right_28 (by decide) (by decide) (by decide) ⟨0, rfl, rfl, rfl, by omega, ⟨_, hgy16, by omega, hFy18⟩, fun j j1 => by rw [egy15, va_up_ne _ _ (by omega)]⟩
      · refine z_iconst (z := 1) C dX10_right_23 rfl ?_
        refine z_goto (tgt := 28) C dX10_right_24 (by decide) ?_
        have hFy20 : ∀ f, f ≠ 12 → (uZ F 12 (z1)) f = F f := fun f n12 => ((uZ_n _ _ n12).trans rfl)
        have hey21 : (uZ F 12 (z1)) 12 = z1 := (uZ_s _ _ _)
        exact z_zret C hr hlk dX10_right_28 (by decide) (by decide) (by decide) ⟨1, rfl, rfl, rfl, by omega, ⟨_, hgy16, by omega, hFy20⟩, fun j j1 => by rw [egy15, va_up_ne _ _ (by omega)]⟩

set_option maxRecDepth 100000 in
set_option maxHeartbeats 4000000 in
theorem c_X10_isSlope (l : Launch) (D : va_G) (A : Nat → Prop) (cs : Nat → ClassId) (tt : Nat) (N : Nat) (ad : Nat → Nat) (g : Nat → va_E) (i : Nat) (hN : i + 30 ≤ N) (F : Nat → Int) (hg : g i = mC ad i F) (h12 : 0 ≤ F 12 ∧ F 12 ≤ 2) (h13 : 0 ≤ F 13 ∧ F 13 ≤ 4) (z : Int) (hz : -2147483648 ≤ z ∧ z ≤ 2147483647) : zM l yX10_isSlope cX10_isSlope 2 (some .boolean) ({ frames := 2, cells := 0, slots := 0, locals := 120 } : Room) D A cs tt N ad g [.ref (ad i), .int (zI (z))] (rI0 N ad fun r g' => ((0 ≤ r ∧ r ≤ 1) ∧ (r = 1 → 0 ≤ z ∧ z < F 13)) ∧ (∃ F' : Nat → Int, g' i = mC ad i F' ∧ (0 ≤ F' 12 ∧ F' 12 ≤ 2) ∧ (∀ f, f ≠ 12 → F' f = F f)) ∧ ∀ j, j ≠ i → g' j = g j) := by
  have hay1 : zAt ad (i) (ad i) := rfl
  refine z_of (by decide) (Nat.le_of_ble_eq_true rfl) ?_
  intro pZ eZ sZ mZ below meth cZ C hr hlk hnm
  refine z_lv (lv' := [(0, .ref (ad i)), (1, .int (zI (z)))]) [0, 1] rfl ?_
  refine z_aload_n C 0 dX10_isSlope_0 rfl ?_
  refine z_iload_n C 1 dX10_isSlope_1 rfl ?_
  refine z_iconst (z := 0) C dX10_isSlope_2 rfl ?_
  refine z_aload_n C 0 dX10_isSlope_3 rfl ?_
  refine z_get (v := .int (zI (F 13))) C (lt_A0 hN rfl) hay1 hg rfl inA_X10 13 (by decide) q_1472 rfl (fv (F := F) (f := 13) rfl) dX10_isSlope_4 ?_
  refine z_iconst (z := 1) C dX10_isSlope_7 rfl ?_
  refine z_isub C dX10_isSlope_8 ?_
  refine z_cS (As := [.int (zI (z)), .int (zI (0)), .int (zI ((F 13) - 1))]) (rest := [.ref (ad i)]) C (c_X10_within l D A cs tt N ad _ (z) (by omega) (0) (by omega) ((F 13) - 1) (by omega)) ms_yX10_within q_1686 hd_yX10_within (by decide) (Nat.le_of_ble_eq_true rfl) (by decide) dX10_isSlope_9 rfl (kI0 fun vy2 gvy2 hvy2 => ?_)
  obtain ⟨hvy2, rfl⟩ := hvy2
  rcases hvy2 with ⟨rfl, hxvy2⟩ | ⟨rfl, hxvy2⟩
  · refine z_iconst (z := 1) C dX10_isSlope_12 rfl ?_
    have hey4 : F 12 = F 12 := rfl
    refine z_cV (As := [.int (zI (1)), .int (zI (1))]) (rest := []) (ci := 12) C (c_X10_right l D A cs tt N ad _ i hN _ hg (by omega) (1) (by omega) (1) (by omega)) (lt_A0 hN rfl) hay1 hg rfl rfl mv_yX10_right q_1648 hd_yX10_right (by decide) (Nat.le_of_ble_eq_true rfl) (by decide) dX10_isSlope_13 rfl (kI0 fun vy3 gvy3 hvy3 => ?_)
    obtain ⟨hrvy3, ⟨Fvy3, hcvy3, htvy3, hFvy3⟩, hfvy3⟩ := hvy3
    rcases (show vy3 = 1 ∨ vy3 = 0 by omega) with rfl | rfl
    · have hFy5 : ∀ f, f ≠ 12 → Fvy3 f = F f := fun f n12 => (hFvy3 f n12)
      have hey6 : Fvy3 12 = Fvy3 12 := rfl
      exact z_zret C hr hlk dX10_isSlope_16 (by decide) (by decide) (by decide) ⟨1, rfl, rfl, rfl, by omega, ⟨_, hcvy3, by omega, hFy5⟩, fun j j1 => by rw [hfvy3 _ (by omega)]⟩
    · have hFy7 : ∀ f, f ≠ 12 → Fvy3 f = F f := fun f n12 => (hFvy3 f n12)
      have hey8 : Fvy3 12 = Fvy3 12 := rfl
      exact z_zret C hr hlk dX10_isSlope_16 (by decide) (by decide) (by decide) ⟨0, rfl, rfl, rfl, by omega, ⟨_, hcvy3, by omega, hFy7⟩, fun j j1 => by rw [hfvy3 _ (by omega)]⟩
  · refine z_iconst (z := 1) C dX10_isSlope_12 rfl ?_
    have hey10 : F 12 = F 12 := rfl
    refine z_cV (As := [.int (zI (0)), .int (zI (1))]) (rest := []) (ci := 12) C (c_X10_right l D A cs tt N ad _ i hN _ hg (by omega) (0) (by omega) (1) (by omega)) (lt_A0 hN rfl) hay1 hg rfl rfl mv_yX10_right q_1648 hd_yX10_right (by decide) (Nat.le_of_ble_eq_true rfl) (by decide) dX10_isSlope_13 rfl (kI0 fun vy9 gvy9 hvy9 => ?_)
    obtain ⟨hrvy9, ⟨Fvy9, hcvy9, htvy9, hFvy9⟩, hfvy9⟩ := hvy9
    obtain rfl : vy9 = 0 := by omega
    have hFy11 : ∀ f, f ≠ 12 → Fvy9 f = F f := fun f n12 => (hFvy9 f n12)
    have hey12 : Fvy9 12 = Fvy9 12 := rfl
    exact z_zret C hr hlk dX10_isSlope_16 (by decide) (by decide) (by decide) ⟨0, rfl, rfl, rfl, by omega, ⟨_, hcvy9, by omega, hFy11⟩, fun j j1 => by rw [hfvy9 _ (by omega)]⟩

set_option maxRecDepth 100000 in
set_option maxHeartbeats 4000000 in
theorem c_X10_isLayer_a (l : Launch) (D : va_G) (A : Nat → Prop) (cs : Nat → ClassId) (tt : Nat) (N : Nat) (ad : Nat → Nat) (g : Nat → va_E) (i : Nat) (hN : i + 30 ≤ N) (F : Nat → Int) (hg : g i = mC ad i F) (r : Nat → Int) (ha1 : g (i + 1) = iA cs 29200 r) (hmn : ∀ s, s < 4 → 0 ≤ r (6 + 86 * s) ∧ r (6 + 86 * s) ≤ 12) (h12 : 0 ≤ F 12 ∧ F 12 ≤ 2) (h13 : 0 ≤ F 13 ∧ F 13 ≤ 4) (s p : Nat) (hs : s < 4) (hp : 0 + 6 + 86 * s = p) (z1 : Int) (hz1 : -2147483648 ≤ z1 ∧ z1 ≤ 2147483647) : zM l yX10_isLayer cX10_isLayer 3 (some .boolean) ({ frames := 3, cells := 0, slots := 0, locals := 180 } : Room) D A cs tt N ad g [.ref (ad i), .int (zI ((s : Int))), .int (zI (z1))] (rI0 N ad fun q g' => ((0 ≤ q ∧ q ≤ 1) ∧ (q = 1 → (s : Int) < F 13 ∧ 0 ≤ z1 ∧ z1 < r p)) ∧ (∃ F' : Nat → Int, g' i = mC ad i F' ∧ (0 ≤ F' 12 ∧ F' 12 ≤ 2) ∧ (∀ f, f ≠ 12 → F' f = F f)) ∧ ∀ j, j ≠ i → g' j = g j) := by
  have hay1 : zAt ad (i) (ad i) := rfl
  have hay2 : zAt ad (i + 1) (ad (i + 1)) := rfl
  have hmp := hmn s hs
  rw [show 6 + 86 * s = p by omega] at hmp
  refine z_of (by decide) (Nat.le_of_ble_eq_true rfl) ?_
  intro pZ eZ sZ mZ below meth cZ C hr hlk hnm
  refine z_lv (lv' := [(0, .ref (ad i)), (1, .int (zI ((s : Int)))), (2, .int (zI (z1)))]) [0, 1, 2] rfl ?_
  refine z_aload_n C 0 dX10_isLayer_0 rfl ?_
  refine z_iload_n C 1 dX10_isLayer_1 rfl ?_
  have h13vy3 : F 13 = F 13 := rfl
  have hey4 : F 12 = F 12 := rfl
  refine z_cV (As := [.int (zI ((s : Int)))]) (rest := []) (ci := 12) C (c_X10_isSlope l D A cs tt N ad _ i hN _ hg (by omega) (by omega) ((s : Int)) (by omega)) (lt_A0 hN rfl) hay1 hg rfl rfl mv_yX10_isSlope q_1803 hd_yX10_isSlope (by decide) (Nat.le_of_ble_eq_true rfl) (by decide) dX10_isLayer_2 rfl (kI0 fun vy3 gvy3 hvy3 => ?_)
  rw [h13vy3] at hvy3
  obtain ⟨hrvy3, ⟨Fvy3, hcvy3, htvy3, hFvy3⟩, hfvy3⟩ := hvy3
  rcases (show vy3 = 1 ∨ vy3 = 0 by omega) with rfl | rfl
  · have hxvy3 := hrvy3.2 rfl
    refine z_if_eq (tgt := 33) C dX10_isLayer_5 (by decide) (by omega) (fun h => absurd h (by omega)) (fun _ => ?_)
    refine z_aload_n C 0 dX10_isLayer_8 rfl ?_
    refine z_iload_n C 2 dX10_isLayer_9 rfl ?_
    refine z_iconst (z := 0) C dX10_isLayer_10 rfl ?_
    refine z_aload_n C 0 dX10_isLayer_11 rfl ?_
    refine z_iconst (z := 0) C dX10_isLayer_12 rfl ?_
    refine z_iload_n C 1 dX10_isLayer_13 rfl ?_
    have hgy5 := (hfvy3 (i + 1) (ne_o (i := i) (c := 1) (d := 0) rfl)).trans ha1
    refine z_cV (As := [.int (zI (0)), .int (zI ((s : Int)))]) (rest := [.int (zI (0)), .int (zI (z1)), .ref (ad i)]) (ci := 12) C (c_X10_many l D A cs tt N ad _ i hN _ hcvy3 _ hgy5 0 s p hp (by omega) (by omega)) (lt_A0 hN rfl) hay1 hcvy3 rfl rfl mv_yX10_many q_1733 hd_yX10_many (by decide) (Nat.le_of_ble_eq_true rfl) (by decide) dX10_isLayer_14 rfl (kI0 fun vy6 gvy6 hvy6 => ?_)
    obtain ⟨rfl, rfl⟩ := hvy6
    refine z_iconst (z := 1) C dX10_isLayer_17 rfl ?_
    refine z_isub C dX10_isLayer_18 ?_
    refine z_cS (As := [.int (zI (z1)), .int (zI (0)), .int (zI ((r (p)) - 1))]) (rest := [.ref (ad i)]) C (c_X10_within l D A cs tt N ad _ (z1) (by omega) (0) (by omega) ((r (p)) - 1) (by omega)) ms_yX10_within q_1686 hd_yX10_within (by decide) (Nat.le_of_ble_eq_true rfl) (by decide) dX10_isLayer_19 rfl (kI0 fun vy7 gvy7 hvy7 => ?_)
    obtain ⟨hvy7, rfl⟩ := hvy7
    rcases hvy7 with ⟨rfl, hxvy7⟩ | ⟨rfl, hxvy7⟩
    · refine z_iconst (z := 1) C dX10_isLayer_22 rfl ?_
      have hey9 : Fvy3 12 = Fvy3 12 := rfl
      refine z_cV (As := [.int (zI (1)), .int (zI (1))]) (rest := []) (ci := 12) C (c_X10_right l D A cs tt N ad _ i hN _ hcvy3 (by omega) (1) (by omega) (1) (by omega)) (lt_A0 hN rfl) hay1 hcvy3 rfl rfl mv_yX10_right q_1648 hd_yX10_right (by decide) (Nat.le_of_ble_eq_true rfl) (by decide) dX10_isLayer_23 rfl (kI0 fun vy8 gvy8 hvy8 => ?_)
      obtain ⟨hrvy8, ⟨Fvy8, hcvy8, htvy8, hFvy8⟩, hfvy8⟩ := hvy8
      rcases (show vy8 = 1 ∨ vy8 = 0 by omega) with rfl | rfl
      · refine z_if_eq (tgt := 33) C dX10_isLayer_26 (by decide) (by omega) (fun h => absurd h (by omega)) (fun _ => ?_)
        refine z_iconst (z := 1) C dX10_isLayer_29 rfl ?_
        refine z_goto (tgt := 34) C dX10_isLayer_30 (by decide) ?_
        have hFy10 : ∀ f, f ≠ 12 → Fvy8 f = F f := fun f n12 => ((hFvy8 f n12).trans (hFvy3 f n12))
        have hey11 : Fvy8 12 = Fvy8 12 := rfl
        exact z_zret C hr hlk dX10_isLayer_34 (by decide) (by decide) (by decide) ⟨1, rfl, rfl, rfl, by omega, ⟨_, hcvy8, by omega, hFy10⟩, fun j j1 => by rw [hfvy8 _ (by omega)]; rw [hfvy3 _ (by omega)]⟩
      · refine z_if_eq (tgt := 33) C dX10_isLayer_26 (by decide) (by omega) (fun _ => ?_) (fun h => absurd h (by omega))
        refine z_iconst (z := 0) C dX10_isLayer_33 rfl ?_
        have hFy12 : ∀ f, f ≠ 12 → Fvy8 f = F f := fun f n12 => ((hFvy8 f n12).trans (hFvy3 f n12))
        have hey13 : Fvy8 12 = Fvy8 12 := rfl
        exact z_zret C hr hlk dX10_isLayer_34 (by decide) (by decide) (by decide) ⟨0, rfl, rfl, rfl, by omega, ⟨_, hcvy8, by omega, hFy12⟩, fun j j1 => by rw [hfvy8 _ (by omega)]; rw [hfvy3 _ (by omega)]⟩
    · refine z_iconst (z := 1) C dX10_isLayer_22 rfl ?_
      have hey15 : Fvy3 12 = Fvy3 12 := rfl
      refine z_cV (As := [.int (zI (0)), .int (zI (1))]) (rest := []) (ci := 12) C (c_X10_right l D A cs tt N ad _ i hN _ hcvy3 (by omega) (0) (by omega) (1) (by omega)) (lt_A0 hN rfl) hay1 hcvy3 rfl rfl mv_yX10_right q_1648 hd_yX10_right (by decide) (Nat.le_of_ble_eq_true rfl) (by decide) dX10_isLayer_23 rfl (kI0 fun vy14 gvy14 hvy14 => ?_)
      obtain ⟨hrvy14, ⟨Fvy14, hcvy14, htvy14, hFvy14⟩, hfvy14⟩ := hvy14
      obtain rfl : vy14 = 0 := by omega
      refine z_if_eq (tgt := 33) C dX10_isLayer_26 (by decide) (by omega) (fun _ => ?_) (fun h => absurd h (by omega))
      refine z_iconst (z := 0) C dX10_isLayer_33 rfl ?_
      have hFy16 : ∀ f, f ≠ 12 → Fvy14 f = F f := fun f n12 => ((hFvy14 f n12).trans (hFvy3 f n12))
      have hey17 : Fvy14 12 = Fvy14 12 := rfl
      exact z_zret C hr hlk dX10_isLayer_34 (by decide) (by decide) (by decide) ⟨0, rfl, rfl, rfl, by omega, ⟨_, hcvy14, by omega, hFy16⟩, fun j j1 => by rw [hfvy14 _ (by omega)]; rw [hfvy3 _ (by omega)]⟩
  · refine z_if_eq (tgt := 33) C dX10_isLayer_5 (by decide) (by omega) (fun _ => ?_) (fun h => absurd h (by omega))
    refine z_iconst (z := 0) C dX10_isLayer_33 rfl ?_
    have hFy18 : ∀ f, f ≠ 12 → Fvy3 f = F f := fun f n12 => (hFvy3 f n12)
    have hey19 : Fvy3 12 = Fvy3 12 := rfl
    exact z_zret C hr hlk dX10_isLayer_34 (by decide) (by decide) (by decide) ⟨0, rfl, rfl, rfl, by omega, ⟨_, hcvy3, by omega, hFy18⟩, fun j j1 => by rw [hfvy3 _ (by omega)]⟩

set_option maxRecDepth 100000 in
set_option maxHeartbeats 4000000 in
theorem c_X10_isLayer_b (l : Launch) (D : va_G) (A : Nat → Prop) (cs : Nat → ClassId) (tt : Nat) (N : Nat) (ad : Nat → Nat) (g : Nat → va_E) (i : Nat) (hN : i + 30 ≤ N) (F : Nat → Int) (hg : g i = mC ad i F) (h12 : 0 ≤ F 12 ∧ F 12 ≤ 2) (h13 : 0 ≤ F 13 ∧ F 13 ≤ 4) (z : Int) (hz : -2147483648 ≤ z ∧ z ≤ 2147483647) (hzo : z < 0 ∨ 3 < z) (z1 : Int) : zM l yX10_isLayer cX10_isLayer 3 (some .boolean) ({ frames := 3, cells := 0, slots := 0, locals := 180 } : Room) D A cs tt N ad g [.ref (ad i), .int (zI (z)), .int (zI (z1))] (rI0 N ad fun q g' => q = 0 ∧ (∃ F' : Nat → Int, g' i = mC ad i F' ∧ (0 ≤ F' 12 ∧ F' 12 ≤ 2) ∧ (∀ f, f ≠ 12 → F' f = F f)) ∧ ∀ j, j ≠ i → g' j = g j) := by
  have hay1 : zAt ad (i) (ad i) := rfl
  refine z_of (by decide) (Nat.le_of_ble_eq_true rfl) ?_
  intro pZ eZ sZ mZ below meth cZ C hr hlk hnm
  refine z_lv (lv' := [(0, .ref (ad i)), (1, .int (zI (z))), (2, .int (zI (z1)))]) [0, 1, 2] rfl ?_
  refine z_aload_n C 0 dX10_isLayer_0 rfl ?_
  refine z_iload_n C 1 dX10_isLayer_1 rfl ?_
  have h13vy2 : F 13 = F 13 := rfl
  have hey3 : F 12 = F 12 := rfl
  refine z_cV (As := [.int (zI (z))]) (rest := []) (ci := 12) C (c_X10_isSlope l D A cs tt N ad _ i hN _ hg (by omega) (by omega) (z) (by omega)) (lt_A0 hN rfl) hay1 hg rfl rfl mv_yX10_isSlope q_1803 hd_yX10_isSlope (by decide) (Nat.le_of_ble_eq_true rfl) (by decide) dX10_isLayer_2 rfl (kI0 fun vy2 gvy2 hvy2 => ?_)
  rw [h13vy2] at hvy2
  obtain ⟨hrvy2, ⟨Fvy2, hcvy2, htvy2, hFvy2⟩, hfvy2⟩ := hvy2
  obtain rfl : vy2 = 0 := by omega
  refine z_if_eq (tgt := 33) C dX10_isLayer_5 (by decide) (by omega) (fun _ => ?_) (fun h => absurd h (by omega))
  refine z_iconst (z := 0) C dX10_isLayer_33 rfl ?_
  have hFy4 : ∀ f, f ≠ 12 → Fvy2 f = F f := fun f n12 => (hFvy2 f n12)
  have hey5 : Fvy2 12 = Fvy2 12 := rfl
  exact z_zret C hr hlk dX10_isLayer_34 (by decide) (by decide) (by decide) ⟨0, rfl, rfl, rfl, rfl, ⟨_, hcvy2, by omega, hFy4⟩, fun j j1 => by rw [hfvy2 _ (by omega)]⟩

set_option maxRecDepth 100000 in
set_option maxHeartbeats 4000000 in
theorem c_X10_isPit (l : Launch) (D : va_G) (A : Nat → Prop) (cs : Nat → ClassId) (tt : Nat) (N : Nat) (ad : Nat → Nat) (g : Nat → va_E) (i : Nat) (hN : i + 30 ≤ N) (F : Nat → Int) (hg : g i = mC ad i F) (r : Nat → Int) (ha1 : g (i + 1) = iA cs 29200 r) (h12 : 0 ≤ F 12 ∧ F 12 ≤ 2) (h5 : 0 ≤ r 5 ∧ r 5 ≤ 6) (z : Int) (hz : -2147483648 ≤ z ∧ z ≤ 2147483647) : zM l yX10_isPit cX10_isPit 2 (some .boolean) ({ frames := 2, cells := 0, slots := 0, locals := 120 } : Room) D A cs tt N ad g [.ref (ad i), .int (zI (z))] (rI0 N ad fun q g' => ((0 ≤ q ∧ q ≤ 1) ∧ (q = 1 → 0 ≤ z ∧ z < r 5)) ∧ (∃ F' : Nat → Int, g' i = mC ad i F' ∧ (0 ≤ F' 12 ∧ F' 12 ≤ 2) ∧ (∀ f, f ≠ 12 → F' f = F f)) ∧ ∀ j, j ≠ i → g' j = g j) := by
  have hay1 : zAt ad (i) (ad i) := rfl
  have hay2 : zAt ad (i + 1) (ad (i + 1)) := rfl
  refine z_of (by decide) (Nat.le_of_ble_eq_true rfl) ?_
  intro pZ eZ sZ mZ below meth cZ C hr hlk hnm
  refine z_lv (lv' := [(0, .ref (ad i)), (1, .int (zI (z)))]) [0, 1] rfl ?_
  refine z_aload_n C 0 dX10_isPit_0 rfl ?_
  refine z_iload_n C 1 dX10_isPit_1 rfl ?_
  refine z_iconst (z := 0) C dX10_isPit_2 rfl ?_
  refine z_aload_n C 0 dX10_isPit_3 rfl ?_
  refine z_get (v := .ref (ad (i + 1))) C (lt_A0 hN rfl) hay1 hg rfl inA_X10 0 (by decide) q_1459 rfl rfl dX10_isPit_4 ?_
  refine z_iconst (z := 5) C dX10_isPit_7 rfl ?_
  refine z_iald C (lt_A (c := 1) hN rfl) hay2 ha1 (5) (by omega) (by omega) (by decide) dX10_isPit_8 ?_
  refine z_iconst (z := 1) C dX10_isPit_9 rfl ?_
  refine z_isub C dX10_isPit_10 ?_
  refine z_cS (As := [.int (zI (z)), .int (zI (0)), .int (zI ((r (5)) - 1))]) (rest := [.ref (ad i)]) C (c_X10_within l D A cs tt N ad _ (z) (by omega) (0) (by omega) ((r (5)) - 1) (by omega)) ms_yX10_within q_1686 hd_yX10_within (by decide) (Nat.le_of_ble_eq_true rfl) (by decide) dX10_isPit_11 rfl (kI0 fun vy3 gvy3 hvy3 => ?_)
  obtain ⟨hvy3, rfl⟩ := hvy3
  rcases hvy3 with ⟨rfl, hxvy3⟩ | ⟨rfl, hxvy3⟩
  · refine z_iconst (z := 1) C dX10_isPit_14 rfl ?_
    have hey5 : F 12 = F 12 := rfl
    refine z_cV (As := [.int (zI (1)), .int (zI (1))]) (rest := []) (ci := 12) C (c_X10_right l D A cs tt N ad _ i hN _ hg (by omega) (1) (by omega) (1) (by omega)) (lt_A0 hN rfl) hay1 hg rfl rfl mv_yX10_right q_1648 hd_yX10_right (by decide) (Nat.le_of_ble_eq_true rfl) (by decide) dX10_isPit_15 rfl (kI0 fun vy4 gvy4 hvy4 => ?_)
    obtain ⟨hrvy4, ⟨Fvy4, hcvy4, htvy4, hFvy4⟩, hfvy4⟩ := hvy4
    rcases (show vy4 = 1 ∨ vy4 = 0 by omega) with rfl | rfl
    · have hFy6 : ∀ f, f ≠ 12 → Fvy4 f = F f := fun f n12 => (hFvy4 f n12)
      have hey7 : Fvy4 12 = Fvy4 12 := rfl
      exact z_zret C hr hlk dX10_isPit_18 (by decide) (by decide) (by decide) ⟨1, rfl, rfl, rfl, by omega, ⟨_, hcvy4, by omega, hFy6⟩, fun j j1 => by rw [hfvy4 _ (by omega)]⟩
    · have hFy8 : ∀ f, f ≠ 12 → Fvy4 f = F f := fun f n12 => (hFvy4 f n12)
      have hey9 : Fvy4 12 = Fvy4 12 := rfl
      exact z_zret C hr hlk dX10_isPit_18 (by decide) (by decide) (by decide) ⟨0, rfl, rfl, rfl, by omega, ⟨_, hcvy4, by omega, hFy8⟩, fun j j1 => by rw [hfvy4 _ (by omega)]⟩
  · refine z_iconst (z := 1) C dX10_isPit_14 rfl ?_
    have hey11 : F 12 = F 12 := rfl
    refine z_cV (As := [.int (zI (0)), .int (zI (1))]) (rest := []) (ci := 12) C (c_X10_right l D A cs tt N ad _ i hN _ hg (by omega) (0) (by omega) (1) (by omega)) (lt_A0 hN rfl) hay1 hg rfl rfl mv_yX10_right q_1648 hd_yX10_right (by decide) (Nat.le_of_ble_eq_true rfl) (by decide) dX10_isPit_15 rfl (kI0 fun vy10 gvy10 hvy10 => ?_)
    obtain ⟨hrvy10, ⟨Fvy10, hcvy10, htvy10, hFvy10⟩, hfvy10⟩ := hvy10
    obtain rfl : vy10 = 0 := by omega
    have hFy12 : ∀ f, f ≠ 12 → Fvy10 f = F f := fun f n12 => (hFvy10 f n12)
    have hey13 : Fvy10 12 = Fvy10 12 := rfl
    exact z_zret C hr hlk dX10_isPit_18 (by decide) (by decide) (by decide) ⟨0, rfl, rfl, rfl, by omega, ⟨_, hcvy10, by omega, hFy12⟩, fun j j1 => by rw [hfvy10 _ (by omega)]⟩

set_option maxRecDepth 100000 in
set_option maxHeartbeats 4000000 in
theorem c_X10_copies (l : Launch) (D : va_G) (A : Nat → Prop) (cs : Nat → ClassId) (tt : Nat) (N : Nat) (ad : Nat → Nat) (g : Nat → va_E) (i : Nat) (hN : i + 30 ≤ N) (F : Nat → Int) (hg : g i = mC ad i F) (r : Nat → Int) (ha1 : g (i + 1) = iA cs 29200 r) (a b mm : Nat) (ha : a + mm ≤ 29200) (hb : b + mm ≤ 29200) (hd : a + mm ≤ b ∨ b + mm ≤ a) : zM l yX10_copies cX10_copies 5 none ({ frames := 1, cells := 0, slots := 0, locals := 60 } : Room) D A cs tt N ad g [.ref (ad i), .int (zI ((a : Int))), .int (zI ((b : Int))), .int (zI ((mm : Int)))] (rV0 N ad fun g' => (∃ r' : Nat → Int, g' (i + 1) = iA cs 29200 r' ∧ (∀ k, k < mm → r' (b + k) = r (a + k)) ∧ ∀ j, j < b ∨ b + mm ≤ j → r' j = r j) ∧ ∀ j, j ≠ i + 1 → g' j = g j) := by
  have hay1 : zAt ad (i) (ad i) := rfl
  have hay2 : zAt ad (i + 1) (ad (i + 1)) := rfl
  refine z_of (by decide) (Nat.le_of_ble_eq_true rfl) ?_
  intro pZ eZ sZ mZ below meth cZ C hr hlk hnm
  refine z_lv (lv' := [(0, .ref (ad i)), (1, .int (zI ((a : Int)))), (2, .int (zI ((b : Int)))), (3, .int (zI ((mm : Int))))]) [0, 1, 2, 3] rfl ?_
  have lp : ∀ (n9 : Nat) (kk : Int) (r9 : Nat → Int) (g1 : Nat → va_E), (29201 - kk).toNat = n9 → (g1 (i + 1) = iA cs 29200 r9) → (∀ j, j ≠ i + 1 → g1 j = g j) → (∀ k : Nat, (k : Int) < kk → r9 (b + k) = r (a + k)) → (∀ j : Nat, j < b ∨ (b : Int) + kk ≤ (j : Int) → r9 j = r j) → (0 ≤ kk ∧ kk ≤ (mm : Int)) → zV pZ l eZ ({ frames := 1, cells := 0, slots := 0, locals := 60 } : Room) sZ mZ ([.ref (ad i), .int (zI ((a : Int))), .int (zI ((b : Int))), .int (zI ((mm : Int)))] : List Value).toArray below meth cZ (MQ below (zPost D A (rV0 N ad fun g' => (∃ r' : Nat → Int, g' (i + 1) = iA cs 29200 r' ∧ (∀ k, k < mm → r' (b + k) = r (a + k)) ∧ ∀ j, j < b ∨ b + mm ≤ j → r' j = r j) ∧ ∀ j, j ≠ i + 1 → g' j = g j)) ([.ref (ad i), .int (zI ((a : Int))), .int (zI ((b : Int))), .int (zI ((mm : Int)))] : List Value).toArray sZ ({ frames := 1, cells := 0, slots := 0, locals := 60 } : Room).cells ({ frames := 1, cells := 0, slots := 0, locals := 60 } : Room).slots A) D A 5 (N) ad g1 (0) (0) 3 [(0, .ref (ad i)), (1, .int (zI ((a : Int)))), (2, .int (zI ((b : Int)))), (3, .int (zI ((mm : Int)))), (4, .int (zI (kk)))] [] := by
    intro n9
    induction n9 using Nat.strongRecOn with
    | ind n9 ih =>
      intro kk r9 g1 hm9 f2 f3 f4 f5 hv
      have hay3 : zAt ad (i) (ad i) := rfl
      have hay4 : zAt ad (i + 1) (ad (i + 1)) := rfl
      obtain ⟨nk, hnk⟩ : ∃ n9 : Nat, kk = (n9 : Int) := ⟨kk.toNat, by omega⟩
      obtain ⟨na, hna⟩ : ∃ n9 : Nat, a + nk = n9 := ⟨_, rfl⟩
      obtain ⟨nb, hnb⟩ : ∃ n9 : Nat, b + nk = n9 := ⟨_, rfl⟩
      refine z_iload C 4 dX10_copies_3 rfl ?_
      refine z_iload_n C 3 dX10_copies_5 rfl ?_
      refine z_icmp_ge (tgt := 33) C dX10_copies_6 (by decide) (by omega) (by omega) (fun hby5 => ?_) (fun hby5 => ?_)
      · exact z_vret C hr hlk dX10_copies_33 (by decide) (by decide) ⟨rfl, rfl, rfl, ⟨_, f2, fun k a1 => f4 k (by omega), fun j a1 => f5 j (by omega)⟩, fun j j1 => by exact f3 j j1⟩
      · refine z_aload_n C 0 dX10_copies_9 rfl ?_
        refine z_get (v := .ref (ad (i + 1))) C (lt_A0 hN rfl) hay3 ((f3 _ (by omega)).trans hg) rfl inA_X10 0 (by decide) q_1459 rfl rfl dX10_copies_10 ?_
        refine z_iload_n C 2 dX10_copies_13 rfl ?_
        refine z_iload C 4 dX10_copies_14 rfl ?_
        refine z_iadd C dX10_copies_16 ?_
        refine z_aload_n C 0 dX10_copies_17 rfl ?_
        refine z_get (v := .ref (ad (i + 1))) C (lt_A0 hN rfl) hay3 ((f3 _ (by omega)).trans hg) rfl inA_X10 0 (by decide) q_1459 rfl rfl dX10_copies_18 ?_
        refine z_iload_n C 1 dX10_copies_21 rfl ?_
        refine z_iload C 4 dX10_copies_22 rfl ?_
        refine z_iadd C dX10_copies_24 ?_
        refine z_iald C (lt_A (c := 1) hN rfl) hay4 f2 (na) (by omega) (by omega) (by decide) dX10_copies_25 ?_
        refine z_iast C (lt_A (c := 1) hN rfl) hay4 f2 (nb) (by omega) (by omega) (by decide) dX10_copies_26 (fun gy6 egy7 => ?_)
        have hgy8 := up_s egy7
        obtain ⟨ry9, hvy10⟩ : ∃ rZ9 : Nat → Int, rZ9 = uZ r9 (nb) (r9 (na)) := ⟨_, rfl⟩
        rw [← hvy10] at hgy8
        refine z_iinc (z := kk + 1) (lv' := [(4, .int (zI (kk + 1))), (0, .ref (ad i)), (1, .int (zI ((a : Int)))), (2, .int (zI ((b : Int)))), (3, .int (zI ((mm : Int))))]) (j := 4) C dX10_copies_27 rfl rfl (by decide) rfl ?_
        refine z_goto (tgt := 3) C dX10_copies_30 (by decide) ?_
        refine z_lv (lv' := [(0, .ref (ad i)), (1, .int (zI ((a : Int)))), (2, .int (zI ((b : Int)))), (3, .int (zI ((mm : Int)))), (4, .int (zI (kk + 1)))]) [1, 2, 3, 4, 0] rfl ?_
        have hfry11 : ∀ j, j ≠ nb → ry9 j = r9 j := fun j n0 => (congrFun hvy10 _).trans ((uZ_n _ _ n0).trans (rfl))
        have hwy12 : ry9 (nb) = r9 (na) := (congrFun hvy10 _).trans (uZ_s _ _ _)
        exact ih _ (by omega) (kk + 1) ry9 gy6 rfl hgy8 (fun j j1 => by rw [egy7, va_up_ne _ _ (by omega)]; exact f3 j j1) (fun k a1 => by
            by_cases e : k = nk
            · subst e; rw [show b + k = nb by omega, show a + k = na by omega, ← f5 (na) (by omega)]; omega
            · rw [hfry11 (b + k) (by omega)]; exact f4 k (by omega)) (fun j a1 => (hfry11 j (by omega)).trans (f5 j (by omega))) (by omega)
  refine z_iconst (z := 0) C dX10_copies_0 rfl ?_
  refine z_istore (lv' := [(4, .int (zI (0))), (0, .ref (ad i)), (1, .int (zI ((a : Int)))), (2, .int (zI ((b : Int)))), (3, .int (zI ((mm : Int))))]) C dX10_copies_1 (by decide) rfl ?_
  refine z_lv (lv' := [(0, .ref (ad i)), (1, .int (zI ((a : Int)))), (2, .int (zI ((b : Int)))), (3, .int (zI ((mm : Int)))), (4, .int (zI (0)))]) [1, 2, 3, 4, 0] rfl ?_
  exact lp _ 0 r g rfl ha1 (fun j _ => rfl) (fun k a1 => absurd a1 (by omega)) (fun j _ => rfl) (by omega)

set_option maxRecDepth 100000 in
set_option maxHeartbeats 4000000 in
theorem c_X10_tries (l : Launch) (D : va_G) (A : Nat → Prop) (cs : Nat → ClassId) (tt : Nat) (N : Nat) (ad : Nat → Nat) (g : Nat → va_E) (i : Nat) (hN : i + 30 ≤ N) (F : Nat → Int) (hg : g i = mC ad i F) (r : Nat → Int) (ha1 : g (i + 1) = iA cs 29200 r) (x : Int) (hA : okA r x) : zM l yX10_tries cX10_tries 1 none ({ frames := 2, cells := 0, slots := 0, locals := 120 } : Room) D A cs tt N ad g [.ref (ad i)] (rV0 N ad fun g' => (∃ r' : Nat → Int, g' (i + 1) = iA cs 29200 r' ∧ okA r' x ∧ okW r' 350 x ∧ r' 350 = r 0 ∧ ∀ j, j < 350 ∨ 700 ≤ j → r' j = r j) ∧ ∀ j, j ≠ i + 1 → g' j = g j) := by
  have hay1 : zAt ad (i) (ad i) := rfl
  have hay2 : zAt ad (i + 1) (ad (i + 1)) := rfl
  refine z_of (by decide) (Nat.le_of_ble_eq_true rfl) ?_
  intro pZ eZ sZ mZ below meth cZ C hr hlk hnm
  refine z_lv (lv' := [(0, .ref (ad i))]) [0] rfl ?_
  refine z_aload_n C 0 dX10_tries_0 rfl ?_
  refine z_iconst (z := 0) C dX10_tries_1 rfl ?_
  refine z_sipush (z := 350) C dX10_tries_2 (by decide) ?_
  refine z_sipush (z := 350) C dX10_tries_5 (by decide) ?_
  refine z_cV (As := [.int (zI (0)), .int (zI (350)), .int (zI (350))]) (rest := []) (ci := 12) C (c_X10_copies l D A cs tt N ad _ i hN _ hg _ ha1 0 350 350 (by omega) (by omega) (by omega)) (lt_A0 hN rfl) hay1 hg rfl rfl mv_yX10_copies q_1877 hd_yX10_copies (by decide) (Nat.le_of_ble_eq_true rfl) (by decide) dX10_tries_8 rfl (kV0 fun gvy3 hvy3 => ?_)
  obtain ⟨⟨rvy3, hcvy3, hevy3, hovy3⟩, hfvy3⟩ := hvy3
  have hA9 : okA rvy3 x := okA.tried hA (fun j hj => hovy3 j (by omega))
  have hW9 : okW rvy3 350 x := okW.ext (b := 0) (fun k hk => hevy3 k hk) (okA.at0 hA).1
  have h09 : rvy3 350 = r 0 := hevy3 0 (by omega)
  exact z_vret C hr hlk dX10_tries_11 (by decide) (by decide) ⟨rfl, rfl, rfl, ⟨_, hcvy3, hA9, hW9, h09, fun j a1 => hovy3 j (by omega)⟩, fun j j1 => by rw [hfvy3 _ (by omega)]⟩

set_option maxRecDepth 100000 in
set_option maxHeartbeats 4000000 in
theorem c_X10_digs (l : Launch) (D : va_G) (A : Nat → Prop) (cs : Nat → ClassId) (tt : Nat) (N : Nat) (ad : Nat → Nat) (g : Nat → va_E) (i : Nat) (hN : i + 30 ≤ N) (F : Nat → Int) (hg : g i = mC ad i F) (r : Nat → Int) (ha1 : g (i + 1) = iA cs 29200 r) (b s p : Nat) (hp : b + 6 + 86 * s = p) (hb : b + 350 ≤ 29200) (hs : s < 4) (M E : Int) (hM : M ≤ 138500) (hE : E ≤ 400000000) (ho : okS r p M E) (h1 : 1 ≤ r p) : zM l yX10_digs cX10_digs 4 none ({ frames := 4, cells := 0, slots := 0, locals := 240 } : Room) D A cs tt N ad g [.ref (ad i), .int (zI ((b : Int))), .int (zI ((s : Int)))] (rV0 N ad fun g' => (∃ r' : Nat → Int, g' (i + 1) = iA cs 29200 r' ∧ okS r' p (M) (E) ∧ (∀ j, j < p ∨ p + 86 ≤ j → j ≠ b + 2 → j ≠ b + 3 → j ≠ b + 4 → r' j = r j)) ∧ ∀ j, j ≠ i + 1 → g' j = g j) := by
  have hay1 : zAt ad (i) (ad i) := rfl
  have hay2 : zAt ad (i + 1) (ad (i + 1)) := rfl
  have hmky3 := ho.1
  refine z_of (by decide) (Nat.le_of_ble_eq_true rfl) ?_
  intro pZ eZ sZ mZ below meth cZ C hr hlk hnm
  refine z_lv (lv' := [(0, .ref (ad i)), (1, .int (zI ((b : Int)))), (2, .int (zI ((s : Int))))]) [0, 1, 2] rfl ?_
  refine z_aload_n C 0 dX10_digs_0 rfl ?_
  refine z_iload_n C 1 dX10_digs_1 rfl ?_
  refine z_iload_n C 2 dX10_digs_2 rfl ?_
  refine z_cV (As := [.int (zI ((b : Int))), .int (zI ((s : Int)))]) (rest := []) (ci := 12) C (c_X10_many l D A cs tt N ad _ i hN _ hg _ ha1 b s p hp (by omega) (by omega)) (lt_A0 hN rfl) hay1 hg rfl rfl mv_yX10_many q_1733 hd_yX10_many (by decide) (Nat.le_of_ble_eq_true rfl) (by decide) dX10_digs_3 rfl (kI0 fun vy4 gvy4 hvy4 => ?_)
  obtain ⟨rfl, rfl⟩ := hvy4
  refine z_iconst (z := 1) C dX10_digs_6 rfl ?_
  refine z_isub C dX10_digs_7 ?_
  refine z_istore_n (lv' := [(3, .int (zI ((r (p)) - 1))), (0, .ref (ad i)), (1, .int (zI ((b : Int)))), (2, .int (zI ((s : Int))))]) C dX10_digs_8 rfl (by decide) rfl ?_
  refine z_aload_n C 1 dX10_digs_9 rfl ?_
  refine z_get (v := .ref (ad (i + 1))) C (lt_A0 hN rfl) hay1 hg rfl inA_X10 0 (by decide) q_1459 rfl rfl dX10_digs_10 ?_
  refine z_iload_n C 2 dX10_digs_13 rfl ?_
  refine z_iconst (z := 2) C dX10_digs_14 rfl ?_
  refine z_iadd C dX10_digs_15 ?_
  refine z_dup2 C dX10_digs_16 rfl rfl ?_
  refine z_iald C (lt_A (c := 1) hN rfl) hay2 ha1 (b + 2) (by omega) (by omega) (by decide) dX10_digs_17 ?_
  refine z_aload_n C 1 dX10_digs_18 rfl ?_
  refine z_iload_n C 2 dX10_digs_19 rfl ?_
  refine z_iload_n C 3 dX10_digs_20 rfl ?_
  refine z_iload_n C 0 dX10_digs_21 rfl ?_
  refine z_cV (As := [.int (zI ((b : Int))), .int (zI ((s : Int))), .int (zI ((r (p)) - 1))]) (rest := [.int (zI (r (b + 2))), .int (zI (((b : Int)) + 2)), .ref (ad (i + 1))]) (ci := 12) C (c_X10_weightA l D A cs tt N ad _ i hN _ hg _ ha1 b s p hp (by omega) (by omega)  ((r (p)) - 1) (by omega)) (lt_A0 hN rfl) hay1 hg rfl rfl mv_yX10_weight q_1784 hd_yX10_weight (by decide) (Nat.le_of_ble_eq_true rfl) (by decide) dX10_digs_22 rfl (kI0 fun vy5 gvy5 hvy5 => ?_)
  obtain ⟨hvy5, rfl⟩ := hvy5
  refine z_iadd C dX10_digs_25 ?_
  refine z_iast C (lt_A (c := 1) hN rfl) hay2 ha1 (b + 2) (by omega) (by omega) (by decide) dX10_digs_26 (fun gy6 egy7 => ?_)
  have hgy8 := up_s egy7
  obtain ⟨ry9, hvy10⟩ : ∃ rZ9 : Nat → Int, rZ9 = uZ r (b + 2) ((r (b + 2)) + vy5) := ⟨_, rfl⟩
  rw [← hvy10] at hgy8
  refine z_aload_n C 1 dX10_digs_27 rfl ?_
  refine z_iload_n C 2 dX10_digs_28 rfl ?_
  refine z_iload_n C 3 dX10_digs_29 rfl ?_
  refine z_iload_n C 0 dX10_digs_30 rfl ?_
  have hgy11 := up_n egy7 hg (ne_o (i := i) (c := 0) (d := 1) rfl)
  refine z_cV (As := [.int (zI ((b : Int))), .int (zI ((s : Int))), .int (zI ((r (p)) - 1))]) (rest := []) (ci := 12) C (c_X10_setsMany l D A cs tt N ad _ i hN _ hgy11 _ hgy8 b s p hp (by omega) (by omega) ((r (p)) - 1)) (lt_A0 hN rfl) hay1 hgy11 rfl rfl mv_yX10_setsMany q_1717 hd_yX10_setsMany (by decide) (Nat.le_of_ble_eq_true rfl) (by decide) dX10_digs_31 rfl (kV0 fun gvy12 hvy12 => ?_)
  obtain ⟨hcvy12, hfvy12⟩ := hvy12
  obtain ⟨ry13, hvy14⟩ : ∃ rZ9 : Nat → Int, rZ9 = uZ ry9 (p) ((r (p)) - 1) := ⟨_, rfl⟩
  rw [← hvy14] at hcvy12
  have hfry15 : ∀ j, j ≠ p → j ≠ b + 2 → ry13 j = r j := fun j n0 n1 => (congrFun hvy14 _).trans ((uZ_n _ _ n0).trans ((congrFun hvy10 _).trans ((uZ_n _ _ n1).trans (rfl))))
  have hwy16 : ry13 (p) = (r (p)) - 1 := (congrFun hvy14 _).trans (uZ_s _ _ _)
  have hok9 : okS ry13 p M E := okS.cut ho (fun j a1 a2 => hfry15 j (by omega) (by omega)) (by omega)
  exact z_vret C hr hlk dX10_digs_34 (by decide) (by decide) ⟨rfl, rfl, rfl, ⟨_, hcvy12, hok9, fun j a1 a2 a3 a4 => hfry15 j (by omega) (by omega)⟩, fun j j1 => by rw [hfvy12 _ (by omega)]; rw [egy7, va_up_ne _ _ (by omega)]⟩

set_option maxRecDepth 100000 in
set_option maxHeartbeats 4000000 in
theorem c_X10_slides (l : Launch) (D : va_G) (A : Nat → Prop) (cs : Nat → ClassId) (tt : Nat) (N : Nat) (ad : Nat → Nat) (g : Nat → va_E) (i : Nat) (hN : i + 30 ≤ N) (F : Nat → Int) (hg : g i = mC ad i F) (r : Nat → Int) (ha1 : g (i + 1) = iA cs 29200 r) (st : Nat → Int) (ha2 : g (i + 2) = iA cs 4 st) (tb : Nat → Int) (ha7 : g (i + 7) = iA cs 15 tb) (b s p : Nat) (hp : b + 6 + 86 * s = p) (hb : b + 350 ≤ 29200) (hs : s < 4) (M E : Int) (hM : M ≤ 138500) (hE : E ≤ 400000000) (ho : okS r p M E) : zM l yX10_slides cX10_slides 5 (some .int) ({ frames := 9, cells := 0, slots := 0, locals := 540 } : Room) D A cs tt N ad g [.ref (ad i), .int (zI ((b : Int))), .int (zI ((s : Int)))] (rI0 N ad fun q g' => (-2147483648 ≤ q ∧ q ≤ 2147483647) ∧ (∃ r' : Nat → Int, g' (i + 1) = iA cs 29200 r' ∧ okS r' p M E ∧ (∀ j, j < p ∨ p + 86 ≤ j → j ≠ b + 2 → j ≠ b + 3 → j ≠ b + 4 → r' j = r j)) ∧ ∀ j, j ≠ i + 1 → g' j = g j) := by
  have hay1 : zAt ad (i) (ad i) := rfl
  have hay2 : zAt ad (i + 1) (ad (i + 1)) := rfl
  have hay3 : zAt ad (i + 2) (ad (i + 2)) := rfl
  have hay4 : zAt ad (i + 7) (ad (i + 7)) := rfl
  have hmky5 := ho.1
  have hq := ho.q hE
  refine z_of (by decide) (Nat.le_of_ble_eq_true rfl) ?_
  intro pZ eZ sZ mZ below meth cZ C hr hlk hnm
  refine z_lv (lv' := [(0, .ref (ad i)), (1, .int (zI ((b : Int)))), (2, .int (zI ((s : Int))))]) [0, 1, 2] rfl ?_
  refine z_aload_n C 0 dX10_slides_0 rfl ?_
  refine z_iload_n C 1 dX10_slides_1 rfl ?_
  refine z_iload_n C 2 dX10_slides_2 rfl ?_
  refine z_cV (As := [.int (zI ((b : Int))), .int (zI ((s : Int)))]) (rest := []) (ci := 12) C (c_X10_weakest l D A cs tt N ad _ i hN _ hg _ ha1 _ ha2 _ ha7 b s p hp (by omega) (by omega) hq) (lt_A0 hN rfl) hay1 hg rfl rfl mv_yX10_weakest q_1807 hd_yX10_weakest (by decide) (Nat.le_of_ble_eq_true rfl) (by decide) dX10_slides_3 rfl (kI0 fun vy6 gvy6 hvy6 => ?_)
  obtain ⟨hvy6, rfl⟩ := hvy6
  refine z_istore_n (lv' := [(3, .int (zI (vy6))), (0, .ref (ad i)), (1, .int (zI ((b : Int)))), (2, .int (zI ((s : Int))))]) C dX10_slides_6 rfl (by decide) rfl ?_
  refine z_aload_n C 1 dX10_slides_7 rfl ?_
  refine z_iload_n C 2 dX10_slides_8 rfl ?_
  refine z_iload_n C 3 dX10_slides_9 rfl ?_
  refine z_cV (As := [.int (zI ((b : Int))), .int (zI ((s : Int)))]) (rest := []) (ci := 12) C (c_X10_many l D A cs tt N ad _ i hN _ hg _ ha1 b s p hp (by omega) (by omega)) (lt_A0 hN rfl) hay1 hg rfl rfl mv_yX10_many q_1733 hd_yX10_many (by decide) (Nat.le_of_ble_eq_true rfl) (by decide) dX10_slides_10 rfl (kI0 fun vy7 gvy7 hvy7 => ?_)
  obtain ⟨rfl, rfl⟩ := hvy7
  refine z_iconst (z := 1) C dX10_slides_13 rfl ?_
  refine z_isub C dX10_slides_14 ?_
  refine z_iload_n C 0 dX10_slides_15 rfl ?_
  refine z_isub C dX10_slides_16 ?_
  refine z_istore (lv' := [(4, .int (zI (((r (p)) - 1) - vy6))), (3, .int (zI (vy6))), (0, .ref (ad i)), (1, .int (zI ((b : Int)))), (2, .int (zI ((s : Int))))]) C dX10_slides_17 (by decide) rfl ?_
  refine z_aload_n C 2 dX10_slides_19 rfl ?_
  refine z_get (v := .ref (ad (i + 1))) C (lt_A0 hN rfl) hay1 hg rfl inA_X10 0 (by decide) q_1459 rfl rfl dX10_slides_20 ?_
  refine z_iload_n C 3 dX10_slides_23 rfl ?_
  refine z_iconst (z := 3) C dX10_slides_24 rfl ?_
  refine z_iadd C dX10_slides_25 ?_
  refine z_dup2 C dX10_slides_26 rfl rfl ?_
  refine z_iald C (lt_A (c := 1) hN rfl) hay2 ha1 (b + 3) (by omega) (by omega) (by decide) dX10_slides_27 ?_
  refine z_aload_n C 2 dX10_slides_28 rfl ?_
  refine z_iload_n C 3 dX10_slides_29 rfl ?_
  refine z_iload_n C 4 dX10_slides_30 rfl ?_
  refine z_iload_n C 1 dX10_slides_31 rfl ?_
  refine z_cV (As := [.int (zI ((b : Int))), .int (zI ((s : Int))), .int (zI (vy6))]) (rest := [.int (zI (r (b + 3))), .int (zI (((b : Int)) + 3)), .ref (ad (i + 1))]) (ci := 12) C (c_X10_aboveA l D A cs tt N ad _ i hN _ hg _ ha1 b s p hp (by omega) (by omega) hq (vy6) (by omega)) (lt_A0 hN rfl) hay1 hg rfl rfl mv_yX10_above q_1780 hd_yX10_above (by decide) (Nat.le_of_ble_eq_true rfl) (by decide) dX10_slides_32 rfl (kI0 fun vy8 gvy8 hvy8 => ?_)
  obtain ⟨hvy8, rfl⟩ := hvy8
  refine z_iadd C dX10_slides_35 ?_
  refine z_iast C (lt_A (c := 1) hN rfl) hay2 ha1 (b + 3) (by omega) (by omega) (by decide) dX10_slides_36 (fun gy9 egy10 => ?_)
  have hgy11 := up_s egy10
  obtain ⟨ry12, hvy13⟩ : ∃ rZ9 : Nat → Int, rZ9 = uZ r (b + 3) ((r (b + 3)) + vy8) := ⟨_, rfl⟩
  rw [← hvy13] at hgy11
  refine z_aload_n C 2 dX10_slides_37 rfl ?_
  have hgy14 := up_n egy10 hg (ne_o (i := i) (c := 0) (d := 1) rfl)
  refine z_get (v := .ref (ad (i + 1))) C (lt_A0 hN rfl) hay1 hgy14 rfl inA_X10 0 (by decide) q_1459 rfl rfl dX10_slides_38 ?_
  refine z_iload_n C 3 dX10_slides_41 rfl ?_
  refine z_iconst (z := 4) C dX10_slides_42 rfl ?_
  refine z_iadd C dX10_slides_43 ?_
  refine z_dup2 C dX10_slides_44 rfl rfl ?_
  refine z_iald C (lt_A (c := 1) hN rfl) hay2 hgy11 (b + 4) (by omega) (by omega) (by decide) dX10_slides_45 ?_
  rw [show ry12 (b + 4) = r (b + 4) from (congrFun hvy13 _).trans ((uZ_n _ _ (by omega)).trans (rfl))]
  refine z_iconst (z := 1) C dX10_slides_46 rfl ?_
  refine z_iadd C dX10_slides_47 ?_
  refine z_iast C (lt_A (c := 1) hN rfl) hay2 hgy11 (b + 4) (by omega) (by omega) (by decide) dX10_slides_48 (fun gy15 egy16 => ?_)
  have hgy17 := up_s egy16
  obtain ⟨ry18, hvy19⟩ : ∃ rZ9 : Nat → Int, rZ9 = uZ ry12 (b + 4) ((r (b + 4)) + 1) := ⟨_, rfl⟩
  rw [← hvy19] at hgy17
  refine z_aload_n C 2 dX10_slides_49 rfl ?_
  refine z_iload_n C 3 dX10_slides_50 rfl ?_
  refine z_iload_n C 4 dX10_slides_51 rfl ?_
  refine z_iload_n C 1 dX10_slides_52 rfl ?_
  refine z_iconst (z := 1) C dX10_slides_53 rfl ?_
  refine z_iadd C dX10_slides_54 ?_
  have hgy20 := up_n egy16 hgy14 (ne_o (i := i) (c := 0) (d := 1) rfl)
  refine z_cV (As := [.int (zI ((b : Int))), .int (zI ((s : Int))), .int (zI (vy6 + 1))]) (rest := []) (ci := 12) C (c_X10_setsMany l D A cs tt N ad _ i hN _ hgy20 _ hgy17 b s p hp (by omega) (by omega) (vy6 + 1)) (lt_A0 hN rfl) hay1 hgy20 rfl rfl mv_yX10_setsMany q_1717 hd_yX10_setsMany (by decide) (Nat.le_of_ble_eq_true rfl) (by decide) dX10_slides_55 rfl (kV0 fun gvy21 hvy21 => ?_)
  obtain ⟨hcvy21, hfvy21⟩ := hvy21
  obtain ⟨ry22, hvy23⟩ : ∃ rZ9 : Nat → Int, rZ9 = uZ ry18 (p) (vy6 + 1) := ⟨_, rfl⟩
  rw [← hvy23] at hcvy21
  refine z_iload C 0 dX10_slides_58 rfl ?_
  have hfry24 : ∀ j, j ≠ p → j ≠ b + 4 → j ≠ b + 3 → ry22 j = r j := fun j n0 n1 n2 => (congrFun hvy23 _).trans ((uZ_n _ _ n0).trans ((congrFun hvy19 _).trans ((uZ_n _ _ n1).trans ((congrFun hvy13 _).trans ((uZ_n _ _ n2).trans (rfl))))))
  have hwy25 : ry22 (p) = vy6 + 1 := (congrFun hvy23 _).trans (uZ_s _ _ _)
  have hok9 : okS ry22 p M E := okS.cut ho (fun j a1 a2 => hfry24 j (by omega) (by omega) (by omega)) (by omega)
  exact z_iret C hr hlk dX10_slides_60 (by decide) (by decide) ⟨((r (p)) - 1) - vy6, rfl, rfl, rfl, by omega, ⟨_, hcvy21, hok9, fun j a1 a2 a3 a4 => hfry24 j (by omega) (by omega) (by omega)⟩, fun j j1 => by rw [hfvy21 _ (by omega)]; rw [egy16, va_up_ne _ _ (by omega)]; rw [egy10, va_up_ne _ _ (by omega)]⟩
end
section
-- 90.words.lean.txt
-- words of refa
theorem q_1476 : (Jvm.Cond.fieldLink "SnowRecorderModel" (336 : Nat) "SnowRecorderModel" "notes" "I") ∈ AW := AW_m7 36 (by decide +kernel) (by decide +kernel)
theorem q_1482 : (Jvm.Cond.fieldLink "SnowRecorderModel" (321 : Nat) "SnowRecorderModel" "taped" "I") ∈ AW := AW_m7 42 (by decide +kernel) (by decide +kernel)
theorem q_1729 : (Jvm.Cond.methodLink "SnowRecorderModel" (348 : Nat) ({ cls := "SnowRecorderModel", name := "allLayers", desc := "()I" } : Jvm.MethodName)) ∈ AW := AW_m8 49 (by decide +kernel) (by decide +kernel)
theorem q_1731 : (Jvm.Cond.instanceMethod ({ cls := "SnowRecorderModel", name := "allLayers", desc := "()I" } : Jvm.MethodName)) ∈ AW := AW_m8 51 (by decide +kernel) (by decide +kernel)
theorem q_1732 : (Jvm.Cond.code ({ cls := "SnowRecorderModel", name := "allLayers", desc := "()I" } : Jvm.MethodName) prog_12_method_63_code (3 : Nat) (Option.some Jvm.ClassFile.FieldType.int)) ∈ AW := AW_m8 52 (by decide +kernel) (by decide +kernel)
theorem q_1737 : (Jvm.Cond.methodLink "SnowRecorderModel" (351 : Nat) ({ cls := "SnowRecorderModel", name := "allRunoff", desc := "()I" } : Jvm.MethodName)) ∈ AW := AW_m8 57 (by decide +kernel) (by decide +kernel)
theorem q_1739 : (Jvm.Cond.instanceMethod ({ cls := "SnowRecorderModel", name := "allRunoff", desc := "()I" } : Jvm.MethodName)) ∈ AW := AW_m8 59 (by decide +kernel) (by decide +kernel)
theorem q_1740 : (Jvm.Cond.code ({ cls := "SnowRecorderModel", name := "allRunoff", desc := "()I" } : Jvm.MethodName) prog_12_method_64_code (3 : Nat) (Option.some Jvm.ClassFile.FieldType.int)) ∈ AW := AW_m8 60 (by decide +kernel) (by decide +kernel)
theorem q_1741 : (Jvm.Cond.methodLink "SnowRecorderModel" (354 : Nat) ({ cls := "SnowRecorderModel", name := "allWeight", desc := "()I" } : Jvm.MethodName)) ∈ AW := AW_m8 61 (by decide +kernel) (by decide +kernel)
theorem q_1743 : (Jvm.Cond.instanceMethod ({ cls := "SnowRecorderModel", name := "allWeight", desc := "()I" } : Jvm.MethodName)) ∈ AW := AW_m8 63 (by decide +kernel) (by decide +kernel)
theorem q_1744 : (Jvm.Cond.code ({ cls := "SnowRecorderModel", name := "allWeight", desc := "()I" } : Jvm.MethodName) prog_12_method_65_code (3 : Nat) (Option.some Jvm.ClassFile.FieldType.int)) ∈ AW := AW_m8 64 (by decide +kernel) (by decide +kernel)
theorem q_1745 : (Jvm.Cond.methodLink "SnowRecorderModel" (345 : Nat) ({ cls := "SnowRecorderModel", name := "sum", desc := "(III)I" } : Jvm.MethodName)) ∈ AW := AW_m8 65 (by decide +kernel) (by decide +kernel)
theorem q_1747 : (Jvm.Cond.instanceMethod ({ cls := "SnowRecorderModel", name := "sum", desc := "(III)I" } : Jvm.MethodName)) ∈ AW := AW_m8 67 (by decide +kernel) (by decide +kernel)
theorem q_1748 : (Jvm.Cond.code ({ cls := "SnowRecorderModel", name := "sum", desc := "(III)I" } : Jvm.MethodName) prog_12_method_18_code (6 : Nat) (Option.some Jvm.ClassFile.FieldType.int)) ∈ AW := AW_m8 68 (by decide +kernel) (by decide +kernel)
theorem q_1756 : (Jvm.Cond.methodLink "SnowRecorderModel" (357 : Nat) ({ cls := "SnowRecorderModel", name := "worst", desc := "()I" } : Jvm.MethodName)) ∈ AW := AW_m8 76 (by decide +kernel) (by decide +kernel)
theorem q_1758 : (Jvm.Cond.instanceMethod ({ cls := "SnowRecorderModel", name := "worst", desc := "()I" } : Jvm.MethodName)) ∈ AW := AW_m8 78 (by decide +kernel) (by decide +kernel)
theorem q_1759 : (Jvm.Cond.code ({ cls := "SnowRecorderModel", name := "worst", desc := "()I" } : Jvm.MethodName) prog_12_method_66_code (3 : Nat) (Option.some Jvm.ClassFile.FieldType.int)) ∈ AW := AW_m8 79 (by decide +kernel) (by decide +kernel)
theorem q_1811 : (Jvm.Cond.methodLink "SnowRecorderModel" (366 : Nat) ({ cls := "SnowRecorderModel", name := "isUnstable", desc := "(II)Z" } : Jvm.MethodName)) ∈ AW := AW_m8 131 (by decide +kernel) (by decide +kernel)
theorem q_1813 : (Jvm.Cond.instanceMethod ({ cls := "SnowRecorderModel", name := "isUnstable", desc := "(II)Z" } : Jvm.MethodName)) ∈ AW := AW_m8 133 (by decide +kernel) (by decide +kernel)
theorem q_1814 : (Jvm.Cond.code ({ cls := "SnowRecorderModel", name := "isUnstable", desc := "(II)Z" } : Jvm.MethodName) prog_12_method_44_code (3 : Nat) (Option.some Jvm.ClassFile.FieldType.boolean)) ∈ AW := AW_m8 134 (by decide +kernel) (by decide +kernel)
theorem q_1819 : (Jvm.Cond.methodLink "SnowRecorderModel" (370 : Nat) ({ cls := "SnowRecorderModel", name := "isLayer", desc := "(II)Z" } : Jvm.MethodName)) ∈ AW := AW_m8 139 (by decide +kernel) (by decide +kernel)
theorem q_1821 : (Jvm.Cond.instanceMethod ({ cls := "SnowRecorderModel", name := "isLayer", desc := "(II)Z" } : Jvm.MethodName)) ∈ AW := AW_m8 141 (by decide +kernel) (by decide +kernel)
theorem q_1822 : (Jvm.Cond.code ({ cls := "SnowRecorderModel", name := "isLayer", desc := "(II)Z" } : Jvm.MethodName) prog_12_method_71_code (3 : Nat) (Option.some Jvm.ClassFile.FieldType.boolean)) ∈ AW := AW_m8 142 (by decide +kernel) (by decide +kernel)
theorem s_56 : Cond.selects "SnowRecorderModel" ({ cls := "SnowRecorderModel", name := "allLayers", desc := "()I" } : Jvm.MethodName) ({ cls := "SnowRecorderModel", name := "allLayers", desc := "()I" } : Jvm.MethodName) ∈ AW := AW_m 56 (by decide +kernel) (by decide +kernel)
theorem s_58 : Cond.selects "SnowRecorderModel" ({ cls := "SnowRecorderModel", name := "allRunoff", desc := "()I" } : Jvm.MethodName) ({ cls := "SnowRecorderModel", name := "allRunoff", desc := "()I" } : Jvm.MethodName) ∈ AW := AW_m 58 (by decide +kernel) (by decide +kernel)
theorem s_59 : Cond.selects "SnowRecorderModel" ({ cls := "SnowRecorderModel", name := "allWeight", desc := "()I" } : Jvm.MethodName) ({ cls := "SnowRecorderModel", name := "allWeight", desc := "()I" } : Jvm.MethodName) ∈ AW := AW_m 59 (by decide +kernel) (by decide +kernel)
theorem s_60 : Cond.selects "SnowRecorderModel" ({ cls := "SnowRecorderModel", name := "sum", desc := "(III)I" } : Jvm.MethodName) ({ cls := "SnowRecorderModel", name := "sum", desc := "(III)I" } : Jvm.MethodName) ∈ AW := AW_m 60 (by decide +kernel) (by decide +kernel)
theorem s_62 : Cond.selects "SnowRecorderModel" ({ cls := "SnowRecorderModel", name := "worst", desc := "()I" } : Jvm.MethodName) ({ cls := "SnowRecorderModel", name := "worst", desc := "()I" } : Jvm.MethodName) ∈ AW := AW_m 62 (by decide +kernel) (by decide +kernel)
theorem s_73 : Cond.selects "SnowRecorderModel" ({ cls := "SnowRecorderModel", name := "isUnstable", desc := "(II)Z" } : Jvm.MethodName) ({ cls := "SnowRecorderModel", name := "isUnstable", desc := "(II)Z" } : Jvm.MethodName) ∈ AW := AW_m 73 (by decide +kernel) (by decide +kernel)
theorem s_74 : Cond.selects "SnowRecorderModel" ({ cls := "SnowRecorderModel", name := "isLayer", desc := "(II)Z" } : Jvm.MethodName) ({ cls := "SnowRecorderModel", name := "isLayer", desc := "(II)Z" } : Jvm.MethodName) ∈ AW := AW_m 74 (by decide +kernel) (by decide +kernel)
theorem hd_yX10_sum : yX10_sum.cls ≠ "java/lang/invoke/MethodHandle" ∧ yX10_sum.cls ≠ "java/lang/invoke/VarHandle" ∧ (parseMethodDescriptor yX10_sum.desc).map (fun d => d.parameters.length) = some 3 := by decide +kernel
theorem hd_yX10_allLayers : yX10_allLayers.cls ≠ "java/lang/invoke/MethodHandle" ∧ yX10_allLayers.cls ≠ "java/lang/invoke/VarHandle" ∧ (parseMethodDescriptor yX10_allLayers.desc).map (fun d => d.parameters.length) = some 0 := by decide +kernel
theorem hd_yX10_allRunoff : yX10_allRunoff.cls ≠ "java/lang/invoke/MethodHandle" ∧ yX10_allRunoff.cls ≠ "java/lang/invoke/VarHandle" ∧ (parseMethodDescriptor yX10_allRunoff.desc).map (fun d => d.parameters.length) = some 0 := by decide +kernel
theorem hd_yX10_allWeight : yX10_allWeight.cls ≠ "java/lang/invoke/MethodHandle" ∧ yX10_allWeight.cls ≠ "java/lang/invoke/VarHandle" ∧ (parseMethodDescriptor yX10_allWeight.desc).map (fun d => d.parameters.length) = some 0 := by decide +kernel
theorem hd_yX10_worst : yX10_worst.cls ≠ "java/lang/invoke/MethodHandle" ∧ yX10_worst.cls ≠ "java/lang/invoke/VarHandle" ∧ (parseMethodDescriptor yX10_worst.desc).map (fun d => d.parameters.length) = some 0 := by decide +kernel
theorem hd_yX10_isUnstable : yX10_isUnstable.cls ≠ "java/lang/invoke/MethodHandle" ∧ yX10_isUnstable.cls ≠ "java/lang/invoke/VarHandle" ∧ (parseMethodDescriptor yX10_isUnstable.desc).map (fun d => d.parameters.length) = some 2 := by decide +kernel
theorem hd_yX10_isLayer : yX10_isLayer.cls ≠ "java/lang/invoke/MethodHandle" ∧ yX10_isLayer.cls ≠ "java/lang/invoke/VarHandle" ∧ (parseMethodDescriptor yX10_isLayer.desc).map (fun d => d.parameters.length) = some 2 := by decide +kernel
theorem mv_yX10_sum : zWv yX10_sum cX10_sum 6 (some .int) := ⟨q_1747, s_60, q_15, q_1748⟩
theorem mv_yX10_allLayers : zWv yX10_allLayers cX10_allLayers 3 (some .int) := ⟨q_1731, s_56, q_15, q_1732⟩
theorem mv_yX10_allRunoff : zWv yX10_allRunoff cX10_allRunoff 3 (some .int) := ⟨q_1739, s_58, q_15, q_1740⟩
theorem mv_yX10_allWeight : zWv yX10_allWeight cX10_allWeight 3 (some .int) := ⟨q_1743, s_59, q_15, q_1744⟩
theorem mv_yX10_worst : zWv yX10_worst cX10_worst 3 (some .int) := ⟨q_1758, s_62, q_15, q_1759⟩
theorem mv_yX10_isUnstable : zWv yX10_isUnstable cX10_isUnstable 3 (some .boolean) := ⟨q_1813, s_73, q_15, q_1814⟩
theorem mv_yX10_isLayer : zWv yX10_isLayer cX10_isLayer 3 (some .boolean) := ⟨q_1821, s_74, q_15, q_1822⟩
end
