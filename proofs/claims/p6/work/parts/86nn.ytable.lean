set_option maxRecDepth 100000 in
set_option maxHeartbeats 4000000 in
theorem c_yTable0 (l : Launch) (D : va_G) (A : Nat → Prop) (cs : Nat → ClassId) (tt : Nat) (N : Nat) (ad : Nat → Nat) (g : Nat → va_E) (i : Nat) (hN : i + 30 ≤ N) (F : Nat → Int) (hg : g i = mC ad i F) (tp : Nat → Int) (ha13 : g (i + 13) = iA cs 900 tp) (T : Nat → Int) (n : Nat) (hn : n ≤ 900) (hTb : ∀ k, k < n → 0 ≤ T k ∧ T k ≤ 255) (hTt : ∀ k, k < n → tp k = T k) (htp : ∀ k, k < 900 → 0 ≤ tp k ∧ tp k ≤ 255) (f : Nat) (hk : tkR T n F f) (h38 : F 38 = 0) (hfl : f < n) (sl ho nm : Int) (mn st op ai fa mu tb B : Nat → Int) (Lz : Nat → Nat → Int) (hX : xTx cs g i F (sl, ho, nm, mn, st, op, ai, fa, mu, tb, B, Lz)) (hwd : tk_w T n f = 6) : zM l yX10_table1 cX10_table1 3 none ({ frames := 5, cells := 0, slots := 0, locals := 300 } : Room) D A cs tt N ad g [.ref (ad i)] (rV0 N ad fun g' => (∃ F' : Nat → Int, g' i = mC ad i F' ∧ (∀ f, f ≠ 24 → f ≠ 32 → f ≠ 33 → f ≠ 35 → f ≠ 36 → f ≠ 37 → f ≠ 38 → f ≠ 47 → f ≠ 48 → f ≠ 49 → F' f = F f) ∧ ((∃ v, cl_table T n B 0 0 99 f = .ok v ∧ F' 38 = 0 ∧ F' 24 = F 24 ∧ f < v.2 ∧ tkR T n F' v.2 ∧ xTx cs g' i F' (sl, ho, nm, mn, st, op, ai, fa, mu, uZ tb v.1.1.toNat v.1.2, uZ B v.1.1.toNat 1, Lz)) ∨ (∃ e : Int × Nat, cl_table T n B 0 0 99 f = .error e ∧ F' 38 = e.1 ∧ F' 24 = (e.2 : Int) ∧ (1 ≤ e.1 ∧ e.1 ≤ 5) ∧ (∃ f9, tkR T n F' f9) ∧ okTx cs g' i F'))) ∧ ∀ j, j ≠ i → j < i + 16 ∨ i + 23 < j → g' j = g j) := by
  have hay1 : zAt ad (i) (ad i) := rfl
  have hay2 : zAt ad (i + 13) (ad (i + 13)) := rfl
  have hsry3 := srt_b T n f
  have hvly4 := vlu_b hTb f
  have hwby5 := tk_w_b T n f
  have hfny6 := hk.1
  obtain ⟨st1, op1, mn1, ai1, fa1, mu1, tb1, ly1, ⟨ha16, ha17, ha18, ha19, ha20, ha21, ha22, ha23⟩, ⟨⟨t47, t48, t49⟩, hop1, hmn1, hai1, hfa1, htb1, hly1⟩, hrT⟩ := hX
  have r47 : F 47 = sl := hrT.1.1
  have r48 : F 48 = ho := hrT.1.2.1
  have r49 : F 49 = nm := hrT.1.2.2
  have r32 : F 32 = ((tk_to T n f : Nat) : Int) := hk.2.1
  have hto0 := tk_to_nx (T := T) (n := n) (f := f) hk.1.1
  have rsl : ∀ k : Nat, (k : Int) < sl → mn1 k = mn k := fun k h9 => (hrT.2.1 k h9).2.2
  have rtb : ∀ k : Nat, k < 15 → (tb1 k = -1 ∧ B k = 0) ∨ (0 ≤ tb1 k ∧ B k = 1) := fun k h9 => by
    rcases hrT.2.2.2.1 k h9 with ⟨a9, b9, c9⟩ | ⟨a9, b9, c9⟩
    · exact Or.inl ⟨a9, b9⟩
    · exact Or.inr ⟨a9, b9⟩
  have rs4 : 0 ≤ sl ∧ sl ≤ 4 := by omega
  have rh4 : 0 ≤ ho ∧ ho ≤ 24 := by omega
  have hay7 : zAt ad (i + 16) (ad (i + 16)) := rfl
  have hay8 : zAt ad (i + 17) (ad (i + 17)) := rfl
  have hay9 : zAt ad (i + 18) (ad (i + 18)) := rfl
  have hay10 : zAt ad (i + 19) (ad (i + 19)) := rfl
  have hay11 : zAt ad (i + 20) (ad (i + 20)) := rfl
  have hay12 : zAt ad (i + 21) (ad (i + 21)) := rfl
  have hay13 : zAt ad (i + 22) (ad (i + 22)) := rfl
  have hay14 : zAt ad (i + 23) (ad (i + 23)) := rfl
  have htbr : ∀ k, k < 15 → -1 ≤ tb1 k ∧ tb1 k ≤ 9999 := fun k hk => by have h9 := htb1 k hk; omega
  have hw37 : F 37 = 6 := hk.2.2.2.2.2.2.1.trans hwd
  refine z_of (by decide) (Nat.le_of_ble_eq_true rfl) ?_
  intro pZ eZ sZ mZ below meth cZ C hr hlk hnm
  refine z_lv (lv' := [(0, .ref (ad i))]) [0] rfl ?_
  refine z_aload_n C 0 dX10_table1_0 rfl ?_
  refine z_get (v := .int (zI (6))) C (lt_A0 hN rfl) hay1 hg rfl inA_X10 37 (by decide) q_1496 rfl (fv (F := F) (f := 37) hw37) dX10_table1_1 ?_
  refine z_bipush (z := 6) C dX10_table1_4 (by decide) ?_
  refine z_isub C dX10_table1_6 ?_
  refine z_istore_n (lv' := [(1, .int (zI (6 - 6))), (0, .ref (ad i))]) C dX10_table1_7 rfl (by decide) rfl ?_
  refine z_aload_n C 1 dX10_table1_8 rfl ?_
  have htvy15 : tkR T n F f := hk
  refine z_cV (As := []) (rest := []) (ci := 12) C (c_yGo l D A cs tt N ad _ i hN _ hg _ ha13 T n hn hTb hTt htp (tk_to T n f) (tk_to_b htvy15.1.1).2.1 htvy15.2.1 htvy15.2.2.2.1 htvy15.2.2.2.2.2.2.2) (lt_A0 hN rfl) hay1 hg rfl rfl mv_yX10_go q_1656 hd_yX10_go (by decide) (Nat.le_of_ble_eq_true rfl) (by decide) dX10_table1_9 rfl (kV0 fun gvy15 hvy15 => ?_)
  obtain ⟨⟨Fvy15, hcvy15, hjvy15, hFvy15⟩, hfvy15⟩ := hvy15
  have hkvy15 : tkR T n Fvy15 (tk_nx T n f) := hjvy15
  have hnbvy15 := tk_nx_s (T := T) (n := n) (f := f) hfl
  clear hjvy15
  have hsry16 := srt_b T n (tk_nx T n f)
  have hvly17 := vlu_b hTb (tk_nx T n f)
  have hwby18 := tk_w_b T n (tk_nx T n f)
  have hfny19 := hkvy15.1
  refine z_aload_n C 1 dX10_table1_12 rfl ?_
  refine z_aload_n C 1 dX10_table1_13 rfl ?_
  have hgy21 := (hfvy15 (i + 13) (ne_o (i := i) (c := 13) (d := 0) rfl)).trans ha13
  refine z_cV (As := []) (rest := [.ref (ad i)]) (ci := 12) C (c_yIsKind l D A cs tt N ad _ i hN _ hcvy15 tp T n hn hTb hTt htp (tk_nx T n f) hkvy15) (lt_A0 hN rfl) hay1 hcvy15 rfl rfl mv_yX10_isKind q_1697 hd_yX10_isKind (by decide) (Nat.le_of_ble_eq_true rfl) (by decide) dX10_table1_14 rfl (kI0 fun vy20 gvy20 hvy20 => ?_)
  obtain ⟨hvy20, rfl⟩ := hvy20
  rcases hvy20 with ⟨rfl, hxvy20⟩ | ⟨rfl, hxvy20⟩
  · refine z_iconst (z := 1) C dX10_table1_17 rfl ?_
    have h33vy22 : Fvy15 33 = ((tk_nx T n f) : Int) := hkvy15.2.2.1
    have h24vy22 : Fvy15 24 = F 24 := (hFvy15 24 (by decide) (by decide) (by decide) (by decide) (by decide))
    have htvy22 : tkR T n Fvy15 (tk_nx T n f) := hkvy15
    refine z_cV (As := [.int (zI (1)), .int (zI (1))]) (rest := []) (ci := 12) C (c_yWants l D A cs tt N ad _ i hN _ hcvy15 ((hFvy15 38 (by decide) (by decide) (by decide) (by decide) (by decide)).trans h38) (1) (by omega) (1) (by omega)) (lt_A0 hN rfl) hay1 hcvy15 rfl rfl mv_yX10_wants q_1682 hd_yX10_wants (by decide) (Nat.le_of_ble_eq_true rfl) (by decide) dX10_table1_18 rfl (kI0 fun vy22 gvy22 hvy22 => ?_)
    obtain ⟨⟨Fvy22, hcvy22, hqvy22, hFvy22⟩, hfvy22⟩ := hvy22
    obtain ⟨rfl, hevy22, hbvy22⟩ : vy22 = 1 ∧ Fvy22 38 = 0 ∧ Fvy22 24 = F 24 := by omega
    clear hqvy22 h33vy22 h24vy22
    have hkvy22 : tkR T n Fvy22 (tk_nx T n f) := tkR.w htvy22 hFvy22 (by omega)
    refine z_if_ne (tgt := 25) C dX10_table1_21 (by decide) (by omega) (fun _ => ?_) (fun h => absurd h (by omega))
    refine z_iconst (z := 5) C dX10_table1_25 rfl ?_
    refine z_iload_n C 0 dX10_table1_26 rfl ?_
    refine z_imul C dX10_table1_27 ?_
    refine z_aload_n C 1 dX10_table1_28 rfl ?_
    have hgy24 := (hfvy22 (i + 13) (ne_o (i := i) (c := 13) (d := 0) rfl)).trans hgy21
    refine z_cV (As := []) (rest := [.int (zI (5 * (6 - 6)))]) (ci := 12) C (c_yKindHere l D A cs tt N ad _ i hN _ hcvy22 tp T n hn hTb hTt htp (tk_nx T n f) hkvy22 hxvy20) (lt_A0 hN rfl) hay1 hcvy22 rfl rfl mv_yX10_kindHere q_1701 hd_yX10_kindHere (by decide) (Nat.le_of_ble_eq_true rfl) (by decide) dX10_table1_29 rfl (kI0 fun vy23 gvy23 hvy23 => ?_)
    obtain ⟨rfl, rfl⟩ := hvy23
    have hkbvy23 : 0 ≤ tk_kd T n (tk_nx T n f) ∧ tk_kd T n (tk_nx T n f) ≤ 4 := by have hkc := tk_kd_c T n (tk_nx T n f); omega
    refine z_iadd C dX10_table1_32 ?_
    obtain ⟨kty25, hkty25⟩ : ∃ n9 : Nat, (5 * (6 - 6)) + (tk_kd T n (tk_nx T n f)) = (n9 : Int) := ⟨((5 * (6 - 6)) + (tk_kd T n (tk_nx T n f))).toNat, by omega⟩
    rw [hkty25]
    refine z_istore_n (lv' := [(2, .int (zI ((kty25 : Int)))), (1, .int (zI (6 - 6))), (0, .ref (ad i))]) C dX10_table1_33 rfl (by decide) rfl ?_
    refine z_aload_n C 2 dX10_table1_34 rfl ?_
    refine z_aload_n C 2 dX10_table1_35 rfl ?_
    refine z_get (v := .ref (ad (i + 22))) C (lt_A0 hN rfl) hay1 hcvy22 rfl inA_X10 45 (by decide) q_1504 rfl rfl dX10_table1_36 ?_
    refine z_iload_n C 0 dX10_table1_39 rfl ?_
    have hgy26 := (hfvy15 (i + 22) (ne_o (i := i) (c := 22) (d := 0) rfl)).trans ha22
    have hgy27 := (hfvy22 (i + 22) (ne_o (i := i) (c := 22) (d := 0) rfl)).trans hgy26
    refine z_iald C (lt_A (c := 22) hN rfl) hay13 hgy27 (kty25) (by omega) (by omega) (by decide) dX10_table1_40 ?_
    have hrfy28 := htbr (kty25) (by omega)
    refine z_iconst (z := -1) C dX10_table1_41 rfl ?_
    refine z_icmp_ne (tgt := 49) C dX10_table1_42 (by decide) (by omega) (by omega) (fun hby29 => ?_) (fun hby29 => ?_)
    · have hscy30 : (B (0 + tk_kd T n (tk_nx T n f)).toNat = 1) := by rw [show (0 + tk_kd T n (tk_nx T n f)).toNat = kty25 by omega]; have h9 := rtb kty25 (by omega); omega
      refine z_iconst (z := 0) C dX10_table1_49 rfl ?_
      refine z_iconst (z := 4) C dX10_table1_50 rfl ?_
      have h33vy32 : Fvy22 33 = ((tk_nx T n f) : Int) := ((hFvy22 33 (by decide) (by decide)).trans hkvy15.2.2.1)
      have h24vy32 : Fvy22 24 = F 24 := hbvy22
      have htvy32 : tkR T n Fvy22 (tk_nx T n f) := hkvy22
      refine z_cV (As := [.int (zI (0)), .int (zI (4))]) (rest := []) (ci := 12) C (c_yWants l D A cs tt N ad _ i hN _ hcvy22 hevy22 (0) (by omega) (4) (by omega)) (lt_A0 hN rfl) hay1 hcvy22 rfl rfl mv_yX10_wants q_1682 hd_yX10_wants (by decide) (Nat.le_of_ble_eq_true rfl) (by decide) dX10_table1_51 rfl (kI0 fun vy32 gvy32 hvy32 => ?_)
      obtain ⟨⟨Fvy32, hcvy32, hqvy32, hFvy32⟩, hfvy32⟩ := hvy32
      obtain ⟨rfl, hevy32, hbvy32⟩ : vy32 = 0 ∧ Fvy32 38 = 4 ∧ Fvy32 24 = ((tk_nx T n f) : Int) := by omega
      clear hqvy32 h33vy32 h24vy32
      have hkvy32 : tkR T n Fvy32 (tk_nx T n f) := tkR.w htvy32 hFvy32 (by omega)
      refine z_if_ne (tgt := 58) C dX10_table1_54 (by decide) (by omega) (fun h => absurd h (by omega)) (fun _ => ?_)
      have hFy33 : ∀ f, f ≠ 24 → f ≠ 32 → f ≠ 33 → f ≠ 35 → f ≠ 36 → f ≠ 37 → f ≠ 38 → f ≠ 47 → f ≠ 48 → f ≠ 49 → Fvy32 f = F f := fun f n24 n32 n33 n35 n36 n37 n38 n47 n48 n49 => ((hFvy32 f n24 n38).trans ((hFvy22 f n24 n38).trans (hFvy15 f n32 n33 n35 n36 n37)))
      have htky34 : tkR T n Fvy32 (tk_nx T n f) := hkvy32
      have htoy35 := tk_to_w (T := T) (n := n) (f := (tk_nx T n f)) htky34.1.1
      have h32y36 := htky34.2.1
      have hey37 : Fvy32 24 = ((tk_nx T n f) : Int) := hbvy32
      have hey38 : Fvy32 38 = 4 := hevy32
      have hey39 : Fvy32 47 = sl := ((hFvy32 47 (by decide) (by decide)).trans ((hFvy22 47 (by decide) (by decide)).trans ((hFvy15 47 (by decide) (by decide) (by decide) (by decide) (by decide)).trans r47)))
      have hey40 : Fvy32 48 = ho := ((hFvy32 48 (by decide) (by decide)).trans ((hFvy22 48 (by decide) (by decide)).trans ((hFvy15 48 (by decide) (by decide) (by decide) (by decide) (by decide)).trans r48)))
      have hey41 : Fvy32 49 = nm := ((hFvy32 49 (by decide) (by decide)).trans ((hFvy22 49 (by decide) (by decide)).trans ((hFvy15 49 (by decide) (by decide) (by decide) (by decide) (by decide)).trans r49)))
      have hlay43 : ∀ s l : Nat, (s : Int) < Fvy32 47 → (l : Int) < mn1 s → lyT ly1 (84 * s + 7 * l) := by
        intro s l a1 a2
        have hm9 := hmn1 s (by omega)
        exact hly1 s l (by omega) a2
      have hgy44 := (hfvy15 (i + 16) (ne_o (i := i) (c := 16) (d := 0) rfl)).trans ha16
      have hgy45 := (hfvy22 (i + 16) (ne_o (i := i) (c := 16) (d := 0) rfl)).trans hgy44
      have hgy46 := (hfvy32 (i + 16) (ne_o (i := i) (c := 16) (d := 0) rfl)).trans hgy45
      have hgy47 := (hfvy15 (i + 17) (ne_o (i := i) (c := 17) (d := 0) rfl)).trans ha17
      have hgy48 := (hfvy22 (i + 17) (ne_o (i := i) (c := 17) (d := 0) rfl)).trans hgy47
      have hgy49 := (hfvy32 (i + 17) (ne_o (i := i) (c := 17) (d := 0) rfl)).trans hgy48
      have hgy50 := (hfvy15 (i + 18) (ne_o (i := i) (c := 18) (d := 0) rfl)).trans ha18
      have hgy51 := (hfvy22 (i + 18) (ne_o (i := i) (c := 18) (d := 0) rfl)).trans hgy50
      have hgy52 := (hfvy32 (i + 18) (ne_o (i := i) (c := 18) (d := 0) rfl)).trans hgy51
      have hgy53 := (hfvy15 (i + 19) (ne_o (i := i) (c := 19) (d := 0) rfl)).trans ha19
      have hgy54 := (hfvy22 (i + 19) (ne_o (i := i) (c := 19) (d := 0) rfl)).trans hgy53
      have hgy55 := (hfvy32 (i + 19) (ne_o (i := i) (c := 19) (d := 0) rfl)).trans hgy54
      have hgy56 := (hfvy15 (i + 20) (ne_o (i := i) (c := 20) (d := 0) rfl)).trans ha20
      have hgy57 := (hfvy22 (i + 20) (ne_o (i := i) (c := 20) (d := 0) rfl)).trans hgy56
      have hgy58 := (hfvy32 (i + 20) (ne_o (i := i) (c := 20) (d := 0) rfl)).trans hgy57
      have hgy59 := (hfvy15 (i + 21) (ne_o (i := i) (c := 21) (d := 0) rfl)).trans ha21
      have hgy60 := (hfvy22 (i + 21) (ne_o (i := i) (c := 21) (d := 0) rfl)).trans hgy59
      have hgy61 := (hfvy32 (i + 21) (ne_o (i := i) (c := 21) (d := 0) rfl)).trans hgy60
      have hgy62 := (hfvy32 (i + 22) (ne_o (i := i) (c := 22) (d := 0) rfl)).trans hgy27
      have hgy63 := (hfvy15 (i + 23) (ne_o (i := i) (c := 23) (d := 0) rfl)).trans ha23
      have hgy64 := (hfvy22 (i + 23) (ne_o (i := i) (c := 23) (d := 0) rfl)).trans hgy63
      have hgy65 := (hfvy32 (i + 23) (ne_o (i := i) (c := 23) (d := 0) rfl)).trans hgy64
      have htxy66 : okTx cs gvy32 i Fvy32 := ⟨_, _, _, _, _, _, _, _, ⟨hgy46, hgy49, hgy52, hgy55, hgy58, hgy61, hgy62, hgy65⟩, ⟨⟨by omega, by omega, by omega⟩, hop1, hmn1, hai1, hfa1, htb1, hlay43⟩⟩
      exact z_vret C hr hlk dX10_table1_57 (by decide) (by decide) ⟨rfl, rfl, rfl, ⟨_, hcvy32, hFy33, Or.inr ⟨(4, (tk_nx T n f)), by simp only [cl_table, if_neg hxvy20, if_pos hscy30], by show Fvy32 38 = 4; omega, by show Fvy32 24 = (((tk_nx T n f) : Nat) : Int); omega, by show 1 ≤ 4 ∧ 4 ≤ 5; omega, ⟨_, htky34⟩, htxy66⟩⟩, fun j j1 j2 => by rw [hfvy32 _ (by omega)]; rw [hfvy22 _ (by omega)]; rw [hfvy15 _ (by omega)]⟩
    · have hscy31 : ¬ (B (0 + tk_kd T n (tk_nx T n f)).toNat = 1) := by rw [show (0 + tk_kd T n (tk_nx T n f)).toNat = kty25 by omega]; have h9 := rtb kty25 (by omega); omega
      refine z_iconst (z := 1) C dX10_table1_45 rfl ?_
      refine z_goto (tgt := 50) C dX10_table1_46 (by decide) ?_
      refine z_iconst (z := 4) C dX10_table1_50 rfl ?_
      have h33vy67 : Fvy22 33 = ((tk_nx T n f) : Int) := ((hFvy22 33 (by decide) (by decide)).trans hkvy15.2.2.1)
      have h24vy67 : Fvy22 24 = F 24 := hbvy22
      have htvy67 : tkR T n Fvy22 (tk_nx T n f) := hkvy22
      refine z_cV (As := [.int (zI (1)), .int (zI (4))]) (rest := []) (ci := 12) C (c_yWants l D A cs tt N ad _ i hN _ hcvy22 hevy22 (1) (by omega) (4) (by omega)) (lt_A0 hN rfl) hay1 hcvy22 rfl rfl mv_yX10_wants q_1682 hd_yX10_wants (by decide) (Nat.le_of_ble_eq_true rfl) (by decide) dX10_table1_51 rfl (kI0 fun vy67 gvy67 hvy67 => ?_)
      obtain ⟨⟨Fvy67, hcvy67, hqvy67, hFvy67⟩, hfvy67⟩ := hvy67
      obtain ⟨rfl, hevy67, hbvy67⟩ : vy67 = 1 ∧ Fvy67 38 = 0 ∧ Fvy67 24 = F 24 := by omega
      clear hqvy67 h33vy67 h24vy67
      have hkvy67 : tkR T n Fvy67 (tk_nx T n f) := tkR.w htvy67 hFvy67 (by omega)
      refine z_if_ne (tgt := 58) C dX10_table1_54 (by decide) (by omega) (fun _ => ?_) (fun h => absurd h (by omega))
      refine z_aload_n C 2 dX10_table1_58 rfl ?_
      have hgy68 := (hfvy67 (i + 13) (ne_o (i := i) (c := 13) (d := 0) rfl)).trans hgy24
      have htvy69 : tkR T n Fvy67 (tk_nx T n f) := hkvy67
      refine z_cV (As := []) (rest := []) (ci := 12) C (c_yGo l D A cs tt N ad _ i hN _ hcvy67 _ hgy68 T n hn hTb hTt htp (tk_to T n (tk_nx T n f)) (tk_to_b htvy69.1.1).2.1 htvy69.2.1 htvy69.2.2.2.1 htvy69.2.2.2.2.2.2.2) (lt_A0 hN rfl) hay1 hcvy67 rfl rfl mv_yX10_go q_1656 hd_yX10_go (by decide) (Nat.le_of_ble_eq_true rfl) (by decide) dX10_table1_59 rfl (kV0 fun gvy69 hvy69 => ?_)
      obtain ⟨⟨Fvy69, hcvy69, hjvy69, hFvy69⟩, hfvy69⟩ := hvy69
      have hkvy69 : tkR T n Fvy69 (tk_nx T n (tk_nx T n f)) := hjvy69
      have hnbvy69 := tk_nx_w (T := T) (n := n) (f := (tk_nx T n f)) htvy69.1.1
      clear hjvy69
      have hsry70 := srt_b T n (tk_nx T n (tk_nx T n f))
      have hvly71 := vlu_b hTb (tk_nx T n (tk_nx T n f))
      have hwby72 := tk_w_b T n (tk_nx T n (tk_nx T n f))
      have hfny73 := hkvy69.1
      refine z_aload_n C 2 dX10_table1_62 rfl ?_
      refine z_get (v := .ref (ad (i + 22))) C (lt_A0 hN rfl) hay1 hcvy69 rfl inA_X10 45 (by decide) q_1504 rfl rfl dX10_table1_63 ?_
      refine z_iload_n C 0 dX10_table1_66 rfl ?_
      refine z_aload_n C 2 dX10_table1_67 rfl ?_
      refine z_iload_n C 1 dX10_table1_68 rfl ?_
      refine z_iconst (z := 2) C dX10_table1_69 rfl ?_
      refine z_icmp_ne (tgt := 77) C dX10_table1_70 (by decide) (by omega) (by omega) (fun _ => ?_) (fun h => absurd h (by omega))
      refine z_iconst (z := 0) C dX10_table1_77 rfl ?_
      refine z_iload_n C 1 dX10_table1_78 rfl ?_
      refine z_iconst (z := 2) C dX10_table1_79 rfl ?_
      refine z_icmp_ne (tgt := 89) C dX10_table1_80 (by decide) (by omega) (by omega) (fun _ => ?_) (fun h => absurd h (by omega))
      refine z_bipush (z := 99) C dX10_table1_89 (by decide) ?_
      have hgy74 := (hfvy69 (i + 13) (ne_o (i := i) (c := 13) (d := 0) rfl)).trans hgy68
      have h24vy75 : Fvy69 24 = F 24 := ((hFvy69 24 (by decide) (by decide) (by decide) (by decide) (by decide)).trans hbvy67)
      refine z_cV (As := [.int (zI (0)), .int (zI (99))]) (rest := [.int (zI ((kty25 : Int))), .ref (ad (i + 22))]) (ci := 12) C (c_yNumber l D A cs tt N ad _ i hN _ hcvy69 _ hgy74 T n hn hTb hTt htp (tk_nx T n (tk_nx T n f)) hkvy69 ((hFvy69 38 (by decide) (by decide) (by decide) (by decide) (by decide)).trans hevy67) (0) (by omega) (99) (by omega)) (lt_A0 hN rfl) hay1 hcvy69 rfl rfl mv_yX10_number q_1686 hd_yX10_number (by decide) (Nat.le_of_ble_eq_true rfl) (by decide) dX10_table1_91 rfl (kI0 fun vy75 gvy75 hvy75 => ?_)
      obtain ⟨⟨Fvy75, hcvy75, hqvy75, hFvy75⟩, hfvy75⟩ := hvy75
      rcases hqvy75 with hqvy75 | hqvy75
      · obtain ⟨hnvy75, hrvy75, hltvy75, hevy75, hb0vy75, hkvy75⟩ := hqvy75
        have hbvy75 : Fvy75 24 = F 24 := hb0vy75.trans h24vy75
        have hnbvy75 := tk_nx_s (T := T) (n := n) (f := (tk_nx T n (tk_nx T n f))) hltvy75
        clear hb0vy75 h24vy75
        have hsry76 := srt_b T n (tk_nx T n (tk_nx T n (tk_nx T n f)))
        have hvly77 := vlu_b hTb (tk_nx T n (tk_nx T n (tk_nx T n f)))
        have hwby78 := tk_w_b T n (tk_nx T n (tk_nx T n (tk_nx T n f)))
        have hfny79 := hkvy75.1
        have hgy80 := (hfvy67 (i + 22) (ne_o (i := i) (c := 22) (d := 0) rfl)).trans hgy27
        have hgy81 := (hfvy69 (i + 22) (ne_o (i := i) (c := 22) (d := 0) rfl)).trans hgy80
        have hgy82 := (hfvy75 (i + 22) (ne_o (i := i) (c := 22) (d := 0) rfl)).trans hgy81
        refine z_iast C (lt_A (c := 22) hN rfl) hay13 hgy82 (kty25) (by omega) (by omega) (by decide) dX10_table1_94 (fun gy83 egy84 => ?_)
        have hgy85 := up_s egy84
        obtain ⟨ry86, hvy87⟩ : ∃ rZ9 : Nat → Int, rZ9 = uZ tb1 (kty25) (vy75) := ⟨_, rfl⟩
        rw [← hvy87] at hgy85
        have hgy88 := up_n egy84 hcvy75 (ne_o (i := i) (c := 0) (d := 22) rfl)
        have hFy89 : ∀ f, f ≠ 24 → f ≠ 32 → f ≠ 33 → f ≠ 35 → f ≠ 36 → f ≠ 37 → f ≠ 38 → f ≠ 47 → f ≠ 48 → f ≠ 49 → Fvy75 f = F f := fun f n24 n32 n33 n35 n36 n37 n38 n47 n48 n49 => ((hFvy75 f n24 n32 n33 n35 n36 n37 n38).trans ((hFvy69 f n32 n33 n35 n36 n37).trans ((hFvy67 f n24 n38).trans ((hFvy22 f n24 n38).trans (hFvy15 f n32 n33 n35 n36 n37)))))
        have htky90 : tkR T n Fvy75 (tk_nx T n (tk_nx T n (tk_nx T n f))) := hkvy75
        have htoy91 := tk_to_w (T := T) (n := n) (f := (tk_nx T n (tk_nx T n (tk_nx T n f)))) htky90.1.1
        have h32y92 := htky90.2.1
        have hey93 : Fvy75 24 = F 24 := hbvy75
        have hey94 : Fvy75 38 = 0 := hevy75
        have hey95 : Fvy75 47 = sl := ((hFvy75 47 (by decide) (by decide) (by decide) (by decide) (by decide) (by decide) (by decide)).trans ((hFvy69 47 (by decide) (by decide) (by decide) (by decide) (by decide)).trans ((hFvy67 47 (by decide) (by decide)).trans ((hFvy22 47 (by decide) (by decide)).trans ((hFvy15 47 (by decide) (by decide) (by decide) (by decide) (by decide)).trans r47)))))
        have hey96 : Fvy75 48 = ho := ((hFvy75 48 (by decide) (by decide) (by decide) (by decide) (by decide) (by decide) (by decide)).trans ((hFvy69 48 (by decide) (by decide) (by decide) (by decide) (by decide)).trans ((hFvy67 48 (by decide) (by decide)).trans ((hFvy22 48 (by decide) (by decide)).trans ((hFvy15 48 (by decide) (by decide) (by decide) (by decide) (by decide)).trans r48)))))
        have hey97 : Fvy75 49 = nm := ((hFvy75 49 (by decide) (by decide) (by decide) (by decide) (by decide) (by decide) (by decide)).trans ((hFvy69 49 (by decide) (by decide) (by decide) (by decide) (by decide)).trans ((hFvy67 49 (by decide) (by decide)).trans ((hFvy22 49 (by decide) (by decide)).trans ((hFvy15 49 (by decide) (by decide) (by decide) (by decide) (by decide)).trans r49)))))
        have hfry100 : ∀ j, j ≠ kty25 → ry86 j = tb1 j := fun j n0 => (congrFun hvy87 _).trans ((uZ_n _ _ n0).trans (rfl))
        have hwy101 : ry86 (kty25) = vy75 := (congrFun hvy87 _).trans (uZ_s _ _ _)
        have haky99 : ∀ k, k < 15 → ry86 k = -1 ∨ ((0 ≤ ry86 k ∧ ry86 k ≤ 9999) ∧ (10 ≤ k → 1 ≤ ry86 k)) := by
          intro k hk
          by_cases e : k = kty25
          · rw [e]; have hk0 := htb1 (kty25) (by omega); omega
          · have hk0 := htb1 k hk; rw [hfry100 k e]; exact hk0
        have hlay102 : ∀ s l : Nat, (s : Int) < Fvy75 47 → (l : Int) < mn1 s → lyT ly1 (84 * s + 7 * l) := by
          intro s l a1 a2
          have hm9 := hmn1 s (by omega)
          exact hly1 s l (by omega) a2
        have hgy103 := (hfvy15 (i + 16) (ne_o (i := i) (c := 16) (d := 0) rfl)).trans ha16
        have hgy104 := (hfvy22 (i + 16) (ne_o (i := i) (c := 16) (d := 0) rfl)).trans hgy103
        have hgy105 := (hfvy67 (i + 16) (ne_o (i := i) (c := 16) (d := 0) rfl)).trans hgy104
        have hgy106 := (hfvy69 (i + 16) (ne_o (i := i) (c := 16) (d := 0) rfl)).trans hgy105
        have hgy107 := (hfvy75 (i + 16) (ne_o (i := i) (c := 16) (d := 0) rfl)).trans hgy106
        have hgy108 := up_n egy84 hgy107 (ne_o (i := i) (c := 16) (d := 22) rfl)
        have hgy109 := (hfvy15 (i + 17) (ne_o (i := i) (c := 17) (d := 0) rfl)).trans ha17
        have hgy110 := (hfvy22 (i + 17) (ne_o (i := i) (c := 17) (d := 0) rfl)).trans hgy109
        have hgy111 := (hfvy67 (i + 17) (ne_o (i := i) (c := 17) (d := 0) rfl)).trans hgy110
        have hgy112 := (hfvy69 (i + 17) (ne_o (i := i) (c := 17) (d := 0) rfl)).trans hgy111
        have hgy113 := (hfvy75 (i + 17) (ne_o (i := i) (c := 17) (d := 0) rfl)).trans hgy112
        have hgy114 := up_n egy84 hgy113 (ne_o (i := i) (c := 17) (d := 22) rfl)
        have hgy115 := (hfvy15 (i + 18) (ne_o (i := i) (c := 18) (d := 0) rfl)).trans ha18
        have hgy116 := (hfvy22 (i + 18) (ne_o (i := i) (c := 18) (d := 0) rfl)).trans hgy115
        have hgy117 := (hfvy67 (i + 18) (ne_o (i := i) (c := 18) (d := 0) rfl)).trans hgy116
        have hgy118 := (hfvy69 (i + 18) (ne_o (i := i) (c := 18) (d := 0) rfl)).trans hgy117
        have hgy119 := (hfvy75 (i + 18) (ne_o (i := i) (c := 18) (d := 0) rfl)).trans hgy118
        have hgy120 := up_n egy84 hgy119 (ne_o (i := i) (c := 18) (d := 22) rfl)
        have hgy121 := (hfvy15 (i + 19) (ne_o (i := i) (c := 19) (d := 0) rfl)).trans ha19
        have hgy122 := (hfvy22 (i + 19) (ne_o (i := i) (c := 19) (d := 0) rfl)).trans hgy121
        have hgy123 := (hfvy67 (i + 19) (ne_o (i := i) (c := 19) (d := 0) rfl)).trans hgy122
        have hgy124 := (hfvy69 (i + 19) (ne_o (i := i) (c := 19) (d := 0) rfl)).trans hgy123
        have hgy125 := (hfvy75 (i + 19) (ne_o (i := i) (c := 19) (d := 0) rfl)).trans hgy124
        have hgy126 := up_n egy84 hgy125 (ne_o (i := i) (c := 19) (d := 22) rfl)
        have hgy127 := (hfvy15 (i + 20) (ne_o (i := i) (c := 20) (d := 0) rfl)).trans ha20
        have hgy128 := (hfvy22 (i + 20) (ne_o (i := i) (c := 20) (d := 0) rfl)).trans hgy127
        have hgy129 := (hfvy67 (i + 20) (ne_o (i := i) (c := 20) (d := 0) rfl)).trans hgy128
        have hgy130 := (hfvy69 (i + 20) (ne_o (i := i) (c := 20) (d := 0) rfl)).trans hgy129
        have hgy131 := (hfvy75 (i + 20) (ne_o (i := i) (c := 20) (d := 0) rfl)).trans hgy130
        have hgy132 := up_n egy84 hgy131 (ne_o (i := i) (c := 20) (d := 22) rfl)
        have hgy133 := (hfvy15 (i + 21) (ne_o (i := i) (c := 21) (d := 0) rfl)).trans ha21
        have hgy134 := (hfvy22 (i + 21) (ne_o (i := i) (c := 21) (d := 0) rfl)).trans hgy133
        have hgy135 := (hfvy67 (i + 21) (ne_o (i := i) (c := 21) (d := 0) rfl)).trans hgy134
        have hgy136 := (hfvy69 (i + 21) (ne_o (i := i) (c := 21) (d := 0) rfl)).trans hgy135
        have hgy137 := (hfvy75 (i + 21) (ne_o (i := i) (c := 21) (d := 0) rfl)).trans hgy136
        have hgy138 := up_n egy84 hgy137 (ne_o (i := i) (c := 21) (d := 22) rfl)
        have hgy139 := (hfvy15 (i + 23) (ne_o (i := i) (c := 23) (d := 0) rfl)).trans ha23
        have hgy140 := (hfvy22 (i + 23) (ne_o (i := i) (c := 23) (d := 0) rfl)).trans hgy139
        have hgy141 := (hfvy67 (i + 23) (ne_o (i := i) (c := 23) (d := 0) rfl)).trans hgy140
        have hgy142 := (hfvy69 (i + 23) (ne_o (i := i) (c := 23) (d := 0) rfl)).trans hgy141
        have hgy143 := (hfvy75 (i + 23) (ne_o (i := i) (c := 23) (d := 0) rfl)).trans hgy142
        have hgy144 := up_n egy84 hgy143 (ne_o (i := i) (c := 23) (d := 22) rfl)
        have hfry145 : ∀ j, j ≠ kty25 → ry86 j = tb1 j := fun j n0 => (congrFun hvy87 _).trans ((uZ_n _ _ n0).trans (rfl))
        have hwy146 : ry86 (kty25) = vy75 := (congrFun hvy87 _).trans (uZ_s _ _ _)
        have hxty147 : xTx cs gy83 i Fvy75 _ := ⟨_, _, _, _, _, _, _, _, ⟨hgy108, hgy114, hgy120, hgy126, hgy132, hgy138, hgy85, hgy144⟩, ⟨⟨by omega, by omega, by omega⟩, hop1, hmn1, hai1, hfa1, haky99, hlay102⟩, rT.table (v1 := 0 + tk_kd T n (tk_nx T n f)) (a := vy75) hrT (kty25) (by omega) (by omega) ⟨by show Fvy75 47 = sl; omega, by show Fvy75 48 = ho; omega, by show Fvy75 49 = nm; omega⟩ hfry145 (by omega)⟩
        exact z_vret C hr hlk dX10_table1_95 (by decide) (by decide) ⟨rfl, rfl, rfl, ⟨_, hgy88, hFy89, Or.inl ⟨_, by simp only [cl_table, if_neg hxvy20, if_neg hscy31, hnvy75]; rfl, by omega, by omega, by show f < (tk_nx T n (tk_nx T n (tk_nx T n f))); omega, htky90, hxty147⟩⟩, fun j j1 j2 => by rw [egy84, va_up_ne _ _ (by omega)]; rw [hfvy75 _ (by omega)]; rw [hfvy69 _ (by omega)]; rw [hfvy67 _ (by omega)]; rw [hfvy22 _ (by omega)]; rw [hfvy15 _ (by omega)]⟩
      · obtain ⟨rfl, cvy75, hrvy75, hnvy75, hevy75, hbvy75, hkvy75⟩ := hqvy75
        clear h24vy75
        have hsry148 := srt_b T n (tk_nx T n (tk_nx T n f))
        have hvly149 := vlu_b hTb (tk_nx T n (tk_nx T n f))
        have hwby150 := tk_w_b T n (tk_nx T n (tk_nx T n f))
        have hfny151 := hkvy75.1
        have hgy152 := (hfvy67 (i + 22) (ne_o (i := i) (c := 22) (d := 0) rfl)).trans hgy27
        have hgy153 := (hfvy69 (i + 22) (ne_o (i := i) (c := 22) (d := 0) rfl)).trans hgy152
        have hgy154 := (hfvy75 (i + 22) (ne_o (i := i) (c := 22) (d := 0) rfl)).trans hgy153
        refine z_iast C (lt_A (c := 22) hN rfl) hay13 hgy154 (kty25) (by omega) (by omega) (by decide) dX10_table1_94 (fun gy155 egy156 => ?_)
        have hgy157 := up_s egy156
        obtain ⟨ry158, hvy159⟩ : ∃ rZ9 : Nat → Int, rZ9 = uZ tb1 (kty25) (0) := ⟨_, rfl⟩
        rw [← hvy159] at hgy157
        have hgy160 := up_n egy156 hcvy75 (ne_o (i := i) (c := 0) (d := 22) rfl)
        have hFy161 : ∀ f, f ≠ 24 → f ≠ 32 → f ≠ 33 → f ≠ 35 → f ≠ 36 → f ≠ 37 → f ≠ 38 → f ≠ 47 → f ≠ 48 → f ≠ 49 → Fvy75 f = F f := fun f n24 n32 n33 n35 n36 n37 n38 n47 n48 n49 => ((hFvy75 f n24 n32 n33 n35 n36 n37 n38).trans ((hFvy69 f n32 n33 n35 n36 n37).trans ((hFvy67 f n24 n38).trans ((hFvy22 f n24 n38).trans (hFvy15 f n32 n33 n35 n36 n37)))))
        have htky162 : tkR T n Fvy75 (tk_nx T n (tk_nx T n f)) := hkvy75
        have htoy163 := tk_to_w (T := T) (n := n) (f := (tk_nx T n (tk_nx T n f))) htky162.1.1
        have h32y164 := htky162.2.1
        have hey165 : Fvy75 24 = ((tk_nx T n (tk_nx T n f)) : Int) := hbvy75
        have hey166 : Fvy75 38 = cvy75 := hevy75
        have hey167 : Fvy75 47 = sl := ((hFvy75 47 (by decide) (by decide) (by decide) (by decide) (by decide) (by decide) (by decide)).trans ((hFvy69 47 (by decide) (by decide) (by decide) (by decide) (by decide)).trans ((hFvy67 47 (by decide) (by decide)).trans ((hFvy22 47 (by decide) (by decide)).trans ((hFvy15 47 (by decide) (by decide) (by decide) (by decide) (by decide)).trans r47)))))
        have hey168 : Fvy75 48 = ho := ((hFvy75 48 (by decide) (by decide) (by decide) (by decide) (by decide) (by decide) (by decide)).trans ((hFvy69 48 (by decide) (by decide) (by decide) (by decide) (by decide)).trans ((hFvy67 48 (by decide) (by decide)).trans ((hFvy22 48 (by decide) (by decide)).trans ((hFvy15 48 (by decide) (by decide) (by decide) (by decide) (by decide)).trans r48)))))
        have hey169 : Fvy75 49 = nm := ((hFvy75 49 (by decide) (by decide) (by decide) (by decide) (by decide) (by decide) (by decide)).trans ((hFvy69 49 (by decide) (by decide) (by decide) (by decide) (by decide)).trans ((hFvy67 49 (by decide) (by decide)).trans ((hFvy22 49 (by decide) (by decide)).trans ((hFvy15 49 (by decide) (by decide) (by decide) (by decide) (by decide)).trans r49)))))
        have hfry172 : ∀ j, j ≠ kty25 → ry158 j = tb1 j := fun j n0 => (congrFun hvy159 _).trans ((uZ_n _ _ n0).trans (rfl))
        have hwy173 : ry158 (kty25) = 0 := (congrFun hvy159 _).trans (uZ_s _ _ _)
        have haky171 : ∀ k, k < 15 → ry158 k = -1 ∨ ((0 ≤ ry158 k ∧ ry158 k ≤ 9999) ∧ (10 ≤ k → 1 ≤ ry158 k)) := by
          intro k hk
          by_cases e : k = kty25
          · rw [e]; have hk0 := htb1 (kty25) (by omega); omega
          · have hk0 := htb1 k hk; rw [hfry172 k e]; exact hk0
        have hlay174 : ∀ s l : Nat, (s : Int) < Fvy75 47 → (l : Int) < mn1 s → lyT ly1 (84 * s + 7 * l) := by
          intro s l a1 a2
          have hm9 := hmn1 s (by omega)
          exact hly1 s l (by omega) a2
        have hgy175 := (hfvy15 (i + 16) (ne_o (i := i) (c := 16) (d := 0) rfl)).trans ha16
        have hgy176 := (hfvy22 (i + 16) (ne_o (i := i) (c := 16) (d := 0) rfl)).trans hgy175
        have hgy177 := (hfvy67 (i + 16) (ne_o (i := i) (c := 16) (d := 0) rfl)).trans hgy176
        have hgy178 := (hfvy69 (i + 16) (ne_o (i := i) (c := 16) (d := 0) rfl)).trans hgy177
        have hgy179 := (hfvy75 (i + 16) (ne_o (i := i) (c := 16) (d := 0) rfl)).trans hgy178
        have hgy180 := up_n egy156 hgy179 (ne_o (i := i) (c := 16) (d := 22) rfl)
        have hgy181 := (hfvy15 (i + 17) (ne_o (i := i) (c := 17) (d := 0) rfl)).trans ha17
        have hgy182 := (hfvy22 (i + 17) (ne_o (i := i) (c := 17) (d := 0) rfl)).trans hgy181
        have hgy183 := (hfvy67 (i + 17) (ne_o (i := i) (c := 17) (d := 0) rfl)).trans hgy182
        have hgy184 := (hfvy69 (i + 17) (ne_o (i := i) (c := 17) (d := 0) rfl)).trans hgy183
        have hgy185 := (hfvy75 (i + 17) (ne_o (i := i) (c := 17) (d := 0) rfl)).trans hgy184
        have hgy186 := up_n egy156 hgy185 (ne_o (i := i) (c := 17) (d := 22) rfl)
        have hgy187 := (hfvy15 (i + 18) (ne_o (i := i) (c := 18) (d := 0) rfl)).trans ha18
        have hgy188 := (hfvy22 (i + 18) (ne_o (i := i) (c := 18) (d := 0) rfl)).trans hgy187
        have hgy189 := (hfvy67 (i + 18) (ne_o (i := i) (c := 18) (d := 0) rfl)).trans hgy188
        have hgy190 := (hfvy69 (i + 18) (ne_o (i := i) (c := 18) (d := 0) rfl)).trans hgy189
        have hgy191 := (hfvy75 (i + 18) (ne_o (i := i) (c := 18) (d := 0) rfl)).trans hgy190
        have hgy192 := up_n egy156 hgy191 (ne_o (i := i) (c := 18) (d := 22) rfl)
        have hgy193 := (hfvy15 (i + 19) (ne_o (i := i) (c := 19) (d := 0) rfl)).trans ha19
        have hgy194 := (hfvy22 (i + 19) (ne_o (i := i) (c := 19) (d := 0) rfl)).trans hgy193
        have hgy195 := (hfvy67 (i + 19) (ne_o (i := i) (c := 19) (d := 0) rfl)).trans hgy194
        have hgy196 := (hfvy69 (i + 19) (ne_o (i := i) (c := 19) (d := 0) rfl)).trans hgy195
        have hgy197 := (hfvy75 (i + 19) (ne_o (i := i) (c := 19) (d := 0) rfl)).trans hgy196
        have hgy198 := up_n egy156 hgy197 (ne_o (i := i) (c := 19) (d := 22) rfl)
        have hgy199 := (hfvy15 (i + 20) (ne_o (i := i) (c := 20) (d := 0) rfl)).trans ha20
        have hgy200 := (hfvy22 (i + 20) (ne_o (i := i) (c := 20) (d := 0) rfl)).trans hgy199
        have hgy201 := (hfvy67 (i + 20) (ne_o (i := i) (c := 20) (d := 0) rfl)).trans hgy200
        have hgy202 := (hfvy69 (i + 20) (ne_o (i := i) (c := 20) (d := 0) rfl)).trans hgy201
        have hgy203 := (hfvy75 (i + 20) (ne_o (i := i) (c := 20) (d := 0) rfl)).trans hgy202
        have hgy204 := up_n egy156 hgy203 (ne_o (i := i) (c := 20) (d := 22) rfl)
        have hgy205 := (hfvy15 (i + 21) (ne_o (i := i) (c := 21) (d := 0) rfl)).trans ha21
        have hgy206 := (hfvy22 (i + 21) (ne_o (i := i) (c := 21) (d := 0) rfl)).trans hgy205
        have hgy207 := (hfvy67 (i + 21) (ne_o (i := i) (c := 21) (d := 0) rfl)).trans hgy206
        have hgy208 := (hfvy69 (i + 21) (ne_o (i := i) (c := 21) (d := 0) rfl)).trans hgy207
        have hgy209 := (hfvy75 (i + 21) (ne_o (i := i) (c := 21) (d := 0) rfl)).trans hgy208
        have hgy210 := up_n egy156 hgy209 (ne_o (i := i) (c := 21) (d := 22) rfl)
        have hgy211 := (hfvy15 (i + 23) (ne_o (i := i) (c := 23) (d := 0) rfl)).trans ha23
        have hgy212 := (hfvy22 (i + 23) (ne_o (i := i) (c := 23) (d := 0) rfl)).trans hgy211
        have hgy213 := (hfvy67 (i + 23) (ne_o (i := i) (c := 23) (d := 0) rfl)).trans hgy212
        have hgy214 := (hfvy69 (i + 23) (ne_o (i := i) (c := 23) (d := 0) rfl)).trans hgy213
        have hgy215 := (hfvy75 (i + 23) (ne_o (i := i) (c := 23) (d := 0) rfl)).trans hgy214
        have hgy216 := up_n egy156 hgy215 (ne_o (i := i) (c := 23) (d := 22) rfl)
        have htxy217 : okTx cs gy155 i Fvy75 := ⟨_, _, _, _, _, _, _, _, ⟨hgy180, hgy186, hgy192, hgy198, hgy204, hgy210, hgy157, hgy216⟩, ⟨⟨by omega, by omega, by omega⟩, hop1, hmn1, hai1, hfa1, haky171, hlay174⟩⟩
        exact z_vret C hr hlk dX10_table1_95 (by decide) (by decide) ⟨rfl, rfl, rfl, ⟨_, hgy160, hFy161, Or.inr ⟨(cvy75, (tk_nx T n (tk_nx T n f))), by simp only [cl_table, if_neg hxvy20, if_neg hscy31, hnvy75], by show Fvy75 38 = cvy75; omega, by show Fvy75 24 = (((tk_nx T n (tk_nx T n f)) : Nat) : Int); omega, by show 1 ≤ cvy75 ∧ cvy75 ≤ 5; omega, ⟨_, htky162⟩, htxy217⟩⟩, fun j j1 j2 => by rw [egy156, va_up_ne _ _ (by omega)]; rw [hfvy75 _ (by omega)]; rw [hfvy69 _ (by omega)]; rw [hfvy67 _ (by omega)]; rw [hfvy22 _ (by omega)]; rw [hfvy15 _ (by omega)]⟩
  · refine z_iconst (z := 1) C dX10_table1_17 rfl ?_
    have h33vy218 : Fvy15 33 = ((tk_nx T n f) : Int) := hkvy15.2.2.1
    have h24vy218 : Fvy15 24 = F 24 := (hFvy15 24 (by decide) (by decide) (by decide) (by decide) (by decide))
    have htvy218 : tkR T n Fvy15 (tk_nx T n f) := hkvy15
    refine z_cV (As := [.int (zI (0)), .int (zI (1))]) (rest := []) (ci := 12) C (c_yWants l D A cs tt N ad _ i hN _ hcvy15 ((hFvy15 38 (by decide) (by decide) (by decide) (by decide) (by decide)).trans h38) (0) (by omega) (1) (by omega)) (lt_A0 hN rfl) hay1 hcvy15 rfl rfl mv_yX10_wants q_1682 hd_yX10_wants (by decide) (Nat.le_of_ble_eq_true rfl) (by decide) dX10_table1_18 rfl (kI0 fun vy218 gvy218 hvy218 => ?_)
    obtain ⟨⟨Fvy218, hcvy218, hqvy218, hFvy218⟩, hfvy218⟩ := hvy218
    obtain ⟨rfl, hevy218, hbvy218⟩ : vy218 = 0 ∧ Fvy218 38 = 1 ∧ Fvy218 24 = ((tk_nx T n f) : Int) := by omega
    clear hqvy218 h33vy218 h24vy218
    have hkvy218 : tkR T n Fvy218 (tk_nx T n f) := tkR.w htvy218 hFvy218 (by omega)
    refine z_if_ne (tgt := 25) C dX10_table1_21 (by decide) (by omega) (fun h => absurd h (by omega)) (fun _ => ?_)
    have hFy219 : ∀ f, f ≠ 24 → f ≠ 32 → f ≠ 33 → f ≠ 35 → f ≠ 36 → f ≠ 37 → f ≠ 38 → f ≠ 47 → f ≠ 48 → f ≠ 49 → Fvy218 f = F f := fun f n24 n32 n33 n35 n36 n37 n38 n47 n48 n49 => ((hFvy218 f n24 n38).trans (hFvy15 f n32 n33 n35 n36 n37))
    have htky220 : tkR T n Fvy218 (tk_nx T n f) := hkvy218
    have htoy221 := tk_to_w (T := T) (n := n) (f := (tk_nx T n f)) htky220.1.1
    have h32y222 := htky220.2.1
    have hey223 : Fvy218 24 = ((tk_nx T n f) : Int) := hbvy218
    have hey224 : Fvy218 38 = 1 := hevy218
    have hey225 : Fvy218 47 = sl := ((hFvy218 47 (by decide) (by decide)).trans ((hFvy15 47 (by decide) (by decide) (by decide) (by decide) (by decide)).trans r47))
    have hey226 : Fvy218 48 = ho := ((hFvy218 48 (by decide) (by decide)).trans ((hFvy15 48 (by decide) (by decide) (by decide) (by decide) (by decide)).trans r48))
    have hey227 : Fvy218 49 = nm := ((hFvy218 49 (by decide) (by decide)).trans ((hFvy15 49 (by decide) (by decide) (by decide) (by decide) (by decide)).trans r49))
    have hlay229 : ∀ s l : Nat, (s : Int) < Fvy218 47 → (l : Int) < mn1 s → lyT ly1 (84 * s + 7 * l) := by
      intro s l a1 a2
      have hm9 := hmn1 s (by omega)
      exact hly1 s l (by omega) a2
    have hgy230 := (hfvy15 (i + 16) (ne_o (i := i) (c := 16) (d := 0) rfl)).trans ha16
    have hgy231 := (hfvy218 (i + 16) (ne_o (i := i) (c := 16) (d := 0) rfl)).trans hgy230
    have hgy232 := (hfvy15 (i + 17) (ne_o (i := i) (c := 17) (d := 0) rfl)).trans ha17
    have hgy233 := (hfvy218 (i + 17) (ne_o (i := i) (c := 17) (d := 0) rfl)).trans hgy232
    have hgy234 := (hfvy15 (i + 18) (ne_o (i := i) (c := 18) (d := 0) rfl)).trans ha18
    have hgy235 := (hfvy218 (i + 18) (ne_o (i := i) (c := 18) (d := 0) rfl)).trans hgy234
    have hgy236 := (hfvy15 (i + 19) (ne_o (i := i) (c := 19) (d := 0) rfl)).trans ha19
    have hgy237 := (hfvy218 (i + 19) (ne_o (i := i) (c := 19) (d := 0) rfl)).trans hgy236
    have hgy238 := (hfvy15 (i + 20) (ne_o (i := i) (c := 20) (d := 0) rfl)).trans ha20
    have hgy239 := (hfvy218 (i + 20) (ne_o (i := i) (c := 20) (d := 0) rfl)).trans hgy238
    have hgy240 := (hfvy15 (i + 21) (ne_o (i := i) (c := 21) (d := 0) rfl)).trans ha21
    have hgy241 := (hfvy218 (i + 21) (ne_o (i := i) (c := 21) (d := 0) rfl)).trans hgy240
    have hgy242 := (hfvy15 (i + 22) (ne_o (i := i) (c := 22) (d := 0) rfl)).trans ha22
    have hgy243 := (hfvy218 (i + 22) (ne_o (i := i) (c := 22) (d := 0) rfl)).trans hgy242
    have hgy244 := (hfvy15 (i + 23) (ne_o (i := i) (c := 23) (d := 0) rfl)).trans ha23
    have hgy245 := (hfvy218 (i + 23) (ne_o (i := i) (c := 23) (d := 0) rfl)).trans hgy244
    have htxy246 : okTx cs gvy218 i Fvy218 := ⟨_, _, _, _, _, _, _, _, ⟨hgy231, hgy233, hgy235, hgy237, hgy239, hgy241, hgy243, hgy245⟩, ⟨⟨by omega, by omega, by omega⟩, hop1, hmn1, hai1, hfa1, htb1, hlay229⟩⟩
    exact z_vret C hr hlk dX10_table1_24 (by decide) (by decide) ⟨rfl, rfl, rfl, ⟨_, hcvy218, hFy219, Or.inr ⟨(1, (tk_nx T n f)), by simp only [cl_table, if_pos hxvy20], by show Fvy218 38 = 1; omega, by show Fvy218 24 = (((tk_nx T n f) : Nat) : Int); omega, by show 1 ≤ 1 ∧ 1 ≤ 5; omega, ⟨_, htky220⟩, htxy246⟩⟩, fun j j1 j2 => by rw [hfvy218 _ (by omega)]; rw [hfvy15 _ (by omega)]⟩

set_option maxRecDepth 100000 in
set_option maxHeartbeats 4000000 in
theorem c_yTable1 (l : Launch) (D : va_G) (A : Nat → Prop) (cs : Nat → ClassId) (tt : Nat) (N : Nat) (ad : Nat → Nat) (g : Nat → va_E) (i : Nat) (hN : i + 30 ≤ N) (F : Nat → Int) (hg : g i = mC ad i F) (tp : Nat → Int) (ha13 : g (i + 13) = iA cs 900 tp) (T : Nat → Int) (n : Nat) (hn : n ≤ 900) (hTb : ∀ k, k < n → 0 ≤ T k ∧ T k ≤ 255) (hTt : ∀ k, k < n → tp k = T k) (htp : ∀ k, k < 900 → 0 ≤ tp k ∧ tp k ≤ 255) (f : Nat) (hk : tkR T n F f) (h38 : F 38 = 0) (hfl : f < n) (sl ho nm : Int) (mn st op ai fa mu tb B : Nat → Int) (Lz : Nat → Nat → Int) (hX : xTx cs g i F (sl, ho, nm, mn, st, op, ai, fa, mu, tb, B, Lz)) (hwd : tk_w T n f = 7) : zM l yX10_table1 cX10_table1 3 none ({ frames := 5, cells := 0, slots := 0, locals := 300 } : Room) D A cs tt N ad g [.ref (ad i)] (rV0 N ad fun g' => (∃ F' : Nat → Int, g' i = mC ad i F' ∧ (∀ f, f ≠ 24 → f ≠ 32 → f ≠ 33 → f ≠ 35 → f ≠ 36 → f ≠ 37 → f ≠ 38 → f ≠ 47 → f ≠ 48 → f ≠ 49 → F' f = F f) ∧ ((∃ v, cl_table T n B 5 0 99 f = .ok v ∧ F' 38 = 0 ∧ F' 24 = F 24 ∧ f < v.2 ∧ tkR T n F' v.2 ∧ xTx cs g' i F' (sl, ho, nm, mn, st, op, ai, fa, mu, uZ tb v.1.1.toNat v.1.2, uZ B v.1.1.toNat 1, Lz)) ∨ (∃ e : Int × Nat, cl_table T n B 5 0 99 f = .error e ∧ F' 38 = e.1 ∧ F' 24 = (e.2 : Int) ∧ (1 ≤ e.1 ∧ e.1 ≤ 5) ∧ (∃ f9, tkR T n F' f9) ∧ okTx cs g' i F'))) ∧ ∀ j, j ≠ i → j < i + 16 ∨ i + 23 < j → g' j = g j) := by
  have hay1 : zAt ad (i) (ad i) := rfl
  have hay2 : zAt ad (i + 13) (ad (i + 13)) := rfl
  have hsry3 := srt_b T n f
  have hvly4 := vlu_b hTb f
  have hwby5 := tk_w_b T n f
  have hfny6 := hk.1
  obtain ⟨st1, op1, mn1, ai1, fa1, mu1, tb1, ly1, ⟨ha16, ha17, ha18, ha19, ha20, ha21, ha22, ha23⟩, ⟨⟨t47, t48, t49⟩, hop1, hmn1, hai1, hfa1, htb1, hly1⟩, hrT⟩ := hX
  have r47 : F 47 = sl := hrT.1.1
  have r48 : F 48 = ho := hrT.1.2.1
  have r49 : F 49 = nm := hrT.1.2.2
  have r32 : F 32 = ((tk_to T n f : Nat) : Int) := hk.2.1
  have hto0 := tk_to_nx (T := T) (n := n) (f := f) hk.1.1
  have rsl : ∀ k : Nat, (k : Int) < sl → mn1 k = mn k := fun k h9 => (hrT.2.1 k h9).2.2
  have rtb : ∀ k : Nat, k < 15 → (tb1 k = -1 ∧ B k = 0) ∨ (0 ≤ tb1 k ∧ B k = 1) := fun k h9 => by
    rcases hrT.2.2.2.1 k h9 with ⟨a9, b9, c9⟩ | ⟨a9, b9, c9⟩
    · exact Or.inl ⟨a9, b9⟩
    · exact Or.inr ⟨a9, b9⟩
  have rs4 : 0 ≤ sl ∧ sl ≤ 4 := by omega
  have rh4 : 0 ≤ ho ∧ ho ≤ 24 := by omega
  have hay7 : zAt ad (i + 16) (ad (i + 16)) := rfl
  have hay8 : zAt ad (i + 17) (ad (i + 17)) := rfl
  have hay9 : zAt ad (i + 18) (ad (i + 18)) := rfl
  have hay10 : zAt ad (i + 19) (ad (i + 19)) := rfl
  have hay11 : zAt ad (i + 20) (ad (i + 20)) := rfl
  have hay12 : zAt ad (i + 21) (ad (i + 21)) := rfl
  have hay13 : zAt ad (i + 22) (ad (i + 22)) := rfl
  have hay14 : zAt ad (i + 23) (ad (i + 23)) := rfl
  have htbr : ∀ k, k < 15 → -1 ≤ tb1 k ∧ tb1 k ≤ 9999 := fun k hk => by have h9 := htb1 k hk; omega
  have hw37 : F 37 = 7 := hk.2.2.2.2.2.2.1.trans hwd
  refine z_of (by decide) (Nat.le_of_ble_eq_true rfl) ?_
  intro pZ eZ sZ mZ below meth cZ C hr hlk hnm
  refine z_lv (lv' := [(0, .ref (ad i))]) [0] rfl ?_
  refine z_aload_n C 0 dX10_table1_0 rfl ?_
  refine z_get (v := .int (zI (7))) C (lt_A0 hN rfl) hay1 hg rfl inA_X10 37 (by decide) q_1496 rfl (fv (F := F) (f := 37) hw37) dX10_table1_1 ?_
  refine z_bipush (z := 6) C dX10_table1_4 (by decide) ?_
  refine z_isub C dX10_table1_6 ?_
  refine z_istore_n (lv' := [(1, .int (zI (7 - 6))), (0, .ref (ad i))]) C dX10_table1_7 rfl (by decide) rfl ?_
  refine z_aload_n C 1 dX10_table1_8 rfl ?_
  have htvy15 : tkR T n F f := hk
  refine z_cV (As := []) (rest := []) (ci := 12) C (c_yGo l D A cs tt N ad _ i hN _ hg _ ha13 T n hn hTb hTt htp (tk_to T n f) (tk_to_b htvy15.1.1).2.1 htvy15.2.1 htvy15.2.2.2.1 htvy15.2.2.2.2.2.2.2) (lt_A0 hN rfl) hay1 hg rfl rfl mv_yX10_go q_1656 hd_yX10_go (by decide) (Nat.le_of_ble_eq_true rfl) (by decide) dX10_table1_9 rfl (kV0 fun gvy15 hvy15 => ?_)
  obtain ⟨⟨Fvy15, hcvy15, hjvy15, hFvy15⟩, hfvy15⟩ := hvy15
  have hkvy15 : tkR T n Fvy15 (tk_nx T n f) := hjvy15
  have hnbvy15 := tk_nx_s (T := T) (n := n) (f := f) hfl
  clear hjvy15
  have hsry16 := srt_b T n (tk_nx T n f)
  have hvly17 := vlu_b hTb (tk_nx T n f)
  have hwby18 := tk_w_b T n (tk_nx T n f)
  have hfny19 := hkvy15.1
  refine z_aload_n C 1 dX10_table1_12 rfl ?_
  refine z_aload_n C 1 dX10_table1_13 rfl ?_
  have hgy21 := (hfvy15 (i + 13) (ne_o (i := i) (c := 13) (d := 0) rfl)).trans ha13
  refine z_cV (As := []) (rest := [.ref (ad i)]) (ci := 12) C (c_yIsKind l D A cs tt N ad _ i hN _ hcvy15 tp T n hn hTb hTt htp (tk_nx T n f) hkvy15) (lt_A0 hN rfl) hay1 hcvy15 rfl rfl mv_yX10_isKind q_1697 hd_yX10_isKind (by decide) (Nat.le_of_ble_eq_true rfl) (by decide) dX10_table1_14 rfl (kI0 fun vy20 gvy20 hvy20 => ?_)
  obtain ⟨hvy20, rfl⟩ := hvy20
  rcases hvy20 with ⟨rfl, hxvy20⟩ | ⟨rfl, hxvy20⟩
  · refine z_iconst (z := 1) C dX10_table1_17 rfl ?_
    have h33vy22 : Fvy15 33 = ((tk_nx T n f) : Int) := hkvy15.2.2.1
    have h24vy22 : Fvy15 24 = F 24 := (hFvy15 24 (by decide) (by decide) (by decide) (by decide) (by decide))
    have htvy22 : tkR T n Fvy15 (tk_nx T n f) := hkvy15
    refine z_cV (As := [.int (zI (1)), .int (zI (1))]) (rest := []) (ci := 12) C (c_yWants l D A cs tt N ad _ i hN _ hcvy15 ((hFvy15 38 (by decide) (by decide) (by decide) (by decide) (by decide)).trans h38) (1) (by omega) (1) (by omega)) (lt_A0 hN rfl) hay1 hcvy15 rfl rfl mv_yX10_wants q_1682 hd_yX10_wants (by decide) (Nat.le_of_ble_eq_true rfl) (by decide) dX10_table1_18 rfl (kI0 fun vy22 gvy22 hvy22 => ?_)
    obtain ⟨⟨Fvy22, hcvy22, hqvy22, hFvy22⟩, hfvy22⟩ := hvy22
    obtain ⟨rfl, hevy22, hbvy22⟩ : vy22 = 1 ∧ Fvy22 38 = 0 ∧ Fvy22 24 = F 24 := by omega
    clear hqvy22 h33vy22 h24vy22
    have hkvy22 : tkR T n Fvy22 (tk_nx T n f) := tkR.w htvy22 hFvy22 (by omega)
    refine z_if_ne (tgt := 25) C dX10_table1_21 (by decide) (by omega) (fun _ => ?_) (fun h => absurd h (by omega))
    refine z_iconst (z := 5) C dX10_table1_25 rfl ?_
    refine z_iload_n C 0 dX10_table1_26 rfl ?_
    refine z_imul C dX10_table1_27 ?_
    refine z_aload_n C 1 dX10_table1_28 rfl ?_
    have hgy24 := (hfvy22 (i + 13) (ne_o (i := i) (c := 13) (d := 0) rfl)).trans hgy21
    refine z_cV (As := []) (rest := [.int (zI (5 * (7 - 6)))]) (ci := 12) C (c_yKindHere l D A cs tt N ad _ i hN _ hcvy22 tp T n hn hTb hTt htp (tk_nx T n f) hkvy22 hxvy20) (lt_A0 hN rfl) hay1 hcvy22 rfl rfl mv_yX10_kindHere q_1701 hd_yX10_kindHere (by decide) (Nat.le_of_ble_eq_true rfl) (by decide) dX10_table1_29 rfl (kI0 fun vy23 gvy23 hvy23 => ?_)
    obtain ⟨rfl, rfl⟩ := hvy23
    have hkbvy23 : 0 ≤ tk_kd T n (tk_nx T n f) ∧ tk_kd T n (tk_nx T n f) ≤ 4 := by have hkc := tk_kd_c T n (tk_nx T n f); omega
    refine z_iadd C dX10_table1_32 ?_
    obtain ⟨kty25, hkty25⟩ : ∃ n9 : Nat, (5 * (7 - 6)) + (tk_kd T n (tk_nx T n f)) = (n9 : Int) := ⟨((5 * (7 - 6)) + (tk_kd T n (tk_nx T n f))).toNat, by omega⟩
    rw [hkty25]
    refine z_istore_n (lv' := [(2, .int (zI ((kty25 : Int)))), (1, .int (zI (7 - 6))), (0, .ref (ad i))]) C dX10_table1_33 rfl (by decide) rfl ?_
    refine z_aload_n C 2 dX10_table1_34 rfl ?_
    refine z_aload_n C 2 dX10_table1_35 rfl ?_
    refine z_get (v := .ref (ad (i + 22))) C (lt_A0 hN rfl) hay1 hcvy22 rfl inA_X10 45 (by decide) q_1504 rfl rfl dX10_table1_36 ?_
    refine z_iload_n C 0 dX10_table1_39 rfl ?_
    have hgy26 := (hfvy15 (i + 22) (ne_o (i := i) (c := 22) (d := 0) rfl)).trans ha22
    have hgy27 := (hfvy22 (i + 22) (ne_o (i := i) (c := 22) (d := 0) rfl)).trans hgy26
    refine z_iald C (lt_A (c := 22) hN rfl) hay13 hgy27 (kty25) (by omega) (by omega) (by decide) dX10_table1_40 ?_
    have hrfy28 := htbr (kty25) (by omega)
    refine z_iconst (z := -1) C dX10_table1_41 rfl ?_
    refine z_icmp_ne (tgt := 49) C dX10_table1_42 (by decide) (by omega) (by omega) (fun hby29 => ?_) (fun hby29 => ?_)
    · have hscy30 : (B (5 + tk_kd T n (tk_nx T n f)).toNat = 1) := by rw [show (5 + tk_kd T n (tk_nx T n f)).toNat = kty25 by omega]; have h9 := rtb kty25 (by omega); omega
      refine z_iconst (z := 0) C dX10_table1_49 rfl ?_
      refine z_iconst (z := 4) C dX10_table1_50 rfl ?_
      have h33vy32 : Fvy22 33 = ((tk_nx T n f) : Int) := ((hFvy22 33 (by decide) (by decide)).trans hkvy15.2.2.1)
      have h24vy32 : Fvy22 24 = F 24 := hbvy22
      have htvy32 : tkR T n Fvy22 (tk_nx T n f) := hkvy22
      refine z_cV (As := [.int (zI (0)), .int (zI (4))]) (rest := []) (ci := 12) C (c_yWants l D A cs tt N ad _ i hN _ hcvy22 hevy22 (0) (by omega) (4) (by omega)) (lt_A0 hN rfl) hay1 hcvy22 rfl rfl mv_yX10_wants q_1682 hd_yX10_wants (by decide) (Nat.le_of_ble_eq_true rfl) (by decide) dX10_table1_51 rfl (kI0 fun vy32 gvy32 hvy32 => ?_)
      obtain ⟨⟨Fvy32, hcvy32, hqvy32, hFvy32⟩, hfvy32⟩ := hvy32
      obtain ⟨rfl, hevy32, hbvy32⟩ : vy32 = 0 ∧ Fvy32 38 = 4 ∧ Fvy32 24 = ((tk_nx T n f) : Int) := by omega
      clear hqvy32 h33vy32 h24vy32
      have hkvy32 : tkR T n Fvy32 (tk_nx T n f) := tkR.w htvy32 hFvy32 (by omega)
      refine z_if_ne (tgt := 58) C dX10_table1_54 (by decide) (by omega) (fun h => absurd h (by omega)) (fun _ => ?_)
      have hFy33 : ∀ f, f ≠ 24 → f ≠ 32 → f ≠ 33 → f ≠ 35 → f ≠ 36 → f ≠ 37 → f ≠ 38 → f ≠ 47 → f ≠ 48 → f ≠ 49 → Fvy32 f = F f := fun f n24 n32 n33 n35 n36 n37 n38 n47 n48 n49 => ((hFvy32 f n24 n38).trans ((hFvy22 f n24 n38).trans (hFvy15 f n32 n33 n35 n36 n37)))
      have htky34 : tkR T n Fvy32 (tk_nx T n f) := hkvy32
      have htoy35 := tk_to_w (T := T) (n := n) (f := (tk_nx T n f)) htky34.1.1
      have h32y36 := htky34.2.1
      have hey37 : Fvy32 24 = ((tk_nx T n f) : Int) := hbvy32
      have hey38 : Fvy32 38 = 4 := hevy32
      have hey39 : Fvy32 47 = sl := ((hFvy32 47 (by decide) (by decide)).trans ((hFvy22 47 (by decide) (by decide)).trans ((hFvy15 47 (by decide) (by decide) (by decide) (by decide) (by decide)).trans r47)))
      have hey40 : Fvy32 48 = ho := ((hFvy32 48 (by decide) (by decide)).trans ((hFvy22 48 (by decide) (by decide)).trans ((hFvy15 48 (by decide) (by decide) (by decide) (by decide) (by decide)).trans r48)))
      have hey41 : Fvy32 49 = nm := ((hFvy32 49 (by decide) (by decide)).trans ((hFvy22 49 (by decide) (by decide)).trans ((hFvy15 49 (by decide) (by decide) (by decide) (by decide) (by decide)).trans r49)))
      have hlay43 : ∀ s l : Nat, (s : Int) < Fvy32 47 → (l : Int) < mn1 s → lyT ly1 (84 * s + 7 * l) := by
        intro s l a1 a2
        have hm9 := hmn1 s (by omega)
        exact hly1 s l (by omega) a2
      have hgy44 := (hfvy15 (i + 16) (ne_o (i := i) (c := 16) (d := 0) rfl)).trans ha16
      have hgy45 := (hfvy22 (i + 16) (ne_o (i := i) (c := 16) (d := 0) rfl)).trans hgy44
      have hgy46 := (hfvy32 (i + 16) (ne_o (i := i) (c := 16) (d := 0) rfl)).trans hgy45
      have hgy47 := (hfvy15 (i + 17) (ne_o (i := i) (c := 17) (d := 0) rfl)).trans ha17
      have hgy48 := (hfvy22 (i + 17) (ne_o (i := i) (c := 17) (d := 0) rfl)).trans hgy47
      have hgy49 := (hfvy32 (i + 17) (ne_o (i := i) (c := 17) (d := 0) rfl)).trans hgy48
      have hgy50 := (hfvy15 (i + 18) (ne_o (i := i) (c := 18) (d := 0) rfl)).trans ha18
      have hgy51 := (hfvy22 (i + 18) (ne_o (i := i) (c := 18) (d := 0) rfl)).trans hgy50
      have hgy52 := (hfvy32 (i + 18) (ne_o (i := i) (c := 18) (d := 0) rfl)).trans hgy51
      have hgy53 := (hfvy15 (i + 19) (ne_o (i := i) (c := 19) (d := 0) rfl)).trans ha19
      have hgy54 := (hfvy22 (i + 19) (ne_o (i := i) (c := 19) (d := 0) rfl)).trans hgy53
      have hgy55 := (hfvy32 (i + 19) (ne_o (i := i) (c := 19) (d := 0) rfl)).trans hgy54
      have hgy56 := (hfvy15 (i + 20) (ne_o (i := i) (c := 20) (d := 0) rfl)).trans ha20
      have hgy57 := (hfvy22 (i + 20) (ne_o (i := i) (c := 20) (d := 0) rfl)).trans hgy56
      have hgy58 := (hfvy32 (i + 20) (ne_o (i := i) (c := 20) (d := 0) rfl)).trans hgy57
      have hgy59 := (hfvy15 (i + 21) (ne_o (i := i) (c := 21) (d := 0) rfl)).trans ha21
      have hgy60 := (hfvy22 (i + 21) (ne_o (i := i) (c := 21) (d := 0) rfl)).trans hgy59
      have hgy61 := (hfvy32 (i + 21) (ne_o (i := i) (c := 21) (d := 0) rfl)).trans hgy60
      have hgy62 := (hfvy32 (i + 22) (ne_o (i := i) (c := 22) (d := 0) rfl)).trans hgy27
      have hgy63 := (hfvy15 (i + 23) (ne_o (i := i) (c := 23) (d := 0) rfl)).trans ha23
      have hgy64 := (hfvy22 (i + 23) (ne_o (i := i) (c := 23) (d := 0) rfl)).trans hgy63
      have hgy65 := (hfvy32 (i + 23) (ne_o (i := i) (c := 23) (d := 0) rfl)).trans hgy64
      have htxy66 : okTx cs gvy32 i Fvy32 := ⟨_, _, _, _, _, _, _, _, ⟨hgy46, hgy49, hgy52, hgy55, hgy58, hgy61, hgy62, hgy65⟩, ⟨⟨by omega, by omega, by omega⟩, hop1, hmn1, hai1, hfa1, htb1, hlay43⟩⟩
      exact z_vret C hr hlk dX10_table1_57 (by decide) (by decide) ⟨rfl, rfl, rfl, ⟨_, hcvy32, hFy33, Or.inr ⟨(4, (tk_nx T n f)), by simp only [cl_table, if_neg hxvy20, if_pos hscy30], by show Fvy32 38 = 4; omega, by show Fvy32 24 = (((tk_nx T n f) : Nat) : Int); omega, by show 1 ≤ 4 ∧ 4 ≤ 5; omega, ⟨_, htky34⟩, htxy66⟩⟩, fun j j1 j2 => by rw [hfvy32 _ (by omega)]; rw [hfvy22 _ (by omega)]; rw [hfvy15 _ (by omega)]⟩
    · have hscy31 : ¬ (B (5 + tk_kd T n (tk_nx T n f)).toNat = 1) := by rw [show (5 + tk_kd T n (tk_nx T n f)).toNat = kty25 by omega]; have h9 := rtb kty25 (by omega); omega
      refine z_iconst (z := 1) C dX10_table1_45 rfl ?_
      refine z_goto (tgt := 50) C dX10_table1_46 (by decide) ?_
      refine z_iconst (z := 4) C dX10_table1_50 rfl ?_
      have h33vy67 : Fvy22 33 = ((tk_nx T n f) : Int) := ((hFvy22 33 (by decide) (by decide)).trans hkvy15.2.2.1)
      have h24vy67 : Fvy22 24 = F 24 := hbvy22
      have htvy67 : tkR T n Fvy22 (tk_nx T n f) := hkvy22
      refine z_cV (As := [.int (zI (1)), .int (zI (4))]) (rest := []) (ci := 12) C (c_yWants l D A cs tt N ad _ i hN _ hcvy22 hevy22 (1) (by omega) (4) (by omega)) (lt_A0 hN rfl) hay1 hcvy22 rfl rfl mv_yX10_wants q_1682 hd_yX10_wants (by decide) (Nat.le_of_ble_eq_true rfl) (by decide) dX10_table1_51 rfl (kI0 fun vy67 gvy67 hvy67 => ?_)
      obtain ⟨⟨Fvy67, hcvy67, hqvy67, hFvy67⟩, hfvy67⟩ := hvy67
      obtain ⟨rfl, hevy67, hbvy67⟩ : vy67 = 1 ∧ Fvy67 38 = 0 ∧ Fvy67 24 = F 24 := by omega
      clear hqvy67 h33vy67 h24vy67
      have hkvy67 : tkR T n Fvy67 (tk_nx T n f) := tkR.w htvy67 hFvy67 (by omega)
      refine z_if_ne (tgt := 58) C dX10_table1_54 (by decide) (by omega) (fun _ => ?_) (fun h => absurd h (by omega))
      refine z_aload_n C 2 dX10_table1_58 rfl ?_
      have hgy68 := (hfvy67 (i + 13) (ne_o (i := i) (c := 13) (d := 0) rfl)).trans hgy24
      have htvy69 : tkR T n Fvy67 (tk_nx T n f) := hkvy67
      refine z_cV (As := []) (rest := []) (ci := 12) C (c_yGo l D A cs tt N ad _ i hN _ hcvy67 _ hgy68 T n hn hTb hTt htp (tk_to T n (tk_nx T n f)) (tk_to_b htvy69.1.1).2.1 htvy69.2.1 htvy69.2.2.2.1 htvy69.2.2.2.2.2.2.2) (lt_A0 hN rfl) hay1 hcvy67 rfl rfl mv_yX10_go q_1656 hd_yX10_go (by decide) (Nat.le_of_ble_eq_true rfl) (by decide) dX10_table1_59 rfl (kV0 fun gvy69 hvy69 => ?_)
      obtain ⟨⟨Fvy69, hcvy69, hjvy69, hFvy69⟩, hfvy69⟩ := hvy69
      have hkvy69 : tkR T n Fvy69 (tk_nx T n (tk_nx T n f)) := hjvy69
      have hnbvy69 := tk_nx_w (T := T) (n := n) (f := (tk_nx T n f)) htvy69.1.1
      clear hjvy69
      have hsry70 := srt_b T n (tk_nx T n (tk_nx T n f))
      have hvly71 := vlu_b hTb (tk_nx T n (tk_nx T n f))
      have hwby72 := tk_w_b T n (tk_nx T n (tk_nx T n f))
      have hfny73 := hkvy69.1
      refine z_aload_n C 2 dX10_table1_62 rfl ?_
      refine z_get (v := .ref (ad (i + 22))) C (lt_A0 hN rfl) hay1 hcvy69 rfl inA_X10 45 (by decide) q_1504 rfl rfl dX10_table1_63 ?_
      refine z_iload_n C 0 dX10_table1_66 rfl ?_
      refine z_aload_n C 2 dX10_table1_67 rfl ?_
      refine z_iload_n C 1 dX10_table1_68 rfl ?_
      refine z_iconst (z := 2) C dX10_table1_69 rfl ?_
      refine z_icmp_ne (tgt := 77) C dX10_table1_70 (by decide) (by omega) (by omega) (fun _ => ?_) (fun h => absurd h (by omega))
      refine z_iconst (z := 0) C dX10_table1_77 rfl ?_
      refine z_iload_n C 1 dX10_table1_78 rfl ?_
      refine z_iconst (z := 2) C dX10_table1_79 rfl ?_
      refine z_icmp_ne (tgt := 89) C dX10_table1_80 (by decide) (by omega) (by omega) (fun _ => ?_) (fun h => absurd h (by omega))
      refine z_bipush (z := 99) C dX10_table1_89 (by decide) ?_
      have hgy74 := (hfvy69 (i + 13) (ne_o (i := i) (c := 13) (d := 0) rfl)).trans hgy68
      have h24vy75 : Fvy69 24 = F 24 := ((hFvy69 24 (by decide) (by decide) (by decide) (by decide) (by decide)).trans hbvy67)
      refine z_cV (As := [.int (zI (0)), .int (zI (99))]) (rest := [.int (zI ((kty25 : Int))), .ref (ad (i + 22))]) (ci := 12) C (c_yNumber l D A cs tt N ad _ i hN _ hcvy69 _ hgy74 T n hn hTb hTt htp (tk_nx T n (tk_nx T n f)) hkvy69 ((hFvy69 38 (by decide) (by decide) (by decide) (by decide) (by decide)).trans hevy67) (0) (by omega) (99) (by omega)) (lt_A0 hN rfl) hay1 hcvy69 rfl rfl mv_yX10_number q_1686 hd_yX10_number (by decide) (Nat.le_of_ble_eq_true rfl) (by decide) dX10_table1_91 rfl (kI0 fun vy75 gvy75 hvy75 => ?_)
      obtain ⟨⟨Fvy75, hcvy75, hqvy75, hFvy75⟩, hfvy75⟩ := hvy75
      rcases hqvy75 with hqvy75 | hqvy75
      · obtain ⟨hnvy75, hrvy75, hltvy75, hevy75, hb0vy75, hkvy75⟩ := hqvy75
        have hbvy75 : Fvy75 24 = F 24 := hb0vy75.trans h24vy75
        have hnbvy75 := tk_nx_s (T := T) (n := n) (f := (tk_nx T n (tk_nx T n f))) hltvy75
        clear hb0vy75 h24vy75
        have hsry76 := srt_b T n (tk_nx T n (tk_nx T n (tk_nx T n f)))
        have hvly77 := vlu_b hTb (tk_nx T n (tk_nx T n (tk_nx T n f)))
        have hwby78 := tk_w_b T n (tk_nx T n (tk_nx T n (tk_nx T n f)))
        have hfny79 := hkvy75.1
        have hgy80 := (hfvy67 (i + 22) (ne_o (i := i) (c := 22) (d := 0) rfl)).trans hgy27
        have hgy81 := (hfvy69 (i + 22) (ne_o (i := i) (c := 22) (d := 0) rfl)).trans hgy80
        have hgy82 := (hfvy75 (i + 22) (ne_o (i := i) (c := 22) (d := 0) rfl)).trans hgy81
        refine z_iast C (lt_A (c := 22) hN rfl) hay13 hgy82 (kty25) (by omega) (by omega) (by decide) dX10_table1_94 (fun gy83 egy84 => ?_)
        have hgy85 := up_s egy84
        obtain ⟨ry86, hvy87⟩ : ∃ rZ9 : Nat → Int, rZ9 = uZ tb1 (kty25) (vy75) := ⟨_, rfl⟩
        rw [← hvy87] at hgy85
        have hgy88 := up_n egy84 hcvy75 (ne_o (i := i) (c := 0) (d := 22) rfl)
        have hFy89 : ∀ f, f ≠ 24 → f ≠ 32 → f ≠ 33 → f ≠ 35 → f ≠ 36 → f ≠ 37 → f ≠ 38 → f ≠ 47 → f ≠ 48 → f ≠ 49 → Fvy75 f = F f := fun f n24 n32 n33 n35 n36 n37 n38 n47 n48 n49 => ((hFvy75 f n24 n32 n33 n35 n36 n37 n38).trans ((hFvy69 f n32 n33 n35 n36 n37).trans ((hFvy67 f n24 n38).trans ((hFvy22 f n24 n38).trans (hFvy15 f n32 n33 n35 n36 n37)))))
        have htky90 : tkR T n Fvy75 (tk_nx T n (tk_nx T n (tk_nx T n f))) := hkvy75
        have htoy91 := tk_to_w (T := T) (n := n) (f := (tk_nx T n (tk_nx T n (tk_nx T n f)))) htky90.1.1
        have h32y92 := htky90.2.1
        have hey93 : Fvy75 24 = F 24 := hbvy75
        have hey94 : Fvy75 38 = 0 := hevy75
        have hey95 : Fvy75 47 = sl := ((hFvy75 47 (by decide) (by decide) (by decide) (by decide) (by decide) (by decide) (by decide)).trans ((hFvy69 47 (by decide) (by decide) (by decide) (by decide) (by decide)).trans ((hFvy67 47 (by decide) (by decide)).trans ((hFvy22 47 (by decide) (by decide)).trans ((hFvy15 47 (by decide) (by decide) (by decide) (by decide) (by decide)).trans r47)))))
        have hey96 : Fvy75 48 = ho := ((hFvy75 48 (by decide) (by decide) (by decide) (by decide) (by decide) (by decide) (by decide)).trans ((hFvy69 48 (by decide) (by decide) (by decide) (by decide) (by decide)).trans ((hFvy67 48 (by decide) (by decide)).trans ((hFvy22 48 (by decide) (by decide)).trans ((hFvy15 48 (by decide) (by decide) (by decide) (by decide) (by decide)).trans r48)))))
        have hey97 : Fvy75 49 = nm := ((hFvy75 49 (by decide) (by decide) (by decide) (by decide) (by decide) (by decide) (by decide)).trans ((hFvy69 49 (by decide) (by decide) (by decide) (by decide) (by decide)).trans ((hFvy67 49 (by decide) (by decide)).trans ((hFvy22 49 (by decide) (by decide)).trans ((hFvy15 49 (by decide) (by decide) (by decide) (by decide) (by decide)).trans r49)))))
        have hfry100 : ∀ j, j ≠ kty25 → ry86 j = tb1 j := fun j n0 => (congrFun hvy87 _).trans ((uZ_n _ _ n0).trans (rfl))
        have hwy101 : ry86 (kty25) = vy75 := (congrFun hvy87 _).trans (uZ_s _ _ _)
        have haky99 : ∀ k, k < 15 → ry86 k = -1 ∨ ((0 ≤ ry86 k ∧ ry86 k ≤ 9999) ∧ (10 ≤ k → 1 ≤ ry86 k)) := by
          intro k hk
          by_cases e : k = kty25
          · rw [e]; have hk0 := htb1 (kty25) (by omega); omega
          · have hk0 := htb1 k hk; rw [hfry100 k e]; exact hk0
        have hlay102 : ∀ s l : Nat, (s : Int) < Fvy75 47 → (l : Int) < mn1 s → lyT ly1 (84 * s + 7 * l) := by
          intro s l a1 a2
          have hm9 := hmn1 s (by omega)
          exact hly1 s l (by omega) a2
        have hgy103 := (hfvy15 (i + 16) (ne_o (i := i) (c := 16) (d := 0) rfl)).trans ha16
        have hgy104 := (hfvy22 (i + 16) (ne_o (i := i) (c := 16) (d := 0) rfl)).trans hgy103
        have hgy105 := (hfvy67 (i + 16) (ne_o (i := i) (c := 16) (d := 0) rfl)).trans hgy104
        have hgy106 := (hfvy69 (i + 16) (ne_o (i := i) (c := 16) (d := 0) rfl)).trans hgy105
        have hgy107 := (hfvy75 (i + 16) (ne_o (i := i) (c := 16) (d := 0) rfl)).trans hgy106
        have hgy108 := up_n egy84 hgy107 (ne_o (i := i) (c := 16) (d := 22) rfl)
        have hgy109 := (hfvy15 (i + 17) (ne_o (i := i) (c := 17) (d := 0) rfl)).trans ha17
        have hgy110 := (hfvy22 (i + 17) (ne_o (i := i) (c := 17) (d := 0) rfl)).trans hgy109
        have hgy111 := (hfvy67 (i + 17) (ne_o (i := i) (c := 17) (d := 0) rfl)).trans hgy110
        have hgy112 := (hfvy69 (i + 17) (ne_o (i := i) (c := 17) (d := 0) rfl)).trans hgy111
        have hgy113 := (hfvy75 (i + 17) (ne_o (i := i) (c := 17) (d := 0) rfl)).trans hgy112
        have hgy114 := up_n egy84 hgy113 (ne_o (i := i) (c := 17) (d := 22) rfl)
        have hgy115 := (hfvy15 (i + 18) (ne_o (i := i) (c := 18) (d := 0) rfl)).trans ha18
        have hgy116 := (hfvy22 (i + 18) (ne_o (i := i) (c := 18) (d := 0) rfl)).trans hgy115
        have hgy117 := (hfvy67 (i + 18) (ne_o (i := i) (c := 18) (d := 0) rfl)).trans hgy116
        have hgy118 := (hfvy69 (i + 18) (ne_o (i := i) (c := 18) (d := 0) rfl)).trans hgy117
        have hgy119 := (hfvy75 (i + 18) (ne_o (i := i) (c := 18) (d := 0) rfl)).trans hgy118
        have hgy120 := up_n egy84 hgy119 (ne_o (i := i) (c := 18) (d := 22) rfl)
        have hgy121 := (hfvy15 (i + 19) (ne_o (i := i) (c := 19) (d := 0) rfl)).trans ha19
        have hgy122 := (hfvy22 (i + 19) (ne_o (i := i) (c := 19) (d := 0) rfl)).trans hgy121
        have hgy123 := (hfvy67 (i + 19) (ne_o (i := i) (c := 19) (d := 0) rfl)).trans hgy122
        have hgy124 := (hfvy69 (i + 19) (ne_o (i := i) (c := 19) (d := 0) rfl)).trans hgy123
        have hgy125 := (hfvy75 (i + 19) (ne_o (i := i) (c := 19) (d := 0) rfl)).trans hgy124
        have hgy126 := up_n egy84 hgy125 (ne_o (i := i) (c := 19) (d := 22) rfl)
        have hgy127 := (hfvy15 (i + 20) (ne_o (i := i) (c := 20) (d := 0) rfl)).trans ha20
        have hgy128 := (hfvy22 (i + 20) (ne_o (i := i) (c := 20) (d := 0) rfl)).trans hgy127
        have hgy129 := (hfvy67 (i + 20) (ne_o (i := i) (c := 20) (d := 0) rfl)).trans hgy128
        have hgy130 := (hfvy69 (i + 20) (ne_o (i := i) (c := 20) (d := 0) rfl)).trans hgy129
        have hgy131 := (hfvy75 (i + 20) (ne_o (i := i) (c := 20) (d := 0) rfl)).trans hgy130
        have hgy132 := up_n egy84 hgy131 (ne_o (i := i) (c := 20) (d := 22) rfl)
        have hgy133 := (hfvy15 (i + 21) (ne_o (i := i) (c := 21) (d := 0) rfl)).trans ha21
        have hgy134 := (hfvy22 (i + 21) (ne_o (i := i) (c := 21) (d := 0) rfl)).trans hgy133
        have hgy135 := (hfvy67 (i + 21) (ne_o (i := i) (c := 21) (d := 0) rfl)).trans hgy134
        have hgy136 := (hfvy69 (i + 21) (ne_o (i := i) (c := 21) (d := 0) rfl)).trans hgy135
        have hgy137 := (hfvy75 (i + 21) (ne_o (i := i) (c := 21) (d := 0) rfl)).trans hgy136
        have hgy138 := up_n egy84 hgy137 (ne_o (i := i) (c := 21) (d := 22) rfl)
        have hgy139 := (hfvy15 (i + 23) (ne_o (i := i) (c := 23) (d := 0) rfl)).trans ha23
        have hgy140 := (hfvy22 (i + 23) (ne_o (i := i) (c := 23) (d := 0) rfl)).trans hgy139
        have hgy141 := (hfvy67 (i + 23) (ne_o (i := i) (c := 23) (d := 0) rfl)).trans hgy140
        have hgy142 := (hfvy69 (i + 23) (ne_o (i := i) (c := 23) (d := 0) rfl)).trans hgy141
        have hgy143 := (hfvy75 (i + 23) (ne_o (i := i) (c := 23) (d := 0) rfl)).trans hgy142
        have hgy144 := up_n egy84 hgy143 (ne_o (i := i) (c := 23) (d := 22) rfl)
        have hfry145 : ∀ j, j ≠ kty25 → ry86 j = tb1 j := fun j n0 => (congrFun hvy87 _).trans ((uZ_n _ _ n0).trans (rfl))
        have hwy146 : ry86 (kty25) = vy75 := (congrFun hvy87 _).trans (uZ_s _ _ _)
        have hxty147 : xTx cs gy83 i Fvy75 _ := ⟨_, _, _, _, _, _, _, _, ⟨hgy108, hgy114, hgy120, hgy126, hgy132, hgy138, hgy85, hgy144⟩, ⟨⟨by omega, by omega, by omega⟩, hop1, hmn1, hai1, hfa1, haky99, hlay102⟩, rT.table (v1 := 5 + tk_kd T n (tk_nx T n f)) (a := vy75) hrT (kty25) (by omega) (by omega) ⟨by show Fvy75 47 = sl; omega, by show Fvy75 48 = ho; omega, by show Fvy75 49 = nm; omega⟩ hfry145 (by omega)⟩
        exact z_vret C hr hlk dX10_table1_95 (by decide) (by decide) ⟨rfl, rfl, rfl, ⟨_, hgy88, hFy89, Or.inl ⟨_, by simp only [cl_table, if_neg hxvy20, if_neg hscy31, hnvy75]; rfl, by omega, by omega, by show f < (tk_nx T n (tk_nx T n (tk_nx T n f))); omega, htky90, hxty147⟩⟩, fun j j1 j2 => by rw [egy84, va_up_ne _ _ (by omega)]; rw [hfvy75 _ (by omega)]; rw [hfvy69 _ (by omega)]; rw [hfvy67 _ (by omega)]; rw [hfvy22 _ (by omega)]; rw [hfvy15 _ (by omega)]⟩
      · obtain ⟨rfl, cvy75, hrvy75, hnvy75, hevy75, hbvy75, hkvy75⟩ := hqvy75
        clear h24vy75
        have hsry148 := srt_b T n (tk_nx T n (tk_nx T n f))
        have hvly149 := vlu_b hTb (tk_nx T n (tk_nx T n f))
        have hwby150 := tk_w_b T n (tk_nx T n (tk_nx T n f))
        have hfny151 := hkvy75.1
        have hgy152 := (hfvy67 (i + 22) (ne_o (i := i) (c := 22) (d := 0) rfl)).trans hgy27
        have hgy153 := (hfvy69 (i + 22) (ne_o (i := i) (c := 22) (d := 0) rfl)).trans hgy152
        have hgy154 := (hfvy75 (i + 22) (ne_o (i := i) (c := 22) (d := 0) rfl)).trans hgy153
        refine z_iast C (lt_A (c := 22) hN rfl) hay13 hgy154 (kty25) (by omega) (by omega) (by decide) dX10_table1_94 (fun gy155 egy156 => ?_)
        have hgy157 := up_s egy156
        obtain ⟨ry158, hvy159⟩ : ∃ rZ9 : Nat → Int, rZ9 = uZ tb1 (kty25) (0) := ⟨_, rfl⟩
        rw [← hvy159] at hgy157
        have hgy160 := up_n egy156 hcvy75 (ne_o (i := i) (c := 0) (d := 22) rfl)
        have hFy161 : ∀ f, f ≠ 24 → f ≠ 32 → f ≠ 33 → f ≠ 35 → f ≠ 36 → f ≠ 37 → f ≠ 38 → f ≠ 47 → f ≠ 48 → f ≠ 49 → Fvy75 f = F f := fun f n24 n32 n33 n35 n36 n37 n38 n47 n48 n49 => ((hFvy75 f n24 n32 n33 n35 n36 n37 n38).trans ((hFvy69 f n32 n33 n35 n36 n37).trans ((hFvy67 f n24 n38).trans ((hFvy22 f n24 n38).trans (hFvy15 f n32 n33 n35 n36 n37)))))
        have htky162 : tkR T n Fvy75 (tk_nx T n (tk_nx T n f)) := hkvy75
        have htoy163 := tk_to_w (T := T) (n := n) (f := (tk_nx T n (tk_nx T n f))) htky162.1.1
        have h32y164 := htky162.2.1
        have hey165 : Fvy75 24 = ((tk_nx T n (tk_nx T n f)) : Int) := hbvy75
        have hey166 : Fvy75 38 = cvy75 := hevy75
        have hey167 : Fvy75 47 = sl := ((hFvy75 47 (by decide) (by decide) (by decide) (by decide) (by decide) (by decide) (by decide)).trans ((hFvy69 47 (by decide) (by decide) (by decide) (by decide) (by decide)).trans ((hFvy67 47 (by decide) (by decide)).trans ((hFvy22 47 (by decide) (by decide)).trans ((hFvy15 47 (by decide) (by decide) (by decide) (by decide) (by decide)).trans r47)))))
        have hey168 : Fvy75 48 = ho := ((hFvy75 48 (by decide) (by decide) (by decide) (by decide) (by decide) (by decide) (by decide)).trans ((hFvy69 48 (by decide) (by decide) (by decide) (by decide) (by decide)).trans ((hFvy67 48 (by decide) (by decide)).trans ((hFvy22 48 (by decide) (by decide)).trans ((hFvy15 48 (by decide) (by decide) (by decide) (by decide) (by decide)).trans r48)))))
        have hey169 : Fvy75 49 = nm := ((hFvy75 49 (by decide) (by decide) (by decide) (by decide) (by decide) (by decide) (by decide)).trans ((hFvy69 49 (by decide) (by decide) (by decide) (by decide) (by decide)).trans ((hFvy67 49 (by decide) (by decide)).trans ((hFvy22 49 (by decide) (by decide)).trans ((hFvy15 49 (by decide) (by decide) (by decide) (by decide) (by decide)).trans r49)))))
        have hfry172 : ∀ j, j ≠ kty25 → ry158 j = tb1 j := fun j n0 => (congrFun hvy159 _).trans ((uZ_n _ _ n0).trans (rfl))
        have hwy173 : ry158 (kty25) = 0 := (congrFun hvy159 _).trans (uZ_s _ _ _)
        have haky171 : ∀ k, k < 15 → ry158 k = -1 ∨ ((0 ≤ ry158 k ∧ ry158 k ≤ 9999) ∧ (10 ≤ k → 1 ≤ ry158 k)) := by
          intro k hk
          by_cases e : k = kty25
          · rw [e]; have hk0 := htb1 (kty25) (by omega); omega
          · have hk0 := htb1 k hk; rw [hfry172 k e]; exact hk0
        have hlay174 : ∀ s l : Nat, (s : Int) < Fvy75 47 → (l : Int) < mn1 s → lyT ly1 (84 * s + 7 * l) := by
          intro s l a1 a2
          have hm9 := hmn1 s (by omega)
          exact hly1 s l (by omega) a2
        have hgy175 := (hfvy15 (i + 16) (ne_o (i := i) (c := 16) (d := 0) rfl)).trans ha16
        have hgy176 := (hfvy22 (i + 16) (ne_o (i := i) (c := 16) (d := 0) rfl)).trans hgy175
        have hgy177 := (hfvy67 (i + 16) (ne_o (i := i) (c := 16) (d := 0) rfl)).trans hgy176
        have hgy178 := (hfvy69 (i + 16) (ne_o (i := i) (c := 16) (d := 0) rfl)).trans hgy177
        have hgy179 := (hfvy75 (i + 16) (ne_o (i := i) (c := 16) (d := 0) rfl)).trans hgy178
        have hgy180 := up_n egy156 hgy179 (ne_o (i := i) (c := 16) (d := 22) rfl)
        have hgy181 := (hfvy15 (i + 17) (ne_o (i := i) (c := 17) (d := 0) rfl)).trans ha17
        have hgy182 := (hfvy22 (i + 17) (ne_o (i := i) (c := 17) (d := 0) rfl)).trans hgy181
        have hgy183 := (hfvy67 (i + 17) (ne_o (i := i) (c := 17) (d := 0) rfl)).trans hgy182
        have hgy184 := (hfvy69 (i + 17) (ne_o (i := i) (c := 17) (d := 0) rfl)).trans hgy183
        have hgy185 := (hfvy75 (i + 17) (ne_o (i := i) (c := 17) (d := 0) rfl)).trans hgy184
        have hgy186 := up_n egy156 hgy185 (ne_o (i := i) (c := 17) (d := 22) rfl)
        have hgy187 := (hfvy15 (i + 18) (ne_o (i := i) (c := 18) (d := 0) rfl)).trans ha18
        have hgy188 := (hfvy22 (i + 18) (ne_o (i := i) (c := 18) (d := 0) rfl)).trans hgy187
        have hgy189 := (hfvy67 (i + 18) (ne_o (i := i) (c := 18) (d := 0) rfl)).trans hgy188
        have hgy190 := (hfvy69 (i + 18) (ne_o (i := i) (c := 18) (d := 0) rfl)).trans hgy189
        have hgy191 := (hfvy75 (i + 18) (ne_o (i := i) (c := 18) (d := 0) rfl)).trans hgy190
        have hgy192 := up_n egy156 hgy191 (ne_o (i := i) (c := 18) (d := 22) rfl)
        have hgy193 := (hfvy15 (i + 19) (ne_o (i := i) (c := 19) (d := 0) rfl)).trans ha19
        have hgy194 := (hfvy22 (i + 19) (ne_o (i := i) (c := 19) (d := 0) rfl)).trans hgy193
        have hgy195 := (hfvy67 (i + 19) (ne_o (i := i) (c := 19) (d := 0) rfl)).trans hgy194
        have hgy196 := (hfvy69 (i + 19) (ne_o (i := i) (c := 19) (d := 0) rfl)).trans hgy195
        have hgy197 := (hfvy75 (i + 19) (ne_o (i := i) (c := 19) (d := 0) rfl)).trans hgy196
        have hgy198 := up_n egy156 hgy197 (ne_o (i := i) (c := 19) (d := 22) rfl)
        have hgy199 := (hfvy15 (i + 20) (ne_o (i := i) (c := 20) (d := 0) rfl)).trans ha20
        have hgy200 := (hfvy22 (i + 20) (ne_o (i := i) (c := 20) (d := 0) rfl)).trans hgy199
        have hgy201 := (hfvy67 (i + 20) (ne_o (i := i) (c := 20) (d := 0) rfl)).trans hgy200
        have hgy202 := (hfvy69 (i + 20) (ne_o (i := i) (c := 20) (d := 0) rfl)).trans hgy201
        have hgy203 := (hfvy75 (i + 20) (ne_o (i := i) (c := 20) (d := 0) rfl)).trans hgy202
        have hgy204 := up_n egy156 hgy203 (ne_o (i := i) (c := 20) (d := 22) rfl)
        have hgy205 := (hfvy15 (i + 21) (ne_o (i := i) (c := 21) (d := 0) rfl)).trans ha21
        have hgy206 := (hfvy22 (i + 21) (ne_o (i := i) (c := 21) (d := 0) rfl)).trans hgy205
        have hgy207 := (hfvy67 (i + 21) (ne_o (i := i) (c := 21) (d := 0) rfl)).trans hgy206
        have hgy208 := (hfvy69 (i + 21) (ne_o (i := i) (c := 21) (d := 0) rfl)).trans hgy207
        have hgy209 := (hfvy75 (i + 21) (ne_o (i := i) (c := 21) (d := 0) rfl)).trans hgy208
        have hgy210 := up_n egy156 hgy209 (ne_o (i := i) (c := 21) (d := 22) rfl)
        have hgy211 := (hfvy15 (i + 23) (ne_o (i := i) (c := 23) (d := 0) rfl)).trans ha23
        have hgy212 := (hfvy22 (i + 23) (ne_o (i := i) (c := 23) (d := 0) rfl)).trans hgy211
        have hgy213 := (hfvy67 (i + 23) (ne_o (i := i) (c := 23) (d := 0) rfl)).trans hgy212
        have hgy214 := (hfvy69 (i + 23) (ne_o (i := i) (c := 23) (d := 0) rfl)).trans hgy213
        have hgy215 := (hfvy75 (i + 23) (ne_o (i := i) (c := 23) (d := 0) rfl)).trans hgy214
        have hgy216 := up_n egy156 hgy215 (ne_o (i := i) (c := 23) (d := 22) rfl)
        have htxy217 : okTx cs gy155 i Fvy75 := ⟨_, _, _, _, _, _, _, _, ⟨hgy180, hgy186, hgy192, hgy198, hgy204, hgy210, hgy157, hgy216⟩, ⟨⟨by omega, by omega, by omega⟩, hop1, hmn1, hai1, hfa1, haky171, hlay174⟩⟩
        exact z_vret C hr hlk dX10_table1_95 (by decide) (by decide) ⟨rfl, rfl, rfl, ⟨_, hgy160, hFy161, Or.inr ⟨(cvy75, (tk_nx T n (tk_nx T n f))), by simp only [cl_table, if_neg hxvy20, if_neg hscy31, hnvy75], by show Fvy75 38 = cvy75; omega, by show Fvy75 24 = (((tk_nx T n (tk_nx T n f)) : Nat) : Int); omega, by show 1 ≤ cvy75 ∧ cvy75 ≤ 5; omega, ⟨_, htky162⟩, htxy217⟩⟩, fun j j1 j2 => by rw [egy156, va_up_ne _ _ (by omega)]; rw [hfvy75 _ (by omega)]; rw [hfvy69 _ (by omega)]; rw [hfvy67 _ (by omega)]; rw [hfvy22 _ (by omega)]; rw [hfvy15 _ (by omega)]⟩
  · refine z_iconst (z := 1) C dX10_table1_17 rfl ?_
    have h33vy218 : Fvy15 33 = ((tk_nx T n f) : Int) := hkvy15.2.2.1
    have h24vy218 : Fvy15 24 = F 24 := (hFvy15 24 (by decide) (by decide) (by decide) (by decide) (by decide))
    have htvy218 : tkR T n Fvy15 (tk_nx T n f) := hkvy15
    refine z_cV (As := [.int (zI (0)), .int (zI (1))]) (rest := []) (ci := 12) C (c_yWants l D A cs tt N ad _ i hN _ hcvy15 ((hFvy15 38 (by decide) (by decide) (by decide) (by decide) (by decide)).trans h38) (0) (by omega) (1) (by omega)) (lt_A0 hN rfl) hay1 hcvy15 rfl rfl mv_yX10_wants q_1682 hd_yX10_wants (by decide) (Nat.le_of_ble_eq_true rfl) (by decide) dX10_table1_18 rfl (kI0 fun vy218 gvy218 hvy218 => ?_)
    obtain ⟨⟨Fvy218, hcvy218, hqvy218, hFvy218⟩, hfvy218⟩ := hvy218
    obtain ⟨rfl, hevy218, hbvy218⟩ : vy218 = 0 ∧ Fvy218 38 = 1 ∧ Fvy218 24 = ((tk_nx T n f) : Int) := by omega
    clear hqvy218 h33vy218 h24vy218
    have hkvy218 : tkR T n Fvy218 (tk_nx T n f) := tkR.w htvy218 hFvy218 (by omega)
    refine z_if_ne (tgt := 25) C dX10_table1_21 (by decide) (by omega) (fun h => absurd h (by omega)) (fun _ => ?_)
    have hFy219 : ∀ f, f ≠ 24 → f ≠ 32 → f ≠ 33 → f ≠ 35 → f ≠ 36 → f ≠ 37 → f ≠ 38 → f ≠ 47 → f ≠ 48 → f ≠ 49 → Fvy218 f = F f := fun f n24 n32 n33 n35 n36 n37 n38 n47 n48 n49 => ((hFvy218 f n24 n38).trans (hFvy15 f n32 n33 n35 n36 n37))
    have htky220 : tkR T n Fvy218 (tk_nx T n f) := hkvy218
    have htoy221 := tk_to_w (T := T) (n := n) (f := (tk_nx T n f)) htky220.1.1
    have h32y222 := htky220.2.1
    have hey223 : Fvy218 24 = ((tk_nx T n f) : Int) := hbvy218
    have hey224 : Fvy218 38 = 1 := hevy218
    have hey225 : Fvy218 47 = sl := ((hFvy218 47 (by decide) (by decide)).trans ((hFvy15 47 (by decide) (by decide) (by decide) (by decide) (by decide)).trans r47))
    have hey226 : Fvy218 48 = ho := ((hFvy218 48 (by decide) (by decide)).trans ((hFvy15 48 (by decide) (by decide) (by decide) (by decide) (by decide)).trans r48))
    have hey227 : Fvy218 49 = nm := ((hFvy218 49 (by decide) (by decide)).trans ((hFvy15 49 (by decide) (by decide) (by decide) (by decide) (by decide)).trans r49))
    have hlay229 : ∀ s l : Nat, (s : Int) < Fvy218 47 → (l : Int) < mn1 s → lyT ly1 (84 * s + 7 * l) := by
      intro s l a1 a2
      have hm9 := hmn1 s (by omega)
      exact hly1 s l (by omega) a2
    have hgy230 := (hfvy15 (i + 16) (ne_o (i := i) (c := 16) (d := 0) rfl)).trans ha16
    have hgy231 := (hfvy218 (i + 16) (ne_o (i := i) (c := 16) (d := 0) rfl)).trans hgy230
    have hgy232 := (hfvy15 (i + 17) (ne_o (i := i) (c := 17) (d := 0) rfl)).trans ha17
    have hgy233 := (hfvy218 (i + 17) (ne_o (i := i) (c := 17) (d := 0) rfl)).trans hgy232
    have hgy234 := (hfvy15 (i + 18) (ne_o (i := i) (c := 18) (d := 0) rfl)).trans ha18
    have hgy235 := (hfvy218 (i + 18) (ne_o (i := i) (c := 18) (d := 0) rfl)).trans hgy234
    have hgy236 := (hfvy15 (i + 19) (ne_o (i := i) (c := 19) (d := 0) rfl)).trans ha19
    have hgy237 := (hfvy218 (i + 19) (ne_o (i := i) (c := 19) (d := 0) rfl)).trans hgy236
    have hgy238 := (hfvy15 (i + 20) (ne_o (i := i) (c := 20) (d := 0) rfl)).trans ha20
    have hgy239 := (hfvy218 (i + 20) (ne_o (i := i) (c := 20) (d := 0) rfl)).trans hgy238
    have hgy240 := (hfvy15 (i + 21) (ne_o (i := i) (c := 21) (d := 0) rfl)).trans ha21
    have hgy241 := (hfvy218 (i + 21) (ne_o (i := i) (c := 21) (d := 0) rfl)).trans hgy240
    have hgy242 := (hfvy15 (i + 22) (ne_o (i := i) (c := 22) (d := 0) rfl)).trans ha22
    have hgy243 := (hfvy218 (i + 22) (ne_o (i := i) (c := 22) (d := 0) rfl)).trans hgy242
    have hgy244 := (hfvy15 (i + 23) (ne_o (i := i) (c := 23) (d := 0) rfl)).trans ha23
    have hgy245 := (hfvy218 (i + 23) (ne_o (i := i) (c := 23) (d := 0) rfl)).trans hgy244
    have htxy246 : okTx cs gvy218 i Fvy218 := ⟨_, _, _, _, _, _, _, _, ⟨hgy231, hgy233, hgy235, hgy237, hgy239, hgy241, hgy243, hgy245⟩, ⟨⟨by omega, by omega, by omega⟩, hop1, hmn1, hai1, hfa1, htb1, hlay229⟩⟩
    exact z_vret C hr hlk dX10_table1_24 (by decide) (by decide) ⟨rfl, rfl, rfl, ⟨_, hcvy218, hFy219, Or.inr ⟨(1, (tk_nx T n f)), by simp only [cl_table, if_pos hxvy20], by show Fvy218 38 = 1; omega, by show Fvy218 24 = (((tk_nx T n f) : Nat) : Int); omega, by show 1 ≤ 1 ∧ 1 ≤ 5; omega, ⟨_, htky220⟩, htxy246⟩⟩, fun j j1 j2 => by rw [hfvy218 _ (by omega)]; rw [hfvy15 _ (by omega)]⟩

set_option maxRecDepth 100000 in
set_option maxHeartbeats 4000000 in
theorem c_yTable2 (l : Launch) (D : va_G) (A : Nat → Prop) (cs : Nat → ClassId) (tt : Nat) (N : Nat) (ad : Nat → Nat) (g : Nat → va_E) (i : Nat) (hN : i + 30 ≤ N) (F : Nat → Int) (hg : g i = mC ad i F) (tp : Nat → Int) (ha13 : g (i + 13) = iA cs 900 tp) (T : Nat → Int) (n : Nat) (hn : n ≤ 900) (hTb : ∀ k, k < n → 0 ≤ T k ∧ T k ≤ 255) (hTt : ∀ k, k < n → tp k = T k) (htp : ∀ k, k < 900 → 0 ≤ tp k ∧ tp k ≤ 255) (f : Nat) (hk : tkR T n F f) (h38 : F 38 = 0) (hfl : f < n) (sl ho nm : Int) (mn st op ai fa mu tb B : Nat → Int) (Lz : Nat → Nat → Int) (hX : xTx cs g i F (sl, ho, nm, mn, st, op, ai, fa, mu, tb, B, Lz)) (hwd : tk_w T n f = 8) : zM l yX10_table1 cX10_table1 3 none ({ frames := 5, cells := 0, slots := 0, locals := 300 } : Room) D A cs tt N ad g [.ref (ad i)] (rV0 N ad fun g' => (∃ F' : Nat → Int, g' i = mC ad i F' ∧ (∀ f, f ≠ 24 → f ≠ 32 → f ≠ 33 → f ≠ 35 → f ≠ 36 → f ≠ 37 → f ≠ 38 → f ≠ 47 → f ≠ 48 → f ≠ 49 → F' f = F f) ∧ ((∃ v, cl_table T n B 10 1 9999 f = .ok v ∧ F' 38 = 0 ∧ F' 24 = F 24 ∧ f < v.2 ∧ tkR T n F' v.2 ∧ xTx cs g' i F' (sl, ho, nm, mn, st, op, ai, fa, mu, uZ tb v.1.1.toNat v.1.2, uZ B v.1.1.toNat 1, Lz)) ∨ (∃ e : Int × Nat, cl_table T n B 10 1 9999 f = .error e ∧ F' 38 = e.1 ∧ F' 24 = (e.2 : Int) ∧ (1 ≤ e.1 ∧ e.1 ≤ 5) ∧ (∃ f9, tkR T n F' f9) ∧ okTx cs g' i F'))) ∧ ∀ j, j ≠ i → j < i + 16 ∨ i + 23 < j → g' j = g j) := by
  have hay1 : zAt ad (i) (ad i) := rfl
  have hay2 : zAt ad (i + 13) (ad (i + 13)) := rfl
  have hsry3 := srt_b T n f
  have hvly4 := vlu_b hTb f
  have hwby5 := tk_w_b T n f
  have hfny6 := hk.1
  obtain ⟨st1, op1, mn1, ai1, fa1, mu1, tb1, ly1, ⟨ha16, ha17, ha18, ha19, ha20, ha21, ha22, ha23⟩, ⟨⟨t47, t48, t49⟩, hop1, hmn1, hai1, hfa1, htb1, hly1⟩, hrT⟩ := hX
  have r47 : F 47 = sl := hrT.1.1
  have r48 : F 48 = ho := hrT.1.2.1
  have r49 : F 49 = nm := hrT.1.2.2
  have r32 : F 32 = ((tk_to T n f : Nat) : Int) := hk.2.1
  have hto0 := tk_to_nx (T := T) (n := n) (f := f) hk.1.1
  have rsl : ∀ k : Nat, (k : Int) < sl → mn1 k = mn k := fun k h9 => (hrT.2.1 k h9).2.2
  have rtb : ∀ k : Nat, k < 15 → (tb1 k = -1 ∧ B k = 0) ∨ (0 ≤ tb1 k ∧ B k = 1) := fun k h9 => by
    rcases hrT.2.2.2.1 k h9 with ⟨a9, b9, c9⟩ | ⟨a9, b9, c9⟩
    · exact Or.inl ⟨a9, b9⟩
    · exact Or.inr ⟨a9, b9⟩
  have rs4 : 0 ≤ sl ∧ sl ≤ 4 := by omega
  have rh4 : 0 ≤ ho ∧ ho ≤ 24 := by omega
  have hay7 : zAt ad (i + 16) (ad (i + 16)) := rfl
  have hay8 : zAt ad (i + 17) (ad (i + 17)) := rfl
  have hay9 : zAt ad (i + 18) (ad (i + 18)) := rfl
  have hay10 : zAt ad (i + 19) (ad (i + 19)) := rfl
  have hay11 : zAt ad (i + 20) (ad (i + 20)) := rfl
  have hay12 : zAt ad (i + 21) (ad (i + 21)) := rfl
  have hay13 : zAt ad (i + 22) (ad (i + 22)) := rfl
  have hay14 : zAt ad (i + 23) (ad (i + 23)) := rfl
  have htbr : ∀ k, k < 15 → -1 ≤ tb1 k ∧ tb1 k ≤ 9999 := fun k hk => by have h9 := htb1 k hk; omega
  have hw37 : F 37 = 8 := hk.2.2.2.2.2.2.1.trans hwd
  refine z_of (by decide) (Nat.le_of_ble_eq_true rfl) ?_
  intro pZ eZ sZ mZ below meth cZ C hr hlk hnm
  refine z_lv (lv' := [(0, .ref (ad i))]) [0] rfl ?_
  refine z_aload_n C 0 dX10_table1_0 rfl ?_
  refine z_get (v := .int (zI (8))) C (lt_A0 hN rfl) hay1 hg rfl inA_X10 37 (by decide) q_1496 rfl (fv (F := F) (f := 37) hw37) dX10_table1_1 ?_
  refine z_bipush (z := 6) C dX10_table1_4 (by decide) ?_
  refine z_isub C dX10_table1_6 ?_
  refine z_istore_n (lv' := [(1, .int (zI (8 - 6))), (0, .ref (ad i))]) C dX10_table1_7 rfl (by decide) rfl ?_
  refine z_aload_n C 1 dX10_table1_8 rfl ?_
  have htvy15 : tkR T n F f := hk
  refine z_cV (As := []) (rest := []) (ci := 12) C (c_yGo l D A cs tt N ad _ i hN _ hg _ ha13 T n hn hTb hTt htp (tk_to T n f) (tk_to_b htvy15.1.1).2.1 htvy15.2.1 htvy15.2.2.2.1 htvy15.2.2.2.2.2.2.2) (lt_A0 hN rfl) hay1 hg rfl rfl mv_yX10_go q_1656 hd_yX10_go (by decide) (Nat.le_of_ble_eq_true rfl) (by decide) dX10_table1_9 rfl (kV0 fun gvy15 hvy15 => ?_)
  obtain ⟨⟨Fvy15, hcvy15, hjvy15, hFvy15⟩, hfvy15⟩ := hvy15
  have hkvy15 : tkR T n Fvy15 (tk_nx T n f) := hjvy15
  have hnbvy15 := tk_nx_s (T := T) (n := n) (f := f) hfl
  clear hjvy15
  have hsry16 := srt_b T n (tk_nx T n f)
  have hvly17 := vlu_b hTb (tk_nx T n f)
  have hwby18 := tk_w_b T n (tk_nx T n f)
  have hfny19 := hkvy15.1
  refine z_aload_n C 1 dX10_table1_12 rfl ?_
  refine z_aload_n C 1 dX10_table1_13 rfl ?_
  have hgy21 := (hfvy15 (i + 13) (ne_o (i := i) (c := 13) (d := 0) rfl)).trans ha13
  refine z_cV (As := []) (rest := [.ref (ad i)]) (ci := 12) C (c_yIsKind l D A cs tt N ad _ i hN _ hcvy15 tp T n hn hTb hTt htp (tk_nx T n f) hkvy15) (lt_A0 hN rfl) hay1 hcvy15 rfl rfl mv_yX10_isKind q_1697 hd_yX10_isKind (by decide) (Nat.le_of_ble_eq_true rfl) (by decide) dX10_table1_14 rfl (kI0 fun vy20 gvy20 hvy20 => ?_)
  obtain ⟨hvy20, rfl⟩ := hvy20
  rcases hvy20 with ⟨rfl, hxvy20⟩ | ⟨rfl, hxvy20⟩
  · refine z_iconst (z := 1) C dX10_table1_17 rfl ?_
    have h33vy22 : Fvy15 33 = ((tk_nx T n f) : Int) := hkvy15.2.2.1
    have h24vy22 : Fvy15 24 = F 24 := (hFvy15 24 (by decide) (by decide) (by decide) (by decide) (by decide))
    have htvy22 : tkR T n Fvy15 (tk_nx T n f) := hkvy15
    refine z_cV (As := [.int (zI (1)), .int (zI (1))]) (rest := []) (ci := 12) C (c_yWants l D A cs tt N ad _ i hN _ hcvy15 ((hFvy15 38 (by decide) (by decide) (by decide) (by decide) (by decide)).trans h38) (1) (by omega) (1) (by omega)) (lt_A0 hN rfl) hay1 hcvy15 rfl rfl mv_yX10_wants q_1682 hd_yX10_wants (by decide) (Nat.le_of_ble_eq_true rfl) (by decide) dX10_table1_18 rfl (kI0 fun vy22 gvy22 hvy22 => ?_)
    obtain ⟨⟨Fvy22, hcvy22, hqvy22, hFvy22⟩, hfvy22⟩ := hvy22
    obtain ⟨rfl, hevy22, hbvy22⟩ : vy22 = 1 ∧ Fvy22 38 = 0 ∧ Fvy22 24 = F 24 := by omega
    clear hqvy22 h33vy22 h24vy22
    have hkvy22 : tkR T n Fvy22 (tk_nx T n f) := tkR.w htvy22 hFvy22 (by omega)
    refine z_if_ne (tgt := 25) C dX10_table1_21 (by decide) (by omega) (fun _ => ?_) (fun h => absurd h (by omega))
    refine z_iconst (z := 5) C dX10_table1_25 rfl ?_
    refine z_iload_n C 0 dX10_table1_26 rfl ?_
    refine z_imul C dX10_table1_27 ?_
    refine z_aload_n C 1 dX10_table1_28 rfl ?_
    have hgy24 := (hfvy22 (i + 13) (ne_o (i := i) (c := 13) (d := 0) rfl)).trans hgy21
    refine z_cV (As := []) (rest := [.int (zI (5 * (8 - 6)))]) (ci := 12) C (c_yKindHere l D A cs tt N ad _ i hN _ hcvy22 tp T n hn hTb hTt htp (tk_nx T n f) hkvy22 hxvy20) (lt_A0 hN rfl) hay1 hcvy22 rfl rfl mv_yX10_kindHere q_1701 hd_yX10_kindHere (by decide) (Nat.le_of_ble_eq_true rfl) (by decide) dX10_table1_29 rfl (kI0 fun vy23 gvy23 hvy23 => ?_)
    obtain ⟨rfl, rfl⟩ := hvy23
    have hkbvy23 : 0 ≤ tk_kd T n (tk_nx T n f) ∧ tk_kd T n (tk_nx T n f) ≤ 4 := by have hkc := tk_kd_c T n (tk_nx T n f); omega
    refine z_iadd C dX10_table1_32 ?_
    obtain ⟨kty25, hkty25⟩ : ∃ n9 : Nat, (5 * (8 - 6)) + (tk_kd T n (tk_nx T n f)) = (n9 : Int) := ⟨((5 * (8 - 6)) + (tk_kd T n (tk_nx T n f))).toNat, by omega⟩
    rw [hkty25]
    refine z_istore_n (lv' := [(2, .int (zI ((kty25 : Int)))), (1, .int (zI (8 - 6))), (0, .ref (ad i))]) C dX10_table1_33 rfl (by decide) rfl ?_
    refine z_aload_n C 2 dX10_table1_34 rfl ?_
    refine z_aload_n C 2 dX10_table1_35 rfl ?_
    refine z_get (v := .ref (ad (i + 22))) C (lt_A0 hN rfl) hay1 hcvy22 rfl inA_X10 45 (by decide) q_1504 rfl rfl dX10_table1_36 ?_
    refine z_iload_n C 0 dX10_table1_39 rfl ?_
    have hgy26 := (hfvy15 (i + 22) (ne_o (i := i) (c := 22) (d := 0) rfl)).trans ha22
    have hgy27 := (hfvy22 (i + 22) (ne_o (i := i) (c := 22) (d := 0) rfl)).trans hgy26
    refine z_iald C (lt_A (c := 22) hN rfl) hay13 hgy27 (kty25) (by omega) (by omega) (by decide) dX10_table1_40 ?_
    have hrfy28 := htbr (kty25) (by omega)
    refine z_iconst (z := -1) C dX10_table1_41 rfl ?_
    refine z_icmp_ne (tgt := 49) C dX10_table1_42 (by decide) (by omega) (by omega) (fun hby29 => ?_) (fun hby29 => ?_)
    · have hscy30 : (B (10 + tk_kd T n (tk_nx T n f)).toNat = 1) := by rw [show (10 + tk_kd T n (tk_nx T n f)).toNat = kty25 by omega]; have h9 := rtb kty25 (by omega); omega
      refine z_iconst (z := 0) C dX10_table1_49 rfl ?_
      refine z_iconst (z := 4) C dX10_table1_50 rfl ?_
      have h33vy32 : Fvy22 33 = ((tk_nx T n f) : Int) := ((hFvy22 33 (by decide) (by decide)).trans hkvy15.2.2.1)
      have h24vy32 : Fvy22 24 = F 24 := hbvy22
      have htvy32 : tkR T n Fvy22 (tk_nx T n f) := hkvy22
      refine z_cV (As := [.int (zI (0)), .int (zI (4))]) (rest := []) (ci := 12) C (c_yWants l D A cs tt N ad _ i hN _ hcvy22 hevy22 (0) (by omega) (4) (by omega)) (lt_A0 hN rfl) hay1 hcvy22 rfl rfl mv_yX10_wants q_1682 hd_yX10_wants (by decide) (Nat.le_of_ble_eq_true rfl) (by decide) dX10_table1_51 rfl (kI0 fun vy32 gvy32 hvy32 => ?_)
      obtain ⟨⟨Fvy32, hcvy32, hqvy32, hFvy32⟩, hfvy32⟩ := hvy32
      obtain ⟨rfl, hevy32, hbvy32⟩ : vy32 = 0 ∧ Fvy32 38 = 4 ∧ Fvy32 24 = ((tk_nx T n f) : Int) := by omega
      clear hqvy32 h33vy32 h24vy32
      have hkvy32 : tkR T n Fvy32 (tk_nx T n f) := tkR.w htvy32 hFvy32 (by omega)
      refine z_if_ne (tgt := 58) C dX10_table1_54 (by decide) (by omega) (fun h => absurd h (by omega)) (fun _ => ?_)
      have hFy33 : ∀ f, f ≠ 24 → f ≠ 32 → f ≠ 33 → f ≠ 35 → f ≠ 36 → f ≠ 37 → f ≠ 38 → f ≠ 47 → f ≠ 48 → f ≠ 49 → Fvy32 f = F f := fun f n24 n32 n33 n35 n36 n37 n38 n47 n48 n49 => ((hFvy32 f n24 n38).trans ((hFvy22 f n24 n38).trans (hFvy15 f n32 n33 n35 n36 n37)))
      have htky34 : tkR T n Fvy32 (tk_nx T n f) := hkvy32
      have htoy35 := tk_to_w (T := T) (n := n) (f := (tk_nx T n f)) htky34.1.1
      have h32y36 := htky34.2.1
      have hey37 : Fvy32 24 = ((tk_nx T n f) : Int) := hbvy32
      have hey38 : Fvy32 38 = 4 := hevy32
      have hey39 : Fvy32 47 = sl := ((hFvy32 47 (by decide) (by decide)).trans ((hFvy22 47 (by decide) (by decide)).trans ((hFvy15 47 (by decide) (by decide) (by decide) (by decide) (by decide)).trans r47)))
      have hey40 : Fvy32 48 = ho := ((hFvy32 48 (by decide) (by decide)).trans ((hFvy22 48 (by decide) (by decide)).trans ((hFvy15 48 (by decide) (by decide) (by decide) (by decide) (by decide)).trans r48)))
      have hey41 : Fvy32 49 = nm := ((hFvy32 49 (by decide) (by decide)).trans ((hFvy22 49 (by decide) (by decide)).trans ((hFvy15 49 (by decide) (by decide) (by decide) (by decide) (by decide)).trans r49)))
      have hlay43 : ∀ s l : Nat, (s : Int) < Fvy32 47 → (l : Int) < mn1 s → lyT ly1 (84 * s + 7 * l) := by
        intro s l a1 a2
        have hm9 := hmn1 s (by omega)
        exact hly1 s l (by omega) a2
      have hgy44 := (hfvy15 (i + 16) (ne_o (i := i) (c := 16) (d := 0) rfl)).trans ha16
      have hgy45 := (hfvy22 (i + 16) (ne_o (i := i) (c := 16) (d := 0) rfl)).trans hgy44
      have hgy46 := (hfvy32 (i + 16) (ne_o (i := i) (c := 16) (d := 0) rfl)).trans hgy45
      have hgy47 := (hfvy15 (i + 17) (ne_o (i := i) (c := 17) (d := 0) rfl)).trans ha17
      have hgy48 := (hfvy22 (i + 17) (ne_o (i := i) (c := 17) (d := 0) rfl)).trans hgy47
      have hgy49 := (hfvy32 (i + 17) (ne_o (i := i) (c := 17) (d := 0) rfl)).trans hgy48
      have hgy50 := (hfvy15 (i + 18) (ne_o (i := i) (c := 18) (d := 0) rfl)).trans ha18
      have hgy51 := (hfvy22 (i + 18) (ne_o (i := i) (c := 18) (d := 0) rfl)).trans hgy50
      have hgy52 := (hfvy32 (i + 18) (ne_o (i := i) (c := 18) (d := 0) rfl)).trans hgy51
      have hgy53 := (hfvy15 (i + 19) (ne_o (i := i) (c := 19) (d := 0) rfl)).trans ha19
      have hgy54 := (hfvy22 (i + 19) (ne_o (i := i) (c := 19) (d := 0) rfl)).trans hgy53
      have hgy55 := (hfvy32 (i + 19) (ne_o (i := i) (c := 19) (d := 0) rfl)).trans hgy54
      have hgy56 := (hfvy15 (i + 20) (ne_o (i := i) (c := 20) (d := 0) rfl)).trans ha20
      have hgy57 := (hfvy22 (i + 20) (ne_o (i := i) (c := 20) (d := 0) rfl)).trans hgy56
      have hgy58 := (hfvy32 (i + 20) (ne_o (i := i) (c := 20) (d := 0) rfl)).trans hgy57
      have hgy59 := (hfvy15 (i + 21) (ne_o (i := i) (c := 21) (d := 0) rfl)).trans ha21
      have hgy60 := (hfvy22 (i + 21) (ne_o (i := i) (c := 21) (d := 0) rfl)).trans hgy59
      have hgy61 := (hfvy32 (i + 21) (ne_o (i := i) (c := 21) (d := 0) rfl)).trans hgy60
      have hgy62 := (hfvy32 (i + 22) (ne_o (i := i) (c := 22) (d := 0) rfl)).trans hgy27
      have hgy63 := (hfvy15 (i + 23) (ne_o (i := i) (c := 23) (d := 0) rfl)).trans ha23
      have hgy64 := (hfvy22 (i + 23) (ne_o (i := i) (c := 23) (d := 0) rfl)).trans hgy63
      have hgy65 := (hfvy32 (i + 23) (ne_o (i := i) (c := 23) (d := 0) rfl)).trans hgy64
      have htxy66 : okTx cs gvy32 i Fvy32 := ⟨_, _, _, _, _, _, _, _, ⟨hgy46, hgy49, hgy52, hgy55, hgy58, hgy61, hgy62, hgy65⟩, ⟨⟨by omega, by omega, by omega⟩, hop1, hmn1, hai1, hfa1, htb1, hlay43⟩⟩
      exact z_vret C hr hlk dX10_table1_57 (by decide) (by decide) ⟨rfl, rfl, rfl, ⟨_, hcvy32, hFy33, Or.inr ⟨(4, (tk_nx T n f)), by simp only [cl_table, if_neg hxvy20, if_pos hscy30], by show Fvy32 38 = 4; omega, by show Fvy32 24 = (((tk_nx T n f) : Nat) : Int); omega, by show 1 ≤ 4 ∧ 4 ≤ 5; omega, ⟨_, htky34⟩, htxy66⟩⟩, fun j j1 j2 => by rw [hfvy32 _ (by omega)]; rw [hfvy22 _ (by omega)]; rw [hfvy15 _ (by omega)]⟩
    · have hscy31 : ¬ (B (10 + tk_kd T n (tk_nx T n f)).toNat = 1) := by rw [show (10 + tk_kd T n (tk_nx T n f)).toNat = kty25 by omega]; have h9 := rtb kty25 (by omega); omega
      refine z_iconst (z := 1) C dX10_table1_45 rfl ?_
      refine z_goto (tgt := 50) C dX10_table1_46 (by decide) ?_
      refine z_iconst (z := 4) C dX10_table1_50 rfl ?_
      have h33vy67 : Fvy22 33 = ((tk_nx T n f) : Int) := ((hFvy22 33 (by decide) (by decide)).trans hkvy15.2.2.1)
      have h24vy67 : Fvy22 24 = F 24 := hbvy22
      have htvy67 : tkR T n Fvy22 (tk_nx T n f) := hkvy22
      refine z_cV (As := [.int (zI (1)), .int (zI (4))]) (rest := []) (ci := 12) C (c_yWants l D A cs tt N ad _ i hN _ hcvy22 hevy22 (1) (by omega) (4) (by omega)) (lt_A0 hN rfl) hay1 hcvy22 rfl rfl mv_yX10_wants q_1682 hd_yX10_wants (by decide) (Nat.le_of_ble_eq_true rfl) (by decide) dX10_table1_51 rfl (kI0 fun vy67 gvy67 hvy67 => ?_)
      obtain ⟨⟨Fvy67, hcvy67, hqvy67, hFvy67⟩, hfvy67⟩ := hvy67
      obtain ⟨rfl, hevy67, hbvy67⟩ : vy67 = 1 ∧ Fvy67 38 = 0 ∧ Fvy67 24 = F 24 := by omega
      clear hqvy67 h33vy67 h24vy67
      have hkvy67 : tkR T n Fvy67 (tk_nx T n f) := tkR.w htvy67 hFvy67 (by omega)
      refine z_if_ne (tgt := 58) C dX10_table1_54 (by decide) (by omega) (fun _ => ?_) (fun h => absurd h (by omega))
      refine z_aload_n C 2 dX10_table1_58 rfl ?_
      have hgy68 := (hfvy67 (i + 13) (ne_o (i := i) (c := 13) (d := 0) rfl)).trans hgy24
      have htvy69 : tkR T n Fvy67 (tk_nx T n f) := hkvy67
      refine z_cV (As := []) (rest := []) (ci := 12) C (c_yGo l D A cs tt N ad _ i hN _ hcvy67 _ hgy68 T n hn hTb hTt htp (tk_to T n (tk_nx T n f)) (tk_to_b htvy69.1.1).2.1 htvy69.2.1 htvy69.2.2.2.1 htvy69.2.2.2.2.2.2.2) (lt_A0 hN rfl) hay1 hcvy67 rfl rfl mv_yX10_go q_1656 hd_yX10_go (by decide) (Nat.le_of_ble_eq_true rfl) (by decide) dX10_table1_59 rfl (kV0 fun gvy69 hvy69 => ?_)
      obtain ⟨⟨Fvy69, hcvy69, hjvy69, hFvy69⟩, hfvy69⟩ := hvy69
      have hkvy69 : tkR T n Fvy69 (tk_nx T n (tk_nx T n f)) := hjvy69
      have hnbvy69 := tk_nx_w (T := T) (n := n) (f := (tk_nx T n f)) htvy69.1.1
      clear hjvy69
      have hsry70 := srt_b T n (tk_nx T n (tk_nx T n f))
      have hvly71 := vlu_b hTb (tk_nx T n (tk_nx T n f))
      have hwby72 := tk_w_b T n (tk_nx T n (tk_nx T n f))
      have hfny73 := hkvy69.1
      refine z_aload_n C 2 dX10_table1_62 rfl ?_
      refine z_get (v := .ref (ad (i + 22))) C (lt_A0 hN rfl) hay1 hcvy69 rfl inA_X10 45 (by decide) q_1504 rfl rfl dX10_table1_63 ?_
      refine z_iload_n C 0 dX10_table1_66 rfl ?_
      refine z_aload_n C 2 dX10_table1_67 rfl ?_
      refine z_iload_n C 1 dX10_table1_68 rfl ?_
      refine z_iconst (z := 2) C dX10_table1_69 rfl ?_
      refine z_icmp_ne (tgt := 77) C dX10_table1_70 (by decide) (by omega) (by omega) (fun h => absurd h (by omega)) (fun _ => ?_)
      refine z_iconst (z := 1) C dX10_table1_73 rfl ?_
      refine z_goto (tgt := 78) C dX10_table1_74 (by decide) ?_
      refine z_iload_n C 1 dX10_table1_78 rfl ?_
      refine z_iconst (z := 2) C dX10_table1_79 rfl ?_
      refine z_icmp_ne (tgt := 89) C dX10_table1_80 (by decide) (by omega) (by omega) (fun h => absurd h (by omega)) (fun _ => ?_)
      refine z_sipush (z := 9999) C dX10_table1_83 (by decide) ?_
      refine z_goto (tgt := 91) C dX10_table1_86 (by decide) ?_
      have hgy74 := (hfvy69 (i + 13) (ne_o (i := i) (c := 13) (d := 0) rfl)).trans hgy68
      have h24vy75 : Fvy69 24 = F 24 := ((hFvy69 24 (by decide) (by decide) (by decide) (by decide) (by decide)).trans hbvy67)
      refine z_cV (As := [.int (zI (1)), .int (zI (9999))]) (rest := [.int (zI ((kty25 : Int))), .ref (ad (i + 22))]) (ci := 12) C (c_yNumber l D A cs tt N ad _ i hN _ hcvy69 _ hgy74 T n hn hTb hTt htp (tk_nx T n (tk_nx T n f)) hkvy69 ((hFvy69 38 (by decide) (by decide) (by decide) (by decide) (by decide)).trans hevy67) (1) (by omega) (9999) (by omega)) (lt_A0 hN rfl) hay1 hcvy69 rfl rfl mv_yX10_number q_1686 hd_yX10_number (by decide) (Nat.le_of_ble_eq_true rfl) (by decide) dX10_table1_91 rfl (kI0 fun vy75 gvy75 hvy75 => ?_)
      obtain ⟨⟨Fvy75, hcvy75, hqvy75, hFvy75⟩, hfvy75⟩ := hvy75
      rcases hqvy75 with hqvy75 | hqvy75
      · obtain ⟨hnvy75, hrvy75, hltvy75, hevy75, hb0vy75, hkvy75⟩ := hqvy75
        have hbvy75 : Fvy75 24 = F 24 := hb0vy75.trans h24vy75
        have hnbvy75 := tk_nx_s (T := T) (n := n) (f := (tk_nx T n (tk_nx T n f))) hltvy75
        clear hb0vy75 h24vy75
        have hsry76 := srt_b T n (tk_nx T n (tk_nx T n (tk_nx T n f)))
        have hvly77 := vlu_b hTb (tk_nx T n (tk_nx T n (tk_nx T n f)))
        have hwby78 := tk_w_b T n (tk_nx T n (tk_nx T n (tk_nx T n f)))
        have hfny79 := hkvy75.1
        have hgy80 := (hfvy67 (i + 22) (ne_o (i := i) (c := 22) (d := 0) rfl)).trans hgy27
        have hgy81 := (hfvy69 (i + 22) (ne_o (i := i) (c := 22) (d := 0) rfl)).trans hgy80
        have hgy82 := (hfvy75 (i + 22) (ne_o (i := i) (c := 22) (d := 0) rfl)).trans hgy81
        refine z_iast C (lt_A (c := 22) hN rfl) hay13 hgy82 (kty25) (by omega) (by omega) (by decide) dX10_table1_94 (fun gy83 egy84 => ?_)
        have hgy85 := up_s egy84
        obtain ⟨ry86, hvy87⟩ : ∃ rZ9 : Nat → Int, rZ9 = uZ tb1 (kty25) (vy75) := ⟨_, rfl⟩
        rw [← hvy87] at hgy85
        have hgy88 := up_n egy84 hcvy75 (ne_o (i := i) (c := 0) (d := 22) rfl)
        have hFy89 : ∀ f, f ≠ 24 → f ≠ 32 → f ≠ 33 → f ≠ 35 → f ≠ 36 → f ≠ 37 → f ≠ 38 → f ≠ 47 → f ≠ 48 → f ≠ 49 → Fvy75 f = F f := fun f n24 n32 n33 n35 n36 n37 n38 n47 n48 n49 => ((hFvy75 f n24 n32 n33 n35 n36 n37 n38).trans ((hFvy69 f n32 n33 n35 n36 n37).trans ((hFvy67 f n24 n38).trans ((hFvy22 f n24 n38).trans (hFvy15 f n32 n33 n35 n36 n37)))))
        have htky90 : tkR T n Fvy75 (tk_nx T n (tk_nx T n (tk_nx T n f))) := hkvy75
        have htoy91 := tk_to_w (T := T) (n := n) (f := (tk_nx T n (tk_nx T n (tk_nx T n f)))) htky90.1.1
        have h32y92 := htky90.2.1
        have hey93 : Fvy75 24 = F 24 := hbvy75
        have hey94 : Fvy75 38 = 0 := hevy75
        have hey95 : Fvy75 47 = sl := ((hFvy75 47 (by decide) (by decide) (by decide) (by decide) (by decide) (by decide) (by decide)).trans ((hFvy69 47 (by decide) (by decide) (by decide) (by decide) (by decide)).trans ((hFvy67 47 (by decide) (by decide)).trans ((hFvy22 47 (by decide) (by decide)).trans ((hFvy15 47 (by decide) (by decide) (by decide) (by decide) (by decide)).trans r47)))))
        have hey96 : Fvy75 48 = ho := ((hFvy75 48 (by decide) (by decide) (by decide) (by decide) (by decide) (by decide) (by decide)).trans ((hFvy69 48 (by decide) (by decide) (by decide) (by decide) (by decide)).trans ((hFvy67 48 (by decide) (by decide)).trans ((hFvy22 48 (by decide) (by decide)).trans ((hFvy15 48 (by decide) (by decide) (by decide) (by decide) (by decide)).trans r48)))))
        have hey97 : Fvy75 49 = nm := ((hFvy75 49 (by decide) (by decide) (by decide) (by decide) (by decide) (by decide) (by decide)).trans ((hFvy69 49 (by decide) (by decide) (by decide) (by decide) (by decide)).trans ((hFvy67 49 (by decide) (by decide)).trans ((hFvy22 49 (by decide) (by decide)).trans ((hFvy15 49 (by decide) (by decide) (by decide) (by decide) (by decide)).trans r49)))))
        have hfry100 : ∀ j, j ≠ kty25 → ry86 j = tb1 j := fun j n0 => (congrFun hvy87 _).trans ((uZ_n _ _ n0).trans (rfl))
        have hwy101 : ry86 (kty25) = vy75 := (congrFun hvy87 _).trans (uZ_s _ _ _)
        have haky99 : ∀ k, k < 15 → ry86 k = -1 ∨ ((0 ≤ ry86 k ∧ ry86 k ≤ 9999) ∧ (10 ≤ k → 1 ≤ ry86 k)) := by
          intro k hk
          by_cases e : k = kty25
          · rw [e]; have hk0 := htb1 (kty25) (by omega); omega
          · have hk0 := htb1 k hk; rw [hfry100 k e]; exact hk0
        have hlay102 : ∀ s l : Nat, (s : Int) < Fvy75 47 → (l : Int) < mn1 s → lyT ly1 (84 * s + 7 * l) := by
          intro s l a1 a2
          have hm9 := hmn1 s (by omega)
          exact hly1 s l (by omega) a2
        have hgy103 := (hfvy15 (i + 16) (ne_o (i := i) (c := 16) (d := 0) rfl)).trans ha16
        have hgy104 := (hfvy22 (i + 16) (ne_o (i := i) (c := 16) (d := 0) rfl)).trans hgy103
        have hgy105 := (hfvy67 (i + 16) (ne_o (i := i) (c := 16) (d := 0) rfl)).trans hgy104
        have hgy106 := (hfvy69 (i + 16) (ne_o (i := i) (c := 16) (d := 0) rfl)).trans hgy105
        have hgy107 := (hfvy75 (i + 16) (ne_o (i := i) (c := 16) (d := 0) rfl)).trans hgy106
        have hgy108 := up_n egy84 hgy107 (ne_o (i := i) (c := 16) (d := 22) rfl)
        have hgy109 := (hfvy15 (i + 17) (ne_o (i := i) (c := 17) (d := 0) rfl)).trans ha17
        have hgy110 := (hfvy22 (i + 17) (ne_o (i := i) (c := 17) (d := 0) rfl)).trans hgy109
        have hgy111 := (hfvy67 (i + 17) (ne_o (i := i) (c := 17) (d := 0) rfl)).trans hgy110
        have hgy112 := (hfvy69 (i + 17) (ne_o (i := i) (c := 17) (d := 0) rfl)).trans hgy111
        have hgy113 := (hfvy75 (i + 17) (ne_o (i := i) (c := 17) (d := 0) rfl)).trans hgy112
        have hgy114 := up_n egy84 hgy113 (ne_o (i := i) (c := 17) (d := 22) rfl)
        have hgy115 := (hfvy15 (i + 18) (ne_o (i := i) (c := 18) (d := 0) rfl)).trans ha18
        have hgy116 := (hfvy22 (i + 18) (ne_o (i := i) (c := 18) (d := 0) rfl)).trans hgy115
        have hgy117 := (hfvy67 (i + 18) (ne_o (i := i) (c := 18) (d := 0) rfl)).trans hgy116
        have hgy118 := (hfvy69 (i + 18) (ne_o (i := i) (c := 18) (d := 0) rfl)).trans hgy117
        have hgy119 := (hfvy75 (i + 18) (ne_o (i := i) (c := 18) (d := 0) rfl)).trans hgy118
        have hgy120 := up_n egy84 hgy119 (ne_o (i := i) (c := 18) (d := 22) rfl)
        have hgy121 := (hfvy15 (i + 19) (ne_o (i := i) (c := 19) (d := 0) rfl)).trans ha19
        have hgy122 := (hfvy22 (i + 19) (ne_o (i := i) (c := 19) (d := 0) rfl)).trans hgy121
        have hgy123 := (hfvy67 (i + 19) (ne_o (i := i) (c := 19) (d := 0) rfl)).trans hgy122
        have hgy124 := (hfvy69 (i + 19) (ne_o (i := i) (c := 19) (d := 0) rfl)).trans hgy123
        have hgy125 := (hfvy75 (i + 19) (ne_o (i := i) (c := 19) (d := 0) rfl)).trans hgy124
        have hgy126 := up_n egy84 hgy125 (ne_o (i := i) (c := 19) (d := 22) rfl)
        have hgy127 := (hfvy15 (i + 20) (ne_o (i := i) (c := 20) (d := 0) rfl)).trans ha20
        have hgy128 := (hfvy22 (i + 20) (ne_o (i := i) (c := 20) (d := 0) rfl)).trans hgy127
        have hgy129 := (hfvy67 (i + 20) (ne_o (i := i) (c := 20) (d := 0) rfl)).trans hgy128
        have hgy130 := (hfvy69 (i + 20) (ne_o (i := i) (c := 20) (d := 0) rfl)).trans hgy129
        have hgy131 := (hfvy75 (i + 20) (ne_o (i := i) (c := 20) (d := 0) rfl)).trans hgy130
        have hgy132 := up_n egy84 hgy131 (ne_o (i := i) (c := 20) (d := 22) rfl)
        have hgy133 := (hfvy15 (i + 21) (ne_o (i := i) (c := 21) (d := 0) rfl)).trans ha21
        have hgy134 := (hfvy22 (i + 21) (ne_o (i := i) (c := 21) (d := 0) rfl)).trans hgy133
        have hgy135 := (hfvy67 (i + 21) (ne_o (i := i) (c := 21) (d := 0) rfl)).trans hgy134
        have hgy136 := (hfvy69 (i + 21) (ne_o (i := i) (c := 21) (d := 0) rfl)).trans hgy135
        have hgy137 := (hfvy75 (i + 21) (ne_o (i := i) (c := 21) (d := 0) rfl)).trans hgy136
        have hgy138 := up_n egy84 hgy137 (ne_o (i := i) (c := 21) (d := 22) rfl)
        have hgy139 := (hfvy15 (i + 23) (ne_o (i := i) (c := 23) (d := 0) rfl)).trans ha23
        have hgy140 := (hfvy22 (i + 23) (ne_o (i := i) (c := 23) (d := 0) rfl)).trans hgy139
        have hgy141 := (hfvy67 (i + 23) (ne_o (i := i) (c := 23) (d := 0) rfl)).trans hgy140
        have hgy142 := (hfvy69 (i + 23) (ne_o (i := i) (c := 23) (d := 0) rfl)).trans hgy141
        have hgy143 := (hfvy75 (i + 23) (ne_o (i := i) (c := 23) (d := 0) rfl)).trans hgy142
        have hgy144 := up_n egy84 hgy143 (ne_o (i := i) (c := 23) (d := 22) rfl)
        have hfry145 : ∀ j, j ≠ kty25 → ry86 j = tb1 j := fun j n0 => (congrFun hvy87 _).trans ((uZ_n _ _ n0).trans (rfl))
        have hwy146 : ry86 (kty25) = vy75 := (congrFun hvy87 _).trans (uZ_s _ _ _)
        have hxty147 : xTx cs gy83 i Fvy75 _ := ⟨_, _, _, _, _, _, _, _, ⟨hgy108, hgy114, hgy120, hgy126, hgy132, hgy138, hgy85, hgy144⟩, ⟨⟨by omega, by omega, by omega⟩, hop1, hmn1, hai1, hfa1, haky99, hlay102⟩, rT.table (v1 := 10 + tk_kd T n (tk_nx T n f)) (a := vy75) hrT (kty25) (by omega) (by omega) ⟨by show Fvy75 47 = sl; omega, by show Fvy75 48 = ho; omega, by show Fvy75 49 = nm; omega⟩ hfry145 (by omega)⟩
        exact z_vret C hr hlk dX10_table1_95 (by decide) (by decide) ⟨rfl, rfl, rfl, ⟨_, hgy88, hFy89, Or.inl ⟨_, by simp only [cl_table, if_neg hxvy20, if_neg hscy31, hnvy75]; rfl, by omega, by omega, by show f < (tk_nx T n (tk_nx T n (tk_nx T n f))); omega, htky90, hxty147⟩⟩, fun j j1 j2 => by rw [egy84, va_up_ne _ _ (by omega)]; rw [hfvy75 _ (by omega)]; rw [hfvy69 _ (by omega)]; rw [hfvy67 _ (by omega)]; rw [hfvy22 _ (by omega)]; rw [hfvy15 _ (by omega)]⟩
      · obtain ⟨rfl, cvy75, hrvy75, hnvy75, hevy75, hbvy75, hkvy75⟩ := hqvy75
        clear h24vy75
        have hsry148 := srt_b T n (tk_nx T n (tk_nx T n f))
        have hvly149 := vlu_b hTb (tk_nx T n (tk_nx T n f))
        have hwby150 := tk_w_b T n (tk_nx T n (tk_nx T n f))
        have hfny151 := hkvy75.1
        have hgy152 := (hfvy67 (i + 22) (ne_o (i := i) (c := 22) (d := 0) rfl)).trans hgy27
        have hgy153 := (hfvy69 (i + 22) (ne_o (i := i) (c := 22) (d := 0) rfl)).trans hgy152
        have hgy154 := (hfvy75 (i + 22) (ne_o (i := i) (c := 22) (d := 0) rfl)).trans hgy153
        refine z_iast C (lt_A (c := 22) hN rfl) hay13 hgy154 (kty25) (by omega) (by omega) (by decide) dX10_table1_94 (fun gy155 egy156 => ?_)
        have hgy157 := up_s egy156
        obtain ⟨ry158, hvy159⟩ : ∃ rZ9 : Nat → Int, rZ9 = uZ tb1 (kty25) (1) := ⟨_, rfl⟩
        rw [← hvy159] at hgy157
        have hgy160 := up_n egy156 hcvy75 (ne_o (i := i) (c := 0) (d := 22) rfl)
        have hFy161 : ∀ f, f ≠ 24 → f ≠ 32 → f ≠ 33 → f ≠ 35 → f ≠ 36 → f ≠ 37 → f ≠ 38 → f ≠ 47 → f ≠ 48 → f ≠ 49 → Fvy75 f = F f := fun f n24 n32 n33 n35 n36 n37 n38 n47 n48 n49 => ((hFvy75 f n24 n32 n33 n35 n36 n37 n38).trans ((hFvy69 f n32 n33 n35 n36 n37).trans ((hFvy67 f n24 n38).trans ((hFvy22 f n24 n38).trans (hFvy15 f n32 n33 n35 n36 n37)))))
        have htky162 : tkR T n Fvy75 (tk_nx T n (tk_nx T n f)) := hkvy75
        have htoy163 := tk_to_w (T := T) (n := n) (f := (tk_nx T n (tk_nx T n f))) htky162.1.1
        have h32y164 := htky162.2.1
        have hey165 : Fvy75 24 = ((tk_nx T n (tk_nx T n f)) : Int) := hbvy75
        have hey166 : Fvy75 38 = cvy75 := hevy75
        have hey167 : Fvy75 47 = sl := ((hFvy75 47 (by decide) (by decide) (by decide) (by decide) (by decide) (by decide) (by decide)).trans ((hFvy69 47 (by decide) (by decide) (by decide) (by decide) (by decide)).trans ((hFvy67 47 (by decide) (by decide)).trans ((hFvy22 47 (by decide) (by decide)).trans ((hFvy15 47 (by decide) (by decide) (by decide) (by decide) (by decide)).trans r47)))))
        have hey168 : Fvy75 48 = ho := ((hFvy75 48 (by decide) (by decide) (by decide) (by decide) (by decide) (by decide) (by decide)).trans ((hFvy69 48 (by decide) (by decide) (by decide) (by decide) (by decide)).trans ((hFvy67 48 (by decide) (by decide)).trans ((hFvy22 48 (by decide) (by decide)).trans ((hFvy15 48 (by decide) (by decide) (by decide) (by decide) (by decide)).trans r48)))))
        have hey169 : Fvy75 49 = nm := ((hFvy75 49 (by decide) (by decide) (by decide) (by decide) (by decide) (by decide) (by decide)).trans ((hFvy69 49 (by decide) (by decide) (by decide) (by decide) (by decide)).trans ((hFvy67 49 (by decide) (by decide)).trans ((hFvy22 49 (by decide) (by decide)).trans ((hFvy15 49 (by decide) (by decide) (by decide) (by decide) (by decide)).trans r49)))))
        have hfry172 : ∀ j, j ≠ kty25 → ry158 j = tb1 j := fun j n0 => (congrFun hvy159 _).trans ((uZ_n _ _ n0).trans (rfl))
        have hwy173 : ry158 (kty25) = 1 := (congrFun hvy159 _).trans (uZ_s _ _ _)
        have haky171 : ∀ k, k < 15 → ry158 k = -1 ∨ ((0 ≤ ry158 k ∧ ry158 k ≤ 9999) ∧ (10 ≤ k → 1 ≤ ry158 k)) := by
          intro k hk
          by_cases e : k = kty25
          · rw [e]; have hk0 := htb1 (kty25) (by omega); omega
          · have hk0 := htb1 k hk; rw [hfry172 k e]; exact hk0
        have hlay174 : ∀ s l : Nat, (s : Int) < Fvy75 47 → (l : Int) < mn1 s → lyT ly1 (84 * s + 7 * l) := by
          intro s l a1 a2
          have hm9 := hmn1 s (by omega)
          exact hly1 s l (by omega) a2
        have hgy175 := (hfvy15 (i + 16) (ne_o (i := i) (c := 16) (d := 0) rfl)).trans ha16
        have hgy176 := (hfvy22 (i + 16) (ne_o (i := i) (c := 16) (d := 0) rfl)).trans hgy175
        have hgy177 := (hfvy67 (i + 16) (ne_o (i := i) (c := 16) (d := 0) rfl)).trans hgy176
        have hgy178 := (hfvy69 (i + 16) (ne_o (i := i) (c := 16) (d := 0) rfl)).trans hgy177
        have hgy179 := (hfvy75 (i + 16) (ne_o (i := i) (c := 16) (d := 0) rfl)).trans hgy178
        have hgy180 := up_n egy156 hgy179 (ne_o (i := i) (c := 16) (d := 22) rfl)
        have hgy181 := (hfvy15 (i + 17) (ne_o (i := i) (c := 17) (d := 0) rfl)).trans ha17
        have hgy182 := (hfvy22 (i + 17) (ne_o (i := i) (c := 17) (d := 0) rfl)).trans hgy181
        have hgy183 := (hfvy67 (i + 17) (ne_o (i := i) (c := 17) (d := 0) rfl)).trans hgy182
        have hgy184 := (hfvy69 (i + 17) (ne_o (i := i) (c := 17) (d := 0) rfl)).trans hgy183
        have hgy185 := (hfvy75 (i + 17) (ne_o (i := i) (c := 17) (d := 0) rfl)).trans hgy184
        have hgy186 := up_n egy156 hgy185 (ne_o (i := i) (c := 17) (d := 22) rfl)
        have hgy187 := (hfvy15 (i + 18) (ne_o (i := i) (c := 18) (d := 0) rfl)).trans ha18
        have hgy188 := (hfvy22 (i + 18) (ne_o (i := i) (c := 18) (d := 0) rfl)).trans hgy187
        have hgy189 := (hfvy67 (i + 18) (ne_o (i := i) (c := 18) (d := 0) rfl)).trans hgy188
        have hgy190 := (hfvy69 (i + 18) (ne_o (i := i) (c := 18) (d := 0) rfl)).trans hgy189
        have hgy191 := (hfvy75 (i + 18) (ne_o (i := i) (c := 18) (d := 0) rfl)).trans hgy190
        have hgy192 := up_n egy156 hgy191 (ne_o (i := i) (c := 18) (d := 22) rfl)
        have hgy193 := (hfvy15 (i + 19) (ne_o (i := i) (c := 19) (d := 0) rfl)).trans ha19
        have hgy194 := (hfvy22 (i + 19) (ne_o (i := i) (c := 19) (d := 0) rfl)).trans hgy193
        have hgy195 := (hfvy67 (i + 19) (ne_o (i := i) (c := 19) (d := 0) rfl)).trans hgy194
        have hgy196 := (hfvy69 (i + 19) (ne_o (i := i) (c := 19) (d := 0) rfl)).trans hgy195
        have hgy197 := (hfvy75 (i + 19) (ne_o (i := i) (c := 19) (d := 0) rfl)).trans hgy196
        have hgy198 := up_n egy156 hgy197 (ne_o (i := i) (c := 19) (d := 22) rfl)
        have hgy199 := (hfvy15 (i + 20) (ne_o (i := i) (c := 20) (d := 0) rfl)).trans ha20
        have hgy200 := (hfvy22 (i + 20) (ne_o (i := i) (c := 20) (d := 0) rfl)).trans hgy199
        have hgy201 := (hfvy67 (i + 20) (ne_o (i := i) (c := 20) (d := 0) rfl)).trans hgy200
        have hgy202 := (hfvy69 (i + 20) (ne_o (i := i) (c := 20) (d := 0) rfl)).trans hgy201
        have hgy203 := (hfvy75 (i + 20) (ne_o (i := i) (c := 20) (d := 0) rfl)).trans hgy202
        have hgy204 := up_n egy156 hgy203 (ne_o (i := i) (c := 20) (d := 22) rfl)
        have hgy205 := (hfvy15 (i + 21) (ne_o (i := i) (c := 21) (d := 0) rfl)).trans ha21
        have hgy206 := (hfvy22 (i + 21) (ne_o (i := i) (c := 21) (d := 0) rfl)).trans hgy205
        have hgy207 := (hfvy67 (i + 21) (ne_o (i := i) (c := 21) (d := 0) rfl)).trans hgy206
        have hgy208 := (hfvy69 (i + 21) (ne_o (i := i) (c := 21) (d := 0) rfl)).trans hgy207
        have hgy209 := (hfvy75 (i + 21) (ne_o (i := i) (c := 21) (d := 0) rfl)).trans hgy208
        have hgy210 := up_n egy156 hgy209 (ne_o (i := i) (c := 21) (d := 22) rfl)
        have hgy211 := (hfvy15 (i + 23) (ne_o (i := i) (c := 23) (d := 0) rfl)).trans ha23
        have hgy212 := (hfvy22 (i + 23) (ne_o (i := i) (c := 23) (d := 0) rfl)).trans hgy211
        have hgy213 := (hfvy67 (i + 23) (ne_o (i := i) (c := 23) (d := 0) rfl)).trans hgy212
        have hgy214 := (hfvy69 (i + 23) (ne_o (i := i) (c := 23) (d := 0) rfl)).trans hgy213
        have hgy215 := (hfvy75 (i + 23) (ne_o (i := i) (c := 23) (d := 0) rfl)).trans hgy214
        have hgy216 := up_n egy156 hgy215 (ne_o (i := i) (c := 23) (d := 22) rfl)
        have htxy217 : okTx cs gy155 i Fvy75 := ⟨_, _, _, _, _, _, _, _, ⟨hgy180, hgy186, hgy192, hgy198, hgy204, hgy210, hgy157, hgy216⟩, ⟨⟨by omega, by omega, by omega⟩, hop1, hmn1, hai1, hfa1, haky171, hlay174⟩⟩
        exact z_vret C hr hlk dX10_table1_95 (by decide) (by decide) ⟨rfl, rfl, rfl, ⟨_, hgy160, hFy161, Or.inr ⟨(cvy75, (tk_nx T n (tk_nx T n f))), by simp only [cl_table, if_neg hxvy20, if_neg hscy31, hnvy75], by show Fvy75 38 = cvy75; omega, by show Fvy75 24 = (((tk_nx T n (tk_nx T n f)) : Nat) : Int); omega, by show 1 ≤ cvy75 ∧ cvy75 ≤ 5; omega, ⟨_, htky162⟩, htxy217⟩⟩, fun j j1 j2 => by rw [egy156, va_up_ne _ _ (by omega)]; rw [hfvy75 _ (by omega)]; rw [hfvy69 _ (by omega)]; rw [hfvy67 _ (by omega)]; rw [hfvy22 _ (by omega)]; rw [hfvy15 _ (by omega)]⟩
  · refine z_iconst (z := 1) C dX10_table1_17 rfl ?_
    have h33vy218 : Fvy15 33 = ((tk_nx T n f) : Int) := hkvy15.2.2.1
    have h24vy218 : Fvy15 24 = F 24 := (hFvy15 24 (by decide) (by decide) (by decide) (by decide) (by decide))
    have htvy218 : tkR T n Fvy15 (tk_nx T n f) := hkvy15
    refine z_cV (As := [.int (zI (0)), .int (zI (1))]) (rest := []) (ci := 12) C (c_yWants l D A cs tt N ad _ i hN _ hcvy15 ((hFvy15 38 (by decide) (by decide) (by decide) (by decide) (by decide)).trans h38) (0) (by omega) (1) (by omega)) (lt_A0 hN rfl) hay1 hcvy15 rfl rfl mv_yX10_wants q_1682 hd_yX10_wants (by decide) (Nat.le_of_ble_eq_true rfl) (by decide) dX10_table1_18 rfl (kI0 fun vy218 gvy218 hvy218 => ?_)
    obtain ⟨⟨Fvy218, hcvy218, hqvy218, hFvy218⟩, hfvy218⟩ := hvy218
    obtain ⟨rfl, hevy218, hbvy218⟩ : vy218 = 0 ∧ Fvy218 38 = 1 ∧ Fvy218 24 = ((tk_nx T n f) : Int) := by omega
    clear hqvy218 h33vy218 h24vy218
    have hkvy218 : tkR T n Fvy218 (tk_nx T n f) := tkR.w htvy218 hFvy218 (by omega)
    refine z_if_ne (tgt := 25) C dX10_table1_21 (by decide) (by omega) (fun h => absurd h (by omega)) (fun _ => ?_)
    have hFy219 : ∀ f, f ≠ 24 → f ≠ 32 → f ≠ 33 → f ≠ 35 → f ≠ 36 → f ≠ 37 → f ≠ 38 → f ≠ 47 → f ≠ 48 → f ≠ 49 → Fvy218 f = F f := fun f n24 n32 n33 n35 n36 n37 n38 n47 n48 n49 => ((hFvy218 f n24 n38).trans (hFvy15 f n32 n33 n35 n36 n37))
    have htky220 : tkR T n Fvy218 (tk_nx T n f) := hkvy218
    have htoy221 := tk_to_w (T := T) (n := n) (f := (tk_nx T n f)) htky220.1.1
    have h32y222 := htky220.2.1
    have hey223 : Fvy218 24 = ((tk_nx T n f) : Int) := hbvy218
    have hey224 : Fvy218 38 = 1 := hevy218
    have hey225 : Fvy218 47 = sl := ((hFvy218 47 (by decide) (by decide)).trans ((hFvy15 47 (by decide) (by decide) (by decide) (by decide) (by decide)).trans r47))
    have hey226 : Fvy218 48 = ho := ((hFvy218 48 (by decide) (by decide)).trans ((hFvy15 48 (by decide) (by decide) (by decide) (by decide) (by decide)).trans r48))
    have hey227 : Fvy218 49 = nm := ((hFvy218 49 (by decide) (by decide)).trans ((hFvy15 49 (by decide) (by decide) (by decide) (by decide) (by decide)).trans r49))
    have hlay229 : ∀ s l : Nat, (s : Int) < Fvy218 47 → (l : Int) < mn1 s → lyT ly1 (84 * s + 7 * l) := by
      intro s l a1 a2
      have hm9 := hmn1 s (by omega)
      exact hly1 s l (by omega) a2
    have hgy230 := (hfvy15 (i + 16) (ne_o (i := i) (c := 16) (d := 0) rfl)).trans ha16
    have hgy231 := (hfvy218 (i + 16) (ne_o (i := i) (c := 16) (d := 0) rfl)).trans hgy230
    have hgy232 := (hfvy15 (i + 17) (ne_o (i := i) (c := 17) (d := 0) rfl)).trans ha17
    have hgy233 := (hfvy218 (i + 17) (ne_o (i := i) (c := 17) (d := 0) rfl)).trans hgy232
    have hgy234 := (hfvy15 (i + 18) (ne_o (i := i) (c := 18) (d := 0) rfl)).trans ha18
    have hgy235 := (hfvy218 (i + 18) (ne_o (i := i) (c := 18) (d := 0) rfl)).trans hgy234
    have hgy236 := (hfvy15 (i + 19) (ne_o (i := i) (c := 19) (d := 0) rfl)).trans ha19
    have hgy237 := (hfvy218 (i + 19) (ne_o (i := i) (c := 19) (d := 0) rfl)).trans hgy236
    have hgy238 := (hfvy15 (i + 20) (ne_o (i := i) (c := 20) (d := 0) rfl)).trans ha20
    have hgy239 := (hfvy218 (i + 20) (ne_o (i := i) (c := 20) (d := 0) rfl)).trans hgy238
    have hgy240 := (hfvy15 (i + 21) (ne_o (i := i) (c := 21) (d := 0) rfl)).trans ha21
    have hgy241 := (hfvy218 (i + 21) (ne_o (i := i) (c := 21) (d := 0) rfl)).trans hgy240
    have hgy242 := (hfvy15 (i + 22) (ne_o (i := i) (c := 22) (d := 0) rfl)).trans ha22
    have hgy243 := (hfvy218 (i + 22) (ne_o (i := i) (c := 22) (d := 0) rfl)).trans hgy242
    have hgy244 := (hfvy15 (i + 23) (ne_o (i := i) (c := 23) (d := 0) rfl)).trans ha23
    have hgy245 := (hfvy218 (i + 23) (ne_o (i := i) (c := 23) (d := 0) rfl)).trans hgy244
    have htxy246 : okTx cs gvy218 i Fvy218 := ⟨_, _, _, _, _, _, _, _, ⟨hgy231, hgy233, hgy235, hgy237, hgy239, hgy241, hgy243, hgy245⟩, ⟨⟨by omega, by omega, by omega⟩, hop1, hmn1, hai1, hfa1, htb1, hlay229⟩⟩
    exact z_vret C hr hlk dX10_table1_24 (by decide) (by decide) ⟨rfl, rfl, rfl, ⟨_, hcvy218, hFy219, Or.inr ⟨(1, (tk_nx T n f)), by simp only [cl_table, if_pos hxvy20], by show Fvy218 38 = 1; omega, by show Fvy218 24 = (((tk_nx T n f) : Nat) : Int); omega, by show 1 ≤ 1 ∧ 1 ≤ 5; omega, ⟨_, htky220⟩, htxy246⟩⟩, fun j j1 j2 => by rw [hfvy218 _ (by omega)]; rw [hfvy15 _ (by omega)]⟩

