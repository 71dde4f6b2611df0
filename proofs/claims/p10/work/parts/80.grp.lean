section
-- 80.refh.lean.txt
set_option maxRecDepth 100000 in
set_option maxHeartbeats 4000000 in
theorem c_X10_warms (l : Launch) (D : va_G) (A : Nat → Prop) (cs : Nat → ClassId) (tt : Nat) (N : Nat) (ad : Nat → Nat) (g : Nat → va_E) (i : Nat) (hN : i + 30 ≤ N) (F : Nat → Int) (hg : g i = mC ad i F) (r : Nat → Int) (ha1 : g (i + 1) = iA cs 29200 r) (op : Nat → Int) (ha3 : g (i + 3) = iA cs 4 op) (b s p : Nat) (hp : b + 6 + 86 * s = p) (hb : b + 350 ≤ 29200) (hs : s < 4) (M E : Int) (hM : M ≤ 138500) (hE : E ≤ 400000000) (ho : okS r p M E) (hop : ∀ k, k < 4 → 0 ≤ op k ∧ op k ≤ 20) (z1 : Int) (hz1 : 1 ≤ z1 ∧ z1 ≤ 100) : zM l yX10_warms cX10_warms 9 none ({ frames := 2, cells := 0, slots := 0, locals := 120 } : Room) D A cs tt N ad g [.ref (ad i), .int (zI ((b : Int))), .int (zI ((s : Int))), .int (zI (z1))] (rV0 N ad fun g' => (∃ r' : Nat → Int, g' (i + 1) = iA cs 29200 r' ∧ okS r' p (M) (E) ∧ (∀ j, j < p ∨ p + 86 ≤ j → r' j = r j)) ∧ ∀ j, j ≠ i + 1 → g' j = g j) := by
  have hay1 : zAt ad (i) (ad i) := rfl
  have hay2 : zAt ad (i + 1) (ad (i + 1)) := rfl
  have hay3 : zAt ad (i + 3) (ad (i + 3)) := rfl
  have hmky4 := ho.1
  obtain ⟨n, hn1, hn2, hn3, hn4, hn5⟩ := ho.get
  refine z_of (by decide) (Nat.le_of_ble_eq_true rfl) ?_
  intro pZ eZ sZ mZ below meth cZ C hr hlk hnm
  refine z_lv (lv' := [(0, .ref (ad i)), (1, .int (zI ((b : Int)))), (2, .int (zI ((s : Int)))), (3, .int (zI (z1)))]) [0, 1, 2, 3] rfl ?_
  have lp : ∀ (n9 : Nat) (he : Int) (r9 : Nat → Int) (g1 : Nat → va_E), (r9 p).toNat = n9 → (g1 (i + 1) = iA cs 29200 r9) → (∀ j, j ≠ i + 1 → g1 j = g j) → (okS r9 p M (E)) → (∀ j, j < p ∨ p + 86 ≤ j → r9 j = r j) → (0 ≤ he ∧ he ≤ 2000) → zV pZ l eZ ({ frames := 2, cells := 0, slots := 0, locals := 120 } : Room) sZ mZ ([.ref (ad i), .int (zI ((b : Int))), .int (zI ((s : Int))), .int (zI (z1))] : List Value).toArray below meth cZ (MQ below (zPost D A (rV0 N ad fun g' => (∃ r' : Nat → Int, g' (i + 1) = iA cs 29200 r' ∧ okS r' p (M) (E) ∧ (∀ j, j < p ∨ p + 86 ≤ j → r' j = r j)) ∧ ∀ j, j ≠ i + 1 → g' j = g j)) ([.ref (ad i), .int (zI ((b : Int))), .int (zI ((s : Int))), .int (zI (z1))] : List Value).toArray sZ ({ frames := 2, cells := 0, slots := 0, locals := 120 } : Room).cells ({ frames := 2, cells := 0, slots := 0, locals := 120 } : Room).slots A) D A 9 (N) ad g1 (0) (0) 10 [(0, .ref (ad i)), (1, .int (zI ((b : Int)))), (2, .int (zI ((s : Int)))), (3, .int (zI (z1))), (4, .int (zI (he)))] [] := by
    intro n9
    induction n9 using Nat.strongRecOn with
    | ind n9 ih =>
      intro he r9 g1 hm9 f2 f3 f4 f5 hv
      have hay5 : zAt ad (i) (ad i) := rfl
      have hay6 : zAt ad (i + 1) (ad (i + 1)) := rfl
      have hay7 : zAt ad (i + 3) (ad (i + 3)) := rfl
      have hm9 := f4.1
      refine z_iload C 4 dX10_warms_10 rfl ?_
      refine z_if_le (tgt := 249) C dX10_warms_12 (by decide) (by omega) (fun hby8 => ?_) (fun hby8 => ?_)
      · exact z_vret C hr hlk dX10_warms_249 (by decide) (by decide) ⟨rfl, rfl, rfl, ⟨_, f2, f4, f5⟩, fun j j1 => by exact f3 j j1⟩
      · refine z_aload_n C 0 dX10_warms_15 rfl ?_
        refine z_iload_n C 1 dX10_warms_16 rfl ?_
        refine z_iload_n C 2 dX10_warms_17 rfl ?_
        refine z_cV (As := [.int (zI ((b : Int))), .int (zI ((s : Int)))]) (rest := []) (ci := 12) C (c_X10_many l D A cs tt N ad _ i hN _ ((f3 _ (by omega)).trans hg) _ f2 b s p hp (by omega) (by omega)) (lt_A0 hN rfl) hay5 ((f3 _ (by omega)).trans hg) rfl rfl mv_yX10_many q_1733 hd_yX10_many (by decide) (Nat.le_of_ble_eq_true rfl) (by decide) dX10_warms_18 rfl (kI0 fun vy9 gvy9 hvy9 => ?_)
        obtain ⟨rfl, rfl⟩ := hvy9
        refine z_if_le (tgt := 249) C dX10_warms_21 (by decide) (by omega) (fun hby10 => ?_) (fun hby10 => ?_)
        · exact z_vret C hr hlk dX10_warms_249 (by decide) (by decide) ⟨rfl, rfl, rfl, ⟨_, f2, f4, f5⟩, fun j j1 => by exact f3 j j1⟩
        · refine z_aload_n C 0 dX10_warms_24 rfl ?_
          refine z_iload_n C 1 dX10_warms_25 rfl ?_
          refine z_iload_n C 2 dX10_warms_26 rfl ?_
          refine z_cV (As := [.int (zI ((b : Int))), .int (zI ((s : Int)))]) (rest := []) (ci := 12) C (c_X10_many l D A cs tt N ad _ i hN _ ((f3 _ (by omega)).trans hg) _ f2 b s p hp (by omega) (by omega)) (lt_A0 hN rfl) hay5 ((f3 _ (by omega)).trans hg) rfl rfl mv_yX10_many q_1733 hd_yX10_many (by decide) (Nat.le_of_ble_eq_true rfl) (by decide) dX10_warms_27 rfl (kI0 fun vy11 gvy11 hvy11 => ?_)
          obtain ⟨rfl, rfl⟩ := hvy11
          refine z_iconst (z := 1) C dX10_warms_30 rfl ?_
          refine z_isub C dX10_warms_31 ?_
          refine z_istore (lv' := [(5, .int (zI ((r9 (p)) - 1))), (0, .ref (ad i)), (1, .int (zI ((b : Int)))), (2, .int (zI ((s : Int)))), (3, .int (zI (z1))), (4, .int (zI (he)))]) C dX10_warms_32 (by decide) rfl ?_
          refine z_iload_n C 2 dX10_warms_34 rfl ?_
          refine z_iload_n C 3 dX10_warms_35 rfl ?_
          refine z_iload C 0 dX10_warms_36 rfl ?_
          obtain ⟨ky12, hky12⟩ : ∃ k9 : Nat, ((r9 (p)) - 1) = (k9 : Int) := ⟨(((r9 (p)) - 1) : Int).toNat, by omega⟩
          obtain ⟨qy13, hqy13⟩ : ∃ q9 : Nat, p + 2 + 7 * ky12 = q9 := ⟨_, rfl⟩
          obtain ⟨⟨hKzy14, hIzy14, hWzy14, hDzy14, hTzy14, hnzy14⟩, hmzy14, hdzy14⟩ := okS.layer f4 (k := ky12) (by omega) hqy13
          refine z_cS (As := [.int (zI ((b : Int))), .int (zI ((s : Int))), .int (zI ((r9 (p)) - 1))]) (rest := []) C (c_X10_at l D A cs tt N ad _ ((b : Int)) (by omega) ((s : Int)) (by omega) ((r9 (p)) - 1) (by omega)) ms_yX10_at q_1753 hd_yX10_at (by decide) (Nat.le_of_ble_eq_true rfl) (by decide) dX10_warms_38 rfl (kI0 fun vy15 gvy15 hvy15 => ?_)
          obtain ⟨hvy15, rfl⟩ := hvy15
          rw [show vy15 = (qy13 : Int) by omega]
          refine z_istore (lv' := [(6, .int (zI ((qy13 : Int)))), (5, .int (zI ((r9 (p)) - 1))), (0, .ref (ad i)), (1, .int (zI ((b : Int)))), (2, .int (zI ((s : Int)))), (3, .int (zI (z1))), (4, .int (zI (he)))]) C dX10_warms_41 (by decide) rfl ?_
          refine z_iload C 6 dX10_warms_43 rfl ?_
          refine z_aload_n C 2 dX10_warms_45 rfl ?_
          refine z_get (v := .ref (ad (i + 1))) C (lt_A0 hN rfl) hay5 ((f3 _ (by omega)).trans hg) rfl inA_X10 0 (by decide) q_1459 rfl rfl dX10_warms_46 ?_
          refine z_iload C 0 dX10_warms_49 rfl ?_
          refine z_iconst (z := 1) C dX10_warms_51 rfl ?_
          refine z_iadd C dX10_warms_52 ?_
          refine z_iald C (lt_A (c := 1) hN rfl) hay6 f2 (qy13 + 1) (by omega) (by omega) (by decide) dX10_warms_53 ?_
          refine z_idiv C dX10_warms_54 (by omega) (by omega) (by omega) ?_
          obtain ⟨xy16, exy16, hxy16⟩ := tdp (a := he) (k := r9 (qy13 + 1)) (by omega) (by omega)
          rw [exy16]
          refine z_aload_n C 2 dX10_warms_55 rfl ?_
          refine z_get (v := .ref (ad (i + 1))) C (lt_A0 hN rfl) hay5 ((f3 _ (by omega)).trans hg) rfl inA_X10 0 (by decide) q_1459 rfl rfl dX10_warms_56 ?_
          refine z_iload C 0 dX10_warms_59 rfl ?_
          refine z_iconst (z := 4) C dX10_warms_61 rfl ?_
          refine z_iadd C dX10_warms_62 ?_
          refine z_iald C (lt_A (c := 1) hN rfl) hay6 f2 (qy13 + 4) (by omega) (by omega) (by decide) dX10_warms_63 ?_
          refine z_ineg C dX10_warms_64 ?_
          refine z_cS (As := [.int (zI (xy16)), .int (zI (-(r9 (qy13 + 4))))]) (rest := []) C (c_X10_lesser l D A cs tt N ad _ (xy16) (by omega) (-(r9 (qy13 + 4))) (by omega)) ms_yX10_lesser q_1792 hd_yX10_lesser (by decide) (Nat.le_of_ble_eq_true rfl) (by decide) dX10_warms_65 rfl (kI0 fun vy17 gvy17 hvy17 => ?_)
          obtain ⟨hvy17, rfl⟩ := hvy17
          refine z_istore (lv' := [(7, .int (zI (vy17))), (6, .int (zI ((qy13 : Int)))), (5, .int (zI ((r9 (p)) - 1))), (0, .ref (ad i)), (1, .int (zI ((b : Int)))), (2, .int (zI ((s : Int)))), (3, .int (zI (z1))), (4, .int (zI (he)))]) C dX10_warms_68 (by decide) rfl ?_
          refine z_aload_n C 3 dX10_warms_70 rfl ?_
          refine z_get (v := .ref (ad (i + 1))) C (lt_A0 hN rfl) hay5 ((f3 _ (by omega)).trans hg) rfl inA_X10 0 (by decide) q_1459 rfl rfl dX10_warms_71 ?_
          refine z_iload C 1 dX10_warms_74 rfl ?_
          refine z_iconst (z := 4) C dX10_warms_76 rfl ?_
          refine z_iadd C dX10_warms_77 ?_
          refine z_dup2 C dX10_warms_78 rfl rfl ?_
          refine z_iald C (lt_A (c := 1) hN rfl) hay6 f2 (qy13 + 4) (by omega) (by omega) (by decide) dX10_warms_79 ?_
          refine z_iload C 0 dX10_warms_80 rfl ?_
          refine z_iadd C dX10_warms_82 ?_
          refine z_iast C (lt_A (c := 1) hN rfl) hay6 f2 (qy13 + 4) (by omega) (by omega) (by decide) dX10_warms_83 (fun gy18 egy19 => ?_)
          have hgy20 := up_s egy19
          obtain ⟨ry21, hvy22⟩ : ∃ rZ9 : Nat → Int, rZ9 = uZ r9 (qy13 + 4) ((r9 (qy13 + 4)) + vy17) := ⟨_, rfl⟩
          rw [← hvy22] at hgy20
          refine z_iload C 7 dX10_warms_84 rfl ?_
          refine z_iload C 0 dX10_warms_86 rfl ?_
          refine z_aload_n C 3 dX10_warms_88 rfl ?_
          have hgy23 := up_n egy19 ((f3 _ (by omega)).trans hg) (ne_o (i := i) (c := 0) (d := 1) rfl)
          refine z_get (v := .ref (ad (i + 1))) C (lt_A0 hN rfl) hay5 hgy23 rfl inA_X10 0 (by decide) q_1459 rfl rfl dX10_warms_89 ?_
          refine z_iload C 1 dX10_warms_92 rfl ?_
          refine z_iconst (z := 1) C dX10_warms_94 rfl ?_
          refine z_iadd C dX10_warms_95 ?_
          refine z_iald C (lt_A (c := 1) hN rfl) hay6 hgy20 (qy13 + 1) (by omega) (by omega) (by decide) dX10_warms_96 ?_
          rw [show ry21 (qy13 + 1) = r9 (qy13 + 1) from (congrFun hvy22 _).trans ((uZ_n _ _ (by omega)).trans (rfl))]
          refine z_imul C dX10_warms_97 ?_
          obtain ⟨xy24, exy24, hxy24⟩ := mulx (a := vy17) (x := xy16) (c := r9 (qy13 + 1)) (h := he) (by omega) (by omega) (by omega) hxy16.2.2
          rw [exy24]
          refine z_isub C dX10_warms_98 ?_
          refine z_istore (lv' := [(4, .int (zI (he - xy24))), (7, .int (zI (vy17))), (6, .int (zI ((qy13 : Int)))), (5, .int (zI ((r9 (p)) - 1))), (0, .ref (ad i)), (1, .int (zI ((b : Int)))), (2, .int (zI ((s : Int)))), (3, .int (zI (z1)))]) C dX10_warms_99 (by decide) rfl ?_
          refine z_aload_n C 4 dX10_warms_101 rfl ?_
          refine z_get (v := .ref (ad (i + 1))) C (lt_A0 hN rfl) hay5 hgy23 rfl inA_X10 0 (by decide) q_1459 rfl rfl dX10_warms_102 ?_
          refine z_iload C 2 dX10_warms_105 rfl ?_
          refine z_iconst (z := 4) C dX10_warms_107 rfl ?_
          refine z_iadd C dX10_warms_108 ?_
          refine z_iald C (lt_A (c := 1) hN rfl) hay6 hgy20 (qy13 + 4) (by omega) (by omega) (by decide) dX10_warms_109 ?_
          rw [show ry21 (qy13 + 4) = (r9 (qy13 + 4)) + vy17 from (congrFun hvy22 _).trans (uZ_s _ _ _)]
          refine z_if_ne (tgt := 133) C dX10_warms_110 (by decide) (by omega) (fun hby25 => ?_) (fun hby25 => ?_)
          · refine z_iconst (z := 0) C dX10_warms_133 rfl ?_
            refine z_istore (lv' := [(8, .int (zI (0))), (4, .int (zI (he - xy24))), (7, .int (zI (vy17))), (6, .int (zI ((qy13 : Int)))), (5, .int (zI ((r9 (p)) - 1))), (0, .ref (ad i)), (1, .int (zI ((b : Int)))), (2, .int (zI ((s : Int)))), (3, .int (zI (z1)))]) C dX10_warms_134 (by decide) rfl ?_
            refine z_aload_n C 5 dX10_warms_136 rfl ?_
            refine z_get (v := .ref (ad (i + 1))) C (lt_A0 hN rfl) hay5 hgy23 rfl inA_X10 0 (by decide) q_1459 rfl rfl dX10_warms_137 ?_
            refine z_iload C 3 dX10_warms_140 rfl ?_
            refine z_iconst (z := 1) C dX10_warms_142 rfl ?_
            refine z_iadd C dX10_warms_143 ?_
            refine z_dup2 C dX10_warms_144 rfl rfl ?_
            refine z_iald C (lt_A (c := 1) hN rfl) hay6 hgy20 (qy13 + 1) (by omega) (by omega) (by decide) dX10_warms_145 ?_
            rw [show ry21 (qy13 + 1) = r9 (qy13 + 1) from (congrFun hvy22 _).trans ((uZ_n _ _ (by omega)).trans (rfl))]
            refine z_iload C 0 dX10_warms_146 rfl ?_
            refine z_isub C dX10_warms_148 ?_
            refine z_iast C (lt_A (c := 1) hN rfl) hay6 hgy20 (qy13 + 1) (by omega) (by omega) (by decide) dX10_warms_149 (fun gy26 egy27 => ?_)
            have hgy28 := up_s egy27
            obtain ⟨ry29, hvy30⟩ : ∃ rZ9 : Nat → Int, rZ9 = uZ ry21 (qy13 + 1) ((r9 (qy13 + 1)) - 0) := ⟨_, rfl⟩
            rw [← hvy30] at hgy28
            refine z_aload_n C 5 dX10_warms_150 rfl ?_
            have hgy31 := up_n egy27 hgy23 (ne_o (i := i) (c := 0) (d := 1) rfl)
            refine z_get (v := .ref (ad (i + 1))) C (lt_A0 hN rfl) hay5 hgy31 rfl inA_X10 0 (by decide) q_1459 rfl rfl dX10_warms_151 ?_
            refine z_iload C 3 dX10_warms_154 rfl ?_
            refine z_iconst (z := 2) C dX10_warms_156 rfl ?_
            refine z_iadd C dX10_warms_157 ?_
            refine z_dup2 C dX10_warms_158 rfl rfl ?_
            refine z_iald C (lt_A (c := 1) hN rfl) hay6 hgy28 (qy13 + 2) (by omega) (by omega) (by decide) dX10_warms_159 ?_
            rw [show ry29 (qy13 + 2) = r9 (qy13 + 2) from (congrFun hvy30 _).trans ((uZ_n _ _ (by omega)).trans ((congrFun hvy22 _).trans ((uZ_n _ _ (by omega)).trans (rfl))))]
            refine z_iload C 0 dX10_warms_160 rfl ?_
            refine z_iadd C dX10_warms_162 ?_
            refine z_iast C (lt_A (c := 1) hN rfl) hay6 hgy28 (qy13 + 2) (by omega) (by omega) (by decide) dX10_warms_163 (fun gy32 egy33 => ?_)
            have hgy34 := up_s egy33
            obtain ⟨ry35, hvy36⟩ : ∃ rZ9 : Nat → Int, rZ9 = uZ ry29 (qy13 + 2) ((r9 (qy13 + 2)) + 0) := ⟨_, rfl⟩
            rw [← hvy36] at hgy34
            refine z_iload C 1 dX10_warms_164 rfl ?_
            refine z_bipush (z := 100) C dX10_warms_166 (by decide) ?_
            refine z_iload C 0 dX10_warms_168 rfl ?_
            refine z_imul C dX10_warms_170 ?_
            refine z_isub C dX10_warms_171 ?_
            refine z_istore (lv' := [(4, .int (zI ((he - xy24) - (100 * 0)))), (8, .int (zI (0))), (7, .int (zI (vy17))), (6, .int (zI ((qy13 : Int)))), (5, .int (zI ((r9 (p)) - 1))), (0, .ref (ad i)), (1, .int (zI ((b : Int)))), (2, .int (zI ((s : Int)))), (3, .int (zI (z1)))]) C dX10_warms_172 (by decide) rfl ?_
            refine z_aload_n C 5 dX10_warms_174 rfl ?_
            have hgy37 := up_n egy33 hgy31 (ne_o (i := i) (c := 0) (d := 1) rfl)
            refine z_get (v := .ref (ad (i + 1))) C (lt_A0 hN rfl) hay5 hgy37 rfl inA_X10 0 (by decide) q_1459 rfl rfl dX10_warms_175 ?_
            refine z_iload C 3 dX10_warms_178 rfl ?_
            refine z_iconst (z := 1) C dX10_warms_180 rfl ?_
            refine z_iadd C dX10_warms_181 ?_
            refine z_iald C (lt_A (c := 1) hN rfl) hay6 hgy34 (qy13 + 1) (by omega) (by omega) (by decide) dX10_warms_182 ?_
            rw [show ry35 (qy13 + 1) = (r9 (qy13 + 1)) - 0 from (congrFun hvy36 _).trans ((uZ_n _ _ (by omega)).trans ((congrFun hvy30 _).trans (uZ_s _ _ _)))]
            refine z_if_le (tgt := 187) C dX10_warms_183 (by decide) (by omega) (fun hby38 => ?_) (fun hby38 => ?_)
            · refine z_aload_n C 5 dX10_warms_187 rfl ?_
              refine z_iload_n C 6 dX10_warms_188 rfl ?_
              refine z_iload_n C 7 dX10_warms_189 rfl ?_
              refine z_iload C 4 dX10_warms_190 rfl ?_
              refine z_cV (As := [.int (zI ((b : Int))), .int (zI ((s : Int))), .int (zI ((r9 (p)) - 1))]) (rest := []) (ci := 12) C (c_X10_setsMany l D A cs tt N ad _ i hN _ hgy37 _ hgy34 b s p hp (by omega) (by omega) ((r9 (p)) - 1)) (lt_A0 hN rfl) hay5 hgy37 rfl rfl mv_yX10_setsMany q_1717 hd_yX10_setsMany (by decide) (Nat.le_of_ble_eq_true rfl) (by decide) dX10_warms_192 rfl (kV0 fun gvy39 hvy39 => ?_)
              obtain ⟨hcvy39, hfvy39⟩ := hvy39
              obtain ⟨ry40, hvy41⟩ : ∃ rZ9 : Nat → Int, rZ9 = uZ ry35 (p) ((r9 (p)) - 1) := ⟨_, rfl⟩
              rw [← hvy41] at hcvy39
              refine z_iload C 4 dX10_warms_195 rfl ?_
              refine z_if_ne (tgt := 218) C dX10_warms_197 (by decide) (by omega) (fun hby42 => ?_) (fun hby42 => ?_)
              · refine z_aload_n C 5 dX10_warms_218 rfl ?_
                have hgy43 := (hfvy39 (i) (ne_o (i := i) (c := 0) (d := 1) rfl)).trans hgy37
                refine z_get (v := .ref (ad (i + 1))) C (lt_A0 hN rfl) hay5 hgy43 rfl inA_X10 0 (by decide) q_1459 rfl rfl dX10_warms_219 ?_
                refine z_iload_n C 6 dX10_warms_222 rfl ?_
                refine z_iload_n C 7 dX10_warms_223 rfl ?_
                refine z_iload C 4 dX10_warms_224 rfl ?_
                refine z_iconst (z := 1) C dX10_warms_226 rfl ?_
                refine z_isub C dX10_warms_227 ?_
                obtain ⟨ky44, hky44⟩ : ∃ k9 : Nat, (((r9 (p)) - 1) - 1) = (k9 : Int) := ⟨((((r9 (p)) - 1) - 1) : Int).toNat, by omega⟩
                obtain ⟨qy45, hqy45⟩ : ∃ q9 : Nat, p + 2 + 7 * ky44 = q9 := ⟨_, rfl⟩
                obtain ⟨⟨hKzy46, hIzy46, hWzy46, hDzy46, hTzy46, hnzy46⟩, hmzy46, hdzy46⟩ := okS.layer f4 (k := ky44) (by omega) hqy45
                refine z_cS (As := [.int (zI ((b : Int))), .int (zI ((s : Int))), .int (zI (((r9 (p)) - 1) - 1))]) (rest := [.ref (ad (i + 1))]) C (c_X10_at l D A cs tt N ad _ ((b : Int)) (by omega) ((s : Int)) (by omega) (((r9 (p)) - 1) - 1) (by omega)) ms_yX10_at q_1753 hd_yX10_at (by decide) (Nat.le_of_ble_eq_true rfl) (by decide) dX10_warms_228 rfl (kI0 fun vy47 gvy47 hvy47 => ?_)
                obtain ⟨hvy47, rfl⟩ := hvy47
                rw [show vy47 = (qy45 : Int) by omega]
                refine z_iconst (z := 2) C dX10_warms_231 rfl ?_
                refine z_iadd C dX10_warms_232 ?_
                refine z_dup2 C dX10_warms_233 rfl rfl ?_
                refine z_iald C (lt_A (c := 1) hN rfl) hay6 hcvy39 (qy45 + 2) (by omega) (by omega) (by decide) dX10_warms_234 ?_
                rw [show ry40 (qy45 + 2) = r9 (qy45 + 2) from (congrFun hvy41 _).trans ((uZ_n _ _ (by omega)).trans ((congrFun hvy36 _).trans ((uZ_n _ _ (by omega)).trans ((congrFun hvy30 _).trans ((uZ_n _ _ (by omega)).trans ((congrFun hvy22 _).trans ((uZ_n _ _ (by omega)).trans (rfl))))))))]
                refine z_aload_n C 5 dX10_warms_235 rfl ?_
                refine z_get (v := .ref (ad (i + 1))) C (lt_A0 hN rfl) hay5 hgy43 rfl inA_X10 0 (by decide) q_1459 rfl rfl dX10_warms_236 ?_
                refine z_iload C 3 dX10_warms_239 rfl ?_
                refine z_iconst (z := 2) C dX10_warms_241 rfl ?_
                refine z_iadd C dX10_warms_242 ?_
                refine z_iald C (lt_A (c := 1) hN rfl) hay6 hcvy39 (qy13 + 2) (by omega) (by omega) (by decide) dX10_warms_243 ?_
                rw [show ry40 (qy13 + 2) = (r9 (qy13 + 2)) + 0 from (congrFun hvy41 _).trans ((uZ_n _ _ (by omega)).trans ((congrFun hvy36 _).trans (uZ_s _ _ _)))]
                refine z_iadd C dX10_warms_244 ?_
                refine z_iast C (lt_A (c := 1) hN rfl) hay6 hcvy39 (qy45 + 2) (by omega) (by omega) (by decide) dX10_warms_245 (fun gy48 egy49 => ?_)
                have hgy50 := up_s egy49
                obtain ⟨ry51, hvy52⟩ : ∃ rZ9 : Nat → Int, rZ9 = uZ ry40 (qy45 + 2) ((r9 (qy45 + 2)) + ((r9 (qy13 + 2)) + 0)) := ⟨_, rfl⟩
                rw [← hvy52] at hgy50
                refine z_goto (tgt := 10) C dX10_warms_246 (by decide) ?_
                have hfry53 : ∀ j, j ≠ qy45 + 2 → j ≠ p → j ≠ qy13 + 2 → j ≠ qy13 + 1 → j ≠ qy13 + 4 → ry51 j = r9 j := fun j n0 n1 n2 n3 n4 => (congrFun hvy52 _).trans ((uZ_n _ _ n0).trans ((congrFun hvy41 _).trans ((uZ_n _ _ n1).trans ((congrFun hvy36 _).trans ((uZ_n _ _ n2).trans ((congrFun hvy30 _).trans ((uZ_n _ _ n3).trans ((congrFun hvy22 _).trans ((uZ_n _ _ n4).trans (rfl))))))))))
                have hwy54 : ry51 (p) = (r9 (p)) - 1 := (congrFun hvy52 _).trans ((uZ_n _ _ (by omega)).trans ((congrFun hvy41 _).trans (uZ_s _ _ _)))
                have hwy55 : ry51 (qy45 + 2) = (r9 (qy45 + 2)) + ((r9 (qy13 + 2)) + 0) := (congrFun hvy52 _).trans (uZ_s _ _ _)
                have hok9 : okS ry51 p M E := okS.melt f4 (k := ky44) (by omega) hqy45 (q2 := qy13) (by omega) (by omega) (fun j a1 a2 a3 => hfry53 j (by omega) (by omega) (by omega) (by omega) (by omega)) (by omega)
                refine z_lv (lv' := [(0, .ref (ad i)), (1, .int (zI ((b : Int)))), (2, .int (zI ((s : Int)))), (3, .int (zI (z1))), (4, .int (zI ((he - xy24) - (100 * 0))))]) [5, 6, 7, 8, 0] rfl ?_
                exact ih _ (by omega) ((he - xy24) - (100 * 0)) ry51 gy48 rfl hgy50 (fun j j1 => by rw [egy49, va_up_ne _ _ (by omega)]; rw [hfvy39 _ (by omega)]; rw [egy33, va_up_ne _ _ (by omega)]; rw [egy27, va_up_ne _ _ (by omega)]; rw [egy19, va_up_ne _ _ (by omega)]; exact f3 j j1) hok9 (fun j a1 => (hfry53 j (by omega) (by omega) (by omega) (by omega) (by omega)).trans (f5 j a1)) (by omega)
              · refine z_aload_n C 5 dX10_warms_200 rfl ?_
                refine z_iload_n C 6 dX10_warms_201 rfl ?_
                refine z_iload_n C 7 dX10_warms_202 rfl ?_
                refine z_aload_n C 5 dX10_warms_203 rfl ?_
                have hgy56 := (hfvy39 (i) (ne_o (i := i) (c := 0) (d := 1) rfl)).trans hgy37
                refine z_get (v := .ref (ad (i + 1))) C (lt_A0 hN rfl) hay5 hgy56 rfl inA_X10 0 (by decide) q_1459 rfl rfl dX10_warms_204 ?_
                refine z_iload C 3 dX10_warms_207 rfl ?_
                refine z_iconst (z := 2) C dX10_warms_209 rfl ?_
                refine z_iadd C dX10_warms_210 ?_
                refine z_iald C (lt_A (c := 1) hN rfl) hay6 hcvy39 (qy13 + 2) (by omega) (by omega) (by decide) dX10_warms_211 ?_
                rw [show ry40 (qy13 + 2) = (r9 (qy13 + 2)) + 0 from (congrFun hvy41 _).trans ((uZ_n _ _ (by omega)).trans ((congrFun hvy36 _).trans (uZ_s _ _ _)))]
                refine z_cV (As := [.int (zI ((b : Int))), .int (zI ((s : Int))), .int (zI ((r9 (qy13 + 2)) + 0))]) (rest := []) (ci := 12) C (c_X10_runsOff l D A cs tt N ad _ i hN _ hgy56 _ hcvy39 b s p hp (by omega) (by omega) ((r9 (qy13 + 2)) + 0)) (lt_A0 hN rfl) hay5 hgy56 rfl rfl mv_yX10_runsOff q_1912 hd_yX10_runsOff (by decide) (Nat.le_of_ble_eq_true rfl) (by decide) dX10_warms_212 rfl (kV0 fun gvy57 hvy57 => ?_)
                obtain ⟨hcvy57, hfvy57⟩ := hvy57
                obtain ⟨ry58, hvy59⟩ : ∃ rZ9 : Nat → Int, rZ9 = uZ ry40 (p + 1) (ry40 (p + 1) + ((r9 (qy13 + 2)) + 0)) := ⟨_, rfl⟩
                rw [← hvy59] at hcvy57
                refine z_goto (tgt := 246) C dX10_warms_215 (by decide) ?_
                refine z_goto (tgt := 10) C dX10_warms_246 (by decide) ?_
                have hfry60 : ∀ j, j ≠ p + 1 → j ≠ p → j ≠ qy13 + 2 → j ≠ qy13 + 1 → j ≠ qy13 + 4 → ry58 j = r9 j := fun j n0 n1 n2 n3 n4 => (congrFun hvy59 _).trans ((uZ_n _ _ n0).trans ((congrFun hvy41 _).trans ((uZ_n _ _ n1).trans ((congrFun hvy36 _).trans ((uZ_n _ _ n2).trans ((congrFun hvy30 _).trans ((uZ_n _ _ n3).trans ((congrFun hvy22 _).trans ((uZ_n _ _ n4).trans (rfl))))))))))
                have hwy61 : ry58 (p) = (r9 (p)) - 1 := (congrFun hvy59 _).trans ((uZ_n _ _ (by omega)).trans ((congrFun hvy41 _).trans (uZ_s _ _ _)))
                have hok9 : okS ry58 p M E := okS.zero (by omega) (by omega) (by omega)
                refine z_lv (lv' := [(0, .ref (ad i)), (1, .int (zI ((b : Int)))), (2, .int (zI ((s : Int)))), (3, .int (zI (z1))), (4, .int (zI ((he - xy24) - (100 * 0))))]) [5, 6, 7, 8, 0] rfl ?_
                exact ih _ (by omega) ((he - xy24) - (100 * 0)) ry58 gvy57 rfl hcvy57 (fun j j1 => by rw [hfvy57 _ (by omega)]; rw [hfvy39 _ (by omega)]; rw [egy33, va_up_ne _ _ (by omega)]; rw [egy27, va_up_ne _ _ (by omega)]; rw [egy19, va_up_ne _ _ (by omega)]; exact f3 j j1) hok9 (fun j a1 => (hfry60 j (by omega) (by omega) (by omega) (by omega) (by omega)).trans (f5 j a1)) (by omega)
            · have hfry62 : ∀ j, j ≠ qy13 + 2 → j ≠ qy13 + 1 → j ≠ qy13 + 4 → ry35 j = r9 j := fun j n0 n1 n2 => (congrFun hvy36 _).trans ((uZ_n _ _ n0).trans ((congrFun hvy30 _).trans ((uZ_n _ _ n1).trans ((congrFun hvy22 _).trans ((uZ_n _ _ n2).trans (rfl))))))
              have hwy64 : ry35 (p) = r9 (p) := (congrFun hvy36 _).trans ((uZ_n _ _ (by omega)).trans ((congrFun hvy30 _).trans ((uZ_n _ _ (by omega)).trans ((congrFun hvy22 _).trans ((uZ_n _ _ (by omega)).trans (rfl))))))
              have hwy65 : ry35 (qy13) = r9 (qy13) := (congrFun hvy36 _).trans ((uZ_n _ _ (by omega)).trans ((congrFun hvy30 _).trans ((uZ_n _ _ (by omega)).trans ((congrFun hvy22 _).trans ((uZ_n _ _ (by omega)).trans (rfl))))))
              have hwy66 : ry35 (qy13 + 1) = (r9 (qy13 + 1)) - 0 := (congrFun hvy36 _).trans ((uZ_n _ _ (by omega)).trans ((congrFun hvy30 _).trans (uZ_s _ _ _)))
              have hwy67 : ry35 (qy13 + 2) = (r9 (qy13 + 2)) + 0 := (congrFun hvy36 _).trans (uZ_s _ _ _)
              have hwy68 : ry35 (qy13 + 3) = r9 (qy13 + 3) := (congrFun hvy36 _).trans ((uZ_n _ _ (by omega)).trans ((congrFun hvy30 _).trans ((uZ_n _ _ (by omega)).trans ((congrFun hvy22 _).trans ((uZ_n _ _ (by omega)).trans (rfl))))))
              have hwy69 : ry35 (qy13 + 4) = (r9 (qy13 + 4)) + vy17 := (congrFun hvy36 _).trans ((uZ_n _ _ (by omega)).trans ((congrFun hvy30 _).trans ((uZ_n _ _ (by omega)).trans ((congrFun hvy22 _).trans (uZ_s _ _ _)))))
              have hwy70 : ry35 (qy13 + 6) = r9 (qy13 + 6) := (congrFun hvy36 _).trans ((uZ_n _ _ (by omega)).trans ((congrFun hvy30 _).trans ((uZ_n _ _ (by omega)).trans ((congrFun hvy22 _).trans ((uZ_n _ _ (by omega)).trans (rfl))))))
              have hlyy71 : ly ry35 qy13 := by unfold ly; omega
              have hoky630 := okS.one 0 0 f4 (k := ky12) (by omega) hqy13 (fun j a1 a2 a3 a4 => hfry62 j (by omega) (by omega) (by omega)) hlyy71 (by omega) (by omega)
              have hoky63 : okS ry35 p (M) (E) := hoky630.mono (by omega) (by omega)
              exact z_vret C hr hlk dX10_warms_186 (by decide) (by decide) ⟨rfl, rfl, rfl, ⟨_, hgy34, hoky63, fun j a1 => (hfry62 j (by omega) (by omega) (by omega)).trans (f5 j a1)⟩, fun j j1 => by rw [egy33, va_up_ne _ _ (by omega)]; rw [egy27, va_up_ne _ _ (by omega)]; rw [egy19, va_up_ne _ _ (by omega)]; exact f3 j j1⟩
          · refine z_iload C 0 dX10_warms_113 rfl ?_
            refine z_bipush (z := 100) C dX10_warms_115 (by decide) ?_
            refine z_idiv C dX10_warms_117 (by omega) (by omega) (by omega) ?_
            obtain ⟨xy72, exy72, hxy72⟩ : ∃ x9, (he - xy24).tdiv 100 = x9 ∧ (0 ≤ he - xy24 → 0 ≤ x9 ∧ 100 * x9 ≤ he - xy24 ∧ he - xy24 < 100 * x9 + 100) ∧ (he - xy24 ≤ 0 → x9 ≤ 0 ∧ he - xy24 ≤ 100 * x9 ∧ 100 * x9 < he - xy24 + 100) := tdk 100 (by decide)
            rw [exy72]
            refine z_aload_n C 4 dX10_warms_118 rfl ?_
            refine z_get (v := .ref (ad (i + 1))) C (lt_A0 hN rfl) hay5 hgy23 rfl inA_X10 0 (by decide) q_1459 rfl rfl dX10_warms_119 ?_
            refine z_iload C 2 dX10_warms_122 rfl ?_
            refine z_iconst (z := 1) C dX10_warms_124 rfl ?_
            refine z_iadd C dX10_warms_125 ?_
            refine z_iald C (lt_A (c := 1) hN rfl) hay6 hgy20 (qy13 + 1) (by omega) (by omega) (by decide) dX10_warms_126 ?_
            rw [show ry21 (qy13 + 1) = r9 (qy13 + 1) from (congrFun hvy22 _).trans ((uZ_n _ _ (by omega)).trans (rfl))]
            refine z_cS (As := [.int (zI (xy72)), .int (zI (r9 (qy13 + 1)))]) (rest := []) C (c_X10_lesser l D A cs tt N ad _ (xy72) (by omega) (r9 (qy13 + 1)) (by omega)) ms_yX10_lesser q_1792 hd_yX10_lesser (by decide) (Nat.le_of_ble_eq_true rfl) (by decide) dX10_warms_127 rfl (kI0 fun vy73 gvy73 hvy73 => ?_)
            obtain ⟨hvy73, rfl⟩ := hvy73
            refine z_goto (tgt := 134) C dX10_warms_130 (by decide) ?_
            refine z_istore (lv' := [(8, .int (zI (vy73))), (4, .int (zI (he - xy24))), (7, .int (zI (vy17))), (6, .int (zI ((qy13 : Int)))), (5, .int (zI ((r9 (p)) - 1))), (0, .ref (ad i)), (1, .int (zI ((b : Int)))), (2, .int (zI ((s : Int)))), (3, .int (zI (z1)))]) C dX10_warms_134 (by decide) rfl ?_
            refine z_aload_n C 5 dX10_warms_136 rfl ?_
            refine z_get (v := .ref (ad (i + 1))) C (lt_A0 hN rfl) hay5 hgy23 rfl inA_X10 0 (by decide) q_1459 rfl rfl dX10_warms_137 ?_
            refine z_iload C 3 dX10_warms_140 rfl ?_
            refine z_iconst (z := 1) C dX10_warms_142 rfl ?_
            refine z_iadd C dX10_warms_143 ?_
            refine z_dup2 C dX10_warms_144 rfl rfl ?_
            refine z_iald C (lt_A (c := 1) hN rfl) hay6 hgy20 (qy13 + 1) (by omega) (by omega) (by decide) dX10_warms_145 ?_
            rw [show ry21 (qy13 + 1) = r9 (qy13 + 1) from (congrFun hvy22 _).trans ((uZ_n _ _ (by omega)).trans (rfl))]
            refine z_iload C 0 dX10_warms_146 rfl ?_
            refine z_isub C dX10_warms_148 ?_
            refine z_iast C (lt_A (c := 1) hN rfl) hay6 hgy20 (qy13 + 1) (by omega) (by omega) (by decide) dX10_warms_149 (fun gy74 egy75 => ?_)
            have hgy76 := up_s egy75
            obtain ⟨ry77, hvy78⟩ : ∃ rZ9 : Nat → Int, rZ9 = uZ ry21 (qy13 + 1) ((r9 (qy13 + 1)) - vy73) := ⟨_, rfl⟩
            rw [← hvy78] at hgy76
            refine z_aload_n C 5 dX10_warms_150 rfl ?_
            have hgy79 := up_n egy75 hgy23 (ne_o (i := i) (c := 0) (d := 1) rfl)
            refine z_get (v := .ref (ad (i + 1))) C (lt_A0 hN rfl) hay5 hgy79 rfl inA_X10 0 (by decide) q_1459 rfl rfl dX10_warms_151 ?_
            refine z_iload C 3 dX10_warms_154 rfl ?_
            refine z_iconst (z := 2) C dX10_warms_156 rfl ?_
            refine z_iadd C dX10_warms_157 ?_
            refine z_dup2 C dX10_warms_158 rfl rfl ?_
            refine z_iald C (lt_A (c := 1) hN rfl) hay6 hgy76 (qy13 + 2) (by omega) (by omega) (by decide) dX10_warms_159 ?_
            rw [show ry77 (qy13 + 2) = r9 (qy13 + 2) from (congrFun hvy78 _).trans ((uZ_n _ _ (by omega)).trans ((congrFun hvy22 _).trans ((uZ_n _ _ (by omega)).trans (rfl))))]
            refine z_iload C 0 dX10_warms_160 rfl ?_
            refine z_iadd C dX10_warms_162 ?_
            refine z_iast C (lt_A (c := 1) hN rfl) hay6 hgy76 (qy13 + 2) (by omega) (by omega) (by decide) dX10_warms_163 (fun gy80 egy81 => ?_)
            have hgy82 := up_s egy81
            obtain ⟨ry83, hvy84⟩ : ∃ rZ9 : Nat → Int, rZ9 = uZ ry77 (qy13 + 2) ((r9 (qy13 + 2)) + vy73) := ⟨_, rfl⟩
            rw [← hvy84] at hgy82
            refine z_iload C 1 dX10_warms_164 rfl ?_
            refine z_bipush (z := 100) C dX10_warms_166 (by decide) ?_
            refine z_iload C 0 dX10_warms_168 rfl ?_
            refine z_imul C dX10_warms_170 ?_
            refine z_isub C dX10_warms_171 ?_
            refine z_istore (lv' := [(4, .int (zI ((he - xy24) - (100 * vy73)))), (8, .int (zI (vy73))), (7, .int (zI (vy17))), (6, .int (zI ((qy13 : Int)))), (5, .int (zI ((r9 (p)) - 1))), (0, .ref (ad i)), (1, .int (zI ((b : Int)))), (2, .int (zI ((s : Int)))), (3, .int (zI (z1)))]) C dX10_warms_172 (by decide) rfl ?_
            refine z_aload_n C 5 dX10_warms_174 rfl ?_
            have hgy85 := up_n egy81 hgy79 (ne_o (i := i) (c := 0) (d := 1) rfl)
            refine z_get (v := .ref (ad (i + 1))) C (lt_A0 hN rfl) hay5 hgy85 rfl inA_X10 0 (by decide) q_1459 rfl rfl dX10_warms_175 ?_
            refine z_iload C 3 dX10_warms_178 rfl ?_
            refine z_iconst (z := 1) C dX10_warms_180 rfl ?_
            refine z_iadd C dX10_warms_181 ?_
            refine z_iald C (lt_A (c := 1) hN rfl) hay6 hgy82 (qy13 + 1) (by omega) (by omega) (by decide) dX10_warms_182 ?_
            rw [show ry83 (qy13 + 1) = (r9 (qy13 + 1)) - vy73 from (congrFun hvy84 _).trans ((uZ_n _ _ (by omega)).trans ((congrFun hvy78 _).trans (uZ_s _ _ _)))]
            refine z_if_le (tgt := 187) C dX10_warms_183 (by decide) (by omega) (fun hby86 => ?_) (fun hby86 => ?_)
            · refine z_aload_n C 5 dX10_warms_187 rfl ?_
              refine z_iload_n C 6 dX10_warms_188 rfl ?_
              refine z_iload_n C 7 dX10_warms_189 rfl ?_
              refine z_iload C 4 dX10_warms_190 rfl ?_
              refine z_cV (As := [.int (zI ((b : Int))), .int (zI ((s : Int))), .int (zI ((r9 (p)) - 1))]) (rest := []) (ci := 12) C (c_X10_setsMany l D A cs tt N ad _ i hN _ hgy85 _ hgy82 b s p hp (by omega) (by omega) ((r9 (p)) - 1)) (lt_A0 hN rfl) hay5 hgy85 rfl rfl mv_yX10_setsMany q_1717 hd_yX10_setsMany (by decide) (Nat.le_of_ble_eq_true rfl) (by decide) dX10_warms_192 rfl (kV0 fun gvy87 hvy87 => ?_)
              obtain ⟨hcvy87, hfvy87⟩ := hvy87
              obtain ⟨ry88, hvy89⟩ : ∃ rZ9 : Nat → Int, rZ9 = uZ ry83 (p) ((r9 (p)) - 1) := ⟨_, rfl⟩
              rw [← hvy89] at hcvy87
              refine z_iload C 4 dX10_warms_195 rfl ?_
              refine z_if_ne (tgt := 218) C dX10_warms_197 (by decide) (by omega) (fun hby90 => ?_) (fun hby90 => ?_)
              · refine z_aload_n C 5 dX10_warms_218 rfl ?_
                have hgy91 := (hfvy87 (i) (ne_o (i := i) (c := 0) (d := 1) rfl)).trans hgy85
                refine z_get (v := .ref (ad (i + 1))) C (lt_A0 hN rfl) hay5 hgy91 rfl inA_X10 0 (by decide) q_1459 rfl rfl dX10_warms_219 ?_
                refine z_iload_n C 6 dX10_warms_222 rfl ?_
                refine z_iload_n C 7 dX10_warms_223 rfl ?_
                refine z_iload C 4 dX10_warms_224 rfl ?_
                refine z_iconst (z := 1) C dX10_warms_226 rfl ?_
                refine z_isub C dX10_warms_227 ?_
                obtain ⟨ky92, hky92⟩ : ∃ k9 : Nat, (((r9 (p)) - 1) - 1) = (k9 : Int) := ⟨((((r9 (p)) - 1) - 1) : Int).toNat, by omega⟩
                obtain ⟨qy93, hqy93⟩ : ∃ q9 : Nat, p + 2 + 7 * ky92 = q9 := ⟨_, rfl⟩
                obtain ⟨⟨hKzy94, hIzy94, hWzy94, hDzy94, hTzy94, hnzy94⟩, hmzy94, hdzy94⟩ := okS.layer f4 (k := ky92) (by omega) hqy93
                refine z_cS (As := [.int (zI ((b : Int))), .int (zI ((s : Int))), .int (zI (((r9 (p)) - 1) - 1))]) (rest := [.ref (ad (i + 1))]) C (c_X10_at l D A cs tt N ad _ ((b : Int)) (by omega) ((s : Int)) (by omega) (((r9 (p)) - 1) - 1) (by omega)) ms_yX10_at q_1753 hd_yX10_at (by decide) (Nat.le_of_ble_eq_true rfl) (by decide) dX10_warms_228 rfl (kI0 fun vy95 gvy95 hvy95 => ?_)
                obtain ⟨hvy95, rfl⟩ := hvy95
                rw [show vy95 = (qy93 : Int) by omega]
                refine z_iconst (z := 2) C dX10_warms_231 rfl ?_
                refine z_iadd C dX10_warms_232 ?_
                refine z_dup2 C dX10_warms_233 rfl rfl ?_
                refine z_iald C (lt_A (c := 1) hN rfl) hay6 hcvy87 (qy93 + 2) (by omega) (by omega) (by decide) dX10_warms_234 ?_
                rw [show ry88 (qy93 + 2) = r9 (qy93 + 2) from (congrFun hvy89 _).trans ((uZ_n _ _ (by omega)).trans ((congrFun hvy84 _).trans ((uZ_n _ _ (by omega)).trans ((congrFun hvy78 _).trans ((uZ_n _ _ (by omega)).trans ((congrFun hvy22 _).trans ((uZ_n _ _ (by omega)).trans (rfl))))))))]
                refine z_aload_n C 5 dX10_warms_235 rfl ?_
                refine z_get (v := .ref (ad (i + 1))) C (lt_A0 hN rfl) hay5 hgy91 rfl inA_X10 0 (by decide) q_1459 rfl rfl dX10_warms_236 ?_
                refine z_iload C 3 dX10_warms_239 rfl ?_
                refine z_iconst (z := 2) C dX10_warms_241 rfl ?_
                refine z_iadd C dX10_warms_242 ?_
                refine z_iald C (lt_A (c := 1) hN rfl) hay6 hcvy87 (qy13 + 2) (by omega) (by omega) (by decide) dX10_warms_243 ?_
                rw [show ry88 (qy13 + 2) = (r9 (qy13 + 2)) + vy73 from (congrFun hvy89 _).trans ((uZ_n _ _ (by omega)).trans ((congrFun hvy84 _).trans (uZ_s _ _ _)))]
                refine z_iadd C dX10_warms_244 ?_
                refine z_iast C (lt_A (c := 1) hN rfl) hay6 hcvy87 (qy93 + 2) (by omega) (by omega) (by decide) dX10_warms_245 (fun gy96 egy97 => ?_)
                have hgy98 := up_s egy97
                obtain ⟨ry99, hvy100⟩ : ∃ rZ9 : Nat → Int, rZ9 = uZ ry88 (qy93 + 2) ((r9 (qy93 + 2)) + ((r9 (qy13 + 2)) + vy73)) := ⟨_, rfl⟩
                rw [← hvy100] at hgy98
                refine z_goto (tgt := 10) C dX10_warms_246 (by decide) ?_
                have hfry101 : ∀ j, j ≠ qy93 + 2 → j ≠ p → j ≠ qy13 + 2 → j ≠ qy13 + 1 → j ≠ qy13 + 4 → ry99 j = r9 j := fun j n0 n1 n2 n3 n4 => (congrFun hvy100 _).trans ((uZ_n _ _ n0).trans ((congrFun hvy89 _).trans ((uZ_n _ _ n1).trans ((congrFun hvy84 _).trans ((uZ_n _ _ n2).trans ((congrFun hvy78 _).trans ((uZ_n _ _ n3).trans ((congrFun hvy22 _).trans ((uZ_n _ _ n4).trans (rfl))))))))))
                have hwy102 : ry99 (p) = (r9 (p)) - 1 := (congrFun hvy100 _).trans ((uZ_n _ _ (by omega)).trans ((congrFun hvy89 _).trans (uZ_s _ _ _)))
                have hwy103 : ry99 (qy93 + 2) = (r9 (qy93 + 2)) + ((r9 (qy13 + 2)) + vy73) := (congrFun hvy100 _).trans (uZ_s _ _ _)
                have hok9 : okS ry99 p M E := okS.melt f4 (k := ky92) (by omega) hqy93 (q2 := qy13) (by omega) (by omega) (fun j a1 a2 a3 => hfry101 j (by omega) (by omega) (by omega) (by omega) (by omega)) (by omega)
                refine z_lv (lv' := [(0, .ref (ad i)), (1, .int (zI ((b : Int)))), (2, .int (zI ((s : Int)))), (3, .int (zI (z1))), (4, .int (zI ((he - xy24) - (100 * vy73))))]) [5, 6, 7, 8, 0] rfl ?_
                exact ih _ (by omega) ((he - xy24) - (100 * vy73)) ry99 gy96 rfl hgy98 (fun j j1 => by rw [egy97, va_up_ne _ _ (by omega)]; rw [hfvy87 _ (by omega)]; rw [egy81, va_up_ne _ _ (by omega)]; rw [egy75, va_up_ne _ _ (by omega)]; rw [egy19, va_up_ne _ _ (by omega)]; exact f3 j j1) hok9 (fun j a1 => (hfry101 j (by omega) (by omega) (by omega) (by omega) (by omega)).trans (f5 j a1)) (by omega)
              · refine z_aload_n C 5 dX10_warms_200 rfl ?_
                refine z_iload_n C 6 dX10_warms_201 rfl ?_
                refine z_iload_n C 7 dX10_warms_202 rfl ?_
                refine z_aload_n C 5 dX10_warms_203 rfl ?_
                have hgy104 := (hfvy87 (i) (ne_o (i := i) (c := 0) (d := 1) rfl)).trans hgy85
                refine z_get (v := .ref (ad (i + 1))) C (lt_A0 hN rfl) hay5 hgy104 rfl inA_X10 0 (by decide) q_1459 rfl rfl dX10_warms_204 ?_
                refine z_iload C 3 dX10_warms_207 rfl ?_
                refine z_iconst (z := 2) C dX10_warms_209 rfl ?_
                refine z_iadd C dX10_warms_210 ?_
                refine z_iald C (lt_A (c := 1) hN rfl) hay6 hcvy87 (qy13 + 2) (by omega) (by omega) (by decide) dX10_warms_211 ?_
                rw [show ry88 (qy13 + 2) = (r9 (qy13 + 2)) + vy73 from (congrFun hvy89 _).trans ((uZ_n _ _ (by omega)).trans ((congrFun hvy84 _).trans (uZ_s _ _ _)))]
                refine z_cV (As := [.int (zI ((b : Int))), .int (zI ((s : Int))), .int (zI ((r9 (qy13 + 2)) + vy73))]) (rest := []) (ci := 12) C (c_X10_runsOff l D A cs tt N ad _ i hN _ hgy104 _ hcvy87 b s p hp (by omega) (by omega) ((r9 (qy13 + 2)) + vy73)) (lt_A0 hN rfl) hay5 hgy104 rfl rfl mv_yX10_runsOff q_1912 hd_yX10_runsOff (by decide) (Nat.le_of_ble_eq_true rfl) (by decide) dX10_warms_212 rfl (kV0 fun gvy105 hvy105 => ?_)
                obtain ⟨hcvy105, hfvy105⟩ := hvy105
                obtain ⟨ry106, hvy107⟩ : ∃ rZ9 : Nat → Int, rZ9 = uZ ry88 (p + 1) (ry88 (p + 1) + ((r9 (qy13 + 2)) + vy73)) := ⟨_, rfl⟩
                rw [← hvy107] at hcvy105
                refine z_goto (tgt := 246) C dX10_warms_215 (by decide) ?_
                refine z_goto (tgt := 10) C dX10_warms_246 (by decide) ?_
                have hfry108 : ∀ j, j ≠ p + 1 → j ≠ p → j ≠ qy13 + 2 → j ≠ qy13 + 1 → j ≠ qy13 + 4 → ry106 j = r9 j := fun j n0 n1 n2 n3 n4 => (congrFun hvy107 _).trans ((uZ_n _ _ n0).trans ((congrFun hvy89 _).trans ((uZ_n _ _ n1).trans ((congrFun hvy84 _).trans ((uZ_n _ _ n2).trans ((congrFun hvy78 _).trans ((uZ_n _ _ n3).trans ((congrFun hvy22 _).trans ((uZ_n _ _ n4).trans (rfl))))))))))
                have hwy109 : ry106 (p) = (r9 (p)) - 1 := (congrFun hvy107 _).trans ((uZ_n _ _ (by omega)).trans ((congrFun hvy89 _).trans (uZ_s _ _ _)))
                have hok9 : okS ry106 p M E := okS.zero (by omega) (by omega) (by omega)
                refine z_lv (lv' := [(0, .ref (ad i)), (1, .int (zI ((b : Int)))), (2, .int (zI ((s : Int)))), (3, .int (zI (z1))), (4, .int (zI ((he - xy24) - (100 * vy73))))]) [5, 6, 7, 8, 0] rfl ?_
                exact ih _ (by omega) ((he - xy24) - (100 * vy73)) ry106 gvy105 rfl hcvy105 (fun j j1 => by rw [hfvy105 _ (by omega)]; rw [hfvy87 _ (by omega)]; rw [egy81, va_up_ne _ _ (by omega)]; rw [egy75, va_up_ne _ _ (by omega)]; rw [egy19, va_up_ne _ _ (by omega)]; exact f3 j j1) hok9 (fun j a1 => (hfry108 j (by omega) (by omega) (by omega) (by omega) (by omega)).trans (f5 j a1)) (by omega)
            · have hfry110 : ∀ j, j ≠ qy13 + 2 → j ≠ qy13 + 1 → j ≠ qy13 + 4 → ry83 j = r9 j := fun j n0 n1 n2 => (congrFun hvy84 _).trans ((uZ_n _ _ n0).trans ((congrFun hvy78 _).trans ((uZ_n _ _ n1).trans ((congrFun hvy22 _).trans ((uZ_n _ _ n2).trans (rfl))))))
              have hwy112 : ry83 (p) = r9 (p) := (congrFun hvy84 _).trans ((uZ_n _ _ (by omega)).trans ((congrFun hvy78 _).trans ((uZ_n _ _ (by omega)).trans ((congrFun hvy22 _).trans ((uZ_n _ _ (by omega)).trans (rfl))))))
              have hwy113 : ry83 (qy13) = r9 (qy13) := (congrFun hvy84 _).trans ((uZ_n _ _ (by omega)).trans ((congrFun hvy78 _).trans ((uZ_n _ _ (by omega)).trans ((congrFun hvy22 _).trans ((uZ_n _ _ (by omega)).trans (rfl))))))
              have hwy114 : ry83 (qy13 + 1) = (r9 (qy13 + 1)) - vy73 := (congrFun hvy84 _).trans ((uZ_n _ _ (by omega)).trans ((congrFun hvy78 _).trans (uZ_s _ _ _)))
              have hwy115 : ry83 (qy13 + 2) = (r9 (qy13 + 2)) + vy73 := (congrFun hvy84 _).trans (uZ_s _ _ _)
              have hwy116 : ry83 (qy13 + 3) = r9 (qy13 + 3) := (congrFun hvy84 _).trans ((uZ_n _ _ (by omega)).trans ((congrFun hvy78 _).trans ((uZ_n _ _ (by omega)).trans ((congrFun hvy22 _).trans ((uZ_n _ _ (by omega)).trans (rfl))))))
              have hwy117 : ry83 (qy13 + 4) = (r9 (qy13 + 4)) + vy17 := (congrFun hvy84 _).trans ((uZ_n _ _ (by omega)).trans ((congrFun hvy78 _).trans ((uZ_n _ _ (by omega)).trans ((congrFun hvy22 _).trans (uZ_s _ _ _)))))
              have hwy118 : ry83 (qy13 + 6) = r9 (qy13 + 6) := (congrFun hvy84 _).trans ((uZ_n _ _ (by omega)).trans ((congrFun hvy78 _).trans ((uZ_n _ _ (by omega)).trans ((congrFun hvy22 _).trans ((uZ_n _ _ (by omega)).trans (rfl))))))
              have hlyy119 : ly ry83 qy13 := by unfold ly; omega
              have hoky1110 := okS.one 0 0 f4 (k := ky12) (by omega) hqy13 (fun j a1 a2 a3 a4 => hfry110 j (by omega) (by omega) (by omega)) hlyy119 (by omega) (by omega)
              have hoky111 : okS ry83 p (M) (E) := hoky1110.mono (by omega) (by omega)
              exact z_vret C hr hlk dX10_warms_186 (by decide) (by decide) ⟨rfl, rfl, rfl, ⟨_, hgy82, hoky111, fun j a1 => (hfry110 j (by omega) (by omega) (by omega)).trans (f5 j a1)⟩, fun j j1 => by rw [egy81, va_up_ne _ _ (by omega)]; rw [egy75, va_up_ne _ _ (by omega)]; rw [egy19, va_up_ne _ _ (by omega)]; exact f3 j j1⟩
  refine z_iload_n C 3 dX10_warms_0 rfl ?_
  refine z_aload_n C 0 dX10_warms_1 rfl ?_
  refine z_get (v := .ref (ad (i + 3))) C (lt_A0 hN rfl) hay1 hg rfl inA_X10 2 (by decide) q_1461 rfl rfl dX10_warms_2 ?_
  refine z_iload_n C 2 dX10_warms_5 rfl ?_
  refine z_iald C (lt_A (c := 3) hN rfl) hay3 ha3 (s) (by omega) (by omega) (by decide) dX10_warms_6 ?_
  have hrfy120 := hop (s) (by omega)
  refine z_imul C dX10_warms_7 ?_
  obtain ⟨xy121, exy121, hxy121⟩ := mulb (a := z1) (b := op (s)) (A := 100) (B := 20) ⟨by omega, by omega⟩ ⟨by omega, by omega⟩
  rw [exy121]
  refine z_istore (lv' := [(4, .int (zI (xy121))), (0, .ref (ad i)), (1, .int (zI ((b : Int)))), (2, .int (zI ((s : Int)))), (3, .int (zI (z1)))]) C dX10_warms_8 (by decide) rfl ?_
  refine z_lv (lv' := [(0, .ref (ad i)), (1, .int (zI ((b : Int)))), (2, .int (zI ((s : Int)))), (3, .int (zI (z1))), (4, .int (zI (xy121)))]) [1, 2, 3, 4, 0] rfl ?_
  exact lp _ (xy121) r g rfl ha1 (fun j j1 => by rfl) ho (fun j _ => rfl) (by omega)

set_option maxRecDepth 100000 in
set_option maxHeartbeats 4000000 in
theorem c_X10_topped (l : Launch) (D : va_G) (A : Nat → Prop) (cs : Nat → ClassId) (tt : Nat) (N : Nat) (ad : Nat → Nat) (g : Nat → va_E) (i : Nat) (hN : i + 30 ≤ N) (F : Nat → Int) (hg : g i = mC ad i F) (r : Nat → Int) (ha1 : g (i + 1) = iA cs 29200 r) (op : Nat → Int) (ha3 : g (i + 3) = iA cs 4 op) (b s p : Nat) (hp : b + 6 + 86 * s = p) (hb : b + 350 ≤ 29200) (hs : s < 4) (M E : Int) (hM : M ≤ 138500) (hE : E ≤ 400000000) (ho : okS r p M E) (hop : ∀ k, k < 4 → 0 ≤ op k ∧ op k ≤ 20) (z1 : Int) (hz1 : -300 ≤ z1 ∧ z1 ≤ 100) : zM l yX10_topped cX10_topped 5 none ({ frames := 3, cells := 0, slots := 0, locals := 180 } : Room) D A cs tt N ad g [.ref (ad i), .int (zI ((b : Int))), .int (zI ((s : Int))), .int (zI (z1))] (rV0 N ad fun g' => (∃ r' : Nat → Int, g' (i + 1) = iA cs 29200 r' ∧ okS r' p (M) (E) ∧ (∀ j, j < p ∨ p + 86 ≤ j → r' j = r j)) ∧ ∀ j, j ≠ i + 1 → g' j = g j) := by
  have hay1 : zAt ad (i) (ad i) := rfl
  have hay2 : zAt ad (i + 1) (ad (i + 1)) := rfl
  have hay3 : zAt ad (i + 3) (ad (i + 3)) := rfl
  have hmky4 := ho.1
  refine z_of (by decide) (Nat.le_of_ble_eq_true rfl) ?_
  intro pZ eZ sZ mZ below meth cZ C hr hlk hnm
  refine z_lv (lv' := [(0, .ref (ad i)), (1, .int (zI ((b : Int)))), (2, .int (zI ((s : Int)))), (3, .int (zI (z1)))]) [0, 1, 2, 3] rfl ?_
  refine z_iload_n C 3 dX10_topped_0 rfl ?_
  refine z_if_le (tgt := 12) C dX10_topped_1 (by decide) (by omega) (fun hby5 => ?_) (fun hby5 => ?_)
  · refine z_aload_n C 0 dX10_topped_12 rfl ?_
    refine z_iload_n C 1 dX10_topped_13 rfl ?_
    refine z_iload_n C 2 dX10_topped_14 rfl ?_
    refine z_cV (As := [.int (zI ((b : Int))), .int (zI ((s : Int)))]) (rest := []) (ci := 12) C (c_X10_many l D A cs tt N ad _ i hN _ hg _ ha1 b s p hp (by omega) (by omega)) (lt_A0 hN rfl) hay1 hg rfl rfl mv_yX10_many q_1733 hd_yX10_many (by decide) (Nat.le_of_ble_eq_true rfl) (by decide) dX10_topped_15 rfl (kI0 fun vy6 gvy6 hvy6 => ?_)
    obtain ⟨rfl, rfl⟩ := hvy6
    refine z_if_ne (tgt := 22) C dX10_topped_18 (by decide) (by omega) (fun hby7 => ?_) (fun hby7 => ?_)
    · refine z_iload_n C 1 dX10_topped_22 rfl ?_
      refine z_iload_n C 2 dX10_topped_23 rfl ?_
      refine z_aload_n C 0 dX10_topped_24 rfl ?_
      refine z_iload_n C 1 dX10_topped_25 rfl ?_
      refine z_iload_n C 2 dX10_topped_26 rfl ?_
      refine z_cV (As := [.int (zI ((b : Int))), .int (zI ((s : Int)))]) (rest := [.int (zI ((s : Int))), .int (zI ((b : Int)))]) (ci := 12) C (c_X10_many l D A cs tt N ad _ i hN _ hg _ ha1 b s p hp (by omega) (by omega)) (lt_A0 hN rfl) hay1 hg rfl rfl mv_yX10_many q_1733 hd_yX10_many (by decide) (Nat.le_of_ble_eq_true rfl) (by decide) dX10_topped_27 rfl (kI0 fun vy8 gvy8 hvy8 => ?_)
      obtain ⟨rfl, rfl⟩ := hvy8
      refine z_iconst (z := 1) C dX10_topped_30 rfl ?_
      refine z_isub C dX10_topped_31 ?_
      obtain ⟨ky9, hky9⟩ : ∃ k9 : Nat, ((r (p)) - 1) = (k9 : Int) := ⟨(((r (p)) - 1) : Int).toNat, by omega⟩
      obtain ⟨qy10, hqy10⟩ : ∃ q9 : Nat, p + 2 + 7 * ky9 = q9 := ⟨_, rfl⟩
      obtain ⟨⟨hKzy11, hIzy11, hWzy11, hDzy11, hTzy11, hnzy11⟩, hmzy11, hdzy11⟩ := okS.layer ho (k := ky9) (by omega) hqy10
      refine z_cS (As := [.int (zI ((b : Int))), .int (zI ((s : Int))), .int (zI ((r (p)) - 1))]) (rest := []) C (c_X10_at l D A cs tt N ad _ ((b : Int)) (by omega) ((s : Int)) (by omega) ((r (p)) - 1) (by omega)) ms_yX10_at q_1753 hd_yX10_at (by decide) (Nat.le_of_ble_eq_true rfl) (by decide) dX10_topped_32 rfl (kI0 fun vy12 gvy12 hvy12 => ?_)
      obtain ⟨hvy12, rfl⟩ := hvy12
      rw [show vy12 = (qy10 : Int) by omega]
      refine z_istore (lv' := [(4, .int (zI ((qy10 : Int)))), (0, .ref (ad i)), (1, .int (zI ((b : Int)))), (2, .int (zI ((s : Int)))), (3, .int (zI (z1)))]) C dX10_topped_35 (by decide) rfl ?_
      refine z_aload_n C 1 dX10_topped_37 rfl ?_
      refine z_get (v := .ref (ad (i + 1))) C (lt_A0 hN rfl) hay1 hg rfl inA_X10 0 (by decide) q_1459 rfl rfl dX10_topped_38 ?_
      refine z_iload C 0 dX10_topped_41 rfl ?_
      refine z_iconst (z := 4) C dX10_topped_43 rfl ?_
      refine z_iadd C dX10_topped_44 ?_
      refine z_dup2 C dX10_topped_45 rfl rfl ?_
      refine z_iald C (lt_A (c := 1) hN rfl) hay2 ha1 (qy10 + 4) (by omega) (by omega) (by decide) dX10_topped_46 ?_
      refine z_iload_n C 4 dX10_topped_47 rfl ?_
      refine z_aload_n C 1 dX10_topped_48 rfl ?_
      refine z_get (v := .ref (ad (i + 1))) C (lt_A0 hN rfl) hay1 hg rfl inA_X10 0 (by decide) q_1459 rfl rfl dX10_topped_49 ?_
      refine z_iload C 0 dX10_topped_52 rfl ?_
      refine z_iconst (z := 4) C dX10_topped_54 rfl ?_
      refine z_iadd C dX10_topped_55 ?_
      refine z_iald C (lt_A (c := 1) hN rfl) hay2 ha1 (qy10 + 4) (by omega) (by omega) (by decide) dX10_topped_56 ?_
      refine z_isub C dX10_topped_57 ?_
      refine z_iconst (z := 4) C dX10_topped_58 rfl ?_
      refine z_idiv C dX10_topped_59 (by omega) (by omega) (by omega) ?_
      obtain ⟨xy13, exy13, hxy13⟩ : ∃ x9, (z1 - (r (qy10 + 4))).tdiv 4 = x9 ∧ (0 ≤ z1 - (r (qy10 + 4)) → 0 ≤ x9 ∧ 4 * x9 ≤ z1 - (r (qy10 + 4)) ∧ z1 - (r (qy10 + 4)) < 4 * x9 + 4) ∧ (z1 - (r (qy10 + 4)) ≤ 0 → x9 ≤ 0 ∧ z1 - (r (qy10 + 4)) ≤ 4 * x9 ∧ 4 * x9 < z1 - (r (qy10 + 4)) + 4) := tdk 4 (by decide)
      rw [exy13]
      refine z_iadd C dX10_topped_60 ?_
      refine z_iast C (lt_A (c := 1) hN rfl) hay2 ha1 (qy10 + 4) (by omega) (by omega) (by decide) dX10_topped_61 (fun gy14 egy15 => ?_)
      have hgy16 := up_s egy15
      obtain ⟨ry17, hvy18⟩ : ∃ rZ9 : Nat → Int, rZ9 = uZ r (qy10 + 4) ((r (qy10 + 4)) + xy13) := ⟨_, rfl⟩
      rw [← hvy18] at hgy16
      have hfry19 : ∀ j, j ≠ qy10 + 4 → ry17 j = r j := fun j n0 => (congrFun hvy18 _).trans ((uZ_n _ _ n0).trans (rfl))
      have hwy21 : ry17 (p) = r (p) := (congrFun hvy18 _).trans ((uZ_n _ _ (by omega)).trans (rfl))
      have hwy22 : ry17 (qy10) = r (qy10) := (congrFun hvy18 _).trans ((uZ_n _ _ (by omega)).trans (rfl))
      have hwy23 : ry17 (qy10 + 1) = r (qy10 + 1) := (congrFun hvy18 _).trans ((uZ_n _ _ (by omega)).trans (rfl))
      have hwy24 : ry17 (qy10 + 2) = r (qy10 + 2) := (congrFun hvy18 _).trans ((uZ_n _ _ (by omega)).trans (rfl))
      have hwy25 : ry17 (qy10 + 3) = r (qy10 + 3) := (congrFun hvy18 _).trans ((uZ_n _ _ (by omega)).trans (rfl))
      have hwy26 : ry17 (qy10 + 4) = (r (qy10 + 4)) + xy13 := (congrFun hvy18 _).trans (uZ_s _ _ _)
      have hwy27 : ry17 (qy10 + 6) = r (qy10 + 6) := (congrFun hvy18 _).trans ((uZ_n _ _ (by omega)).trans (rfl))
      have hlyy28 : ly ry17 qy10 := by unfold ly; omega
      have hoky200 := okS.one 0 0 ho (k := ky9) (by omega) hqy10 (fun j a1 a2 a3 a4 => hfry19 j (by omega)) hlyy28 (by omega) (by omega)
      have hoky20 : okS ry17 p (M) (E) := hoky200.mono (by omega) (by omega)
      exact z_vret C hr hlk dX10_topped_62 (by decide) (by decide) ⟨rfl, rfl, rfl, ⟨_, hgy16, hoky20, fun j a1 => hfry19 j (by omega)⟩, fun j j1 => by rw [egy15, va_up_ne _ _ (by omega)]⟩
    · exact z_vret C hr hlk dX10_topped_21 (by decide) (by decide) ⟨rfl, rfl, rfl, ⟨_, ha1, ho, fun j _ => rfl⟩, fun j j1 => by rfl⟩
  · refine z_aload_n C 0 dX10_topped_4 rfl ?_
    refine z_iload_n C 1 dX10_topped_5 rfl ?_
    refine z_iload_n C 2 dX10_topped_6 rfl ?_
    refine z_iload_n C 3 dX10_topped_7 rfl ?_
    refine z_cV (As := [.int (zI ((b : Int))), .int (zI ((s : Int))), .int (zI (z1))]) (rest := []) (ci := 12) C (c_X10_warms l D A cs tt N ad _ i hN _ hg _ ha1 _ ha3 b s p hp (by omega) (by omega)  (M) (E) (by omega) (by omega) ho hop (z1) (by omega)) (lt_A0 hN rfl) hay1 hg rfl rfl mv_yX10_warms q_1920 hd_yX10_warms (by decide) (Nat.le_of_ble_eq_true rfl) (by decide) dX10_topped_8 rfl (kV0 fun gvy29 hvy29 => ?_)
    obtain ⟨⟨rvy29, hcvy29, hovy29, hyvy29⟩, hfvy29⟩ := hvy29
    have hkvy29 := hovy29.1
    exact z_vret C hr hlk dX10_topped_11 (by decide) (by decide) ⟨rfl, rfl, rfl, ⟨_, hcvy29, hovy29, hyvy29⟩, fun j j1 => by rw [hfvy29 _ (by omega)]⟩

set_option maxRecDepth 100000 in
set_option maxHeartbeats 4000000 in
theorem c_X10_joins (l : Launch) (D : va_G) (A : Nat → Prop) (cs : Nat → ClassId) (tt : Nat) (N : Nat) (ad : Nat → Nat) (g : Nat → va_E) (i : Nat) (hN : i + 30 ≤ N) (F : Nat → Int) (hg : g i = mC ad i F) (r : Nat → Int) (ha1 : g (i + 1) = iA cs 29200 r) (b s p : Nat) (hp : b + 6 + 86 * s = p) (hb : b + 350 ≤ 29200) (hs : s < 4) (M E : Int) (hM : M ≤ 138500) (hE : E ≤ 400000000) (ho : okS r p M E) (hn : r p = 12) : zM l yX10_joins cX10_joins 10 none ({ frames := 3, cells := 0, slots := 0, locals := 180 } : Room) D A cs tt N ad g [.ref (ad i), .int (zI ((b : Int))), .int (zI ((s : Int)))] (rV0 N ad fun g' => (∃ r' : Nat → Int, g' (i + 1) = iA cs 29200 r' ∧ okS r' p (M) (E) ∧ r' p = 11 ∧ (∀ j, j < p ∨ p + 86 ≤ j → r' j = r j)) ∧ ∀ j, j ≠ i + 1 → g' j = g j) := by
  have hay1 : zAt ad (i) (ad i) := rfl
  have hay2 : zAt ad (i + 1) (ad (i + 1)) := rfl
  have hmky3 := ho.1
  obtain ⟨ky4, hky4⟩ : ∃ k9 : Nat, (0) = (k9 : Int) := ⟨((0) : Int).toNat, by omega⟩
  obtain ⟨qy5, hqy5⟩ : ∃ q9 : Nat, p + 2 + 7 * ky4 = q9 := ⟨_, rfl⟩
  obtain ⟨⟨hKzy6, hIzy6, hWzy6, hDzy6, hTzy6, hnzy6⟩, hmzy6, hdzy6⟩ := okS.layer ho (k := ky4) (by omega) hqy5
  obtain ⟨ky7, hky7⟩ : ∃ k9 : Nat, (1) = (k9 : Int) := ⟨((1) : Int).toNat, by omega⟩
  obtain ⟨qy8, hqy8⟩ : ∃ q9 : Nat, p + 2 + 7 * ky7 = q9 := ⟨_, rfl⟩
  obtain ⟨⟨hKzy9, hIzy9, hWzy9, hDzy9, hTzy9, hnzy9⟩, hmzy9, hdzy9⟩ := okS.layer ho (k := ky7) (by omega) hqy8
  refine z_of (by decide) (Nat.le_of_ble_eq_true rfl) ?_
  intro pZ eZ sZ mZ below meth cZ C hr hlk hnm
  refine z_lv (lv' := [(0, .ref (ad i)), (1, .int (zI ((b : Int)))), (2, .int (zI ((s : Int))))]) [0, 1, 2] rfl ?_
  have lp : ∀ (n9 : Nat) (ll : Int) (r9 : Nat → Int) (g1 : Nat → va_E), (12 - ll).toNat = n9 → (g1 (i + 1) = iA cs 29200 r9) → (∀ j, j ≠ i + 1 → g1 j = g j) → (ly r9 qy5 ∧ r9 (qy5 + 1) + r9 (qy5 + 2) = r (qy5 + 1) + r (qy5 + 2) + (r (qy8 + 1) + r (qy8 + 2)) ∧ r9 (qy5 + 3) = r (qy5 + 3) + r (qy8 + 3)) → (∀ j : Nat, j < p ∨ (p : Int) + 2 + 7 * ll ≤ (j : Int) → r9 j = r j) → (r9 p = 12) → (∀ l f : Nat, 1 ≤ l → (l : Int) < ll → f < 7 → r9 (p + 2 + 7 * l + f) = r (p + 2 + 7 * (l + 1) + f)) → (1 ≤ ll ∧ ll ≤ 11) → zV pZ l eZ ({ frames := 3, cells := 0, slots := 0, locals := 180 } : Room) sZ mZ ([.ref (ad i), .int (zI ((b : Int))), .int (zI ((s : Int)))] : List Value).toArray below meth cZ (MQ below (zPost D A (rV0 N ad fun g' => (∃ r' : Nat → Int, g' (i + 1) = iA cs 29200 r' ∧ okS r' p (M) (E) ∧ r' p = 11 ∧ (∀ j, j < p ∨ p + 86 ≤ j → r' j = r j)) ∧ ∀ j, j ≠ i + 1 → g' j = g j)) ([.ref (ad i), .int (zI ((b : Int))), .int (zI ((s : Int)))] : List Value).toArray sZ ({ frames := 3, cells := 0, slots := 0, locals := 180 } : Room).cells ({ frames := 3, cells := 0, slots := 0, locals := 180 } : Room).slots A) D A 10 (N) ad g1 (0) (0) 234 [(0, .ref (ad i)), (1, .int (zI ((b : Int)))), (2, .int (zI ((s : Int)))), (7, .int (zI (11))), (8, .int (zI (ll)))] [] := by
    intro n9
    induction n9 using Nat.strongRecOn with
    | ind n9 ih =>
      intro ll r9 g1 hm9 f2 f3 f4 f5 f6 f7 hv
      have hay10 : zAt ad (i) (ad i) := rfl
      have hay11 : zAt ad (i + 1) (ad (i + 1)) := rfl
      refine z_iload C 4 dX10_joins_234 rfl ?_
      refine z_iload C 3 dX10_joins_236 rfl ?_
      refine z_icmp_ge (tgt := 285) C dX10_joins_238 (by decide) (by omega) (by omega) (fun hby12 => ?_) (fun hby12 => ?_)
      · refine z_aload_n C 0 dX10_joins_285 rfl ?_
        refine z_iload_n C 1 dX10_joins_286 rfl ?_
        refine z_iload_n C 2 dX10_joins_287 rfl ?_
        refine z_iload C 3 dX10_joins_288 rfl ?_
        refine z_cV (As := [.int (zI ((b : Int))), .int (zI ((s : Int))), .int (zI (11))]) (rest := []) (ci := 12) C (c_X10_setsMany l D A cs tt N ad _ i hN _ ((f3 _ (by omega)).trans hg) _ f2 b s p hp (by omega) (by omega) (11)) (lt_A0 hN rfl) hay10 ((f3 _ (by omega)).trans hg) rfl rfl mv_yX10_setsMany q_1717 hd_yX10_setsMany (by decide) (Nat.le_of_ble_eq_true rfl) (by decide) dX10_joins_290 rfl (kV0 fun gvy13 hvy13 => ?_)
        obtain ⟨hcvy13, hfvy13⟩ := hvy13
        obtain ⟨ry14, hvy15⟩ : ∃ rZ9 : Nat → Int, rZ9 = uZ r9 (p) (11) := ⟨_, rfl⟩
        rw [← hvy15] at hcvy13
        have hfry16 : ∀ j, j ≠ p → ry14 j = r9 j := fun j n0 => (congrFun hvy15 _).trans ((uZ_n _ _ n0).trans (rfl))
        have hwy17 : ry14 (p) = 11 := (congrFun hvy15 _).trans (uZ_s _ _ _)
        have hok9 : okS ry14 p M E := okS.join ho hn (q := qy5) (by omega) (q2 := qy8) (by omega) (by omega) (fun l a1 a2 f a3 => (hfry16 _ (by omega)).trans (f7 l f a1 (by omega) a3)) (f4.1.ext (fun j a1 a2 => hfry16 j (by omega))) (by rw [hfry16 (qy5 + 1) (by omega), hfry16 (qy5 + 2) (by omega)]; exact f4.2.1) (by rw [hfry16 (qy5 + 3) (by omega)]; exact f4.2.2)
        exact z_vret C hr hlk dX10_joins_293 (by decide) (by decide) ⟨rfl, rfl, rfl, ⟨_, hcvy13, hok9, by omega, fun j a1 => (hfry16 j (by omega)).trans (f5 j (by omega))⟩, fun j j1 => by rw [hfvy13 _ (by omega)]; exact f3 j j1⟩
      · refine z_iconst (z := 0) C dX10_joins_241 rfl ?_
        refine z_istore (lv' := [(9, .int (zI (0))), (0, .ref (ad i)), (1, .int (zI ((b : Int)))), (2, .int (zI ((s : Int)))), (7, .int (zI (11))), (8, .int (zI (ll)))]) C dX10_joins_242 (by decide) rfl ?_
        refine z_iload C 0 dX10_joins_244 rfl ?_
        refine z_bipush (z := 7) C dX10_joins_246 (by decide) ?_
        refine z_icmp_ge (tgt := 279) C dX10_joins_248 (by decide) (by omega) (by omega) (fun h => absurd h (by omega)) (fun _ => ?_)
        refine z_aload_n C 1 dX10_joins_251 rfl ?_
        refine z_iload_n C 2 dX10_joins_252 rfl ?_
        refine z_iload_n C 3 dX10_joins_253 rfl ?_
        refine z_iload C 5 dX10_joins_254 rfl ?_
        refine z_iload C 0 dX10_joins_256 rfl ?_
        refine z_aload_n C 1 dX10_joins_258 rfl ?_
        refine z_iload_n C 2 dX10_joins_259 rfl ?_
        refine z_iload_n C 3 dX10_joins_260 rfl ?_
        refine z_iload C 5 dX10_joins_261 rfl ?_
        refine z_iconst (z := 1) C dX10_joins_263 rfl ?_
        refine z_iadd C dX10_joins_264 ?_
        refine z_iload C 0 dX10_joins_265 rfl ?_
        obtain ⟨ky18, hky18⟩ : ∃ k9 : Nat, (ll + 1) = (k9 : Int) := ⟨((ll + 1) : Int).toNat, by omega⟩
        obtain ⟨qy19, hqy19⟩ : ∃ q9 : Nat, p + 2 + 7 * ky18 = q9 := ⟨_, rfl⟩
        refine z_cV (As := [.int (zI ((b : Int))), .int (zI ((s : Int))), .int (zI (ll + 1)), .int (zI (0))]) (rest := [.int (zI (0)), .int (zI (ll)), .int (zI ((s : Int))), .int (zI ((b : Int))), .ref (ad i)]) (ci := 12) C (c_X10_of l D A cs tt N ad _ i hN _ ((f3 _ (by omega)).trans hg) _ f2 b s p hp (by omega) (by omega) (ll + 1) (0) (qy19) (by omega) (by omega) (by omega)) (lt_A0 hN rfl) hay10 ((f3 _ (by omega)).trans hg) rfl rfl mv_yX10_of q_1749 hd_yX10_of (by decide) (Nat.le_of_ble_eq_true rfl) (by decide) dX10_joins_267 rfl (kI0 fun vy20 gvy20 hvy20 => ?_)
        obtain ⟨rfl, rfl⟩ := hvy20
        obtain ⟨ky21, hky21⟩ : ∃ k9 : Nat, (ll) = (k9 : Int) := ⟨((ll) : Int).toNat, by omega⟩
        obtain ⟨qy22, hqy22⟩ : ∃ q9 : Nat, p + 2 + 7 * ky21 = q9 := ⟨_, rfl⟩
        refine z_cV (As := [.int (zI ((b : Int))), .int (zI ((s : Int))), .int (zI (ll)), .int (zI (0)), .int (zI (r9 (qy19)))]) (rest := []) (ci := 12) C (c_X10_sets l D A cs tt N ad _ i hN _ ((f3 _ (by omega)).trans hg) _ f2 b s p hp (by omega) (by omega) (ll) (0) (qy22) (by omega) (by omega) (by omega) (r9 (qy19))) (lt_A0 hN rfl) hay10 ((f3 _ (by omega)).trans hg) rfl rfl mv_yX10_sets q_1908 hd_yX10_sets (by decide) (Nat.le_of_ble_eq_true rfl) (by decide) dX10_joins_270 rfl (kV0 fun gvy23 hvy23 => ?_)
        obtain ⟨hcvy23, hfvy23⟩ := hvy23
        obtain ⟨ry24, hvy25⟩ : ∃ rZ9 : Nat → Int, rZ9 = uZ r9 (qy22) (r9 (qy19)) := ⟨_, rfl⟩
        rw [← hvy25] at hcvy23
        refine z_iinc (z := 1) (lv' := [(9, .int (zI (1))), (0, .ref (ad i)), (1, .int (zI ((b : Int)))), (2, .int (zI ((s : Int)))), (7, .int (zI (11))), (8, .int (zI (ll)))]) (j := 0) C dX10_joins_273 rfl (congrArg zI (by omega)) (by decide) rfl ?_
        refine z_goto (tgt := 244) C dX10_joins_276 (by decide) ?_
        refine z_iload C 0 dX10_joins_244 rfl ?_
        refine z_bipush (z := 7) C dX10_joins_246 (by decide) ?_
        refine z_icmp_ge (tgt := 279) C dX10_joins_248 (by decide) (by omega) (by omega) (fun h => absurd h (by omega)) (fun _ => ?_)
        refine z_aload_n C 1 dX10_joins_251 rfl ?_
        refine z_iload_n C 2 dX10_joins_252 rfl ?_
        refine z_iload_n C 3 dX10_joins_253 rfl ?_
        refine z_iload C 5 dX10_joins_254 rfl ?_
        refine z_iload C 0 dX10_joins_256 rfl ?_
        refine z_aload_n C 1 dX10_joins_258 rfl ?_
        refine z_iload_n C 2 dX10_joins_259 rfl ?_
        refine z_iload_n C 3 dX10_joins_260 rfl ?_
        refine z_iload C 5 dX10_joins_261 rfl ?_
        refine z_iconst (z := 1) C dX10_joins_263 rfl ?_
        refine z_iadd C dX10_joins_264 ?_
        refine z_iload C 0 dX10_joins_265 rfl ?_
        have hgy26 := (hfvy23 (i) (ne_o (i := i) (c := 0) (d := 1) rfl)).trans ((f3 _ (by omega)).trans hg)
        refine z_cV (As := [.int (zI ((b : Int))), .int (zI ((s : Int))), .int (zI (ll + 1)), .int (zI (1))]) (rest := [.int (zI (1)), .int (zI (ll)), .int (zI ((s : Int))), .int (zI ((b : Int))), .ref (ad i)]) (ci := 12) C (c_X10_of l D A cs tt N ad _ i hN _ hgy26 _ hcvy23 b s p hp (by omega) (by omega) (ll + 1) (1) (qy19 + 1) (by omega) (by omega) (by omega)) (lt_A0 hN rfl) hay10 hgy26 rfl rfl mv_yX10_of q_1749 hd_yX10_of (by decide) (Nat.le_of_ble_eq_true rfl) (by decide) dX10_joins_267 rfl (kI0 fun vy27 gvy27 hvy27 => ?_)
        obtain ⟨rfl, rfl⟩ := hvy27
        rw [show ry24 (qy19 + 1) = r9 (qy19 + 1) from (congrFun hvy25 _).trans ((uZ_n _ _ (by omega)).trans (rfl))]
        refine z_cV (As := [.int (zI ((b : Int))), .int (zI ((s : Int))), .int (zI (ll)), .int (zI (1)), .int (zI (r9 (qy19 + 1)))]) (rest := []) (ci := 12) C (c_X10_sets l D A cs tt N ad _ i hN _ hgy26 _ hcvy23 b s p hp (by omega) (by omega) (ll) (1) (qy22 + 1) (by omega) (by omega) (by omega) (r9 (qy19 + 1))) (lt_A0 hN rfl) hay10 hgy26 rfl rfl mv_yX10_sets q_1908 hd_yX10_sets (by decide) (Nat.le_of_ble_eq_true rfl) (by decide) dX10_joins_270 rfl (kV0 fun gvy28 hvy28 => ?_)
        obtain ⟨hcvy28, hfvy28⟩ := hvy28
        obtain ⟨ry29, hvy30⟩ : ∃ rZ9 : Nat → Int, rZ9 = uZ ry24 (qy22 + 1) (r9 (qy19 + 1)) := ⟨_, rfl⟩
        rw [← hvy30] at hcvy28
        refine z_iinc (z := 2) (lv' := [(9, .int (zI (2))), (0, .ref (ad i)), (1, .int (zI ((b : Int)))), (2, .int (zI ((s : Int)))), (7, .int (zI (11))), (8, .int (zI (ll)))]) (j := 0) C dX10_joins_273 rfl (congrArg zI (by omega)) (by decide) rfl ?_
        refine z_goto (tgt := 244) C dX10_joins_276 (by decide) ?_
        refine z_iload C 0 dX10_joins_244 rfl ?_
        refine z_bipush (z := 7) C dX10_joins_246 (by decide) ?_
        refine z_icmp_ge (tgt := 279) C dX10_joins_248 (by decide) (by omega) (by omega) (fun h => absurd h (by omega)) (fun _ => ?_)
        refine z_aload_n C 1 dX10_joins_251 rfl ?_
        refine z_iload_n C 2 dX10_joins_252 rfl ?_
        refine z_iload_n C 3 dX10_joins_253 rfl ?_
        refine z_iload C 5 dX10_joins_254 rfl ?_
        refine z_iload C 0 dX10_joins_256 rfl ?_
        refine z_aload_n C 1 dX10_joins_258 rfl ?_
        refine z_iload_n C 2 dX10_joins_259 rfl ?_
        refine z_iload_n C 3 dX10_joins_260 rfl ?_
        refine z_iload C 5 dX10_joins_261 rfl ?_
        refine z_iconst (z := 1) C dX10_joins_263 rfl ?_
        refine z_iadd C dX10_joins_264 ?_
        refine z_iload C 0 dX10_joins_265 rfl ?_
        have hgy31 := (hfvy28 (i) (ne_o (i := i) (c := 0) (d := 1) rfl)).trans hgy26
        refine z_cV (As := [.int (zI ((b : Int))), .int (zI ((s : Int))), .int (zI (ll + 1)), .int (zI (2))]) (rest := [.int (zI (2)), .int (zI (ll)), .int (zI ((s : Int))), .int (zI ((b : Int))), .ref (ad i)]) (ci := 12) C (c_X10_of l D A cs tt N ad _ i hN _ hgy31 _ hcvy28 b s p hp (by omega) (by omega) (ll + 1) (2) (qy19 + 2) (by omega) (by omega) (by omega)) (lt_A0 hN rfl) hay10 hgy31 rfl rfl mv_yX10_of q_1749 hd_yX10_of (by decide) (Nat.le_of_ble_eq_true rfl) (by decide) dX10_joins_267 rfl (kI0 fun vy32 gvy32 hvy32 => ?_)
        obtain ⟨rfl, rfl⟩ := hvy32
        rw [show ry29 (qy19 + 2) = r9 (qy19 + 2) from (congrFun hvy30 _).trans ((uZ_n _ _ (by omega)).trans ((congrFun hvy25 _).trans ((uZ_n _ _ (by omega)).trans (rfl))))]
        refine z_cV (As := [.int (zI ((b : Int))), .int (zI ((s : Int))), .int (zI (ll)), .int (zI (2)), .int (zI (r9 (qy19 + 2)))]) (rest := []) (ci := 12) C (c_X10_sets l D A cs tt N ad _ i hN _ hgy31 _ hcvy28 b s p hp (by omega) (by omega) (ll) (2) (qy22 + 2) (by omega) (by omega) (by omega) (r9 (qy19 + 2))) (lt_A0 hN rfl) hay10 hgy31 rfl rfl mv_yX10_sets q_1908 hd_yX10_sets (by decide) (Nat.le_of_ble_eq_true rfl) (by decide) dX10_joins_270 rfl (kV0 fun gvy33 hvy33 => ?_)
        obtain ⟨hcvy33, hfvy33⟩ := hvy33
        obtain ⟨ry34, hvy35⟩ : ∃ rZ9 : Nat → Int, rZ9 = uZ ry29 (qy22 + 2) (r9 (qy19 + 2)) := ⟨_, rfl⟩
        rw [← hvy35] at hcvy33
        refine z_iinc (z := 3) (lv' := [(9, .int (zI (3))), (0, .ref (ad i)), (1, .int (zI ((b : Int)))), (2, .int (zI ((s : Int)))), (7, .int (zI (11))), (8, .int (zI (ll)))]) (j := 0) C dX10_joins_273 rfl (congrArg zI (by omega)) (by decide) rfl ?_
        refine z_goto (tgt := 244) C dX10_joins_276 (by decide) ?_
        refine z_iload C 0 dX10_joins_244 rfl ?_
        refine z_bipush (z := 7) C dX10_joins_246 (by decide) ?_
        refine z_icmp_ge (tgt := 279) C dX10_joins_248 (by decide) (by omega) (by omega) (fun h => absurd h (by omega)) (fun _ => ?_)
        refine z_aload_n C 1 dX10_joins_251 rfl ?_
        refine z_iload_n C 2 dX10_joins_252 rfl ?_
        refine z_iload_n C 3 dX10_joins_253 rfl ?_
        refine z_iload C 5 dX10_joins_254 rfl ?_
        refine z_iload C 0 dX10_joins_256 rfl ?_
        refine z_aload_n C 1 dX10_joins_258 rfl ?_
        refine z_iload_n C 2 dX10_joins_259 rfl ?_
        refine z_iload_n C 3 dX10_joins_260 rfl ?_
        refine z_iload C 5 dX10_joins_261 rfl ?_
        refine z_iconst (z := 1) C dX10_joins_263 rfl ?_
        refine z_iadd C dX10_joins_264 ?_
        refine z_iload C 0 dX10_joins_265 rfl ?_
        have hgy36 := (hfvy33 (i) (ne_o (i := i) (c := 0) (d := 1) rfl)).trans hgy31
        refine z_cV (As := [.int (zI ((b : Int))), .int (zI ((s : Int))), .int (zI (ll + 1)), .int (zI (3))]) (rest := [.int (zI (3)), .int (zI (ll)), .int (zI ((s : Int))), .int (zI ((b : Int))), .ref (ad i)]) (ci := 12) C (c_X10_of l D A cs tt N ad _ i hN _ hgy36 _ hcvy33 b s p hp (by omega) (by omega) (ll + 1) (3) (qy19 + 3) (by omega) (by omega) (by omega)) (lt_A0 hN rfl) hay10 hgy36 rfl rfl mv_yX10_of q_1749 hd_yX10_of (by decide) (Nat.le_of_ble_eq_true rfl) (by decide) dX10_joins_267 rfl (kI0 fun vy37 gvy37 hvy37 => ?_)
        obtain ⟨rfl, rfl⟩ := hvy37
        rw [show ry34 (qy19 + 3) = r9 (qy19 + 3) from (congrFun hvy35 _).trans ((uZ_n _ _ (by omega)).trans ((congrFun hvy30 _).trans ((uZ_n _ _ (by omega)).trans ((congrFun hvy25 _).trans ((uZ_n _ _ (by omega)).trans (rfl))))))]
        refine z_cV (As := [.int (zI ((b : Int))), .int (zI ((s : Int))), .int (zI (ll)), .int (zI (3)), .int (zI (r9 (qy19 + 3)))]) (rest := []) (ci := 12) C (c_X10_sets l D A cs tt N ad _ i hN _ hgy36 _ hcvy33 b s p hp (by omega) (by omega) (ll) (3) (qy22 + 3) (by omega) (by omega) (by omega) (r9 (qy19 + 3))) (lt_A0 hN rfl) hay10 hgy36 rfl rfl mv_yX10_sets q_1908 hd_yX10_sets (by decide) (Nat.le_of_ble_eq_true rfl) (by decide) dX10_joins_270 rfl (kV0 fun gvy38 hvy38 => ?_)
        obtain ⟨hcvy38, hfvy38⟩ := hvy38
        obtain ⟨ry39, hvy40⟩ : ∃ rZ9 : Nat → Int, rZ9 = uZ ry34 (qy22 + 3) (r9 (qy19 + 3)) := ⟨_, rfl⟩
        rw [← hvy40] at hcvy38
        refine z_iinc (z := 4) (lv' := [(9, .int (zI (4))), (0, .ref (ad i)), (1, .int (zI ((b : Int)))), (2, .int (zI ((s : Int)))), (7, .int (zI (11))), (8, .int (zI (ll)))]) (j := 0) C dX10_joins_273 rfl (congrArg zI (by omega)) (by decide) rfl ?_
        refine z_goto (tgt := 244) C dX10_joins_276 (by decide) ?_
        refine z_iload C 0 dX10_joins_244 rfl ?_
        refine z_bipush (z := 7) C dX10_joins_246 (by decide) ?_
        refine z_icmp_ge (tgt := 279) C dX10_joins_248 (by decide) (by omega) (by omega) (fun h => absurd h (by omega)) (fun _ => ?_)
        refine z_aload_n C 1 dX10_joins_251 rfl ?_
        refine z_iload_n C 2 dX10_joins_252 rfl ?_
        refine z_iload_n C 3 dX10_joins_253 rfl ?_
        refine z_iload C 5 dX10_joins_254 rfl ?_
        refine z_iload C 0 dX10_joins_256 rfl ?_
        refine z_aload_n C 1 dX10_joins_258 rfl ?_
        refine z_iload_n C 2 dX10_joins_259 rfl ?_
        refine z_iload_n C 3 dX10_joins_260 rfl ?_
        refine z_iload C 5 dX10_joins_261 rfl ?_
        refine z_iconst (z := 1) C dX10_joins_263 rfl ?_
        refine z_iadd C dX10_joins_264 ?_
        refine z_iload C 0 dX10_joins_265 rfl ?_
        have hgy41 := (hfvy38 (i) (ne_o (i := i) (c := 0) (d := 1) rfl)).trans hgy36
        refine z_cV (As := [.int (zI ((b : Int))), .int (zI ((s : Int))), .int (zI (ll + 1)), .int (zI (4))]) (rest := [.int (zI (4)), .int (zI (ll)), .int (zI ((s : Int))), .int (zI ((b : Int))), .ref (ad i)]) (ci := 12) C (c_X10_of l D A cs tt N ad _ i hN _ hgy41 _ hcvy38 b s p hp (by omega) (by omega) (ll + 1) (4) (qy19 + 4) (by omega) (by omega) (by omega)) (lt_A0 hN rfl) hay10 hgy41 rfl rfl mv_yX10_of q_1749 hd_yX10_of (by decide) (Nat.le_of_ble_eq_true rfl) (by decide) dX10_joins_267 rfl (kI0 fun vy42 gvy42 hvy42 => ?_)
        obtain ⟨rfl, rfl⟩ := hvy42
        rw [show ry39 (qy19 + 4) = r9 (qy19 + 4) from (congrFun hvy40 _).trans ((uZ_n _ _ (by omega)).trans ((congrFun hvy35 _).trans ((uZ_n _ _ (by omega)).trans ((congrFun hvy30 _).trans ((uZ_n _ _ (by omega)).trans ((congrFun hvy25 _).trans ((uZ_n _ _ (by omega)).trans (rfl))))))))]
        refine z_cV (As := [.int (zI ((b : Int))), .int (zI ((s : Int))), .int (zI (ll)), .int (zI (4)), .int (zI (r9 (qy19 + 4)))]) (rest := []) (ci := 12) C (c_X10_sets l D A cs tt N ad _ i hN _ hgy41 _ hcvy38 b s p hp (by omega) (by omega) (ll) (4) (qy22 + 4) (by omega) (by omega) (by omega) (r9 (qy19 + 4))) (lt_A0 hN rfl) hay10 hgy41 rfl rfl mv_yX10_sets q_1908 hd_yX10_sets (by decide) (Nat.le_of_ble_eq_true rfl) (by decide) dX10_joins_270 rfl (kV0 fun gvy43 hvy43 => ?_)
        obtain ⟨hcvy43, hfvy43⟩ := hvy43
        obtain ⟨ry44, hvy45⟩ : ∃ rZ9 : Nat → Int, rZ9 = uZ ry39 (qy22 + 4) (r9 (qy19 + 4)) := ⟨_, rfl⟩
        rw [← hvy45] at hcvy43
        refine z_iinc (z := 5) (lv' := [(9, .int (zI (5))), (0, .ref (ad i)), (1, .int (zI ((b : Int)))), (2, .int (zI ((s : Int)))), (7, .int (zI (11))), (8, .int (zI (ll)))]) (j := 0) C dX10_joins_273 rfl (congrArg zI (by omega)) (by decide) rfl ?_
        refine z_goto (tgt := 244) C dX10_joins_276 (by decide) ?_
        refine z_iload C 0 dX10_joins_244 rfl ?_
        refine z_bipush (z := 7) C dX10_joins_246 (by decide) ?_
        refine z_icmp_ge (tgt := 279) C dX10_joins_248 (by decide) (by omega) (by omega) (fun h => absurd h (by omega)) (fun _ => ?_)
        refine z_aload_n C 1 dX10_joins_251 rfl ?_
        refine z_iload_n C 2 dX10_joins_252 rfl ?_
        refine z_iload_n C 3 dX10_joins_253 rfl ?_
        refine z_iload C 5 dX10_joins_254 rfl ?_
        refine z_iload C 0 dX10_joins_256 rfl ?_
        refine z_aload_n C 1 dX10_joins_258 rfl ?_
        refine z_iload_n C 2 dX10_joins_259 rfl ?_
        refine z_iload_n C 3 dX10_joins_260 rfl ?_
        refine z_iload C 5 dX10_joins_261 rfl ?_
        refine z_iconst (z := 1) C dX10_joins_263 rfl ?_
        refine z_iadd C dX10_joins_264 ?_
        refine z_iload C 0 dX10_joins_265 rfl ?_
        have hgy46 := (hfvy43 (i) (ne_o (i := i) (c := 0) (d := 1) rfl)).trans hgy41
        refine z_cV (As := [.int (zI ((b : Int))), .int (zI ((s : Int))), .int (zI (ll + 1)), .int (zI (5))]) (rest := [.int (zI (5)), .int (zI (ll)), .int (zI ((s : Int))), .int (zI ((b : Int))), .ref (ad i)]) (ci := 12) C (c_X10_of l D A cs tt N ad _ i hN _ hgy46 _ hcvy43 b s p hp (by omega) (by omega) (ll + 1) (5) (qy19 + 5) (by omega) (by omega) (by omega)) (lt_A0 hN rfl) hay10 hgy46 rfl rfl mv_yX10_of q_1749 hd_yX10_of (by decide) (Nat.le_of_ble_eq_true rfl) (by decide) dX10_joins_267 rfl (kI0 fun vy47 gvy47 hvy47 => ?_)
        obtain ⟨rfl, rfl⟩ := hvy47
        rw [show ry44 (qy19 + 5) = r9 (qy19 + 5) from (congrFun hvy45 _).trans ((uZ_n _ _ (by omega)).trans ((congrFun hvy40 _).trans ((uZ_n _ _ (by omega)).trans ((congrFun hvy35 _).trans ((uZ_n _ _ (by omega)).trans ((congrFun hvy30 _).trans ((uZ_n _ _ (by omega)).trans ((congrFun hvy25 _).trans ((uZ_n _ _ (by omega)).trans (rfl))))))))))]
        refine z_cV (As := [.int (zI ((b : Int))), .int (zI ((s : Int))), .int (zI (ll)), .int (zI (5)), .int (zI (r9 (qy19 + 5)))]) (rest := []) (ci := 12) C (c_X10_sets l D A cs tt N ad _ i hN _ hgy46 _ hcvy43 b s p hp (by omega) (by omega) (ll) (5) (qy22 + 5) (by omega) (by omega) (by omega) (r9 (qy19 + 5))) (lt_A0 hN rfl) hay10 hgy46 rfl rfl mv_yX10_sets q_1908 hd_yX10_sets (by decide) (Nat.le_of_ble_eq_true rfl) (by decide) dX10_joins_270 rfl (kV0 fun gvy48 hvy48 => ?_)
        obtain ⟨hcvy48, hfvy48⟩ := hvy48
        obtain ⟨ry49, hvy50⟩ : ∃ rZ9 : Nat → Int, rZ9 = uZ ry44 (qy22 + 5) (r9 (qy19 + 5)) := ⟨_, rfl⟩
        rw [← hvy50] at hcvy48
        refine z_iinc (z := 6) (lv' := [(9, .int (zI (6))), (0, .ref (ad i)), (1, .int (zI ((b : Int)))), (2, .int (zI ((s : Int)))), (7, .int (zI (11))), (8, .int (zI (ll)))]) (j := 0) C dX10_joins_273 rfl (congrArg zI (by omega)) (by decide) rfl ?_
        refine z_goto (tgt := 244) C dX10_joins_276 (by decide) ?_
        refine z_iload C 0 dX10_joins_244 rfl ?_
        refine z_bipush (z := 7) C dX10_joins_246 (by decide) ?_
        refine z_icmp_ge (tgt := 279) C dX10_joins_248 (by decide) (by omega) (by omega) (fun h => absurd h (by omega)) (fun _ => ?_)
        refine z_aload_n C 1 dX10_joins_251 rfl ?_
        refine z_iload_n C 2 dX10_joins_252 rfl ?_
        refine z_iload_n C 3 dX10_joins_253 rfl ?_
        refine z_iload C 5 dX10_joins_254 rfl ?_
        refine z_iload C 0 dX10_joins_256 rfl ?_
        refine z_aload_n C 1 dX10_joins_258 rfl ?_
        refine z_iload_n C 2 dX10_joins_259 rfl ?_
        refine z_iload_n C 3 dX10_joins_260 rfl ?_
        refine z_iload C 5 dX10_joins_261 rfl ?_
        refine z_iconst (z := 1) C dX10_joins_263 rfl ?_
        refine z_iadd C dX10_joins_264 ?_
        refine z_iload C 0 dX10_joins_265 rfl ?_
        have hgy51 := (hfvy48 (i) (ne_o (i := i) (c := 0) (d := 1) rfl)).trans hgy46
        refine z_cV (As := [.int (zI ((b : Int))), .int (zI ((s : Int))), .int (zI (ll + 1)), .int (zI (6))]) (rest := [.int (zI (6)), .int (zI (ll)), .int (zI ((s : Int))), .int (zI ((b : Int))), .ref (ad i)]) (ci := 12) C (c_X10_of l D A cs tt N ad _ i hN _ hgy51 _ hcvy48 b s p hp (by omega) (by omega) (ll + 1) (6) (qy19 + 6) (by omega) (by omega) (by omega)) (lt_A0 hN rfl) hay10 hgy51 rfl rfl mv_yX10_of q_1749 hd_yX10_of (by decide) (Nat.le_of_ble_eq_true rfl) (by decide) dX10_joins_267 rfl (kI0 fun vy52 gvy52 hvy52 => ?_)
        obtain ⟨rfl, rfl⟩ := hvy52
        rw [show ry49 (qy19 + 6) = r9 (qy19 + 6) from (congrFun hvy50 _).trans ((uZ_n _ _ (by omega)).trans ((congrFun hvy45 _).trans ((uZ_n _ _ (by omega)).trans ((congrFun hvy40 _).trans ((uZ_n _ _ (by omega)).trans ((congrFun hvy35 _).trans ((uZ_n _ _ (by omega)).trans ((congrFun hvy30 _).trans ((uZ_n _ _ (by omega)).trans ((congrFun hvy25 _).trans ((uZ_n _ _ (by omega)).trans (rfl))))))))))))]
        refine z_cV (As := [.int (zI ((b : Int))), .int (zI ((s : Int))), .int (zI (ll)), .int (zI (6)), .int (zI (r9 (qy19 + 6)))]) (rest := []) (ci := 12) C (c_X10_sets l D A cs tt N ad _ i hN _ hgy51 _ hcvy48 b s p hp (by omega) (by omega) (ll) (6) (qy22 + 6) (by omega) (by omega) (by omega) (r9 (qy19 + 6))) (lt_A0 hN rfl) hay10 hgy51 rfl rfl mv_yX10_sets q_1908 hd_yX10_sets (by decide) (Nat.le_of_ble_eq_true rfl) (by decide) dX10_joins_270 rfl (kV0 fun gvy53 hvy53 => ?_)
        obtain ⟨hcvy53, hfvy53⟩ := hvy53
        obtain ⟨ry54, hvy55⟩ : ∃ rZ9 : Nat → Int, rZ9 = uZ ry49 (qy22 + 6) (r9 (qy19 + 6)) := ⟨_, rfl⟩
        rw [← hvy55] at hcvy53
        refine z_iinc (z := 7) (lv' := [(9, .int (zI (7))), (0, .ref (ad i)), (1, .int (zI ((b : Int)))), (2, .int (zI ((s : Int)))), (7, .int (zI (11))), (8, .int (zI (ll)))]) (j := 0) C dX10_joins_273 rfl (congrArg zI (by omega)) (by decide) rfl ?_
        refine z_goto (tgt := 244) C dX10_joins_276 (by decide) ?_
        refine z_iload C 0 dX10_joins_244 rfl ?_
        refine z_bipush (z := 7) C dX10_joins_246 (by decide) ?_
        refine z_icmp_ge (tgt := 279) C dX10_joins_248 (by decide) (by omega) (by omega) (fun _ => ?_) (fun h => absurd h (by omega))
        refine z_iinc (z := ll + 1) (lv' := [(8, .int (zI (ll + 1))), (9, .int (zI (7))), (0, .ref (ad i)), (1, .int (zI ((b : Int)))), (2, .int (zI ((s : Int)))), (7, .int (zI (11)))]) (j := 5) C dX10_joins_279 rfl rfl (by decide) rfl ?_
        refine z_goto (tgt := 234) C dX10_joins_282 (by decide) ?_
        have hfry56 : ∀ j, j ≠ qy22 + 6 → j ≠ qy22 + 5 → j ≠ qy22 + 4 → j ≠ qy22 + 3 → j ≠ qy22 + 2 → j ≠ qy22 + 1 → j ≠ qy22 → ry54 j = r9 j := fun j n0 n1 n2 n3 n4 n5 n6 => (congrFun hvy55 _).trans ((uZ_n _ _ n0).trans ((congrFun hvy50 _).trans ((uZ_n _ _ n1).trans ((congrFun hvy45 _).trans ((uZ_n _ _ n2).trans ((congrFun hvy40 _).trans ((uZ_n _ _ n3).trans ((congrFun hvy35 _).trans ((uZ_n _ _ n4).trans ((congrFun hvy30 _).trans ((uZ_n _ _ n5).trans ((congrFun hvy25 _).trans ((uZ_n _ _ n6).trans (rfl))))))))))))))
        have hwy57 : ry54 (qy22) = r9 (qy19) := (congrFun hvy55 _).trans ((uZ_n _ _ (by omega)).trans ((congrFun hvy50 _).trans ((uZ_n _ _ (by omega)).trans ((congrFun hvy45 _).trans ((uZ_n _ _ (by omega)).trans ((congrFun hvy40 _).trans ((uZ_n _ _ (by omega)).trans ((congrFun hvy35 _).trans ((uZ_n _ _ (by omega)).trans ((congrFun hvy30 _).trans ((uZ_n _ _ (by omega)).trans ((congrFun hvy25 _).trans (uZ_s _ _ _)))))))))))))
        have hwy58 : ry54 (qy22 + 1) = r9 (qy19 + 1) := (congrFun hvy55 _).trans ((uZ_n _ _ (by omega)).trans ((congrFun hvy50 _).trans ((uZ_n _ _ (by omega)).trans ((congrFun hvy45 _).trans ((uZ_n _ _ (by omega)).trans ((congrFun hvy40 _).trans ((uZ_n _ _ (by omega)).trans ((congrFun hvy35 _).trans ((uZ_n _ _ (by omega)).trans ((congrFun hvy30 _).trans (uZ_s _ _ _)))))))))))
        have hwy59 : ry54 (qy22 + 2) = r9 (qy19 + 2) := (congrFun hvy55 _).trans ((uZ_n _ _ (by omega)).trans ((congrFun hvy50 _).trans ((uZ_n _ _ (by omega)).trans ((congrFun hvy45 _).trans ((uZ_n _ _ (by omega)).trans ((congrFun hvy40 _).trans ((uZ_n _ _ (by omega)).trans ((congrFun hvy35 _).trans (uZ_s _ _ _)))))))))
        have hwy60 : ry54 (qy22 + 3) = r9 (qy19 + 3) := (congrFun hvy55 _).trans ((uZ_n _ _ (by omega)).trans ((congrFun hvy50 _).trans ((uZ_n _ _ (by omega)).trans ((congrFun hvy45 _).trans ((uZ_n _ _ (by omega)).trans ((congrFun hvy40 _).trans (uZ_s _ _ _)))))))
        have hwy61 : ry54 (qy22 + 4) = r9 (qy19 + 4) := (congrFun hvy55 _).trans ((uZ_n _ _ (by omega)).trans ((congrFun hvy50 _).trans ((uZ_n _ _ (by omega)).trans ((congrFun hvy45 _).trans (uZ_s _ _ _)))))
        have hwy62 : ry54 (qy22 + 5) = r9 (qy19 + 5) := (congrFun hvy55 _).trans ((uZ_n _ _ (by omega)).trans ((congrFun hvy50 _).trans (uZ_s _ _ _)))
        have hwy63 : ry54 (qy22 + 6) = r9 (qy19 + 6) := (congrFun hvy55 _).trans (uZ_s _ _ _)
        have hu0 : ry54 (qy22) = r (qy19) := by rw [← f5 (qy19) (by omega)]; omega
        have hu1 : ry54 (qy22 + 1) = r (qy19 + 1) := by rw [← f5 (qy19 + 1) (by omega)]; omega
        have hu2 : ry54 (qy22 + 2) = r (qy19 + 2) := by rw [← f5 (qy19 + 2) (by omega)]; omega
        have hu3 : ry54 (qy22 + 3) = r (qy19 + 3) := by rw [← f5 (qy19 + 3) (by omega)]; omega
        have hu4 : ry54 (qy22 + 4) = r (qy19 + 4) := by rw [← f5 (qy19 + 4) (by omega)]; omega
        have hu5 : ry54 (qy22 + 5) = r (qy19 + 5) := by rw [← f5 (qy19 + 5) (by omega)]; omega
        have hu6 : ry54 (qy22 + 6) = r (qy19 + 6) := by rw [← f5 (qy19 + 6) (by omega)]; omega
        have hJ : ly ry54 qy5 ∧ ry54 (qy5 + 1) + ry54 (qy5 + 2) = r (qy5 + 1) + r (qy5 + 2) + (r (qy8 + 1) + r (qy8 + 2)) ∧ ry54 (qy5 + 3) = r (qy5 + 3) + r (qy8 + 3) := ⟨f4.1.ext (fun j a1 a2 => hfry56 j (by omega) (by omega) (by omega) (by omega) (by omega) (by omega) (by omega)), by rw [hfry56 (qy5 + 1) (by omega) (by omega) (by omega) (by omega) (by omega) (by omega) (by omega), hfry56 (qy5 + 2) (by omega) (by omega) (by omega) (by omega) (by omega) (by omega) (by omega)]; exact f4.2.1, by rw [hfry56 (qy5 + 3) (by omega) (by omega) (by omega) (by omega) (by omega) (by omega) (by omega)]; exact f4.2.2⟩
        have hsh : ∀ l f : Nat, 1 ≤ l → (l : Int) < ll + 1 → f < 7 → ry54 (p + 2 + 7 * l + f) = r (p + 2 + 7 * (l + 1) + f) := by
          intro l f a1 a2 a3
          by_cases e : l = ky21
          · subst e; rw [show p + 2 + 7 * (l + 1) = qy19 by omega, hqy22]; rcases (show f = 0 ∨ f = 1 ∨ f = 2 ∨ f = 3 ∨ f = 4 ∨ f = 5 ∨ f = 6 by omega) with rfl | rfl | rfl | rfl | rfl | rfl | rfl
            · exact hu0
            · exact hu1
            · exact hu2
            · exact hu3
            · exact hu4
            · exact hu5
            · exact hu6
          · exact (hfry56 _ (by omega) (by omega) (by omega) (by omega) (by omega) (by omega) (by omega)).trans (f7 l f a1 (by omega) a3)
        refine z_lv (lv' := [(0, .ref (ad i)), (1, .int (zI ((b : Int)))), (2, .int (zI ((s : Int)))), (7, .int (zI (11))), (8, .int (zI (ll + 1)))]) [2, 3, 4, 5, 0] rfl ?_
        exact ih _ (by omega) (ll + 1) ry54 gvy53 rfl hcvy53 (fun j j1 => by rw [hfvy53 _ (by omega)]; rw [hfvy48 _ (by omega)]; rw [hfvy43 _ (by omega)]; rw [hfvy38 _ (by omega)]; rw [hfvy33 _ (by omega)]; rw [hfvy28 _ (by omega)]; rw [hfvy23 _ (by omega)]; exact f3 j j1) hJ (fun j a1 => (hfry56 j (by omega) (by omega) (by omega) (by omega) (by omega) (by omega) (by omega)).trans (f5 j (by omega))) ((hfry56 p (by omega) (by omega) (by omega) (by omega) (by omega) (by omega) (by omega)).trans f6) hsh (by omega)
  refine z_iload_n C 1 dX10_joins_0 rfl ?_
  refine z_iload_n C 2 dX10_joins_1 rfl ?_
  refine z_iconst (z := 0) C dX10_joins_2 rfl ?_
  refine z_cS (As := [.int (zI ((b : Int))), .int (zI ((s : Int))), .int (zI (0))]) (rest := []) C (c_X10_at l D A cs tt N ad _ ((b : Int)) (by omega) ((s : Int)) (by omega) (0) (by omega)) ms_yX10_at q_1753 hd_yX10_at (by decide) (Nat.le_of_ble_eq_true rfl) (by decide) dX10_joins_3 rfl (kI0 fun vy64 gvy64 hvy64 => ?_)
  obtain ⟨hvy64, rfl⟩ := hvy64
  rw [show vy64 = (qy5 : Int) by omega]
  refine z_istore_n (lv' := [(3, .int (zI ((qy5 : Int)))), (0, .ref (ad i)), (1, .int (zI ((b : Int)))), (2, .int (zI ((s : Int))))]) C dX10_joins_6 rfl (by decide) rfl ?_
  refine z_iload_n C 2 dX10_joins_7 rfl ?_
  refine z_iload_n C 3 dX10_joins_8 rfl ?_
  refine z_iconst (z := 1) C dX10_joins_9 rfl ?_
  refine z_cS (As := [.int (zI ((b : Int))), .int (zI ((s : Int))), .int (zI (1))]) (rest := []) C (c_X10_at l D A cs tt N ad _ ((b : Int)) (by omega) ((s : Int)) (by omega) (1) (by omega)) ms_yX10_at q_1753 hd_yX10_at (by decide) (Nat.le_of_ble_eq_true rfl) (by decide) dX10_joins_10 rfl (kI0 fun vy65 gvy65 hvy65 => ?_)
  obtain ⟨hvy65, rfl⟩ := hvy65
  rw [show vy65 = (qy8 : Int) by omega]
  refine z_istore (lv' := [(4, .int (zI ((qy8 : Int)))), (3, .int (zI ((qy5 : Int)))), (0, .ref (ad i)), (1, .int (zI ((b : Int)))), (2, .int (zI ((s : Int))))]) C dX10_joins_13 (by decide) rfl ?_
  refine z_aload_n C 2 dX10_joins_15 rfl ?_
  refine z_get (v := .ref (ad (i + 1))) C (lt_A0 hN rfl) hay1 hg rfl inA_X10 0 (by decide) q_1459 rfl rfl dX10_joins_16 ?_
  refine z_iload_n C 1 dX10_joins_19 rfl ?_
  refine z_iconst (z := 1) C dX10_joins_20 rfl ?_
  refine z_iadd C dX10_joins_21 ?_
  refine z_iald C (lt_A (c := 1) hN rfl) hay2 ha1 (qy5 + 1) (by omega) (by omega) (by decide) dX10_joins_22 ?_
  refine z_aload_n C 2 dX10_joins_23 rfl ?_
  refine z_get (v := .ref (ad (i + 1))) C (lt_A0 hN rfl) hay1 hg rfl inA_X10 0 (by decide) q_1459 rfl rfl dX10_joins_24 ?_
  refine z_iload C 0 dX10_joins_27 rfl ?_
  refine z_iconst (z := 1) C dX10_joins_29 rfl ?_
  refine z_iadd C dX10_joins_30 ?_
  refine z_iald C (lt_A (c := 1) hN rfl) hay2 ha1 (qy8 + 1) (by omega) (by omega) (by decide) dX10_joins_31 ?_
  refine z_iadd C dX10_joins_32 ?_
  refine z_istore (lv' := [(5, .int (zI ((r (qy5 + 1)) + (r (qy8 + 1))))), (4, .int (zI ((qy8 : Int)))), (3, .int (zI ((qy5 : Int)))), (0, .ref (ad i)), (1, .int (zI ((b : Int)))), (2, .int (zI ((s : Int))))]) C dX10_joins_33 (by decide) rfl ?_
  refine z_aload_n C 3 dX10_joins_35 rfl ?_
  refine z_get (v := .ref (ad (i + 1))) C (lt_A0 hN rfl) hay1 hg rfl inA_X10 0 (by decide) q_1459 rfl rfl dX10_joins_36 ?_
  refine z_iload_n C 2 dX10_joins_39 rfl ?_
  refine z_iconst (z := 4) C dX10_joins_40 rfl ?_
  refine z_iadd C dX10_joins_41 ?_
  refine z_iald C (lt_A (c := 1) hN rfl) hay2 ha1 (qy5 + 4) (by omega) (by omega) (by decide) dX10_joins_42 ?_
  refine z_aload_n C 3 dX10_joins_43 rfl ?_
  refine z_get (v := .ref (ad (i + 1))) C (lt_A0 hN rfl) hay1 hg rfl inA_X10 0 (by decide) q_1459 rfl rfl dX10_joins_44 ?_
  refine z_iload_n C 2 dX10_joins_47 rfl ?_
  refine z_iconst (z := 1) C dX10_joins_48 rfl ?_
  refine z_iadd C dX10_joins_49 ?_
  refine z_iald C (lt_A (c := 1) hN rfl) hay2 ha1 (qy5 + 1) (by omega) (by omega) (by decide) dX10_joins_50 ?_
  refine z_imul C dX10_joins_51 ?_
  obtain ⟨xy66, exy66, hxy66⟩ := muln (a := r (qy5 + 4)) (b := r (qy5 + 1)) (A := 300) (B := 138500) ⟨by omega, by omega⟩ ⟨by omega, by omega⟩
  rw [exy66]
  refine z_aload_n C 3 dX10_joins_52 rfl ?_
  refine z_get (v := .ref (ad (i + 1))) C (lt_A0 hN rfl) hay1 hg rfl inA_X10 0 (by decide) q_1459 rfl rfl dX10_joins_53 ?_
  refine z_iload C 1 dX10_joins_56 rfl ?_
  refine z_iconst (z := 4) C dX10_joins_58 rfl ?_
  refine z_iadd C dX10_joins_59 ?_
  refine z_iald C (lt_A (c := 1) hN rfl) hay2 ha1 (qy8 + 4) (by omega) (by omega) (by decide) dX10_joins_60 ?_
  refine z_aload_n C 3 dX10_joins_61 rfl ?_
  refine z_get (v := .ref (ad (i + 1))) C (lt_A0 hN rfl) hay1 hg rfl inA_X10 0 (by decide) q_1459 rfl rfl dX10_joins_62 ?_
  refine z_iload C 1 dX10_joins_65 rfl ?_
  refine z_iconst (z := 1) C dX10_joins_67 rfl ?_
  refine z_iadd C dX10_joins_68 ?_
  refine z_iald C (lt_A (c := 1) hN rfl) hay2 ha1 (qy8 + 1) (by omega) (by omega) (by decide) dX10_joins_69 ?_
  refine z_imul C dX10_joins_70 ?_
  obtain ⟨xy67, exy67, hxy67⟩ := muln (a := r (qy8 + 4)) (b := r (qy8 + 1)) (A := 300) (B := 138500) ⟨by omega, by omega⟩ ⟨by omega, by omega⟩
  rw [exy67]
  refine z_iadd C dX10_joins_71 ?_
  refine z_iload C 0 dX10_joins_72 rfl ?_
  refine z_idiv C dX10_joins_74 (by omega) (by omega) (by omega) ?_
  obtain ⟨xy68, exy68, hxy68⟩ := tdm (a := xy66 + xy67) (k := (r (qy5 + 1)) + (r (qy8 + 1))) ⟨by omega, by omega⟩ (by omega)
  rw [exy68]
  refine z_istore (lv' := [(6, .int (zI (xy68))), (5, .int (zI ((r (qy5 + 1)) + (r (qy8 + 1))))), (4, .int (zI ((qy8 : Int)))), (3, .int (zI ((qy5 : Int)))), (0, .ref (ad i)), (1, .int (zI ((b : Int)))), (2, .int (zI ((s : Int))))]) C dX10_joins_75 (by decide) rfl ?_
  refine z_aload_n C 4 dX10_joins_77 rfl ?_
  refine z_get (v := .ref (ad (i + 1))) C (lt_A0 hN rfl) hay1 hg rfl inA_X10 0 (by decide) q_1459 rfl rfl dX10_joins_78 ?_
  refine z_iload C 2 dX10_joins_81 rfl ?_
  refine z_iconst (z := 1) C dX10_joins_83 rfl ?_
  refine z_iadd C dX10_joins_84 ?_
  refine z_iald C (lt_A (c := 1) hN rfl) hay2 ha1 (qy8 + 1) (by omega) (by omega) (by decide) dX10_joins_85 ?_
  refine z_aload_n C 4 dX10_joins_86 rfl ?_
  refine z_get (v := .ref (ad (i + 1))) C (lt_A0 hN rfl) hay1 hg rfl inA_X10 0 (by decide) q_1459 rfl rfl dX10_joins_87 ?_
  refine z_iload_n C 3 dX10_joins_90 rfl ?_
  refine z_iconst (z := 1) C dX10_joins_91 rfl ?_
  refine z_iadd C dX10_joins_92 ?_
  refine z_iald C (lt_A (c := 1) hN rfl) hay2 ha1 (qy5 + 1) (by omega) (by omega) (by decide) dX10_joins_93 ?_
  refine z_icmp_le (tgt := 133) C dX10_joins_94 (by decide) (by omega) (by omega) (fun hby69 => ?_) (fun hby69 => ?_)
  · refine z_aload_n C 4 dX10_joins_133 rfl ?_
    refine z_get (v := .ref (ad (i + 1))) C (lt_A0 hN rfl) hay1 hg rfl inA_X10 0 (by decide) q_1459 rfl rfl dX10_joins_134 ?_
    refine z_iload_n C 3 dX10_joins_137 rfl ?_
    refine z_iconst (z := 1) C dX10_joins_138 rfl ?_
    refine z_iadd C dX10_joins_139 ?_
    refine z_iload C 1 dX10_joins_140 rfl ?_
    refine z_iast C (lt_A (c := 1) hN rfl) hay2 ha1 (qy5 + 1) (by omega) (by omega) (by decide) dX10_joins_142 (fun gy70 egy71 => ?_)
    have hgy72 := up_s egy71
    obtain ⟨ry73, hvy74⟩ : ∃ rZ9 : Nat → Int, rZ9 = uZ r (qy5 + 1) ((r (qy5 + 1)) + (r (qy8 + 1))) := ⟨_, rfl⟩
    rw [← hvy74] at hgy72
    refine z_aload_n C 4 dX10_joins_143 rfl ?_
    have hgy75 := up_n egy71 hg (ne_o (i := i) (c := 0) (d := 1) rfl)
    refine z_get (v := .ref (ad (i + 1))) C (lt_A0 hN rfl) hay1 hgy75 rfl inA_X10 0 (by decide) q_1459 rfl rfl dX10_joins_144 ?_
    refine z_iload_n C 3 dX10_joins_147 rfl ?_
    refine z_iconst (z := 2) C dX10_joins_148 rfl ?_
    refine z_iadd C dX10_joins_149 ?_
    refine z_dup2 C dX10_joins_150 rfl rfl ?_
    refine z_iald C (lt_A (c := 1) hN rfl) hay2 hgy72 (qy5 + 2) (by omega) (by omega) (by decide) dX10_joins_151 ?_
    rw [show ry73 (qy5 + 2) = r (qy5 + 2) from (congrFun hvy74 _).trans ((uZ_n _ _ (by omega)).trans (rfl))]
    refine z_aload_n C 4 dX10_joins_152 rfl ?_
    refine z_get (v := .ref (ad (i + 1))) C (lt_A0 hN rfl) hay1 hgy75 rfl inA_X10 0 (by decide) q_1459 rfl rfl dX10_joins_153 ?_
    refine z_iload C 2 dX10_joins_156 rfl ?_
    refine z_iconst (z := 2) C dX10_joins_158 rfl ?_
    refine z_iadd C dX10_joins_159 ?_
    refine z_iald C (lt_A (c := 1) hN rfl) hay2 hgy72 (qy8 + 2) (by omega) (by omega) (by decide) dX10_joins_160 ?_
    rw [show ry73 (qy8 + 2) = r (qy8 + 2) from (congrFun hvy74 _).trans ((uZ_n _ _ (by omega)).trans (rfl))]
    refine z_iadd C dX10_joins_161 ?_
    refine z_iast C (lt_A (c := 1) hN rfl) hay2 hgy72 (qy5 + 2) (by omega) (by omega) (by decide) dX10_joins_162 (fun gy76 egy77 => ?_)
    have hgy78 := up_s egy77
    obtain ⟨ry79, hvy80⟩ : ∃ rZ9 : Nat → Int, rZ9 = uZ ry73 (qy5 + 2) ((r (qy5 + 2)) + (r (qy8 + 2))) := ⟨_, rfl⟩
    rw [← hvy80] at hgy78
    refine z_aload_n C 4 dX10_joins_163 rfl ?_
    have hgy81 := up_n egy77 hgy75 (ne_o (i := i) (c := 0) (d := 1) rfl)
    refine z_get (v := .ref (ad (i + 1))) C (lt_A0 hN rfl) hay1 hgy81 rfl inA_X10 0 (by decide) q_1459 rfl rfl dX10_joins_164 ?_
    refine z_iload_n C 3 dX10_joins_167 rfl ?_
    refine z_iconst (z := 3) C dX10_joins_168 rfl ?_
    refine z_iadd C dX10_joins_169 ?_
    refine z_dup2 C dX10_joins_170 rfl rfl ?_
    refine z_iald C (lt_A (c := 1) hN rfl) hay2 hgy78 (qy5 + 3) (by omega) (by omega) (by decide) dX10_joins_171 ?_
    rw [show ry79 (qy5 + 3) = r (qy5 + 3) from (congrFun hvy80 _).trans ((uZ_n _ _ (by omega)).trans ((congrFun hvy74 _).trans ((uZ_n _ _ (by omega)).trans (rfl))))]
    refine z_aload_n C 4 dX10_joins_172 rfl ?_
    refine z_get (v := .ref (ad (i + 1))) C (lt_A0 hN rfl) hay1 hgy81 rfl inA_X10 0 (by decide) q_1459 rfl rfl dX10_joins_173 ?_
    refine z_iload C 2 dX10_joins_176 rfl ?_
    refine z_iconst (z := 3) C dX10_joins_178 rfl ?_
    refine z_iadd C dX10_joins_179 ?_
    refine z_iald C (lt_A (c := 1) hN rfl) hay2 hgy78 (qy8 + 3) (by omega) (by omega) (by decide) dX10_joins_180 ?_
    rw [show ry79 (qy8 + 3) = r (qy8 + 3) from (congrFun hvy80 _).trans ((uZ_n _ _ (by omega)).trans ((congrFun hvy74 _).trans ((uZ_n _ _ (by omega)).trans (rfl))))]
    refine z_iadd C dX10_joins_181 ?_
    refine z_iast C (lt_A (c := 1) hN rfl) hay2 hgy78 (qy5 + 3) (by omega) (by omega) (by decide) dX10_joins_182 (fun gy82 egy83 => ?_)
    have hgy84 := up_s egy83
    obtain ⟨ry85, hvy86⟩ : ∃ rZ9 : Nat → Int, rZ9 = uZ ry79 (qy5 + 3) ((r (qy5 + 3)) + (r (qy8 + 3))) := ⟨_, rfl⟩
    rw [← hvy86] at hgy84
    refine z_aload_n C 4 dX10_joins_183 rfl ?_
    have hgy87 := up_n egy83 hgy81 (ne_o (i := i) (c := 0) (d := 1) rfl)
    refine z_get (v := .ref (ad (i + 1))) C (lt_A0 hN rfl) hay1 hgy87 rfl inA_X10 0 (by decide) q_1459 rfl rfl dX10_joins_184 ?_
    refine z_iload_n C 3 dX10_joins_187 rfl ?_
    refine z_iconst (z := 4) C dX10_joins_188 rfl ?_
    refine z_iadd C dX10_joins_189 ?_
    refine z_iload C 0 dX10_joins_190 rfl ?_
    refine z_iast C (lt_A (c := 1) hN rfl) hay2 hgy84 (qy5 + 4) (by omega) (by omega) (by decide) dX10_joins_192 (fun gy88 egy89 => ?_)
    have hgy90 := up_s egy89
    obtain ⟨ry91, hvy92⟩ : ∃ rZ9 : Nat → Int, rZ9 = uZ ry85 (qy5 + 4) (xy68) := ⟨_, rfl⟩
    rw [← hvy92] at hgy90
    refine z_aload_n C 4 dX10_joins_193 rfl ?_
    have hgy93 := up_n egy89 hgy87 (ne_o (i := i) (c := 0) (d := 1) rfl)
    refine z_get (v := .ref (ad (i + 1))) C (lt_A0 hN rfl) hay1 hgy93 rfl inA_X10 0 (by decide) q_1459 rfl rfl dX10_joins_194 ?_
    refine z_iload_n C 3 dX10_joins_197 rfl ?_
    refine z_iconst (z := 5) C dX10_joins_198 rfl ?_
    refine z_iadd C dX10_joins_199 ?_
    refine z_aload_n C 4 dX10_joins_200 rfl ?_
    refine z_get (v := .ref (ad (i + 1))) C (lt_A0 hN rfl) hay1 hgy93 rfl inA_X10 0 (by decide) q_1459 rfl rfl dX10_joins_201 ?_
    refine z_iload_n C 3 dX10_joins_204 rfl ?_
    refine z_iconst (z := 5) C dX10_joins_205 rfl ?_
    refine z_iadd C dX10_joins_206 ?_
    refine z_iald C (lt_A (c := 1) hN rfl) hay2 hgy90 (qy5 + 5) (by omega) (by omega) (by decide) dX10_joins_207 ?_
    rw [show ry91 (qy5 + 5) = r (qy5 + 5) from (congrFun hvy92 _).trans ((uZ_n _ _ (by omega)).trans ((congrFun hvy86 _).trans ((uZ_n _ _ (by omega)).trans ((congrFun hvy80 _).trans ((uZ_n _ _ (by omega)).trans ((congrFun hvy74 _).trans ((uZ_n _ _ (by omega)).trans (rfl))))))))]
    refine z_aload_n C 4 dX10_joins_208 rfl ?_
    refine z_get (v := .ref (ad (i + 1))) C (lt_A0 hN rfl) hay1 hgy93 rfl inA_X10 0 (by decide) q_1459 rfl rfl dX10_joins_209 ?_
    refine z_iload C 2 dX10_joins_212 rfl ?_
    refine z_iconst (z := 5) C dX10_joins_214 rfl ?_
    refine z_iadd C dX10_joins_215 ?_
    refine z_iald C (lt_A (c := 1) hN rfl) hay2 hgy90 (qy8 + 5) (by omega) (by omega) (by decide) dX10_joins_216 ?_
    rw [show ry91 (qy8 + 5) = r (qy8 + 5) from (congrFun hvy92 _).trans ((uZ_n _ _ (by omega)).trans ((congrFun hvy86 _).trans ((uZ_n _ _ (by omega)).trans ((congrFun hvy80 _).trans ((uZ_n _ _ (by omega)).trans ((congrFun hvy74 _).trans ((uZ_n _ _ (by omega)).trans (rfl))))))))]
    obtain ⟨xy94, exy95, hxy96⟩ := zI_of (zI (r (qy8 + 5)))
    rw [exy95]
    obtain ⟨xy97, exy98, hxy99⟩ := zI_of (zI (r (qy5 + 5)))
    rw [exy98]
    refine z_cS (As := [.int (zI (xy97)), .int (zI (xy94))]) (rest := [.int (zI (((qy5 : Int)) + 5)), .ref (ad (i + 1))]) C (c_X10_greater l D A cs tt N ad _ (xy97) (by omega) (xy94) (by omega)) ms_yX10_greater q_1905 hd_yX10_greater (by decide) (Nat.le_of_ble_eq_true rfl) (by decide) dX10_joins_217 rfl (kI0 fun vy100 gvy100 hvy100 => ?_)
    obtain ⟨hvy100, rfl⟩ := hvy100
    refine z_iast C (lt_A (c := 1) hN rfl) hay2 hgy90 (qy5 + 5) (by omega) (by omega) (by decide) dX10_joins_220 (fun gy101 egy102 => ?_)
    have hgy103 := up_s egy102
    obtain ⟨ry104, hvy105⟩ : ∃ rZ9 : Nat → Int, rZ9 = uZ ry91 (qy5 + 5) (vy100) := ⟨_, rfl⟩
    rw [← hvy105] at hgy103
    refine z_aload_n C 4 dX10_joins_221 rfl ?_
    refine z_iload_n C 5 dX10_joins_222 rfl ?_
    refine z_iload_n C 6 dX10_joins_223 rfl ?_
    have hgy106 := up_n egy102 hgy93 (ne_o (i := i) (c := 0) (d := 1) rfl)
    refine z_cV (As := [.int (zI ((b : Int))), .int (zI ((s : Int)))]) (rest := []) (ci := 12) C (c_X10_many l D A cs tt N ad _ i hN _ hgy106 _ hgy103 b s p hp (by omega) (by omega)) (lt_A0 hN rfl) hay1 hgy106 rfl rfl mv_yX10_many q_1733 hd_yX10_many (by decide) (Nat.le_of_ble_eq_true rfl) (by decide) dX10_joins_224 rfl (kI0 fun vy107 gvy107 hvy107 => ?_)
    obtain ⟨rfl, rfl⟩ := hvy107
    rw [show ry104 (p) = r (p) from (congrFun hvy105 _).trans ((uZ_n _ _ (by omega)).trans ((congrFun hvy92 _).trans ((uZ_n _ _ (by omega)).trans ((congrFun hvy86 _).trans ((uZ_n _ _ (by omega)).trans ((congrFun hvy80 _).trans ((uZ_n _ _ (by omega)).trans ((congrFun hvy74 _).trans ((uZ_n _ _ (by omega)).trans (rfl))))))))))]
    refine z_iconst (z := 1) C dX10_joins_227 rfl ?_
    refine z_isub C dX10_joins_228 ?_
    rw [show (r (p)) - 1 = 11 by omega]
    refine z_istore (lv' := [(7, .int (zI (11))), (6, .int (zI (xy68))), (5, .int (zI ((r (qy5 + 1)) + (r (qy8 + 1))))), (4, .int (zI ((qy8 : Int)))), (3, .int (zI ((qy5 : Int)))), (0, .ref (ad i)), (1, .int (zI ((b : Int)))), (2, .int (zI ((s : Int))))]) C dX10_joins_229 (by decide) rfl ?_
    refine z_iconst (z := 1) C dX10_joins_231 rfl ?_
    refine z_istore (lv' := [(8, .int (zI (1))), (7, .int (zI (11))), (6, .int (zI (xy68))), (5, .int (zI ((r (qy5 + 1)) + (r (qy8 + 1))))), (4, .int (zI ((qy8 : Int)))), (3, .int (zI ((qy5 : Int)))), (0, .ref (ad i)), (1, .int (zI ((b : Int)))), (2, .int (zI ((s : Int))))]) C dX10_joins_232 (by decide) rfl ?_
    have hfry108 : ∀ j, j ≠ qy5 + 5 → j ≠ qy5 + 4 → j ≠ qy5 + 3 → j ≠ qy5 + 2 → j ≠ qy5 + 1 → ry104 j = r j := fun j n0 n1 n2 n3 n4 => (congrFun hvy105 _).trans ((uZ_n _ _ n0).trans ((congrFun hvy92 _).trans ((uZ_n _ _ n1).trans ((congrFun hvy86 _).trans ((uZ_n _ _ n2).trans ((congrFun hvy80 _).trans ((uZ_n _ _ n3).trans ((congrFun hvy74 _).trans ((uZ_n _ _ n4).trans (rfl))))))))))
    have hwy109 : ry104 (qy5) = r (qy5) := (congrFun hvy105 _).trans ((uZ_n _ _ (by omega)).trans ((congrFun hvy92 _).trans ((uZ_n _ _ (by omega)).trans ((congrFun hvy86 _).trans ((uZ_n _ _ (by omega)).trans ((congrFun hvy80 _).trans ((uZ_n _ _ (by omega)).trans ((congrFun hvy74 _).trans ((uZ_n _ _ (by omega)).trans (rfl))))))))))
    have hwy110 : ry104 (qy5 + 1) = (r (qy5 + 1)) + (r (qy8 + 1)) := (congrFun hvy105 _).trans ((uZ_n _ _ (by omega)).trans ((congrFun hvy92 _).trans ((uZ_n _ _ (by omega)).trans ((congrFun hvy86 _).trans ((uZ_n _ _ (by omega)).trans ((congrFun hvy80 _).trans ((uZ_n _ _ (by omega)).trans ((congrFun hvy74 _).trans (uZ_s _ _ _)))))))))
    have hwy111 : ry104 (qy5 + 2) = (r (qy5 + 2)) + (r (qy8 + 2)) := (congrFun hvy105 _).trans ((uZ_n _ _ (by omega)).trans ((congrFun hvy92 _).trans ((uZ_n _ _ (by omega)).trans ((congrFun hvy86 _).trans ((uZ_n _ _ (by omega)).trans ((congrFun hvy80 _).trans (uZ_s _ _ _)))))))
    have hwy112 : ry104 (qy5 + 3) = (r (qy5 + 3)) + (r (qy8 + 3)) := (congrFun hvy105 _).trans ((uZ_n _ _ (by omega)).trans ((congrFun hvy92 _).trans ((uZ_n _ _ (by omega)).trans ((congrFun hvy86 _).trans (uZ_s _ _ _)))))
    have hwy113 : ry104 (qy5 + 4) = xy68 := (congrFun hvy105 _).trans ((uZ_n _ _ (by omega)).trans ((congrFun hvy92 _).trans (uZ_s _ _ _)))
    have hwy114 : ry104 (qy5 + 6) = r (qy5 + 6) := (congrFun hvy105 _).trans ((uZ_n _ _ (by omega)).trans ((congrFun hvy92 _).trans ((uZ_n _ _ (by omega)).trans ((congrFun hvy86 _).trans ((uZ_n _ _ (by omega)).trans ((congrFun hvy80 _).trans ((uZ_n _ _ (by omega)).trans ((congrFun hvy74 _).trans ((uZ_n _ _ (by omega)).trans (rfl))))))))))
    have hlyy115 : ly ry104 qy5 := by unfold ly; omega
    have hJ : ly ry104 qy5 ∧ ry104 (qy5 + 1) + ry104 (qy5 + 2) = r (qy5 + 1) + r (qy5 + 2) + (r (qy8 + 1) + r (qy8 + 2)) ∧ ry104 (qy5 + 3) = r (qy5 + 3) + r (qy8 + 3) := ⟨hlyy115, by omega, by omega⟩
    refine z_lv (lv' := [(0, .ref (ad i)), (1, .int (zI ((b : Int)))), (2, .int (zI ((s : Int)))), (7, .int (zI (11))), (8, .int (zI (1)))]) [6, 7, 8, 1, 0] rfl ?_
    exact lp _ (1) ry104 gy101 rfl hgy103 (fun j j1 => by rw [egy102, va_up_ne _ _ (by omega)]; rw [egy89, va_up_ne _ _ (by omega)]; rw [egy83, va_up_ne _ _ (by omega)]; rw [egy77, va_up_ne _ _ (by omega)]; rw [egy71, va_up_ne _ _ (by omega)]) hJ (fun j a1 => hfry108 j (by omega) (by omega) (by omega) (by omega) (by omega)) ((hfry108 p (by omega) (by omega) (by omega) (by omega) (by omega)).trans hn) (fun l f a1 a2 a3 => absurd a2 (by omega)) (by omega)
  · refine z_aload_n C 4 dX10_joins_97 rfl ?_
    refine z_get (v := .ref (ad (i + 1))) C (lt_A0 hN rfl) hay1 hg rfl inA_X10 0 (by decide) q_1459 rfl rfl dX10_joins_98 ?_
    refine z_iload_n C 3 dX10_joins_101 rfl ?_
    refine z_iconst (z := 0) C dX10_joins_102 rfl ?_
    refine z_iadd C dX10_joins_103 ?_
    refine z_aload_n C 4 dX10_joins_104 rfl ?_
    refine z_get (v := .ref (ad (i + 1))) C (lt_A0 hN rfl) hay1 hg rfl inA_X10 0 (by decide) q_1459 rfl rfl dX10_joins_105 ?_
    refine z_iload C 2 dX10_joins_108 rfl ?_
    refine z_iconst (z := 0) C dX10_joins_110 rfl ?_
    refine z_iadd C dX10_joins_111 ?_
    refine z_iald C (lt_A (c := 1) hN rfl) hay2 ha1 (qy8) (by omega) (by omega) (by decide) dX10_joins_112 ?_
    refine z_iast C (lt_A (c := 1) hN rfl) hay2 ha1 (qy5) (by omega) (by omega) (by decide) dX10_joins_113 (fun gy116 egy117 => ?_)
    have hgy118 := up_s egy117
    obtain ⟨ry119, hvy120⟩ : ∃ rZ9 : Nat → Int, rZ9 = uZ r (qy5) (r (qy8)) := ⟨_, rfl⟩
    rw [← hvy120] at hgy118
    refine z_aload_n C 4 dX10_joins_114 rfl ?_
    have hgy121 := up_n egy117 hg (ne_o (i := i) (c := 0) (d := 1) rfl)
    refine z_get (v := .ref (ad (i + 1))) C (lt_A0 hN rfl) hay1 hgy121 rfl inA_X10 0 (by decide) q_1459 rfl rfl dX10_joins_115 ?_
    refine z_iload_n C 3 dX10_joins_118 rfl ?_
    refine z_bipush (z := 6) C dX10_joins_119 (by decide) ?_
    refine z_iadd C dX10_joins_121 ?_
    refine z_aload_n C 4 dX10_joins_122 rfl ?_
    refine z_get (v := .ref (ad (i + 1))) C (lt_A0 hN rfl) hay1 hgy121 rfl inA_X10 0 (by decide) q_1459 rfl rfl dX10_joins_123 ?_
    refine z_iload C 2 dX10_joins_126 rfl ?_
    refine z_bipush (z := 6) C dX10_joins_128 (by decide) ?_
    refine z_iadd C dX10_joins_130 ?_
    refine z_iald C (lt_A (c := 1) hN rfl) hay2 hgy118 (qy8 + 6) (by omega) (by omega) (by decide) dX10_joins_131 ?_
    rw [show ry119 (qy8 + 6) = r (qy8 + 6) from (congrFun hvy120 _).trans ((uZ_n _ _ (by omega)).trans (rfl))]
    refine z_iast C (lt_A (c := 1) hN rfl) hay2 hgy118 (qy5 + 6) (by omega) (by omega) (by decide) dX10_joins_132 (fun gy122 egy123 => ?_)
    have hgy124 := up_s egy123
    obtain ⟨ry125, hvy126⟩ : ∃ rZ9 : Nat → Int, rZ9 = uZ ry119 (qy5 + 6) (r (qy8 + 6)) := ⟨_, rfl⟩
    rw [← hvy126] at hgy124
    refine z_aload_n C 4 dX10_joins_133 rfl ?_
    have hgy127 := up_n egy123 hgy121 (ne_o (i := i) (c := 0) (d := 1) rfl)
    refine z_get (v := .ref (ad (i + 1))) C (lt_A0 hN rfl) hay1 hgy127 rfl inA_X10 0 (by decide) q_1459 rfl rfl dX10_joins_134 ?_
    refine z_iload_n C 3 dX10_joins_137 rfl ?_
    refine z_iconst (z := 1) C dX10_joins_138 rfl ?_
    refine z_iadd C dX10_joins_139 ?_
    refine z_iload C 1 dX10_joins_140 rfl ?_
    refine z_iast C (lt_A (c := 1) hN rfl) hay2 hgy124 (qy5 + 1) (by omega) (by omega) (by decide) dX10_joins_142 (fun gy128 egy129 => ?_)
    have hgy130 := up_s egy129
    obtain ⟨ry131, hvy132⟩ : ∃ rZ9 : Nat → Int, rZ9 = uZ ry125 (qy5 + 1) ((r (qy5 + 1)) + (r (qy8 + 1))) := ⟨_, rfl⟩
    rw [← hvy132] at hgy130
    refine z_aload_n C 4 dX10_joins_143 rfl ?_
    have hgy133 := up_n egy129 hgy127 (ne_o (i := i) (c := 0) (d := 1) rfl)
    refine z_get (v := .ref (ad (i + 1))) C (lt_A0 hN rfl) hay1 hgy133 rfl inA_X10 0 (by decide) q_1459 rfl rfl dX10_joins_144 ?_
    refine z_iload_n C 3 dX10_joins_147 rfl ?_
    refine z_iconst (z := 2) C dX10_joins_148 rfl ?_
    refine z_iadd C dX10_joins_149 ?_
    refine z_dup2 C dX10_joins_150 rfl rfl ?_
    refine z_iald C (lt_A (c := 1) hN rfl) hay2 hgy130 (qy5 + 2) (by omega) (by omega) (by decide) dX10_joins_151 ?_
    rw [show ry131 (qy5 + 2) = r (qy5 + 2) from (congrFun hvy132 _).trans ((uZ_n _ _ (by omega)).trans ((congrFun hvy126 _).trans ((uZ_n _ _ (by omega)).trans ((congrFun hvy120 _).trans ((uZ_n _ _ (by omega)).trans (rfl))))))]
    refine z_aload_n C 4 dX10_joins_152 rfl ?_
    refine z_get (v := .ref (ad (i + 1))) C (lt_A0 hN rfl) hay1 hgy133 rfl inA_X10 0 (by decide) q_1459 rfl rfl dX10_joins_153 ?_
    refine z_iload C 2 dX10_joins_156 rfl ?_
    refine z_iconst (z := 2) C dX10_joins_158 rfl ?_
    refine z_iadd C dX10_joins_159 ?_
    refine z_iald C (lt_A (c := 1) hN rfl) hay2 hgy130 (qy8 + 2) (by omega) (by omega) (by decide) dX10_joins_160 ?_
    rw [show ry131 (qy8 + 2) = r (qy8 + 2) from (congrFun hvy132 _).trans ((uZ_n _ _ (by omega)).trans ((congrFun hvy126 _).trans ((uZ_n _ _ (by omega)).trans ((congrFun hvy120 _).trans ((uZ_n _ _ (by omega)).trans (rfl))))))]
    refine z_iadd C dX10_joins_161 ?_
    refine z_iast C (lt_A (c := 1) hN rfl) hay2 hgy130 (qy5 + 2) (by omega) (by omega) (by decide) dX10_joins_162 (fun gy134 egy135 => ?_)
    have hgy136 := up_s egy135
    obtain ⟨ry137, hvy138⟩ : ∃ rZ9 : Nat → Int, rZ9 = uZ ry131 (qy5 + 2) ((r (qy5 + 2)) + (r (qy8 + 2))) := ⟨_, rfl⟩
    rw [← hvy138] at hgy136
    refine z_aload_n C 4 dX10_joins_163 rfl ?_
    have hgy139 := up_n egy135 hgy133 (ne_o (i := i) (c := 0) (d := 1) rfl)
    refine z_get (v := .ref (ad (i + 1))) C (lt_A0 hN rfl) hay1 hgy139 rfl inA_X10 0 (by decide) q_1459 rfl rfl dX10_joins_164 ?_
    refine z_iload_n C 3 dX10_joins_167 rfl ?_
    refine z_iconst (z := 3) C dX10_joins_168 rfl ?_
    refine z_iadd C dX10_joins_169 ?_
    refine z_dup2 C dX10_joins_170 rfl rfl ?_
    refine z_iald C (lt_A (c := 1) hN rfl) hay2 hgy136 (qy5 + 3) (by omega) (by omega) (by decide) dX10_joins_171 ?_
    rw [show ry137 (qy5 + 3) = r (qy5 + 3) from (congrFun hvy138 _).trans ((uZ_n _ _ (by omega)).trans ((congrFun hvy132 _).trans ((uZ_n _ _ (by omega)).trans ((congrFun hvy126 _).trans ((uZ_n _ _ (by omega)).trans ((congrFun hvy120 _).trans ((uZ_n _ _ (by omega)).trans (rfl))))))))]
    refine z_aload_n C 4 dX10_joins_172 rfl ?_
    refine z_get (v := .ref (ad (i + 1))) C (lt_A0 hN rfl) hay1 hgy139 rfl inA_X10 0 (by decide) q_1459 rfl rfl dX10_joins_173 ?_
    refine z_iload C 2 dX10_joins_176 rfl ?_
    refine z_iconst (z := 3) C dX10_joins_178 rfl ?_
    refine z_iadd C dX10_joins_179 ?_
    refine z_iald C (lt_A (c := 1) hN rfl) hay2 hgy136 (qy8 + 3) (by omega) (by omega) (by decide) dX10_joins_180 ?_
    rw [show ry137 (qy8 + 3) = r (qy8 + 3) from (congrFun hvy138 _).trans ((uZ_n _ _ (by omega)).trans ((congrFun hvy132 _).trans ((uZ_n _ _ (by omega)).trans ((congrFun hvy126 _).trans ((uZ_n _ _ (by omega)).trans ((congrFun hvy120 _).trans ((uZ_n _ _ (by omega)).trans (rfl))))))))]
    refine z_iadd C dX10_joins_181 ?_
    refine z_iast C (lt_A (c := 1) hN rfl) hay2 hgy136 (qy5 + 3) (by omega) (by omega) (by decide) dX10_joins_182 (fun gy140 egy141 => ?_)
    have hgy142 := up_s egy141
    obtain ⟨ry143, hvy144⟩ : ∃ rZ9 : Nat → Int, rZ9 = uZ ry137 (qy5 + 3) ((r (qy5 + 3)) + (r (qy8 + 3))) := ⟨_, rfl⟩
    rw [← hvy144] at hgy142
    refine z_aload_n C 4 dX10_joins_183 rfl ?_
    have hgy145 := up_n egy141 hgy139 (ne_o (i := i) (c := 0) (d := 1) rfl)
    refine z_get (v := .ref (ad (i + 1))) C (lt_A0 hN rfl) hay1 hgy145 rfl inA_X10 0 (by decide) q_1459 rfl rfl dX10_joins_184 ?_
    refine z_iload_n C 3 dX10_joins_187 rfl ?_
    refine z_iconst (z := 4) C dX10_joins_188 rfl ?_
    refine z_iadd C dX10_joins_189 ?_
    refine z_iload C 0 dX10_joins_190 rfl ?_
    refine z_iast C (lt_A (c := 1) hN rfl) hay2 hgy142 (qy5 + 4) (by omega) (by omega) (by decide) dX10_joins_192 (fun gy146 egy147 => ?_)
    have hgy148 := up_s egy147
    obtain ⟨ry149, hvy150⟩ : ∃ rZ9 : Nat → Int, rZ9 = uZ ry143 (qy5 + 4) (xy68) := ⟨_, rfl⟩
    rw [← hvy150] at hgy148
    refine z_aload_n C 4 dX10_joins_193 rfl ?_
    have hgy151 := up_n egy147 hgy145 (ne_o (i := i) (c := 0) (d := 1) rfl)
    refine z_get (v := .ref (ad (i + 1))) C (lt_A0 hN rfl) hay1 hgy151 rfl inA_X10 0 (by decide) q_1459 rfl rfl dX10_joins_194 ?_
    refine z_iload_n C 3 dX10_joins_197 rfl ?_
    refine z_iconst (z := 5) C dX10_joins_198 rfl ?_
    refine z_iadd C dX10_joins_199 ?_
    refine z_aload_n C 4 dX10_joins_200 rfl ?_
    refine z_get (v := .ref (ad (i + 1))) C (lt_A0 hN rfl) hay1 hgy151 rfl inA_X10 0 (by decide) q_1459 rfl rfl dX10_joins_201 ?_
    refine z_iload_n C 3 dX10_joins_204 rfl ?_
    refine z_iconst (z := 5) C dX10_joins_205 rfl ?_
    refine z_iadd C dX10_joins_206 ?_
    refine z_iald C (lt_A (c := 1) hN rfl) hay2 hgy148 (qy5 + 5) (by omega) (by omega) (by decide) dX10_joins_207 ?_
    rw [show ry149 (qy5 + 5) = r (qy5 + 5) from (congrFun hvy150 _).trans ((uZ_n _ _ (by omega)).trans ((congrFun hvy144 _).trans ((uZ_n _ _ (by omega)).trans ((congrFun hvy138 _).trans ((uZ_n _ _ (by omega)).trans ((congrFun hvy132 _).trans ((uZ_n _ _ (by omega)).trans ((congrFun hvy126 _).trans ((uZ_n _ _ (by omega)).trans ((congrFun hvy120 _).trans ((uZ_n _ _ (by omega)).trans (rfl))))))))))))]
    refine z_aload_n C 4 dX10_joins_208 rfl ?_
    refine z_get (v := .ref (ad (i + 1))) C (lt_A0 hN rfl) hay1 hgy151 rfl inA_X10 0 (by decide) q_1459 rfl rfl dX10_joins_209 ?_
    refine z_iload C 2 dX10_joins_212 rfl ?_
    refine z_iconst (z := 5) C dX10_joins_214 rfl ?_
    refine z_iadd C dX10_joins_215 ?_
    refine z_iald C (lt_A (c := 1) hN rfl) hay2 hgy148 (qy8 + 5) (by omega) (by omega) (by decide) dX10_joins_216 ?_
    rw [show ry149 (qy8 + 5) = r (qy8 + 5) from (congrFun hvy150 _).trans ((uZ_n _ _ (by omega)).trans ((congrFun hvy144 _).trans ((uZ_n _ _ (by omega)).trans ((congrFun hvy138 _).trans ((uZ_n _ _ (by omega)).trans ((congrFun hvy132 _).trans ((uZ_n _ _ (by omega)).trans ((congrFun hvy126 _).trans ((uZ_n _ _ (by omega)).trans ((congrFun hvy120 _).trans ((uZ_n _ _ (by omega)).trans (rfl))))))))))))]
    obtain ⟨xy152, exy153, hxy154⟩ := zI_of (zI (r (qy8 + 5)))
    rw [exy153]
    obtain ⟨xy155, exy156, hxy157⟩ := zI_of (zI (r (qy5 + 5)))
    rw [exy156]
    refine z_cS (As := [.int (zI (xy155)), .int (zI (xy152))]) (rest := [.int (zI (((qy5 : Int)) + 5)), .ref (ad (i + 1))]) C (c_X10_greater l D A cs tt N ad _ (xy155) (by omega) (xy152) (by omega)) ms_yX10_greater q_1905 hd_yX10_greater (by decide) (Nat.le_of_ble_eq_true rfl) (by decide) dX10_joins_217 rfl (kI0 fun vy158 gvy158 hvy158 => ?_)
    obtain ⟨hvy158, rfl⟩ := hvy158
    refine z_iast C (lt_A (c := 1) hN rfl) hay2 hgy148 (qy5 + 5) (by omega) (by omega) (by decide) dX10_joins_220 (fun gy159 egy160 => ?_)
    have hgy161 := up_s egy160
    obtain ⟨ry162, hvy163⟩ : ∃ rZ9 : Nat → Int, rZ9 = uZ ry149 (qy5 + 5) (vy158) := ⟨_, rfl⟩
    rw [← hvy163] at hgy161
    refine z_aload_n C 4 dX10_joins_221 rfl ?_
    refine z_iload_n C 5 dX10_joins_222 rfl ?_
    refine z_iload_n C 6 dX10_joins_223 rfl ?_
    have hgy164 := up_n egy160 hgy151 (ne_o (i := i) (c := 0) (d := 1) rfl)
    refine z_cV (As := [.int (zI ((b : Int))), .int (zI ((s : Int)))]) (rest := []) (ci := 12) C (c_X10_many l D A cs tt N ad _ i hN _ hgy164 _ hgy161 b s p hp (by omega) (by omega)) (lt_A0 hN rfl) hay1 hgy164 rfl rfl mv_yX10_many q_1733 hd_yX10_many (by decide) (Nat.le_of_ble_eq_true rfl) (by decide) dX10_joins_224 rfl (kI0 fun vy165 gvy165 hvy165 => ?_)
    obtain ⟨rfl, rfl⟩ := hvy165
    rw [show ry162 (p) = r (p) from (congrFun hvy163 _).trans ((uZ_n _ _ (by omega)).trans ((congrFun hvy150 _).trans ((uZ_n _ _ (by omega)).trans ((congrFun hvy144 _).trans ((uZ_n _ _ (by omega)).trans ((congrFun hvy138 _).trans ((uZ_n _ _ (by omega)).trans ((congrFun hvy132 _).trans ((uZ_n _ _ (by omega)).trans ((congrFun hvy126 _).trans ((uZ_n _ _ (by omega)).trans ((congrFun hvy120 _).trans ((uZ_n _ _ (by omega)).trans (rfl))))))))))))))]
    refine z_iconst (z := 1) C dX10_joins_227 rfl ?_
    refine z_isub C dX10_joins_228 ?_
    rw [show (r (p)) - 1 = 11 by omega]
    refine z_istore (lv' := [(7, .int (zI (11))), (6, .int (zI (xy68))), (5, .int (zI ((r (qy5 + 1)) + (r (qy8 + 1))))), (4, .int (zI ((qy8 : Int)))), (3, .int (zI ((qy5 : Int)))), (0, .ref (ad i)), (1, .int (zI ((b : Int)))), (2, .int (zI ((s : Int))))]) C dX10_joins_229 (by decide) rfl ?_
    refine z_iconst (z := 1) C dX10_joins_231 rfl ?_
    refine z_istore (lv' := [(8, .int (zI (1))), (7, .int (zI (11))), (6, .int (zI (xy68))), (5, .int (zI ((r (qy5 + 1)) + (r (qy8 + 1))))), (4, .int (zI ((qy8 : Int)))), (3, .int (zI ((qy5 : Int)))), (0, .ref (ad i)), (1, .int (zI ((b : Int)))), (2, .int (zI ((s : Int))))]) C dX10_joins_232 (by decide) rfl ?_
    have hfry166 : ∀ j, j ≠ qy5 + 5 → j ≠ qy5 + 4 → j ≠ qy5 + 3 → j ≠ qy5 + 2 → j ≠ qy5 + 1 → j ≠ qy5 + 6 → j ≠ qy5 → ry162 j = r j := fun j n0 n1 n2 n3 n4 n5 n6 => (congrFun hvy163 _).trans ((uZ_n _ _ n0).trans ((congrFun hvy150 _).trans ((uZ_n _ _ n1).trans ((congrFun hvy144 _).trans ((uZ_n _ _ n2).trans ((congrFun hvy138 _).trans ((uZ_n _ _ n3).trans ((congrFun hvy132 _).trans ((uZ_n _ _ n4).trans ((congrFun hvy126 _).trans ((uZ_n _ _ n5).trans ((congrFun hvy120 _).trans ((uZ_n _ _ n6).trans (rfl))))))))))))))
    have hwy167 : ry162 (qy5) = r (qy8) := (congrFun hvy163 _).trans ((uZ_n _ _ (by omega)).trans ((congrFun hvy150 _).trans ((uZ_n _ _ (by omega)).trans ((congrFun hvy144 _).trans ((uZ_n _ _ (by omega)).trans ((congrFun hvy138 _).trans ((uZ_n _ _ (by omega)).trans ((congrFun hvy132 _).trans ((uZ_n _ _ (by omega)).trans ((congrFun hvy126 _).trans ((uZ_n _ _ (by omega)).trans ((congrFun hvy120 _).trans (uZ_s _ _ _)))))))))))))
    have hwy168 : ry162 (qy5 + 1) = (r (qy5 + 1)) + (r (qy8 + 1)) := (congrFun hvy163 _).trans ((uZ_n _ _ (by omega)).trans ((congrFun hvy150 _).trans ((uZ_n _ _ (by omega)).trans ((congrFun hvy144 _).trans ((uZ_n _ _ (by omega)).trans ((congrFun hvy138 _).trans ((uZ_n _ _ (by omega)).trans ((congrFun hvy132 _).trans (uZ_s _ _ _)))))))))
    have hwy169 : ry162 (qy5 + 2) = (r (qy5 + 2)) + (r (qy8 + 2)) := (congrFun hvy163 _).trans ((uZ_n _ _ (by omega)).trans ((congrFun hvy150 _).trans ((uZ_n _ _ (by omega)).trans ((congrFun hvy144 _).trans ((uZ_n _ _ (by omega)).trans ((congrFun hvy138 _).trans (uZ_s _ _ _)))))))
    have hwy170 : ry162 (qy5 + 3) = (r (qy5 + 3)) + (r (qy8 + 3)) := (congrFun hvy163 _).trans ((uZ_n _ _ (by omega)).trans ((congrFun hvy150 _).trans ((uZ_n _ _ (by omega)).trans ((congrFun hvy144 _).trans (uZ_s _ _ _)))))
    have hwy171 : ry162 (qy5 + 4) = xy68 := (congrFun hvy163 _).trans ((uZ_n _ _ (by omega)).trans ((congrFun hvy150 _).trans (uZ_s _ _ _)))
    have hwy172 : ry162 (qy5 + 6) = r (qy8 + 6) := (congrFun hvy163 _).trans ((uZ_n _ _ (by omega)).trans ((congrFun hvy150 _).trans ((uZ_n _ _ (by omega)).trans ((congrFun hvy144 _).trans ((uZ_n _ _ (by omega)).trans ((congrFun hvy138 _).trans ((uZ_n _ _ (by omega)).trans ((congrFun hvy132 _).trans ((uZ_n _ _ (by omega)).trans ((congrFun hvy126 _).trans (uZ_s _ _ _)))))))))))
    have hlyy173 : ly ry162 qy5 := by unfold ly; omega
    have hJ : ly ry162 qy5 ∧ ry162 (qy5 + 1) + ry162 (qy5 + 2) = r (qy5 + 1) + r (qy5 + 2) + (r (qy8 + 1) + r (qy8 + 2)) ∧ ry162 (qy5 + 3) = r (qy5 + 3) + r (qy8 + 3) := ⟨hlyy173, by omega, by omega⟩
    refine z_lv (lv' := [(0, .ref (ad i)), (1, .int (zI ((b : Int)))), (2, .int (zI ((s : Int)))), (7, .int (zI (11))), (8, .int (zI (1)))]) [6, 7, 8, 1, 0] rfl ?_
    exact lp _ (1) ry162 gy159 rfl hgy161 (fun j j1 => by rw [egy160, va_up_ne _ _ (by omega)]; rw [egy147, va_up_ne _ _ (by omega)]; rw [egy141, va_up_ne _ _ (by omega)]; rw [egy135, va_up_ne _ _ (by omega)]; rw [egy129, va_up_ne _ _ (by omega)]; rw [egy123, va_up_ne _ _ (by omega)]; rw [egy117, va_up_ne _ _ (by omega)]) hJ (fun j a1 => hfry166 j (by omega) (by omega) (by omega) (by omega) (by omega) (by omega) (by omega)) ((hfry166 p (by omega) (by omega) (by omega) (by omega) (by omega) (by omega) (by omega)).trans hn) (fun l f a1 a2 a3 => absurd a2 (by omega)) (by omega)

set_option maxRecDepth 100000 in
set_option maxHeartbeats 4000000 in
theorem c_X10_comes (l : Launch) (D : va_G) (A : Nat → Prop) (cs : Nat → ClassId) (tt : Nat) (N : Nat) (ad : Nat → Nat) (g : Nat → va_E) (i : Nat) (hN : i + 30 ≤ N) (F : Nat → Int) (hg : g i = mC ad i F) (r : Nat → Int) (ha1 : g (i + 1) = iA cs 29200 r) (b s p : Nat) (hp : b + 6 + 86 * s = p) (hb : b + 350 ≤ 29200) (hs : s < 4) (hnm : 0 ≤ r (b + 1) ∧ r (b + 1) ≤ 20000) (M E : Int) (hM : M ≤ 138500) (hE : E ≤ 400000000) (ho : okS r p M E) (z1 : Int) (hz1 : 0 ≤ z1 ∧ z1 ≤ 4) (z2 : Int) (hz2 : 1 ≤ z2 ∧ z2 ≤ 50) (z3 : Int) (hz3 : 1 ≤ z3 ∧ z3 ≤ 500) (z4 : Int) (hz4 : -300 ≤ z4 ∧ z4 ≤ 0) : zM l yX10_comes cX10_comes 8 none ({ frames := 4, cells := 0, slots := 0, locals := 240 } : Room) D A cs tt N ad g [.ref (ad i), .int (zI ((b : Int))), .int (zI ((s : Int))), .int (zI (z1)), .int (zI (z2)), .int (zI (z3)), .int (zI (z4))] (rV0 N ad fun g' => (∃ r' : Nat → Int, g' (i + 1) = iA cs 29200 r' ∧ okS r' p (M + 50) (E + 500) ∧ r' (b + 1) = r (b + 1) + 1 ∧ (∀ j, j < p ∨ p + 86 ≤ j → j ≠ b + 1 → r' j = r j)) ∧ ∀ j, j ≠ i + 1 → g' j = g j) := by
  have hay1 : zAt ad (i) (ad i) := rfl
  have hay2 : zAt ad (i + 1) (ad (i + 1)) := rfl
  have hmky3 := ho.1
  refine z_of (by decide) (Nat.le_of_ble_eq_true rfl) ?_
  intro pZ eZ sZ mZ below meth cZ C hr hlk hnm
  refine z_lv (lv' := [(0, .ref (ad i)), (1, .int (zI ((b : Int)))), (2, .int (zI ((s : Int)))), (3, .int (zI (z1))), (4, .int (zI (z2))), (5, .int (zI (z3))), (6, .int (zI (z4)))]) [0, 1, 2, 3, 4, 5, 6] rfl ?_
  refine z_aload_n C 0 dX10_comes_0 rfl ?_
  refine z_iload_n C 1 dX10_comes_1 rfl ?_
  refine z_iload_n C 2 dX10_comes_2 rfl ?_
  refine z_cV (As := [.int (zI ((b : Int))), .int (zI ((s : Int)))]) (rest := []) (ci := 12) C (c_X10_many l D A cs tt N ad _ i hN _ hg _ ha1 b s p hp (by omega) (by omega)) (lt_A0 hN rfl) hay1 hg rfl rfl mv_yX10_many q_1733 hd_yX10_many (by decide) (Nat.le_of_ble_eq_true rfl) (by decide) dX10_comes_3 rfl (kI0 fun vy4 gvy4 hvy4 => ?_)
  obtain ⟨rfl, rfl⟩ := hvy4
  refine z_bipush (z := 12) C dX10_comes_6 (by decide) ?_
  refine z_icmp_ne (tgt := 17) C dX10_comes_8 (by decide) (by omega) (by omega) (fun hby5 => ?_) (fun hby5 => ?_)
  · refine z_aload_n C 0 dX10_comes_17 rfl ?_
    refine z_iload_n C 1 dX10_comes_18 rfl ?_
    refine z_iload_n C 2 dX10_comes_19 rfl ?_
    refine z_cV (As := [.int (zI ((b : Int))), .int (zI ((s : Int)))]) (rest := []) (ci := 12) C (c_X10_many l D A cs tt N ad _ i hN _ hg _ ha1 b s p hp (by omega) (by omega)) (lt_A0 hN rfl) hay1 hg rfl rfl mv_yX10_many q_1733 hd_yX10_many (by decide) (Nat.le_of_ble_eq_true rfl) (by decide) dX10_comes_20 rfl (kI0 fun vy6 gvy6 hvy6 => ?_)
    obtain ⟨rfl, rfl⟩ := hvy6
    refine z_istore (lv' := [(7, .int (zI (r (p)))), (0, .ref (ad i)), (1, .int (zI ((b : Int)))), (2, .int (zI ((s : Int)))), (3, .int (zI (z1))), (4, .int (zI (z2))), (5, .int (zI (z3))), (6, .int (zI (z4)))]) C dX10_comes_23 (by decide) rfl ?_
    refine z_aload_n C 1 dX10_comes_25 rfl ?_
    refine z_iload_n C 2 dX10_comes_26 rfl ?_
    refine z_iload_n C 3 dX10_comes_27 rfl ?_
    refine z_iload C 0 dX10_comes_28 rfl ?_
    refine z_iconst (z := 0) C dX10_comes_30 rfl ?_
    refine z_iload_n C 4 dX10_comes_31 rfl ?_
    obtain ⟨ky7, hky7⟩ : ∃ k9 : Nat, (r (p)) = (k9 : Int) := ⟨((r (p)) : Int).toNat, by omega⟩
    obtain ⟨qy8, hqy8⟩ : ∃ q9 : Nat, p + 2 + 7 * ky7 = q9 := ⟨_, rfl⟩
    refine z_cV (As := [.int (zI ((b : Int))), .int (zI ((s : Int))), .int (zI (r (p))), .int (zI (0)), .int (zI (z1))]) (rest := []) (ci := 12) C (c_X10_sets l D A cs tt N ad _ i hN _ hg _ ha1 b s p hp (by omega) (by omega) (r (p)) (0) (qy8) (by omega) (by omega) (by omega) (z1)) (lt_A0 hN rfl) hay1 hg rfl rfl mv_yX10_sets q_1908 hd_yX10_sets (by decide) (Nat.le_of_ble_eq_true rfl) (by decide) dX10_comes_32 rfl (kV0 fun gvy9 hvy9 => ?_)
    obtain ⟨hcvy9, hfvy9⟩ := hvy9
    obtain ⟨ry10, hvy11⟩ : ∃ rZ9 : Nat → Int, rZ9 = uZ r (qy8) (z1) := ⟨_, rfl⟩
    rw [← hvy11] at hcvy9
    refine z_aload_n C 1 dX10_comes_35 rfl ?_
    refine z_iload_n C 2 dX10_comes_36 rfl ?_
    refine z_iload_n C 3 dX10_comes_37 rfl ?_
    refine z_iload C 0 dX10_comes_38 rfl ?_
    refine z_iconst (z := 1) C dX10_comes_40 rfl ?_
    refine z_iload C 5 dX10_comes_41 rfl ?_
    have hgy12 := (hfvy9 (i) (ne_o (i := i) (c := 0) (d := 1) rfl)).trans hg
    refine z_cV (As := [.int (zI ((b : Int))), .int (zI ((s : Int))), .int (zI (r (p))), .int (zI (1)), .int (zI (z2))]) (rest := []) (ci := 12) C (c_X10_sets l D A cs tt N ad _ i hN _ hgy12 _ hcvy9 b s p hp (by omega) (by omega) (r (p)) (1) (qy8 + 1) (by omega) (by omega) (by omega) (z2)) (lt_A0 hN rfl) hay1 hgy12 rfl rfl mv_yX10_sets q_1908 hd_yX10_sets (by decide) (Nat.le_of_ble_eq_true rfl) (by decide) dX10_comes_43 rfl (kV0 fun gvy13 hvy13 => ?_)
    obtain ⟨hcvy13, hfvy13⟩ := hvy13
    obtain ⟨ry14, hvy15⟩ : ∃ rZ9 : Nat → Int, rZ9 = uZ ry10 (qy8 + 1) (z2) := ⟨_, rfl⟩
    rw [← hvy15] at hcvy13
    refine z_aload_n C 1 dX10_comes_46 rfl ?_
    refine z_iload_n C 2 dX10_comes_47 rfl ?_
    refine z_iload_n C 3 dX10_comes_48 rfl ?_
    refine z_iload C 0 dX10_comes_49 rfl ?_
    refine z_iconst (z := 2) C dX10_comes_51 rfl ?_
    refine z_iconst (z := 0) C dX10_comes_52 rfl ?_
    have hgy16 := (hfvy13 (i) (ne_o (i := i) (c := 0) (d := 1) rfl)).trans hgy12
    refine z_cV (As := [.int (zI ((b : Int))), .int (zI ((s : Int))), .int (zI (r (p))), .int (zI (2)), .int (zI (0))]) (rest := []) (ci := 12) C (c_X10_sets l D A cs tt N ad _ i hN _ hgy16 _ hcvy13 b s p hp (by omega) (by omega) (r (p)) (2) (qy8 + 2) (by omega) (by omega) (by omega) (0)) (lt_A0 hN rfl) hay1 hgy16 rfl rfl mv_yX10_sets q_1908 hd_yX10_sets (by decide) (Nat.le_of_ble_eq_true rfl) (by decide) dX10_comes_53 rfl (kV0 fun gvy17 hvy17 => ?_)
    obtain ⟨hcvy17, hfvy17⟩ := hvy17
    obtain ⟨ry18, hvy19⟩ : ∃ rZ9 : Nat → Int, rZ9 = uZ ry14 (qy8 + 2) (0) := ⟨_, rfl⟩
    rw [← hvy19] at hcvy17
    refine z_aload_n C 1 dX10_comes_56 rfl ?_
    refine z_iload_n C 2 dX10_comes_57 rfl ?_
    refine z_iload_n C 3 dX10_comes_58 rfl ?_
    refine z_iload C 0 dX10_comes_59 rfl ?_
    refine z_iconst (z := 3) C dX10_comes_61 rfl ?_
    refine z_iload C 6 dX10_comes_62 rfl ?_
    have hgy20 := (hfvy17 (i) (ne_o (i := i) (c := 0) (d := 1) rfl)).trans hgy16
    refine z_cV (As := [.int (zI ((b : Int))), .int (zI ((s : Int))), .int (zI (r (p))), .int (zI (3)), .int (zI (z3))]) (rest := []) (ci := 12) C (c_X10_sets l D A cs tt N ad _ i hN _ hgy20 _ hcvy17 b s p hp (by omega) (by omega) (r (p)) (3) (qy8 + 3) (by omega) (by omega) (by omega) (z3)) (lt_A0 hN rfl) hay1 hgy20 rfl rfl mv_yX10_sets q_1908 hd_yX10_sets (by decide) (Nat.le_of_ble_eq_true rfl) (by decide) dX10_comes_64 rfl (kV0 fun gvy21 hvy21 => ?_)
    obtain ⟨hcvy21, hfvy21⟩ := hvy21
    obtain ⟨ry22, hvy23⟩ : ∃ rZ9 : Nat → Int, rZ9 = uZ ry18 (qy8 + 3) (z3) := ⟨_, rfl⟩
    rw [← hvy23] at hcvy21
    refine z_aload_n C 1 dX10_comes_67 rfl ?_
    refine z_iload_n C 2 dX10_comes_68 rfl ?_
    refine z_iload_n C 3 dX10_comes_69 rfl ?_
    refine z_iload C 0 dX10_comes_70 rfl ?_
    refine z_iconst (z := 4) C dX10_comes_72 rfl ?_
    refine z_iload C 7 dX10_comes_73 rfl ?_
    have hgy24 := (hfvy21 (i) (ne_o (i := i) (c := 0) (d := 1) rfl)).trans hgy20
    refine z_cV (As := [.int (zI ((b : Int))), .int (zI ((s : Int))), .int (zI (r (p))), .int (zI (4)), .int (zI (z4))]) (rest := []) (ci := 12) C (c_X10_sets l D A cs tt N ad _ i hN _ hgy24 _ hcvy21 b s p hp (by omega) (by omega) (r (p)) (4) (qy8 + 4) (by omega) (by omega) (by omega) (z4)) (lt_A0 hN rfl) hay1 hgy24 rfl rfl mv_yX10_sets q_1908 hd_yX10_sets (by decide) (Nat.le_of_ble_eq_true rfl) (by decide) dX10_comes_75 rfl (kV0 fun gvy25 hvy25 => ?_)
    obtain ⟨hcvy25, hfvy25⟩ := hvy25
    obtain ⟨ry26, hvy27⟩ : ∃ rZ9 : Nat → Int, rZ9 = uZ ry22 (qy8 + 4) (z4) := ⟨_, rfl⟩
    rw [← hvy27] at hcvy25
    refine z_aload_n C 1 dX10_comes_78 rfl ?_
    refine z_iload_n C 2 dX10_comes_79 rfl ?_
    refine z_iload_n C 3 dX10_comes_80 rfl ?_
    refine z_iload C 0 dX10_comes_81 rfl ?_
    refine z_iconst (z := 5) C dX10_comes_83 rfl ?_
    refine z_iconst (z := 0) C dX10_comes_84 rfl ?_
    have hgy28 := (hfvy25 (i) (ne_o (i := i) (c := 0) (d := 1) rfl)).trans hgy24
    refine z_cV (As := [.int (zI ((b : Int))), .int (zI ((s : Int))), .int (zI (r (p))), .int (zI (5)), .int (zI (0))]) (rest := []) (ci := 12) C (c_X10_sets l D A cs tt N ad _ i hN _ hgy28 _ hcvy25 b s p hp (by omega) (by omega) (r (p)) (5) (qy8 + 5) (by omega) (by omega) (by omega) (0)) (lt_A0 hN rfl) hay1 hgy28 rfl rfl mv_yX10_sets q_1908 hd_yX10_sets (by decide) (Nat.le_of_ble_eq_true rfl) (by decide) dX10_comes_85 rfl (kV0 fun gvy29 hvy29 => ?_)
    obtain ⟨hcvy29, hfvy29⟩ := hvy29
    obtain ⟨ry30, hvy31⟩ : ∃ rZ9 : Nat → Int, rZ9 = uZ ry26 (qy8 + 5) (0) := ⟨_, rfl⟩
    rw [← hvy31] at hcvy29
    refine z_aload_n C 1 dX10_comes_88 rfl ?_
    refine z_iload_n C 2 dX10_comes_89 rfl ?_
    refine z_iload_n C 3 dX10_comes_90 rfl ?_
    refine z_iload C 0 dX10_comes_91 rfl ?_
    refine z_bipush (z := 6) C dX10_comes_93 (by decide) ?_
    refine z_aload_n C 1 dX10_comes_95 rfl ?_
    have hgy32 := (hfvy29 (i) (ne_o (i := i) (c := 0) (d := 1) rfl)).trans hgy28
    refine z_get (v := .ref (ad (i + 1))) C (lt_A0 hN rfl) hay1 hgy32 rfl inA_X10 0 (by decide) q_1459 rfl rfl dX10_comes_96 ?_
    refine z_iload_n C 2 dX10_comes_99 rfl ?_
    refine z_iconst (z := 1) C dX10_comes_100 rfl ?_
    refine z_iadd C dX10_comes_101 ?_
    refine z_iald C (lt_A (c := 1) hN rfl) hay2 hcvy29 (b + 1) (by omega) (by omega) (by decide) dX10_comes_102 ?_
    rw [show ry30 (b + 1) = r (b + 1) from (congrFun hvy31 _).trans ((uZ_n _ _ (by omega)).trans ((congrFun hvy27 _).trans ((uZ_n _ _ (by omega)).trans ((congrFun hvy23 _).trans ((uZ_n _ _ (by omega)).trans ((congrFun hvy19 _).trans ((uZ_n _ _ (by omega)).trans ((congrFun hvy15 _).trans ((uZ_n _ _ (by omega)).trans ((congrFun hvy11 _).trans ((uZ_n _ _ (by omega)).trans (rfl))))))))))))]
    refine z_cV (As := [.int (zI ((b : Int))), .int (zI ((s : Int))), .int (zI (r (p))), .int (zI (6)), .int (zI (r (b + 1)))]) (rest := []) (ci := 12) C (c_X10_sets l D A cs tt N ad _ i hN _ hgy32 _ hcvy29 b s p hp (by omega) (by omega) (r (p)) (6) (qy8 + 6) (by omega) (by omega) (by omega) (r (b + 1))) (lt_A0 hN rfl) hay1 hgy32 rfl rfl mv_yX10_sets q_1908 hd_yX10_sets (by decide) (Nat.le_of_ble_eq_true rfl) (by decide) dX10_comes_103 rfl (kV0 fun gvy33 hvy33 => ?_)
    obtain ⟨hcvy33, hfvy33⟩ := hvy33
    obtain ⟨ry34, hvy35⟩ : ∃ rZ9 : Nat → Int, rZ9 = uZ ry30 (qy8 + 6) (r (b + 1)) := ⟨_, rfl⟩
    rw [← hvy35] at hcvy33
    refine z_aload_n C 1 dX10_comes_106 rfl ?_
    have hgy36 := (hfvy33 (i) (ne_o (i := i) (c := 0) (d := 1) rfl)).trans hgy32
    refine z_get (v := .ref (ad (i + 1))) C (lt_A0 hN rfl) hay1 hgy36 rfl inA_X10 0 (by decide) q_1459 rfl rfl dX10_comes_107 ?_
    refine z_iload_n C 2 dX10_comes_110 rfl ?_
    refine z_iconst (z := 1) C dX10_comes_111 rfl ?_
    refine z_iadd C dX10_comes_112 ?_
    refine z_dup2 C dX10_comes_113 rfl rfl ?_
    refine z_iald C (lt_A (c := 1) hN rfl) hay2 hcvy33 (b + 1) (by omega) (by omega) (by decide) dX10_comes_114 ?_
    rw [show ry34 (b + 1) = r (b + 1) from (congrFun hvy35 _).trans ((uZ_n _ _ (by omega)).trans ((congrFun hvy31 _).trans ((uZ_n _ _ (by omega)).trans ((congrFun hvy27 _).trans ((uZ_n _ _ (by omega)).trans ((congrFun hvy23 _).trans ((uZ_n _ _ (by omega)).trans ((congrFun hvy19 _).trans ((uZ_n _ _ (by omega)).trans ((congrFun hvy15 _).trans ((uZ_n _ _ (by omega)).trans ((congrFun hvy11 _).trans ((uZ_n _ _ (by omega)).trans (rfl))))))))))))))]
    refine z_iconst (z := 1) C dX10_comes_115 rfl ?_
    refine z_iadd C dX10_comes_116 ?_
    refine z_iast C (lt_A (c := 1) hN rfl) hay2 hcvy33 (b + 1) (by omega) (by omega) (by decide) dX10_comes_117 (fun gy37 egy38 => ?_)
    have hgy39 := up_s egy38
    obtain ⟨ry40, hvy41⟩ : ∃ rZ9 : Nat → Int, rZ9 = uZ ry34 (b + 1) ((r (b + 1)) + 1) := ⟨_, rfl⟩
    rw [← hvy41] at hgy39
    refine z_aload_n C 1 dX10_comes_118 rfl ?_
    refine z_iload_n C 2 dX10_comes_119 rfl ?_
    refine z_iload_n C 3 dX10_comes_120 rfl ?_
    refine z_iload C 0 dX10_comes_121 rfl ?_
    refine z_iconst (z := 1) C dX10_comes_123 rfl ?_
    refine z_iadd C dX10_comes_124 ?_
    have hgy42 := up_n egy38 hgy36 (ne_o (i := i) (c := 0) (d := 1) rfl)
    refine z_cV (As := [.int (zI ((b : Int))), .int (zI ((s : Int))), .int (zI ((r (p)) + 1))]) (rest := []) (ci := 12) C (c_X10_setsMany l D A cs tt N ad _ i hN _ hgy42 _ hgy39 b s p hp (by omega) (by omega) ((r (p)) + 1)) (lt_A0 hN rfl) hay1 hgy42 rfl rfl mv_yX10_setsMany q_1717 hd_yX10_setsMany (by decide) (Nat.le_of_ble_eq_true rfl) (by decide) dX10_comes_125 rfl (kV0 fun gvy43 hvy43 => ?_)
    obtain ⟨hcvy43, hfvy43⟩ := hvy43
    obtain ⟨ry44, hvy45⟩ : ∃ rZ9 : Nat → Int, rZ9 = uZ ry40 (p) ((r (p)) + 1) := ⟨_, rfl⟩
    rw [← hvy45] at hcvy43
    have hfry46 : ∀ j, j ≠ p → j ≠ b + 1 → j ≠ qy8 + 6 → j ≠ qy8 + 5 → j ≠ qy8 + 4 → j ≠ qy8 + 3 → j ≠ qy8 + 2 → j ≠ qy8 + 1 → j ≠ qy8 → ry44 j = r j := fun j n0 n1 n2 n3 n4 n5 n6 n7 n8 => (congrFun hvy45 _).trans ((uZ_n _ _ n0).trans ((congrFun hvy41 _).trans ((uZ_n _ _ n1).trans ((congrFun hvy35 _).trans ((uZ_n _ _ n2).trans ((congrFun hvy31 _).trans ((uZ_n _ _ n3).trans ((congrFun hvy27 _).trans ((uZ_n _ _ n4).trans ((congrFun hvy23 _).trans ((uZ_n _ _ n5).trans ((congrFun hvy19 _).trans ((uZ_n _ _ n6).trans ((congrFun hvy15 _).trans ((uZ_n _ _ n7).trans ((congrFun hvy11 _).trans ((uZ_n _ _ n8).trans (rfl))))))))))))))))))
    have hwy47 : ry44 (qy8) = z1 := (congrFun hvy45 _).trans ((uZ_n _ _ (by omega)).trans ((congrFun hvy41 _).trans ((uZ_n _ _ (by omega)).trans ((congrFun hvy35 _).trans ((uZ_n _ _ (by omega)).trans ((congrFun hvy31 _).trans ((uZ_n _ _ (by omega)).trans ((congrFun hvy27 _).trans ((uZ_n _ _ (by omega)).trans ((congrFun hvy23 _).trans ((uZ_n _ _ (by omega)).trans ((congrFun hvy19 _).trans ((uZ_n _ _ (by omega)).trans ((congrFun hvy15 _).trans ((uZ_n _ _ (by omega)).trans ((congrFun hvy11 _).trans (uZ_s _ _ _)))))))))))))))))
    have hwy48 : ry44 (qy8 + 1) = z2 := (congrFun hvy45 _).trans ((uZ_n _ _ (by omega)).trans ((congrFun hvy41 _).trans ((uZ_n _ _ (by omega)).trans ((congrFun hvy35 _).trans ((uZ_n _ _ (by omega)).trans ((congrFun hvy31 _).trans ((uZ_n _ _ (by omega)).trans ((congrFun hvy27 _).trans ((uZ_n _ _ (by omega)).trans ((congrFun hvy23 _).trans ((uZ_n _ _ (by omega)).trans ((congrFun hvy19 _).trans ((uZ_n _ _ (by omega)).trans ((congrFun hvy15 _).trans (uZ_s _ _ _)))))))))))))))
    have hwy49 : ry44 (qy8 + 2) = 0 := (congrFun hvy45 _).trans ((uZ_n _ _ (by omega)).trans ((congrFun hvy41 _).trans ((uZ_n _ _ (by omega)).trans ((congrFun hvy35 _).trans ((uZ_n _ _ (by omega)).trans ((congrFun hvy31 _).trans ((uZ_n _ _ (by omega)).trans ((congrFun hvy27 _).trans ((uZ_n _ _ (by omega)).trans ((congrFun hvy23 _).trans ((uZ_n _ _ (by omega)).trans ((congrFun hvy19 _).trans (uZ_s _ _ _)))))))))))))
    have hwy50 : ry44 (qy8 + 3) = z3 := (congrFun hvy45 _).trans ((uZ_n _ _ (by omega)).trans ((congrFun hvy41 _).trans ((uZ_n _ _ (by omega)).trans ((congrFun hvy35 _).trans ((uZ_n _ _ (by omega)).trans ((congrFun hvy31 _).trans ((uZ_n _ _ (by omega)).trans ((congrFun hvy27 _).trans ((uZ_n _ _ (by omega)).trans ((congrFun hvy23 _).trans (uZ_s _ _ _)))))))))))
    have hwy51 : ry44 (qy8 + 4) = z4 := (congrFun hvy45 _).trans ((uZ_n _ _ (by omega)).trans ((congrFun hvy41 _).trans ((uZ_n _ _ (by omega)).trans ((congrFun hvy35 _).trans ((uZ_n _ _ (by omega)).trans ((congrFun hvy31 _).trans ((uZ_n _ _ (by omega)).trans ((congrFun hvy27 _).trans (uZ_s _ _ _)))))))))
    have hwy52 : ry44 (qy8 + 6) = r (b + 1) := (congrFun hvy45 _).trans ((uZ_n _ _ (by omega)).trans ((congrFun hvy41 _).trans ((uZ_n _ _ (by omega)).trans ((congrFun hvy35 _).trans (uZ_s _ _ _)))))
    have hlyy53 : ly ry44 qy8 := by unfold ly; omega
    have hwy54 : ry44 (p) = (r (p)) + 1 := (congrFun hvy45 _).trans (uZ_s _ _ _)
    have hwy55 : ry44 (b + 1) = (r (b + 1)) + 1 := (congrFun hvy45 _).trans ((uZ_n _ _ (by omega)).trans ((congrFun hvy41 _).trans (uZ_s _ _ _)))
    have hok9 : okS ry44 p (M + 50) (E + 500) := okS.push 50 500 ho (n := ky7) (by omega) (by omega) hqy8 (by omega) (fun j a1 a2 => hfry46 j (by omega) (by omega) (by omega) (by omega) (by omega) (by omega) (by omega) (by omega) (by omega)) hlyy53 (by omega) (by omega)
    exact z_vret C hr hlk dX10_comes_128 (by decide) (by decide) ⟨rfl, rfl, rfl, ⟨_, hcvy43, hok9, by omega, fun j a1 a2 => (hfry46 j (by omega) (by omega) (by omega) (by omega) (by omega) (by omega) (by omega) (by omega) (by omega))⟩, fun j j1 => by rw [hfvy43 _ (by omega)]; rw [egy38, va_up_ne _ _ (by omega)]; rw [hfvy33 _ (by omega)]; rw [hfvy29 _ (by omega)]; rw [hfvy25 _ (by omega)]; rw [hfvy21 _ (by omega)]; rw [hfvy17 _ (by omega)]; rw [hfvy13 _ (by omega)]; rw [hfvy9 _ (by omega)]⟩
  · refine z_aload_n C 0 dX10_comes_11 rfl ?_
    refine z_iload_n C 1 dX10_comes_12 rfl ?_
    refine z_iload_n C 2 dX10_comes_13 rfl ?_
    refine z_cV (As := [.int (zI ((b : Int))), .int (zI ((s : Int)))]) (rest := []) (ci := 12) C (c_X10_joins l D A cs tt N ad _ i hN _ hg _ ha1 b s p hp (by omega) (by omega) (M) (E) (by omega) (by omega) ho (by omega)) (lt_A0 hN rfl) hay1 hg rfl rfl mv_yX10_joins q_1901 hd_yX10_joins (by decide) (Nat.le_of_ble_eq_true rfl) (by decide) dX10_comes_14 rfl (kV0 fun gvy56 hvy56 => ?_)
    obtain ⟨⟨rvy56, hcvy56, hovy56, hnvy56, hyvy56⟩, hfvy56⟩ := hvy56
    refine z_aload_n C 0 dX10_comes_17 rfl ?_
    refine z_iload_n C 1 dX10_comes_18 rfl ?_
    refine z_iload_n C 2 dX10_comes_19 rfl ?_
    have hgy57 := (hfvy56 (i) (ne_o (i := i) (c := 0) (d := 1) rfl)).trans hg
    refine z_cV (As := [.int (zI ((b : Int))), .int (zI ((s : Int)))]) (rest := []) (ci := 12) C (c_X10_many l D A cs tt N ad _ i hN _ hgy57 _ hcvy56 b s p hp (by omega) (by omega)) (lt_A0 hN rfl) hay1 hgy57 rfl rfl mv_yX10_many q_1733 hd_yX10_many (by decide) (Nat.le_of_ble_eq_true rfl) (by decide) dX10_comes_20 rfl (kI0 fun vy58 gvy58 hvy58 => ?_)
    obtain ⟨rfl, rfl⟩ := hvy58
    refine z_istore (lv' := [(7, .int (zI (rvy56 (p)))), (0, .ref (ad i)), (1, .int (zI ((b : Int)))), (2, .int (zI ((s : Int)))), (3, .int (zI (z1))), (4, .int (zI (z2))), (5, .int (zI (z3))), (6, .int (zI (z4)))]) C dX10_comes_23 (by decide) rfl ?_
    refine z_aload_n C 1 dX10_comes_25 rfl ?_
    refine z_iload_n C 2 dX10_comes_26 rfl ?_
    refine z_iload_n C 3 dX10_comes_27 rfl ?_
    refine z_iload C 0 dX10_comes_28 rfl ?_
    refine z_iconst (z := 0) C dX10_comes_30 rfl ?_
    refine z_iload_n C 4 dX10_comes_31 rfl ?_
    obtain ⟨ky59, hky59⟩ : ∃ k9 : Nat, (rvy56 (p)) = (k9 : Int) := ⟨((rvy56 (p)) : Int).toNat, by omega⟩
    obtain ⟨qy60, hqy60⟩ : ∃ q9 : Nat, p + 2 + 7 * ky59 = q9 := ⟨_, rfl⟩
    refine z_cV (As := [.int (zI ((b : Int))), .int (zI ((s : Int))), .int (zI (rvy56 (p))), .int (zI (0)), .int (zI (z1))]) (rest := []) (ci := 12) C (c_X10_sets l D A cs tt N ad _ i hN _ hgy57 _ hcvy56 b s p hp (by omega) (by omega) (rvy56 (p)) (0) (qy60) (by omega) (by omega) (by omega) (z1)) (lt_A0 hN rfl) hay1 hgy57 rfl rfl mv_yX10_sets q_1908 hd_yX10_sets (by decide) (Nat.le_of_ble_eq_true rfl) (by decide) dX10_comes_32 rfl (kV0 fun gvy61 hvy61 => ?_)
    obtain ⟨hcvy61, hfvy61⟩ := hvy61
    obtain ⟨ry62, hvy63⟩ : ∃ rZ9 : Nat → Int, rZ9 = uZ rvy56 (qy60) (z1) := ⟨_, rfl⟩
    rw [← hvy63] at hcvy61
    refine z_aload_n C 1 dX10_comes_35 rfl ?_
    refine z_iload_n C 2 dX10_comes_36 rfl ?_
    refine z_iload_n C 3 dX10_comes_37 rfl ?_
    refine z_iload C 0 dX10_comes_38 rfl ?_
    refine z_iconst (z := 1) C dX10_comes_40 rfl ?_
    refine z_iload C 5 dX10_comes_41 rfl ?_
    have hgy64 := (hfvy61 (i) (ne_o (i := i) (c := 0) (d := 1) rfl)).trans hgy57
    refine z_cV (As := [.int (zI ((b : Int))), .int (zI ((s : Int))), .int (zI (rvy56 (p))), .int (zI (1)), .int (zI (z2))]) (rest := []) (ci := 12) C (c_X10_sets l D A cs tt N ad _ i hN _ hgy64 _ hcvy61 b s p hp (by omega) (by omega) (rvy56 (p)) (1) (qy60 + 1) (by omega) (by omega) (by omega) (z2)) (lt_A0 hN rfl) hay1 hgy64 rfl rfl mv_yX10_sets q_1908 hd_yX10_sets (by decide) (Nat.le_of_ble_eq_true rfl) (by decide) dX10_comes_43 rfl (kV0 fun gvy65 hvy65 => ?_)
    obtain ⟨hcvy65, hfvy65⟩ := hvy65
    obtain ⟨ry66, hvy67⟩ : ∃ rZ9 : Nat → Int, rZ9 = uZ ry62 (qy60 + 1) (z2) := ⟨_, rfl⟩
    rw [← hvy67] at hcvy65
    refine z_aload_n C 1 dX10_comes_46 rfl ?_
    refine z_iload_n C 2 dX10_comes_47 rfl ?_
    refine z_iload_n C 3 dX10_comes_48 rfl ?_
    refine z_iload C 0 dX10_comes_49 rfl ?_
    refine z_iconst (z := 2) C dX10_comes_51 rfl ?_
    refine z_iconst (z := 0) C dX10_comes_52 rfl ?_
    have hgy68 := (hfvy65 (i) (ne_o (i := i) (c := 0) (d := 1) rfl)).trans hgy64
    refine z_cV (As := [.int (zI ((b : Int))), .int (zI ((s : Int))), .int (zI (rvy56 (p))), .int (zI (2)), .int (zI (0))]) (rest := []) (ci := 12) C (c_X10_sets l D A cs tt N ad _ i hN _ hgy68 _ hcvy65 b s p hp (by omega) (by omega) (rvy56 (p)) (2) (qy60 + 2) (by omega) (by omega) (by omega) (0)) (lt_A0 hN rfl) hay1 hgy68 rfl rfl mv_yX10_sets q_1908 hd_yX10_sets (by decide) (Nat.le_of_ble_eq_true rfl) (by decide) dX10_comes_53 rfl (kV0 fun gvy69 hvy69 => ?_)
    obtain ⟨hcvy69, hfvy69⟩ := hvy69
    obtain ⟨ry70, hvy71⟩ : ∃ rZ9 : Nat → Int, rZ9 = uZ ry66 (qy60 + 2) (0) := ⟨_, rfl⟩
    rw [← hvy71] at hcvy69
    refine z_aload_n C 1 dX10_comes_56 rfl ?_
    refine z_iload_n C 2 dX10_comes_57 rfl ?_
    refine z_iload_n C 3 dX10_comes_58 rfl ?_
    refine z_iload C 0 dX10_comes_59 rfl ?_
    refine z_iconst (z := 3) C dX10_comes_61 rfl ?_
    refine z_iload C 6 dX10_comes_62 rfl ?_
    have hgy72 := (hfvy69 (i) (ne_o (i := i) (c := 0) (d := 1) rfl)).trans hgy68
    refine z_cV (As := [.int (zI ((b : Int))), .int (zI ((s : Int))), .int (zI (rvy56 (p))), .int (zI (3)), .int (zI (z3))]) (rest := []) (ci := 12) C (c_X10_sets l D A cs tt N ad _ i hN _ hgy72 _ hcvy69 b s p hp (by omega) (by omega) (rvy56 (p)) (3) (qy60 + 3) (by omega) (by omega) (by omega) (z3)) (lt_A0 hN rfl) hay1 hgy72 rfl rfl mv_yX10_sets q_1908 hd_yX10_sets (by decide) (Nat.le_of_ble_eq_true rfl) (by decide) dX10_comes_64 rfl (kV0 fun gvy73 hvy73 => ?_)
    obtain ⟨hcvy73, hfvy73⟩ := hvy73
    obtain ⟨ry74, hvy75⟩ : ∃ rZ9 : Nat → Int, rZ9 = uZ ry70 (qy60 + 3) (z3) := ⟨_, rfl⟩
    rw [← hvy75] at hcvy73
    refine z_aload_n C 1 dX10_comes_67 rfl ?_
    refine z_iload_n C 2 dX10_comes_68 rfl ?_
    refine z_iload_n C 3 dX10_comes_69 rfl ?_
    refine z_iload C 0 dX10_comes_70 rfl ?_
    refine z_iconst (z := 4) C dX10_comes_72 rfl ?_
    refine z_iload C 7 dX10_comes_73 rfl ?_
    have hgy76 := (hfvy73 (i) (ne_o (i := i) (c := 0) (d := 1) rfl)).trans hgy72
    refine z_cV (As := [.int (zI ((b : Int))), .int (zI ((s : Int))), .int (zI (rvy56 (p))), .int (zI (4)), .int (zI (z4))]) (rest := []) (ci := 12) C (c_X10_sets l D A cs tt N ad _ i hN _ hgy76 _ hcvy73 b s p hp (by omega) (by omega) (rvy56 (p)) (4) (qy60 + 4) (by omega) (by omega) (by omega) (z4)) (lt_A0 hN rfl) hay1 hgy76 rfl rfl mv_yX10_sets q_1908 hd_yX10_sets (by decide) (Nat.le_of_ble_eq_true rfl) (by decide) dX10_comes_75 rfl (kV0 fun gvy77 hvy77 => ?_)
    obtain ⟨hcvy77, hfvy77⟩ := hvy77
    obtain ⟨ry78, hvy79⟩ : ∃ rZ9 : Nat → Int, rZ9 = uZ ry74 (qy60 + 4) (z4) := ⟨_, rfl⟩
    rw [← hvy79] at hcvy77
    refine z_aload_n C 1 dX10_comes_78 rfl ?_
    refine z_iload_n C 2 dX10_comes_79 rfl ?_
    refine z_iload_n C 3 dX10_comes_80 rfl ?_
    refine z_iload C 0 dX10_comes_81 rfl ?_
    refine z_iconst (z := 5) C dX10_comes_83 rfl ?_
    refine z_iconst (z := 0) C dX10_comes_84 rfl ?_
    have hgy80 := (hfvy77 (i) (ne_o (i := i) (c := 0) (d := 1) rfl)).trans hgy76
    refine z_cV (As := [.int (zI ((b : Int))), .int (zI ((s : Int))), .int (zI (rvy56 (p))), .int (zI (5)), .int (zI (0))]) (rest := []) (ci := 12) C (c_X10_sets l D A cs tt N ad _ i hN _ hgy80 _ hcvy77 b s p hp (by omega) (by omega) (rvy56 (p)) (5) (qy60 + 5) (by omega) (by omega) (by omega) (0)) (lt_A0 hN rfl) hay1 hgy80 rfl rfl mv_yX10_sets q_1908 hd_yX10_sets (by decide) (Nat.le_of_ble_eq_true rfl) (by decide) dX10_comes_85 rfl (kV0 fun gvy81 hvy81 => ?_)
    obtain ⟨hcvy81, hfvy81⟩ := hvy81
    obtain ⟨ry82, hvy83⟩ : ∃ rZ9 : Nat → Int, rZ9 = uZ ry78 (qy60 + 5) (0) := ⟨_, rfl⟩
    rw [← hvy83] at hcvy81
    refine z_aload_n C 1 dX10_comes_88 rfl ?_
    refine z_iload_n C 2 dX10_comes_89 rfl ?_
    refine z_iload_n C 3 dX10_comes_90 rfl ?_
    refine z_iload C 0 dX10_comes_91 rfl ?_
    refine z_bipush (z := 6) C dX10_comes_93 (by decide) ?_
    refine z_aload_n C 1 dX10_comes_95 rfl ?_
    have hgy84 := (hfvy81 (i) (ne_o (i := i) (c := 0) (d := 1) rfl)).trans hgy80
    refine z_get (v := .ref (ad (i + 1))) C (lt_A0 hN rfl) hay1 hgy84 rfl inA_X10 0 (by decide) q_1459 rfl rfl dX10_comes_96 ?_
    refine z_iload_n C 2 dX10_comes_99 rfl ?_
    refine z_iconst (z := 1) C dX10_comes_100 rfl ?_
    refine z_iadd C dX10_comes_101 ?_
    refine z_iald C (lt_A (c := 1) hN rfl) hay2 hcvy81 (b + 1) (by omega) (by omega) (by decide) dX10_comes_102 ?_
    rw [show ry82 (b + 1) = r (b + 1) from (congrFun hvy83 _).trans ((uZ_n _ _ (by omega)).trans ((congrFun hvy79 _).trans ((uZ_n _ _ (by omega)).trans ((congrFun hvy75 _).trans ((uZ_n _ _ (by omega)).trans ((congrFun hvy71 _).trans ((uZ_n _ _ (by omega)).trans ((congrFun hvy67 _).trans ((uZ_n _ _ (by omega)).trans ((congrFun hvy63 _).trans ((uZ_n _ _ (by omega)).trans ((hyvy56 _ (by omega)).trans (rfl)))))))))))))]
    refine z_cV (As := [.int (zI ((b : Int))), .int (zI ((s : Int))), .int (zI (rvy56 (p))), .int (zI (6)), .int (zI (r (b + 1)))]) (rest := []) (ci := 12) C (c_X10_sets l D A cs tt N ad _ i hN _ hgy84 _ hcvy81 b s p hp (by omega) (by omega) (rvy56 (p)) (6) (qy60 + 6) (by omega) (by omega) (by omega) (r (b + 1))) (lt_A0 hN rfl) hay1 hgy84 rfl rfl mv_yX10_sets q_1908 hd_yX10_sets (by decide) (Nat.le_of_ble_eq_true rfl) (by decide) dX10_comes_103 rfl (kV0 fun gvy85 hvy85 => ?_)
    obtain ⟨hcvy85, hfvy85⟩ := hvy85
    obtain ⟨ry86, hvy87⟩ : ∃ rZ9 : Nat → Int, rZ9 = uZ ry82 (qy60 + 6) (r (b + 1)) := ⟨_, rfl⟩
    rw [← hvy87] at hcvy85
    refine z_aload_n C 1 dX10_comes_106 rfl ?_
    have hgy88 := (hfvy85 (i) (ne_o (i := i) (c := 0) (d := 1) rfl)).trans hgy84
    refine z_get (v := .ref (ad (i + 1))) C (lt_A0 hN rfl) hay1 hgy88 rfl inA_X10 0 (by decide) q_1459 rfl rfl dX10_comes_107 ?_
    refine z_iload_n C 2 dX10_comes_110 rfl ?_
    refine z_iconst (z := 1) C dX10_comes_111 rfl ?_
    refine z_iadd C dX10_comes_112 ?_
    refine z_dup2 C dX10_comes_113 rfl rfl ?_
    refine z_iald C (lt_A (c := 1) hN rfl) hay2 hcvy85 (b + 1) (by omega) (by omega) (by decide) dX10_comes_114 ?_
    rw [show ry86 (b + 1) = r (b + 1) from (congrFun hvy87 _).trans ((uZ_n _ _ (by omega)).trans ((congrFun hvy83 _).trans ((uZ_n _ _ (by omega)).trans ((congrFun hvy79 _).trans ((uZ_n _ _ (by omega)).trans ((congrFun hvy75 _).trans ((uZ_n _ _ (by omega)).trans ((congrFun hvy71 _).trans ((uZ_n _ _ (by omega)).trans ((congrFun hvy67 _).trans ((uZ_n _ _ (by omega)).trans ((congrFun hvy63 _).trans ((uZ_n _ _ (by omega)).trans ((hyvy56 _ (by omega)).trans (rfl)))))))))))))))]
    refine z_iconst (z := 1) C dX10_comes_115 rfl ?_
    refine z_iadd C dX10_comes_116 ?_
    refine z_iast C (lt_A (c := 1) hN rfl) hay2 hcvy85 (b + 1) (by omega) (by omega) (by decide) dX10_comes_117 (fun gy89 egy90 => ?_)
    have hgy91 := up_s egy90
    obtain ⟨ry92, hvy93⟩ : ∃ rZ9 : Nat → Int, rZ9 = uZ ry86 (b + 1) ((r (b + 1)) + 1) := ⟨_, rfl⟩
    rw [← hvy93] at hgy91
    refine z_aload_n C 1 dX10_comes_118 rfl ?_
    refine z_iload_n C 2 dX10_comes_119 rfl ?_
    refine z_iload_n C 3 dX10_comes_120 rfl ?_
    refine z_iload C 0 dX10_comes_121 rfl ?_
    refine z_iconst (z := 1) C dX10_comes_123 rfl ?_
    refine z_iadd C dX10_comes_124 ?_
    have hgy94 := up_n egy90 hgy88 (ne_o (i := i) (c := 0) (d := 1) rfl)
    refine z_cV (As := [.int (zI ((b : Int))), .int (zI ((s : Int))), .int (zI ((rvy56 (p)) + 1))]) (rest := []) (ci := 12) C (c_X10_setsMany l D A cs tt N ad _ i hN _ hgy94 _ hgy91 b s p hp (by omega) (by omega) ((rvy56 (p)) + 1)) (lt_A0 hN rfl) hay1 hgy94 rfl rfl mv_yX10_setsMany q_1717 hd_yX10_setsMany (by decide) (Nat.le_of_ble_eq_true rfl) (by decide) dX10_comes_125 rfl (kV0 fun gvy95 hvy95 => ?_)
    obtain ⟨hcvy95, hfvy95⟩ := hvy95
    obtain ⟨ry96, hvy97⟩ : ∃ rZ9 : Nat → Int, rZ9 = uZ ry92 (p) ((rvy56 (p)) + 1) := ⟨_, rfl⟩
    rw [← hvy97] at hcvy95
    have hfry98 : ∀ j, j ≠ p → j ≠ b + 1 → j ≠ qy60 + 6 → j ≠ qy60 + 5 → j ≠ qy60 + 4 → j ≠ qy60 + 3 → j ≠ qy60 + 2 → j ≠ qy60 + 1 → j ≠ qy60 → ry96 j = rvy56 j := fun j n0 n1 n2 n3 n4 n5 n6 n7 n8 => (congrFun hvy97 _).trans ((uZ_n _ _ n0).trans ((congrFun hvy93 _).trans ((uZ_n _ _ n1).trans ((congrFun hvy87 _).trans ((uZ_n _ _ n2).trans ((congrFun hvy83 _).trans ((uZ_n _ _ n3).trans ((congrFun hvy79 _).trans ((uZ_n _ _ n4).trans ((congrFun hvy75 _).trans ((uZ_n _ _ n5).trans ((congrFun hvy71 _).trans ((uZ_n _ _ n6).trans ((congrFun hvy67 _).trans ((uZ_n _ _ n7).trans ((congrFun hvy63 _).trans ((uZ_n _ _ n8).trans (rfl))))))))))))))))))
    have hwy99 : ry96 (qy60) = z1 := (congrFun hvy97 _).trans ((uZ_n _ _ (by omega)).trans ((congrFun hvy93 _).trans ((uZ_n _ _ (by omega)).trans ((congrFun hvy87 _).trans ((uZ_n _ _ (by omega)).trans ((congrFun hvy83 _).trans ((uZ_n _ _ (by omega)).trans ((congrFun hvy79 _).trans ((uZ_n _ _ (by omega)).trans ((congrFun hvy75 _).trans ((uZ_n _ _ (by omega)).trans ((congrFun hvy71 _).trans ((uZ_n _ _ (by omega)).trans ((congrFun hvy67 _).trans ((uZ_n _ _ (by omega)).trans ((congrFun hvy63 _).trans (uZ_s _ _ _)))))))))))))))))
    have hwy100 : ry96 (qy60 + 1) = z2 := (congrFun hvy97 _).trans ((uZ_n _ _ (by omega)).trans ((congrFun hvy93 _).trans ((uZ_n _ _ (by omega)).trans ((congrFun hvy87 _).trans ((uZ_n _ _ (by omega)).trans ((congrFun hvy83 _).trans ((uZ_n _ _ (by omega)).trans ((congrFun hvy79 _).trans ((uZ_n _ _ (by omega)).trans ((congrFun hvy75 _).trans ((uZ_n _ _ (by omega)).trans ((congrFun hvy71 _).trans ((uZ_n _ _ (by omega)).trans ((congrFun hvy67 _).trans (uZ_s _ _ _)))))))))))))))
    have hwy101 : ry96 (qy60 + 2) = 0 := (congrFun hvy97 _).trans ((uZ_n _ _ (by omega)).trans ((congrFun hvy93 _).trans ((uZ_n _ _ (by omega)).trans ((congrFun hvy87 _).trans ((uZ_n _ _ (by omega)).trans ((congrFun hvy83 _).trans ((uZ_n _ _ (by omega)).trans ((congrFun hvy79 _).trans ((uZ_n _ _ (by omega)).trans ((congrFun hvy75 _).trans ((uZ_n _ _ (by omega)).trans ((congrFun hvy71 _).trans (uZ_s _ _ _)))))))))))))
    have hwy102 : ry96 (qy60 + 3) = z3 := (congrFun hvy97 _).trans ((uZ_n _ _ (by omega)).trans ((congrFun hvy93 _).trans ((uZ_n _ _ (by omega)).trans ((congrFun hvy87 _).trans ((uZ_n _ _ (by omega)).trans ((congrFun hvy83 _).trans ((uZ_n _ _ (by omega)).trans ((congrFun hvy79 _).trans ((uZ_n _ _ (by omega)).trans ((congrFun hvy75 _).trans (uZ_s _ _ _)))))))))))
    have hwy103 : ry96 (qy60 + 4) = z4 := (congrFun hvy97 _).trans ((uZ_n _ _ (by omega)).trans ((congrFun hvy93 _).trans ((uZ_n _ _ (by omega)).trans ((congrFun hvy87 _).trans ((uZ_n _ _ (by omega)).trans ((congrFun hvy83 _).trans ((uZ_n _ _ (by omega)).trans ((congrFun hvy79 _).trans (uZ_s _ _ _)))))))))
    have hwy104 : ry96 (qy60 + 6) = r (b + 1) := (congrFun hvy97 _).trans ((uZ_n _ _ (by omega)).trans ((congrFun hvy93 _).trans ((uZ_n _ _ (by omega)).trans ((congrFun hvy87 _).trans (uZ_s _ _ _)))))
    have hlyy105 : ly ry96 qy60 := by unfold ly; omega
    have hwy106 : ry96 (p) = (rvy56 (p)) + 1 := (congrFun hvy97 _).trans (uZ_s _ _ _)
    have hwy107 : ry96 (b + 1) = (r (b + 1)) + 1 := (congrFun hvy97 _).trans ((uZ_n _ _ (by omega)).trans ((congrFun hvy93 _).trans (uZ_s _ _ _)))
    have hok9 : okS ry96 p (M + 50) (E + 500) := okS.push 50 500 hovy56 (n := ky59) (by omega) (by omega) hqy60 (by omega) (fun j a1 a2 => hfry98 j (by omega) (by omega) (by omega) (by omega) (by omega) (by omega) (by omega) (by omega) (by omega)) hlyy105 (by omega) (by omega)
    exact z_vret C hr hlk dX10_comes_128 (by decide) (by decide) ⟨rfl, rfl, rfl, ⟨_, hcvy95, hok9, by omega, fun j a1 a2 => (hfry98 j (by omega) (by omega) (by omega) (by omega) (by omega) (by omega) (by omega) (by omega) (by omega)).trans (hyvy56 j a1)⟩, fun j j1 => by rw [hfvy95 _ (by omega)]; rw [egy90, va_up_ne _ _ (by omega)]; rw [hfvy85 _ (by omega)]; rw [hfvy81 _ (by omega)]; rw [hfvy77 _ (by omega)]; rw [hfvy73 _ (by omega)]; rw [hfvy69 _ (by omega)]; rw [hfvy65 _ (by omega)]; rw [hfvy61 _ (by omega)]; rw [hfvy56 _ (by omega)]⟩

theorem okS.wet {r r' : Nat → Int} {p k q : Nat} {M E a : Int} (ha : 0 ≤ a) (h : okS r p M E) (hk : (k : Int) < r p) (hq : p + 2 + 7 * k = q) (he : ∀ j, j ≠ q + 2 → r' j = r j) (hw : r' (q + 2) = r (q + 2) + a) : okS r' p (M + a) E := by
  have h9 := (h.layer hk hq).1
  have h8 := okS.one (r' := r') a 0 h hk hq (fun j a1 a2 a3 a4 => he j (by omega)) (by unfold ly at *; rw [he q (by omega), he (q + 1) (by omega), he (q + 3) (by omega), he (q + 4) (by omega), he (q + 6) (by omega)]; omega) (by rw [he (q + 1) (by omega)]; omega) (by rw [he (q + 3) (by omega)]; omega)
  rw [Int.add_zero] at h8
  exact h8

set_option maxRecDepth 100000 in
set_option maxHeartbeats 4000000 in
theorem c_X10_drops (l : Launch) (D : va_G) (A : Nat → Prop) (cs : Nat → ClassId) (tt : Nat) (N : Nat) (ad : Nat → Nat) (g : Nat → va_E) (i : Nat) (hN : i + 30 ≤ N) (F : Nat → Int) (hg : g i = mC ad i F) (r : Nat → Int) (ha1 : g (i + 1) = iA cs 29200 r) (b s p : Nat) (hp : b + 6 + 86 * s = p) (hb : b + 350 ≤ 29200) (hs : s < 4) (hnm : 0 ≤ r (b + 1) ∧ r (b + 1) ≤ 20000) (M E : Int) (hM : M ≤ 138500) (hE : E ≤ 400000000) (ho : okS r p M E) (hM2 : M + 50 ≤ 138500) (hE2 : E + 500 ≤ 400000000) (z1 : Int) (hz1 : 0 ≤ z1 ∧ z1 ≤ 3) (z2 : Int) (hz2 : (-2147483648 ≤ z2 ∧ z2 ≤ 2147483647) ∧ (z1 = 1 ∨ z1 = 2 → 1 ≤ z2 ∧ z2 ≤ 50)) (z3 : Int) (hz3 : -300 ≤ z3 ∧ z3 ≤ 100) : zM l yX10_drops cX10_drops 6 none ({ frames := 5, cells := 0, slots := 0, locals := 300 } : Room) D A cs tt N ad g [.ref (ad i), .int (zI ((b : Int))), .int (zI ((s : Int))), .int (zI (z1)), .int (zI (z2)), .int (zI (z3))] (rV0 N ad fun g' => (∃ r' : Nat → Int, g' (i + 1) = iA cs 29200 r' ∧ okS r' p (M + 50) (E + 500) ∧ (r (b + 1) ≤ r' (b + 1) ∧ r' (b + 1) ≤ r (b + 1) + 1) ∧ (∀ j, j < p ∨ p + 86 ≤ j → j ≠ b + 1 → r' j = r j)) ∧ ∀ j, j ≠ i + 1 → g' j = g j) := by
  have hay1 : zAt ad (i) (ad i) := rfl
  have hay2 : zAt ad (i + 1) (ad (i + 1)) := rfl
  have hmky3 := ho.1
  obtain ⟨n, hn1, hn2, hn3, hn4, hn5⟩ := ho.get
  refine z_of (by decide) (Nat.le_of_ble_eq_true rfl) ?_
  intro pZ eZ sZ mZ below meth cZ C hr hlk hnm
  refine z_lv (lv' := [(0, .ref (ad i)), (1, .int (zI ((b : Int)))), (2, .int (zI ((s : Int)))), (3, .int (zI (z1))), (4, .int (zI (z2))), (5, .int (zI (z3)))]) [0, 1, 2, 3, 4, 5] rfl ?_
  refine z_iload_n C 3 dX10_drops_0 rfl ?_
  refine z_iconst (z := 1) C dX10_drops_1 rfl ?_
  refine z_icmp_ne (tgt := 25) C dX10_drops_2 (by decide) (by omega) (by omega) (fun hby4 => ?_) (fun hby4 => ?_)
  · refine z_iload_n C 3 dX10_drops_25 rfl ?_
    refine z_iconst (z := 3) C dX10_drops_26 rfl ?_
    refine z_icmp_ne (tgt := 47) C dX10_drops_27 (by decide) (by omega) (by omega) (fun hby5 => ?_) (fun hby5 => ?_)
    · refine z_iload_n C 3 dX10_drops_47 rfl ?_
      refine z_iconst (z := 2) C dX10_drops_48 rfl ?_
      refine z_icmp_eq (tgt := 53) C dX10_drops_49 (by decide) (by omega) (by omega) (fun hby6 => ?_) (fun hby6 => ?_)
      · refine z_aload_n C 0 dX10_drops_53 rfl ?_
        refine z_iload_n C 1 dX10_drops_54 rfl ?_
        refine z_iload_n C 2 dX10_drops_55 rfl ?_
        refine z_cV (As := [.int (zI ((b : Int))), .int (zI ((s : Int)))]) (rest := []) (ci := 12) C (c_X10_many l D A cs tt N ad _ i hN _ hg _ ha1 b s p hp (by omega) (by omega)) (lt_A0 hN rfl) hay1 hg rfl rfl mv_yX10_many q_1733 hd_yX10_many (by decide) (Nat.le_of_ble_eq_true rfl) (by decide) dX10_drops_56 rfl (kI0 fun vy7 gvy7 hvy7 => ?_)
        obtain ⟨rfl, rfl⟩ := hvy7
        refine z_if_ne (tgt := 73) C dX10_drops_59 (by decide) (by omega) (fun hby8 => ?_) (fun hby8 => ?_)
        · refine z_aload_n C 0 dX10_drops_73 rfl ?_
          refine z_get (v := .ref (ad (i + 1))) C (lt_A0 hN rfl) hay1 hg rfl inA_X10 0 (by decide) q_1459 rfl rfl dX10_drops_74 ?_
          refine z_iload_n C 1 dX10_drops_77 rfl ?_
          refine z_iload_n C 2 dX10_drops_78 rfl ?_
          refine z_aload_n C 0 dX10_drops_79 rfl ?_
          refine z_iload_n C 1 dX10_drops_80 rfl ?_
          refine z_iload_n C 2 dX10_drops_81 rfl ?_
          refine z_cV (As := [.int (zI ((b : Int))), .int (zI ((s : Int)))]) (rest := [.int (zI ((s : Int))), .int (zI ((b : Int))), .ref (ad (i + 1))]) (ci := 12) C (c_X10_many l D A cs tt N ad _ i hN _ hg _ ha1 b s p hp (by omega) (by omega)) (lt_A0 hN rfl) hay1 hg rfl rfl mv_yX10_many q_1733 hd_yX10_many (by decide) (Nat.le_of_ble_eq_true rfl) (by decide) dX10_drops_82 rfl (kI0 fun vy9 gvy9 hvy9 => ?_)
          obtain ⟨rfl, rfl⟩ := hvy9
          refine z_iconst (z := 1) C dX10_drops_85 rfl ?_
          refine z_isub C dX10_drops_86 ?_
          obtain ⟨ky10, hky10⟩ : ∃ k9 : Nat, ((r (p)) - 1) = (k9 : Int) := ⟨(((r (p)) - 1) : Int).toNat, by omega⟩
          obtain ⟨qy11, hqy11⟩ : ∃ q9 : Nat, p + 2 + 7 * ky10 = q9 := ⟨_, rfl⟩
          obtain ⟨⟨hKzy12, hIzy12, hWzy12, hDzy12, hTzy12, hnzy12⟩, hmzy12, hdzy12⟩ := okS.layer ho (k := ky10) (by omega) hqy11
          refine z_cS (As := [.int (zI ((b : Int))), .int (zI ((s : Int))), .int (zI ((r (p)) - 1))]) (rest := [.ref (ad (i + 1))]) C (c_X10_at l D A cs tt N ad _ ((b : Int)) (by omega) ((s : Int)) (by omega) ((r (p)) - 1) (by omega)) ms_yX10_at q_1753 hd_yX10_at (by decide) (Nat.le_of_ble_eq_true rfl) (by decide) dX10_drops_87 rfl (kI0 fun vy13 gvy13 hvy13 => ?_)
          obtain ⟨hvy13, rfl⟩ := hvy13
          rw [show vy13 = (qy11 : Int) by omega]
          refine z_iconst (z := 2) C dX10_drops_90 rfl ?_
          refine z_iadd C dX10_drops_91 ?_
          refine z_dup2 C dX10_drops_92 rfl rfl ?_
          refine z_iald C (lt_A (c := 1) hN rfl) hay2 ha1 (qy11 + 2) (by omega) (by omega) (by decide) dX10_drops_93 ?_
          refine z_iload C 4 dX10_drops_94 rfl ?_
          refine z_iadd C dX10_drops_96 ?_
          refine z_iast C (lt_A (c := 1) hN rfl) hay2 ha1 (qy11 + 2) (by omega) (by omega) (by decide) dX10_drops_97 (fun gy14 egy15 => ?_)
          have hgy16 := up_s egy15
          obtain ⟨ry17, hvy18⟩ : ∃ rZ9 : Nat → Int, rZ9 = uZ r (qy11 + 2) ((r (qy11 + 2)) + z2) := ⟨_, rfl⟩
          rw [← hvy18] at hgy16
          have hfry19 : ∀ j, j ≠ qy11 + 2 → ry17 j = r j := fun j n0 => (congrFun hvy18 _).trans ((uZ_n _ _ n0).trans (rfl))
          have hwy20 : ry17 (p) = r (p) := (congrFun hvy18 _).trans ((uZ_n _ _ (by omega)).trans (rfl))
          have hwy21 : ry17 (b + 1) = r (b + 1) := (congrFun hvy18 _).trans ((uZ_n _ _ (by omega)).trans (rfl))
          have hwy22 : ry17 (qy11 + 2) = (r (qy11 + 2)) + z2 := (congrFun hvy18 _).trans (uZ_s _ _ _)
          have hok9 := okS.wet (r' := ry17) (a := z2) (by omega) ho (k := ky10) (by omega) hqy11 (fun j a1 => hfry19 j (by omega)) (by omega)
          exact z_vret C hr hlk dX10_drops_98 (by decide) (by decide) ⟨rfl, rfl, rfl, ⟨_, hgy16, hok9.mono (by omega) (by omega), by omega, fun j a1 a2 => hfry19 j (by omega)⟩, fun j j1 => by rw [egy15, va_up_ne _ _ (by omega)]⟩
        · refine z_aload_n C 0 dX10_drops_62 rfl ?_
          refine z_iload_n C 1 dX10_drops_63 rfl ?_
          refine z_iload_n C 2 dX10_drops_64 rfl ?_
          refine z_iload C 4 dX10_drops_65 rfl ?_
          refine z_cV (As := [.int (zI ((b : Int))), .int (zI ((s : Int))), .int (zI (z2))]) (rest := []) (ci := 12) C (c_X10_runsOff l D A cs tt N ad _ i hN _ hg _ ha1 b s p hp (by omega) (by omega) (z2)) (lt_A0 hN rfl) hay1 hg rfl rfl mv_yX10_runsOff q_1912 hd_yX10_runsOff (by decide) (Nat.le_of_ble_eq_true rfl) (by decide) dX10_drops_67 rfl (kV0 fun gvy23 hvy23 => ?_)
          obtain ⟨hcvy23, hfvy23⟩ := hvy23
          obtain ⟨ry24, hvy25⟩ : ∃ rZ9 : Nat → Int, rZ9 = uZ r (p + 1) (r (p + 1) + (z2)) := ⟨_, rfl⟩
          rw [← hvy25] at hcvy23
          refine z_goto (tgt := 98) C dX10_drops_70 (by decide) ?_
          have hfry26 : ∀ j, j ≠ p + 1 → ry24 j = r j := fun j n0 => (congrFun hvy25 _).trans ((uZ_n _ _ n0).trans (rfl))
          have hwy27 : ry24 (p) = r (p) := (congrFun hvy25 _).trans ((uZ_n _ _ (by omega)).trans (rfl))
          have hwy28 : ry24 (b + 1) = r (b + 1) := (congrFun hvy25 _).trans ((uZ_n _ _ (by omega)).trans (rfl))
          have hok9 : okS ry24 p M E := okS.cut ho (fun j a1 a2 => hfry26 j (by omega)) (by omega)
          exact z_vret C hr hlk dX10_drops_98 (by decide) (by decide) ⟨rfl, rfl, rfl, ⟨_, hcvy23, hok9.mono (by omega) (by omega), by omega, fun j a1 a2 => hfry26 j (by omega)⟩, fun j j1 => by rw [hfvy23 _ (by omega)]⟩
      · exact z_vret C hr hlk dX10_drops_52 (by decide) (by decide) ⟨rfl, rfl, rfl, ⟨_, ha1, ho.mono (by omega) (by omega), by omega, fun j _ _ => rfl⟩, fun j j1 => by rfl⟩
    · refine z_iload C 5 dX10_drops_30 rfl ?_
      refine z_if_ge (tgt := 47) C dX10_drops_32 (by decide) (by omega) (fun hby29 => ?_) (fun hby29 => ?_)
      · refine z_iload_n C 3 dX10_drops_47 rfl ?_
        refine z_iconst (z := 2) C dX10_drops_48 rfl ?_
        refine z_icmp_eq (tgt := 53) C dX10_drops_49 (by decide) (by omega) (by omega) (fun hby30 => ?_) (fun hby30 => ?_)
        · refine z_aload_n C 0 dX10_drops_53 rfl ?_
          refine z_iload_n C 1 dX10_drops_54 rfl ?_
          refine z_iload_n C 2 dX10_drops_55 rfl ?_
          refine z_cV (As := [.int (zI ((b : Int))), .int (zI ((s : Int)))]) (rest := []) (ci := 12) C (c_X10_many l D A cs tt N ad _ i hN _ hg _ ha1 b s p hp (by omega) (by omega)) (lt_A0 hN rfl) hay1 hg rfl rfl mv_yX10_many q_1733 hd_yX10_many (by decide) (Nat.le_of_ble_eq_true rfl) (by decide) dX10_drops_56 rfl (kI0 fun vy31 gvy31 hvy31 => ?_)
          obtain ⟨rfl, rfl⟩ := hvy31
          refine z_if_ne (tgt := 73) C dX10_drops_59 (by decide) (by omega) (fun hby32 => ?_) (fun hby32 => ?_)
          · refine z_aload_n C 0 dX10_drops_73 rfl ?_
            refine z_get (v := .ref (ad (i + 1))) C (lt_A0 hN rfl) hay1 hg rfl inA_X10 0 (by decide) q_1459 rfl rfl dX10_drops_74 ?_
            refine z_iload_n C 1 dX10_drops_77 rfl ?_
            refine z_iload_n C 2 dX10_drops_78 rfl ?_
            refine z_aload_n C 0 dX10_drops_79 rfl ?_
            refine z_iload_n C 1 dX10_drops_80 rfl ?_
            refine z_iload_n C 2 dX10_drops_81 rfl ?_
            refine z_cV (As := [.int (zI ((b : Int))), .int (zI ((s : Int)))]) (rest := [.int (zI ((s : Int))), .int (zI ((b : Int))), .ref (ad (i + 1))]) (ci := 12) C (c_X10_many l D A cs tt N ad _ i hN _ hg _ ha1 b s p hp (by omega) (by omega)) (lt_A0 hN rfl) hay1 hg rfl rfl mv_yX10_many q_1733 hd_yX10_many (by decide) (Nat.le_of_ble_eq_true rfl) (by decide) dX10_drops_82 rfl (kI0 fun vy33 gvy33 hvy33 => ?_)
            obtain ⟨rfl, rfl⟩ := hvy33
            refine z_iconst (z := 1) C dX10_drops_85 rfl ?_
            refine z_isub C dX10_drops_86 ?_
            obtain ⟨ky34, hky34⟩ : ∃ k9 : Nat, ((r (p)) - 1) = (k9 : Int) := ⟨(((r (p)) - 1) : Int).toNat, by omega⟩
            obtain ⟨qy35, hqy35⟩ : ∃ q9 : Nat, p + 2 + 7 * ky34 = q9 := ⟨_, rfl⟩
            obtain ⟨⟨hKzy36, hIzy36, hWzy36, hDzy36, hTzy36, hnzy36⟩, hmzy36, hdzy36⟩ := okS.layer ho (k := ky34) (by omega) hqy35
            refine z_cS (As := [.int (zI ((b : Int))), .int (zI ((s : Int))), .int (zI ((r (p)) - 1))]) (rest := [.ref (ad (i + 1))]) C (c_X10_at l D A cs tt N ad _ ((b : Int)) (by omega) ((s : Int)) (by omega) ((r (p)) - 1) (by omega)) ms_yX10_at q_1753 hd_yX10_at (by decide) (Nat.le_of_ble_eq_true rfl) (by decide) dX10_drops_87 rfl (kI0 fun vy37 gvy37 hvy37 => ?_)
            obtain ⟨hvy37, rfl⟩ := hvy37
            rw [show vy37 = (qy35 : Int) by omega]
            refine z_iconst (z := 2) C dX10_drops_90 rfl ?_
            refine z_iadd C dX10_drops_91 ?_
            refine z_dup2 C dX10_drops_92 rfl rfl ?_
            refine z_iald C (lt_A (c := 1) hN rfl) hay2 ha1 (qy35 + 2) (by omega) (by omega) (by decide) dX10_drops_93 ?_
            refine z_iload C 4 dX10_drops_94 rfl ?_
            refine z_iadd C dX10_drops_96 ?_
            refine z_iast C (lt_A (c := 1) hN rfl) hay2 ha1 (qy35 + 2) (by omega) (by omega) (by decide) dX10_drops_97 (fun gy38 egy39 => ?_)
            have hgy40 := up_s egy39
            obtain ⟨ry41, hvy42⟩ : ∃ rZ9 : Nat → Int, rZ9 = uZ r (qy35 + 2) ((r (qy35 + 2)) + z2) := ⟨_, rfl⟩
            rw [← hvy42] at hgy40
            have hfry43 : ∀ j, j ≠ qy35 + 2 → ry41 j = r j := fun j n0 => (congrFun hvy42 _).trans ((uZ_n _ _ n0).trans (rfl))
            have hwy44 : ry41 (p) = r (p) := (congrFun hvy42 _).trans ((uZ_n _ _ (by omega)).trans (rfl))
            have hwy45 : ry41 (b + 1) = r (b + 1) := (congrFun hvy42 _).trans ((uZ_n _ _ (by omega)).trans (rfl))
            have hwy46 : ry41 (qy35 + 2) = (r (qy35 + 2)) + z2 := (congrFun hvy42 _).trans (uZ_s _ _ _)
            have hok9 := okS.wet (r' := ry41) (a := z2) (by omega) ho (k := ky34) (by omega) hqy35 (fun j a1 => hfry43 j (by omega)) (by omega)
            exact z_vret C hr hlk dX10_drops_98 (by decide) (by decide) ⟨rfl, rfl, rfl, ⟨_, hgy40, hok9.mono (by omega) (by omega), by omega, fun j a1 a2 => hfry43 j (by omega)⟩, fun j j1 => by rw [egy39, va_up_ne _ _ (by omega)]⟩
          · refine z_aload_n C 0 dX10_drops_62 rfl ?_
            refine z_iload_n C 1 dX10_drops_63 rfl ?_
            refine z_iload_n C 2 dX10_drops_64 rfl ?_
            refine z_iload C 4 dX10_drops_65 rfl ?_
            refine z_cV (As := [.int (zI ((b : Int))), .int (zI ((s : Int))), .int (zI (z2))]) (rest := []) (ci := 12) C (c_X10_runsOff l D A cs tt N ad _ i hN _ hg _ ha1 b s p hp (by omega) (by omega) (z2)) (lt_A0 hN rfl) hay1 hg rfl rfl mv_yX10_runsOff q_1912 hd_yX10_runsOff (by decide) (Nat.le_of_ble_eq_true rfl) (by decide) dX10_drops_67 rfl (kV0 fun gvy47 hvy47 => ?_)
            obtain ⟨hcvy47, hfvy47⟩ := hvy47
            obtain ⟨ry48, hvy49⟩ : ∃ rZ9 : Nat → Int, rZ9 = uZ r (p + 1) (r (p + 1) + (z2)) := ⟨_, rfl⟩
            rw [← hvy49] at hcvy47
            refine z_goto (tgt := 98) C dX10_drops_70 (by decide) ?_
            have hfry50 : ∀ j, j ≠ p + 1 → ry48 j = r j := fun j n0 => (congrFun hvy49 _).trans ((uZ_n _ _ n0).trans (rfl))
            have hwy51 : ry48 (p) = r (p) := (congrFun hvy49 _).trans ((uZ_n _ _ (by omega)).trans (rfl))
            have hwy52 : ry48 (b + 1) = r (b + 1) := (congrFun hvy49 _).trans ((uZ_n _ _ (by omega)).trans (rfl))
            have hok9 : okS ry48 p M E := okS.cut ho (fun j a1 a2 => hfry50 j (by omega)) (by omega)
            exact z_vret C hr hlk dX10_drops_98 (by decide) (by decide) ⟨rfl, rfl, rfl, ⟨_, hcvy47, hok9.mono (by omega) (by omega), by omega, fun j a1 a2 => hfry50 j (by omega)⟩, fun j j1 => by rw [hfvy47 _ (by omega)]⟩
        · exact z_vret C hr hlk dX10_drops_52 (by decide) (by decide) ⟨rfl, rfl, rfl, ⟨_, ha1, ho.mono (by omega) (by omega), by omega, fun j _ _ => rfl⟩, fun j j1 => by rfl⟩
      · refine z_aload_n C 0 dX10_drops_35 rfl ?_
        refine z_iload_n C 1 dX10_drops_36 rfl ?_
        refine z_iload_n C 2 dX10_drops_37 rfl ?_
        refine z_iconst (z := 4) C dX10_drops_38 rfl ?_
        refine z_iconst (z := 1) C dX10_drops_39 rfl ?_
        refine z_bipush (z := 10) C dX10_drops_40 (by decide) ?_
        refine z_iload C 5 dX10_drops_42 rfl ?_
        refine z_cV (As := [.int (zI ((b : Int))), .int (zI ((s : Int))), .int (zI (4)), .int (zI (1)), .int (zI (10)), .int (zI (z3))]) (rest := []) (ci := 12) C (c_X10_comes l D A cs tt N ad _ i hN _ hg _ ha1  b s p hp (by omega) (by omega) (by omega) (M) (E) (by omega) (by omega) ho  (4) (by omega) (1) (by omega) (10) (by omega) (z3) (by omega)) (lt_A0 hN rfl) hay1 hg rfl rfl mv_yX10_comes q_1897 hd_yX10_comes (by decide) (Nat.le_of_ble_eq_true rfl) (by decide) dX10_drops_44 rfl (kV0 fun gvy53 hvy53 => ?_)
        obtain ⟨⟨rvy53, hcvy53, hovy53, hnvy53, hyvy53⟩, hfvy53⟩ := hvy53
        have hkvy53 := hovy53.1
        refine z_iload_n C 3 dX10_drops_47 rfl ?_
        refine z_iconst (z := 2) C dX10_drops_48 rfl ?_
        refine z_icmp_eq (tgt := 53) C dX10_drops_49 (by decide) (by omega) (by omega) (fun hby54 => ?_) (fun hby54 => ?_)
        · refine z_aload_n C 0 dX10_drops_53 rfl ?_
          refine z_iload_n C 1 dX10_drops_54 rfl ?_
          refine z_iload_n C 2 dX10_drops_55 rfl ?_
          have hgy55 := (hfvy53 (i) (ne_o (i := i) (c := 0) (d := 1) rfl)).trans hg
          refine z_cV (As := [.int (zI ((b : Int))), .int (zI ((s : Int)))]) (rest := []) (ci := 12) C (c_X10_many l D A cs tt N ad _ i hN _ hgy55 _ hcvy53 b s p hp (by omega) (by omega)) (lt_A0 hN rfl) hay1 hgy55 rfl rfl mv_yX10_many q_1733 hd_yX10_many (by decide) (Nat.le_of_ble_eq_true rfl) (by decide) dX10_drops_56 rfl (kI0 fun vy56 gvy56 hvy56 => ?_)
          obtain ⟨rfl, rfl⟩ := hvy56
          refine z_if_ne (tgt := 73) C dX10_drops_59 (by decide) (by omega) (fun hby57 => ?_) (fun hby57 => ?_)
          · refine z_aload_n C 0 dX10_drops_73 rfl ?_
            refine z_get (v := .ref (ad (i + 1))) C (lt_A0 hN rfl) hay1 hgy55 rfl inA_X10 0 (by decide) q_1459 rfl rfl dX10_drops_74 ?_
            refine z_iload_n C 1 dX10_drops_77 rfl ?_
            refine z_iload_n C 2 dX10_drops_78 rfl ?_
            refine z_aload_n C 0 dX10_drops_79 rfl ?_
            refine z_iload_n C 1 dX10_drops_80 rfl ?_
            refine z_iload_n C 2 dX10_drops_81 rfl ?_
            refine z_cV (As := [.int (zI ((b : Int))), .int (zI ((s : Int)))]) (rest := [.int (zI ((s : Int))), .int (zI ((b : Int))), .ref (ad (i + 1))]) (ci := 12) C (c_X10_many l D A cs tt N ad _ i hN _ hgy55 _ hcvy53 b s p hp (by omega) (by omega)) (lt_A0 hN rfl) hay1 hgy55 rfl rfl mv_yX10_many q_1733 hd_yX10_many (by decide) (Nat.le_of_ble_eq_true rfl) (by decide) dX10_drops_82 rfl (kI0 fun vy58 gvy58 hvy58 => ?_)
            obtain ⟨rfl, rfl⟩ := hvy58
            refine z_iconst (z := 1) C dX10_drops_85 rfl ?_
            refine z_isub C dX10_drops_86 ?_
            obtain ⟨ky59, hky59⟩ : ∃ k9 : Nat, ((rvy53 (p)) - 1) = (k9 : Int) := ⟨(((rvy53 (p)) - 1) : Int).toNat, by omega⟩
            obtain ⟨qy60, hqy60⟩ : ∃ q9 : Nat, p + 2 + 7 * ky59 = q9 := ⟨_, rfl⟩
            obtain ⟨⟨hKzy61, hIzy61, hWzy61, hDzy61, hTzy61, hnzy61⟩, hmzy61, hdzy61⟩ := okS.layer hovy53 (k := ky59) (by omega) hqy60
            refine z_cS (As := [.int (zI ((b : Int))), .int (zI ((s : Int))), .int (zI ((rvy53 (p)) - 1))]) (rest := [.ref (ad (i + 1))]) C (c_X10_at l D A cs tt N ad _ ((b : Int)) (by omega) ((s : Int)) (by omega) ((rvy53 (p)) - 1) (by omega)) ms_yX10_at q_1753 hd_yX10_at (by decide) (Nat.le_of_ble_eq_true rfl) (by decide) dX10_drops_87 rfl (kI0 fun vy62 gvy62 hvy62 => ?_)
            obtain ⟨hvy62, rfl⟩ := hvy62
            rw [show vy62 = (qy60 : Int) by omega]
            refine z_iconst (z := 2) C dX10_drops_90 rfl ?_
            refine z_iadd C dX10_drops_91 ?_
            refine z_dup2 C dX10_drops_92 rfl rfl ?_
            refine z_iald C (lt_A (c := 1) hN rfl) hay2 hcvy53 (qy60 + 2) (by omega) (by omega) (by decide) dX10_drops_93 ?_
            refine z_iload C 4 dX10_drops_94 rfl ?_
            refine z_iadd C dX10_drops_96 ?_
            refine z_iast C (lt_A (c := 1) hN rfl) hay2 hcvy53 (qy60 + 2) (by omega) (by omega) (by decide) dX10_drops_97 (fun gy63 egy64 => ?_)
            have hgy65 := up_s egy64
            obtain ⟨ry66, hvy67⟩ : ∃ rZ9 : Nat → Int, rZ9 = uZ rvy53 (qy60 + 2) ((rvy53 (qy60 + 2)) + z2) := ⟨_, rfl⟩
            rw [← hvy67] at hgy65
            omega
          · refine z_aload_n C 0 dX10_drops_62 rfl ?_
            refine z_iload_n C 1 dX10_drops_63 rfl ?_
            refine z_iload_n C 2 dX10_drops_64 rfl ?_
            refine z_iload C 4 dX10_drops_65 rfl ?_
            refine z_cV (As := [.int (zI ((b : Int))), .int (zI ((s : Int))), .int (zI (z2))]) (rest := []) (ci := 12) C (c_X10_runsOff l D A cs tt N ad _ i hN _ hgy55 _ hcvy53 b s p hp (by omega) (by omega) (z2)) (lt_A0 hN rfl) hay1 hgy55 rfl rfl mv_yX10_runsOff q_1912 hd_yX10_runsOff (by decide) (Nat.le_of_ble_eq_true rfl) (by decide) dX10_drops_67 rfl (kV0 fun gvy68 hvy68 => ?_)
            obtain ⟨hcvy68, hfvy68⟩ := hvy68
            obtain ⟨ry69, hvy70⟩ : ∃ rZ9 : Nat → Int, rZ9 = uZ rvy53 (p + 1) (rvy53 (p + 1) + (z2)) := ⟨_, rfl⟩
            rw [← hvy70] at hcvy68
            refine z_goto (tgt := 98) C dX10_drops_70 (by decide) ?_
            omega
        · exact z_vret C hr hlk dX10_drops_52 (by decide) (by decide) ⟨rfl, rfl, rfl, ⟨_, hcvy53, hovy53.mono (by omega) (by omega), by omega, hyvy53⟩, fun j j1 => by rw [hfvy53 _ (by omega)]⟩
  · refine z_aload_n C 0 dX10_drops_5 rfl ?_
    refine z_iload_n C 1 dX10_drops_6 rfl ?_
    refine z_iload_n C 2 dX10_drops_7 rfl ?_
    refine z_iconst (z := 0) C dX10_drops_8 rfl ?_
    refine z_iload C 4 dX10_drops_9 rfl ?_
    refine z_bipush (z := 10) C dX10_drops_11 (by decide) ?_
    refine z_iload C 4 dX10_drops_13 rfl ?_
    refine z_imul C dX10_drops_15 ?_
    refine z_iload C 5 dX10_drops_16 rfl ?_
    refine z_iconst (z := 0) C dX10_drops_18 rfl ?_
    refine z_cS (As := [.int (zI (z3)), .int (zI (0))]) (rest := [.int (zI (10 * z2)), .int (zI (z2)), .int (zI (0)), .int (zI ((s : Int))), .int (zI ((b : Int))), .ref (ad i)]) C (c_X10_lesser l D A cs tt N ad _ (z3) (by omega) (0) (by omega)) ms_yX10_lesser q_1792 hd_yX10_lesser (by decide) (Nat.le_of_ble_eq_true rfl) (by decide) dX10_drops_19 rfl (kI0 fun vy71 gvy71 hvy71 => ?_)
    obtain ⟨hvy71, rfl⟩ := hvy71
    refine z_cV (As := [.int (zI ((b : Int))), .int (zI ((s : Int))), .int (zI (0)), .int (zI (z2)), .int (zI (10 * z2)), .int (zI (vy71))]) (rest := []) (ci := 12) C (c_X10_comes l D A cs tt N ad _ i hN _ hg _ ha1  b s p hp (by omega) (by omega) (by omega) (M) (E) (by omega) (by omega) ho  (0) (by omega) (z2) (by omega) (10 * z2) (by omega) (vy71) (by omega)) (lt_A0 hN rfl) hay1 hg rfl rfl mv_yX10_comes q_1897 hd_yX10_comes (by decide) (Nat.le_of_ble_eq_true rfl) (by decide) dX10_drops_22 rfl (kV0 fun gvy72 hvy72 => ?_)
    obtain ⟨⟨rvy72, hcvy72, hovy72, hnvy72, hyvy72⟩, hfvy72⟩ := hvy72
    have hkvy72 := hovy72.1
    refine z_iload_n C 3 dX10_drops_25 rfl ?_
    refine z_iconst (z := 3) C dX10_drops_26 rfl ?_
    refine z_icmp_ne (tgt := 47) C dX10_drops_27 (by decide) (by omega) (by omega) (fun hby73 => ?_) (fun hby73 => ?_)
    · refine z_iload_n C 3 dX10_drops_47 rfl ?_
      refine z_iconst (z := 2) C dX10_drops_48 rfl ?_
      refine z_icmp_eq (tgt := 53) C dX10_drops_49 (by decide) (by omega) (by omega) (fun hby74 => ?_) (fun hby74 => ?_)
      · refine z_aload_n C 0 dX10_drops_53 rfl ?_
        refine z_iload_n C 1 dX10_drops_54 rfl ?_
        refine z_iload_n C 2 dX10_drops_55 rfl ?_
        have hgy75 := (hfvy72 (i) (ne_o (i := i) (c := 0) (d := 1) rfl)).trans hg
        refine z_cV (As := [.int (zI ((b : Int))), .int (zI ((s : Int)))]) (rest := []) (ci := 12) C (c_X10_many l D A cs tt N ad _ i hN _ hgy75 _ hcvy72 b s p hp (by omega) (by omega)) (lt_A0 hN rfl) hay1 hgy75 rfl rfl mv_yX10_many q_1733 hd_yX10_many (by decide) (Nat.le_of_ble_eq_true rfl) (by decide) dX10_drops_56 rfl (kI0 fun vy76 gvy76 hvy76 => ?_)
        obtain ⟨rfl, rfl⟩ := hvy76
        refine z_if_ne (tgt := 73) C dX10_drops_59 (by decide) (by omega) (fun hby77 => ?_) (fun hby77 => ?_)
        · refine z_aload_n C 0 dX10_drops_73 rfl ?_
          refine z_get (v := .ref (ad (i + 1))) C (lt_A0 hN rfl) hay1 hgy75 rfl inA_X10 0 (by decide) q_1459 rfl rfl dX10_drops_74 ?_
          refine z_iload_n C 1 dX10_drops_77 rfl ?_
          refine z_iload_n C 2 dX10_drops_78 rfl ?_
          refine z_aload_n C 0 dX10_drops_79 rfl ?_
          refine z_iload_n C 1 dX10_drops_80 rfl ?_
          refine z_iload_n C 2 dX10_drops_81 rfl ?_
          refine z_cV (As := [.int (zI ((b : Int))), .int (zI ((s : Int)))]) (rest := [.int (zI ((s : Int))), .int (zI ((b : Int))), .ref (ad (i + 1))]) (ci := 12) C (c_X10_many l D A cs tt N ad _ i hN _ hgy75 _ hcvy72 b s p hp (by omega) (by omega)) (lt_A0 hN rfl) hay1 hgy75 rfl rfl mv_yX10_many q_1733 hd_yX10_many (by decide) (Nat.le_of_ble_eq_true rfl) (by decide) dX10_drops_82 rfl (kI0 fun vy78 gvy78 hvy78 => ?_)
          obtain ⟨rfl, rfl⟩ := hvy78
          refine z_iconst (z := 1) C dX10_drops_85 rfl ?_
          refine z_isub C dX10_drops_86 ?_
          obtain ⟨ky79, hky79⟩ : ∃ k9 : Nat, ((rvy72 (p)) - 1) = (k9 : Int) := ⟨(((rvy72 (p)) - 1) : Int).toNat, by omega⟩
          obtain ⟨qy80, hqy80⟩ : ∃ q9 : Nat, p + 2 + 7 * ky79 = q9 := ⟨_, rfl⟩
          obtain ⟨⟨hKzy81, hIzy81, hWzy81, hDzy81, hTzy81, hnzy81⟩, hmzy81, hdzy81⟩ := okS.layer hovy72 (k := ky79) (by omega) hqy80
          refine z_cS (As := [.int (zI ((b : Int))), .int (zI ((s : Int))), .int (zI ((rvy72 (p)) - 1))]) (rest := [.ref (ad (i + 1))]) C (c_X10_at l D A cs tt N ad _ ((b : Int)) (by omega) ((s : Int)) (by omega) ((rvy72 (p)) - 1) (by omega)) ms_yX10_at q_1753 hd_yX10_at (by decide) (Nat.le_of_ble_eq_true rfl) (by decide) dX10_drops_87 rfl (kI0 fun vy82 gvy82 hvy82 => ?_)
          obtain ⟨hvy82, rfl⟩ := hvy82
          rw [show vy82 = (qy80 : Int) by omega]
          refine z_iconst (z := 2) C dX10_drops_90 rfl ?_
          refine z_iadd C dX10_drops_91 ?_
          refine z_dup2 C dX10_drops_92 rfl rfl ?_
          refine z_iald C (lt_A (c := 1) hN rfl) hay2 hcvy72 (qy80 + 2) (by omega) (by omega) (by decide) dX10_drops_93 ?_
          refine z_iload C 4 dX10_drops_94 rfl ?_
          refine z_iadd C dX10_drops_96 ?_
          refine z_iast C (lt_A (c := 1) hN rfl) hay2 hcvy72 (qy80 + 2) (by omega) (by omega) (by decide) dX10_drops_97 (fun gy83 egy84 => ?_)
          have hgy85 := up_s egy84
          obtain ⟨ry86, hvy87⟩ : ∃ rZ9 : Nat → Int, rZ9 = uZ rvy72 (qy80 + 2) ((rvy72 (qy80 + 2)) + z2) := ⟨_, rfl⟩
          rw [← hvy87] at hgy85
          omega
        · refine z_aload_n C 0 dX10_drops_62 rfl ?_
          refine z_iload_n C 1 dX10_drops_63 rfl ?_
          refine z_iload_n C 2 dX10_drops_64 rfl ?_
          refine z_iload C 4 dX10_drops_65 rfl ?_
          refine z_cV (As := [.int (zI ((b : Int))), .int (zI ((s : Int))), .int (zI (z2))]) (rest := []) (ci := 12) C (c_X10_runsOff l D A cs tt N ad _ i hN _ hgy75 _ hcvy72 b s p hp (by omega) (by omega) (z2)) (lt_A0 hN rfl) hay1 hgy75 rfl rfl mv_yX10_runsOff q_1912 hd_yX10_runsOff (by decide) (Nat.le_of_ble_eq_true rfl) (by decide) dX10_drops_67 rfl (kV0 fun gvy88 hvy88 => ?_)
          obtain ⟨hcvy88, hfvy88⟩ := hvy88
          obtain ⟨ry89, hvy90⟩ : ∃ rZ9 : Nat → Int, rZ9 = uZ rvy72 (p + 1) (rvy72 (p + 1) + (z2)) := ⟨_, rfl⟩
          rw [← hvy90] at hcvy88
          refine z_goto (tgt := 98) C dX10_drops_70 (by decide) ?_
          omega
      · exact z_vret C hr hlk dX10_drops_52 (by decide) (by decide) ⟨rfl, rfl, rfl, ⟨_, hcvy72, hovy72.mono (by omega) (by omega), by omega, hyvy72⟩, fun j j1 => by rw [hfvy72 _ (by omega)]⟩
    · refine z_iload C 5 dX10_drops_30 rfl ?_
      refine z_if_ge (tgt := 47) C dX10_drops_32 (by decide) (by omega) (fun hby91 => ?_) (fun hby91 => ?_)
      · refine z_iload_n C 3 dX10_drops_47 rfl ?_
        refine z_iconst (z := 2) C dX10_drops_48 rfl ?_
        refine z_icmp_eq (tgt := 53) C dX10_drops_49 (by decide) (by omega) (by omega) (fun hby92 => ?_) (fun hby92 => ?_)
        · refine z_aload_n C 0 dX10_drops_53 rfl ?_
          refine z_iload_n C 1 dX10_drops_54 rfl ?_
          refine z_iload_n C 2 dX10_drops_55 rfl ?_
          have hgy93 := (hfvy72 (i) (ne_o (i := i) (c := 0) (d := 1) rfl)).trans hg
          refine z_cV (As := [.int (zI ((b : Int))), .int (zI ((s : Int)))]) (rest := []) (ci := 12) C (c_X10_many l D A cs tt N ad _ i hN _ hgy93 _ hcvy72 b s p hp (by omega) (by omega)) (lt_A0 hN rfl) hay1 hgy93 rfl rfl mv_yX10_many q_1733 hd_yX10_many (by decide) (Nat.le_of_ble_eq_true rfl) (by decide) dX10_drops_56 rfl (kI0 fun vy94 gvy94 hvy94 => ?_)
          obtain ⟨rfl, rfl⟩ := hvy94
          refine z_if_ne (tgt := 73) C dX10_drops_59 (by decide) (by omega) (fun hby95 => ?_) (fun hby95 => ?_)
          · refine z_aload_n C 0 dX10_drops_73 rfl ?_
            refine z_get (v := .ref (ad (i + 1))) C (lt_A0 hN rfl) hay1 hgy93 rfl inA_X10 0 (by decide) q_1459 rfl rfl dX10_drops_74 ?_
            refine z_iload_n C 1 dX10_drops_77 rfl ?_
            refine z_iload_n C 2 dX10_drops_78 rfl ?_
            refine z_aload_n C 0 dX10_drops_79 rfl ?_
            refine z_iload_n C 1 dX10_drops_80 rfl ?_
            refine z_iload_n C 2 dX10_drops_81 rfl ?_
            refine z_cV (As := [.int (zI ((b : Int))), .int (zI ((s : Int)))]) (rest := [.int (zI ((s : Int))), .int (zI ((b : Int))), .ref (ad (i + 1))]) (ci := 12) C (c_X10_many l D A cs tt N ad _ i hN _ hgy93 _ hcvy72 b s p hp (by omega) (by omega)) (lt_A0 hN rfl) hay1 hgy93 rfl rfl mv_yX10_many q_1733 hd_yX10_many (by decide) (Nat.le_of_ble_eq_true rfl) (by decide) dX10_drops_82 rfl (kI0 fun vy96 gvy96 hvy96 => ?_)
            obtain ⟨rfl, rfl⟩ := hvy96
            refine z_iconst (z := 1) C dX10_drops_85 rfl ?_
            refine z_isub C dX10_drops_86 ?_
            obtain ⟨ky97, hky97⟩ : ∃ k9 : Nat, ((rvy72 (p)) - 1) = (k9 : Int) := ⟨(((rvy72 (p)) - 1) : Int).toNat, by omega⟩
            obtain ⟨qy98, hqy98⟩ : ∃ q9 : Nat, p + 2 + 7 * ky97 = q9 := ⟨_, rfl⟩
            obtain ⟨⟨hKzy99, hIzy99, hWzy99, hDzy99, hTzy99, hnzy99⟩, hmzy99, hdzy99⟩ := okS.layer hovy72 (k := ky97) (by omega) hqy98
            refine z_cS (As := [.int (zI ((b : Int))), .int (zI ((s : Int))), .int (zI ((rvy72 (p)) - 1))]) (rest := [.ref (ad (i + 1))]) C (c_X10_at l D A cs tt N ad _ ((b : Int)) (by omega) ((s : Int)) (by omega) ((rvy72 (p)) - 1) (by omega)) ms_yX10_at q_1753 hd_yX10_at (by decide) (Nat.le_of_ble_eq_true rfl) (by decide) dX10_drops_87 rfl (kI0 fun vy100 gvy100 hvy100 => ?_)
            obtain ⟨hvy100, rfl⟩ := hvy100
            rw [show vy100 = (qy98 : Int) by omega]
            refine z_iconst (z := 2) C dX10_drops_90 rfl ?_
            refine z_iadd C dX10_drops_91 ?_
            refine z_dup2 C dX10_drops_92 rfl rfl ?_
            refine z_iald C (lt_A (c := 1) hN rfl) hay2 hcvy72 (qy98 + 2) (by omega) (by omega) (by decide) dX10_drops_93 ?_
            refine z_iload C 4 dX10_drops_94 rfl ?_
            refine z_iadd C dX10_drops_96 ?_
            refine z_iast C (lt_A (c := 1) hN rfl) hay2 hcvy72 (qy98 + 2) (by omega) (by omega) (by decide) dX10_drops_97 (fun gy101 egy102 => ?_)
            have hgy103 := up_s egy102
            obtain ⟨ry104, hvy105⟩ : ∃ rZ9 : Nat → Int, rZ9 = uZ rvy72 (qy98 + 2) ((rvy72 (qy98 + 2)) + z2) := ⟨_, rfl⟩
            rw [← hvy105] at hgy103
            omega
          · refine z_aload_n C 0 dX10_drops_62 rfl ?_
            refine z_iload_n C 1 dX10_drops_63 rfl ?_
            refine z_iload_n C 2 dX10_drops_64 rfl ?_
            refine z_iload C 4 dX10_drops_65 rfl ?_
            refine z_cV (As := [.int (zI ((b : Int))), .int (zI ((s : Int))), .int (zI (z2))]) (rest := []) (ci := 12) C (c_X10_runsOff l D A cs tt N ad _ i hN _ hgy93 _ hcvy72 b s p hp (by omega) (by omega) (z2)) (lt_A0 hN rfl) hay1 hgy93 rfl rfl mv_yX10_runsOff q_1912 hd_yX10_runsOff (by decide) (Nat.le_of_ble_eq_true rfl) (by decide) dX10_drops_67 rfl (kV0 fun gvy106 hvy106 => ?_)
            obtain ⟨hcvy106, hfvy106⟩ := hvy106
            obtain ⟨ry107, hvy108⟩ : ∃ rZ9 : Nat → Int, rZ9 = uZ rvy72 (p + 1) (rvy72 (p + 1) + (z2)) := ⟨_, rfl⟩
            rw [← hvy108] at hcvy106
            refine z_goto (tgt := 98) C dX10_drops_70 (by decide) ?_
            omega
        · exact z_vret C hr hlk dX10_drops_52 (by decide) (by decide) ⟨rfl, rfl, rfl, ⟨_, hcvy72, hovy72.mono (by omega) (by omega), by omega, hyvy72⟩, fun j j1 => by rw [hfvy72 _ (by omega)]⟩
      · refine z_aload_n C 0 dX10_drops_35 rfl ?_
        refine z_iload_n C 1 dX10_drops_36 rfl ?_
        refine z_iload_n C 2 dX10_drops_37 rfl ?_
        refine z_iconst (z := 4) C dX10_drops_38 rfl ?_
        refine z_iconst (z := 1) C dX10_drops_39 rfl ?_
        refine z_bipush (z := 10) C dX10_drops_40 (by decide) ?_
        refine z_iload C 5 dX10_drops_42 rfl ?_
        omega

/-- what hours lean on beside the rows -/
def okEnv (F op ai fa mu tb : Nat → Int) : Prop := ((0 ≤ F 13 ∧ F 13 ≤ 4) ∧ (0 ≤ F 14 ∧ F 14 ≤ 24) ∧ (0 ≤ F 25 ∧ F 25 ≤ 50) ∧ ((0 ≤ F 28 ∧ F 28 ≤ 50) ∧ (-1 ≤ F 27 ∧ F 27 ≤ 23) ∧ (F 27 = -1 ∨ 1 ≤ F 28)) ∧ (0 ≤ F 29 ∧ F 29 ≤ 1)) ∧ (∀ k, k < 4 → 0 ≤ op k ∧ op k ≤ 20) ∧ (∀ k, k < 24 → -300 ≤ ai k ∧ ai k ≤ 100) ∧ (∀ k, k < 24 → (0 ≤ fa k ∧ fa k ≤ 3) ∧ (0 ≤ mu k ∧ mu k ≤ 50) ∧ (fa k = 1 ∨ fa k = 2 → 1 ≤ mu k)) ∧ (∀ k, k < 15 → 0 ≤ tb k ∧ tb k ≤ 9999) ∧ (∀ k, 10 ≤ k → k < 15 → 1 ≤ tb k)

set_option maxRecDepth 100000 in
set_option maxHeartbeats 4000000 in
theorem c_X10_hourOf (l : Launch) (D : va_G) (A : Nat → Prop) (cs : Nat → ClassId) (tt : Nat) (N : Nat) (ad : Nat → Nat) (g : Nat → va_E) (i : Nat) (hN : i + 30 ≤ N) (F : Nat → Int) (hg : g i = mC ad i F) (r : Nat → Int) (ha1 : g (i + 1) = iA cs 29200 r) (b : Nat) (hb : b + 350 ≤ 29200) (htm : 0 ≤ r b ∧ r b ≤ 2180) (e14 : 0 ≤ F 14 ∧ F 14 ≤ 24) : zM l yX10_hourOf cX10_hourOf 2 (some .int) ({ frames := 1, cells := 0, slots := 0, locals := 60 } : Room) D A cs tt N ad g [.ref (ad i), .int (zI ((b : Int)))] (rI0 N ad fun z g' => ((F 14 = 0 ∧ z = -1) ∨ (0 ≤ z ∧ z < F 14)) ∧ g = g') := by
  have hay1 : zAt ad (i) (ad i) := rfl
  have hay2 : zAt ad (i + 1) (ad (i + 1)) := rfl
  refine z_of (by decide) (Nat.le_of_ble_eq_true rfl) ?_
  intro pZ eZ sZ mZ below meth cZ C hr hlk hnm
  refine z_lv (lv' := [(0, .ref (ad i)), (1, .int (zI ((b : Int))))]) [0, 1] rfl ?_
  refine z_aload_n C 0 dX10_hourOf_0 rfl ?_
  refine z_get (v := .int (zI (F 14))) C (lt_A0 hN rfl) hay1 hg rfl inA_X10 14 (by decide) q_1473 rfl (fv (F := F) (f := 14) rfl) dX10_hourOf_1 ?_
  refine z_if_ne (tgt := 11) C dX10_hourOf_4 (by decide) (by omega) (fun hby3 => ?_) (fun hby3 => ?_)
  · refine z_aload_n C 0 dX10_hourOf_11 rfl ?_
    refine z_get (v := .ref (ad (i + 1))) C (lt_A0 hN rfl) hay1 hg rfl inA_X10 0 (by decide) q_1459 rfl rfl dX10_hourOf_12 ?_
    refine z_iload_n C 1 dX10_hourOf_15 rfl ?_
    refine z_iconst (z := 0) C dX10_hourOf_16 rfl ?_
    refine z_iadd C dX10_hourOf_17 ?_
    refine z_iald C (lt_A (c := 1) hN rfl) hay2 ha1 (b) (by omega) (by omega) (by decide) dX10_hourOf_18 ?_
    refine z_aload_n C 0 dX10_hourOf_19 rfl ?_
    refine z_get (v := .int (zI (F 14))) C (lt_A0 hN rfl) hay1 hg rfl inA_X10 14 (by decide) q_1473 rfl (fv (F := F) (f := 14) rfl) dX10_hourOf_20 ?_
    refine z_irem C dX10_hourOf_23 (by omega) (by omega) (by omega) ?_
    obtain ⟨xy4, exy4, hxy4⟩ := tmd (a := r (b)) (k := F 14) (by omega) (by omega)
    rw [exy4]
    exact z_iret C hr hlk dX10_hourOf_24 (by decide) (by decide) ⟨xy4, rfl, rfl, rfl, by omega, rfl⟩
  · refine z_iconst (z := -1) C dX10_hourOf_7 rfl ?_
    refine z_goto (tgt := 24) C dX10_hourOf_8 (by decide) ?_
    exact z_iret C hr hlk dX10_hourOf_24 (by decide) (by decide) ⟨-1, rfl, rfl, rfl, by omega, rfl⟩

set_option maxRecDepth 100000 in
set_option maxHeartbeats 4000000 in
theorem c_X10_airOf (l : Launch) (D : va_G) (A : Nat → Prop) (cs : Nat → ClassId) (tt : Nat) (N : Nat) (ad : Nat → Nat) (g : Nat → va_E) (i : Nat) (hN : i + 30 ≤ N) (F : Nat → Int) (hg : g i = mC ad i F) (r : Nat → Int) (ha1 : g (i + 1) = iA cs 29200 r) (ai : Nat → Int) (ha4 : g (i + 4) = iA cs 24 ai) (b : Nat) (hb : b + 350 ≤ 29200) (htm : 0 ≤ r b ∧ r b ≤ 2180) (e14 : 0 ≤ F 14 ∧ F 14 ≤ 24) (e25 : 0 ≤ F 25 ∧ F 25 ≤ 50) (hai : ∀ k, k < 24 → -300 ≤ ai k ∧ ai k ≤ 100) : zM l yX10_airOf cX10_airOf 3 (some .int) ({ frames := 2, cells := 0, slots := 0, locals := 120 } : Room) D A cs tt N ad g [.ref (ad i), .int (zI ((b : Int)))] (rI0 N ad fun z g' => (-300 ≤ z ∧ z ≤ 100) ∧ g = g') := by
  have hay1 : zAt ad (i) (ad i) := rfl
  have hay2 : zAt ad (i + 1) (ad (i + 1)) := rfl
  have hay3 : zAt ad (i + 4) (ad (i + 4)) := rfl
  refine z_of (by decide) (Nat.le_of_ble_eq_true rfl) ?_
  intro pZ eZ sZ mZ below meth cZ C hr hlk hnm
  refine z_lv (lv' := [(0, .ref (ad i)), (1, .int (zI ((b : Int))))]) [0, 1] rfl ?_
  refine z_aload_n C 0 dX10_airOf_0 rfl ?_
  refine z_iload_n C 1 dX10_airOf_1 rfl ?_
  refine z_cV (As := [.int (zI ((b : Int)))]) (rest := []) (ci := 12) C (c_X10_hourOf l D A cs tt N ad _ i hN _ hg _ ha1  b (by omega) (by omega) e14) (lt_A0 hN rfl) hay1 hg rfl rfl mv_yX10_hourOf q_1831 hd_yX10_hourOf (by decide) (Nat.le_of_ble_eq_true rfl) (by decide) dX10_airOf_2 rfl (kI0 fun vy4 gvy4 hvy4 => ?_)
  obtain ⟨hvy4, rfl⟩ := hvy4
  refine z_istore_n (lv' := [(2, .int (zI (vy4))), (0, .ref (ad i)), (1, .int (zI ((b : Int))))]) C dX10_airOf_5 rfl (by decide) rfl ?_
  refine z_iload_n C 0 dX10_airOf_6 rfl ?_
  refine z_iconst (z := -1) C dX10_airOf_7 rfl ?_
  refine z_icmp_ne (tgt := 15) C dX10_airOf_8 (by decide) (by omega) (by omega) (fun hby5 => ?_) (fun hby5 => ?_)
  · refine z_aload_n C 1 dX10_airOf_15 rfl ?_
    refine z_get (v := .int (zI (F 25))) C (lt_A0 hN rfl) hay1 hg rfl inA_X10 25 (by decide) q_1484 rfl (fv (F := F) (f := 25) rfl) dX10_airOf_16 ?_
    refine z_if_ne (tgt := 31) C dX10_airOf_19 (by decide) (by omega) (fun hby6 => ?_) (fun hby6 => ?_)
    · refine z_bipush (z := 100) C dX10_airOf_31 (by decide) ?_
      refine z_aload_n C 1 dX10_airOf_33 rfl ?_
      refine z_get (v := .ref (ad (i + 4))) C (lt_A0 hN rfl) hay1 hg rfl inA_X10 3 (by decide) q_1462 rfl rfl dX10_airOf_34 ?_
      refine z_iload_n C 0 dX10_airOf_37 rfl ?_
      refine z_iald C (lt_A (c := 4) hN rfl) hay3 ha4 ((vy4).toNat) (by omega) (by omega) (by decide) dX10_airOf_38 ?_
      have hrfy7 := hai ((vy4).toNat) (by omega)
      refine z_aload_n C 1 dX10_airOf_39 rfl ?_
      refine z_get (v := .int (zI (F 25))) C (lt_A0 hN rfl) hay1 hg rfl inA_X10 25 (by decide) q_1484 rfl (fv (F := F) (f := 25) rfl) dX10_airOf_40 ?_
      refine z_iadd C dX10_airOf_43 ?_
      refine z_cS (As := [.int (zI (100)), .int (zI ((ai ((vy4).toNat)) + (F 25)))]) (rest := []) C (c_X10_lesser l D A cs tt N ad _ (100) (by omega) ((ai ((vy4).toNat)) + (F 25)) (by omega)) ms_yX10_lesser q_1792 hd_yX10_lesser (by decide) (Nat.le_of_ble_eq_true rfl) (by decide) dX10_airOf_44 rfl (kI0 fun vy8 gvy8 hvy8 => ?_)
      obtain ⟨hvy8, rfl⟩ := hvy8
      exact z_iret C hr hlk dX10_airOf_47 (by decide) (by decide) ⟨vy8, rfl, rfl, rfl, by omega, rfl⟩
    · refine z_aload_n C 1 dX10_airOf_22 rfl ?_
      refine z_get (v := .ref (ad (i + 4))) C (lt_A0 hN rfl) hay1 hg rfl inA_X10 3 (by decide) q_1462 rfl rfl dX10_airOf_23 ?_
      refine z_iload_n C 0 dX10_airOf_26 rfl ?_
      refine z_iald C (lt_A (c := 4) hN rfl) hay3 ha4 ((vy4).toNat) (by omega) (by omega) (by decide) dX10_airOf_27 ?_
      have hrfy9 := hai ((vy4).toNat) (by omega)
      refine z_goto (tgt := 47) C dX10_airOf_28 (by decide) ?_
      exact z_iret C hr hlk dX10_airOf_47 (by decide) (by decide) ⟨ai ((vy4).toNat), rfl, rfl, rfl, by omega, rfl⟩
  · refine z_iconst (z := 0) C dX10_airOf_11 rfl ?_
    refine z_goto (tgt := 47) C dX10_airOf_12 (by decide) ?_
    exact z_iret C hr hlk dX10_airOf_47 (by decide) (by decide) ⟨0, rfl, rfl, rfl, by omega, rfl⟩

set_option maxRecDepth 100000 in
set_option maxHeartbeats 4000000 in
theorem c_X10_fallsNow (l : Launch) (D : va_G) (A : Nat → Prop) (cs : Nat → ClassId) (tt : Nat) (N : Nat) (ad : Nat → Nat) (g : Nat → va_E) (i : Nat) (hN : i + 30 ≤ N) (F : Nat → Int) (hg : g i = mC ad i F) (r : Nat → Int) (ha1 : g (i + 1) = iA cs 29200 r) (fa : Nat → Int) (ha5 : g (i + 5) = iA cs 24 fa) (mu : Nat → Int) (ha6 : g (i + 6) = iA cs 24 mu) (b s p : Nat) (hp : b + 6 + 86 * s = p) (hb : b + 350 ≤ 29200) (hs : s < 4) (hnm : 0 ≤ r (b + 1) ∧ r (b + 1) ≤ 20000) (M E : Int) (hM : M ≤ 138500) (hE : E ≤ 400000000) (ho : okS r p M E) (hM2 : M + 50 ≤ 138500) (hE2 : E + 500 ≤ 400000000) (htm : 0 ≤ r b ∧ r b ≤ 2180) (e14 : 0 ≤ F 14 ∧ F 14 ≤ 24) (e27 : (0 ≤ F 28 ∧ F 28 ≤ 50) ∧ (-1 ≤ F 27 ∧ F 27 ≤ 23) ∧ (F 27 = -1 ∨ 1 ≤ F 28)) (e29 : 0 ≤ F 29 ∧ F 29 ≤ 1) (hfa : ∀ k, k < 24 → (0 ≤ fa k ∧ fa k ≤ 3) ∧ (0 ≤ mu k ∧ mu k ≤ 50) ∧ (fa k = 1 ∨ fa k = 2 → 1 ≤ mu k)) (z1 : Int) (hz1 : -300 ≤ z1 ∧ z1 ≤ 100) : zM l yX10_fallsNow cX10_fallsNow 5 none ({ frames := 6, cells := 0, slots := 0, locals := 360 } : Room) D A cs tt N ad g [.ref (ad i), .int (zI ((b : Int))), .int (zI ((s : Int))), .int (zI (z1))] (rV0 N ad fun g' => (∃ r' : Nat → Int, g' (i + 1) = iA cs 29200 r' ∧ okS r' p (M + 50) (E + 500) ∧ (r (b + 1) ≤ r' (b + 1) ∧ r' (b + 1) ≤ r (b + 1) + 1) ∧ (∀ j, j < p ∨ p + 86 ≤ j → j ≠ b + 1 → r' j = r j)) ∧ ∀ j, j ≠ i + 1 → g' j = g j) := by
  have hay1 : zAt ad (i) (ad i) := rfl
  have hay2 : zAt ad (i + 1) (ad (i + 1)) := rfl
  have hay3 : zAt ad (i + 5) (ad (i + 5)) := rfl
  have hay4 : zAt ad (i + 6) (ad (i + 6)) := rfl
  have hmky5 := ho.1
  refine z_of (by decide) (Nat.le_of_ble_eq_true rfl) ?_
  intro pZ eZ sZ mZ below meth cZ C hr hlk hnm
  refine z_lv (lv' := [(0, .ref (ad i)), (1, .int (zI ((b : Int)))), (2, .int (zI ((s : Int)))), (3, .int (zI (z1)))]) [0, 1, 2, 3] rfl ?_
  refine z_aload_n C 0 dX10_fallsNow_0 rfl ?_
  refine z_iload_n C 1 dX10_fallsNow_1 rfl ?_
  refine z_cV (As := [.int (zI ((b : Int)))]) (rest := []) (ci := 12) C (c_X10_hourOf l D A cs tt N ad _ i hN _ hg _ ha1  b (by omega) (by omega) e14) (lt_A0 hN rfl) hay1 hg rfl rfl mv_yX10_hourOf q_1831 hd_yX10_hourOf (by decide) (Nat.le_of_ble_eq_true rfl) (by decide) dX10_fallsNow_2 rfl (kI0 fun vy6 gvy6 hvy6 => ?_)
  obtain ⟨hvy6, rfl⟩ := hvy6
  refine z_istore (lv' := [(4, .int (zI (vy6))), (0, .ref (ad i)), (1, .int (zI ((b : Int)))), (2, .int (zI ((s : Int)))), (3, .int (zI (z1)))]) C dX10_fallsNow_5 (by decide) rfl ?_
  refine z_iload C 0 dX10_fallsNow_7 rfl ?_
  refine z_iconst (z := -1) C dX10_fallsNow_9 rfl ?_
  refine z_icmp_eq (tgt := 29) C dX10_fallsNow_10 (by decide) (by omega) (by omega) (fun hby7 => ?_) (fun hby7 => ?_)
  · exact z_vret C hr hlk dX10_fallsNow_29 (by decide) (by decide) ⟨rfl, rfl, rfl, ⟨_, ha1, ho.mono (by omega) (by omega), by omega, fun j _ _ => rfl⟩, fun j j1 => by rfl⟩
  · refine z_iload C 0 dX10_fallsNow_13 rfl ?_
    refine z_aload_n C 1 dX10_fallsNow_15 rfl ?_
    refine z_get (v := .int (zI (F 26))) C (lt_A0 hN rfl) hay1 hg rfl inA_X10 26 (by decide) q_1485 rfl (fv (F := F) (f := 26) rfl) dX10_fallsNow_16 ?_
    obtain ⟨xy8, exy9, hxy10⟩ := zI_of (zI (F 26))
    rw [exy9]
    refine z_icmp_eq (tgt := 29) C dX10_fallsNow_19 (by decide) (by omega) (by omega) (fun hby11 => ?_) (fun hby11 => ?_)
    · exact z_vret C hr hlk dX10_fallsNow_29 (by decide) (by decide) ⟨rfl, rfl, rfl, ⟨_, ha1, ho.mono (by omega) (by omega), by omega, fun j _ _ => rfl⟩, fun j j1 => by rfl⟩
    · refine z_aload_n C 1 dX10_fallsNow_22 rfl ?_
      refine z_get (v := .int (zI (F 29))) C (lt_A0 hN rfl) hay1 hg rfl inA_X10 29 (by decide) q_1488 rfl (fv (F := F) (f := 29) rfl) dX10_fallsNow_23 ?_
      refine z_if_eq (tgt := 30) C dX10_fallsNow_26 (by decide) (by omega) (fun hby12 => ?_) (fun hby12 => ?_)
      · refine z_aload_n C 1 dX10_fallsNow_30 rfl ?_
        refine z_iload_n C 2 dX10_fallsNow_31 rfl ?_
        refine z_iload_n C 3 dX10_fallsNow_32 rfl ?_
        refine z_aload_n C 1 dX10_fallsNow_33 rfl ?_
        refine z_get (v := .ref (ad (i + 5))) C (lt_A0 hN rfl) hay1 hg rfl inA_X10 4 (by decide) q_1463 rfl rfl dX10_fallsNow_34 ?_
        refine z_iload C 0 dX10_fallsNow_37 rfl ?_
        refine z_iald C (lt_A (c := 5) hN rfl) hay3 ha5 ((vy6).toNat) (by omega) (by omega) (by decide) dX10_fallsNow_39 ?_
        have hfmy13 := hfa ((vy6).toNat) (by omega)
        refine z_iload C 0 dX10_fallsNow_40 rfl ?_
        refine z_aload_n C 1 dX10_fallsNow_42 rfl ?_
        refine z_get (v := .int (zI (F 27))) C (lt_A0 hN rfl) hay1 hg rfl inA_X10 27 (by decide) q_1486 rfl (fv (F := F) (f := 27) rfl) dX10_fallsNow_43 ?_
        refine z_icmp_ne (tgt := 56) C dX10_fallsNow_46 (by decide) (by omega) (by omega) (fun hby14 => ?_) (fun hby14 => ?_)
        · refine z_aload_n C 1 dX10_fallsNow_56 rfl ?_
          refine z_get (v := .ref (ad (i + 6))) C (lt_A0 hN rfl) hay1 hg rfl inA_X10 5 (by decide) q_1464 rfl rfl dX10_fallsNow_57 ?_
          refine z_iload C 0 dX10_fallsNow_60 rfl ?_
          refine z_iald C (lt_A (c := 6) hN rfl) hay4 ha6 ((vy6).toNat) (by omega) (by omega) (by decide) dX10_fallsNow_62 ?_
          have hfmy15 := hfa ((vy6).toNat) (by omega)
          refine z_iload_n C 4 dX10_fallsNow_63 rfl ?_
          refine z_cV (As := [.int (zI ((b : Int))), .int (zI ((s : Int))), .int (zI (fa ((vy6).toNat))), .int (zI (mu ((vy6).toNat))), .int (zI (z1))]) (rest := []) (ci := 12) C (c_X10_drops l D A cs tt N ad _ i hN _ hg _ ha1  b s p hp (by omega) (by omega) (by omega) (M) (E) (by omega) (by omega) ho (by omega) (by omega) (fa ((vy6).toNat)) (by omega) (mu ((vy6).toNat)) (by omega) (z1) (by omega)) (lt_A0 hN rfl) hay1 hg rfl rfl mv_yX10_drops q_1893 hd_yX10_drops (by decide) (Nat.le_of_ble_eq_true rfl) (by decide) dX10_fallsNow_64 rfl (kV0 fun gvy16 hvy16 => ?_)
          obtain ⟨⟨rvy16, hcvy16, hovy16, hnvy16, hyvy16⟩, hfvy16⟩ := hvy16
          have hkvy16 := hovy16.1
          exact z_vret C hr hlk dX10_fallsNow_67 (by decide) (by decide) ⟨rfl, rfl, rfl, ⟨_, hcvy16, hovy16, hnvy16, hyvy16⟩, fun j j1 => by rw [hfvy16 _ (by omega)]⟩
        · refine z_aload_n C 1 dX10_fallsNow_49 rfl ?_
          refine z_get (v := .int (zI (F 28))) C (lt_A0 hN rfl) hay1 hg rfl inA_X10 28 (by decide) q_1487 rfl (fv (F := F) (f := 28) rfl) dX10_fallsNow_50 ?_
          refine z_goto (tgt := 63) C dX10_fallsNow_53 (by decide) ?_
          refine z_iload_n C 4 dX10_fallsNow_63 rfl ?_
          refine z_cV (As := [.int (zI ((b : Int))), .int (zI ((s : Int))), .int (zI (fa ((vy6).toNat))), .int (zI (F 28)), .int (zI (z1))]) (rest := []) (ci := 12) C (c_X10_drops l D A cs tt N ad _ i hN _ hg _ ha1  b s p hp (by omega) (by omega) (by omega) (M) (E) (by omega) (by omega) ho (by omega) (by omega) (fa ((vy6).toNat)) (by omega) (F 28) (by omega) (z1) (by omega)) (lt_A0 hN rfl) hay1 hg rfl rfl mv_yX10_drops q_1893 hd_yX10_drops (by decide) (Nat.le_of_ble_eq_true rfl) (by decide) dX10_fallsNow_64 rfl (kV0 fun gvy17 hvy17 => ?_)
          obtain ⟨⟨rvy17, hcvy17, hovy17, hnvy17, hyvy17⟩, hfvy17⟩ := hvy17
          have hkvy17 := hovy17.1
          exact z_vret C hr hlk dX10_fallsNow_67 (by decide) (by decide) ⟨rfl, rfl, rfl, ⟨_, hcvy17, hovy17, hnvy17, hyvy17⟩, fun j j1 => by rw [hfvy17 _ (by omega)]⟩
      · exact z_vret C hr hlk dX10_fallsNow_29 (by decide) (by decide) ⟨rfl, rfl, rfl, ⟨_, ha1, ho.mono (by omega) (by omega), by omega, fun j _ _ => rfl⟩, fun j j1 => by rfl⟩

theorem okS.of {r : Nat → Int} {p p2 : Nat} {M E : Int} (h : okS r p M E) (e : p = p2) : okS r p2 M E := by subst e; exact h

set_option maxRecDepth 100000 in
set_option maxHeartbeats 4000000 in
theorem c_X10_hour (l : Launch) (D : va_G) (A : Nat → Prop) (cs : Nat → ClassId) (tt : Nat) (N : Nat) (ad : Nat → Nat) (g : Nat → va_E) (i : Nat) (hN : i + 30 ≤ N) (F : Nat → Int) (hg : g i = mC ad i F) (r : Nat → Int) (ha1 : g (i + 1) = iA cs 29200 r) (op : Nat → Int) (ha3 : g (i + 3) = iA cs 4 op) (ai : Nat → Int) (ha4 : g (i + 4) = iA cs 24 ai) (fa : Nat → Int) (ha5 : g (i + 5) = iA cs 24 fa) (mu : Nat → Int) (ha6 : g (i + 6) = iA cs 24 mu) (tb : Nat → Int) (ha7 : g (i + 7) = iA cs 15 tb) (te : Nat → Int) (ha14 : g (i + 14) = iA cs 14 te) (ki : Nat → Int) (ha15 : g (i + 15) = iA cs 12 ki) (b : Nat) (hb : b + 350 ≤ 29200) (hEv : okEnv F op ai fa mu tb) (x : Int) (hx : 0 ≤ x) (hW : okW r b x) (hx2 : r b + x + 1 ≤ 2722) (hx3 : r b ≤ 2179) : zM l yX10_hour cX10_hour 4 none ({ frames := 8, cells := 0, slots := 0, locals := 480 } : Room) D A cs tt N ad g [.ref (ad i), .int (zI ((b : Int)))] (rV0 N ad fun g' => (∃ r' : Nat → Int, g' (i + 1) = iA cs 29200 r' ∧ okW r' b x ∧ r' b = r b + 1 ∧ ∀ j, j < b ∨ b + 350 ≤ j → r' j = r j) ∧ (∃ t' : Nat → Int, g' (i + 14) = iA cs 14 t') ∧ (∃ t' : Nat → Int, g' (i + 15) = iA cs 12 t') ∧ ∀ j, j ≠ i + 1 → j ≠ i + 14 → j ≠ i + 15 → g' j = g j) := by
  have hay1 : zAt ad (i) (ad i) := rfl
  have hay2 : zAt ad (i + 1) (ad (i + 1)) := rfl
  have hay3 : zAt ad (i + 3) (ad (i + 3)) := rfl
  have hay4 : zAt ad (i + 4) (ad (i + 4)) := rfl
  have hay5 : zAt ad (i + 5) (ad (i + 5)) := rfl
  have hay6 : zAt ad (i + 6) (ad (i + 6)) := rfl
  have hay7 : zAt ad (i + 7) (ad (i + 7)) := rfl
  have hay8 : zAt ad (i + 14) (ad (i + 14)) := rfl
  have hay9 : zAt ad (i + 15) (ad (i + 15)) := rfl
  obtain ⟨⟨e13, e14, e25, e27, e29⟩, hop, hai, hfa, hT, hT1⟩ := id hEv
  obtain ⟨hW1, hW2, hW3, hW4⟩ := id hW
  have hMe : mB (r b + x) = 2400 + 50 * (r b + x) := rfl
  have hEe : eB (r b + x) = 12000 + 139000 * (r b + x) := rfl
  have hMf : mB (r b + 1 + x) = 2400 + 50 * (r b + 1 + x) := rfl
  have hEf : eB (r b + 1 + x) = 12000 + 139000 * (r b + 1 + x) := rfl
  refine z_of (by decide) (Nat.le_of_ble_eq_true rfl) ?_
  intro pZ eZ sZ mZ below meth cZ C hr hlk hnm
  refine z_lv (lv' := [(0, .ref (ad i)), (1, .int (zI ((b : Int))))]) [0, 1] rfl ?_
  have lp : ∀ (n9 : Nat) (z1 : Int) (ss : Int) (r9 : Nat → Int) (g1 : Nat → va_E), (5 - ss).toNat = n9 → (g1 (i + 1) = iA cs 29200 r9) → (∃ t' : Nat → Int, g1 (i + 14) = iA cs 14 t') → (∃ t' : Nat → Int, g1 (i + 15) = iA cs 12 t') → (∀ j, j ≠ i + 1 → j ≠ i + 14 → j ≠ i + 15 → g1 j = g j) → (∀ k : Nat, k < 4 → ((k : Int) < ss → okS r9 (b + 6 + 86 * k) (mB (r b + 1 + x)) (eB (r b + 1 + x))) ∧ (ss ≤ (k : Int) → okS r9 (b + 6 + 86 * k) (mB (r b + x)) (eB (r b + x)))) → (r9 b = r b) → (0 ≤ r9 (b + 1) ∧ r9 (b + 1) ≤ r (b + 1) + ss) → (r9 (b + 5) = r (b + 5)) → (∀ j, j < b ∨ b + 350 ≤ j → r9 j = r j) → (-300 ≤ z1 ∧ z1 ≤ 100) → (0 ≤ ss ∧ ss ≤ F 13) → zV pZ l eZ ({ frames := 8, cells := 0, slots := 0, locals := 480 } : Room) sZ mZ ([.ref (ad i), .int (zI ((b : Int)))] : List Value).toArray below meth cZ (MQ below (zPost D A (rV0 N ad fun g' => (∃ r' : Nat → Int, g' (i + 1) = iA cs 29200 r' ∧ okW r' b x ∧ r' b = r b + 1 ∧ ∀ j, j < b ∨ b + 350 ≤ j → r' j = r j) ∧ (∃ t' : Nat → Int, g' (i + 14) = iA cs 14 t') ∧ (∃ t' : Nat → Int, g' (i + 15) = iA cs 12 t') ∧ ∀ j, j ≠ i + 1 → j ≠ i + 14 → j ≠ i + 15 → g' j = g j)) ([.ref (ad i), .int (zI ((b : Int)))] : List Value).toArray sZ ({ frames := 8, cells := 0, slots := 0, locals := 480 } : Room).cells ({ frames := 8, cells := 0, slots := 0, locals := 480 } : Room).slots A) D A 4 (N) ad g1 (0) (0) 8 [(0, .ref (ad i)), (1, .int (zI ((b : Int)))), (2, .int (zI (z1))), (3, .int (zI (ss)))] [] := by
    intro n9
    induction n9 using Nat.strongRecOn with
    | ind n9 ih =>
      intro z1 ss r9 g1 hm9 f2 f9 f10 f3 f4 f5 f6 f7 f8 hz1 hv
      obtain ⟨te1, ft1⟩ := f9
      obtain ⟨ki1, ft2⟩ := f10
      have hay10 : zAt ad (i) (ad i) := rfl
      have hay11 : zAt ad (i + 1) (ad (i + 1)) := rfl
      have hay12 : zAt ad (i + 3) (ad (i + 3)) := rfl
      have hay13 : zAt ad (i + 4) (ad (i + 4)) := rfl
      have hay14 : zAt ad (i + 5) (ad (i + 5)) := rfl
      have hay15 : zAt ad (i + 6) (ad (i + 6)) := rfl
      have hay16 : zAt ad (i + 7) (ad (i + 7)) := rfl
      have hay17 : zAt ad (i + 14) (ad (i + 14)) := rfl
      have hay18 : zAt ad (i + 15) (ad (i + 15)) := rfl
      refine z_iload_n C 3 dX10_hour_8 rfl ?_
      refine z_aload_n C 0 dX10_hour_9 rfl ?_
      refine z_get (v := .int (zI (F 13))) C (lt_A0 hN rfl) hay10 ((f3 _ (by omega) (by omega) (by omega)).trans hg) rfl inA_X10 13 (by decide) q_1472 rfl (fv (F := F) (f := 13) rfl) dX10_hour_10 ?_
      refine z_icmp_ge (tgt := 61) C dX10_hour_13 (by decide) (by omega) (by omega) (fun hby19 => ?_) (fun hby19 => ?_)
      · refine z_aload_n C 0 dX10_hour_61 rfl ?_
        refine z_get (v := .ref (ad (i + 1))) C (lt_A0 hN rfl) hay10 ((f3 _ (by omega) (by omega) (by omega)).trans hg) rfl inA_X10 0 (by decide) q_1459 rfl rfl dX10_hour_62 ?_
        refine z_iload_n C 1 dX10_hour_65 rfl ?_
        refine z_iconst (z := 0) C dX10_hour_66 rfl ?_
        refine z_iadd C dX10_hour_67 ?_
        refine z_dup2 C dX10_hour_68 rfl rfl ?_
        refine z_iald C (lt_A (c := 1) hN rfl) hay11 f2 (b) (by omega) (by omega) (by decide) dX10_hour_69 ?_
        refine z_iconst (z := 1) C dX10_hour_70 rfl ?_
        refine z_iadd C dX10_hour_71 ?_
        refine z_iast C (lt_A (c := 1) hN rfl) hay11 f2 (b) (by omega) (by omega) (by decide) dX10_hour_72 (fun gy20 egy21 => ?_)
        have hgy22 := up_s egy21
        obtain ⟨ry23, hvy24⟩ : ∃ rZ9 : Nat → Int, rZ9 = uZ r9 (b) ((r9 (b)) + 1) := ⟨_, rfl⟩
        rw [← hvy24] at hgy22
        have hfry25 : ∀ j, j ≠ b → ry23 j = r9 j := fun j n0 => (congrFun hvy24 _).trans ((uZ_n _ _ n0).trans (rfl))
        have hwy26 : ry23 (b) = (r9 (b)) + 1 := (congrFun hvy24 _).trans (uZ_s _ _ _)
        have hb9 : ry23 b = r b + 1 := by omega
        have hok9 : okW ry23 b x := ⟨fun k hk => by rw [hb9]; exact (by by_cases e : (k : Int) < ss; exact ((f4 k hk).1 e).ext (fun j a1 a2 => hfry25 j (by omega)); exact (((f4 k hk).2 (by omega)).mono (by omega) (by omega)).ext (fun j a1 a2 => hfry25 j (by omega))), by omega, by rw [hfry25 (b + 1) (by omega), hb9]; omega, by rw [hfry25 (b + 5) (by omega), f7]; exact hW4⟩
        have hgy27 := up_n egy21 ft1 (ne_o (i := i) (c := 14) (d := 1) rfl)
        have hgy28 := up_n egy21 ft2 (ne_o (i := i) (c := 15) (d := 1) rfl)
        exact z_vret C hr hlk dX10_hour_73 (by decide) (by decide) ⟨rfl, rfl, rfl, ⟨_, hgy22, hok9, hb9, fun j a1 => (hfry25 j (by omega)).trans (f8 j a1)⟩, ⟨_, hgy27⟩, ⟨_, hgy28⟩, fun j j1 j2 j3 => by rw [egy21, va_up_ne _ _ (by omega)]; exact f3 j j1 j2 j3⟩
      · refine z_aload_n C 0 dX10_hour_16 rfl ?_
        refine z_iload_n C 1 dX10_hour_17 rfl ?_
        refine z_iload_n C 3 dX10_hour_18 rfl ?_
        refine z_iload_n C 2 dX10_hour_19 rfl ?_
        obtain ⟨ny29, hny29⟩ : ∃ n9 : Nat, ss = (n9 : Int) := ⟨(ss).toNat, by omega⟩
        rw [hny29]
        obtain ⟨py30, hpy30⟩ : ∃ p9 : Nat, b + 6 + 86 * ny29 = p9 := ⟨_, rfl⟩
        have hS0 := ((f4 ny29 (by omega)).2 (by omega)).of (p2 := py30) (by omega)
        refine z_cV (As := [.int (zI ((b : Int))), .int (zI ((ny29 : Int))), .int (zI (z1))]) (rest := []) (ci := 12) C (c_X10_fallsNow l D A cs tt N ad _ i hN _ ((f3 _ (by omega) (by omega) (by omega)).trans hg) _ f2 _ ((f3 _ (by omega) (by omega) (by omega)).trans ha5) _ ((f3 _ (by omega) (by omega) (by omega)).trans ha6) b ny29 py30 hpy30 (by omega) (by omega) (by omega) (mB (r b + x)) (eB (r b + x)) (by omega) (by omega) hS0 (by omega) (by omega) (by omega) e14 e27 e29 hfa (z1) (by omega)) (lt_A0 hN rfl) hay10 ((f3 _ (by omega) (by omega) (by omega)).trans hg) rfl rfl mv_yX10_fallsNow q_1889 hd_yX10_fallsNow (by decide) (Nat.le_of_ble_eq_true rfl) (by decide) dX10_hour_20 rfl (kV0 fun gvy31 hvy31 => ?_)
        obtain ⟨⟨rvy31, hcvy31, hovy31, hnvy31, hyvy31⟩, hfvy31⟩ := hvy31
        have hkvy31 := hovy31.1
        refine z_aload_n C 0 dX10_hour_23 rfl ?_
        refine z_iload_n C 1 dX10_hour_24 rfl ?_
        refine z_iload_n C 3 dX10_hour_25 rfl ?_
        refine z_iload_n C 2 dX10_hour_26 rfl ?_
        have hgy32 := (hfvy31 (i) (ne_o (i := i) (c := 0) (d := 1) rfl)).trans ((f3 _ (by omega) (by omega) (by omega)).trans hg)
        have hgy34 := (hfvy31 (i + 3) (ne_o (i := i) (c := 3) (d := 1) rfl)).trans ((f3 _ (by omega) (by omega) (by omega)).trans ha3)
        refine z_cV (As := [.int (zI ((b : Int))), .int (zI ((ny29 : Int))), .int (zI (z1))]) (rest := []) (ci := 12) C (c_X10_topped l D A cs tt N ad _ i hN _ hgy32 _ hcvy31 _ hgy34 b ny29 py30 hpy30 (by omega) (by omega)  (mB (r b + x) + 50) (eB (r b + x) + 500) (by omega) (by omega) hovy31 hop (z1) (by omega)) (lt_A0 hN rfl) hay10 hgy32 rfl rfl mv_yX10_topped q_1916 hd_yX10_topped (by decide) (Nat.le_of_ble_eq_true rfl) (by decide) dX10_hour_27 rfl (kV0 fun gvy33 hvy33 => ?_)
        obtain ⟨⟨rvy33, hcvy33, hovy33, hyvy33⟩, hfvy33⟩ := hvy33
        have hkvy33 := hovy33.1
        refine z_aload_n C 0 dX10_hour_30 rfl ?_
        refine z_iload_n C 1 dX10_hour_31 rfl ?_
        refine z_iload_n C 3 dX10_hour_32 rfl ?_
        have hgy35 := (hfvy33 (i) (ne_o (i := i) (c := 0) (d := 1) rfl)).trans hgy32
        have hgy37 := (hfvy31 (i + 14) (ne_o (i := i) (c := 14) (d := 1) rfl)).trans ft1
        have hgy38 := (hfvy33 (i + 14) (ne_o (i := i) (c := 14) (d := 1) rfl)).trans hgy37
        refine z_cV (As := [.int (zI ((b : Int))), .int (zI ((ny29 : Int)))]) (rest := []) (ci := 12) C (c_X10_evens l D A cs tt N ad _ i hN _ hgy35 _ hcvy33 _ hgy38 b ny29 py30 hpy30 (by omega) (by omega)  (mB (r b + x) + 50) (eB (r b + x) + 500) (by omega) (by omega) hovy33  ) (lt_A0 hN rfl) hay10 hgy35 rfl rfl mv_yX10_evens q_1924 hd_yX10_evens (by decide) (Nat.le_of_ble_eq_true rfl) (by decide) dX10_hour_33 rfl (kV0 fun gvy36 hvy36 => ?_)
        obtain ⟨⟨rvy36, hcvy36, hovy36, hyvy36⟩, ⟨t14vy36, ht14vy36⟩, hfvy36⟩ := hvy36
        have hkvy36 := hovy36.1
        refine z_aload_n C 0 dX10_hour_36 rfl ?_
        refine z_iload_n C 1 dX10_hour_37 rfl ?_
        refine z_iload_n C 3 dX10_hour_38 rfl ?_
        have hgy39 := (hfvy36 (i) (ne_o (i := i) (c := 0) (d := 1) rfl) (ne_o (i := i) (c := 0) (d := 14) rfl)).trans hgy35
        have hgy41 := (hfvy31 (i + 7) (ne_o (i := i) (c := 7) (d := 1) rfl)).trans ((f3 _ (by omega) (by omega) (by omega)).trans ha7)
        have hgy42 := (hfvy33 (i + 7) (ne_o (i := i) (c := 7) (d := 1) rfl)).trans hgy41
        have hgy43 := (hfvy36 (i + 7) (ne_o (i := i) (c := 7) (d := 1) rfl) (ne_o (i := i) (c := 7) (d := 14) rfl)).trans hgy42
        refine z_cV (As := [.int (zI ((b : Int))), .int (zI ((ny29 : Int)))]) (rest := []) (ci := 12) C (c_X10_sinks l D A cs tt N ad _ i hN _ hgy39 _ hcvy36 _ hgy43 b ny29 py30 hpy30 (by omega) (by omega)  (mB (r b + x) + 50) (eB (r b + x) + 500) (by omega) (by omega) hovy36 hT ) (lt_A0 hN rfl) hay10 hgy39 rfl rfl mv_yX10_sinks q_1928 hd_yX10_sinks (by decide) (Nat.le_of_ble_eq_true rfl) (by decide) dX10_hour_39 rfl (kV0 fun gvy40 hvy40 => ?_)
        obtain ⟨⟨rvy40, hcvy40, hovy40, hyvy40⟩, hfvy40⟩ := hvy40
        have hkvy40 := hovy40.1
        refine z_aload_n C 0 dX10_hour_42 rfl ?_
        refine z_iload_n C 1 dX10_hour_43 rfl ?_
        refine z_iload_n C 3 dX10_hour_44 rfl ?_
        have hgy44 := (hfvy40 (i) (ne_o (i := i) (c := 0) (d := 1) rfl)).trans hgy39
        have hgy46 := (hfvy40 (i + 7) (ne_o (i := i) (c := 7) (d := 1) rfl)).trans hgy43
        refine z_cV (As := [.int (zI ((b : Int))), .int (zI ((ny29 : Int)))]) (rest := []) (ci := 12) C (c_X10_presses l D A cs tt N ad _ i hN _ hgy44 _ hcvy40 _ hgy46 b ny29 py30 hpy30 (by omega) (by omega)  (mB (r b + x) + 50) (eB (r b + x) + 500) (by omega) (by omega) hovy40 (by omega) hT hT1 ) (lt_A0 hN rfl) hay10 hgy44 rfl rfl mv_yX10_presses q_1936 hd_yX10_presses (by decide) (Nat.le_of_ble_eq_true rfl) (by decide) dX10_hour_45 rfl (kV0 fun gvy45 hvy45 => ?_)
        obtain ⟨⟨rvy45, hcvy45, hovy45, hyvy45⟩, hfvy45⟩ := hvy45
        have hkvy45 := hovy45.1
        refine z_aload_n C 0 dX10_hour_48 rfl ?_
        refine z_iload_n C 1 dX10_hour_49 rfl ?_
        refine z_iload_n C 3 dX10_hour_50 rfl ?_
        refine z_iload_n C 2 dX10_hour_51 rfl ?_
        have hgy47 := (hfvy45 (i) (ne_o (i := i) (c := 0) (d := 1) rfl)).trans hgy44
        have hgy49 := (hfvy31 (i + 15) (ne_o (i := i) (c := 15) (d := 1) rfl)).trans ft2
        have hgy50 := (hfvy33 (i + 15) (ne_o (i := i) (c := 15) (d := 1) rfl)).trans hgy49
        have hgy51 := (hfvy36 (i + 15) (ne_o (i := i) (c := 15) (d := 1) rfl) (ne_o (i := i) (c := 15) (d := 14) rfl)).trans hgy50
        have hgy52 := (hfvy40 (i + 15) (ne_o (i := i) (c := 15) (d := 1) rfl)).trans hgy51
        have hgy53 := (hfvy45 (i + 15) (ne_o (i := i) (c := 15) (d := 1) rfl)).trans hgy52
        refine z_cV (As := [.int (zI ((b : Int))), .int (zI ((ny29 : Int))), .int (zI (z1))]) (rest := []) (ci := 12) C (c_X10_ages l D A cs tt N ad _ i hN _ hgy47 _ hcvy45 _ hgy53 b ny29 py30 hpy30 (by omega) (by omega)  (mB (r b + x) + 50) (eB (r b + x) + 500 + (mB (r b + x) + 50)) (by omega) (by omega) hovy45  (z1) (by omega)) (lt_A0 hN rfl) hay10 hgy47 rfl rfl mv_yX10_ages q_1940 hd_yX10_ages (by decide) (Nat.le_of_ble_eq_true rfl) (by decide) dX10_hour_52 rfl (kV0 fun gvy48 hvy48 => ?_)
        obtain ⟨⟨rvy48, hcvy48, hovy48, hyvy48⟩, ⟨t15vy48, ht15vy48⟩, hfvy48⟩ := hvy48
        have hkvy48 := hovy48.1
        refine z_iinc (z := (ny29 : Int) + 1) (lv' := [(3, .int (zI ((ny29 : Int) + 1))), (0, .ref (ad i)), (1, .int (zI ((b : Int)))), (2, .int (zI (z1)))]) (j := 3) C dX10_hour_55 rfl rfl (by decide) rfl ?_
        refine z_goto (tgt := 8) C dX10_hour_58 (by decide) ?_
        have hfr : ∀ j, j < py30 ∨ py30 + 86 ≤ j → j ≠ b + 1 → rvy48 j = r9 j := fun j a1 a2 => (hyvy48 j a1).trans ((hyvy45 j a1).trans ((hyvy40 j a1).trans ((hyvy36 j a1).trans ((hyvy33 j a1).trans ((hyvy31 j a1 a2).trans (rfl))))))
        have hnm9 : rvy48 (b + 1) = rvy31 (b + 1) := (hyvy48 (b + 1) (by omega)).trans ((hyvy45 (b + 1) (by omega)).trans ((hyvy40 (b + 1) (by omega)).trans ((hyvy36 (b + 1) (by omega)).trans ((hyvy33 (b + 1) (by omega)).trans (rfl)))))
        have hok9 : okS rvy48 py30 (mB (r b + 1 + x)) (eB (r b + 1 + x)) := hovy48.mono (by omega) (by omega)
        have hgy54 := (hfvy40 (i + 14) (ne_o (i := i) (c := 14) (d := 1) rfl)).trans ht14vy36
        have hgy55 := (hfvy45 (i + 14) (ne_o (i := i) (c := 14) (d := 1) rfl)).trans hgy54
        have hgy56 := (hfvy48 (i + 14) (ne_o (i := i) (c := 14) (d := 1) rfl) (ne_o (i := i) (c := 14) (d := 15) rfl)).trans hgy55
        refine z_lv (lv' := [(0, .ref (ad i)), (1, .int (zI ((b : Int)))), (2, .int (zI (z1))), (3, .int (zI ((ny29 : Int) + 1)))]) [1, 2, 3, 0] rfl ?_
        exact ih _ (by omega) z1 ((ny29 : Int) + 1) rvy48 gvy48 rfl hcvy48 ⟨_, hgy56⟩ ⟨_, ht15vy48⟩ (fun j j1 j2 j3 => by rw [hfvy48 _ (by omega) (by omega)]; rw [hfvy45 _ (by omega)]; rw [hfvy40 _ (by omega)]; rw [hfvy36 _ (by omega) (by omega)]; rw [hfvy33 _ (by omega)]; rw [hfvy31 _ (by omega)]; exact f3 j j1 j2 j3) (fun k hk => by
            by_cases e : k = ny29
            · subst e; exact ⟨fun _ => hok9.of (by omega), fun h => absurd h (by omega)⟩
            · exact ⟨fun h => ((f4 k hk).1 (by omega)).ext (fun j a1 a2 => hfr j (by omega) (by omega)), fun h => ((f4 k hk).2 (by omega)).ext (fun j a1 a2 => hfr j (by omega) (by omega))⟩) ((hfr b (by omega) (by omega)).trans f5) (by omega) ((hfr (b + 5) (by omega) (by omega)).trans f7) (fun j a1 => (hfr j (by omega) (by omega)).trans (f8 j a1)) (by omega) (by omega)
  refine z_aload_n C 0 dX10_hour_0 rfl ?_
  refine z_iload_n C 1 dX10_hour_1 rfl ?_
  refine z_cV (As := [.int (zI ((b : Int)))]) (rest := []) (ci := 12) C (c_X10_airOf l D A cs tt N ad _ i hN _ hg _ ha1 _ ha4 b (by omega) (by omega) e14 e25 hai) (lt_A0 hN rfl) hay1 hg rfl rfl mv_yX10_airOf q_1827 hd_yX10_airOf (by decide) (Nat.le_of_ble_eq_true rfl) (by decide) dX10_hour_2 rfl (kI0 fun vy57 gvy57 hvy57 => ?_)
  obtain ⟨hvy57, rfl⟩ := hvy57
  refine z_istore_n (lv' := [(2, .int (zI (vy57))), (0, .ref (ad i)), (1, .int (zI ((b : Int))))]) C dX10_hour_5 rfl (by decide) rfl ?_
  refine z_iconst (z := 0) C dX10_hour_6 rfl ?_
  refine z_istore_n (lv' := [(3, .int (zI (0))), (2, .int (zI (vy57))), (0, .ref (ad i)), (1, .int (zI ((b : Int))))]) C dX10_hour_7 rfl (by decide) rfl ?_
  refine z_lv (lv' := [(0, .ref (ad i)), (1, .int (zI ((b : Int)))), (2, .int (zI (vy57))), (3, .int (zI (0)))]) [2, 3, 1, 0] rfl ?_
  exact lp _ (vy57) (0) r g rfl ha1 ⟨_, ha14⟩ ⟨_, ha15⟩ (fun j _ _ _ => by rfl) (fun k hk => ⟨fun h => absurd h (by omega), fun _ => hW1 k hk⟩) rfl (by omega) rfl (fun j _ => rfl) (by omega) (by omega)

set_option maxRecDepth 100000 in
set_option maxHeartbeats 4000000 in
theorem c_X10_goes (l : Launch) (D : va_G) (A : Nat → Prop) (cs : Nat → ClassId) (tt : Nat) (N : Nat) (ad : Nat → Nat) (g : Nat → va_E) (i : Nat) (hN : i + 30 ≤ N) (F : Nat → Int) (hg : g i = mC ad i F) (r : Nat → Int) (ha1 : g (i + 1) = iA cs 29200 r) (op : Nat → Int) (ha3 : g (i + 3) = iA cs 4 op) (ai : Nat → Int) (ha4 : g (i + 4) = iA cs 24 ai) (fa : Nat → Int) (ha5 : g (i + 5) = iA cs 24 fa) (mu : Nat → Int) (ha6 : g (i + 6) = iA cs 24 mu) (tb : Nat → Int) (ha7 : g (i + 7) = iA cs 15 tb) (te : Nat → Int) (ha14 : g (i + 14) = iA cs 14 te) (ki : Nat → Int) (ha15 : g (i + 15) = iA cs 12 ki) (b : Nat) (hb : b + 350 ≤ 29200) (hEv : okEnv F op ai fa mu tb) (x : Int) (hx : 0 ≤ x) (hW : okW r b x) (z : Int) (hz : 0 ≤ z ∧ z ≤ 200) (hx2 : r b + z + x ≤ 2722) (hx3 : r b + z ≤ 2180) : zM l yX10_goes cX10_goes 4 none ({ frames := 9, cells := 0, slots := 0, locals := 540 } : Room) D A cs tt N ad g [.ref (ad i), .int (zI ((b : Int))), .int (zI (z))] (rV0 N ad fun g' => (∃ r' : Nat → Int, g' (i + 1) = iA cs 29200 r' ∧ okW r' b x ∧ r' b = r b + z ∧ ∀ j, j < b ∨ b + 350 ≤ j → r' j = r j) ∧ (∃ t' : Nat → Int, g' (i + 14) = iA cs 14 t') ∧ (∃ t' : Nat → Int, g' (i + 15) = iA cs 12 t') ∧ ∀ j, j ≠ i + 1 → j ≠ i + 14 → j ≠ i + 15 → g' j = g j) := by
  have hay1 : zAt ad (i) (ad i) := rfl
  have hay2 : zAt ad (i + 1) (ad (i + 1)) := rfl
  have hay3 : zAt ad (i + 3) (ad (i + 3)) := rfl
  have hay4 : zAt ad (i + 4) (ad (i + 4)) := rfl
  have hay5 : zAt ad (i + 5) (ad (i + 5)) := rfl
  have hay6 : zAt ad (i + 6) (ad (i + 6)) := rfl
  have hay7 : zAt ad (i + 7) (ad (i + 7)) := rfl
  have hay8 : zAt ad (i + 14) (ad (i + 14)) := rfl
  have hay9 : zAt ad (i + 15) (ad (i + 15)) := rfl
  refine z_of (by decide) (Nat.le_of_ble_eq_true rfl) ?_
  intro pZ eZ sZ mZ below meth cZ C hr hlk hnm
  refine z_lv (lv' := [(0, .ref (ad i)), (1, .int (zI ((b : Int)))), (2, .int (zI (z)))]) [0, 1, 2] rfl ?_
  have lp : ∀ (n9 : Nat) (kk : Int) (r9 : Nat → Int) (g1 : Nat → va_E), (201 - kk).toNat = n9 → (g1 (i + 1) = iA cs 29200 r9) → (∃ t' : Nat → Int, g1 (i + 14) = iA cs 14 t') → (∃ t' : Nat → Int, g1 (i + 15) = iA cs 12 t') → (∀ j, j ≠ i + 1 → j ≠ i + 14 → j ≠ i + 15 → g1 j = g j) → (okW r9 b x) → (r9 b = r b + kk) → (∀ j, j < b ∨ b + 350 ≤ j → r9 j = r j) → (0 ≤ kk ∧ kk ≤ z) → zV pZ l eZ ({ frames := 9, cells := 0, slots := 0, locals := 540 } : Room) sZ mZ ([.ref (ad i), .int (zI ((b : Int))), .int (zI (z))] : List Value).toArray below meth cZ (MQ below (zPost D A (rV0 N ad fun g' => (∃ r' : Nat → Int, g' (i + 1) = iA cs 29200 r' ∧ okW r' b x ∧ r' b = r b + z ∧ ∀ j, j < b ∨ b + 350 ≤ j → r' j = r j) ∧ (∃ t' : Nat → Int, g' (i + 14) = iA cs 14 t') ∧ (∃ t' : Nat → Int, g' (i + 15) = iA cs 12 t') ∧ ∀ j, j ≠ i + 1 → j ≠ i + 14 → j ≠ i + 15 → g' j = g j)) ([.ref (ad i), .int (zI ((b : Int))), .int (zI (z))] : List Value).toArray sZ ({ frames := 9, cells := 0, slots := 0, locals := 540 } : Room).cells ({ frames := 9, cells := 0, slots := 0, locals := 540 } : Room).slots A) D A 4 (N) ad g1 (0) (0) 2 [(0, .ref (ad i)), (1, .int (zI ((b : Int)))), (2, .int (zI (z))), (3, .int (zI (kk)))] [] := by
    intro n9
    induction n9 using Nat.strongRecOn with
    | ind n9 ih =>
      intro kk r9 g1 hm9 f2 f9 f10 f3 f4 f5 f8 hv
      obtain ⟨te1, ft1⟩ := f9
      obtain ⟨ki1, ft2⟩ := f10
      have hay10 : zAt ad (i) (ad i) := rfl
      have hay11 : zAt ad (i + 1) (ad (i + 1)) := rfl
      have hay12 : zAt ad (i + 3) (ad (i + 3)) := rfl
      have hay13 : zAt ad (i + 4) (ad (i + 4)) := rfl
      have hay14 : zAt ad (i + 5) (ad (i + 5)) := rfl
      have hay15 : zAt ad (i + 6) (ad (i + 6)) := rfl
      have hay16 : zAt ad (i + 7) (ad (i + 7)) := rfl
      have hay17 : zAt ad (i + 14) (ad (i + 14)) := rfl
      have hay18 : zAt ad (i + 15) (ad (i + 15)) := rfl
      refine z_iload_n C 3 dX10_goes_2 rfl ?_
      refine z_iload_n C 2 dX10_goes_3 rfl ?_
      refine z_icmp_ge (tgt := 18) C dX10_goes_4 (by decide) (by omega) (by omega) (fun hby19 => ?_) (fun hby19 => ?_)
      · exact z_vret C hr hlk dX10_goes_18 (by decide) (by decide) ⟨rfl, rfl, rfl, ⟨_, f2, f4, by omega, f8⟩, ⟨_, ft1⟩, ⟨_, ft2⟩, fun j j1 j2 j3 => by exact f3 j j1 j2 j3⟩
      · refine z_aload_n C 0 dX10_goes_7 rfl ?_
        refine z_iload_n C 1 dX10_goes_8 rfl ?_
        refine z_cV (As := [.int (zI ((b : Int)))]) (rest := []) (ci := 12) C (c_X10_hour l D A cs tt N ad _ i hN _ ((f3 _ (by omega) (by omega) (by omega)).trans hg) _ f2 _ ((f3 _ (by omega) (by omega) (by omega)).trans ha3) _ ((f3 _ (by omega) (by omega) (by omega)).trans ha4) _ ((f3 _ (by omega) (by omega) (by omega)).trans ha5) _ ((f3 _ (by omega) (by omega) (by omega)).trans ha6) _ ((f3 _ (by omega) (by omega) (by omega)).trans ha7) _ ft1 _ ft2 b (by omega) hEv (x) (by omega) f4 (by omega) (by omega)) (lt_A0 hN rfl) hay10 ((f3 _ (by omega) (by omega) (by omega)).trans hg) rfl rfl mv_yX10_hour q_1885 hd_yX10_hour (by decide) (Nat.le_of_ble_eq_true rfl) (by decide) dX10_goes_9 rfl (kV0 fun gvy20 hvy20 => ?_)
        obtain ⟨⟨rvy20, hcvy20, hwvy20, htvy20, hyvy20⟩, ⟨t4vy20, h4vy20⟩, ⟨t5vy20, h5vy20⟩, hfvy20⟩ := hvy20
        refine z_iinc (z := kk + 1) (lv' := [(3, .int (zI (kk + 1))), (0, .ref (ad i)), (1, .int (zI ((b : Int)))), (2, .int (zI (z)))]) (j := 3) C dX10_goes_12 rfl rfl (by decide) rfl ?_
        refine z_goto (tgt := 2) C dX10_goes_15 (by decide) ?_
        refine z_lv (lv' := [(0, .ref (ad i)), (1, .int (zI ((b : Int)))), (2, .int (zI (z))), (3, .int (zI (kk + 1)))]) [1, 2, 3, 0] rfl ?_
        exact ih _ (by omega) (kk + 1) rvy20 gvy20 rfl hcvy20 ⟨_, h4vy20⟩ ⟨_, h5vy20⟩ (fun j j1 j2 j3 => by rw [hfvy20 _ (by omega) (by omega) (by omega)]; exact f3 j j1 j2 j3) hwvy20 (by omega) (fun j a1 => (hyvy20 j a1).trans (f8 j a1)) (by omega)
  refine z_iconst (z := 0) C dX10_goes_0 rfl ?_
  refine z_istore_n (lv' := [(3, .int (zI (0))), (0, .ref (ad i)), (1, .int (zI ((b : Int)))), (2, .int (zI (z)))]) C dX10_goes_1 rfl (by decide) rfl ?_
  refine z_lv (lv' := [(0, .ref (ad i)), (1, .int (zI ((b : Int)))), (2, .int (zI (z))), (3, .int (zI (0)))]) [1, 2, 3, 0] rfl ?_
  exact lp _ 0 r g rfl ha1 ⟨_, ha14⟩ ⟨_, ha15⟩ (fun j _ _ _ => by rfl) hW (by omega) (fun j _ => rfl) (by omega)
end
section
-- 81.words.lean.txt
-- words of reft
theorem q_1493 : (Jvm.Cond.fieldLink "SnowRecorderModel" (241 : Nat) "SnowRecorderModel" "size" "I") ∈ AW := AW_m7 53 (by decide +kernel) (by decide +kernel)
end
section
-- 82.dec.lean.txt
-- decode rows of reft
theorem dX10_byteAt_0 : decode cX10_byteAt 0 = .ok (.iload_n 1, 1) := by decide +kernel
theorem dX10_byteAt_1 : decode cX10_byteAt 1 = .ok (.aload_n 0, 1) := by decide +kernel
theorem dX10_byteAt_2 : decode cX10_byteAt 2 = .ok (.getfield 241, 3) := by decide +kernel
theorem dX10_byteAt_5 : decode cX10_byteAt 5 = .ok (.if_icmp .ge 12, 3) := by decide +kernel
theorem dX10_byteAt_17 : decode cX10_byteAt 17 = .ok (.iconst 0, 1) := by decide +kernel
theorem dX10_byteAt_18 : decode cX10_byteAt 18 = .ok (.ireturn, 1) := by decide +kernel
theorem dX10_byteAt_8 : decode cX10_byteAt 8 = .ok (.aload_n 0, 1) := by decide +kernel
theorem dX10_byteAt_9 : decode cX10_byteAt 9 = .ok (.getfield 46, 3) := by decide +kernel
theorem dX10_byteAt_12 : decode cX10_byteAt 12 = .ok (.iload_n 1, 1) := by decide +kernel
theorem dX10_byteAt_13 : decode cX10_byteAt 13 = .ok (.iaload, 1) := by decide +kernel
theorem dX10_byteAt_14 : decode cX10_byteAt 14 = .ok (.goto 4, 3) := by decide +kernel
end
section
-- 83.reft.lean.txt
section ZST2
variable {p : Program} {l : Launch} {e : Env} {R : Room} {s : State} {m : MethodId} {args : Array Value} {below : List Frame} {meth : Method} {c : Code} {Q : State → Prop} {D : va_G} {A : Nat → Prop} {cs : Nat → ClassId} {tt : Nat} {cc : ByteArray} {nL : Nat} {own : String} {N : Nat} {ad : Nat → Nat} {g : Nat → va_E} {k n pc : Nat} {lv lv' : List (Nat × Value)} {rest : List Value} {q : String × String × Nat × List Int32}
theorem z_stlen (C : zC p s m args c cc nL own D A cs tt) (hq : q ∈ STL) {L : Nat} (hL : q.2.2.2.length = L) (hdg : decode cc pc = .ok (.arraylength, 1)) (kk : zV p l e R s m args below meth c Q D A nL N ad g k n (pc + 1) (lv) (.int (zI (L : Int)) :: rest)) : zV p l e R s m args below meth c Q D A nL N ad g k n (pc) (lv) (.ref (cs (300 + q.2.2.1)) :: rest) := fun H locs ls hP hD hS hl => by
  subst hL
  exact va_tlen C.1 C.2.1 (C.S.2.1 q hq).2 hS (zI_nat _) hdg (kk H locs ls hP hD hS hl)
end ZST2
def RD (F : Nat → Int) : Prop := (0 ≤ F 32 ∧ F 32 ≤ F 34 ∧ F 34 ≤ 900) ∧ (0 ≤ F 33 ∧ F 33 ≤ 900) ∧ (0 ≤ F 35 ∧ F 35 ≤ 4) ∧ (-2147483648 ≤ F 36 ∧ F 36 ≤ 2147483647) ∧ (F 35 = 2 → 0 ≤ F 36 ∧ F 36 ≤ 99999) ∧ (-2147483648 ≤ F 37 ∧ F 37 ≤ 2147483647) ∧ (0 ≤ F 38 ∧ F 38 ≤ 5)

set_option maxRecDepth 100000 in
set_option maxHeartbeats 4000000 in
theorem c_X10_byteAt (l : Launch) (D : va_G) (A : Nat → Prop) (cs : Nat → ClassId) (tt : Nat) (N : Nat) (ad : Nat → Nat) (g : Nat → va_E) (i : Nat) (hN : i + 30 ≤ N) (F : Nat → Int) (hg : g i = mC ad i F) (tp : Nat → Int) (ha13 : g (i + 13) = iA cs 900 tp) (htp : ∀ k, k < 900 → 0 ≤ tp k ∧ tp k ≤ 255) (h34 : 0 ≤ F 34 ∧ F 34 ≤ 900) (z : Int) (hz : 0 ≤ z ∧ z ≤ 2000) : zM l yX10_byteAt cX10_byteAt 2 (some .int) ({ frames := 1, cells := 0, slots := 0, locals := 60 } : Room) D A cs tt N ad g [.ref (ad i), .int (zI (z))] (rI0 N ad fun r g' => (0 ≤ r ∧ r ≤ 255) ∧ ((z < F 34 ∧ r = tp z.toNat) ∨ (F 34 ≤ z ∧ r = 0)) ∧ g = g') := by
  have hay1 : zAt ad (i) (ad i) := rfl
  have hay2 : zAt ad (i + 13) (ad (i + 13)) := rfl
  refine z_of (by decide) (Nat.le_of_ble_eq_true rfl) ?_
  intro pZ eZ sZ mZ below meth cZ C hr hlk hnm
  refine z_lv (lv' := [(0, .ref (ad i)), (1, .int (zI (z)))]) [0, 1] rfl ?_
  refine z_iload_n C 1 dX10_byteAt_0 rfl ?_
  refine z_aload_n C 0 dX10_byteAt_1 rfl ?_
  refine z_get (v := .int (zI (F 34))) C (lt_A0 hN rfl) hay1 hg rfl inA_X10 34 (by decide) q_1493 rfl (fv (F := F) (f := 34) rfl) dX10_byteAt_2 ?_
  refine z_icmp_ge (tgt := 17) C dX10_byteAt_5 (by decide) (by omega) (by omega) (fun hby3 => ?_) (fun hby3 => ?_)
  · refine z_iconst (z := 0) C dX10_byteAt_17 rfl ?_
    exact z_iret C hr hlk dX10_byteAt_18 (by decide) (by decide) ⟨0, rfl, rfl, rfl, by omega, by omega, rfl⟩
  · refine z_aload_n C 0 dX10_byteAt_8 rfl ?_
    refine z_get (v := .ref (ad (i + 13))) C (lt_A0 hN rfl) hay1 hg rfl inA_X10 22 (by decide) q_1481 rfl rfl dX10_byteAt_9 ?_
    refine z_iload_n C 1 dX10_byteAt_12 rfl ?_
    refine z_iald C (lt_A (c := 13) hN rfl) hay2 ha13 ((z).toNat) (by omega) (by omega) (by decide) dX10_byteAt_13 ?_
    have hrfy4 := htp ((z).toNat) (by omega)
    refine z_goto (tgt := 18) C dX10_byteAt_14 (by decide) ?_
    exact z_iret C hr hlk dX10_byteAt_18 (by decide) (by decide) ⟨tp ((z).toNat), rfl, rfl, rfl, by omega, by omega, rfl⟩
end
section
-- 86.refc.lean.txt
def lyT (r : Nat → Int) (q : Nat) : Prop := (0 ≤ r q ∧ r q ≤ 4) ∧ (1 ≤ r (q + 1) ∧ r (q + 1) ≤ 99) ∧ (0 ≤ r (q + 2) ∧ r (q + 2) ≤ 99) ∧ (1 ≤ r (q + 3) ∧ r (q + 3) ≤ 999) ∧ (-300 ≤ r (q + 4) ∧ r (q + 4) ≤ 0) ∧ (0 ≤ r (q + 6) ∧ r (q + 6) ≤ 900)
theorem lyT.ext {r r' : Nat → Int} {q : Nat} (h : ∀ j, q ≤ j → j < q + 7 → r' j = r j) (hl : lyT r q) : lyT r' q := by
  unfold lyT at *
  rw [h q (by omega) (by omega), h (q + 1) (by omega) (by omega), h (q + 2) (by omega) (by omega), h (q + 3) (by omega) (by omega), h (q + 4) (by omega) (by omega), h (q + 6) (by omega) (by omega)]
  exact hl
/-- what the reader has told so far -/
def okT (F op1 mn1 ai1 fa1 mu1 tb1 ly1 : Nat → Int) : Prop := ((0 ≤ F 47 ∧ F 47 ≤ 4) ∧ (0 ≤ F 48 ∧ F 48 ≤ 24) ∧ (0 ≤ F 49 ∧ F 49 ≤ F 32)) ∧ (∀ k, k < 4 → 0 ≤ op1 k ∧ op1 k ≤ 20) ∧ (∀ k, k < 4 → 0 ≤ mn1 k ∧ mn1 k ≤ 12) ∧ (∀ k, k < 24 → -300 ≤ ai1 k ∧ ai1 k ≤ 100) ∧ (∀ k, k < 24 → (0 ≤ fa1 k ∧ fa1 k ≤ 3) ∧ (0 ≤ mu1 k ∧ mu1 k ≤ 50) ∧ (fa1 k = 1 ∨ fa1 k = 2 → 1 ≤ mu1 k)) ∧ (∀ k, k < 15 → tb1 k = -1 ∨ ((0 ≤ tb1 k ∧ tb1 k ≤ 9999) ∧ (10 ≤ k → 1 ≤ tb1 k))) ∧ (∀ s l : Nat, (s : Int) < F 47 → (l : Int) < mn1 s → lyT ly1 (84 * s + 7 * l))
def okTx (cs : Nat → ClassId) (g : Nat → va_E) (i : Nat) (F : Nat → Int) : Prop := ∃ st1 op1 mn1 ai1 fa1 mu1 tb1 ly1 : Nat → Int, (g (i + 16) = iA cs 4 st1 ∧ g (i + 17) = iA cs 4 op1 ∧ g (i + 18) = iA cs 4 mn1 ∧ g (i + 19) = iA cs 24 ai1 ∧ g (i + 20) = iA cs 24 fa1 ∧ g (i + 21) = iA cs 24 mu1 ∧ g (i + 22) = iA cs 15 tb1 ∧ g (i + 23) = iA cs 336 ly1) ∧ okT F op1 mn1 ai1 fa1 mu1 tb1 ly1
theorem okTx.mv {cs : Nat → ClassId} {g g' : Nat → va_E} {i : Nat} {F F' : Nat → Int} (h : okTx cs g i F) (hG : ∀ j, i + 16 ≤ j → j ≤ i + 23 → g' j = g j) (hF : F' 47 = F 47 ∧ F' 48 = F 48 ∧ F' 49 = F 49 ∧ F 32 ≤ F' 32) : okTx cs g' i F' := by
  obtain ⟨st1, op1, mn1, ai1, fa1, mu1, tb1, ly1, ⟨h1, h2, h3, h4, h5, h6, h7, h8⟩, ⟨a1, a2, a3⟩, a4, a5, a6, a7, a8, a9⟩ := h
  obtain ⟨f1, f2, f3, f4⟩ := hF
  refine ⟨st1, op1, mn1, ai1, fa1, mu1, tb1, ly1, ⟨by rw [hG _ (by omega) (by omega)]; exact h1, by rw [hG _ (by omega) (by omega)]; exact h2, by rw [hG _ (by omega) (by omega)]; exact h3, by rw [hG _ (by omega) (by omega)]; exact h4, by rw [hG _ (by omega) (by omega)]; exact h5, by rw [hG _ (by omega) (by omega)]; exact h6, by rw [hG _ (by omega) (by omega)]; exact h7, by rw [hG _ (by omega) (by omega)]; exact h8⟩, ⟨by rw [f1]; exact a1, by rw [f2]; exact a2, by rw [f3]; omega⟩, a4, a5, a6, a7, a8, fun s l h => a9 s l (by rw [f1] at h; exact h)⟩

theorem RD.w {F F' : Nat → Int} (h : RD F) (hF : ∀ f, f ≠ 24 → f ≠ 38 → F' f = F f) (h38 : 0 ≤ F' 38 ∧ F' 38 ≤ 5) : RD F' := by
  obtain ⟨a, b, c, d, e, f, k⟩ := h
  unfold RD
  rw [hF 32 (by decide) (by decide), hF 33 (by decide) (by decide), hF 34 (by decide) (by decide), hF 35 (by decide) (by decide), hF 36 (by decide) (by decide), hF 37 (by decide) (by decide)]
  exact ⟨a, b, c, d, e, f, h38⟩
theorem RD.put {F : Nat → Int} {k : Nat} {v : Int} (h : RD F) (hk : k < 32 ∨ 38 < k) : RD (uZ F k v) := by
  unfold RD at *
  rw [uZ_n _ _ (by omega), uZ_n _ _ (by omega), uZ_n _ _ (by omega), uZ_n _ _ (by omega), uZ_n _ _ (by omega), uZ_n _ _ (by omega), uZ_n _ _ (by omega)]
  exact h
end
section
-- 86k.words.lean.txt
-- words of yread
theorem q_1491 : (Jvm.Cond.fieldLink "SnowRecorderModel" (251 : Nat) "SnowRecorderModel" "next" "I") ∈ AW := AW_m7 51 (by decide +kernel) (by decide +kernel)
theorem q_1492 : (Jvm.Cond.fieldLink "SnowRecorderModel" (254 : Nat) "SnowRecorderModel" "place" "I") ∈ AW := AW_m7 52 (by decide +kernel) (by decide +kernel)
theorem q_1494 : (Jvm.Cond.fieldLink "SnowRecorderModel" (263 : Nat) "SnowRecorderModel" "sort" "I") ∈ AW := AW_m7 54 (by decide +kernel) (by decide +kernel)
theorem q_1495 : (Jvm.Cond.fieldLink "SnowRecorderModel" (260 : Nat) "SnowRecorderModel" "value" "I") ∈ AW := AW_m7 55 (by decide +kernel) (by decide +kernel)
theorem q_1496 : (Jvm.Cond.fieldLink "SnowRecorderModel" (257 : Nat) "SnowRecorderModel" "word" "I") ∈ AW := AW_m7 56 (by decide +kernel) (by decide +kernel)
theorem q_1497 : (Jvm.Cond.fieldLink "SnowRecorderModel" (274 : Nat) "SnowRecorderModel" "bad" "I") ∈ AW := AW_m7 57 (by decide +kernel) (by decide +kernel)
theorem q_1652 : (Jvm.Cond.methodLink "SnowRecorderModel" (285 : Nat) ({ cls := "SnowRecorderModel", name := "go", desc := "()V" } : Jvm.MethodName)) ∈ AW := AW_m7 212 (by decide +kernel) (by decide +kernel)
theorem q_1654 : (Jvm.Cond.instanceMethod ({ cls := "SnowRecorderModel", name := "go", desc := "()V" } : Jvm.MethodName)) ∈ AW := AW_m7 214 (by decide +kernel) (by decide +kernel)
theorem q_1655 : (Jvm.Cond.code ({ cls := "SnowRecorderModel", name := "go", desc := "()V" } : Jvm.MethodName) prog_12_method_48_code (2 : Nat) (Option.none : Option Jvm.ClassFile.FieldType)) ∈ AW := AW_m7 215 (by decide +kernel) (by decide +kernel)
theorem q_1656 : (Jvm.Cond.methodLink "SnowRecorderModel" (248 : Nat) ({ cls := "SnowRecorderModel", name := "byteAt", desc := "(I)I" } : Jvm.MethodName)) ∈ AW := AW_m7 216 (by decide +kernel) (by decide +kernel)
theorem q_1658 : (Jvm.Cond.instanceMethod ({ cls := "SnowRecorderModel", name := "byteAt", desc := "(I)I" } : Jvm.MethodName)) ∈ AW := AW_m7 218 (by decide +kernel) (by decide +kernel)
theorem q_1659 : (Jvm.Cond.code ({ cls := "SnowRecorderModel", name := "byteAt", desc := "(I)I" } : Jvm.MethodName) prog_12_method_46_code (2 : Nat) (Option.some Jvm.ClassFile.FieldType.int)) ∈ AW := AW_m7 219 (by decide +kernel) (by decide +kernel)
theorem q_1660 : (Jvm.Cond.methodLink "SnowRecorderModel" (266 : Nat) ({ cls := "SnowRecorderModel", name := "isLetter", desc := "(I)Z" } : Jvm.MethodName)) ∈ AW := AW_m7 220 (by decide +kernel) (by decide +kernel)
theorem q_1661 : (Jvm.Cond.static ({ cls := "SnowRecorderModel", name := "isLetter", desc := "(I)Z" } : Jvm.MethodName)) ∈ AW := AW_m7 221 (by decide +kernel) (by decide +kernel)
theorem q_1662 : (Jvm.Cond.code ({ cls := "SnowRecorderModel", name := "isLetter", desc := "(I)Z" } : Jvm.MethodName) prog_12_method_45_code (1 : Nat) (Option.some Jvm.ClassFile.FieldType.boolean)) ∈ AW := AW_m7 222 (by decide +kernel) (by decide +kernel)
theorem q_1663 : (Jvm.Cond.methodLink "SnowRecorderModel" (270 : Nat) ({ cls := "SnowRecorderModel", name := "wordFrom", desc := "(II)I" } : Jvm.MethodName)) ∈ AW := AW_m7 223 (by decide +kernel) (by decide +kernel)
theorem q_1665 : (Jvm.Cond.instanceMethod ({ cls := "SnowRecorderModel", name := "wordFrom", desc := "(II)I" } : Jvm.MethodName)) ∈ AW := AW_m7 225 (by decide +kernel) (by decide +kernel)
theorem q_1666 : (Jvm.Cond.code ({ cls := "SnowRecorderModel", name := "wordFrom", desc := "(II)I" } : Jvm.MethodName) prog_12_method_47_code (7 : Nat) (Option.some Jvm.ClassFile.FieldType.int)) ∈ AW := AW_m7 226 (by decide +kernel) (by decide +kernel)
theorem q_1667 : (Jvm.Cond.fieldLink "SnowRecorderModel" (244 : Nat) "SnowRecorderModel" "KNOWN" "[B") ∈ AW := AW_m7 227 (by decide +kernel) (by decide +kernel)
theorem q_1669 : (Jvm.Cond.constant "SnowRecorderModel" (273 : Nat) (99999 : Int32)) ∈ AW := AW_m7 229 (by decide +kernel) (by decide +kernel)
theorem q_1678 : (Jvm.Cond.methodLink "SnowRecorderModel" (277 : Nat) ({ cls := "SnowRecorderModel", name := "wants", desc := "(ZI)Z" } : Jvm.MethodName)) ∈ AW := AW_m7 238 (by decide +kernel) (by decide +kernel)
theorem q_1680 : (Jvm.Cond.instanceMethod ({ cls := "SnowRecorderModel", name := "wants", desc := "(ZI)Z" } : Jvm.MethodName)) ∈ AW := AW_m8 0 (by decide +kernel) (by decide +kernel)
theorem q_1681 : (Jvm.Cond.code ({ cls := "SnowRecorderModel", name := "wants", desc := "(ZI)Z" } : Jvm.MethodName) prog_12_method_49_code (3 : Nat) (Option.some Jvm.ClassFile.FieldType.boolean)) ∈ AW := AW_m8 1 (by decide +kernel) (by decide +kernel)
theorem q_1686 : (Jvm.Cond.methodLink "SnowRecorderModel" (281 : Nat) ({ cls := "SnowRecorderModel", name := "within", desc := "(III)Z" } : Jvm.MethodName)) ∈ AW := AW_m8 6 (by decide +kernel) (by decide +kernel)
theorem q_1687 : (Jvm.Cond.static ({ cls := "SnowRecorderModel", name := "within", desc := "(III)Z" } : Jvm.MethodName)) ∈ AW := AW_m8 7 (by decide +kernel) (by decide +kernel)
theorem q_1688 : (Jvm.Cond.code ({ cls := "SnowRecorderModel", name := "within", desc := "(III)Z" } : Jvm.MethodName) prog_12_method_5_code (3 : Nat) (Option.some Jvm.ClassFile.FieldType.boolean)) ∈ AW := AW_m8 8 (by decide +kernel) (by decide +kernel)
theorem s_41 : Cond.selects "SnowRecorderModel" ({ cls := "SnowRecorderModel", name := "go", desc := "()V" } : Jvm.MethodName) ({ cls := "SnowRecorderModel", name := "go", desc := "()V" } : Jvm.MethodName) ∈ AW := AW_m 41 (by decide +kernel) (by decide +kernel)
theorem s_42 : Cond.selects "SnowRecorderModel" ({ cls := "SnowRecorderModel", name := "byteAt", desc := "(I)I" } : Jvm.MethodName) ({ cls := "SnowRecorderModel", name := "byteAt", desc := "(I)I" } : Jvm.MethodName) ∈ AW := AW_m 42 (by decide +kernel) (by decide +kernel)
theorem s_43 : Cond.selects "SnowRecorderModel" ({ cls := "SnowRecorderModel", name := "wordFrom", desc := "(II)I" } : Jvm.MethodName) ({ cls := "SnowRecorderModel", name := "wordFrom", desc := "(II)I" } : Jvm.MethodName) ∈ AW := AW_m 43 (by decide +kernel) (by decide +kernel)
theorem s_46 : Cond.selects "SnowRecorderModel" ({ cls := "SnowRecorderModel", name := "wants", desc := "(ZI)Z" } : Jvm.MethodName) ({ cls := "SnowRecorderModel", name := "wants", desc := "(ZI)Z" } : Jvm.MethodName) ∈ AW := AW_m 46 (by decide +kernel) (by decide +kernel)
theorem hd_yX10_byteAt : yX10_byteAt.cls ≠ "java/lang/invoke/MethodHandle" ∧ yX10_byteAt.cls ≠ "java/lang/invoke/VarHandle" ∧ (parseMethodDescriptor yX10_byteAt.desc).map (fun d => d.parameters.length) = some 1 := by decide +kernel
theorem hd_yX10_isLetter : yX10_isLetter.cls ≠ "java/lang/invoke/MethodHandle" ∧ yX10_isLetter.cls ≠ "java/lang/invoke/VarHandle" ∧ (parseMethodDescriptor yX10_isLetter.desc).map (fun d => d.parameters.length) = some 1 := by decide +kernel
theorem hd_yX10_wordFrom : yX10_wordFrom.cls ≠ "java/lang/invoke/MethodHandle" ∧ yX10_wordFrom.cls ≠ "java/lang/invoke/VarHandle" ∧ (parseMethodDescriptor yX10_wordFrom.desc).map (fun d => d.parameters.length) = some 2 := by decide +kernel
theorem hd_yX10_wants : yX10_wants.cls ≠ "java/lang/invoke/MethodHandle" ∧ yX10_wants.cls ≠ "java/lang/invoke/VarHandle" ∧ (parseMethodDescriptor yX10_wants.desc).map (fun d => d.parameters.length) = some 2 := by decide +kernel
theorem hd_yX10_within : yX10_within.cls ≠ "java/lang/invoke/MethodHandle" ∧ yX10_within.cls ≠ "java/lang/invoke/VarHandle" ∧ (parseMethodDescriptor yX10_within.desc).map (fun d => d.parameters.length) = some 3 := by decide +kernel
theorem hd_yX10_go : yX10_go.cls ≠ "java/lang/invoke/MethodHandle" ∧ yX10_go.cls ≠ "java/lang/invoke/VarHandle" ∧ (parseMethodDescriptor yX10_go.desc).map (fun d => d.parameters.length) = some 0 := by decide +kernel
theorem mv_yX10_byteAt : zWv yX10_byteAt cX10_byteAt 2 (some .int) := ⟨q_1658, s_42, q_15, q_1659⟩
theorem ms_yX10_isLetter : zWs yX10_isLetter cX10_isLetter 1 (some .boolean) := ⟨q_1661, q_15, q_1662⟩
theorem mv_yX10_wordFrom : zWv yX10_wordFrom cX10_wordFrom 7 (some .int) := ⟨q_1665, s_43, q_15, q_1666⟩
theorem mv_yX10_wants : zWv yX10_wants cX10_wants 3 (some .boolean) := ⟨q_1680, s_46, q_15, q_1681⟩
theorem ms_yX10_within : zWs yX10_within cX10_within 3 (some .boolean) := ⟨q_1687, q_15, q_1688⟩
theorem mv_yX10_go : zWv yX10_go cX10_go 2 none := ⟨q_1654, s_41, q_15, q_1655⟩
end
section
-- 86l.dec.lean.txt
-- decode rows of yread
theorem dX10_wordFrom_11 : decode cX10_wordFrom 11 = .ok (.iload 6, 2) := by decide +kernel
theorem dX10_wordFrom_13 : decode cX10_wordFrom 13 = .ok (.getstatic 244, 3) := by decide +kernel
theorem dX10_wordFrom_16 : decode cX10_wordFrom 16 = .ok (.arraylength, 1) := by decide +kernel
theorem dX10_wordFrom_17 : decode cX10_wordFrom 17 = .ok (.if_icmp .ge 81, 3) := by decide +kernel
theorem dX10_wordFrom_98 : decode cX10_wordFrom 98 = .ok (.iconst (-1), 1) := by decide +kernel
theorem dX10_wordFrom_99 : decode cX10_wordFrom 99 = .ok (.ireturn, 1) := by decide +kernel
theorem dX10_wordFrom_20 : decode cX10_wordFrom 20 = .ok (.getstatic 244, 3) := by decide +kernel
theorem dX10_wordFrom_23 : decode cX10_wordFrom 23 = .ok (.iload 6, 2) := by decide +kernel
theorem dX10_wordFrom_25 : decode cX10_wordFrom 25 = .ok (.baload, 1) := by decide +kernel
theorem dX10_wordFrom_26 : decode cX10_wordFrom 26 = .ok (.bipush 32, 2) := by decide +kernel
theorem dX10_wordFrom_28 : decode cX10_wordFrom 28 = .ok (.if_icmp .ne 28, 3) := by decide +kernel
theorem dX10_wordFrom_56 : decode cX10_wordFrom 56 = .ok (.iload 5, 2) := by decide +kernel
theorem dX10_wordFrom_58 : decode cX10_wordFrom 58 = .ok (.ifCond .eq 28, 3) := by decide +kernel
theorem dX10_wordFrom_86 : decode cX10_wordFrom 86 = .ok (.iconst 0, 1) := by decide +kernel
theorem dX10_wordFrom_87 : decode cX10_wordFrom 87 = .ok (.istore 5, 2) := by decide +kernel
theorem dX10_wordFrom_89 : decode cX10_wordFrom 89 = .ok (.iinc 4 1, 3) := by decide +kernel
theorem dX10_wordFrom_92 : decode cX10_wordFrom 92 = .ok (.iinc 6 1, 3) := by decide +kernel
theorem dX10_wordFrom_95 : decode cX10_wordFrom 95 = .ok (.goto (-84), 3) := by decide +kernel
theorem dX10_wordFrom_61 : decode cX10_wordFrom 61 = .ok (.iload 4, 2) := by decide +kernel
theorem dX10_wordFrom_63 : decode cX10_wordFrom 63 = .ok (.iload_n 2, 1) := by decide +kernel
theorem dX10_wordFrom_64 : decode cX10_wordFrom 64 = .ok (.if_icmp .ge 22, 3) := by decide +kernel
theorem dX10_wordFrom_67 : decode cX10_wordFrom 67 = .ok (.aload_n 0, 1) := by decide +kernel
theorem dX10_wordFrom_68 : decode cX10_wordFrom 68 = .ok (.iload 4, 2) := by decide +kernel
theorem dX10_wordFrom_70 : decode cX10_wordFrom 70 = .ok (.invokevirtual 248, 3) := by decide +kernel
theorem dX10_wordFrom_73 : decode cX10_wordFrom 73 = .ok (.getstatic 244, 3) := by decide +kernel
theorem dX10_wordFrom_76 : decode cX10_wordFrom 76 = .ok (.iload 6, 2) := by decide +kernel
theorem dX10_wordFrom_78 : decode cX10_wordFrom 78 = .ok (.baload, 1) := by decide +kernel
theorem dX10_wordFrom_79 : decode cX10_wordFrom 79 = .ok (.if_icmp .ne 7, 3) := by decide +kernel
theorem dX10_wordFrom_82 : decode cX10_wordFrom 82 = .ok (.iconst 1, 1) := by decide +kernel
theorem dX10_wordFrom_83 : decode cX10_wordFrom 83 = .ok (.goto 4, 3) := by decide +kernel
theorem dX10_wordFrom_31 : decode cX10_wordFrom 31 = .ok (.iload 5, 2) := by decide +kernel
theorem dX10_wordFrom_33 : decode cX10_wordFrom 33 = .ok (.ifCond .eq 11, 3) := by decide +kernel
theorem dX10_wordFrom_44 : decode cX10_wordFrom 44 = .ok (.iinc 3 1, 3) := by decide +kernel
theorem dX10_wordFrom_47 : decode cX10_wordFrom 47 = .ok (.iload_n 1, 1) := by decide +kernel
theorem dX10_wordFrom_48 : decode cX10_wordFrom 48 = .ok (.istore 4, 2) := by decide +kernel
theorem dX10_wordFrom_50 : decode cX10_wordFrom 50 = .ok (.iconst 1, 1) := by decide +kernel
theorem dX10_wordFrom_51 : decode cX10_wordFrom 51 = .ok (.istore 5, 2) := by decide +kernel
theorem dX10_wordFrom_53 : decode cX10_wordFrom 53 = .ok (.goto 39, 3) := by decide +kernel
theorem dX10_wordFrom_36 : decode cX10_wordFrom 36 = .ok (.iload 4, 2) := by decide +kernel
theorem dX10_wordFrom_38 : decode cX10_wordFrom 38 = .ok (.iload_n 2, 1) := by decide +kernel
theorem dX10_wordFrom_39 : decode cX10_wordFrom 39 = .ok (.if_icmp .ne 5, 3) := by decide +kernel
theorem dX10_wordFrom_42 : decode cX10_wordFrom 42 = .ok (.iload_n 3, 1) := by decide +kernel
theorem dX10_wordFrom_43 : decode cX10_wordFrom 43 = .ok (.ireturn, 1) := by decide +kernel
theorem dX10_wordFrom_0 : decode cX10_wordFrom 0 = .ok (.iconst 0, 1) := by decide +kernel
theorem dX10_wordFrom_1 : decode cX10_wordFrom 1 = .ok (.istore_n 3, 1) := by decide +kernel
theorem dX10_wordFrom_2 : decode cX10_wordFrom 2 = .ok (.iload_n 1, 1) := by decide +kernel
theorem dX10_wordFrom_3 : decode cX10_wordFrom 3 = .ok (.istore 4, 2) := by decide +kernel
theorem dX10_wordFrom_5 : decode cX10_wordFrom 5 = .ok (.iconst 1, 1) := by decide +kernel
theorem dX10_wordFrom_6 : decode cX10_wordFrom 6 = .ok (.istore 5, 2) := by decide +kernel
theorem dX10_wordFrom_8 : decode cX10_wordFrom 8 = .ok (.iconst 0, 1) := by decide +kernel
theorem dX10_wordFrom_9 : decode cX10_wordFrom 9 = .ok (.istore 6, 2) := by decide +kernel
theorem dX10_go_0 : decode cX10_go 0 = .ok (.aload_n 0, 1) := by decide +kernel
theorem dX10_go_1 : decode cX10_go 1 = .ok (.getfield 251, 3) := by decide +kernel
theorem dX10_go_4 : decode cX10_go 4 = .ok (.aload_n 0, 1) := by decide +kernel
theorem dX10_go_5 : decode cX10_go 5 = .ok (.getfield 241, 3) := by decide +kernel
theorem dX10_go_8 : decode cX10_go 8 = .ok (.if_icmp .ge 42, 3) := by decide +kernel
theorem dX10_go_50 : decode cX10_go 50 = .ok (.aload_n 0, 1) := by decide +kernel
theorem dX10_go_51 : decode cX10_go 51 = .ok (.aload_n 0, 1) := by decide +kernel
theorem dX10_go_52 : decode cX10_go 52 = .ok (.getfield 251, 3) := by decide +kernel
theorem dX10_go_55 : decode cX10_go 55 = .ok (.putfield 254, 3) := by decide +kernel
theorem dX10_go_58 : decode cX10_go 58 = .ok (.aload_n 0, 1) := by decide +kernel
theorem dX10_go_59 : decode cX10_go 59 = .ok (.aload_n 0, 1) := by decide +kernel
theorem dX10_go_60 : decode cX10_go 60 = .ok (.getfield 251, 3) := by decide +kernel
theorem dX10_go_63 : decode cX10_go 63 = .ok (.invokevirtual 248, 3) := by decide +kernel
theorem dX10_go_66 : decode cX10_go 66 = .ok (.istore_n 1, 1) := by decide +kernel
theorem dX10_go_67 : decode cX10_go 67 = .ok (.aload_n 0, 1) := by decide +kernel
theorem dX10_go_68 : decode cX10_go 68 = .ok (.iconst (-1), 1) := by decide +kernel
theorem dX10_go_69 : decode cX10_go 69 = .ok (.putfield 257, 3) := by decide +kernel
theorem dX10_go_72 : decode cX10_go 72 = .ok (.aload_n 0, 1) := by decide +kernel
theorem dX10_go_73 : decode cX10_go 73 = .ok (.iconst 0, 1) := by decide +kernel
theorem dX10_go_74 : decode cX10_go 74 = .ok (.putfield 260, 3) := by decide +kernel
theorem dX10_go_77 : decode cX10_go 77 = .ok (.aload_n 0, 1) := by decide +kernel
theorem dX10_go_78 : decode cX10_go 78 = .ok (.getfield 251, 3) := by decide +kernel
theorem dX10_go_81 : decode cX10_go 81 = .ok (.aload_n 0, 1) := by decide +kernel
theorem dX10_go_82 : decode cX10_go 82 = .ok (.getfield 241, 3) := by decide +kernel
theorem dX10_go_85 : decode cX10_go 85 = .ok (.if_icmp .lt 11, 3) := by decide +kernel
theorem dX10_go_96 : decode cX10_go 96 = .ok (.iload_n 1, 1) := by decide +kernel
theorem dX10_go_97 : decode cX10_go 97 = .ok (.invokestatic 266, 3) := by decide +kernel
theorem dX10_go_100 : decode cX10_go 100 = .ok (.ifCond .eq 54, 3) := by decide +kernel
theorem dX10_go_154 : decode cX10_go 154 = .ok (.iload_n 1, 1) := by decide +kernel
theorem dX10_go_155 : decode cX10_go 155 = .ok (.bipush 48, 2) := by decide +kernel
theorem dX10_go_157 : decode cX10_go 157 = .ok (.if_icmp .lt 98, 3) := by decide +kernel
theorem dX10_go_255 : decode cX10_go 255 = .ok (.aload_n 0, 1) := by decide +kernel
theorem dX10_go_256 : decode cX10_go 256 = .ok (.dup, 1) := by decide +kernel
theorem dX10_go_257 : decode cX10_go 257 = .ok (.getfield 251, 3) := by decide +kernel
theorem dX10_go_260 : decode cX10_go 260 = .ok (.iconst 1, 1) := by decide +kernel
theorem dX10_go_261 : decode cX10_go 261 = .ok (.iadd, 1) := by decide +kernel
theorem dX10_go_262 : decode cX10_go 262 = .ok (.putfield 251, 3) := by decide +kernel
theorem dX10_go_265 : decode cX10_go 265 = .ok (.aload_n 0, 1) := by decide +kernel
theorem dX10_go_266 : decode cX10_go 266 = .ok (.iload_n 1, 1) := by decide +kernel
theorem dX10_go_267 : decode cX10_go 267 = .ok (.bipush 59, 2) := by decide +kernel
theorem dX10_go_269 : decode cX10_go 269 = .ok (.if_icmp .eq 9, 3) := by decide +kernel
theorem dX10_go_278 : decode cX10_go 278 = .ok (.iconst 3, 1) := by decide +kernel
theorem dX10_go_279 : decode cX10_go 279 = .ok (.goto 4, 3) := by decide +kernel
theorem dX10_go_283 : decode cX10_go 283 = .ok (.putfield 263, 3) := by decide +kernel
theorem dX10_go_286 : decode cX10_go 286 = .ok (.aload_n 0, 1) := by decide +kernel
theorem dX10_go_287 : decode cX10_go 287 = .ok (.iload_n 1, 1) := by decide +kernel
theorem dX10_go_288 : decode cX10_go 288 = .ok (.putfield 260, 3) := by decide +kernel
theorem dX10_go_291 : decode cX10_go 291 = .ok (.return_, 1) := by decide +kernel
theorem dX10_go_272 : decode cX10_go 272 = .ok (.iload_n 1, 1) := by decide +kernel
theorem dX10_go_273 : decode cX10_go 273 = .ok (.bipush 45, 2) := by decide +kernel
theorem dX10_go_275 : decode cX10_go 275 = .ok (.if_icmp .ne 7, 3) := by decide +kernel
theorem dX10_go_282 : decode cX10_go 282 = .ok (.iconst 4, 1) := by decide +kernel
theorem dX10_go_160 : decode cX10_go 160 = .ok (.iload_n 1, 1) := by decide +kernel
theorem dX10_go_161 : decode cX10_go 161 = .ok (.bipush 57, 2) := by decide +kernel
theorem dX10_go_163 : decode cX10_go 163 = .ok (.if_icmp .gt 92, 3) := by decide +kernel
theorem dX10_go_166 : decode cX10_go 166 = .ok (.aload_n 0, 1) := by decide +kernel
theorem dX10_go_167 : decode cX10_go 167 = .ok (.aload_n 0, 1) := by decide +kernel
theorem dX10_go_168 : decode cX10_go 168 = .ok (.getfield 251, 3) := by decide +kernel
theorem dX10_go_171 : decode cX10_go 171 = .ok (.invokevirtual 248, 3) := by decide +kernel
theorem dX10_go_174 : decode cX10_go 174 = .ok (.bipush 48, 2) := by decide +kernel
theorem dX10_go_176 : decode cX10_go 176 = .ok (.if_icmp .lt 71, 3) := by decide +kernel
theorem dX10_go_247 : decode cX10_go 247 = .ok (.aload_n 0, 1) := by decide +kernel
theorem dX10_go_248 : decode cX10_go 248 = .ok (.iconst 2, 1) := by decide +kernel
theorem dX10_go_249 : decode cX10_go 249 = .ok (.putfield 263, 3) := by decide +kernel
theorem dX10_go_252 : decode cX10_go 252 = .ok (.goto 39, 3) := by decide +kernel
theorem dX10_go_179 : decode cX10_go 179 = .ok (.aload_n 0, 1) := by decide +kernel
theorem dX10_go_180 : decode cX10_go 180 = .ok (.aload_n 0, 1) := by decide +kernel
theorem dX10_go_181 : decode cX10_go 181 = .ok (.getfield 251, 3) := by decide +kernel
theorem dX10_go_184 : decode cX10_go 184 = .ok (.invokevirtual 248, 3) := by decide +kernel
theorem dX10_go_187 : decode cX10_go 187 = .ok (.bipush 57, 2) := by decide +kernel
theorem dX10_go_189 : decode cX10_go 189 = .ok (.if_icmp .gt 58, 3) := by decide +kernel
theorem dX10_go_192 : decode cX10_go 192 = .ok (.aload_n 0, 1) := by decide +kernel
theorem dX10_go_193 : decode cX10_go 193 = .ok (.aload_n 0, 1) := by decide +kernel
theorem dX10_go_194 : decode cX10_go 194 = .ok (.getfield 251, 3) := by decide +kernel
theorem dX10_go_197 : decode cX10_go 197 = .ok (.aload_n 0, 1) := by decide +kernel
theorem dX10_go_198 : decode cX10_go 198 = .ok (.getfield 254, 3) := by decide +kernel
theorem dX10_go_201 : decode cX10_go 201 = .ok (.isub, 1) := by decide +kernel
theorem dX10_go_202 : decode cX10_go 202 = .ok (.iconst 4, 1) := by decide +kernel
theorem dX10_go_203 : decode cX10_go 203 = .ok (.if_icmp .ge 25, 3) := by decide +kernel
theorem dX10_go_228 : decode cX10_go 228 = .ok (.ldc_w 273, 3) := by decide +kernel
theorem dX10_go_231 : decode cX10_go 231 = .ok (.putfield 260, 3) := by decide +kernel
theorem dX10_go_234 : decode cX10_go 234 = .ok (.aload_n 0, 1) := by decide +kernel
theorem dX10_go_235 : decode cX10_go 235 = .ok (.dup, 1) := by decide +kernel
theorem dX10_go_236 : decode cX10_go 236 = .ok (.getfield 251, 3) := by decide +kernel
theorem dX10_go_239 : decode cX10_go 239 = .ok (.iconst 1, 1) := by decide +kernel
theorem dX10_go_240 : decode cX10_go 240 = .ok (.iadd, 1) := by decide +kernel
theorem dX10_go_241 : decode cX10_go 241 = .ok (.putfield 251, 3) := by decide +kernel
theorem dX10_go_244 : decode cX10_go 244 = .ok (.goto (-78), 3) := by decide +kernel
theorem dX10_go_206 : decode cX10_go 206 = .ok (.bipush 10, 2) := by decide +kernel
theorem dX10_go_208 : decode cX10_go 208 = .ok (.aload_n 0, 1) := by decide +kernel
theorem dX10_go_209 : decode cX10_go 209 = .ok (.getfield 260, 3) := by decide +kernel
theorem dX10_go_212 : decode cX10_go 212 = .ok (.imul, 1) := by decide +kernel
theorem dX10_go_213 : decode cX10_go 213 = .ok (.aload_n 0, 1) := by decide +kernel
theorem dX10_go_214 : decode cX10_go 214 = .ok (.aload_n 0, 1) := by decide +kernel
theorem dX10_go_215 : decode cX10_go 215 = .ok (.getfield 251, 3) := by decide +kernel
theorem dX10_go_218 : decode cX10_go 218 = .ok (.invokevirtual 248, 3) := by decide +kernel
theorem dX10_go_221 : decode cX10_go 221 = .ok (.iadd, 1) := by decide +kernel
theorem dX10_go_222 : decode cX10_go 222 = .ok (.bipush 48, 2) := by decide +kernel
theorem dX10_go_224 : decode cX10_go 224 = .ok (.isub, 1) := by decide +kernel
theorem dX10_go_225 : decode cX10_go 225 = .ok (.goto 6, 3) := by decide +kernel
theorem dX10_go_103 : decode cX10_go 103 = .ok (.aload_n 0, 1) := by decide +kernel
theorem dX10_go_104 : decode cX10_go 104 = .ok (.aload_n 0, 1) := by decide +kernel
theorem dX10_go_105 : decode cX10_go 105 = .ok (.getfield 251, 3) := by decide +kernel
theorem dX10_go_108 : decode cX10_go 108 = .ok (.invokevirtual 248, 3) := by decide +kernel
theorem dX10_go_111 : decode cX10_go 111 = .ok (.invokestatic 266, 3) := by decide +kernel
theorem dX10_go_114 : decode cX10_go 114 = .ok (.ifCond .eq 16, 3) := by decide +kernel
theorem dX10_go_130 : decode cX10_go 130 = .ok (.aload_n 0, 1) := by decide +kernel
theorem dX10_go_131 : decode cX10_go 131 = .ok (.iconst 1, 1) := by decide +kernel
theorem dX10_go_132 : decode cX10_go 132 = .ok (.putfield 263, 3) := by decide +kernel
theorem dX10_go_135 : decode cX10_go 135 = .ok (.aload_n 0, 1) := by decide +kernel
theorem dX10_go_136 : decode cX10_go 136 = .ok (.aload_n 0, 1) := by decide +kernel
theorem dX10_go_137 : decode cX10_go 137 = .ok (.aload_n 0, 1) := by decide +kernel
theorem dX10_go_138 : decode cX10_go 138 = .ok (.getfield 254, 3) := by decide +kernel
theorem dX10_go_141 : decode cX10_go 141 = .ok (.aload_n 0, 1) := by decide +kernel
theorem dX10_go_142 : decode cX10_go 142 = .ok (.getfield 251, 3) := by decide +kernel
theorem dX10_go_145 : decode cX10_go 145 = .ok (.invokevirtual 270, 3) := by decide +kernel
theorem dX10_go_148 : decode cX10_go 148 = .ok (.putfield 257, 3) := by decide +kernel
theorem dX10_go_151 : decode cX10_go 151 = .ok (.goto 140, 3) := by decide +kernel
theorem dX10_go_117 : decode cX10_go 117 = .ok (.aload_n 0, 1) := by decide +kernel
theorem dX10_go_118 : decode cX10_go 118 = .ok (.dup, 1) := by decide +kernel
theorem dX10_go_119 : decode cX10_go 119 = .ok (.getfield 251, 3) := by decide +kernel
theorem dX10_go_122 : decode cX10_go 122 = .ok (.iconst 1, 1) := by decide +kernel
theorem dX10_go_123 : decode cX10_go 123 = .ok (.iadd, 1) := by decide +kernel
theorem dX10_go_124 : decode cX10_go 124 = .ok (.putfield 251, 3) := by decide +kernel
theorem dX10_go_127 : decode cX10_go 127 = .ok (.goto (-24), 3) := by decide +kernel
theorem dX10_go_88 : decode cX10_go 88 = .ok (.aload_n 0, 1) := by decide +kernel
theorem dX10_go_89 : decode cX10_go 89 = .ok (.iconst 0, 1) := by decide +kernel
theorem dX10_go_90 : decode cX10_go 90 = .ok (.putfield 263, 3) := by decide +kernel
theorem dX10_go_93 : decode cX10_go 93 = .ok (.goto 198, 3) := by decide +kernel
theorem dX10_go_11 : decode cX10_go 11 = .ok (.aload_n 0, 1) := by decide +kernel
theorem dX10_go_12 : decode cX10_go 12 = .ok (.aload_n 0, 1) := by decide +kernel
theorem dX10_go_13 : decode cX10_go 13 = .ok (.getfield 251, 3) := by decide +kernel
theorem dX10_go_16 : decode cX10_go 16 = .ok (.invokevirtual 248, 3) := by decide +kernel
theorem dX10_go_19 : decode cX10_go 19 = .ok (.bipush 32, 2) := by decide +kernel
theorem dX10_go_21 : decode cX10_go 21 = .ok (.if_icmp .eq 16, 3) := by decide +kernel
theorem dX10_go_37 : decode cX10_go 37 = .ok (.aload_n 0, 1) := by decide +kernel
theorem dX10_go_38 : decode cX10_go 38 = .ok (.dup, 1) := by decide +kernel
theorem dX10_go_39 : decode cX10_go 39 = .ok (.getfield 251, 3) := by decide +kernel
theorem dX10_go_42 : decode cX10_go 42 = .ok (.iconst 1, 1) := by decide +kernel
theorem dX10_go_43 : decode cX10_go 43 = .ok (.iadd, 1) := by decide +kernel
theorem dX10_go_44 : decode cX10_go 44 = .ok (.putfield 251, 3) := by decide +kernel
theorem dX10_go_47 : decode cX10_go 47 = .ok (.goto (-47), 3) := by decide +kernel
theorem dX10_go_24 : decode cX10_go 24 = .ok (.aload_n 0, 1) := by decide +kernel
theorem dX10_go_25 : decode cX10_go 25 = .ok (.aload_n 0, 1) := by decide +kernel
theorem dX10_go_26 : decode cX10_go 26 = .ok (.getfield 251, 3) := by decide +kernel
theorem dX10_go_29 : decode cX10_go 29 = .ok (.invokevirtual 248, 3) := by decide +kernel
theorem dX10_go_32 : decode cX10_go 32 = .ok (.bipush 10, 2) := by decide +kernel
theorem dX10_go_34 : decode cX10_go 34 = .ok (.if_icmp .ne 16, 3) := by decide +kernel
theorem dX10_wants_0 : decode cX10_wants 0 = .ok (.aload_n 0, 1) := by decide +kernel
theorem dX10_wants_1 : decode cX10_wants 1 = .ok (.getfield 274, 3) := by decide +kernel
theorem dX10_wants_4 : decode cX10_wants 4 = .ok (.ifCond .ne 20, 3) := by decide +kernel
theorem dX10_wants_7 : decode cX10_wants 7 = .ok (.iload_n 1, 1) := by decide +kernel
theorem dX10_wants_8 : decode cX10_wants 8 = .ok (.ifCond .ne 16, 3) := by decide +kernel
theorem dX10_wants_24 : decode cX10_wants 24 = .ok (.aload_n 0, 1) := by decide +kernel
theorem dX10_wants_25 : decode cX10_wants 25 = .ok (.getfield 274, 3) := by decide +kernel
theorem dX10_wants_28 : decode cX10_wants 28 = .ok (.ifCond .ne 7, 3) := by decide +kernel
theorem dX10_wants_31 : decode cX10_wants 31 = .ok (.iconst 1, 1) := by decide +kernel
theorem dX10_wants_32 : decode cX10_wants 32 = .ok (.goto 4, 3) := by decide +kernel
theorem dX10_wants_36 : decode cX10_wants 36 = .ok (.ireturn, 1) := by decide +kernel
theorem dX10_wants_11 : decode cX10_wants 11 = .ok (.aload_n 0, 1) := by decide +kernel
theorem dX10_wants_12 : decode cX10_wants 12 = .ok (.iload_n 2, 1) := by decide +kernel
theorem dX10_wants_13 : decode cX10_wants 13 = .ok (.putfield 274, 3) := by decide +kernel
theorem dX10_wants_16 : decode cX10_wants 16 = .ok (.aload_n 0, 1) := by decide +kernel
theorem dX10_wants_17 : decode cX10_wants 17 = .ok (.aload_n 0, 1) := by decide +kernel
theorem dX10_wants_18 : decode cX10_wants 18 = .ok (.getfield 254, 3) := by decide +kernel
theorem dX10_wants_21 : decode cX10_wants 21 = .ok (.putfield 49, 3) := by decide +kernel
theorem dX10_wants_35 : decode cX10_wants 35 = .ok (.iconst 0, 1) := by decide +kernel
theorem dX10_number_0 : decode cX10_number 0 = .ok (.aload_n 0, 1) := by decide +kernel
theorem dX10_number_1 : decode cX10_number 1 = .ok (.aload_n 0, 1) := by decide +kernel
theorem dX10_number_2 : decode cX10_number 2 = .ok (.getfield 263, 3) := by decide +kernel
theorem dX10_number_5 : decode cX10_number 5 = .ok (.iconst 2, 1) := by decide +kernel
theorem dX10_number_6 : decode cX10_number 6 = .ok (.if_icmp .ne 7, 3) := by decide +kernel
theorem dX10_number_13 : decode cX10_number 13 = .ok (.iconst 0, 1) := by decide +kernel
theorem dX10_number_14 : decode cX10_number 14 = .ok (.iconst 1, 1) := by decide +kernel
theorem dX10_number_15 : decode cX10_number 15 = .ok (.invokevirtual 277, 3) := by decide +kernel
theorem dX10_number_18 : decode cX10_number 18 = .ok (.ifCond .eq 20, 3) := by decide +kernel
theorem dX10_number_38 : decode cX10_number 38 = .ok (.iload_n 1, 1) := by decide +kernel
theorem dX10_number_39 : decode cX10_number 39 = .ok (.ireturn, 1) := by decide +kernel
theorem dX10_number_9 : decode cX10_number 9 = .ok (.iconst 1, 1) := by decide +kernel
theorem dX10_number_10 : decode cX10_number 10 = .ok (.goto 4, 3) := by decide +kernel
theorem dX10_number_21 : decode cX10_number 21 = .ok (.aload_n 0, 1) := by decide +kernel
theorem dX10_number_22 : decode cX10_number 22 = .ok (.aload_n 0, 1) := by decide +kernel
theorem dX10_number_23 : decode cX10_number 23 = .ok (.getfield 260, 3) := by decide +kernel
theorem dX10_number_26 : decode cX10_number 26 = .ok (.iload_n 1, 1) := by decide +kernel
theorem dX10_number_27 : decode cX10_number 27 = .ok (.iload_n 2, 1) := by decide +kernel
theorem dX10_number_28 : decode cX10_number 28 = .ok (.invokestatic 281, 3) := by decide +kernel
theorem dX10_number_31 : decode cX10_number 31 = .ok (.iconst 2, 1) := by decide +kernel
theorem dX10_number_32 : decode cX10_number 32 = .ok (.invokevirtual 277, 3) := by decide +kernel
theorem dX10_number_35 : decode cX10_number 35 = .ok (.ifCond .ne 5, 3) := by decide +kernel
theorem dX10_number_40 : decode cX10_number 40 = .ok (.aload_n 0, 1) := by decide +kernel
theorem dX10_number_41 : decode cX10_number 41 = .ok (.getfield 260, 3) := by decide +kernel
theorem dX10_number_44 : decode cX10_number 44 = .ok (.istore_n 3, 1) := by decide +kernel
theorem dX10_number_45 : decode cX10_number 45 = .ok (.aload_n 0, 1) := by decide +kernel
theorem dX10_number_46 : decode cX10_number 46 = .ok (.invokevirtual 285, 3) := by decide +kernel
theorem dX10_number_49 : decode cX10_number 49 = .ok (.iload_n 3, 1) := by decide +kernel
theorem dX10_number_50 : decode cX10_number 50 = .ok (.ireturn, 1) := by decide +kernel
theorem dX10_is_0 : decode cX10_is 0 = .ok (.aload_n 0, 1) := by decide +kernel
theorem dX10_is_1 : decode cX10_is 1 = .ok (.getfield 274, 3) := by decide +kernel
theorem dX10_is_4 : decode cX10_is 4 = .ok (.ifCond .ne 23, 3) := by decide +kernel
theorem dX10_is_7 : decode cX10_is 7 = .ok (.aload_n 0, 1) := by decide +kernel
theorem dX10_is_8 : decode cX10_is 8 = .ok (.getfield 263, 3) := by decide +kernel
theorem dX10_is_11 : decode cX10_is 11 = .ok (.iconst 1, 1) := by decide +kernel
theorem dX10_is_12 : decode cX10_is 12 = .ok (.if_icmp .ne 15, 3) := by decide +kernel
theorem dX10_is_27 : decode cX10_is 27 = .ok (.iconst 0, 1) := by decide +kernel
theorem dX10_is_28 : decode cX10_is 28 = .ok (.ireturn, 1) := by decide +kernel
theorem dX10_is_15 : decode cX10_is 15 = .ok (.aload_n 0, 1) := by decide +kernel
theorem dX10_is_16 : decode cX10_is 16 = .ok (.getfield 257, 3) := by decide +kernel
theorem dX10_is_19 : decode cX10_is 19 = .ok (.iload_n 1, 1) := by decide +kernel
theorem dX10_is_20 : decode cX10_is 20 = .ok (.if_icmp .ne 7, 3) := by decide +kernel
theorem dX10_is_23 : decode cX10_is 23 = .ok (.iconst 1, 1) := by decide +kernel
theorem dX10_is_24 : decode cX10_is 24 = .ok (.goto 4, 3) := by decide +kernel
theorem dX10_isKind_0 : decode cX10_isKind 0 = .ok (.aload_n 0, 1) := by decide +kernel
theorem dX10_isKind_1 : decode cX10_isKind 1 = .ok (.getfield 263, 3) := by decide +kernel
theorem dX10_isKind_4 : decode cX10_isKind 4 = .ok (.iconst 1, 1) := by decide +kernel
theorem dX10_isKind_5 : decode cX10_isKind 5 = .ok (.if_icmp .ne 29, 3) := by decide +kernel
theorem dX10_isKind_34 : decode cX10_isKind 34 = .ok (.iconst 0, 1) := by decide +kernel
theorem dX10_isKind_35 : decode cX10_isKind 35 = .ok (.ireturn, 1) := by decide +kernel
theorem dX10_isKind_8 : decode cX10_isKind 8 = .ok (.aload_n 0, 1) := by decide +kernel
theorem dX10_isKind_9 : decode cX10_isKind 9 = .ok (.getfield 257, 3) := by decide +kernel
theorem dX10_isKind_12 : decode cX10_isKind 12 = .ok (.bipush 9, 2) := by decide +kernel
theorem dX10_isKind_14 : decode cX10_isKind 14 = .ok (.bipush 12, 2) := by decide +kernel
theorem dX10_isKind_16 : decode cX10_isKind 16 = .ok (.invokestatic 281, 3) := by decide +kernel
theorem dX10_isKind_19 : decode cX10_isKind 19 = .ok (.ifCond .ne 11, 3) := by decide +kernel
theorem dX10_isKind_30 : decode cX10_isKind 30 = .ok (.iconst 1, 1) := by decide +kernel
theorem dX10_isKind_31 : decode cX10_isKind 31 = .ok (.goto 4, 3) := by decide +kernel
theorem dX10_isKind_22 : decode cX10_isKind 22 = .ok (.aload_n 0, 1) := by decide +kernel
theorem dX10_isKind_23 : decode cX10_isKind 23 = .ok (.getfield 257, 3) := by decide +kernel
theorem dX10_isKind_26 : decode cX10_isKind 26 = .ok (.iconst 5, 1) := by decide +kernel
theorem dX10_isKind_27 : decode cX10_isKind 27 = .ok (.if_icmp .ne 7, 3) := by decide +kernel
theorem dX10_kindHere_0 : decode cX10_kindHere 0 = .ok (.aload_n 0, 1) := by decide +kernel
theorem dX10_kindHere_1 : decode cX10_kindHere 1 = .ok (.getfield 257, 3) := by decide +kernel
theorem dX10_kindHere_4 : decode cX10_kindHere 4 = .ok (.iconst 5, 1) := by decide +kernel
theorem dX10_kindHere_5 : decode cX10_kindHere 5 = .ok (.if_icmp .ne 7, 3) := by decide +kernel
theorem dX10_kindHere_12 : decode cX10_kindHere 12 = .ok (.aload_n 0, 1) := by decide +kernel
theorem dX10_kindHere_13 : decode cX10_kindHere 13 = .ok (.getfield 257, 3) := by decide +kernel
theorem dX10_kindHere_16 : decode cX10_kindHere 16 = .ok (.bipush 9, 2) := by decide +kernel
theorem dX10_kindHere_18 : decode cX10_kindHere 18 = .ok (.isub, 1) := by decide +kernel
theorem dX10_kindHere_19 : decode cX10_kindHere 19 = .ok (.ireturn, 1) := by decide +kernel
theorem dX10_kindHere_8 : decode cX10_kindHere 8 = .ok (.iconst 4, 1) := by decide +kernel
theorem dX10_kindHere_9 : decode cX10_kindHere 9 = .ok (.goto 10, 3) := by decide +kernel
end
