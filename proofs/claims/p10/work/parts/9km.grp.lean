section
-- 9km.pq6.lean.txt
set_option maxRecDepth 100000 in
set_option maxHeartbeats 4000000 in
theorem c_pJoin (l : Launch) (D : va_G) (A : Nat → Prop) (cs : Nat → ClassId) (tt : Nat) (N : Nat) (ad : Nat → Nat) (g : Nat → va_E) (a : Nat) (hN : a + 2 ≤ N) (sz ro : Int) (r : Nat → Int) (hz : 0 ≤ sz ∧ sz ≤ 12) (ha : isPack cs ad g a sz ro r) (n : Nat) (K : Nat → Int) (hn : sz = (n : Int)) (hC : ∀ j f, j < n → f < 7 → r (12 * f + j) = K (7 * j + f)) (hO : okP K n) (hn2 : n = 12) : zM l yX3_joinLowest cX3_joinLowest 8 none ({ frames := 2, cells := 0, slots := 0, locals := 120 } : Room) D A cs tt N ad g [.ref (ad a)] (rV0 N ad fun g' => (∃ r' : Nat → Int, isPack cs ad g' a (sz - 1) (ro) r' ∧ ∀ y f, y < 11 → f < 7 → r' (12 * f + y) = (joK K) (7 * y + f)) ∧ ∀ q, q ≠ a → q ≠ a + 1 → g' q = g q) := by
  have hay1 : zAt ad (a) (ad a) := rfl
  have hay2 : zAt ad (a + 1) (ad (a + 1)) := rfl
  have hn12 := hO.1
  obtain ⟨⟨⟨a0, a1, a2, a3, a4, a5, a6⟩, a9⟩, ⟨b0, b1, b2, b3, b4, b5, b6⟩, b9⟩ := hO.l01 (by omega)
  have hjt := joT_b hO (by omega)
  refine z_of (by decide) (Nat.le_of_ble_eq_true rfl) ?_
  intro p e s m below meth c C hr hlk hnm
  refine z_lv (lv' := [(0, .ref (ad a))]) [0] rfl ?_
  have lpo : ∀ (n9 : Nat) (row : Int) (r9 : Nat → Int) (fr : Nat) (g1 : Nat → va_E), (84 - row).toNat = n9 → (isPack cs ad g1 a sz ro r9) → (∀ q, q ≠ a → q ≠ a + 1 → g1 q = g q) → (row = 12 * (fr : Int)) → (fr ≤ 7) → (∀ f, f < 7 → r9 (12 * f) = joK K f) → (∀ j f, 1 ≤ j → j < 11 → f < 7 → 12 * f + j < 12 * fr + 1 → r9 (12 * f + j) = K (7 * (j + 1) + f)) → (∀ j f, 1 ≤ j → j < 12 → f < 7 → 12 * fr + 1 ≤ 12 * f + j → r9 (12 * f + j) = K (7 * j + f)) → zV p l e ({ frames := 2, cells := 0, slots := 0, locals := 120 } : Room) s m ([.ref (ad a)] : List Value).toArray below meth c (MQ below (zPost D A (rV0 N ad fun g' => (∃ r' : Nat → Int, isPack cs ad g' a (sz - 1) (ro) r' ∧ ∀ y f, y < 11 → f < 7 → r' (12 * f + y) = (joK K) (7 * y + f)) ∧ ∀ q, q ≠ a → q ≠ a + 1 → g' q = g q)) ([.ref (ad a)] : List Value).toArray s ({ frames := 2, cells := 0, slots := 0, locals := 120 } : Room).cells ({ frames := 2, cells := 0, slots := 0, locals := 120 } : Room).slots A) D A 8 (N) ad g1 (0) (0) 175 [(6, .int (zI (row))), (0, .ref (ad a))] [] := by
    intro n9
    induction n9 using Nat.strongRecOn with
    | ind n9 ih_lpo =>
      intro row r9 fr g1 hm9 p9 f3 hrow hfr hA9 hB9 hC9
      have hay3 : zAt ad (a) (ad a) := rfl
      have hay4 : zAt ad (a + 1) (ad (a + 1)) := rfl
      subst hrow
      refine z_iload C 0 dX3_joinLowest_175 rfl ?_
      refine z_bipush (z := 84) C dX3_joinLowest_177 (by decide) ?_
      refine z_icmp_ge (tgt := 228) C dX3_joinLowest_179 (by decide) (by omega) (by omega) (fun hby5 => ?_) (fun hby5 => ?_)
      · refine z_aload_n C 1 dX3_joinLowest_228 rfl ?_
        refine z_dup C dX3_joinLowest_229 rfl ?_
        refine z_get (v := .int (zI (sz))) C (lt_A0 hN rfl) hay3 p9.1 rfl inA_X3 0 (by decide) q_154 rfl rfl dX3_joinLowest_230 ?_
        refine z_iconst (z := 1) C dX3_joinLowest_233 rfl ?_
        refine z_isub C dX3_joinLowest_234 ?_
        refine z_put (fs' := [.int (zI (sz - 1)), .int (zI (ro)), .ref (ad (a + 1))]) C (lt_A0 hN rfl) hay3 p9.1 tyX3 tyX3_ok nmX3 rfl inA_X3 0 (by decide) q_154 rfl rfl rfl rfl (Nat.le_of_ble_eq_true rfl) rfl dX3_joinLowest_235 (fun gy6 egy7 => ?_)
        have hgy8 := up_s egy7
        have hgy9 := up_n egy7 p9.2 (ne_o (i := a) (c := 1) (d := 0) rfl)
        have hfin : ∀ y f, y < 11 → f < 7 → r9 (12 * f + y) = (joK K) (7 * y + f) := by
          intro y f h1 h2
          by_cases e9 : y = 0
          · subst e9; rw [Nat.add_zero, Nat.mul_zero, Nat.zero_add]; exact hA9 f h2
          · rw [joK_l (by omega)]; exact hB9 y f (by omega) h1 h2 (by omega)
        exact z_vret C hr hlk dX3_joinLowest_238 (by decide) (by decide) ⟨rfl, rfl, rfl, ⟨_, ⟨hgy8, hgy9⟩, hfin⟩, fun j j1 j2 => by rw [egy7, va_up_ne _ _ (by omega)]; exact f3 j j1 j2⟩
      · refine z_iconst (z := 2) C dX3_joinLowest_182 rfl ?_
        refine z_istore (lv' := [(7, .int (zI (2))), (6, .int (zI (12 * (fr : Int)))), (0, .ref (ad a))]) C dX3_joinLowest_183 (by decide) rfl ?_
        have lpi : ∀ (n9 : Nat) (i : Int) (r9 : Nat → Int) (k : Nat) (g1 : Nat → va_E), (12 - i).toNat = n9 → (isPack cs ad g1 a sz ro r9) → (∀ q, q ≠ a → q ≠ a + 1 → g1 q = g q) → (i = (k : Int)) → (2 ≤ k ∧ k ≤ 12) → (∀ f, f < 7 → r9 (12 * f) = joK K f) → (∀ j f, 1 ≤ j → j < 11 → f < 7 → 12 * f + j + 1 < 12 * fr + k → r9 (12 * f + j) = K (7 * (j + 1) + f)) → (∀ j f, 1 ≤ j → j < 12 → f < 7 → 12 * fr + k ≤ 12 * f + j + 1 → r9 (12 * f + j) = K (7 * j + f)) → zV p l e ({ frames := 2, cells := 0, slots := 0, locals := 120 } : Room) s m ([.ref (ad a)] : List Value).toArray below meth c (MQ below (zPost D A (rV0 N ad fun g' => (∃ r' : Nat → Int, isPack cs ad g' a (sz - 1) (ro) r' ∧ ∀ y f, y < 11 → f < 7 → r' (12 * f + y) = (joK K) (7 * y + f)) ∧ ∀ q, q ≠ a → q ≠ a + 1 → g' q = g q)) ([.ref (ad a)] : List Value).toArray s ({ frames := 2, cells := 0, slots := 0, locals := 120 } : Room).cells ({ frames := 2, cells := 0, slots := 0, locals := 120 } : Room).slots A) D A 8 (N) ad g1 (0) (0) 185 [(7, .int (zI (i))), (6, .int (zI (12 * (fr : Int)))), (0, .ref (ad a))] [] := by
          intro n9
          induction n9 using Nat.strongRecOn with
          | ind n9 ih_lpi =>
            intro i r9 k g1 hm9 p9 f3 hik hk hA9 hB9 hC9
            have hay10 : zAt ad (a) (ad a) := rfl
            have hay11 : zAt ad (a + 1) (ad (a + 1)) := rfl
            subst hik
            refine z_iload C 0 dX3_joinLowest_185 rfl ?_
            refine z_aload_n C 2 dX3_joinLowest_187 rfl ?_
            refine z_get (v := .int (zI (sz))) C (lt_A0 hN rfl) hay10 p9.1 rfl inA_X3 0 (by decide) q_154 rfl rfl dX3_joinLowest_188 ?_
            refine z_icmp_ge (tgt := 222) C dX3_joinLowest_191 (by decide) (by omega) (by omega) (fun hby12 => ?_) (fun hby12 => ?_)
            · refine z_iinc (z := 12 * (fr : Int) + 12) (lv' := [(6, .int (zI (12 * (fr : Int) + 12))), (7, .int (zI ((k : Int)))), (0, .ref (ad a))]) (j := 1) C dX3_joinLowest_222 rfl rfl (by decide) rfl ?_
              refine z_goto (tgt := 175) C dX3_joinLowest_225 (by decide) ?_
              refine z_lv (lv' := [(6, .int (zI (12 * (fr : Int) + 12))), (0, .ref (ad a))]) [0, 2] rfl ?_
              exact ih_lpo _ (by omega) (12 * (fr : Int) + 12) r9 (fr + 1) g1 rfl ⟨p9.1, p9.2⟩ (fun j j1 j2 => by exact f3 j j1 j2) (by omega) (by omega) hA9 (fun j f h1 h2 h3 h4 => hB9 j f h1 h2 h3 (by omega)) (fun j f h1 h2 h3 h4 => hC9 j f h1 h2 h3 (by omega))
            · refine z_aload_n C 2 dX3_joinLowest_194 rfl ?_
              refine z_get (v := .ref (ad (a + 1))) C (lt_A0 hN rfl) hay10 p9.1 rfl inA_X3 2 (by decide) q_162 rfl rfl dX3_joinLowest_195 ?_
              refine z_iload C 1 dX3_joinLowest_198 rfl ?_
              refine z_iload C 0 dX3_joinLowest_200 rfl ?_
              refine z_iadd C dX3_joinLowest_202 ?_
              refine z_iconst (z := 1) C dX3_joinLowest_203 rfl ?_
              refine z_isub C dX3_joinLowest_204 ?_
              refine z_aload_n C 2 dX3_joinLowest_205 rfl ?_
              refine z_get (v := .ref (ad (a + 1))) C (lt_A0 hN rfl) hay10 p9.1 rfl inA_X3 2 (by decide) q_162 rfl rfl dX3_joinLowest_206 ?_
              refine z_iload C 1 dX3_joinLowest_209 rfl ?_
              refine z_iload C 0 dX3_joinLowest_211 rfl ?_
              refine z_iadd C dX3_joinLowest_213 ?_
              refine z_iald C (lt_A (c := 1) hN rfl) hay11 p9.2 (12 * fr + k) (by omega) (by omega) (by decide) dX3_joinLowest_214 ?_
              refine z_iast C (lt_A (c := 1) hN rfl) hay11 p9.2 (12 * fr + (k - 1)) (by omega) (by omega) (by decide) dX3_joinLowest_215 (fun gy13 egy14 => ?_)
              have hgy15 := up_s egy14
              refine z_iinc (z := (k : Int) + 1) (lv' := [(7, .int (zI ((k : Int) + 1))), (6, .int (zI (12 * (fr : Int)))), (0, .ref (ad a))]) (j := 0) C dX3_joinLowest_216 rfl rfl (by decide) rfl ?_
              refine z_goto (tgt := 185) C dX3_joinLowest_219 (by decide) ?_
              refine z_lv (lv' := [(7, .int (zI ((k : Int) + 1))), (6, .int (zI (12 * (fr : Int)))), (0, .ref (ad a))]) [0, 1, 2] rfl ?_
              have hx9 : r9 (12 * fr + k) = K (7 * k + fr) := hC9 k fr (by omega) (by omega) (by omega) (by omega)
              have hgy16 := up_n egy14 p9.1 (ne_o (i := a) (c := 0) (d := 1) rfl)
              exact ih_lpi _ (by omega) ((k : Int) + 1) (uZ (r9) (12 * fr + (k - 1)) (r9 (12 * fr + k))) (k + 1) gy13 rfl ⟨hgy16, hgy15⟩ (fun j j1 j2 => by rw [egy14, va_up_ne _ _ (by omega)]; exact f3 j j1 j2) (by omega) (by omega) (fun f h1 => (uZ_n _ _ (by omega)).trans (hA9 f h1)) (fun j f h1 h2 h3 h4 => by
                  by_cases e9 : 12 * f + j = 12 * fr + (k - 1)
                  · obtain rfl : f = fr := by omega
                    obtain rfl : k = j + 1 := by omega
                    exact (uZ_e e9).trans hx9
                  · exact (uZ_n _ _ e9).trans (hB9 j f h1 h2 h3 (by omega))) (fun j f h1 h2 h3 h4 => (uZ_n _ _ (by omega)).trans (hC9 j f h1 h2 h3 (by omega)))
        refine z_lv (lv' := [(7, .int (zI (2))), (6, .int (zI (12 * (fr : Int)))), (0, .ref (ad a))]) [0, 1, 2] rfl ?_
        exact lpi _ (2) r9 2 g1 rfl ⟨p9.1, p9.2⟩ (fun j j1 j2 => by exact f3 j j1 j2) rfl (by omega) hA9 (fun j f h1 h2 h3 h4 => hB9 j f h1 h2 h3 (by omega)) (fun j f h1 h2 h3 h4 => hC9 j f h1 h2 h3 (by omega))
  refine z_aload_n C 0 dX3_joinLowest_0 rfl ?_
  refine z_get (v := .ref (ad (a + 1))) C (lt_A0 hN rfl) hay1 ha.1 rfl inA_X3 2 (by decide) q_162 rfl rfl dX3_joinLowest_1 ?_
  refine z_bipush (z := 12) C dX3_joinLowest_4 (by decide) ?_
  refine z_iald C (lt_A (c := 1) hN rfl) hay2 ha.2 (12 + 0) (by omega) (by omega) (by decide) dX3_joinLowest_6 ?_
  rw [show r (12 + 0) = K 1 from hC 0 1 (by omega) (by decide)]
  refine z_i2l C dX3_joinLowest_7 (by omega) ?_
  refine z_lstore_n (lv' := [(1, .long (zJ (K 1))), (0, .ref (ad a))]) C dX3_joinLowest_8 rfl (by decide) rfl ?_
  refine z_aload_n C 1 dX3_joinLowest_9 rfl ?_
  refine z_get (v := .ref (ad (a + 1))) C (lt_A0 hN rfl) hay1 ha.1 rfl inA_X3 2 (by decide) q_162 rfl rfl dX3_joinLowest_10 ?_
  refine z_bipush (z := 13) C dX3_joinLowest_13 (by decide) ?_
  refine z_iald C (lt_A (c := 1) hN rfl) hay2 ha.2 (12 + 1) (by omega) (by omega) (by decide) dX3_joinLowest_15 ?_
  rw [show r (12 + 1) = K 8 from hC 1 1 (by omega) (by decide)]
  refine z_i2l C dX3_joinLowest_16 (by omega) ?_
  refine z_lstore_n (lv' := [(3, .long (zJ (K 8))), (1, .long (zJ (K 1))), (0, .ref (ad a))]) C dX3_joinLowest_17 rfl (by decide) rfl ?_
  refine z_lload_n C 0 dX3_joinLowest_18 rfl ?_
  refine z_lload_n C 1 dX3_joinLowest_19 rfl ?_
  refine z_lcmp C dX3_joinLowest_20 (by omega) (by omega) ?_
  have hczr := cmpZ_r (a := K 8) (b := K 1)
  refine z_if_le (tgt := 28) C dX3_joinLowest_21 (by decide) (by omega) (fun hby17 => ?_) (fun hby17 => ?_)
  · have hcy18 : K 8 ≤ K 1 := cmpZ_le.mp hby17
    refine z_iconst (z := 0) C dX3_joinLowest_28 rfl ?_
    refine z_istore (lv' := [(5, .int (zI (0))), (3, .long (zJ (K 8))), (1, .long (zJ (K 1))), (0, .ref (ad a))]) C dX3_joinLowest_29 (by decide) rfl ?_
    refine z_aload_n C 3 dX3_joinLowest_31 rfl ?_
    refine z_get (v := .ref (ad (a + 1))) C (lt_A0 hN rfl) hay1 ha.1 rfl inA_X3 2 (by decide) q_162 rfl rfl dX3_joinLowest_32 ?_
    refine z_iconst (z := 0) C dX3_joinLowest_35 rfl ?_
    refine z_aload_n C 3 dX3_joinLowest_36 rfl ?_
    refine z_get (v := .ref (ad (a + 1))) C (lt_A0 hN rfl) hay1 ha.1 rfl inA_X3 2 (by decide) q_162 rfl rfl dX3_joinLowest_37 ?_
    refine z_iconst (z := 0) C dX3_joinLowest_40 rfl ?_
    refine z_iload C 0 dX3_joinLowest_41 rfl ?_
    refine z_iadd C dX3_joinLowest_43 ?_
    refine z_iald C (lt_A (c := 1) hN rfl) hay2 ha.2 (0 + 0) (by omega) (by omega) (by decide) dX3_joinLowest_44 ?_
    rw [show r (0 + 0) = K 0 from hC 0 0 (by omega) (by decide)]
    refine z_iast C (lt_A (c := 1) hN rfl) hay2 ha.2 (0 + 0) (by omega) (by omega) (by decide) dX3_joinLowest_45 (fun gy19 egy20 => ?_)
    have hgy21 := up_s egy20
    obtain ⟨ry22, hvy23⟩ : ∃ rZ9 : Nat → Int, rZ9 = uZ r (0 + 0) (K 0) := ⟨_, rfl⟩
    rw [← hvy23] at hgy21
    obtain ⟨Ky24, hKy25⟩ : ∃ KZ9 : Nat → Int, KZ9 = uZ K 0 (K 0) := ⟨_, rfl⟩
    have hCy26 := lay_u (l := 0) (f0 := 0) hC hvy23 hKy25 (by omega) (by omega) (by omega) (by decide)
    refine z_aload_n C 3 dX3_joinLowest_46 rfl ?_
    have hgy27 := up_n egy20 ha.1 (ne_o (i := a) (c := 0) (d := 1) rfl)
    refine z_get (v := .ref (ad (a + 1))) C (lt_A0 hN rfl) hay1 hgy27 rfl inA_X3 2 (by decide) q_162 rfl rfl dX3_joinLowest_47 ?_
    refine z_bipush (z := 72) C dX3_joinLowest_50 (by decide) ?_
    refine z_aload_n C 3 dX3_joinLowest_52 rfl ?_
    refine z_get (v := .ref (ad (a + 1))) C (lt_A0 hN rfl) hay1 hgy27 rfl inA_X3 2 (by decide) q_162 rfl rfl dX3_joinLowest_53 ?_
    refine z_bipush (z := 72) C dX3_joinLowest_56 (by decide) ?_
    refine z_iload C 0 dX3_joinLowest_58 rfl ?_
    refine z_iadd C dX3_joinLowest_60 ?_
    refine z_iald C (lt_A (c := 1) hN rfl) hay2 hgy21 (72 + 0) (by omega) (by omega) (by decide) dX3_joinLowest_61 ?_
    rw [show ry22 (72 + 0) = K 6 from ((hCy26 0 6 (by omega) (by decide)).trans ((congrFun hKy25 _).trans (uZ_n _ _ (by omega))))]
    refine z_iast C (lt_A (c := 1) hN rfl) hay2 hgy21 (72 + 0) (by omega) (by omega) (by decide) dX3_joinLowest_62 (fun gy28 egy29 => ?_)
    have hgy30 := up_s egy29
    obtain ⟨ry31, hvy32⟩ : ∃ rZ9 : Nat → Int, rZ9 = uZ ry22 (72 + 0) (K 6) := ⟨_, rfl⟩
    rw [← hvy32] at hgy30
    obtain ⟨Ky33, hKy34⟩ : ∃ KZ9 : Nat → Int, KZ9 = uZ Ky24 6 (K 6) := ⟨_, rfl⟩
    have hCy35 := lay_u (l := 0) (f0 := 6) hCy26 hvy32 hKy34 (by omega) (by omega) (by omega) (by decide)
    refine z_aload_n C 3 dX3_joinLowest_63 rfl ?_
    have hgy36 := up_n egy29 hgy27 (ne_o (i := a) (c := 0) (d := 1) rfl)
    refine z_get (v := .ref (ad (a + 1))) C (lt_A0 hN rfl) hay1 hgy36 rfl inA_X3 2 (by decide) q_162 rfl rfl dX3_joinLowest_64 ?_
    refine z_bipush (z := 48) C dX3_joinLowest_67 (by decide) ?_
    refine z_aload_n C 3 dX3_joinLowest_69 rfl ?_
    refine z_get (v := .ref (ad (a + 1))) C (lt_A0 hN rfl) hay1 hgy36 rfl inA_X3 2 (by decide) q_162 rfl rfl dX3_joinLowest_70 ?_
    refine z_bipush (z := 48) C dX3_joinLowest_73 (by decide) ?_
    refine z_iald C (lt_A (c := 1) hN rfl) hay2 hgy30 (48 + 0) (by omega) (by omega) (by decide) dX3_joinLowest_75 ?_
    rw [show ry31 (48 + 0) = K 4 from ((((hCy35 0 4 (by omega) (by decide)).trans ((congrFun hKy34 _).trans (uZ_n _ _ (by omega))))).trans ((congrFun hKy25 _).trans (uZ_n _ _ (by omega))))]
    refine z_i2l C dX3_joinLowest_76 (by omega) ?_
    refine z_lload_n C 2 dX3_joinLowest_77 rfl ?_
    refine z_lmul C dX3_joinLowest_78 ?_
    refine z_aload_n C 3 dX3_joinLowest_79 rfl ?_
    refine z_get (v := .ref (ad (a + 1))) C (lt_A0 hN rfl) hay1 hgy36 rfl inA_X3 2 (by decide) q_162 rfl rfl dX3_joinLowest_80 ?_
    refine z_bipush (z := 49) C dX3_joinLowest_83 (by decide) ?_
    refine z_iald C (lt_A (c := 1) hN rfl) hay2 hgy30 (48 + 1) (by omega) (by omega) (by decide) dX3_joinLowest_85 ?_
    rw [show ry31 (48 + 1) = K 11 from ((((hCy35 1 4 (by omega) (by decide)).trans ((congrFun hKy34 _).trans (uZ_n _ _ (by omega))))).trans ((congrFun hKy25 _).trans (uZ_n _ _ (by omega))))]
    refine z_i2l C dX3_joinLowest_86 (by omega) ?_
    refine z_lload_n C 1 dX3_joinLowest_87 rfl ?_
    refine z_lmul C dX3_joinLowest_88 ?_
    refine z_ladd C dX3_joinLowest_89 ?_
    refine z_lload_n C 2 dX3_joinLowest_90 rfl ?_
    refine z_lload_n C 1 dX3_joinLowest_91 rfl ?_
    refine z_ladd C dX3_joinLowest_92 ?_
    refine z_cSN (As := [.long (zJ (((K 4) * (K 1)) + ((K 11) * (K 8)))), .long (zJ ((K 1) + (K 8)))]) (rest := [.int (zI (48)), .ref (ad (a + 1))]) C (c_pPart l D A cs tt N ad _ (((K 4) * (K 1)) + ((K 11) * (K 8))) ((K 1) + (K 8)) (by omega) (by omega)) ms_yX9_part n_466 hd_yX9_part (by decide) (Nat.le_of_ble_eq_true rfl) (by decide) dX3_joinLowest_93 rfl (kI0 fun vy37 gvy37 hvy37 => ?_)
    obtain ⟨rfl, rfl⟩ := hvy37
    refine z_iast C (lt_A (c := 1) hN rfl) hay2 hgy30 (48 + 0) (by omega) (by omega) (by decide) dX3_joinLowest_96 (fun gy38 egy39 => ?_)
    have hgy40 := up_s egy39
    obtain ⟨ry41, hvy42⟩ : ∃ rZ9 : Nat → Int, rZ9 = uZ ry31 (48 + 0) ((((K 4) * (K 1)) + ((K 11) * (K 8))).tdiv ((K 1) + (K 8))) := ⟨_, rfl⟩
    rw [← hvy42] at hgy40
    obtain ⟨Ky43, hKy44⟩ : ∃ KZ9 : Nat → Int, KZ9 = uZ Ky33 4 ((((K 4) * (K 1)) + ((K 11) * (K 8))).tdiv ((K 1) + (K 8))) := ⟨_, rfl⟩
    have hCy45 := lay_u (l := 0) (f0 := 4) hCy35 hvy42 hKy44 (by omega) (by omega) (by omega) (by decide)
    refine z_aload_n C 3 dX3_joinLowest_97 rfl ?_
    have hgy46 := up_n egy39 hgy36 (ne_o (i := a) (c := 0) (d := 1) rfl)
    refine z_get (v := .ref (ad (a + 1))) C (lt_A0 hN rfl) hay1 hgy46 rfl inA_X3 2 (by decide) q_162 rfl rfl dX3_joinLowest_98 ?_
    refine z_bipush (z := 12) C dX3_joinLowest_101 (by decide) ?_
    refine z_dup2 C dX3_joinLowest_103 rfl rfl ?_
    refine z_iald C (lt_A (c := 1) hN rfl) hay2 hgy40 (12 + 0) (by omega) (by omega) (by decide) dX3_joinLowest_104 ?_
    rw [show ry41 (12 + 0) = K 1 from ((((((hCy45 0 1 (by omega) (by decide)).trans ((congrFun hKy44 _).trans (uZ_n _ _ (by omega))))).trans ((congrFun hKy34 _).trans (uZ_n _ _ (by omega))))).trans ((congrFun hKy25 _).trans (uZ_n _ _ (by omega))))]
    refine z_aload_n C 3 dX3_joinLowest_105 rfl ?_
    refine z_get (v := .ref (ad (a + 1))) C (lt_A0 hN rfl) hay1 hgy46 rfl inA_X3 2 (by decide) q_162 rfl rfl dX3_joinLowest_106 ?_
    refine z_bipush (z := 13) C dX3_joinLowest_109 (by decide) ?_
    refine z_iald C (lt_A (c := 1) hN rfl) hay2 hgy40 (12 + 1) (by omega) (by omega) (by decide) dX3_joinLowest_111 ?_
    rw [show ry41 (12 + 1) = K 8 from ((((((hCy45 1 1 (by omega) (by decide)).trans ((congrFun hKy44 _).trans (uZ_n _ _ (by omega))))).trans ((congrFun hKy34 _).trans (uZ_n _ _ (by omega))))).trans ((congrFun hKy25 _).trans (uZ_n _ _ (by omega))))]
    refine z_iadd C dX3_joinLowest_112 ?_
    refine z_iast C (lt_A (c := 1) hN rfl) hay2 hgy40 (12 + 0) (by omega) (by omega) (by decide) dX3_joinLowest_113 (fun gy47 egy48 => ?_)
    have hgy49 := up_s egy48
    obtain ⟨ry50, hvy51⟩ : ∃ rZ9 : Nat → Int, rZ9 = uZ ry41 (12 + 0) ((K 1) + (K 8)) := ⟨_, rfl⟩
    rw [← hvy51] at hgy49
    obtain ⟨Ky52, hKy53⟩ : ∃ KZ9 : Nat → Int, KZ9 = uZ Ky43 1 ((K 1) + (K 8)) := ⟨_, rfl⟩
    have hCy54 := lay_u (l := 0) (f0 := 1) hCy45 hvy51 hKy53 (by omega) (by omega) (by omega) (by decide)
    refine z_aload_n C 3 dX3_joinLowest_114 rfl ?_
    have hgy55 := up_n egy48 hgy46 (ne_o (i := a) (c := 0) (d := 1) rfl)
    refine z_get (v := .ref (ad (a + 1))) C (lt_A0 hN rfl) hay1 hgy55 rfl inA_X3 2 (by decide) q_162 rfl rfl dX3_joinLowest_115 ?_
    refine z_bipush (z := 24) C dX3_joinLowest_118 (by decide) ?_
    refine z_dup2 C dX3_joinLowest_120 rfl rfl ?_
    refine z_iald C (lt_A (c := 1) hN rfl) hay2 hgy49 (24 + 0) (by omega) (by omega) (by decide) dX3_joinLowest_121 ?_
    rw [show ry50 (24 + 0) = K 2 from ((((((((hCy54 0 2 (by omega) (by decide)).trans ((congrFun hKy53 _).trans (uZ_n _ _ (by omega))))).trans ((congrFun hKy44 _).trans (uZ_n _ _ (by omega))))).trans ((congrFun hKy34 _).trans (uZ_n _ _ (by omega))))).trans ((congrFun hKy25 _).trans (uZ_n _ _ (by omega))))]
    refine z_aload_n C 3 dX3_joinLowest_122 rfl ?_
    refine z_get (v := .ref (ad (a + 1))) C (lt_A0 hN rfl) hay1 hgy55 rfl inA_X3 2 (by decide) q_162 rfl rfl dX3_joinLowest_123 ?_
    refine z_bipush (z := 25) C dX3_joinLowest_126 (by decide) ?_
    refine z_iald C (lt_A (c := 1) hN rfl) hay2 hgy49 (24 + 1) (by omega) (by omega) (by decide) dX3_joinLowest_128 ?_
    rw [show ry50 (24 + 1) = K 9 from ((((((((hCy54 1 2 (by omega) (by decide)).trans ((congrFun hKy53 _).trans (uZ_n _ _ (by omega))))).trans ((congrFun hKy44 _).trans (uZ_n _ _ (by omega))))).trans ((congrFun hKy34 _).trans (uZ_n _ _ (by omega))))).trans ((congrFun hKy25 _).trans (uZ_n _ _ (by omega))))]
    refine z_iadd C dX3_joinLowest_129 ?_
    refine z_iast C (lt_A (c := 1) hN rfl) hay2 hgy49 (24 + 0) (by omega) (by omega) (by decide) dX3_joinLowest_130 (fun gy56 egy57 => ?_)
    have hgy58 := up_s egy57
    obtain ⟨ry59, hvy60⟩ : ∃ rZ9 : Nat → Int, rZ9 = uZ ry50 (24 + 0) ((K 2) + (K 9)) := ⟨_, rfl⟩
    rw [← hvy60] at hgy58
    obtain ⟨Ky61, hKy62⟩ : ∃ KZ9 : Nat → Int, KZ9 = uZ Ky52 2 ((K 2) + (K 9)) := ⟨_, rfl⟩
    have hCy63 := lay_u (l := 0) (f0 := 2) hCy54 hvy60 hKy62 (by omega) (by omega) (by omega) (by decide)
    refine z_aload_n C 3 dX3_joinLowest_131 rfl ?_
    have hgy64 := up_n egy57 hgy55 (ne_o (i := a) (c := 0) (d := 1) rfl)
    refine z_get (v := .ref (ad (a + 1))) C (lt_A0 hN rfl) hay1 hgy64 rfl inA_X3 2 (by decide) q_162 rfl rfl dX3_joinLowest_132 ?_
    refine z_bipush (z := 36) C dX3_joinLowest_135 (by decide) ?_
    refine z_dup2 C dX3_joinLowest_137 rfl rfl ?_
    refine z_iald C (lt_A (c := 1) hN rfl) hay2 hgy58 (36 + 0) (by omega) (by omega) (by decide) dX3_joinLowest_138 ?_
    rw [show ry59 (36 + 0) = K 3 from ((((((((((hCy63 0 3 (by omega) (by decide)).trans ((congrFun hKy62 _).trans (uZ_n _ _ (by omega))))).trans ((congrFun hKy53 _).trans (uZ_n _ _ (by omega))))).trans ((congrFun hKy44 _).trans (uZ_n _ _ (by omega))))).trans ((congrFun hKy34 _).trans (uZ_n _ _ (by omega))))).trans ((congrFun hKy25 _).trans (uZ_n _ _ (by omega))))]
    refine z_aload_n C 3 dX3_joinLowest_139 rfl ?_
    refine z_get (v := .ref (ad (a + 1))) C (lt_A0 hN rfl) hay1 hgy64 rfl inA_X3 2 (by decide) q_162 rfl rfl dX3_joinLowest_140 ?_
    refine z_bipush (z := 37) C dX3_joinLowest_143 (by decide) ?_
    refine z_iald C (lt_A (c := 1) hN rfl) hay2 hgy58 (36 + 1) (by omega) (by omega) (by decide) dX3_joinLowest_145 ?_
    rw [show ry59 (36 + 1) = K 10 from ((((((((((hCy63 1 3 (by omega) (by decide)).trans ((congrFun hKy62 _).trans (uZ_n _ _ (by omega))))).trans ((congrFun hKy53 _).trans (uZ_n _ _ (by omega))))).trans ((congrFun hKy44 _).trans (uZ_n _ _ (by omega))))).trans ((congrFun hKy34 _).trans (uZ_n _ _ (by omega))))).trans ((congrFun hKy25 _).trans (uZ_n _ _ (by omega))))]
    refine z_iadd C dX3_joinLowest_146 ?_
    refine z_iast C (lt_A (c := 1) hN rfl) hay2 hgy58 (36 + 0) (by omega) (by omega) (by decide) dX3_joinLowest_147 (fun gy65 egy66 => ?_)
    have hgy67 := up_s egy66
    obtain ⟨ry68, hvy69⟩ : ∃ rZ9 : Nat → Int, rZ9 = uZ ry59 (36 + 0) ((K 3) + (K 10)) := ⟨_, rfl⟩
    rw [← hvy69] at hgy67
    obtain ⟨Ky70, hKy71⟩ : ∃ KZ9 : Nat → Int, KZ9 = uZ Ky61 3 ((K 3) + (K 10)) := ⟨_, rfl⟩
    have hCy72 := lay_u (l := 0) (f0 := 3) hCy63 hvy69 hKy71 (by omega) (by omega) (by omega) (by decide)
    refine z_aload_n C 3 dX3_joinLowest_148 rfl ?_
    have hgy73 := up_n egy66 hgy64 (ne_o (i := a) (c := 0) (d := 1) rfl)
    refine z_get (v := .ref (ad (a + 1))) C (lt_A0 hN rfl) hay1 hgy73 rfl inA_X3 2 (by decide) q_162 rfl rfl dX3_joinLowest_149 ?_
    refine z_bipush (z := 60) C dX3_joinLowest_152 (by decide) ?_
    refine z_aload_n C 3 dX3_joinLowest_154 rfl ?_
    refine z_get (v := .ref (ad (a + 1))) C (lt_A0 hN rfl) hay1 hgy73 rfl inA_X3 2 (by decide) q_162 rfl rfl dX3_joinLowest_155 ?_
    refine z_bipush (z := 60) C dX3_joinLowest_158 (by decide) ?_
    refine z_iald C (lt_A (c := 1) hN rfl) hay2 hgy67 (60 + 0) (by omega) (by omega) (by decide) dX3_joinLowest_160 ?_
    rw [show ry68 (60 + 0) = K 5 from ((((((((((((hCy72 0 5 (by omega) (by decide)).trans ((congrFun hKy71 _).trans (uZ_n _ _ (by omega))))).trans ((congrFun hKy62 _).trans (uZ_n _ _ (by omega))))).trans ((congrFun hKy53 _).trans (uZ_n _ _ (by omega))))).trans ((congrFun hKy44 _).trans (uZ_n _ _ (by omega))))).trans ((congrFun hKy34 _).trans (uZ_n _ _ (by omega))))).trans ((congrFun hKy25 _).trans (uZ_n _ _ (by omega))))]
    refine z_aload_n C 3 dX3_joinLowest_161 rfl ?_
    refine z_get (v := .ref (ad (a + 1))) C (lt_A0 hN rfl) hay1 hgy73 rfl inA_X3 2 (by decide) q_162 rfl rfl dX3_joinLowest_162 ?_
    refine z_bipush (z := 61) C dX3_joinLowest_165 (by decide) ?_
    refine z_iald C (lt_A (c := 1) hN rfl) hay2 hgy67 (60 + 1) (by omega) (by omega) (by decide) dX3_joinLowest_167 ?_
    rw [show ry68 (60 + 1) = K 12 from ((((((((((((hCy72 1 5 (by omega) (by decide)).trans ((congrFun hKy71 _).trans (uZ_n _ _ (by omega))))).trans ((congrFun hKy62 _).trans (uZ_n _ _ (by omega))))).trans ((congrFun hKy53 _).trans (uZ_n _ _ (by omega))))).trans ((congrFun hKy44 _).trans (uZ_n _ _ (by omega))))).trans ((congrFun hKy34 _).trans (uZ_n _ _ (by omega))))).trans ((congrFun hKy25 _).trans (uZ_n _ _ (by omega))))]
    refine z_mmax C q_469 q_470 q_20 q_471 (by omega) (by omega) (by decide) (Nat.le_of_ble_eq_true rfl) (by decide) (by decide) dX3_joinLowest_168 ?_
    obtain ⟨xy74, exy75, hxy76⟩ := mm_max (K 5) (K 12)
    rw [exy75]
    refine z_iast C (lt_A (c := 1) hN rfl) hay2 hgy67 (60 + 0) (by omega) (by omega) (by decide) dX3_joinLowest_171 (fun gy77 egy78 => ?_)
    have hgy79 := up_s egy78
    obtain ⟨ry80, hvy81⟩ : ∃ rZ9 : Nat → Int, rZ9 = uZ ry68 (60 + 0) (xy74) := ⟨_, rfl⟩
    rw [← hvy81] at hgy79
    obtain ⟨Ky82, hKy83⟩ : ∃ KZ9 : Nat → Int, KZ9 = uZ Ky70 5 (xy74) := ⟨_, rfl⟩
    have hCy84 := lay_u (l := 0) (f0 := 5) hCy72 hvy81 hKy83 (by omega) (by omega) (by omega) (by decide)
    refine z_iconst (z := 0) C dX3_joinLowest_172 rfl ?_
    refine z_istore (lv' := [(6, .int (zI (0))), (5, .int (zI (0))), (3, .long (zJ (K 8))), (1, .long (zJ (K 1))), (0, .ref (ad a))]) C dX3_joinLowest_173 (by decide) rfl ?_
    refine z_lv (lv' := [(6, .int (zI (0))), (0, .ref (ad a))]) [0, 4] rfl ?_
    have hKf : ∀ f, f < 7 → Ky82 f = joK K f := by
      intro f hf
      rcases (show f = 0 ∨ f = 1 ∨ f = 2 ∨ f = 3 ∨ f = 4 ∨ f = 5 ∨ f = 6 by omega) with rfl | rfl | rfl | rfl | rfl | rfl | rfl
      · exact ((congrFun hKy83 _).trans ((uZ_n _ _ (by omega)).trans ((congrFun hKy71 _).trans ((uZ_n _ _ (by omega)).trans ((congrFun hKy62 _).trans ((uZ_n _ _ (by omega)).trans ((congrFun hKy53 _).trans ((uZ_n _ _ (by omega)).trans ((congrFun hKy44 _).trans ((uZ_n _ _ (by omega)).trans ((congrFun hKy34 _).trans ((uZ_n _ _ (by omega)).trans ((congrFun hKy25 _).trans (uZ_s _ _ _)))))))))))))).trans (by rw [joK_0]; split <;> omega)
      · exact ((congrFun hKy83 _).trans ((uZ_n _ _ (by omega)).trans ((congrFun hKy71 _).trans ((uZ_n _ _ (by omega)).trans ((congrFun hKy62 _).trans ((uZ_n _ _ (by omega)).trans ((congrFun hKy53 _).trans (uZ_s _ _ _)))))))).trans (by rw [joK_1])
      · exact ((congrFun hKy83 _).trans ((uZ_n _ _ (by omega)).trans ((congrFun hKy71 _).trans ((uZ_n _ _ (by omega)).trans ((congrFun hKy62 _).trans (uZ_s _ _ _)))))).trans (by rw [joK_2])
      · exact ((congrFun hKy83 _).trans ((uZ_n _ _ (by omega)).trans ((congrFun hKy71 _).trans (uZ_s _ _ _)))).trans (by rw [joK_3])
      · exact ((congrFun hKy83 _).trans ((uZ_n _ _ (by omega)).trans ((congrFun hKy71 _).trans ((uZ_n _ _ (by omega)).trans ((congrFun hKy62 _).trans ((uZ_n _ _ (by omega)).trans ((congrFun hKy53 _).trans ((uZ_n _ _ (by omega)).trans ((congrFun hKy44 _).trans (uZ_s _ _ _)))))))))).trans (by rw [joK_4]; rfl)
      · exact ((congrFun hKy83 _).trans (uZ_s _ _ _)).trans (by rw [joK_5]; split <;> omega)
      · exact ((congrFun hKy83 _).trans ((uZ_n _ _ (by omega)).trans ((congrFun hKy71 _).trans ((uZ_n _ _ (by omega)).trans ((congrFun hKy62 _).trans ((uZ_n _ _ (by omega)).trans ((congrFun hKy53 _).trans ((uZ_n _ _ (by omega)).trans ((congrFun hKy44 _).trans ((uZ_n _ _ (by omega)).trans ((congrFun hKy34 _).trans (uZ_s _ _ _)))))))))))).trans (by rw [joK_6]; split <;> omega)
    have hKo : ∀ q, 7 ≤ q → Ky82 q = K q := fun q hq => (congrFun hKy83 _).trans ((uZ_n _ _ (by omega)).trans ((congrFun hKy71 _).trans ((uZ_n _ _ (by omega)).trans ((congrFun hKy62 _).trans ((uZ_n _ _ (by omega)).trans ((congrFun hKy53 _).trans ((uZ_n _ _ (by omega)).trans ((congrFun hKy44 _).trans ((uZ_n _ _ (by omega)).trans ((congrFun hKy34 _).trans ((uZ_n _ _ (by omega)).trans ((congrFun hKy25 _).trans ((uZ_n _ _ (by omega)).trans (rfl))))))))))))))
    have hA0 : ∀ f, f < 7 → ry80 (12 * f) = joK K f := by
      intro f hf
      have e9 := hCy84 0 f (by omega) hf
      rw [Nat.add_zero, Nat.mul_zero, Nat.zero_add] at e9
      rw [e9]
      exact hKf f hf
    have hgy85 := up_n egy78 hgy73 (ne_o (i := a) (c := 0) (d := 1) rfl)
    exact lpo _ (0) ry80 0 gy77 rfl ⟨hgy85, hgy79⟩ (fun j j1 j2 => by rw [egy78, va_up_ne _ _ (by omega)]; rw [egy66, va_up_ne _ _ (by omega)]; rw [egy57, va_up_ne _ _ (by omega)]; rw [egy48, va_up_ne _ _ (by omega)]; rw [egy39, va_up_ne _ _ (by omega)]; rw [egy29, va_up_ne _ _ (by omega)]; rw [egy20, va_up_ne _ _ (by omega)]) rfl (by omega) hA0 (fun j f h1 h2 h3 h4 => absurd h4 (by omega)) (fun j f h1 h2 h3 _ => (hCy84 j f (by omega) h3).trans (hKo _ (by omega)))
  · have hcy18 : ¬ (K 8 ≤ K 1) := fun e9 => hby17 (cmpZ_le.mpr e9)
    refine z_iconst (z := 1) C dX3_joinLowest_24 rfl ?_
    refine z_goto (tgt := 29) C dX3_joinLowest_25 (by decide) ?_
    refine z_istore (lv' := [(5, .int (zI (1))), (3, .long (zJ (K 8))), (1, .long (zJ (K 1))), (0, .ref (ad a))]) C dX3_joinLowest_29 (by decide) rfl ?_
    refine z_aload_n C 3 dX3_joinLowest_31 rfl ?_
    refine z_get (v := .ref (ad (a + 1))) C (lt_A0 hN rfl) hay1 ha.1 rfl inA_X3 2 (by decide) q_162 rfl rfl dX3_joinLowest_32 ?_
    refine z_iconst (z := 0) C dX3_joinLowest_35 rfl ?_
    refine z_aload_n C 3 dX3_joinLowest_36 rfl ?_
    refine z_get (v := .ref (ad (a + 1))) C (lt_A0 hN rfl) hay1 ha.1 rfl inA_X3 2 (by decide) q_162 rfl rfl dX3_joinLowest_37 ?_
    refine z_iconst (z := 0) C dX3_joinLowest_40 rfl ?_
    refine z_iload C 0 dX3_joinLowest_41 rfl ?_
    refine z_iadd C dX3_joinLowest_43 ?_
    refine z_iald C (lt_A (c := 1) hN rfl) hay2 ha.2 (0 + 1) (by omega) (by omega) (by decide) dX3_joinLowest_44 ?_
    rw [show r (0 + 1) = K 7 from hC 1 0 (by omega) (by decide)]
    refine z_iast C (lt_A (c := 1) hN rfl) hay2 ha.2 (0 + 0) (by omega) (by omega) (by decide) dX3_joinLowest_45 (fun gy86 egy87 => ?_)
    have hgy88 := up_s egy87
    obtain ⟨ry89, hvy90⟩ : ∃ rZ9 : Nat → Int, rZ9 = uZ r (0 + 0) (K 7) := ⟨_, rfl⟩
    rw [← hvy90] at hgy88
    obtain ⟨Ky91, hKy92⟩ : ∃ KZ9 : Nat → Int, KZ9 = uZ K 0 (K 7) := ⟨_, rfl⟩
    have hCy93 := lay_u (l := 0) (f0 := 0) hC hvy90 hKy92 (by omega) (by omega) (by omega) (by decide)
    refine z_aload_n C 3 dX3_joinLowest_46 rfl ?_
    have hgy94 := up_n egy87 ha.1 (ne_o (i := a) (c := 0) (d := 1) rfl)
    refine z_get (v := .ref (ad (a + 1))) C (lt_A0 hN rfl) hay1 hgy94 rfl inA_X3 2 (by decide) q_162 rfl rfl dX3_joinLowest_47 ?_
    refine z_bipush (z := 72) C dX3_joinLowest_50 (by decide) ?_
    refine z_aload_n C 3 dX3_joinLowest_52 rfl ?_
    refine z_get (v := .ref (ad (a + 1))) C (lt_A0 hN rfl) hay1 hgy94 rfl inA_X3 2 (by decide) q_162 rfl rfl dX3_joinLowest_53 ?_
    refine z_bipush (z := 72) C dX3_joinLowest_56 (by decide) ?_
    refine z_iload C 0 dX3_joinLowest_58 rfl ?_
    refine z_iadd C dX3_joinLowest_60 ?_
    refine z_iald C (lt_A (c := 1) hN rfl) hay2 hgy88 (72 + 1) (by omega) (by omega) (by decide) dX3_joinLowest_61 ?_
    rw [show ry89 (72 + 1) = K 13 from ((hCy93 1 6 (by omega) (by decide)).trans ((congrFun hKy92 _).trans (uZ_n _ _ (by omega))))]
    refine z_iast C (lt_A (c := 1) hN rfl) hay2 hgy88 (72 + 0) (by omega) (by omega) (by decide) dX3_joinLowest_62 (fun gy95 egy96 => ?_)
    have hgy97 := up_s egy96
    obtain ⟨ry98, hvy99⟩ : ∃ rZ9 : Nat → Int, rZ9 = uZ ry89 (72 + 0) (K 13) := ⟨_, rfl⟩
    rw [← hvy99] at hgy97
    obtain ⟨Ky100, hKy101⟩ : ∃ KZ9 : Nat → Int, KZ9 = uZ Ky91 6 (K 13) := ⟨_, rfl⟩
    have hCy102 := lay_u (l := 0) (f0 := 6) hCy93 hvy99 hKy101 (by omega) (by omega) (by omega) (by decide)
    refine z_aload_n C 3 dX3_joinLowest_63 rfl ?_
    have hgy103 := up_n egy96 hgy94 (ne_o (i := a) (c := 0) (d := 1) rfl)
    refine z_get (v := .ref (ad (a + 1))) C (lt_A0 hN rfl) hay1 hgy103 rfl inA_X3 2 (by decide) q_162 rfl rfl dX3_joinLowest_64 ?_
    refine z_bipush (z := 48) C dX3_joinLowest_67 (by decide) ?_
    refine z_aload_n C 3 dX3_joinLowest_69 rfl ?_
    refine z_get (v := .ref (ad (a + 1))) C (lt_A0 hN rfl) hay1 hgy103 rfl inA_X3 2 (by decide) q_162 rfl rfl dX3_joinLowest_70 ?_
    refine z_bipush (z := 48) C dX3_joinLowest_73 (by decide) ?_
    refine z_iald C (lt_A (c := 1) hN rfl) hay2 hgy97 (48 + 0) (by omega) (by omega) (by decide) dX3_joinLowest_75 ?_
    rw [show ry98 (48 + 0) = K 4 from ((((hCy102 0 4 (by omega) (by decide)).trans ((congrFun hKy101 _).trans (uZ_n _ _ (by omega))))).trans ((congrFun hKy92 _).trans (uZ_n _ _ (by omega))))]
    refine z_i2l C dX3_joinLowest_76 (by omega) ?_
    refine z_lload_n C 2 dX3_joinLowest_77 rfl ?_
    refine z_lmul C dX3_joinLowest_78 ?_
    refine z_aload_n C 3 dX3_joinLowest_79 rfl ?_
    refine z_get (v := .ref (ad (a + 1))) C (lt_A0 hN rfl) hay1 hgy103 rfl inA_X3 2 (by decide) q_162 rfl rfl dX3_joinLowest_80 ?_
    refine z_bipush (z := 49) C dX3_joinLowest_83 (by decide) ?_
    refine z_iald C (lt_A (c := 1) hN rfl) hay2 hgy97 (48 + 1) (by omega) (by omega) (by decide) dX3_joinLowest_85 ?_
    rw [show ry98 (48 + 1) = K 11 from ((((hCy102 1 4 (by omega) (by decide)).trans ((congrFun hKy101 _).trans (uZ_n _ _ (by omega))))).trans ((congrFun hKy92 _).trans (uZ_n _ _ (by omega))))]
    refine z_i2l C dX3_joinLowest_86 (by omega) ?_
    refine z_lload_n C 1 dX3_joinLowest_87 rfl ?_
    refine z_lmul C dX3_joinLowest_88 ?_
    refine z_ladd C dX3_joinLowest_89 ?_
    refine z_lload_n C 2 dX3_joinLowest_90 rfl ?_
    refine z_lload_n C 1 dX3_joinLowest_91 rfl ?_
    refine z_ladd C dX3_joinLowest_92 ?_
    refine z_cSN (As := [.long (zJ (((K 4) * (K 1)) + ((K 11) * (K 8)))), .long (zJ ((K 1) + (K 8)))]) (rest := [.int (zI (48)), .ref (ad (a + 1))]) C (c_pPart l D A cs tt N ad _ (((K 4) * (K 1)) + ((K 11) * (K 8))) ((K 1) + (K 8)) (by omega) (by omega)) ms_yX9_part n_466 hd_yX9_part (by decide) (Nat.le_of_ble_eq_true rfl) (by decide) dX3_joinLowest_93 rfl (kI0 fun vy104 gvy104 hvy104 => ?_)
    obtain ⟨rfl, rfl⟩ := hvy104
    refine z_iast C (lt_A (c := 1) hN rfl) hay2 hgy97 (48 + 0) (by omega) (by omega) (by decide) dX3_joinLowest_96 (fun gy105 egy106 => ?_)
    have hgy107 := up_s egy106
    obtain ⟨ry108, hvy109⟩ : ∃ rZ9 : Nat → Int, rZ9 = uZ ry98 (48 + 0) ((((K 4) * (K 1)) + ((K 11) * (K 8))).tdiv ((K 1) + (K 8))) := ⟨_, rfl⟩
    rw [← hvy109] at hgy107
    obtain ⟨Ky110, hKy111⟩ : ∃ KZ9 : Nat → Int, KZ9 = uZ Ky100 4 ((((K 4) * (K 1)) + ((K 11) * (K 8))).tdiv ((K 1) + (K 8))) := ⟨_, rfl⟩
    have hCy112 := lay_u (l := 0) (f0 := 4) hCy102 hvy109 hKy111 (by omega) (by omega) (by omega) (by decide)
    refine z_aload_n C 3 dX3_joinLowest_97 rfl ?_
    have hgy113 := up_n egy106 hgy103 (ne_o (i := a) (c := 0) (d := 1) rfl)
    refine z_get (v := .ref (ad (a + 1))) C (lt_A0 hN rfl) hay1 hgy113 rfl inA_X3 2 (by decide) q_162 rfl rfl dX3_joinLowest_98 ?_
    refine z_bipush (z := 12) C dX3_joinLowest_101 (by decide) ?_
    refine z_dup2 C dX3_joinLowest_103 rfl rfl ?_
    refine z_iald C (lt_A (c := 1) hN rfl) hay2 hgy107 (12 + 0) (by omega) (by omega) (by decide) dX3_joinLowest_104 ?_
    rw [show ry108 (12 + 0) = K 1 from ((((((hCy112 0 1 (by omega) (by decide)).trans ((congrFun hKy111 _).trans (uZ_n _ _ (by omega))))).trans ((congrFun hKy101 _).trans (uZ_n _ _ (by omega))))).trans ((congrFun hKy92 _).trans (uZ_n _ _ (by omega))))]
    refine z_aload_n C 3 dX3_joinLowest_105 rfl ?_
    refine z_get (v := .ref (ad (a + 1))) C (lt_A0 hN rfl) hay1 hgy113 rfl inA_X3 2 (by decide) q_162 rfl rfl dX3_joinLowest_106 ?_
    refine z_bipush (z := 13) C dX3_joinLowest_109 (by decide) ?_
    refine z_iald C (lt_A (c := 1) hN rfl) hay2 hgy107 (12 + 1) (by omega) (by omega) (by decide) dX3_joinLowest_111 ?_
    rw [show ry108 (12 + 1) = K 8 from ((((((hCy112 1 1 (by omega) (by decide)).trans ((congrFun hKy111 _).trans (uZ_n _ _ (by omega))))).trans ((congrFun hKy101 _).trans (uZ_n _ _ (by omega))))).trans ((congrFun hKy92 _).trans (uZ_n _ _ (by omega))))]
    refine z_iadd C dX3_joinLowest_112 ?_
    refine z_iast C (lt_A (c := 1) hN rfl) hay2 hgy107 (12 + 0) (by omega) (by omega) (by decide) dX3_joinLowest_113 (fun gy114 egy115 => ?_)
    have hgy116 := up_s egy115
    obtain ⟨ry117, hvy118⟩ : ∃ rZ9 : Nat → Int, rZ9 = uZ ry108 (12 + 0) ((K 1) + (K 8)) := ⟨_, rfl⟩
    rw [← hvy118] at hgy116
    obtain ⟨Ky119, hKy120⟩ : ∃ KZ9 : Nat → Int, KZ9 = uZ Ky110 1 ((K 1) + (K 8)) := ⟨_, rfl⟩
    have hCy121 := lay_u (l := 0) (f0 := 1) hCy112 hvy118 hKy120 (by omega) (by omega) (by omega) (by decide)
    refine z_aload_n C 3 dX3_joinLowest_114 rfl ?_
    have hgy122 := up_n egy115 hgy113 (ne_o (i := a) (c := 0) (d := 1) rfl)
    refine z_get (v := .ref (ad (a + 1))) C (lt_A0 hN rfl) hay1 hgy122 rfl inA_X3 2 (by decide) q_162 rfl rfl dX3_joinLowest_115 ?_
    refine z_bipush (z := 24) C dX3_joinLowest_118 (by decide) ?_
    refine z_dup2 C dX3_joinLowest_120 rfl rfl ?_
    refine z_iald C (lt_A (c := 1) hN rfl) hay2 hgy116 (24 + 0) (by omega) (by omega) (by decide) dX3_joinLowest_121 ?_
    rw [show ry117 (24 + 0) = K 2 from ((((((((hCy121 0 2 (by omega) (by decide)).trans ((congrFun hKy120 _).trans (uZ_n _ _ (by omega))))).trans ((congrFun hKy111 _).trans (uZ_n _ _ (by omega))))).trans ((congrFun hKy101 _).trans (uZ_n _ _ (by omega))))).trans ((congrFun hKy92 _).trans (uZ_n _ _ (by omega))))]
    refine z_aload_n C 3 dX3_joinLowest_122 rfl ?_
    refine z_get (v := .ref (ad (a + 1))) C (lt_A0 hN rfl) hay1 hgy122 rfl inA_X3 2 (by decide) q_162 rfl rfl dX3_joinLowest_123 ?_
    refine z_bipush (z := 25) C dX3_joinLowest_126 (by decide) ?_
    refine z_iald C (lt_A (c := 1) hN rfl) hay2 hgy116 (24 + 1) (by omega) (by omega) (by decide) dX3_joinLowest_128 ?_
    rw [show ry117 (24 + 1) = K 9 from ((((((((hCy121 1 2 (by omega) (by decide)).trans ((congrFun hKy120 _).trans (uZ_n _ _ (by omega))))).trans ((congrFun hKy111 _).trans (uZ_n _ _ (by omega))))).trans ((congrFun hKy101 _).trans (uZ_n _ _ (by omega))))).trans ((congrFun hKy92 _).trans (uZ_n _ _ (by omega))))]
    refine z_iadd C dX3_joinLowest_129 ?_
    refine z_iast C (lt_A (c := 1) hN rfl) hay2 hgy116 (24 + 0) (by omega) (by omega) (by decide) dX3_joinLowest_130 (fun gy123 egy124 => ?_)
    have hgy125 := up_s egy124
    obtain ⟨ry126, hvy127⟩ : ∃ rZ9 : Nat → Int, rZ9 = uZ ry117 (24 + 0) ((K 2) + (K 9)) := ⟨_, rfl⟩
    rw [← hvy127] at hgy125
    obtain ⟨Ky128, hKy129⟩ : ∃ KZ9 : Nat → Int, KZ9 = uZ Ky119 2 ((K 2) + (K 9)) := ⟨_, rfl⟩
    have hCy130 := lay_u (l := 0) (f0 := 2) hCy121 hvy127 hKy129 (by omega) (by omega) (by omega) (by decide)
    refine z_aload_n C 3 dX3_joinLowest_131 rfl ?_
    have hgy131 := up_n egy124 hgy122 (ne_o (i := a) (c := 0) (d := 1) rfl)
    refine z_get (v := .ref (ad (a + 1))) C (lt_A0 hN rfl) hay1 hgy131 rfl inA_X3 2 (by decide) q_162 rfl rfl dX3_joinLowest_132 ?_
    refine z_bipush (z := 36) C dX3_joinLowest_135 (by decide) ?_
    refine z_dup2 C dX3_joinLowest_137 rfl rfl ?_
    refine z_iald C (lt_A (c := 1) hN rfl) hay2 hgy125 (36 + 0) (by omega) (by omega) (by decide) dX3_joinLowest_138 ?_
    rw [show ry126 (36 + 0) = K 3 from ((((((((((hCy130 0 3 (by omega) (by decide)).trans ((congrFun hKy129 _).trans (uZ_n _ _ (by omega))))).trans ((congrFun hKy120 _).trans (uZ_n _ _ (by omega))))).trans ((congrFun hKy111 _).trans (uZ_n _ _ (by omega))))).trans ((congrFun hKy101 _).trans (uZ_n _ _ (by omega))))).trans ((congrFun hKy92 _).trans (uZ_n _ _ (by omega))))]
    refine z_aload_n C 3 dX3_joinLowest_139 rfl ?_
    refine z_get (v := .ref (ad (a + 1))) C (lt_A0 hN rfl) hay1 hgy131 rfl inA_X3 2 (by decide) q_162 rfl rfl dX3_joinLowest_140 ?_
    refine z_bipush (z := 37) C dX3_joinLowest_143 (by decide) ?_
    refine z_iald C (lt_A (c := 1) hN rfl) hay2 hgy125 (36 + 1) (by omega) (by omega) (by decide) dX3_joinLowest_145 ?_
    rw [show ry126 (36 + 1) = K 10 from ((((((((((hCy130 1 3 (by omega) (by decide)).trans ((congrFun hKy129 _).trans (uZ_n _ _ (by omega))))).trans ((congrFun hKy120 _).trans (uZ_n _ _ (by omega))))).trans ((congrFun hKy111 _).trans (uZ_n _ _ (by omega))))).trans ((congrFun hKy101 _).trans (uZ_n _ _ (by omega))))).trans ((congrFun hKy92 _).trans (uZ_n _ _ (by omega))))]
    refine z_iadd C dX3_joinLowest_146 ?_
    refine z_iast C (lt_A (c := 1) hN rfl) hay2 hgy125 (36 + 0) (by omega) (by omega) (by decide) dX3_joinLowest_147 (fun gy132 egy133 => ?_)
    have hgy134 := up_s egy133
    obtain ⟨ry135, hvy136⟩ : ∃ rZ9 : Nat → Int, rZ9 = uZ ry126 (36 + 0) ((K 3) + (K 10)) := ⟨_, rfl⟩
    rw [← hvy136] at hgy134
    obtain ⟨Ky137, hKy138⟩ : ∃ KZ9 : Nat → Int, KZ9 = uZ Ky128 3 ((K 3) + (K 10)) := ⟨_, rfl⟩
    have hCy139 := lay_u (l := 0) (f0 := 3) hCy130 hvy136 hKy138 (by omega) (by omega) (by omega) (by decide)
    refine z_aload_n C 3 dX3_joinLowest_148 rfl ?_
    have hgy140 := up_n egy133 hgy131 (ne_o (i := a) (c := 0) (d := 1) rfl)
    refine z_get (v := .ref (ad (a + 1))) C (lt_A0 hN rfl) hay1 hgy140 rfl inA_X3 2 (by decide) q_162 rfl rfl dX3_joinLowest_149 ?_
    refine z_bipush (z := 60) C dX3_joinLowest_152 (by decide) ?_
    refine z_aload_n C 3 dX3_joinLowest_154 rfl ?_
    refine z_get (v := .ref (ad (a + 1))) C (lt_A0 hN rfl) hay1 hgy140 rfl inA_X3 2 (by decide) q_162 rfl rfl dX3_joinLowest_155 ?_
    refine z_bipush (z := 60) C dX3_joinLowest_158 (by decide) ?_
    refine z_iald C (lt_A (c := 1) hN rfl) hay2 hgy134 (60 + 0) (by omega) (by omega) (by decide) dX3_joinLowest_160 ?_
    rw [show ry135 (60 + 0) = K 5 from ((((((((((((hCy139 0 5 (by omega) (by decide)).trans ((congrFun hKy138 _).trans (uZ_n _ _ (by omega))))).trans ((congrFun hKy129 _).trans (uZ_n _ _ (by omega))))).trans ((congrFun hKy120 _).trans (uZ_n _ _ (by omega))))).trans ((congrFun hKy111 _).trans (uZ_n _ _ (by omega))))).trans ((congrFun hKy101 _).trans (uZ_n _ _ (by omega))))).trans ((congrFun hKy92 _).trans (uZ_n _ _ (by omega))))]
    refine z_aload_n C 3 dX3_joinLowest_161 rfl ?_
    refine z_get (v := .ref (ad (a + 1))) C (lt_A0 hN rfl) hay1 hgy140 rfl inA_X3 2 (by decide) q_162 rfl rfl dX3_joinLowest_162 ?_
    refine z_bipush (z := 61) C dX3_joinLowest_165 (by decide) ?_
    refine z_iald C (lt_A (c := 1) hN rfl) hay2 hgy134 (60 + 1) (by omega) (by omega) (by decide) dX3_joinLowest_167 ?_
    rw [show ry135 (60 + 1) = K 12 from ((((((((((((hCy139 1 5 (by omega) (by decide)).trans ((congrFun hKy138 _).trans (uZ_n _ _ (by omega))))).trans ((congrFun hKy129 _).trans (uZ_n _ _ (by omega))))).trans ((congrFun hKy120 _).trans (uZ_n _ _ (by omega))))).trans ((congrFun hKy111 _).trans (uZ_n _ _ (by omega))))).trans ((congrFun hKy101 _).trans (uZ_n _ _ (by omega))))).trans ((congrFun hKy92 _).trans (uZ_n _ _ (by omega))))]
    refine z_mmax C q_469 q_470 q_20 q_471 (by omega) (by omega) (by decide) (Nat.le_of_ble_eq_true rfl) (by decide) (by decide) dX3_joinLowest_168 ?_
    obtain ⟨xy141, exy142, hxy143⟩ := mm_max (K 5) (K 12)
    rw [exy142]
    refine z_iast C (lt_A (c := 1) hN rfl) hay2 hgy134 (60 + 0) (by omega) (by omega) (by decide) dX3_joinLowest_171 (fun gy144 egy145 => ?_)
    have hgy146 := up_s egy145
    obtain ⟨ry147, hvy148⟩ : ∃ rZ9 : Nat → Int, rZ9 = uZ ry135 (60 + 0) (xy141) := ⟨_, rfl⟩
    rw [← hvy148] at hgy146
    obtain ⟨Ky149, hKy150⟩ : ∃ KZ9 : Nat → Int, KZ9 = uZ Ky137 5 (xy141) := ⟨_, rfl⟩
    have hCy151 := lay_u (l := 0) (f0 := 5) hCy139 hvy148 hKy150 (by omega) (by omega) (by omega) (by decide)
    refine z_iconst (z := 0) C dX3_joinLowest_172 rfl ?_
    refine z_istore (lv' := [(6, .int (zI (0))), (5, .int (zI (1))), (3, .long (zJ (K 8))), (1, .long (zJ (K 1))), (0, .ref (ad a))]) C dX3_joinLowest_173 (by decide) rfl ?_
    refine z_lv (lv' := [(6, .int (zI (0))), (0, .ref (ad a))]) [0, 4] rfl ?_
    have hKf : ∀ f, f < 7 → Ky149 f = joK K f := by
      intro f hf
      rcases (show f = 0 ∨ f = 1 ∨ f = 2 ∨ f = 3 ∨ f = 4 ∨ f = 5 ∨ f = 6 by omega) with rfl | rfl | rfl | rfl | rfl | rfl | rfl
      · exact ((congrFun hKy150 _).trans ((uZ_n _ _ (by omega)).trans ((congrFun hKy138 _).trans ((uZ_n _ _ (by omega)).trans ((congrFun hKy129 _).trans ((uZ_n _ _ (by omega)).trans ((congrFun hKy120 _).trans ((uZ_n _ _ (by omega)).trans ((congrFun hKy111 _).trans ((uZ_n _ _ (by omega)).trans ((congrFun hKy101 _).trans ((uZ_n _ _ (by omega)).trans ((congrFun hKy92 _).trans (uZ_s _ _ _)))))))))))))).trans (by rw [joK_0]; split <;> omega)
      · exact ((congrFun hKy150 _).trans ((uZ_n _ _ (by omega)).trans ((congrFun hKy138 _).trans ((uZ_n _ _ (by omega)).trans ((congrFun hKy129 _).trans ((uZ_n _ _ (by omega)).trans ((congrFun hKy120 _).trans (uZ_s _ _ _)))))))).trans (by rw [joK_1])
      · exact ((congrFun hKy150 _).trans ((uZ_n _ _ (by omega)).trans ((congrFun hKy138 _).trans ((uZ_n _ _ (by omega)).trans ((congrFun hKy129 _).trans (uZ_s _ _ _)))))).trans (by rw [joK_2])
      · exact ((congrFun hKy150 _).trans ((uZ_n _ _ (by omega)).trans ((congrFun hKy138 _).trans (uZ_s _ _ _)))).trans (by rw [joK_3])
      · exact ((congrFun hKy150 _).trans ((uZ_n _ _ (by omega)).trans ((congrFun hKy138 _).trans ((uZ_n _ _ (by omega)).trans ((congrFun hKy129 _).trans ((uZ_n _ _ (by omega)).trans ((congrFun hKy120 _).trans ((uZ_n _ _ (by omega)).trans ((congrFun hKy111 _).trans (uZ_s _ _ _)))))))))).trans (by rw [joK_4]; rfl)
      · exact ((congrFun hKy150 _).trans (uZ_s _ _ _)).trans (by rw [joK_5]; split <;> omega)
      · exact ((congrFun hKy150 _).trans ((uZ_n _ _ (by omega)).trans ((congrFun hKy138 _).trans ((uZ_n _ _ (by omega)).trans ((congrFun hKy129 _).trans ((uZ_n _ _ (by omega)).trans ((congrFun hKy120 _).trans ((uZ_n _ _ (by omega)).trans ((congrFun hKy111 _).trans ((uZ_n _ _ (by omega)).trans ((congrFun hKy101 _).trans (uZ_s _ _ _)))))))))))).trans (by rw [joK_6]; split <;> omega)
    have hKo : ∀ q, 7 ≤ q → Ky149 q = K q := fun q hq => (congrFun hKy150 _).trans ((uZ_n _ _ (by omega)).trans ((congrFun hKy138 _).trans ((uZ_n _ _ (by omega)).trans ((congrFun hKy129 _).trans ((uZ_n _ _ (by omega)).trans ((congrFun hKy120 _).trans ((uZ_n _ _ (by omega)).trans ((congrFun hKy111 _).trans ((uZ_n _ _ (by omega)).trans ((congrFun hKy101 _).trans ((uZ_n _ _ (by omega)).trans ((congrFun hKy92 _).trans ((uZ_n _ _ (by omega)).trans (rfl))))))))))))))
    have hA0 : ∀ f, f < 7 → ry147 (12 * f) = joK K f := by
      intro f hf
      have e9 := hCy151 0 f (by omega) hf
      rw [Nat.add_zero, Nat.mul_zero, Nat.zero_add] at e9
      rw [e9]
      exact hKf f hf
    have hgy152 := up_n egy145 hgy140 (ne_o (i := a) (c := 0) (d := 1) rfl)
    exact lpo _ (0) ry147 0 gy144 rfl ⟨hgy152, hgy146⟩ (fun j j1 j2 => by rw [egy145, va_up_ne _ _ (by omega)]; rw [egy133, va_up_ne _ _ (by omega)]; rw [egy124, va_up_ne _ _ (by omega)]; rw [egy115, va_up_ne _ _ (by omega)]; rw [egy106, va_up_ne _ _ (by omega)]; rw [egy96, va_up_ne _ _ (by omega)]; rw [egy87, va_up_ne _ _ (by omega)]) rfl (by omega) hA0 (fun j f h1 h2 h3 h4 => absurd h4 (by omega)) (fun j f h1 h2 h3 _ => (hCy151 j f (by omega) h3).trans (hKo _ (by omega)))
end
section
-- 9kp.pq7.lean.txt
theorem emod_q {z b m q : Int} (h : z = m + b * q) (h0 : 0 ≤ m) (h1 : m < b) : z % b = m := by
  rw [h, Int.add_mul_emod_self_left]
  exact Int.emod_eq_of_lt h0 h1
/-- a Pack of the class is the pure slope -/
def isPk (cs : Nat → ClassId) (ad : Nat → Nat) (g : Nat → va_E) (i : Nat) (S : SL9) : Prop := ∃ r : Nat → Int, isPack cs ad g i ((S.1 : Nat) : Int) S.2.2 r ∧ ∀ j f, j < S.1 → f < 7 → r (12 * f + j) = S.2.1 (7 * j + f)
theorem isPk.mv {cs : Nat → ClassId} {ad : Nat → Nat} {g g' : Nat → va_E} {i : Nat} {S : SL9} (hG : ∀ j, i ≤ j → j < i + 2 → g' j = g j) (h : isPk cs ad g i S) : isPk cs ad g' i S := by
  obtain ⟨r, ⟨h1, h2⟩, h3⟩ := h
  exact ⟨r, ⟨(hG _ (by omega) (by omega)).trans h1, (hG _ (by omega) (by omega)).trans h2⟩, h3⟩
/-- a World of the class is the pure one -/
def isWl (cs : Nat → ClassId) (ad : Nat → Nat) (g : Nat → va_E) (a : Nat) (W : WL9) : Prop := g a = oC 10 [.int (zI (W.1 0)), .int (zI (W.1 1)), .int (zI (W.1 2)), .int (zI (W.1 3)), .int (zI (W.1 4)), .int (zI (W.1 5)), .ref (ad (a + 1))] ∧ (∃ u : Nat → Option Nat, g (a + 1) = rA (cs 3) 4 u ∧ ∀ k, k < 4 → u k = some (ad (a + 2 + 2 * k))) ∧ ∀ k, k < 4 → isPk cs ad g (a + 2 + 2 * k) (W.2 k)
theorem isWl.mv {cs : Nat → ClassId} {ad : Nat → Nat} {g g' : Nat → va_E} {a : Nat} {W : WL9} (hG : ∀ j, a ≤ j → j < a + 10 → g' j = g j) (h : isWl cs ad g a W) : isWl cs ad g' a W := by
  obtain ⟨h1, ⟨u, h2, h3⟩, h4⟩ := h
  exact ⟨(hG _ (by omega) (by omega)).trans h1, ⟨u, (hG _ (by omega) (by omega)).trans h2, h3⟩, fun k hk => (h4 k hk).mv (fun j j1 j2 => hG j (by omega) (by omega))⟩
theorem isWl.pk {cs : Nat → ClassId} {ad : Nat → Nat} {g g' : Nat → va_E} {a s : Nat} {W : WL9} (t : Nat → Int) (S : SL9) {x0 x1 x2 x3 x4 x5 : Int} (h : isWl cs ad g a W) (hs : s < 4) (hG : ∀ j, j ≠ a → j ≠ a + 2 + 2 * s → j ≠ a + 2 + 2 * s + 1 → g' j = g j) (hh : g' a = oC 10 [.int (zI x0), .int (zI x1), .int (zI x2), .int (zI x3), .int (zI x4), .int (zI x5), .ref (ad (a + 1))]) (e : (t 0 = x0 ∧ t 1 = x1) ∧ (t 2 = x2 ∧ t 3 = x3) ∧ t 4 = x4 ∧ t 5 = x5) (hp : isPk cs ad g' (a + 2 + 2 * s) S) : isWl cs ad g' a (t, uS W.2 s S) := by
  obtain ⟨h1, ⟨u, h2, h3⟩, h4⟩ := h
  obtain ⟨⟨rfl, rfl⟩, ⟨rfl, rfl⟩, rfl, rfl⟩ := e
  refine ⟨hh, ⟨u, (hG _ (by omega) (by omega) (by omega)).trans h2, h3⟩, fun k hk => ?_⟩
  by_cases e : k = s
  · subst e
    show isPk cs ad g' (a + 2 + 2 * k) (uS W.2 k S k)
    rw [uS_s]
    exact hp
  · show isPk cs ad g' (a + 2 + 2 * k) (uS W.2 s S k)
    rw [uS_n _ _ e]
    exact (h4 k hk).mv (fun j j1 j2 => hG j (by omega) (by omega) (by omega))
theorem isWl.hd {cs : Nat → ClassId} {ad : Nat → Nat} {g g' : Nat → va_E} {a : Nat} {W : WL9} (t : Nat → Int) {x0 x1 x2 x3 x4 x5 : Int} (h : isWl cs ad g a W) (hG : ∀ j, j ≠ a → g' j = g j) (hh : g' a = oC 10 [.int (zI x0), .int (zI x1), .int (zI x2), .int (zI x3), .int (zI x4), .int (zI x5), .ref (ad (a + 1))]) (e : (t 0 = x0 ∧ t 1 = x1) ∧ (t 2 = x2 ∧ t 3 = x3) ∧ t 4 = x4 ∧ t 5 = x5) : isWl cs ad g' a (t, W.2) := by
  obtain ⟨h1, ⟨u, h2, h3⟩, h4⟩ := h
  obtain ⟨⟨rfl, rfl⟩, ⟨rfl, rfl⟩, rfl, rfl⟩ := e
  exact ⟨hh, ⟨u, (hG _ (by omega)).trans h2, h3⟩, fun k hk => (h4 k hk).mv (fun j j1 j2 => hG j (by omega))⟩
theorem isWl.ok {cs : Nat → ClassId} {ad : Nat → Nat} {g : Nat → va_E} {a : Nat} {W : WL9} (h : isWl cs ad g a W) (hn : ∀ s, s < 4 → (W.2 s).1 ≤ 12) (h5 : 0 ≤ W.1 5 ∧ W.1 5 ≤ 6) : okWorld cs ad g a := by
  obtain ⟨h1, h2, h3⟩ := h
  obtain ⟨r0, p0, -⟩ := h3 0 (by decide)
  obtain ⟨r1, p1, -⟩ := h3 1 (by decide)
  obtain ⟨r2, p2, -⟩ := h3 2 (by decide)
  obtain ⟨r3, p3, -⟩ := h3 3 (by decide)
  refine ⟨W.1, fun k => (((W.2 k).1 : Nat) : Int), fun k => (W.2 k).2.2, fun k => if k = 0 then r0 else if k = 1 then r1 else if k = 2 then r2 else r3, fun k hk => ⟨(show (0 : Int) ≤ (((W.2 k).1 : Nat) : Int) by omega), ?_⟩, h5, h1, h2, fun k hk => ?_⟩
  · have := hn k hk
    show (((W.2 k).1 : Nat) : Int) ≤ 12
    omega
  · rcases (show k = 0 ∨ k = 1 ∨ k = 2 ∨ k = 3 by omega) with rfl | rfl | rfl | rfl
    · exact p0
    · exact p1
    · exact p2
    · exact p3
theorem uS_id (S : Nat → SL9) (k : Nat) : uS S k (S k) = S := by
  funext j
  by_cases e : j = k
  · rw [e, uS_s]
  · rw [uS_n _ _ e]
theorem uS_u (S : Nat → SL9) (k : Nat) (v w : SL9) : uS (uS S k v) k w = uS S k w := by
  funext j
  by_cases e : j = k
  · rw [e, uS_s, uS_s]
  · rw [uS_n _ _ e, uS_n _ _ e, uS_n _ _ e]
theorem uZ_j (F : Nat → Int) (k : Nat) : uZ F k (F k) = F := by
  funext j
  by_cases e : j = k
  · rw [e, uZ_s]
  · rw [uZ_n _ _ e]
theorem bit16 {z k : Nat} (hz : z < 16) (hk : k < 4) {x y : Int} (h1 : zI ((z : Nat) : Int) >>> (zI ((k : Nat) : Int) &&& 31) = zI x) (h2 : zI x &&& zI 1 = zI y) (hy : 0 ≤ y ∧ y < ((2 ^ 1 : Nat) : Int)) : y = ((z / 2 ^ k % 2 : Nat) : Int) := by
  have h : ∀ z, z < 16 → ∀ k, k < 4 → (zI ((z : Nat) : Int) >>> (zI ((k : Nat) : Int) &&& 31)) &&& zI 1 = zI ((z / 2 ^ k % 2 : Nat) : Int) := by decide +kernel
  have h3 := h z hz k hk
  rw [h1, h2] at h3
  have h4 := congrArg Int32.toInt h3
  have hy2 : y < 2 := hy.2
  rw [zI_to (show -2147483648 ≤ y ∧ y ≤ 2147483647 by omega), zI_to (show -2147483648 ≤ ((z / 2 ^ k % 2 : Nat) : Int) ∧ ((z / 2 ^ k % 2 : Nat) : Int) ≤ 2147483647 by omega)] at h4
  exact h4
/-- what a TEXT tells, as it must be -/
def okFc (sl ho ua : Int) (op ai fa mu tb : Nat → Int) : Prop := (0 ≤ ho ∧ ho ≤ 24) ∧ (0 ≤ ua ∧ ua ≤ 100) ∧ (∀ k : Nat, (k : Int) < sl → 0 ≤ op k ∧ op k ≤ 20) ∧ (∀ k : Nat, (k : Int) < ho → -300 ≤ ai k ∧ ai k ≤ 100) ∧ (∀ k : Nat, (k : Int) < ho → (0 ≤ fa k ∧ fa k ≤ 3) ∧ (0 ≤ mu k ∧ mu k ≤ 50) ∧ (fa k = 1 ∨ fa k = 2 → 1 ≤ mu k)) ∧ okTb tb
theorem emd24 {ho tm : Int} (h : 1 ≤ ho ∧ ho ≤ 24) : (0 ≤ tm % ho ∧ tm % ho < ho) ∧ (tm % ho).toNat < 24 := by
  have h1 := Int.emod_nonneg tm (show ho ≠ 0 by omega)
  have h2 := Int.emod_lt_of_pos tm (show 0 < ho by omega)
  omega
theorem fc_air {sl ho ua tm : Int} {op ai fa mu tb : Nat → Int} (h : okFc sl ho ua op ai fa mu tb) : -300 ≤ fcZ ho ua ai tm ∧ fcZ ho ua ai tm ≤ 100 := by
  obtain ⟨h1, h2, h3, h4, h5, h6⟩ := h
  unfold fcZ
  by_cases e : ho = 0
  · rw [if_pos e]; omega
  · rw [if_neg e]
    exact h4 _ (by have h9 := emd24 (ho := ho) (tm := tm) (by omega); omega)
theorem fc_fm {sl ho ua tm : Int} {op ai fa mu tb : Nat → Int} (h : okFc sl ho ua op ai fa mu tb) : (0 ≤ fcZ ho 0 fa tm ∧ fcZ ho 0 fa tm ≤ 3) ∧ (0 ≤ fcZ ho 0 mu tm ∧ fcZ ho 0 mu tm ≤ 50) ∧ (fcZ ho 0 fa tm = 1 ∨ fcZ ho 0 fa tm = 2 → 1 ≤ fcZ ho 0 mu tm) := by
  obtain ⟨h1, h2, h3, h4, h5, h6⟩ := h
  unfold fcZ
  by_cases e : ho = 0
  · rw [if_pos e, if_pos e]; omega
  · rw [if_neg e, if_neg e]
    exact h5 _ (by have h9 := emd24 (ho := ho) (tm := tm) (by omega); omega)

set_option maxRecDepth 100000 in
set_option maxHeartbeats 4000000 in
theorem c_floorModX (l : Launch) (D : va_G) (A : Nat → Prop) (cs : Nat → ClassId) (tt : Nat) (N : Nat) (ad : Nat → Nat) (g : Nat → va_E) (z : Int) (hz : -2147483648 ≤ z ∧ z ≤ 2147483647) (z1 : Int) (hz1 : 1 ≤ z1 ∧ z1 ≤ 2147483647) : zM l yJ9_floorMod_7cf53 cJ9_floorMod_7cf53 3 (some .int) ({ frames := 1, cells := 0, slots := 0, locals := 60 } : Room) D A cs tt N ad g [.int (zI (z)), .int (zI (z1))] (rI0 N ad fun q g' => q = z % z1 ∧ g = g') := by
  refine z_ofF pf_floorMod (Nat.le_of_ble_eq_true rfl) ?_
  intro p e s m below meth c C hr hlk hnm
  refine z_lv (lv' := [(0, .int (zI (z))), (1, .int (zI (z1)))]) [0, 1] rfl ?_
  refine z_iload_n C 0 dJ9_floorMod_7cf53_0 rfl ?_
  refine z_iload_n C 1 dJ9_floorMod_7cf53_1 rfl ?_
  refine z_irem C dJ9_floorMod_7cf53_2 (by omega) (by omega) (by omega) ?_
  obtain ⟨md, emd, hmd⟩ : ∃ md : Int, z.tmod z1 = md ∧ ((0 ≤ z → 0 ≤ md ∧ md < z1) ∧ (z < 0 → -z1 < md ∧ md ≤ 0)) := ⟨_, rfl, tmod_f (by omega)⟩
  rw [emd]
  have hq0 := Int.tmod_add_mul_tdiv z z1
  rw [emd] at hq0
  have hq1 : 0 ≤ md → z % z1 = md := fun h => emod_q hq0.symm h (by omega)
  have hq2 : md < 0 → z % z1 = md + z1 := fun h => emod_q (q := z.tdiv z1 - 1) (by rw [Int.mul_sub]; omega) (by omega) (by omega)
  clear hq0
  refine z_istore_n (lv' := [(2, .int (zI (md))), (0, .int (zI (z))), (1, .int (zI (z1)))]) C dJ9_floorMod_7cf53_3 rfl (by decide) rfl ?_
  refine z_iload_n C 1 dJ9_floorMod_7cf53_4 rfl ?_
  refine z_iload_n C 2 dJ9_floorMod_7cf53_5 rfl ?_
  obtain ⟨xx, exx, hxx⟩ := zI_of (zI (z) ^^^ zI (z1))
  have hxn := xor_neg hz (by omega) exx hxx
  refine z_ixor (z := xx) C dJ9_floorMod_7cf53_6 exx ?_
  refine z_if_ge (tgt := 18) C dJ9_floorMod_7cf53_7 (by decide) (by omega) (fun hby1 => ?_) (fun hby1 => ?_)
  · refine z_iload_n C 0 dJ9_floorMod_7cf53_18 rfl ?_
    exact z_iret C hr hlk dJ9_floorMod_7cf53_19 (by decide) (by decide) ⟨md, rfl, rfl, rfl, by omega, rfl⟩
  · refine z_iload_n C 0 dJ9_floorMod_7cf53_10 rfl ?_
    refine z_if_eq (tgt := 18) C dJ9_floorMod_7cf53_11 (by decide) (by omega) (fun hby2 => ?_) (fun hby2 => ?_)
    · refine z_iload_n C 0 dJ9_floorMod_7cf53_18 rfl ?_
      exact z_iret C hr hlk dJ9_floorMod_7cf53_19 (by decide) (by decide) ⟨md, rfl, rfl, rfl, by omega, rfl⟩
    · refine z_iload_n C 0 dJ9_floorMod_7cf53_14 rfl ?_
      refine z_iload_n C 2 dJ9_floorMod_7cf53_15 rfl ?_
      refine z_iadd C dJ9_floorMod_7cf53_16 ?_
      exact z_iret C hr hlk dJ9_floorMod_7cf53_17 (by decide) (by decide) ⟨md + z1, rfl, rfl, rfl, by omega, rfl⟩

set_option maxRecDepth 100000 in
set_option maxHeartbeats 4000000 in
theorem c_pairAt (l : Launch) (D : va_G) (A : Nat → Prop) (cs : Nat → ClassId) (tt : Nat) (N : Nat) (ad : Nat → Nat) (g : Nat → va_E) (b : Nat) (hNb : b + 7 ≤ N) (sl ho ua : Int) (st op ai fa mu tb : Nat → Int) (hb : isPlan cs ad g b sl ho ua st op ai fa mu tb) (hho : 0 ≤ ho ∧ ho ≤ 24) (z : Int) (hz : 0 ≤ z ∧ z ≤ 100000) : zM l yX5_airAt cX5_airAt 2 (some .int) ({ frames := 2, cells := 0, slots := 0, locals := 120 } : Room) D A cs tt N ad g [.ref (ad b), .int (zI (z))] (rI0 N ad fun q g' => q = fcZ ho ua ai z ∧ g = g') := by
  have hay1 : zAt ad (b) (ad b) := rfl
  have hay2 : zAt ad (b + 1) (ad (b + 1)) := rfl
  have hay3 : zAt ad (b + 2) (ad (b + 2)) := rfl
  have hay4 : zAt ad (b + 3) (ad (b + 3)) := rfl
  have hay5 : zAt ad (b + 4) (ad (b + 4)) := rfl
  have hay6 : zAt ad (b + 5) (ad (b + 5)) := rfl
  have hay7 : zAt ad (b + 6) (ad (b + 6)) := rfl
  refine z_of (by decide) (Nat.le_of_ble_eq_true rfl) ?_
  intro p e s m below meth c C hr hlk hnm
  refine z_lv (lv' := [(0, .ref (ad b)), (1, .int (zI (z)))]) [0, 1] rfl ?_
  refine z_aload_n C 0 dX5_airAt_0 rfl ?_
  refine z_get (v := .int (zI (ho))) C (by omega) hay1 hb.1 rfl inA_X5 1 (by decide) q_92 rfl rfl dX5_airAt_1 ?_
  refine z_if_ne (tgt := 14) C dX5_airAt_4 (by decide) (by omega) (fun hby8 => ?_) (fun hby8 => ?_)
  · refine z_aload_n C 0 dX5_airAt_14 rfl ?_
    refine z_get (v := .ref (ad (b + 3))) C (by omega) hay1 hb.1 rfl inA_X5 5 (by decide) q_104 rfl rfl dX5_airAt_15 ?_
    refine z_iload_n C 1 dX5_airAt_18 rfl ?_
    refine z_aload_n C 0 dX5_airAt_19 rfl ?_
    refine z_get (v := .int (zI (ho))) C (by omega) hay1 hb.1 rfl inA_X5 1 (by decide) q_92 rfl rfl dX5_airAt_20 ?_
    refine z_cS (As := [.int (zI (z)), .int (zI (ho))]) (rest := [.ref (ad (b + 3))]) C (c_floorModX l D A cs tt N ad _ (z) (by omega) (ho) (by omega)) ms_yJ9_floorMod_7cf53 q_443 hd_yJ9_floorMod_7cf53 (by decide) (Nat.le_of_ble_eq_true rfl) (by decide) dX5_airAt_23 rfl (kI0 fun vy9 gvy9 hvy9 => ?_)
    obtain ⟨rfl, rfl⟩ := hvy9
    have hmdy10 := emd24 (ho := ho) (tm := z) (by omega)
    refine z_iald C (by omega) hay4 hb.2.2.2.1 (((z) % (ho)).toNat) (by omega) (by omega) (by decide) dX5_airAt_26 ?_
    exact z_iret C hr hlk dX5_airAt_27 (by decide) (by decide) ⟨_, rfl, rfl, rfl, by unfold fcZ; rw [if_neg (by omega)], rfl⟩
  · refine z_aload_n C 0 dX5_airAt_7 rfl ?_
    refine z_get (v := .int (zI (ua))) C (by omega) hay1 hb.1 rfl inA_X5 2 (by decide) q_95 rfl rfl dX5_airAt_8 ?_
    refine z_goto (tgt := 27) C dX5_airAt_11 (by decide) ?_
    exact z_iret C hr hlk dX5_airAt_27 (by decide) (by decide) ⟨_, rfl, rfl, rfl, by unfold fcZ; rw [if_pos (by omega)], rfl⟩

set_option maxRecDepth 100000 in
set_option maxHeartbeats 4000000 in
theorem c_pfallAt (l : Launch) (D : va_G) (A : Nat → Prop) (cs : Nat → ClassId) (tt : Nat) (N : Nat) (ad : Nat → Nat) (g : Nat → va_E) (b : Nat) (hNb : b + 7 ≤ N) (sl ho ua : Int) (st op ai fa mu tb : Nat → Int) (hb : isPlan cs ad g b sl ho ua st op ai fa mu tb) (hho : 0 ≤ ho ∧ ho ≤ 24) (z : Int) (hz : 0 ≤ z ∧ z ≤ 100000) : zM l yX5_fallAt cX5_fallAt 2 (some .int) ({ frames := 2, cells := 0, slots := 0, locals := 120 } : Room) D A cs tt N ad g [.ref (ad b), .int (zI (z))] (rI0 N ad fun q g' => q = fcZ ho 0 fa z ∧ g = g') := by
  have hay1 : zAt ad (b) (ad b) := rfl
  have hay2 : zAt ad (b + 1) (ad (b + 1)) := rfl
  have hay3 : zAt ad (b + 2) (ad (b + 2)) := rfl
  have hay4 : zAt ad (b + 3) (ad (b + 3)) := rfl
  have hay5 : zAt ad (b + 4) (ad (b + 4)) := rfl
  have hay6 : zAt ad (b + 5) (ad (b + 5)) := rfl
  have hay7 : zAt ad (b + 6) (ad (b + 6)) := rfl
  refine z_of (by decide) (Nat.le_of_ble_eq_true rfl) ?_
  intro p e s m below meth c C hr hlk hnm
  refine z_lv (lv' := [(0, .ref (ad b)), (1, .int (zI (z)))]) [0, 1] rfl ?_
  refine z_aload_n C 0 dX5_fallAt_0 rfl ?_
  refine z_get (v := .int (zI (ho))) C (by omega) hay1 hb.1 rfl inA_X5 1 (by decide) q_92 rfl rfl dX5_fallAt_1 ?_
  refine z_if_ne (tgt := 11) C dX5_fallAt_4 (by decide) (by omega) (fun hby8 => ?_) (fun hby8 => ?_)
  · refine z_aload_n C 0 dX5_fallAt_11 rfl ?_
    refine z_get (v := .ref (ad (b + 4))) C (by omega) hay1 hb.1 rfl inA_X5 6 (by decide) q_107 rfl rfl dX5_fallAt_12 ?_
    refine z_iload_n C 1 dX5_fallAt_15 rfl ?_
    refine z_aload_n C 0 dX5_fallAt_16 rfl ?_
    refine z_get (v := .int (zI (ho))) C (by omega) hay1 hb.1 rfl inA_X5 1 (by decide) q_92 rfl rfl dX5_fallAt_17 ?_
    refine z_cS (As := [.int (zI (z)), .int (zI (ho))]) (rest := [.ref (ad (b + 4))]) C (c_floorModX l D A cs tt N ad _ (z) (by omega) (ho) (by omega)) ms_yJ9_floorMod_7cf53 q_443 hd_yJ9_floorMod_7cf53 (by decide) (Nat.le_of_ble_eq_true rfl) (by decide) dX5_fallAt_20 rfl (kI0 fun vy9 gvy9 hvy9 => ?_)
    obtain ⟨rfl, rfl⟩ := hvy9
    have hmdy10 := emd24 (ho := ho) (tm := z) (by omega)
    refine z_iald C (by omega) hay5 hb.2.2.2.2.1 (((z) % (ho)).toNat) (by omega) (by omega) (by decide) dX5_fallAt_23 ?_
    exact z_iret C hr hlk dX5_fallAt_24 (by decide) (by decide) ⟨_, rfl, rfl, rfl, by unfold fcZ; rw [if_neg (by omega)], rfl⟩
  · refine z_iconst (z := 0) C dX5_fallAt_7 rfl ?_
    refine z_goto (tgt := 24) C dX5_fallAt_8 (by decide) ?_
    exact z_iret C hr hlk dX5_fallAt_24 (by decide) (by decide) ⟨_, rfl, rfl, rfl, by unfold fcZ; rw [if_pos (by omega)], rfl⟩

set_option maxRecDepth 100000 in
set_option maxHeartbeats 4000000 in
theorem c_pmuchAt (l : Launch) (D : va_G) (A : Nat → Prop) (cs : Nat → ClassId) (tt : Nat) (N : Nat) (ad : Nat → Nat) (g : Nat → va_E) (b : Nat) (hNb : b + 7 ≤ N) (sl ho ua : Int) (st op ai fa mu tb : Nat → Int) (hb : isPlan cs ad g b sl ho ua st op ai fa mu tb) (hho : 0 ≤ ho ∧ ho ≤ 24) (z : Int) (hz : 0 ≤ z ∧ z ≤ 100000) : zM l yX5_muchAt cX5_muchAt 2 (some .int) ({ frames := 2, cells := 0, slots := 0, locals := 120 } : Room) D A cs tt N ad g [.ref (ad b), .int (zI (z))] (rI0 N ad fun q g' => q = fcZ ho 0 mu z ∧ g = g') := by
  have hay1 : zAt ad (b) (ad b) := rfl
  have hay2 : zAt ad (b + 1) (ad (b + 1)) := rfl
  have hay3 : zAt ad (b + 2) (ad (b + 2)) := rfl
  have hay4 : zAt ad (b + 3) (ad (b + 3)) := rfl
  have hay5 : zAt ad (b + 4) (ad (b + 4)) := rfl
  have hay6 : zAt ad (b + 5) (ad (b + 5)) := rfl
  have hay7 : zAt ad (b + 6) (ad (b + 6)) := rfl
  refine z_of (by decide) (Nat.le_of_ble_eq_true rfl) ?_
  intro p e s m below meth c C hr hlk hnm
  refine z_lv (lv' := [(0, .ref (ad b)), (1, .int (zI (z)))]) [0, 1] rfl ?_
  refine z_aload_n C 0 dX5_muchAt_0 rfl ?_
  refine z_get (v := .int (zI (ho))) C (by omega) hay1 hb.1 rfl inA_X5 1 (by decide) q_92 rfl rfl dX5_muchAt_1 ?_
  refine z_if_ne (tgt := 11) C dX5_muchAt_4 (by decide) (by omega) (fun hby8 => ?_) (fun hby8 => ?_)
  · refine z_aload_n C 0 dX5_muchAt_11 rfl ?_
    refine z_get (v := .ref (ad (b + 5))) C (by omega) hay1 hb.1 rfl inA_X5 7 (by decide) q_110 rfl rfl dX5_muchAt_12 ?_
    refine z_iload_n C 1 dX5_muchAt_15 rfl ?_
    refine z_aload_n C 0 dX5_muchAt_16 rfl ?_
    refine z_get (v := .int (zI (ho))) C (by omega) hay1 hb.1 rfl inA_X5 1 (by decide) q_92 rfl rfl dX5_muchAt_17 ?_
    refine z_cS (As := [.int (zI (z)), .int (zI (ho))]) (rest := [.ref (ad (b + 5))]) C (c_floorModX l D A cs tt N ad _ (z) (by omega) (ho) (by omega)) ms_yJ9_floorMod_7cf53 q_443 hd_yJ9_floorMod_7cf53 (by decide) (Nat.le_of_ble_eq_true rfl) (by decide) dX5_muchAt_20 rfl (kI0 fun vy9 gvy9 hvy9 => ?_)
    obtain ⟨rfl, rfl⟩ := hvy9
    have hmdy10 := emd24 (ho := ho) (tm := z) (by omega)
    refine z_iald C (by omega) hay6 hb.2.2.2.2.2.1 (((z) % (ho)).toNat) (by omega) (by omega) (by decide) dX5_muchAt_23 ?_
    exact z_iret C hr hlk dX5_muchAt_24 (by decide) (by decide) ⟨_, rfl, rfl, rfl, by unfold fcZ; rw [if_neg (by omega)], rfl⟩
  · refine z_iconst (z := 0) C dX5_muchAt_7 rfl ?_
    refine z_goto (tgt := 24) C dX5_muchAt_8 (by decide) ?_
    exact z_iret C hr hlk dX5_muchAt_24 (by decide) (by decide) ⟨_, rfl, rfl, rfl, by unfold fcZ; rw [if_pos (by omega)], rfl⟩

set_option maxRecDepth 100000 in
set_option maxHeartbeats 4000000 in
theorem c_wFall (l : Launch) (D : va_G) (A : Nat → Prop) (cs : Nat → ClassId) (tt : Nat) (N : Nat) (ad : Nat → Nat) (g : Nat → va_E) (a : Nat) (hN : a + 10 ≤ N) (W : WL9) (hw : isWl cs ad g a W) (sx : Nat) (hs : sx < 4) (M E G : Int) (hS : okSl M E G (W.2 sx)) (hM : M + 50 ≤ 138500) (hE : E + 500 ≤ 400000000) (hnm : 0 ≤ W.1 1 ∧ W.1 1 ≤ 20000) (z1 z2 z3 : Int) (hz1 : 0 ≤ z1 ∧ z1 ≤ 3) (hzw : z1 = 1 ∨ z1 = 2 → 1 ≤ z2 ∧ z2 ≤ 50) (hz2 : -2147483648 ≤ z2 ∧ z2 ≤ 2147483647) (hz3 : -300 ≤ z3 ∧ z3 ≤ 100) : zM l yX8_fallOn cX8_fallOn 8 none ({ frames := 3, cells := 0, slots := 0, locals := 180 } : Room) D A cs tt N ad g [.ref (ad a), .int (zI ((sx : Int))), .int (zI (z1)), .int (zI (z2)), .int (zI (z3))] (rV0 N ad fun g' => isWl cs ad g' a (uZ W.1 1 (W.1 1 + foN z1 z3), uS W.2 sx (foZ z1 z2 z3 (W.1 1) (W.2 sx))) ∧ ∀ j, j < a ∨ a + 10 ≤ j → g' j = g j) := by
  obtain ⟨u1, ⟨uu, u2, u3⟩, u4⟩ := id hw
  have hay1 : zAt ad (a) (ad a) := rfl
  have hay2 : zAt ad (a + 1) (ad (a + 1)) := rfl
  refine z_of (by decide) (Nat.le_of_ble_eq_true rfl) ?_
  intro p e s m below meth c C hr hlk hnm
  refine z_lv (lv' := [(0, .ref (ad a)), (1, .int (zI ((sx : Int)))), (2, .int (zI (z1))), (3, .int (zI (z2))), (4, .int (zI (z3)))]) [0, 1, 2, 3, 4] rfl ?_
  refine z_aload_n C 0 dX8_fallOn_0 rfl ?_
  refine z_get (v := .ref (ad (a + 1))) C (lt_A0 hN rfl) hay1 u1 rfl inA_X8 6 (by decide) q_188 rfl rfl dX8_fallOn_1 ?_
  refine z_iload_n C 1 dX8_fallOn_4 rfl ?_
  refine z_aald C (lt_A (c := 1) hN rfl) hay2 u2 3 rfl (sx) (by omega) (by omega) (by decide) (u3 sx (by omega)) dX8_fallOn_5 ?_
  have hay3 : zAt ad (a + 2 + 2 * sx) (ad (a + 2 + 2 * sx)) := rfl
  have hay4 : zAt ad (a + 2 + 2 * sx + 1) (ad (a + 2 + 2 * sx + 1)) := rfl
  obtain ⟨⟨ny5, Ky6, roy7⟩, hSy8⟩ : ∃ S9 : SL9, S9 = W.2 sx := ⟨_, rfl⟩
  obtain ⟨ry9, hpy10, hCy11⟩ := (show isPk cs ad g (a + 2 + 2 * sx) (ny5, Ky6, roy7) by rw [hSy8]; exact (u4 sx (by omega)))
  have hpy10 : isPack cs ad g (a + 2 + 2 * sx) (ny5 : Int) roy7 ry9 := hpy10
  have hCy11 : ∀ j f, j < ny5 → f < 7 → ry9 (12 * f + j) = Ky6 (7 * j + f) := hCy11
  have hay12 : zAt ad (a + 2 + 2 * sx) (ad (a + 2 + 2 * sx)) := rfl
  have hay13 : zAt ad (a + 2 + 2 * sx + 1) (ad (a + 2 + 2 * sx + 1)) := rfl
  have hOy149 := hS
  rw [← hSy8] at hOy149
  obtain ⟨hOy14, hry15, hmy16, hdy17, hagy18⟩ := id hOy149
  have hry15 : 0 ≤ roy7 := hry15
  have hmy16 : roy7 + sZ Ky6 ny5 ≤ _ := hmy16
  have hdy17 : dZ Ky6 ny5 ≤ _ := hdy17
  have hOy14 : okP Ky6 ny5 := hOy14
  have hsy19 := sZ_n hOy14 (k := ny5) (Nat.le_refl _)
  have hsy19n : ny5 ≤ 12 := hOy14.1
  have hagy18 : ∀ l, l < ny5 → Ky6 (7 * l + 5) ≤ _ := hagy18
  refine z_astore (lv' := [(5, .ref (ad (a + 2 + 2 * sx))), (0, .ref (ad a)), (1, .int (zI ((sx : Int)))), (2, .int (zI (z1))), (3, .int (zI (z2))), (4, .int (zI (z3)))]) C dX8_fallOn_6 (by decide) rfl ?_
  refine z_iload_n C 3 dX8_fallOn_8 rfl ?_
  refine z_iconst (z := 2) C dX8_fallOn_9 rfl ?_
  refine z_icmp_ne (tgt := 25) C dX8_fallOn_10 (by decide) (by omega) (by omega) (fun hby20 => ?_) (fun hby20 => ?_)
  · refine z_iload_n C 3 dX8_fallOn_25 rfl ?_
    refine z_iconst (z := 3) C dX8_fallOn_26 rfl ?_
    refine z_icmp_ne (tgt := 39) C dX8_fallOn_27 (by decide) (by omega) (by omega) (fun hby21 => ?_) (fun hby21 => ?_)
    · refine z_iconst (z := 0) C dX8_fallOn_39 rfl ?_
      refine z_istore (lv' := [(6, .int (zI (0))), (5, .ref (ad (a + 2 + 2 * sx))), (0, .ref (ad a)), (1, .int (zI ((sx : Int)))), (2, .int (zI (z1))), (3, .int (zI (z2))), (4, .int (zI (z3)))]) C dX8_fallOn_40 (by decide) rfl ?_
      refine z_iload C 0 dX8_fallOn_42 rfl ?_
      refine z_if_ne (tgt := 53) C dX8_fallOn_44 (by decide) (by omega) (fun h => absurd h (by omega)) (fun _ => ?_)
      refine z_iload_n C 4 dX8_fallOn_47 rfl ?_
      refine z_iconst (z := 1) C dX8_fallOn_48 rfl ?_
      refine z_icmp_eq (tgt := 53) C dX8_fallOn_49 (by decide) (by omega) (by omega) (fun hby22 => ?_) (fun hby22 => ?_)
      · refine z_aload C 1 dX8_fallOn_53 rfl ?_
        refine z_get (v := .int (zI ((ny5 : Int)))) C (by omega) hay12 hpy10.1 rfl inA_X3 0 (by decide) q_156 rfl rfl dX8_fallOn_55 ?_
        refine z_bipush (z := 12) C dX8_fallOn_58 (by decide) ?_
        refine z_icmp_ne (tgt := 68) C dX8_fallOn_60 (by decide) (by omega) (by omega) (fun hby23 => ?_) (fun hby23 => ?_)
        · refine z_iload C 0 dX8_fallOn_68 rfl ?_
          refine z_if_eq (tgt := 77) C dX8_fallOn_70 (by decide) (by omega) (fun _ => ?_) (fun h => absurd h (by omega))
          refine z_iload_n C 5 dX8_fallOn_77 rfl ?_
          have hzqy24 := hzw (by omega)
          refine z_istore (lv' := [(7, .int (zI (z2))), (6, .int (zI (0))), (5, .ref (ad (a + 2 + 2 * sx))), (0, .ref (ad a)), (1, .int (zI ((sx : Int)))), (2, .int (zI (z1))), (3, .int (zI (z2))), (4, .int (zI (z3)))]) C dX8_fallOn_78 (by decide) rfl ?_
          refine z_aload C 2 dX8_fallOn_80 rfl ?_
          refine z_iload C 1 dX8_fallOn_82 rfl ?_
          refine z_if_eq (tgt := 91) C dX8_fallOn_84 (by decide) (by omega) (fun _ => ?_) (fun h => absurd h (by omega))
          refine z_iconst (z := 0) C dX8_fallOn_91 rfl ?_
          refine z_iload C 0 dX8_fallOn_92 rfl ?_
          refine z_iconst (z := 0) C dX8_fallOn_94 rfl ?_
          refine z_bipush (z := 10) C dX8_fallOn_95 (by decide) ?_
          refine z_iload C 0 dX8_fallOn_97 rfl ?_
          refine z_imul C dX8_fallOn_99 ?_
          refine z_iload C 7 dX8_fallOn_100 rfl ?_
          refine z_iconst (z := 0) C dX8_fallOn_102 rfl ?_
          refine z_mmin C q_472 q_473 q_20 q_474 (by omega) (by omega) (by decide) (Nat.le_of_ble_eq_true rfl) (by decide) (by decide) dX8_fallOn_103 ?_
          obtain ⟨xy25, exy26, hxy27⟩ := mm_min (z3) (0)
          rw [exy26]
          refine z_aload_n C 3 dX8_fallOn_106 rfl ?_
          refine z_get (v := .int (zI (W.1 1))) C (lt_A0 hN rfl) hay1 u1 rfl inA_X8 1 (by decide) q_176 rfl rfl dX8_fallOn_107 ?_
          refine z_cV (As := [.int (zI (0)), .int (zI (z2)), .int (zI (0)), .int (zI (10 * z2)), .int (zI (xy25)), .int (zI (W.1 1))]) (rest := []) (ci := 5) C (c_pAdd l D A cs tt N ad _ (a + 2 + 2 * sx) (by omega) _ _ _ (by omega) ⟨hpy10.1, hpy10.2⟩ ny5 Ky6 rfl hCy11 hOy14 (by omega) (0) (by omega) (z2) (by omega) (0) (by omega) (10 * z2) (by omega) (xy25) (by omega) (W.1 1) (by omega)) (by omega) hay12 hpy10.1 rfl rfl mv_yX3_add q_475 hd_yX3_add (by decide) (Nat.le_of_ble_eq_true rfl) (by decide) dX8_fallOn_110 rfl (kV0 fun gvy28 hvy28 => ?_)
          obtain ⟨⟨rvy28, hpvy28, hCvy28⟩, hfvy28⟩ := hvy28
          have hkvy28 : isPk cs ad gvy28 (a + 2 + 2 * sx) ((ny5 + 1, adK Ky6 ny5 (0) (z2) 0 (10 * z2) (xy25) (W.1 1), roy7)) := by
            exact ⟨rvy28, (show isPack cs ad _ _ (((ny5 + 1 : Nat)) : Int) _ _ by rw [show (((ny5 + 1 : Nat)) : Int) = (ny5 : Int) + 1 by omega]; exact hpvy28), hCvy28⟩
          obtain ⟨⟨ny29, Ky30, roy31⟩, hSy32⟩ : ∃ S9 : SL9, S9 = (ny5 + 1, adK Ky6 ny5 (0) (z2) 0 (10 * z2) (xy25) (W.1 1), roy7) := ⟨_, rfl⟩
          obtain ⟨ry33, hpy34, hCy35⟩ := (show isPk cs ad gvy28 (a + 2 + 2 * sx) (ny29, Ky30, roy31) by rw [hSy32]; exact hkvy28)
          have hpy34 : isPack cs ad gvy28 (a + 2 + 2 * sx) (ny29 : Int) roy31 ry33 := hpy34
          have hCy35 : ∀ j f, j < ny29 → f < 7 → ry33 (12 * f + j) = Ky30 (7 * j + f) := hCy35
          have hay36 : zAt ad (a + 2 + 2 * sx) (ad (a + 2 + 2 * sx)) := rfl
          have hay37 : zAt ad (a + 2 + 2 * sx + 1) (ad (a + 2 + 2 * sx + 1)) := rfl
          refine z_aload_n C 3 dX8_fallOn_113 rfl ?_
          refine z_dup C dX8_fallOn_114 rfl ?_
          have hgy38 := (hfvy28 (a) (by omega) (by omega)).trans u1
          refine z_get (v := .int (zI (W.1 1))) C (lt_A0 hN rfl) hay1 hgy38 rfl inA_X8 1 (by decide) q_176 rfl rfl dX8_fallOn_115 ?_
          refine z_iconst (z := 1) C dX8_fallOn_118 rfl ?_
          refine z_iadd C dX8_fallOn_119 ?_
          refine z_put (fs' := [.int (zI (W.1 0)), .int (zI ((W.1 1) + 1)), .int (zI (W.1 2)), .int (zI (W.1 3)), .int (zI (W.1 4)), .int (zI (W.1 5)), .ref (ad (a + 1))]) C (lt_A0 hN rfl) hay1 hgy38 tyX8 tyX8_ok nmX8 rfl inA_X8 1 (by decide) q_176 rfl rfl rfl rfl (Nat.le_of_ble_eq_true rfl) rfl dX8_fallOn_120 (fun gy39 egy40 => ?_)
          have hgy41 := up_s egy40
          have hgy43 := up_n egy40 hpy34.1 (by omega)
          have hgy44 := up_n egy40 hpy34.2 (by omega)
          have hpy42 : isPk cs ad gy39 (a + 2 + 2 * sx) (ny29, Ky30, roy31) := ⟨_, ⟨hgy43, hgy44⟩, hCy35⟩
          have hcm : cmZ 0 (z2) (xy25) (W.1 1) (W.2 sx) = (ny29, Ky30, roy31) := by
            rw [hSy32, ← hSy8]
            unfold cmZ
            rw [if_neg (show ¬ ((ny5, Ky6, roy7) : SL9).1 = 12 from (by omega : ¬ ny5 = 12))]
            try rfl
          have hF : foZ z1 z2 z3 (W.1 1) (W.2 sx) = (ny29, Ky30, roy31) := by rw [← hcm]; unfold foZ; rw [if_neg (by omega), if_neg (by omega), if_pos (by omega), show mnZ z3 0 = xy25 by unfold mnZ; split <;> omega]
          have hNn : foN z1 z3 = 1 := by unfold foN; rw [if_neg (by omega), if_neg (by omega), if_pos (by omega)]
          rw [hF, hNn]
          exact z_vret C hr hlk dX8_fallOn_123 (by decide) (by decide) ⟨rfl, rfl, rfl, isWl.pk (uZ W.1 1 (W.1 1 + 1)) _ hw hs (fun j j1 j2 j3 => by rw [egy40, va_up_ne _ _ (by omega)]; rw [hfvy28 _ (by omega) (by omega)]) hgy41 ⟨⟨uZ_n _ _ (by decide), uZ_s _ _ _⟩, ⟨uZ_n _ _ (by decide), uZ_n _ _ (by decide)⟩, uZ_n _ _ (by decide), uZ_n _ _ (by decide)⟩ hpy42, fun j j1 => by rw [egy40, va_up_ne _ _ (by omega)]; rw [hfvy28 _ (by omega) (by omega)]⟩
        · refine z_aload C 1 dX8_fallOn_63 rfl ?_
          have hn99 : ny5 = 12 := by omega
          have hS99 := hOy149
          rw [hn99] at hS99
          have hjo := (jo_sl (X := 0) hS99).1
          refine z_cV (As := []) (rest := []) (ci := 5) C (c_pJoin l D A cs tt N ad _ (a + 2 + 2 * sx) (by omega) _ _ _ (by omega) ⟨hpy10.1, hpy10.2⟩ ny5 Ky6 rfl hCy11 hOy14 hn99) (by omega) hay12 hpy10.1 rfl rfl mv_yX3_joinLowest q_462 hd_yX3_joinLowest (by decide) (Nat.le_of_ble_eq_true rfl) (by decide) dX8_fallOn_65 rfl (kV0 fun gvy45 hvy45 => ?_)
          obtain ⟨⟨rvy45, hpvy45, hCvy45⟩, hfvy45⟩ := hvy45
          have hkvy45 : isPk cs ad gvy45 (a + 2 + 2 * sx) ((11, joK Ky6, roy7)) := by
            exact ⟨rvy45, (show isPack cs ad _ _ ((11 : Nat) : Int) _ _ by rw [show ((11 : Nat) : Int) = (ny5 : Int) - 1 by omega]; exact hpvy45), hCvy45⟩
          obtain ⟨⟨ny46, Ky47, roy48⟩, hSy49⟩ : ∃ S9 : SL9, S9 = (11, joK Ky6, roy7) := ⟨_, rfl⟩
          obtain ⟨ry50, hpy51, hCy52⟩ := (show isPk cs ad gvy45 (a + 2 + 2 * sx) (ny46, Ky47, roy48) by rw [hSy49]; exact hkvy45)
          have hpy51 : isPack cs ad gvy45 (a + 2 + 2 * sx) (ny46 : Int) roy48 ry50 := hpy51
          have hCy52 : ∀ j f, j < ny46 → f < 7 → ry50 (12 * f + j) = Ky47 (7 * j + f) := hCy52
          have hay53 : zAt ad (a + 2 + 2 * sx) (ad (a + 2 + 2 * sx)) := rfl
          have hay54 : zAt ad (a + 2 + 2 * sx + 1) (ad (a + 2 + 2 * sx + 1)) := rfl
          have hOy559 := hjo
          rw [← hSy49] at hOy559
          obtain ⟨hOy55, hry56, hmy57, hdy58, hagy59⟩ := id hOy559
          have hry56 : 0 ≤ roy48 := hry56
          have hmy57 : roy48 + sZ Ky47 ny46 ≤ _ := hmy57
          have hdy58 : dZ Ky47 ny46 ≤ _ := hdy58
          have hOy55 : okP Ky47 ny46 := hOy55
          have hsy60 := sZ_n hOy55 (k := ny46) (Nat.le_refl _)
          have hsy60n : ny46 ≤ 12 := hOy55.1
          have hagy59 : ∀ l, l < ny46 → Ky47 (7 * l + 5) ≤ _ := hagy59
          have hn98 : ny46 = 11 := congrArg (fun S : SL9 => S.1) hSy49
          have hK98 : Ky47 = joK Ky6 := congrArg (fun S : SL9 => S.2.1) hSy49
          have hr98 : roy48 = roy7 := congrArg (fun S : SL9 => S.2.2) hSy49
          refine z_iload C 0 dX8_fallOn_68 rfl ?_
          refine z_if_eq (tgt := 77) C dX8_fallOn_70 (by decide) (by omega) (fun _ => ?_) (fun h => absurd h (by omega))
          refine z_iload_n C 5 dX8_fallOn_77 rfl ?_
          have hzqy61 := hzw (by omega)
          refine z_istore (lv' := [(7, .int (zI (z2))), (6, .int (zI (0))), (5, .ref (ad (a + 2 + 2 * sx))), (0, .ref (ad a)), (1, .int (zI ((sx : Int)))), (2, .int (zI (z1))), (3, .int (zI (z2))), (4, .int (zI (z3)))]) C dX8_fallOn_78 (by decide) rfl ?_
          refine z_aload C 2 dX8_fallOn_80 rfl ?_
          refine z_iload C 1 dX8_fallOn_82 rfl ?_
          refine z_if_eq (tgt := 91) C dX8_fallOn_84 (by decide) (by omega) (fun _ => ?_) (fun h => absurd h (by omega))
          refine z_iconst (z := 0) C dX8_fallOn_91 rfl ?_
          refine z_iload C 0 dX8_fallOn_92 rfl ?_
          refine z_iconst (z := 0) C dX8_fallOn_94 rfl ?_
          refine z_bipush (z := 10) C dX8_fallOn_95 (by decide) ?_
          refine z_iload C 0 dX8_fallOn_97 rfl ?_
          refine z_imul C dX8_fallOn_99 ?_
          refine z_iload C 7 dX8_fallOn_100 rfl ?_
          refine z_iconst (z := 0) C dX8_fallOn_102 rfl ?_
          refine z_mmin C q_472 q_473 q_20 q_474 (by omega) (by omega) (by decide) (Nat.le_of_ble_eq_true rfl) (by decide) (by decide) dX8_fallOn_103 ?_
          obtain ⟨xy62, exy63, hxy64⟩ := mm_min (z3) (0)
          rw [exy63]
          refine z_aload_n C 3 dX8_fallOn_106 rfl ?_
          have hgy65 := (hfvy45 (a) (by omega) (by omega)).trans u1
          refine z_get (v := .int (zI (W.1 1))) C (lt_A0 hN rfl) hay1 hgy65 rfl inA_X8 1 (by decide) q_176 rfl rfl dX8_fallOn_107 ?_
          refine z_cV (As := [.int (zI (0)), .int (zI (z2)), .int (zI (0)), .int (zI (10 * z2)), .int (zI (xy62)), .int (zI (W.1 1))]) (rest := []) (ci := 5) C (c_pAdd l D A cs tt N ad _ (a + 2 + 2 * sx) (by omega) _ _ _ (by omega) ⟨hpy51.1, hpy51.2⟩ ny46 Ky47 rfl hCy52 hOy55 (by omega) (0) (by omega) (z2) (by omega) (0) (by omega) (10 * z2) (by omega) (xy62) (by omega) (W.1 1) (by omega)) (by omega) hay53 hpy51.1 rfl rfl mv_yX3_add q_475 hd_yX3_add (by decide) (Nat.le_of_ble_eq_true rfl) (by decide) dX8_fallOn_110 rfl (kV0 fun gvy66 hvy66 => ?_)
          obtain ⟨⟨rvy66, hpvy66, hCvy66⟩, hfvy66⟩ := hvy66
          have hkvy66 : isPk cs ad gvy66 (a + 2 + 2 * sx) ((ny46 + 1, adK Ky47 ny46 (0) (z2) 0 (10 * z2) (xy62) (W.1 1), roy48)) := by
            exact ⟨rvy66, (show isPack cs ad _ _ (((ny46 + 1 : Nat)) : Int) _ _ by rw [show (((ny46 + 1 : Nat)) : Int) = (ny46 : Int) + 1 by omega]; exact hpvy66), hCvy66⟩
          obtain ⟨⟨ny67, Ky68, roy69⟩, hSy70⟩ : ∃ S9 : SL9, S9 = (ny46 + 1, adK Ky47 ny46 (0) (z2) 0 (10 * z2) (xy62) (W.1 1), roy48) := ⟨_, rfl⟩
          obtain ⟨ry71, hpy72, hCy73⟩ := (show isPk cs ad gvy66 (a + 2 + 2 * sx) (ny67, Ky68, roy69) by rw [hSy70]; exact hkvy66)
          have hpy72 : isPack cs ad gvy66 (a + 2 + 2 * sx) (ny67 : Int) roy69 ry71 := hpy72
          have hCy73 : ∀ j f, j < ny67 → f < 7 → ry71 (12 * f + j) = Ky68 (7 * j + f) := hCy73
          have hay74 : zAt ad (a + 2 + 2 * sx) (ad (a + 2 + 2 * sx)) := rfl
          have hay75 : zAt ad (a + 2 + 2 * sx + 1) (ad (a + 2 + 2 * sx + 1)) := rfl
          refine z_aload_n C 3 dX8_fallOn_113 rfl ?_
          refine z_dup C dX8_fallOn_114 rfl ?_
          have hgy76 := (hfvy66 (a) (by omega) (by omega)).trans hgy65
          refine z_get (v := .int (zI (W.1 1))) C (lt_A0 hN rfl) hay1 hgy76 rfl inA_X8 1 (by decide) q_176 rfl rfl dX8_fallOn_115 ?_
          refine z_iconst (z := 1) C dX8_fallOn_118 rfl ?_
          refine z_iadd C dX8_fallOn_119 ?_
          refine z_put (fs' := [.int (zI (W.1 0)), .int (zI ((W.1 1) + 1)), .int (zI (W.1 2)), .int (zI (W.1 3)), .int (zI (W.1 4)), .int (zI (W.1 5)), .ref (ad (a + 1))]) C (lt_A0 hN rfl) hay1 hgy76 tyX8 tyX8_ok nmX8 rfl inA_X8 1 (by decide) q_176 rfl rfl rfl rfl (Nat.le_of_ble_eq_true rfl) rfl dX8_fallOn_120 (fun gy77 egy78 => ?_)
          have hgy79 := up_s egy78
          have hgy81 := up_n egy78 hpy72.1 (by omega)
          have hgy82 := up_n egy78 hpy72.2 (by omega)
          have hpy80 : isPk cs ad gy77 (a + 2 + 2 * sx) (ny67, Ky68, roy69) := ⟨_, ⟨hgy81, hgy82⟩, hCy73⟩
          have hcm : cmZ 0 (z2) (xy62) (W.1 1) (W.2 sx) = (ny67, Ky68, roy69) := by
            rw [hSy70, ← hSy8]
            unfold cmZ
            rw [if_pos (show ((ny5, Ky6, roy7) : SL9).1 = 12 from hn99), hn98, hK98, hr98]
            try rfl
          have hF : foZ z1 z2 z3 (W.1 1) (W.2 sx) = (ny67, Ky68, roy69) := by rw [← hcm]; unfold foZ; rw [if_neg (by omega), if_neg (by omega), if_pos (by omega), show mnZ z3 0 = xy62 by unfold mnZ; split <;> omega]
          have hNn : foN z1 z3 = 1 := by unfold foN; rw [if_neg (by omega), if_neg (by omega), if_pos (by omega)]
          rw [hF, hNn]
          exact z_vret C hr hlk dX8_fallOn_123 (by decide) (by decide) ⟨rfl, rfl, rfl, isWl.pk (uZ W.1 1 (W.1 1 + 1)) _ hw hs (fun j j1 j2 j3 => by rw [egy78, va_up_ne _ _ (by omega)]; rw [hfvy66 _ (by omega) (by omega)]; rw [hfvy45 _ (by omega) (by omega)]) hgy79 ⟨⟨uZ_n _ _ (by decide), uZ_s _ _ _⟩, ⟨uZ_n _ _ (by decide), uZ_n _ _ (by decide)⟩, uZ_n _ _ (by decide), uZ_n _ _ (by decide)⟩ hpy80, fun j j1 => by rw [egy78, va_up_ne _ _ (by omega)]; rw [hfvy66 _ (by omega) (by omega)]; rw [hfvy45 _ (by omega) (by omega)]⟩
      · have hF : foZ z1 z2 z3 (W.1 1) (W.2 sx) = W.2 sx := by unfold foZ; rw [if_neg (by omega), if_neg (by omega), if_neg (by omega)]
        have hNn : foN z1 z3 = 0 := by unfold foN; rw [if_neg (by omega), if_neg (by omega), if_neg (by omega)]
        rw [hF, hNn, Int.add_zero, uZ_j, uS_id]
        exact z_vret C hr hlk dX8_fallOn_52 (by decide) (by decide) ⟨rfl, rfl, rfl, hw, fun j j1 => by rfl⟩
    · refine z_iload C 5 dX8_fallOn_30 rfl ?_
      refine z_if_ge (tgt := 39) C dX8_fallOn_32 (by decide) (by omega) (fun hby83 => ?_) (fun hby83 => ?_)
      · refine z_iconst (z := 0) C dX8_fallOn_39 rfl ?_
        refine z_istore (lv' := [(6, .int (zI (0))), (5, .ref (ad (a + 2 + 2 * sx))), (0, .ref (ad a)), (1, .int (zI ((sx : Int)))), (2, .int (zI (z1))), (3, .int (zI (z2))), (4, .int (zI (z3)))]) C dX8_fallOn_40 (by decide) rfl ?_
        refine z_iload C 0 dX8_fallOn_42 rfl ?_
        refine z_if_ne (tgt := 53) C dX8_fallOn_44 (by decide) (by omega) (fun h => absurd h (by omega)) (fun _ => ?_)
        refine z_iload_n C 4 dX8_fallOn_47 rfl ?_
        refine z_iconst (z := 1) C dX8_fallOn_48 rfl ?_
        refine z_icmp_eq (tgt := 53) C dX8_fallOn_49 (by decide) (by omega) (by omega) (fun hby84 => ?_) (fun hby84 => ?_)
        · refine z_aload C 1 dX8_fallOn_53 rfl ?_
          refine z_get (v := .int (zI ((ny5 : Int)))) C (by omega) hay12 hpy10.1 rfl inA_X3 0 (by decide) q_156 rfl rfl dX8_fallOn_55 ?_
          refine z_bipush (z := 12) C dX8_fallOn_58 (by decide) ?_
          refine z_icmp_ne (tgt := 68) C dX8_fallOn_60 (by decide) (by omega) (by omega) (fun hby85 => ?_) (fun hby85 => ?_)
          · refine z_iload C 0 dX8_fallOn_68 rfl ?_
            refine z_if_eq (tgt := 77) C dX8_fallOn_70 (by decide) (by omega) (fun _ => ?_) (fun h => absurd h (by omega))
            refine z_iload_n C 5 dX8_fallOn_77 rfl ?_
            have hzqy86 := hzw (by omega)
            refine z_istore (lv' := [(7, .int (zI (z2))), (6, .int (zI (0))), (5, .ref (ad (a + 2 + 2 * sx))), (0, .ref (ad a)), (1, .int (zI ((sx : Int)))), (2, .int (zI (z1))), (3, .int (zI (z2))), (4, .int (zI (z3)))]) C dX8_fallOn_78 (by decide) rfl ?_
            refine z_aload C 2 dX8_fallOn_80 rfl ?_
            refine z_iload C 1 dX8_fallOn_82 rfl ?_
            refine z_if_eq (tgt := 91) C dX8_fallOn_84 (by decide) (by omega) (fun _ => ?_) (fun h => absurd h (by omega))
            refine z_iconst (z := 0) C dX8_fallOn_91 rfl ?_
            refine z_iload C 0 dX8_fallOn_92 rfl ?_
            refine z_iconst (z := 0) C dX8_fallOn_94 rfl ?_
            refine z_bipush (z := 10) C dX8_fallOn_95 (by decide) ?_
            refine z_iload C 0 dX8_fallOn_97 rfl ?_
            refine z_imul C dX8_fallOn_99 ?_
            refine z_iload C 7 dX8_fallOn_100 rfl ?_
            refine z_iconst (z := 0) C dX8_fallOn_102 rfl ?_
            refine z_mmin C q_472 q_473 q_20 q_474 (by omega) (by omega) (by decide) (Nat.le_of_ble_eq_true rfl) (by decide) (by decide) dX8_fallOn_103 ?_
            obtain ⟨xy87, exy88, hxy89⟩ := mm_min (z3) (0)
            rw [exy88]
            refine z_aload_n C 3 dX8_fallOn_106 rfl ?_
            refine z_get (v := .int (zI (W.1 1))) C (lt_A0 hN rfl) hay1 u1 rfl inA_X8 1 (by decide) q_176 rfl rfl dX8_fallOn_107 ?_
            refine z_cV (As := [.int (zI (0)), .int (zI (z2)), .int (zI (0)), .int (zI (10 * z2)), .int (zI (xy87)), .int (zI (W.1 1))]) (rest := []) (ci := 5) C (c_pAdd l D A cs tt N ad _ (a + 2 + 2 * sx) (by omega) _ _ _ (by omega) ⟨hpy10.1, hpy10.2⟩ ny5 Ky6 rfl hCy11 hOy14 (by omega) (0) (by omega) (z2) (by omega) (0) (by omega) (10 * z2) (by omega) (xy87) (by omega) (W.1 1) (by omega)) (by omega) hay12 hpy10.1 rfl rfl mv_yX3_add q_475 hd_yX3_add (by decide) (Nat.le_of_ble_eq_true rfl) (by decide) dX8_fallOn_110 rfl (kV0 fun gvy90 hvy90 => ?_)
            obtain ⟨⟨rvy90, hpvy90, hCvy90⟩, hfvy90⟩ := hvy90
            have hkvy90 : isPk cs ad gvy90 (a + 2 + 2 * sx) ((ny5 + 1, adK Ky6 ny5 (0) (z2) 0 (10 * z2) (xy87) (W.1 1), roy7)) := by
              exact ⟨rvy90, (show isPack cs ad _ _ (((ny5 + 1 : Nat)) : Int) _ _ by rw [show (((ny5 + 1 : Nat)) : Int) = (ny5 : Int) + 1 by omega]; exact hpvy90), hCvy90⟩
            obtain ⟨⟨ny91, Ky92, roy93⟩, hSy94⟩ : ∃ S9 : SL9, S9 = (ny5 + 1, adK Ky6 ny5 (0) (z2) 0 (10 * z2) (xy87) (W.1 1), roy7) := ⟨_, rfl⟩
            obtain ⟨ry95, hpy96, hCy97⟩ := (show isPk cs ad gvy90 (a + 2 + 2 * sx) (ny91, Ky92, roy93) by rw [hSy94]; exact hkvy90)
            have hpy96 : isPack cs ad gvy90 (a + 2 + 2 * sx) (ny91 : Int) roy93 ry95 := hpy96
            have hCy97 : ∀ j f, j < ny91 → f < 7 → ry95 (12 * f + j) = Ky92 (7 * j + f) := hCy97
            have hay98 : zAt ad (a + 2 + 2 * sx) (ad (a + 2 + 2 * sx)) := rfl
            have hay99 : zAt ad (a + 2 + 2 * sx + 1) (ad (a + 2 + 2 * sx + 1)) := rfl
            refine z_aload_n C 3 dX8_fallOn_113 rfl ?_
            refine z_dup C dX8_fallOn_114 rfl ?_
            have hgy100 := (hfvy90 (a) (by omega) (by omega)).trans u1
            refine z_get (v := .int (zI (W.1 1))) C (lt_A0 hN rfl) hay1 hgy100 rfl inA_X8 1 (by decide) q_176 rfl rfl dX8_fallOn_115 ?_
            refine z_iconst (z := 1) C dX8_fallOn_118 rfl ?_
            refine z_iadd C dX8_fallOn_119 ?_
            refine z_put (fs' := [.int (zI (W.1 0)), .int (zI ((W.1 1) + 1)), .int (zI (W.1 2)), .int (zI (W.1 3)), .int (zI (W.1 4)), .int (zI (W.1 5)), .ref (ad (a + 1))]) C (lt_A0 hN rfl) hay1 hgy100 tyX8 tyX8_ok nmX8 rfl inA_X8 1 (by decide) q_176 rfl rfl rfl rfl (Nat.le_of_ble_eq_true rfl) rfl dX8_fallOn_120 (fun gy101 egy102 => ?_)
            have hgy103 := up_s egy102
            have hgy105 := up_n egy102 hpy96.1 (by omega)
            have hgy106 := up_n egy102 hpy96.2 (by omega)
            have hpy104 : isPk cs ad gy101 (a + 2 + 2 * sx) (ny91, Ky92, roy93) := ⟨_, ⟨hgy105, hgy106⟩, hCy97⟩
            have hcm : cmZ 0 (z2) (xy87) (W.1 1) (W.2 sx) = (ny91, Ky92, roy93) := by
              rw [hSy94, ← hSy8]
              unfold cmZ
              rw [if_neg (show ¬ ((ny5, Ky6, roy7) : SL9).1 = 12 from (by omega : ¬ ny5 = 12))]
              try rfl
            have hF : foZ z1 z2 z3 (W.1 1) (W.2 sx) = (ny91, Ky92, roy93) := by rw [← hcm]; unfold foZ; rw [if_neg (by omega), if_neg (by omega), if_pos (by omega), show mnZ z3 0 = xy87 by unfold mnZ; split <;> omega]
            have hNn : foN z1 z3 = 1 := by unfold foN; rw [if_neg (by omega), if_neg (by omega), if_pos (by omega)]
            rw [hF, hNn]
            exact z_vret C hr hlk dX8_fallOn_123 (by decide) (by decide) ⟨rfl, rfl, rfl, isWl.pk (uZ W.1 1 (W.1 1 + 1)) _ hw hs (fun j j1 j2 j3 => by rw [egy102, va_up_ne _ _ (by omega)]; rw [hfvy90 _ (by omega) (by omega)]) hgy103 ⟨⟨uZ_n _ _ (by decide), uZ_s _ _ _⟩, ⟨uZ_n _ _ (by decide), uZ_n _ _ (by decide)⟩, uZ_n _ _ (by decide), uZ_n _ _ (by decide)⟩ hpy104, fun j j1 => by rw [egy102, va_up_ne _ _ (by omega)]; rw [hfvy90 _ (by omega) (by omega)]⟩
          · refine z_aload C 1 dX8_fallOn_63 rfl ?_
            have hn99 : ny5 = 12 := by omega
            have hS99 := hOy149
            rw [hn99] at hS99
            have hjo := (jo_sl (X := 0) hS99).1
            refine z_cV (As := []) (rest := []) (ci := 5) C (c_pJoin l D A cs tt N ad _ (a + 2 + 2 * sx) (by omega) _ _ _ (by omega) ⟨hpy10.1, hpy10.2⟩ ny5 Ky6 rfl hCy11 hOy14 hn99) (by omega) hay12 hpy10.1 rfl rfl mv_yX3_joinLowest q_462 hd_yX3_joinLowest (by decide) (Nat.le_of_ble_eq_true rfl) (by decide) dX8_fallOn_65 rfl (kV0 fun gvy107 hvy107 => ?_)
            obtain ⟨⟨rvy107, hpvy107, hCvy107⟩, hfvy107⟩ := hvy107
            have hkvy107 : isPk cs ad gvy107 (a + 2 + 2 * sx) ((11, joK Ky6, roy7)) := by
              exact ⟨rvy107, (show isPack cs ad _ _ ((11 : Nat) : Int) _ _ by rw [show ((11 : Nat) : Int) = (ny5 : Int) - 1 by omega]; exact hpvy107), hCvy107⟩
            obtain ⟨⟨ny108, Ky109, roy110⟩, hSy111⟩ : ∃ S9 : SL9, S9 = (11, joK Ky6, roy7) := ⟨_, rfl⟩
            obtain ⟨ry112, hpy113, hCy114⟩ := (show isPk cs ad gvy107 (a + 2 + 2 * sx) (ny108, Ky109, roy110) by rw [hSy111]; exact hkvy107)
            have hpy113 : isPack cs ad gvy107 (a + 2 + 2 * sx) (ny108 : Int) roy110 ry112 := hpy113
            have hCy114 : ∀ j f, j < ny108 → f < 7 → ry112 (12 * f + j) = Ky109 (7 * j + f) := hCy114
            have hay115 : zAt ad (a + 2 + 2 * sx) (ad (a + 2 + 2 * sx)) := rfl
            have hay116 : zAt ad (a + 2 + 2 * sx + 1) (ad (a + 2 + 2 * sx + 1)) := rfl
            have hOy1179 := hjo
            rw [← hSy111] at hOy1179
            obtain ⟨hOy117, hry118, hmy119, hdy120, hagy121⟩ := id hOy1179
            have hry118 : 0 ≤ roy110 := hry118
            have hmy119 : roy110 + sZ Ky109 ny108 ≤ _ := hmy119
            have hdy120 : dZ Ky109 ny108 ≤ _ := hdy120
            have hOy117 : okP Ky109 ny108 := hOy117
            have hsy122 := sZ_n hOy117 (k := ny108) (Nat.le_refl _)
            have hsy122n : ny108 ≤ 12 := hOy117.1
            have hagy121 : ∀ l, l < ny108 → Ky109 (7 * l + 5) ≤ _ := hagy121
            have hn98 : ny108 = 11 := congrArg (fun S : SL9 => S.1) hSy111
            have hK98 : Ky109 = joK Ky6 := congrArg (fun S : SL9 => S.2.1) hSy111
            have hr98 : roy110 = roy7 := congrArg (fun S : SL9 => S.2.2) hSy111
            refine z_iload C 0 dX8_fallOn_68 rfl ?_
            refine z_if_eq (tgt := 77) C dX8_fallOn_70 (by decide) (by omega) (fun _ => ?_) (fun h => absurd h (by omega))
            refine z_iload_n C 5 dX8_fallOn_77 rfl ?_
            have hzqy123 := hzw (by omega)
            refine z_istore (lv' := [(7, .int (zI (z2))), (6, .int (zI (0))), (5, .ref (ad (a + 2 + 2 * sx))), (0, .ref (ad a)), (1, .int (zI ((sx : Int)))), (2, .int (zI (z1))), (3, .int (zI (z2))), (4, .int (zI (z3)))]) C dX8_fallOn_78 (by decide) rfl ?_
            refine z_aload C 2 dX8_fallOn_80 rfl ?_
            refine z_iload C 1 dX8_fallOn_82 rfl ?_
            refine z_if_eq (tgt := 91) C dX8_fallOn_84 (by decide) (by omega) (fun _ => ?_) (fun h => absurd h (by omega))
            refine z_iconst (z := 0) C dX8_fallOn_91 rfl ?_
            refine z_iload C 0 dX8_fallOn_92 rfl ?_
            refine z_iconst (z := 0) C dX8_fallOn_94 rfl ?_
            refine z_bipush (z := 10) C dX8_fallOn_95 (by decide) ?_
            refine z_iload C 0 dX8_fallOn_97 rfl ?_
            refine z_imul C dX8_fallOn_99 ?_
            refine z_iload C 7 dX8_fallOn_100 rfl ?_
            refine z_iconst (z := 0) C dX8_fallOn_102 rfl ?_
            refine z_mmin C q_472 q_473 q_20 q_474 (by omega) (by omega) (by decide) (Nat.le_of_ble_eq_true rfl) (by decide) (by decide) dX8_fallOn_103 ?_
            obtain ⟨xy124, exy125, hxy126⟩ := mm_min (z3) (0)
            rw [exy125]
            refine z_aload_n C 3 dX8_fallOn_106 rfl ?_
            have hgy127 := (hfvy107 (a) (by omega) (by omega)).trans u1
            refine z_get (v := .int (zI (W.1 1))) C (lt_A0 hN rfl) hay1 hgy127 rfl inA_X8 1 (by decide) q_176 rfl rfl dX8_fallOn_107 ?_
            refine z_cV (As := [.int (zI (0)), .int (zI (z2)), .int (zI (0)), .int (zI (10 * z2)), .int (zI (xy124)), .int (zI (W.1 1))]) (rest := []) (ci := 5) C (c_pAdd l D A cs tt N ad _ (a + 2 + 2 * sx) (by omega) _ _ _ (by omega) ⟨hpy113.1, hpy113.2⟩ ny108 Ky109 rfl hCy114 hOy117 (by omega) (0) (by omega) (z2) (by omega) (0) (by omega) (10 * z2) (by omega) (xy124) (by omega) (W.1 1) (by omega)) (by omega) hay115 hpy113.1 rfl rfl mv_yX3_add q_475 hd_yX3_add (by decide) (Nat.le_of_ble_eq_true rfl) (by decide) dX8_fallOn_110 rfl (kV0 fun gvy128 hvy128 => ?_)
            obtain ⟨⟨rvy128, hpvy128, hCvy128⟩, hfvy128⟩ := hvy128
            have hkvy128 : isPk cs ad gvy128 (a + 2 + 2 * sx) ((ny108 + 1, adK Ky109 ny108 (0) (z2) 0 (10 * z2) (xy124) (W.1 1), roy110)) := by
              exact ⟨rvy128, (show isPack cs ad _ _ (((ny108 + 1 : Nat)) : Int) _ _ by rw [show (((ny108 + 1 : Nat)) : Int) = (ny108 : Int) + 1 by omega]; exact hpvy128), hCvy128⟩
            obtain ⟨⟨ny129, Ky130, roy131⟩, hSy132⟩ : ∃ S9 : SL9, S9 = (ny108 + 1, adK Ky109 ny108 (0) (z2) 0 (10 * z2) (xy124) (W.1 1), roy110) := ⟨_, rfl⟩
            obtain ⟨ry133, hpy134, hCy135⟩ := (show isPk cs ad gvy128 (a + 2 + 2 * sx) (ny129, Ky130, roy131) by rw [hSy132]; exact hkvy128)
            have hpy134 : isPack cs ad gvy128 (a + 2 + 2 * sx) (ny129 : Int) roy131 ry133 := hpy134
            have hCy135 : ∀ j f, j < ny129 → f < 7 → ry133 (12 * f + j) = Ky130 (7 * j + f) := hCy135
            have hay136 : zAt ad (a + 2 + 2 * sx) (ad (a + 2 + 2 * sx)) := rfl
            have hay137 : zAt ad (a + 2 + 2 * sx + 1) (ad (a + 2 + 2 * sx + 1)) := rfl
            refine z_aload_n C 3 dX8_fallOn_113 rfl ?_
            refine z_dup C dX8_fallOn_114 rfl ?_
            have hgy138 := (hfvy128 (a) (by omega) (by omega)).trans hgy127
            refine z_get (v := .int (zI (W.1 1))) C (lt_A0 hN rfl) hay1 hgy138 rfl inA_X8 1 (by decide) q_176 rfl rfl dX8_fallOn_115 ?_
            refine z_iconst (z := 1) C dX8_fallOn_118 rfl ?_
            refine z_iadd C dX8_fallOn_119 ?_
            refine z_put (fs' := [.int (zI (W.1 0)), .int (zI ((W.1 1) + 1)), .int (zI (W.1 2)), .int (zI (W.1 3)), .int (zI (W.1 4)), .int (zI (W.1 5)), .ref (ad (a + 1))]) C (lt_A0 hN rfl) hay1 hgy138 tyX8 tyX8_ok nmX8 rfl inA_X8 1 (by decide) q_176 rfl rfl rfl rfl (Nat.le_of_ble_eq_true rfl) rfl dX8_fallOn_120 (fun gy139 egy140 => ?_)
            have hgy141 := up_s egy140
            have hgy143 := up_n egy140 hpy134.1 (by omega)
            have hgy144 := up_n egy140 hpy134.2 (by omega)
            have hpy142 : isPk cs ad gy139 (a + 2 + 2 * sx) (ny129, Ky130, roy131) := ⟨_, ⟨hgy143, hgy144⟩, hCy135⟩
            have hcm : cmZ 0 (z2) (xy124) (W.1 1) (W.2 sx) = (ny129, Ky130, roy131) := by
              rw [hSy132, ← hSy8]
              unfold cmZ
              rw [if_pos (show ((ny5, Ky6, roy7) : SL9).1 = 12 from hn99), hn98, hK98, hr98]
              try rfl
            have hF : foZ z1 z2 z3 (W.1 1) (W.2 sx) = (ny129, Ky130, roy131) := by rw [← hcm]; unfold foZ; rw [if_neg (by omega), if_neg (by omega), if_pos (by omega), show mnZ z3 0 = xy124 by unfold mnZ; split <;> omega]
            have hNn : foN z1 z3 = 1 := by unfold foN; rw [if_neg (by omega), if_neg (by omega), if_pos (by omega)]
            rw [hF, hNn]
            exact z_vret C hr hlk dX8_fallOn_123 (by decide) (by decide) ⟨rfl, rfl, rfl, isWl.pk (uZ W.1 1 (W.1 1 + 1)) _ hw hs (fun j j1 j2 j3 => by rw [egy140, va_up_ne _ _ (by omega)]; rw [hfvy128 _ (by omega) (by omega)]; rw [hfvy107 _ (by omega) (by omega)]) hgy141 ⟨⟨uZ_n _ _ (by decide), uZ_s _ _ _⟩, ⟨uZ_n _ _ (by decide), uZ_n _ _ (by decide)⟩, uZ_n _ _ (by decide), uZ_n _ _ (by decide)⟩ hpy142, fun j j1 => by rw [egy140, va_up_ne _ _ (by omega)]; rw [hfvy128 _ (by omega) (by omega)]; rw [hfvy107 _ (by omega) (by omega)]⟩
        · have hF : foZ z1 z2 z3 (W.1 1) (W.2 sx) = W.2 sx := by unfold foZ; rw [if_neg (by omega), if_neg (by omega), if_neg (by omega)]
          have hNn : foN z1 z3 = 0 := by unfold foN; rw [if_neg (by omega), if_neg (by omega), if_neg (by omega)]
          rw [hF, hNn, Int.add_zero, uZ_j, uS_id]
          exact z_vret C hr hlk dX8_fallOn_52 (by decide) (by decide) ⟨rfl, rfl, rfl, hw, fun j j1 => by rfl⟩
      · refine z_iconst (z := 1) C dX8_fallOn_35 rfl ?_
        refine z_goto (tgt := 40) C dX8_fallOn_36 (by decide) ?_
        refine z_istore (lv' := [(6, .int (zI (1))), (5, .ref (ad (a + 2 + 2 * sx))), (0, .ref (ad a)), (1, .int (zI ((sx : Int)))), (2, .int (zI (z1))), (3, .int (zI (z2))), (4, .int (zI (z3)))]) C dX8_fallOn_40 (by decide) rfl ?_
        refine z_iload C 0 dX8_fallOn_42 rfl ?_
        refine z_if_ne (tgt := 53) C dX8_fallOn_44 (by decide) (by omega) (fun _ => ?_) (fun h => absurd h (by omega))
        refine z_aload C 1 dX8_fallOn_53 rfl ?_
        refine z_get (v := .int (zI ((ny5 : Int)))) C (by omega) hay12 hpy10.1 rfl inA_X3 0 (by decide) q_156 rfl rfl dX8_fallOn_55 ?_
        refine z_bipush (z := 12) C dX8_fallOn_58 (by decide) ?_
        refine z_icmp_ne (tgt := 68) C dX8_fallOn_60 (by decide) (by omega) (by omega) (fun hby145 => ?_) (fun hby145 => ?_)
        · refine z_iload C 0 dX8_fallOn_68 rfl ?_
          refine z_if_eq (tgt := 77) C dX8_fallOn_70 (by decide) (by omega) (fun h => absurd h (by omega)) (fun _ => ?_)
          refine z_iconst (z := 1) C dX8_fallOn_73 rfl ?_
          refine z_goto (tgt := 78) C dX8_fallOn_74 (by decide) ?_
          refine z_istore (lv' := [(7, .int (zI (1))), (6, .int (zI (1))), (5, .ref (ad (a + 2 + 2 * sx))), (0, .ref (ad a)), (1, .int (zI ((sx : Int)))), (2, .int (zI (z1))), (3, .int (zI (z2))), (4, .int (zI (z3)))]) C dX8_fallOn_78 (by decide) rfl ?_
          refine z_aload C 2 dX8_fallOn_80 rfl ?_
          refine z_iload C 1 dX8_fallOn_82 rfl ?_
          refine z_if_eq (tgt := 91) C dX8_fallOn_84 (by decide) (by omega) (fun h => absurd h (by omega)) (fun _ => ?_)
          refine z_iconst (z := 4) C dX8_fallOn_87 rfl ?_
          refine z_goto (tgt := 92) C dX8_fallOn_88 (by decide) ?_
          refine z_iload C 0 dX8_fallOn_92 rfl ?_
          refine z_iconst (z := 0) C dX8_fallOn_94 rfl ?_
          refine z_bipush (z := 10) C dX8_fallOn_95 (by decide) ?_
          refine z_iload C 0 dX8_fallOn_97 rfl ?_
          refine z_imul C dX8_fallOn_99 ?_
          refine z_iload C 7 dX8_fallOn_100 rfl ?_
          refine z_iconst (z := 0) C dX8_fallOn_102 rfl ?_
          refine z_mmin C q_472 q_473 q_20 q_474 (by omega) (by omega) (by decide) (Nat.le_of_ble_eq_true rfl) (by decide) (by decide) dX8_fallOn_103 ?_
          obtain ⟨xy146, exy147, hxy148⟩ := mm_min (z3) (0)
          rw [exy147]
          refine z_aload_n C 3 dX8_fallOn_106 rfl ?_
          refine z_get (v := .int (zI (W.1 1))) C (lt_A0 hN rfl) hay1 u1 rfl inA_X8 1 (by decide) q_176 rfl rfl dX8_fallOn_107 ?_
          refine z_cV (As := [.int (zI (4)), .int (zI (1)), .int (zI (0)), .int (zI (10 * 1)), .int (zI (xy146)), .int (zI (W.1 1))]) (rest := []) (ci := 5) C (c_pAdd l D A cs tt N ad _ (a + 2 + 2 * sx) (by omega) _ _ _ (by omega) ⟨hpy10.1, hpy10.2⟩ ny5 Ky6 rfl hCy11 hOy14 (by omega) (4) (by omega) (1) (by omega) (0) (by omega) (10 * 1) (by omega) (xy146) (by omega) (W.1 1) (by omega)) (by omega) hay12 hpy10.1 rfl rfl mv_yX3_add q_475 hd_yX3_add (by decide) (Nat.le_of_ble_eq_true rfl) (by decide) dX8_fallOn_110 rfl (kV0 fun gvy149 hvy149 => ?_)
          obtain ⟨⟨rvy149, hpvy149, hCvy149⟩, hfvy149⟩ := hvy149
          have hkvy149 : isPk cs ad gvy149 (a + 2 + 2 * sx) ((ny5 + 1, adK Ky6 ny5 (4) (1) 0 (10 * 1) (xy146) (W.1 1), roy7)) := by
            exact ⟨rvy149, (show isPack cs ad _ _ (((ny5 + 1 : Nat)) : Int) _ _ by rw [show (((ny5 + 1 : Nat)) : Int) = (ny5 : Int) + 1 by omega]; exact hpvy149), hCvy149⟩
          obtain ⟨⟨ny150, Ky151, roy152⟩, hSy153⟩ : ∃ S9 : SL9, S9 = (ny5 + 1, adK Ky6 ny5 (4) (1) 0 (10 * 1) (xy146) (W.1 1), roy7) := ⟨_, rfl⟩
          obtain ⟨ry154, hpy155, hCy156⟩ := (show isPk cs ad gvy149 (a + 2 + 2 * sx) (ny150, Ky151, roy152) by rw [hSy153]; exact hkvy149)
          have hpy155 : isPack cs ad gvy149 (a + 2 + 2 * sx) (ny150 : Int) roy152 ry154 := hpy155
          have hCy156 : ∀ j f, j < ny150 → f < 7 → ry154 (12 * f + j) = Ky151 (7 * j + f) := hCy156
          have hay157 : zAt ad (a + 2 + 2 * sx) (ad (a + 2 + 2 * sx)) := rfl
          have hay158 : zAt ad (a + 2 + 2 * sx + 1) (ad (a + 2 + 2 * sx + 1)) := rfl
          refine z_aload_n C 3 dX8_fallOn_113 rfl ?_
          refine z_dup C dX8_fallOn_114 rfl ?_
          have hgy159 := (hfvy149 (a) (by omega) (by omega)).trans u1
          refine z_get (v := .int (zI (W.1 1))) C (lt_A0 hN rfl) hay1 hgy159 rfl inA_X8 1 (by decide) q_176 rfl rfl dX8_fallOn_115 ?_
          refine z_iconst (z := 1) C dX8_fallOn_118 rfl ?_
          refine z_iadd C dX8_fallOn_119 ?_
          refine z_put (fs' := [.int (zI (W.1 0)), .int (zI ((W.1 1) + 1)), .int (zI (W.1 2)), .int (zI (W.1 3)), .int (zI (W.1 4)), .int (zI (W.1 5)), .ref (ad (a + 1))]) C (lt_A0 hN rfl) hay1 hgy159 tyX8 tyX8_ok nmX8 rfl inA_X8 1 (by decide) q_176 rfl rfl rfl rfl (Nat.le_of_ble_eq_true rfl) rfl dX8_fallOn_120 (fun gy160 egy161 => ?_)
          have hgy162 := up_s egy161
          have hgy164 := up_n egy161 hpy155.1 (by omega)
          have hgy165 := up_n egy161 hpy155.2 (by omega)
          have hpy163 : isPk cs ad gy160 (a + 2 + 2 * sx) (ny150, Ky151, roy152) := ⟨_, ⟨hgy164, hgy165⟩, hCy156⟩
          have hcm : cmZ 4 (1) (xy146) (W.1 1) (W.2 sx) = (ny150, Ky151, roy152) := by
            rw [hSy153, ← hSy8]
            unfold cmZ
            rw [if_neg (show ¬ ((ny5, Ky6, roy7) : SL9).1 = 12 from (by omega : ¬ ny5 = 12))]
            try rfl
          have hF : foZ z1 z2 z3 (W.1 1) (W.2 sx) = (ny150, Ky151, roy152) := by rw [← hcm]; unfold foZ; rw [if_neg (by omega), if_pos (by omega), show z3 = xy146 by omega]
          have hNn : foN z1 z3 = 1 := by unfold foN; rw [if_neg (by omega), if_pos (by omega)]
          rw [hF, hNn]
          exact z_vret C hr hlk dX8_fallOn_123 (by decide) (by decide) ⟨rfl, rfl, rfl, isWl.pk (uZ W.1 1 (W.1 1 + 1)) _ hw hs (fun j j1 j2 j3 => by rw [egy161, va_up_ne _ _ (by omega)]; rw [hfvy149 _ (by omega) (by omega)]) hgy162 ⟨⟨uZ_n _ _ (by decide), uZ_s _ _ _⟩, ⟨uZ_n _ _ (by decide), uZ_n _ _ (by decide)⟩, uZ_n _ _ (by decide), uZ_n _ _ (by decide)⟩ hpy163, fun j j1 => by rw [egy161, va_up_ne _ _ (by omega)]; rw [hfvy149 _ (by omega) (by omega)]⟩
        · refine z_aload C 1 dX8_fallOn_63 rfl ?_
          have hn99 : ny5 = 12 := by omega
          have hS99 := hOy149
          rw [hn99] at hS99
          have hjo := (jo_sl (X := 0) hS99).1
          refine z_cV (As := []) (rest := []) (ci := 5) C (c_pJoin l D A cs tt N ad _ (a + 2 + 2 * sx) (by omega) _ _ _ (by omega) ⟨hpy10.1, hpy10.2⟩ ny5 Ky6 rfl hCy11 hOy14 hn99) (by omega) hay12 hpy10.1 rfl rfl mv_yX3_joinLowest q_462 hd_yX3_joinLowest (by decide) (Nat.le_of_ble_eq_true rfl) (by decide) dX8_fallOn_65 rfl (kV0 fun gvy166 hvy166 => ?_)
          obtain ⟨⟨rvy166, hpvy166, hCvy166⟩, hfvy166⟩ := hvy166
          have hkvy166 : isPk cs ad gvy166 (a + 2 + 2 * sx) ((11, joK Ky6, roy7)) := by
            exact ⟨rvy166, (show isPack cs ad _ _ ((11 : Nat) : Int) _ _ by rw [show ((11 : Nat) : Int) = (ny5 : Int) - 1 by omega]; exact hpvy166), hCvy166⟩
          obtain ⟨⟨ny167, Ky168, roy169⟩, hSy170⟩ : ∃ S9 : SL9, S9 = (11, joK Ky6, roy7) := ⟨_, rfl⟩
          obtain ⟨ry171, hpy172, hCy173⟩ := (show isPk cs ad gvy166 (a + 2 + 2 * sx) (ny167, Ky168, roy169) by rw [hSy170]; exact hkvy166)
          have hpy172 : isPack cs ad gvy166 (a + 2 + 2 * sx) (ny167 : Int) roy169 ry171 := hpy172
          have hCy173 : ∀ j f, j < ny167 → f < 7 → ry171 (12 * f + j) = Ky168 (7 * j + f) := hCy173
          have hay174 : zAt ad (a + 2 + 2 * sx) (ad (a + 2 + 2 * sx)) := rfl
          have hay175 : zAt ad (a + 2 + 2 * sx + 1) (ad (a + 2 + 2 * sx + 1)) := rfl
          have hOy1769 := hjo
          rw [← hSy170] at hOy1769
          obtain ⟨hOy176, hry177, hmy178, hdy179, hagy180⟩ := id hOy1769
          have hry177 : 0 ≤ roy169 := hry177
          have hmy178 : roy169 + sZ Ky168 ny167 ≤ _ := hmy178
          have hdy179 : dZ Ky168 ny167 ≤ _ := hdy179
          have hOy176 : okP Ky168 ny167 := hOy176
          have hsy181 := sZ_n hOy176 (k := ny167) (Nat.le_refl _)
          have hsy181n : ny167 ≤ 12 := hOy176.1
          have hagy180 : ∀ l, l < ny167 → Ky168 (7 * l + 5) ≤ _ := hagy180
          have hn98 : ny167 = 11 := congrArg (fun S : SL9 => S.1) hSy170
          have hK98 : Ky168 = joK Ky6 := congrArg (fun S : SL9 => S.2.1) hSy170
          have hr98 : roy169 = roy7 := congrArg (fun S : SL9 => S.2.2) hSy170
          refine z_iload C 0 dX8_fallOn_68 rfl ?_
          refine z_if_eq (tgt := 77) C dX8_fallOn_70 (by decide) (by omega) (fun h => absurd h (by omega)) (fun _ => ?_)
          refine z_iconst (z := 1) C dX8_fallOn_73 rfl ?_
          refine z_goto (tgt := 78) C dX8_fallOn_74 (by decide) ?_
          refine z_istore (lv' := [(7, .int (zI (1))), (6, .int (zI (1))), (5, .ref (ad (a + 2 + 2 * sx))), (0, .ref (ad a)), (1, .int (zI ((sx : Int)))), (2, .int (zI (z1))), (3, .int (zI (z2))), (4, .int (zI (z3)))]) C dX8_fallOn_78 (by decide) rfl ?_
          refine z_aload C 2 dX8_fallOn_80 rfl ?_
          refine z_iload C 1 dX8_fallOn_82 rfl ?_
          refine z_if_eq (tgt := 91) C dX8_fallOn_84 (by decide) (by omega) (fun h => absurd h (by omega)) (fun _ => ?_)
          refine z_iconst (z := 4) C dX8_fallOn_87 rfl ?_
          refine z_goto (tgt := 92) C dX8_fallOn_88 (by decide) ?_
          refine z_iload C 0 dX8_fallOn_92 rfl ?_
          refine z_iconst (z := 0) C dX8_fallOn_94 rfl ?_
          refine z_bipush (z := 10) C dX8_fallOn_95 (by decide) ?_
          refine z_iload C 0 dX8_fallOn_97 rfl ?_
          refine z_imul C dX8_fallOn_99 ?_
          refine z_iload C 7 dX8_fallOn_100 rfl ?_
          refine z_iconst (z := 0) C dX8_fallOn_102 rfl ?_
          refine z_mmin C q_472 q_473 q_20 q_474 (by omega) (by omega) (by decide) (Nat.le_of_ble_eq_true rfl) (by decide) (by decide) dX8_fallOn_103 ?_
          obtain ⟨xy182, exy183, hxy184⟩ := mm_min (z3) (0)
          rw [exy183]
          refine z_aload_n C 3 dX8_fallOn_106 rfl ?_
          have hgy185 := (hfvy166 (a) (by omega) (by omega)).trans u1
          refine z_get (v := .int (zI (W.1 1))) C (lt_A0 hN rfl) hay1 hgy185 rfl inA_X8 1 (by decide) q_176 rfl rfl dX8_fallOn_107 ?_
          refine z_cV (As := [.int (zI (4)), .int (zI (1)), .int (zI (0)), .int (zI (10 * 1)), .int (zI (xy182)), .int (zI (W.1 1))]) (rest := []) (ci := 5) C (c_pAdd l D A cs tt N ad _ (a + 2 + 2 * sx) (by omega) _ _ _ (by omega) ⟨hpy172.1, hpy172.2⟩ ny167 Ky168 rfl hCy173 hOy176 (by omega) (4) (by omega) (1) (by omega) (0) (by omega) (10 * 1) (by omega) (xy182) (by omega) (W.1 1) (by omega)) (by omega) hay174 hpy172.1 rfl rfl mv_yX3_add q_475 hd_yX3_add (by decide) (Nat.le_of_ble_eq_true rfl) (by decide) dX8_fallOn_110 rfl (kV0 fun gvy186 hvy186 => ?_)
          obtain ⟨⟨rvy186, hpvy186, hCvy186⟩, hfvy186⟩ := hvy186
          have hkvy186 : isPk cs ad gvy186 (a + 2 + 2 * sx) ((ny167 + 1, adK Ky168 ny167 (4) (1) 0 (10 * 1) (xy182) (W.1 1), roy169)) := by
            exact ⟨rvy186, (show isPack cs ad _ _ (((ny167 + 1 : Nat)) : Int) _ _ by rw [show (((ny167 + 1 : Nat)) : Int) = (ny167 : Int) + 1 by omega]; exact hpvy186), hCvy186⟩
          obtain ⟨⟨ny187, Ky188, roy189⟩, hSy190⟩ : ∃ S9 : SL9, S9 = (ny167 + 1, adK Ky168 ny167 (4) (1) 0 (10 * 1) (xy182) (W.1 1), roy169) := ⟨_, rfl⟩
          obtain ⟨ry191, hpy192, hCy193⟩ := (show isPk cs ad gvy186 (a + 2 + 2 * sx) (ny187, Ky188, roy189) by rw [hSy190]; exact hkvy186)
          have hpy192 : isPack cs ad gvy186 (a + 2 + 2 * sx) (ny187 : Int) roy189 ry191 := hpy192
          have hCy193 : ∀ j f, j < ny187 → f < 7 → ry191 (12 * f + j) = Ky188 (7 * j + f) := hCy193
          have hay194 : zAt ad (a + 2 + 2 * sx) (ad (a + 2 + 2 * sx)) := rfl
          have hay195 : zAt ad (a + 2 + 2 * sx + 1) (ad (a + 2 + 2 * sx + 1)) := rfl
          refine z_aload_n C 3 dX8_fallOn_113 rfl ?_
          refine z_dup C dX8_fallOn_114 rfl ?_
          have hgy196 := (hfvy186 (a) (by omega) (by omega)).trans hgy185
          refine z_get (v := .int (zI (W.1 1))) C (lt_A0 hN rfl) hay1 hgy196 rfl inA_X8 1 (by decide) q_176 rfl rfl dX8_fallOn_115 ?_
          refine z_iconst (z := 1) C dX8_fallOn_118 rfl ?_
          refine z_iadd C dX8_fallOn_119 ?_
          refine z_put (fs' := [.int (zI (W.1 0)), .int (zI ((W.1 1) + 1)), .int (zI (W.1 2)), .int (zI (W.1 3)), .int (zI (W.1 4)), .int (zI (W.1 5)), .ref (ad (a + 1))]) C (lt_A0 hN rfl) hay1 hgy196 tyX8 tyX8_ok nmX8 rfl inA_X8 1 (by decide) q_176 rfl rfl rfl rfl (Nat.le_of_ble_eq_true rfl) rfl dX8_fallOn_120 (fun gy197 egy198 => ?_)
          have hgy199 := up_s egy198
          have hgy201 := up_n egy198 hpy192.1 (by omega)
          have hgy202 := up_n egy198 hpy192.2 (by omega)
          have hpy200 : isPk cs ad gy197 (a + 2 + 2 * sx) (ny187, Ky188, roy189) := ⟨_, ⟨hgy201, hgy202⟩, hCy193⟩
          have hcm : cmZ 4 (1) (xy182) (W.1 1) (W.2 sx) = (ny187, Ky188, roy189) := by
            rw [hSy190, ← hSy8]
            unfold cmZ
            rw [if_pos (show ((ny5, Ky6, roy7) : SL9).1 = 12 from hn99), hn98, hK98, hr98]
            try rfl
          have hF : foZ z1 z2 z3 (W.1 1) (W.2 sx) = (ny187, Ky188, roy189) := by rw [← hcm]; unfold foZ; rw [if_neg (by omega), if_pos (by omega), show z3 = xy182 by omega]
          have hNn : foN z1 z3 = 1 := by unfold foN; rw [if_neg (by omega), if_pos (by omega)]
          rw [hF, hNn]
          exact z_vret C hr hlk dX8_fallOn_123 (by decide) (by decide) ⟨rfl, rfl, rfl, isWl.pk (uZ W.1 1 (W.1 1 + 1)) _ hw hs (fun j j1 j2 j3 => by rw [egy198, va_up_ne _ _ (by omega)]; rw [hfvy186 _ (by omega) (by omega)]; rw [hfvy166 _ (by omega) (by omega)]) hgy199 ⟨⟨uZ_n _ _ (by decide), uZ_s _ _ _⟩, ⟨uZ_n _ _ (by decide), uZ_n _ _ (by decide)⟩, uZ_n _ _ (by decide), uZ_n _ _ (by decide)⟩ hpy200, fun j j1 => by rw [egy198, va_up_ne _ _ (by omega)]; rw [hfvy186 _ (by omega) (by omega)]; rw [hfvy166 _ (by omega) (by omega)]⟩
  · refine z_aload C 0 dX8_fallOn_13 rfl ?_
    refine z_aload C 0 dX8_fallOn_15 rfl ?_
    refine z_get (v := .int (zI ((ny5 : Int)))) C (by omega) hay12 hpy10.1 rfl inA_X3 0 (by decide) q_156 rfl rfl dX8_fallOn_17 ?_
    refine z_iload_n C 4 dX8_fallOn_20 rfl ?_
    have hzqy203 := hzw (by omega)
    refine z_cV (As := [.int (zI ((ny5 : Int))), .int (zI (z2))]) (rest := []) (ci := 5) C (c_pWet l D A cs tt N ad _ (a + 2 + 2 * sx) (by omega) _ _ _ (by omega) ⟨hpy10.1, hpy10.2⟩ ny5 Ky6 rfl hCy11 hOy14 (by omega) ((ny5 : Int)) ny5 (by omega) (Nat.le_refl _) (z2) (by omega)) (by omega) hay12 hpy10.1 rfl rfl mv_yX3_wet q_458 hd_yX3_wet (by decide) (Nat.le_of_ble_eq_true rfl) (by decide) dX8_fallOn_21 rfl (kV0 fun gvy204 hvy204 => ?_)
    obtain ⟨⟨rvy204, hpvy204, hCvy204⟩, hfvy204⟩ := hvy204
    have hkvy204 : isPk cs ad gvy204 (a + 2 + 2 * sx) ((ny5, wtK Ky6 ny5 (z2), wtR ny5 roy7 (z2))) := by
      exact ⟨rvy204, hpvy204, hCvy204⟩
    obtain ⟨⟨ny205, Ky206, roy207⟩, hSy208⟩ : ∃ S9 : SL9, S9 = (ny5, wtK Ky6 ny5 (z2), wtR ny5 roy7 (z2)) := ⟨_, rfl⟩
    obtain ⟨ry209, hpy210, hCy211⟩ := (show isPk cs ad gvy204 (a + 2 + 2 * sx) (ny205, Ky206, roy207) by rw [hSy208]; exact hkvy204)
    have hpy210 : isPack cs ad gvy204 (a + 2 + 2 * sx) (ny205 : Int) roy207 ry209 := hpy210
    have hCy211 : ∀ j f, j < ny205 → f < 7 → ry209 (12 * f + j) = Ky206 (7 * j + f) := hCy211
    have hay212 : zAt ad (a + 2 + 2 * sx) (ad (a + 2 + 2 * sx)) := rfl
    have hay213 : zAt ad (a + 2 + 2 * sx + 1) (ad (a + 2 + 2 * sx + 1)) := rfl
    have hgy214 := (hfvy204 (a) (by omega) (by omega)).trans u1
    have hpy215 : isPk cs ad gvy204 (a + 2 + 2 * sx) (ny205, Ky206, roy207) := ⟨_, ⟨hpy210.1, hpy210.2⟩, hCy211⟩
    have hF : foZ z1 z2 z3 (W.1 1) (W.2 sx) = (ny205, Ky206, roy207) := by unfold foZ; rw [if_pos (by omega), hSy208, ← hSy8]
    have hNn : foN z1 z3 = 0 := by unfold foN; rw [if_pos (by omega)]
    rw [hF, hNn, Int.add_zero, uZ_j]
    exact z_vret C hr hlk dX8_fallOn_24 (by decide) (by decide) ⟨rfl, rfl, rfl, isWl.pk W.1 _ hw hs (fun j j1 j2 j3 => by rw [hfvy204 _ (by omega) (by omega)]) hgy214 ⟨⟨rfl, rfl⟩, ⟨rfl, rfl⟩, rfl, rfl⟩ hpy215, fun j j1 => by rw [hfvy204 _ (by omega) (by omega)]⟩
end
section
-- 9ks.pq8.lean.txt
set_option maxRecDepth 100000 in
set_option maxHeartbeats 4000000 in
theorem c_wHour (l : Launch) (D : va_G) (A : Nat → Prop) (cs : Nat → ClassId) (tt : Nat) (N : Nat) (ad : Nat → Nat) (g : Nat → va_E) (a : Nat) (hN : a + 10 ≤ N) (W : WL9) (hw : isWl cs ad g a W) (b : Nat) (hNb : b + 7 ≤ N) (sl ho ua : Int) (st op ai fa mu tb : Nat → Int) (hb : isPlan cs ad g b sl ho ua st op ai fa mu tb) (hab : b + 7 ≤ a ∨ a + 10 ≤ b) (hfc : okFc sl ho ua op ai fa mu tb) (ns : Nat) (hns : sl = (ns : Int)) (hns4 : ns ≤ 4) (z : Nat) (hz : z < 16) (cm : Int) (hcm : 0 ≤ cm ∧ cm ≤ 1) (x X : Int) (hok : okWl x X W) (hx : 0 ≤ x) (hT : W.1 0 + x + 1 ≤ 2722) : zM l yX8_hour cX8_hour 9 none ({ frames := 5, cells := 0, slots := 0, locals := 300 } : Room) D A cs tt N ad g [.ref (ad a), .ref (ad b), .int (zI ((z : Int))), .int (zI (cm))] (rV0 N ad fun g' => isWl cs ad g' a (hoW tb op (fcZ ho ua ai (W.1 0)) (if cm = 1 then fcZ ho 0 fa (W.1 0) else 0) (fcZ ho 0 mu (W.1 0)) z ns W) ∧ ∀ j, j < a ∨ a + 10 ≤ j → g' j = g j) := by
  obtain ⟨u1, ⟨uu, u2, u3⟩, u4⟩ := id hw
  have hay1 : zAt ad (a) (ad a) := rfl
  have hay2 : zAt ad (a + 1) (ad (a + 1)) := rfl
  have hay3 : zAt ad (b) (ad b) := rfl
  have hay4 : zAt ad (b + 1) (ad (b + 1)) := rfl
  have hay5 : zAt ad (b + 2) (ad (b + 2)) := rfl
  have hay6 : zAt ad (b + 3) (ad (b + 3)) := rfl
  have hay7 : zAt ad (b + 4) (ad (b + 4)) := rfl
  have hay8 : zAt ad (b + 5) (ad (b + 5)) := rfl
  have hay9 : zAt ad (b + 6) (ad (b + 6)) := rfl
  obtain ⟨hho, hua, hop, hai, hfa, ht⟩ := id hfc
  have hT0 := hok.2.1
  have hN0 := hok.2.2.1
  obtain ⟨air, hair⟩ : ∃ x9 : Int, x9 = fcZ ho ua ai (W.1 0) := ⟨_, rfl⟩
  obtain ⟨wh, hwh⟩ : ∃ x9 : Int, x9 = (if cm = 1 then fcZ ho 0 fa (W.1 0) else 0) := ⟨_, rfl⟩
  obtain ⟨mc, hmc⟩ : ∃ x9 : Int, x9 = fcZ ho 0 mu (W.1 0) := ⟨_, rfl⟩
  have hab9 : -300 ≤ air ∧ air ≤ 100 := by rw [hair]; exact fc_air hfc
  have hfm := fc_fm (tm := W.1 0) hfc
  rw [← hmc] at hfm
  have hwb : (0 ≤ wh ∧ wh ≤ 3) ∧ (wh = 1 ∨ wh = 2 → 1 ≤ mc ∧ mc ≤ 50) := by rw [hwh]; split <;> omega
  have hmb9 := hfm.2.1
  clear hfm
  rw [← hair, ← hwh, ← hmc]
  refine z_of (by decide) (Nat.le_of_ble_eq_true rfl) ?_
  intro p e s m below meth c C hr hlk hnm
  refine z_lv (lv' := [(0, .ref (ad a)), (1, .ref (ad b)), (2, .int (zI ((z : Int)))), (3, .int (zI (cm)))]) [0, 1, 2, 3] rfl ?_
  have lp : ∀ (n9 : Nat) (i : Int) (fl : Int) (k : Nat) (W9 : WL9) (g1 : Nat → va_E), (5 - i).toNat = n9 → (wh = fl) → (i = (k : Int)) → (k ≤ ns) → (W9 = hoS tb op air wh mc z k W) → (isWl cs ad g1 a W9) → (∀ j, j < a ∨ a + 10 ≤ j → g1 j = g j) → zV p l e ({ frames := 5, cells := 0, slots := 0, locals := 300 } : Room) s m ([.ref (ad a), .ref (ad b), .int (zI ((z : Int))), .int (zI (cm))] : List Value).toArray below meth c (MQ below (zPost D A (rV0 N ad fun g' => isWl cs ad g' a (hoW tb op air wh mc z ns W) ∧ ∀ j, j < a ∨ a + 10 ≤ j → g' j = g j)) ([.ref (ad a), .ref (ad b), .int (zI ((z : Int))), .int (zI (cm))] : List Value).toArray s ({ frames := 5, cells := 0, slots := 0, locals := 300 } : Room).cells ({ frames := 5, cells := 0, slots := 0, locals := 300 } : Room).slots A) D A 9 (N) ad g1 (0) (0) 41 [(7, .int (zI (i))), (6, .int (zI (mc))), (5, .int (zI (fl))), (4, .int (zI (air))), (0, .ref (ad a)), (1, .ref (ad b)), (2, .int (zI ((z : Int)))), (3, .int (zI (cm)))] [] := by
    intro n9
    induction n9 using Nat.strongRecOn with
    | ind n9 ih =>
      intro i fl k W9 g1 hm9 hfl hik hkn hW9 f1 f3
      subst hik
      subst hfl
      obtain ⟨v1, ⟨vu, v2, v3⟩, v4⟩ := id f1
      have hay10 : zAt ad (a) (ad a) := rfl
      have hay11 : zAt ad (a + 1) (ad (a + 1)) := rfl
      have hay12 : zAt ad (b) (ad b) := rfl
      have hay13 : zAt ad (b + 1) (ad (b + 1)) := rfl
      have hay14 : zAt ad (b + 2) (ad (b + 2)) := rfl
      have hay15 : zAt ad (b + 3) (ad (b + 3)) := rfl
      have hay16 : zAt ad (b + 4) (ad (b + 4)) := rfl
      have hay17 : zAt ad (b + 5) (ad (b + 5)) := rfl
      have hay18 : zAt ad (b + 6) (ad (b + 6)) := rfl
      have hh := hoS_h (tb := tb) (op := op) (air := air) (what := wh) (much := mc) (z := z) (W := W) k
      rw [← hW9] at hh
      obtain ⟨hh1, hh2, hh3⟩ := hh
      have hh0 := hh1 0 (by decide)
      clear hh1
      refine z_iload C 0 dX8_hour_41 rfl ?_
      refine z_aload_n C 5 dX8_hour_43 rfl ?_
      refine z_get (v := .int (zI (sl))) C (by omega) hay12 ((f3 _ (by omega)).trans hb.1) rfl inA_X5 0 (by decide) q_91 rfl rfl dX8_hour_44 ?_
      refine z_icmp_ge (tgt := 141) C dX8_hour_47 (by decide) (by omega) (by omega) (fun hby19 => ?_) (fun hby19 => ?_)
      · refine z_aload_n C 4 dX8_hour_141 rfl ?_
        refine z_dup C dX8_hour_142 rfl ?_
        refine z_get (v := .int (zI (W9.1 0))) C (lt_A0 hN rfl) hay10 v1 rfl inA_X8 0 (by decide) q_173 rfl rfl dX8_hour_143 ?_
        refine z_iconst (z := 1) C dX8_hour_146 rfl ?_
        refine z_iadd C dX8_hour_147 ?_
        refine z_put (fs' := [.int (zI ((W9.1 0) + 1)), .int (zI (W9.1 1)), .int (zI (W9.1 2)), .int (zI (W9.1 3)), .int (zI (W9.1 4)), .int (zI (W9.1 5)), .ref (ad (a + 1))]) C (lt_A0 hN rfl) hay10 v1 tyX8 tyX8_ok nmX8 rfl inA_X8 0 (by decide) q_173 rfl rfl rfl rfl (Nat.le_of_ble_eq_true rfl) rfl dX8_hour_148 (fun gy20 egy21 => ?_)
        have hgy22 := up_s egy21
        have hkn : k = ns := by omega
        rw [hkn] at hW9
        have hfin : isWl cs ad gy20 a (hoW tb op air wh mc z ns W) := by unfold hoW; rw [← hW9]; exact isWl.hd (uZ W9.1 0 (W9.1 0 + 1)) f1 (fun j j1 => by rw [egy21, va_up_ne _ _ (by omega)]) hgy22 ⟨⟨uZ_s _ _ _, uZ_n _ _ (by decide)⟩, ⟨uZ_n _ _ (by decide), uZ_n _ _ (by decide)⟩, uZ_n _ _ (by decide), uZ_n _ _ (by decide)⟩
        exact z_vret C hr hlk dX8_hour_151 (by decide) (by decide) ⟨rfl, rfl, rfl, hfin, fun j j1 => by rw [egy21, va_up_ne _ _ (by omega)]; exact f3 j j1⟩
      · refine z_iload_n C 6 dX8_hour_50 rfl ?_
        refine z_iload C 0 dX8_hour_51 rfl ?_
        obtain ⟨xy23, exy24, hxy25⟩ := zI_of (zI ((z : Int)) >>> (zI ((k : Int)) &&& 31))
        refine z_ishr (z := xy23) C dX8_hour_53 exy24 ?_
        refine z_iconst (z := 1) C dX8_hour_54 rfl ?_
        obtain ⟨xy26, exy27, hxy28⟩ := zI_and (zI (xy23)) (m := zI 1) 1 (by decide)
        have hbit := bit16 hz (show k < 4 by omega) exy24 exy27 hxy28
        refine z_iand (z := xy26) C dX8_hour_55 exy27 ?_
        refine z_iconst (z := 1) C dX8_hour_56 rfl ?_
        refine z_icmp_ne (tgt := 135) C dX8_hour_57 (by decide) (by omega) (by omega) (fun hby29 => ?_) (fun hby29 => ?_)
        · refine z_iinc (z := (k : Int) + 1) (lv' := [(7, .int (zI ((k : Int) + 1))), (6, .int (zI (mc))), (5, .int (zI (wh))), (4, .int (zI (air))), (0, .ref (ad a)), (1, .ref (ad b)), (2, .int (zI ((z : Int)))), (3, .int (zI (cm)))]) (j := 0) C dX8_hour_135 rfl rfl (by decide) rfl ?_
          refine z_goto (tgt := 41) C dX8_hour_138 (by decide) ?_
          refine z_lv (lv' := [(7, .int (zI ((k : Int) + 1))), (6, .int (zI (mc))), (5, .int (zI (wh))), (4, .int (zI (air))), (0, .ref (ad a)), (1, .ref (ad b)), (2, .int (zI ((z : Int)))), (3, .int (zI (cm)))]) [0, 1, 2, 3, 4, 5, 6, 7] rfl ?_
          exact ih _ (by omega) ((k : Int) + 1) wh (k + 1) (W9) g1 rfl rfl (by omega) (by omega) (by rw [hW9]; exact (if_neg (by omega)).symm) f1 (fun j j1 => by exact f3 j j1)
        · refine z_aload_n C 4 dX8_hour_60 rfl ?_
          refine z_get (v := .ref (ad (a + 1))) C (lt_A0 hN rfl) hay10 v1 rfl inA_X8 6 (by decide) q_188 rfl rfl dX8_hour_61 ?_
          refine z_iload C 0 dX8_hour_64 rfl ?_
          refine z_aald C (lt_A (c := 1) hN rfl) hay11 v2 3 rfl (k) (by omega) (by omega) (by decide) (v3 k (by omega)) dX8_hour_66 ?_
          have hay30 : zAt ad (a + 2 + 2 * k) (ad (a + 2 + 2 * k)) := rfl
          have hay31 : zAt ad (a + 2 + 2 * k + 1) (ad (a + 2 + 2 * k + 1)) := rfl
          obtain ⟨⟨ny32, Ky33, roy34⟩, hSy35⟩ : ∃ S9 : SL9, S9 = W9.2 k := ⟨_, rfl⟩
          obtain ⟨ry36, hpy37, hCy38⟩ := (show isPk cs ad g1 (a + 2 + 2 * k) (ny32, Ky33, roy34) by rw [hSy35]; exact (v4 k (by omega)))
          have hpy37 : isPack cs ad g1 (a + 2 + 2 * k) (ny32 : Int) roy34 ry36 := hpy37
          have hCy38 : ∀ j f, j < ny32 → f < 7 → ry36 (12 * f + j) = Ky33 (7 * j + f) := hCy38
          have hay39 : zAt ad (a + 2 + 2 * k) (ad (a + 2 + 2 * k)) := rfl
          have hay40 : zAt ad (a + 2 + 2 * k + 1) (ad (a + 2 + 2 * k + 1)) := rfl
          refine z_astore (lv' := [(8, .ref (ad (a + 2 + 2 * k))), (7, .int (zI ((k : Int)))), (6, .int (zI (mc))), (5, .int (zI (wh))), (4, .int (zI (air))), (0, .ref (ad a)), (1, .ref (ad b)), (2, .int (zI ((z : Int)))), (3, .int (zI (cm)))]) C dX8_hour_67 (by decide) rfl ?_
          refine z_aload_n C 5 dX8_hour_69 rfl ?_
          refine z_iload C 1 dX8_hour_70 rfl ?_
          refine z_iload C 3 dX8_hour_72 rfl ?_
          refine z_iload C 2 dX8_hour_74 rfl ?_
          refine z_iload C 4 dX8_hour_76 rfl ?_
          have hk4 : k < 4 := by omega
          have hS9 : W9.2 k = W.2 k := hh3 k (Nat.le_refl k)
          have hOk := (hok.1 k hk4).1
          rw [← hS9] at hOk
          have mB1 : mB (W.1 0 + x) = 2400 + 50 * (W.1 0 + x) := rfl
          have eB1 : eB (W.1 0 + x) = 12000 + 139000 * (W.1 0 + x) := rfl
          have hop9 := hop k (by omega)
          have hF1 := (fo_sl (X := 0) (nm := W9.1 1) hOk (by omega) (by omega) hwb.2 hab9 (by omega) (by omega)).1
          refine z_cV (As := [.int (zI ((k : Int))), .int (zI (wh)), .int (zI (mc)), .int (zI (air))]) (rest := []) (ci := 10) C (c_wFall l D A cs tt N ad _ a (by omega) W9 f1 k hk4 _ _ _ hOk (by omega) (by omega) (by omega) (wh) (mc) (air) (by omega) hwb.2 (by omega) (by omega)) (lt_A0 hN rfl) hay10 v1 rfl rfl mv_yX8_fallOn q_454 hd_yX8_fallOn (by decide) (Nat.le_of_ble_eq_true rfl) (by decide) dX8_hour_78 rfl (kV0 fun gvy41 hvy41 => ?_)
          obtain ⟨hwvy41, hfvy41⟩ := hvy41
          obtain ⟨x1vy41, -, x4vy41⟩ := id hwvy41
          have hpvy41 := x4vy41 k hk4
          rw [show ((uZ W9.1 1 (W9.1 1 + foN wh air), uS W9.2 k (foZ wh mc air (W9.1 1) (W9.2 k))) : WL9).2 k = foZ wh mc air (W9.1 1) (W9.2 k) from uS_s _ _ _] at hpvy41
          obtain ⟨⟨ny42, Ky43, roy44⟩, hSy45⟩ : ∃ S9 : SL9, S9 = foZ wh mc air (W9.1 1) (W9.2 k) := ⟨_, rfl⟩
          obtain ⟨ry46, hpy47, hCy48⟩ := (show isPk cs ad gvy41 (a + 2 + 2 * k) (ny42, Ky43, roy44) by rw [hSy45]; exact hpvy41)
          have hpy47 : isPack cs ad gvy41 (a + 2 + 2 * k) (ny42 : Int) roy44 ry46 := hpy47
          have hCy48 : ∀ j f, j < ny42 → f < 7 → ry46 (12 * f + j) = Ky43 (7 * j + f) := hCy48
          have hay49 : zAt ad (a + 2 + 2 * k) (ad (a + 2 + 2 * k)) := rfl
          have hay50 : zAt ad (a + 2 + 2 * k + 1) (ad (a + 2 + 2 * k + 1)) := rfl
          have hOy519 := hF1
          rw [← hSy45] at hOy519
          obtain ⟨hOy51, hry52, hmy53, hdy54, hagy55⟩ := id hOy519
          have hry52 : 0 ≤ roy44 := hry52
          have hmy53 : roy44 + sZ Ky43 ny42 ≤ _ := hmy53
          have hdy54 : dZ Ky43 ny42 ≤ _ := hdy54
          have hOy51 : okP Ky43 ny42 := hOy51
          have hsy56 := sZ_n hOy51 (k := ny42) (Nat.le_refl _)
          have hsy56n : ny42 ≤ 12 := hOy51.1
          have hagy55 : ∀ l, l < ny42 → Ky43 (7 * l + 5) ≤ _ := hagy55
          refine z_iload C 4 dX8_hour_81 rfl ?_
          refine z_if_le (tgt := 104) C dX8_hour_83 (by decide) (by omega) (fun hby57 => ?_) (fun hby57 => ?_)
          · refine z_aload C 0 dX8_hour_104 rfl ?_
            refine z_iload C 4 dX8_hour_106 rfl ?_
            have hO2 := ht_sl (air := air) (opn := op k) hOy519 hab9 hop9
            refine z_cV (As := [.int (zI (air))]) (rest := []) (ci := 5) C (c_pCool l D A cs tt N ad _ (a + 2 + 2 * k) (by omega) _ _ _ (by omega) ⟨hpy47.1, hpy47.2⟩ ny42 Ky43 rfl hCy48 hOy51 (by omega) (air) (by omega)) (by omega) hay49 hpy47.1 rfl rfl mv_yX3_cool q_485 hd_yX3_cool (by decide) (Nat.le_of_ble_eq_true rfl) (by decide) dX8_hour_108 rfl (kV0 fun gvy58 hvy58 => ?_)
            obtain ⟨⟨rvy58, hpvy58, hCvy58⟩, hfvy58⟩ := hvy58
            have hkvy58 : isPk cs ad gvy58 (a + 2 + 2 * k) (htZ air (op k) (ny42, Ky43, roy44)) := by
              rw [show htZ air (op k) (ny42, Ky43, roy44) = (ny42, clK Ky43 ny42 air, roy44) from if_neg (by omega)]; exact ⟨rvy58, hpvy58, hCvy58⟩
            obtain ⟨⟨ny59, Ky60, roy61⟩, hSy62⟩ : ∃ S9 : SL9, S9 = htZ air (op k) (ny42, Ky43, roy44) := ⟨_, rfl⟩
            obtain ⟨ry63, hpy64, hCy65⟩ := (show isPk cs ad gvy58 (a + 2 + 2 * k) (ny59, Ky60, roy61) by rw [hSy62]; exact hkvy58)
            have hpy64 : isPack cs ad gvy58 (a + 2 + 2 * k) (ny59 : Int) roy61 ry63 := hpy64
            have hCy65 : ∀ j f, j < ny59 → f < 7 → ry63 (12 * f + j) = Ky60 (7 * j + f) := hCy65
            have hay66 : zAt ad (a + 2 + 2 * k) (ad (a + 2 + 2 * k)) := rfl
            have hay67 : zAt ad (a + 2 + 2 * k + 1) (ad (a + 2 + 2 * k + 1)) := rfl
            have hOy689 := hO2
            rw [← hSy62] at hOy689
            obtain ⟨hOy68, hry69, hmy70, hdy71, hagy72⟩ := id hOy689
            have hry69 : 0 ≤ roy61 := hry69
            have hmy70 : roy61 + sZ Ky60 ny59 ≤ _ := hmy70
            have hdy71 : dZ Ky60 ny59 ≤ _ := hdy71
            have hOy68 : okP Ky60 ny59 := hOy68
            have hsy73 := sZ_n hOy68 (k := ny59) (Nat.le_refl _)
            have hsy73n : ny59 ≤ 12 := hOy68.1
            have hagy72 : ∀ l, l < ny59 → Ky60 (7 * l + 5) ≤ _ := hagy72
            refine z_aload C 0 dX8_hour_111 rfl ?_
            refine z_cV (As := []) (rest := []) (ci := 5) C (c_pEven l D A cs tt N ad _ (a + 2 + 2 * k) (by omega) _ _ _ (by omega) ⟨hpy64.1, hpy64.2⟩ ny59 Ky60 rfl hCy65 hOy68 ) (by omega) hay66 hpy64.1 rfl rfl mv_yX3_evenTemps q_489 hd_yX3_evenTemps (by decide) (Nat.le_of_ble_eq_true rfl) (by decide) dX8_hour_113 rfl (kV0 fun gvy74 hvy74 => ?_)
            obtain ⟨⟨rvy74, hpvy74, hCvy74⟩, hfvy74⟩ := hvy74
            have hkvy74 : isPk cs ad gvy74 (a + 2 + 2 * k) (evS (ny59, Ky60, roy61)) := by
              exact ⟨rvy74, hpvy74, hCvy74⟩
            obtain ⟨⟨ny75, Ky76, roy77⟩, hSy78⟩ : ∃ S9 : SL9, S9 = evS (ny59, Ky60, roy61) := ⟨_, rfl⟩
            obtain ⟨ry79, hpy80, hCy81⟩ := (show isPk cs ad gvy74 (a + 2 + 2 * k) (ny75, Ky76, roy77) by rw [hSy78]; exact hkvy74)
            have hpy80 : isPack cs ad gvy74 (a + 2 + 2 * k) (ny75 : Int) roy77 ry79 := hpy80
            have hCy81 : ∀ j f, j < ny75 → f < 7 → ry79 (12 * f + j) = Ky76 (7 * j + f) := hCy81
            have hay82 : zAt ad (a + 2 + 2 * k) (ad (a + 2 + 2 * k)) := rfl
            have hay83 : zAt ad (a + 2 + 2 * k + 1) (ad (a + 2 + 2 * k + 1)) := rfl
            have hOy849 := (ev_sl hOy689)
            rw [← hSy78] at hOy849
            obtain ⟨hOy84, hry85, hmy86, hdy87, hagy88⟩ := id hOy849
            have hry85 : 0 ≤ roy77 := hry85
            have hmy86 : roy77 + sZ Ky76 ny75 ≤ _ := hmy86
            have hdy87 : dZ Ky76 ny75 ≤ _ := hdy87
            have hOy84 : okP Ky76 ny75 := hOy84
            have hsy89 := sZ_n hOy84 (k := ny75) (Nat.le_refl _)
            have hsy89n : ny75 ≤ 12 := hOy84.1
            have hagy88 : ∀ l, l < ny75 → Ky76 (7 * l + 5) ≤ _ := hagy88
            refine z_aload C 0 dX8_hour_116 rfl ?_
            refine z_aload_n C 6 dX8_hour_118 rfl ?_
            have hgy90 := (hfvy41 (b) (by omega)).trans ((f3 _ (by omega)).trans hb.1)
            have hgy91 := (hfvy58 (b) (by omega) (by omega)).trans hgy90
            have hgy92 := (hfvy74 (b) (by omega) (by omega)).trans hgy91
            have hgy93 := (hfvy41 (b + 1) (by omega)).trans ((f3 _ (by omega)).trans hb.2.1)
            have hgy94 := (hfvy58 (b + 1) (by omega) (by omega)).trans hgy93
            have hgy95 := (hfvy74 (b + 1) (by omega) (by omega)).trans hgy94
            have hgy96 := (hfvy41 (b + 2) (by omega)).trans ((f3 _ (by omega)).trans hb.2.2.1)
            have hgy97 := (hfvy58 (b + 2) (by omega) (by omega)).trans hgy96
            have hgy98 := (hfvy74 (b + 2) (by omega) (by omega)).trans hgy97
            have hgy99 := (hfvy41 (b + 3) (by omega)).trans ((f3 _ (by omega)).trans hb.2.2.2.1)
            have hgy100 := (hfvy58 (b + 3) (by omega) (by omega)).trans hgy99
            have hgy101 := (hfvy74 (b + 3) (by omega) (by omega)).trans hgy100
            have hgy102 := (hfvy41 (b + 4) (by omega)).trans ((f3 _ (by omega)).trans hb.2.2.2.2.1)
            have hgy103 := (hfvy58 (b + 4) (by omega) (by omega)).trans hgy102
            have hgy104 := (hfvy74 (b + 4) (by omega) (by omega)).trans hgy103
            have hgy105 := (hfvy41 (b + 5) (by omega)).trans ((f3 _ (by omega)).trans hb.2.2.2.2.2.1)
            have hgy106 := (hfvy58 (b + 5) (by omega) (by omega)).trans hgy105
            have hgy107 := (hfvy74 (b + 5) (by omega) (by omega)).trans hgy106
            have hgy108 := (hfvy41 (b + 6) (by omega)).trans ((f3 _ (by omega)).trans hb.2.2.2.2.2.2)
            have hgy109 := (hfvy58 (b + 6) (by omega) (by omega)).trans hgy108
            have hgy110 := (hfvy74 (b + 6) (by omega) (by omega)).trans hgy109
            refine z_cV (As := [.ref (ad b)]) (rest := []) (ci := 5) C (c_pSink l D A cs tt N ad _ (a + 2 + 2 * k) (by omega) _ _ _ (by omega) ⟨hpy80.1, hpy80.2⟩ ny75 Ky76 rfl hCy81 hOy84 (b) (by omega) _ _ _ _ _ _ _ _ _ ⟨hgy92, hgy95, hgy98, hgy101, hgy104, hgy107, hgy110⟩ ht (by omega) (by omega)) (by omega) hay82 hpy80.1 rfl rfl mv_yX3_freezeAndSink q_493 hd_yX3_freezeAndSink (by decide) (Nat.le_of_ble_eq_true rfl) (by decide) dX8_hour_119 rfl (kV0 fun gvy111 hvy111 => ?_)
            obtain ⟨⟨rvy111, hpvy111, hCvy111⟩, hfvy111⟩ := hvy111
            have hkvy111 : isPk cs ad gvy111 (a + 2 + 2 * k) (skS tb (ny75, Ky76, roy77)) := by
              exact ⟨rvy111, hpvy111, hCvy111⟩
            obtain ⟨⟨ny112, Ky113, roy114⟩, hSy115⟩ : ∃ S9 : SL9, S9 = skS tb (ny75, Ky76, roy77) := ⟨_, rfl⟩
            obtain ⟨ry116, hpy117, hCy118⟩ := (show isPk cs ad gvy111 (a + 2 + 2 * k) (ny112, Ky113, roy114) by rw [hSy115]; exact hkvy111)
            have hpy117 : isPack cs ad gvy111 (a + 2 + 2 * k) (ny112 : Int) roy114 ry116 := hpy117
            have hCy118 : ∀ j f, j < ny112 → f < 7 → ry116 (12 * f + j) = Ky113 (7 * j + f) := hCy118
            have hay119 : zAt ad (a + 2 + 2 * k) (ad (a + 2 + 2 * k)) := rfl
            have hay120 : zAt ad (a + 2 + 2 * k + 1) (ad (a + 2 + 2 * k + 1)) := rfl
            have hOy1219 := (sk_sl ht hOy849)
            rw [← hSy115] at hOy1219
            obtain ⟨hOy121, hry122, hmy123, hdy124, hagy125⟩ := id hOy1219
            have hry122 : 0 ≤ roy114 := hry122
            have hmy123 : roy114 + sZ Ky113 ny112 ≤ _ := hmy123
            have hdy124 : dZ Ky113 ny112 ≤ _ := hdy124
            have hOy121 : okP Ky113 ny112 := hOy121
            have hsy126 := sZ_n hOy121 (k := ny112) (Nat.le_refl _)
            have hsy126n : ny112 ≤ 12 := hOy121.1
            have hagy125 : ∀ l, l < ny112 → Ky113 (7 * l + 5) ≤ _ := hagy125
            refine z_aload C 0 dX8_hour_122 rfl ?_
            refine z_aload_n C 6 dX8_hour_124 rfl ?_
            have hpr9 := pr_sl ht hOy1219 (by omega)
            have hgy127 := (hfvy111 (b) (by omega) (by omega)).trans hgy92
            have hgy128 := (hfvy111 (b + 1) (by omega) (by omega)).trans hgy95
            have hgy129 := (hfvy111 (b + 2) (by omega) (by omega)).trans hgy98
            have hgy130 := (hfvy111 (b + 3) (by omega) (by omega)).trans hgy101
            have hgy131 := (hfvy111 (b + 4) (by omega) (by omega)).trans hgy104
            have hgy132 := (hfvy111 (b + 5) (by omega) (by omega)).trans hgy107
            have hgy133 := (hfvy111 (b + 6) (by omega) (by omega)).trans hgy110
            refine z_cV (As := [.ref (ad b)]) (rest := []) (ci := 5) C (c_pPress l D A cs tt N ad _ (a + 2 + 2 * k) (by omega) _ _ _ (by omega) ⟨hpy117.1, hpy117.2⟩ ny112 Ky113 rfl hCy118 hOy121 (b) (by omega) _ _ _ _ _ _ _ _ _ ⟨hgy127, hgy128, hgy129, hgy130, hgy131, hgy132, hgy133⟩ ht (by omega) (by omega)) (by omega) hay119 hpy117.1 rfl rfl mv_yX3_press q_506 hd_yX3_press (by decide) (Nat.le_of_ble_eq_true rfl) (by decide) dX8_hour_125 rfl (kV0 fun gvy134 hvy134 => ?_)
            obtain ⟨⟨rvy134, hpvy134, hCvy134⟩, hfvy134⟩ := hvy134
            have hkvy134 : isPk cs ad gvy134 (a + 2 + 2 * k) (prS tb (ny112, Ky113, roy114)) := by
              exact ⟨rvy134, hpvy134, hCvy134⟩
            obtain ⟨⟨ny135, Ky136, roy137⟩, hSy138⟩ : ∃ S9 : SL9, S9 = prS tb (ny112, Ky113, roy114) := ⟨_, rfl⟩
            obtain ⟨ry139, hpy140, hCy141⟩ := (show isPk cs ad gvy134 (a + 2 + 2 * k) (ny135, Ky136, roy137) by rw [hSy138]; exact hkvy134)
            have hpy140 : isPack cs ad gvy134 (a + 2 + 2 * k) (ny135 : Int) roy137 ry139 := hpy140
            have hCy141 : ∀ j f, j < ny135 → f < 7 → ry139 (12 * f + j) = Ky136 (7 * j + f) := hCy141
            have hay142 : zAt ad (a + 2 + 2 * k) (ad (a + 2 + 2 * k)) := rfl
            have hay143 : zAt ad (a + 2 + 2 * k + 1) (ad (a + 2 + 2 * k + 1)) := rfl
            have hOy1449 := hpr9.1
            rw [← hSy138] at hOy1449
            obtain ⟨hOy144, hry145, hmy146, hdy147, hagy148⟩ := id hOy1449
            have hry145 : 0 ≤ roy137 := hry145
            have hmy146 : roy137 + sZ Ky136 ny135 ≤ _ := hmy146
            have hdy147 : dZ Ky136 ny135 ≤ _ := hdy147
            have hOy144 : okP Ky136 ny135 := hOy144
            have hsy149 := sZ_n hOy144 (k := ny135) (Nat.le_refl _)
            have hsy149n : ny135 ≤ 12 := hOy144.1
            have hagy148 : ∀ l, l < ny135 → Ky136 (7 * l + 5) ≤ _ := hagy148
            refine z_aload C 0 dX8_hour_128 rfl ?_
            refine z_iload C 4 dX8_hour_130 rfl ?_
            refine z_cV (As := [.int (zI (air))]) (rest := []) (ci := 5) C (c_pTurn l D A cs tt N ad _ (a + 2 + 2 * k) (by omega) _ _ _ (by omega) ⟨hpy140.1, hpy140.2⟩ ny135 Ky136 rfl hCy141 hOy144 (fun l9 h9 => by have := hagy148 l9 h9; omega) (air) (by omega)) (by omega) hay142 hpy140.1 rfl rfl mv_yX3_turnAndAge q_517 hd_yX3_turnAndAge (by decide) (Nat.le_of_ble_eq_true rfl) (by decide) dX8_hour_132 rfl (kV0 fun gvy150 hvy150 => ?_)
            obtain ⟨⟨rvy150, hpvy150, hCvy150⟩, hfvy150⟩ := hvy150
            have hkvy150 : isPk cs ad gvy150 (a + 2 + 2 * k) (taS air (ny135, Ky136, roy137)) := by
              exact ⟨rvy150, hpvy150, hCvy150⟩
            obtain ⟨⟨ny151, Ky152, roy153⟩, hSy154⟩ : ∃ S9 : SL9, S9 = taS air (ny135, Ky136, roy137) := ⟨_, rfl⟩
            obtain ⟨ry155, hpy156, hCy157⟩ := (show isPk cs ad gvy150 (a + 2 + 2 * k) (ny151, Ky152, roy153) by rw [hSy154]; exact hkvy150)
            have hpy156 : isPack cs ad gvy150 (a + 2 + 2 * k) (ny151 : Int) roy153 ry155 := hpy156
            have hCy157 : ∀ j f, j < ny151 → f < 7 → ry155 (12 * f + j) = Ky152 (7 * j + f) := hCy157
            have hay158 : zAt ad (a + 2 + 2 * k) (ad (a + 2 + 2 * k)) := rfl
            have hay159 : zAt ad (a + 2 + 2 * k + 1) (ad (a + 2 + 2 * k + 1)) := rfl
            refine z_iinc (z := (k : Int) + 1) (lv' := [(7, .int (zI ((k : Int) + 1))), (8, .ref (ad (a + 2 + 2 * k))), (6, .int (zI (mc))), (5, .int (zI (wh))), (4, .int (zI (air))), (0, .ref (ad a)), (1, .ref (ad b)), (2, .int (zI ((z : Int)))), (3, .int (zI (cm)))]) (j := 1) C dX8_hour_135 rfl rfl (by decide) rfl ?_
            refine z_goto (tgt := 41) C dX8_hour_138 (by decide) ?_
            have hgy160 := (hfvy58 (a) (by omega) (by omega)).trans x1vy41
            have hgy161 := (hfvy74 (a) (by omega) (by omega)).trans hgy160
            have hgy162 := (hfvy111 (a) (by omega) (by omega)).trans hgy161
            have hgy163 := (hfvy134 (a) (by omega) (by omega)).trans hgy162
            have hgy164 := (hfvy150 (a) (by omega) (by omega)).trans hgy163
            have hS6 : (ny151, Ky152, roy153) = hsZ tb air (op k) wh mc (W9.1 1) (W9.2 k) := by rw [hSy154, hSy138, hSy115, hSy78, hSy62, hSy45]; rfl
            have hp6 : isPk cs ad gvy150 (a + 2 + 2 * k) (ny151, Ky152, roy153) := ⟨_, ⟨hpy156.1, hpy156.2⟩, hCy157⟩
            rw [hS6] at hp6
            have hw6 : isWl cs ad gvy150 a (hoU tb op air wh mc k W9) := by
              have h9 := isWl.pk (uZ W9.1 1 (W9.1 1 + foN wh air)) (hsZ tb air (op k) wh mc (W9.1 1) (W9.2 k)) hwvy41 (s := k) (by omega) (fun j j1 j2 j3 => by rw [hfvy150 _ (by omega) (by omega)]; rw [hfvy134 _ (by omega) (by omega)]; rw [hfvy111 _ (by omega) (by omega)]; rw [hfvy74 _ (by omega) (by omega)]; rw [hfvy58 _ (by omega) (by omega)]) hgy164 ⟨⟨rfl, rfl⟩, ⟨rfl, rfl⟩, rfl, rfl⟩ hp6
              rw [show ((uZ W9.1 1 (W9.1 1 + foN wh air), uS W9.2 k (foZ wh mc air (W9.1 1) (W9.2 k))) : WL9).2 = uS W9.2 k (foZ wh mc air (W9.1 1) (W9.2 k)) from rfl, uS_u] at h9
              exact h9
            refine z_lv (lv' := [(7, .int (zI ((k : Int) + 1))), (6, .int (zI (mc))), (5, .int (zI (wh))), (4, .int (zI (air))), (0, .ref (ad a)), (1, .ref (ad b)), (2, .int (zI ((z : Int)))), (3, .int (zI (cm)))]) [0, 2, 3, 4, 5, 6, 7, 8] rfl ?_
            exact ih _ (by omega) ((k : Int) + 1) wh (k + 1) (hoU tb op air wh mc k W9) gvy150 rfl rfl (by omega) (by omega) (by rw [hW9]; exact (if_pos (by omega)).symm) hw6 (fun j j1 => by rw [hfvy150 _ (by omega) (by omega)]; rw [hfvy134 _ (by omega) (by omega)]; rw [hfvy111 _ (by omega) (by omega)]; rw [hfvy74 _ (by omega) (by omega)]; rw [hfvy58 _ (by omega) (by omega)]; rw [hfvy41 _ (by omega)]; exact f3 j j1)
          · refine z_aload C 0 dX8_hour_86 rfl ?_
            refine z_iload C 4 dX8_hour_88 rfl ?_
            refine z_aload_n C 6 dX8_hour_90 rfl ?_
            have hgy165 := (hfvy41 (b) (by omega)).trans ((f3 _ (by omega)).trans hb.1)
            refine z_get (v := .ref (ad (b + 2))) C (by omega) hay12 hgy165 rfl inA_X5 4 (by decide) q_103 rfl rfl dX8_hour_91 ?_
            refine z_iload C 1 dX8_hour_94 rfl ?_
            have hgy166 := (hfvy41 (b + 2) (by omega)).trans ((f3 _ (by omega)).trans hb.2.2.1)
            refine z_iald C (by omega) hay14 hgy166 (k) (by omega) (by omega) (by decide) dX8_hour_96 ?_
            refine z_imul C dX8_hour_97 ?_
            have hml9 := mulc (a := air) (b := op k) (A := 100) (B := 20) (by omega) hop9
            have hO2 := ht_sl (air := air) (opn := op k) hOy519 hab9 hop9
            refine z_cV (As := [.int (zI (air * (op (k))))]) (rest := []) (ci := 5) C (c_pMelt l D A cs tt N ad _ (a + 2 + 2 * k) (by omega) _ _ _ (by omega) ⟨hpy47.1, hpy47.2⟩ ny42 Ky43 rfl hCy48 hOy51 (by omega) (air * (op (k))) (by omega)) (by omega) hay49 hpy47.1 rfl rfl mv_yX3_melt q_479 hd_yX3_melt (by decide) (Nat.le_of_ble_eq_true rfl) (by decide) dX8_hour_98 rfl (kV0 fun gvy167 hvy167 => ?_)
            obtain ⟨⟨rvy167, hpvy167, hCvy167⟩, hfvy167⟩ := hvy167
            have hkvy167 : isPk cs ad gvy167 (a + 2 + 2 * k) (htZ air (op k) (ny42, Ky43, roy44)) := by
              rw [show htZ air (op k) (ny42, Ky43, roy44) = mlZ ny42 Ky43 roy44 (air * op k) from if_pos (by omega)]; exact ⟨rvy167, hpvy167, hCvy167⟩
            obtain ⟨⟨ny168, Ky169, roy170⟩, hSy171⟩ : ∃ S9 : SL9, S9 = htZ air (op k) (ny42, Ky43, roy44) := ⟨_, rfl⟩
            obtain ⟨ry172, hpy173, hCy174⟩ := (show isPk cs ad gvy167 (a + 2 + 2 * k) (ny168, Ky169, roy170) by rw [hSy171]; exact hkvy167)
            have hpy173 : isPack cs ad gvy167 (a + 2 + 2 * k) (ny168 : Int) roy170 ry172 := hpy173
            have hCy174 : ∀ j f, j < ny168 → f < 7 → ry172 (12 * f + j) = Ky169 (7 * j + f) := hCy174
            have hay175 : zAt ad (a + 2 + 2 * k) (ad (a + 2 + 2 * k)) := rfl
            have hay176 : zAt ad (a + 2 + 2 * k + 1) (ad (a + 2 + 2 * k + 1)) := rfl
            have hOy1779 := hO2
            rw [← hSy171] at hOy1779
            obtain ⟨hOy177, hry178, hmy179, hdy180, hagy181⟩ := id hOy1779
            have hry178 : 0 ≤ roy170 := hry178
            have hmy179 : roy170 + sZ Ky169 ny168 ≤ _ := hmy179
            have hdy180 : dZ Ky169 ny168 ≤ _ := hdy180
            have hOy177 : okP Ky169 ny168 := hOy177
            have hsy182 := sZ_n hOy177 (k := ny168) (Nat.le_refl _)
            have hsy182n : ny168 ≤ 12 := hOy177.1
            have hagy181 : ∀ l, l < ny168 → Ky169 (7 * l + 5) ≤ _ := hagy181
            refine z_goto (tgt := 111) C dX8_hour_101 (by decide) ?_
            refine z_aload C 0 dX8_hour_111 rfl ?_
            refine z_cV (As := []) (rest := []) (ci := 5) C (c_pEven l D A cs tt N ad _ (a + 2 + 2 * k) (by omega) _ _ _ (by omega) ⟨hpy173.1, hpy173.2⟩ ny168 Ky169 rfl hCy174 hOy177 ) (by omega) hay175 hpy173.1 rfl rfl mv_yX3_evenTemps q_489 hd_yX3_evenTemps (by decide) (Nat.le_of_ble_eq_true rfl) (by decide) dX8_hour_113 rfl (kV0 fun gvy183 hvy183 => ?_)
            obtain ⟨⟨rvy183, hpvy183, hCvy183⟩, hfvy183⟩ := hvy183
            have hkvy183 : isPk cs ad gvy183 (a + 2 + 2 * k) (evS (ny168, Ky169, roy170)) := by
              exact ⟨rvy183, hpvy183, hCvy183⟩
            obtain ⟨⟨ny184, Ky185, roy186⟩, hSy187⟩ : ∃ S9 : SL9, S9 = evS (ny168, Ky169, roy170) := ⟨_, rfl⟩
            obtain ⟨ry188, hpy189, hCy190⟩ := (show isPk cs ad gvy183 (a + 2 + 2 * k) (ny184, Ky185, roy186) by rw [hSy187]; exact hkvy183)
            have hpy189 : isPack cs ad gvy183 (a + 2 + 2 * k) (ny184 : Int) roy186 ry188 := hpy189
            have hCy190 : ∀ j f, j < ny184 → f < 7 → ry188 (12 * f + j) = Ky185 (7 * j + f) := hCy190
            have hay191 : zAt ad (a + 2 + 2 * k) (ad (a + 2 + 2 * k)) := rfl
            have hay192 : zAt ad (a + 2 + 2 * k + 1) (ad (a + 2 + 2 * k + 1)) := rfl
            have hOy1939 := (ev_sl hOy1779)
            rw [← hSy187] at hOy1939
            obtain ⟨hOy193, hry194, hmy195, hdy196, hagy197⟩ := id hOy1939
            have hry194 : 0 ≤ roy186 := hry194
            have hmy195 : roy186 + sZ Ky185 ny184 ≤ _ := hmy195
            have hdy196 : dZ Ky185 ny184 ≤ _ := hdy196
            have hOy193 : okP Ky185 ny184 := hOy193
            have hsy198 := sZ_n hOy193 (k := ny184) (Nat.le_refl _)
            have hsy198n : ny184 ≤ 12 := hOy193.1
            have hagy197 : ∀ l, l < ny184 → Ky185 (7 * l + 5) ≤ _ := hagy197
            refine z_aload C 0 dX8_hour_116 rfl ?_
            refine z_aload_n C 6 dX8_hour_118 rfl ?_
            have hgy199 := (hfvy167 (b) (by omega) (by omega)).trans hgy165
            have hgy200 := (hfvy183 (b) (by omega) (by omega)).trans hgy199
            have hgy201 := (hfvy41 (b + 1) (by omega)).trans ((f3 _ (by omega)).trans hb.2.1)
            have hgy202 := (hfvy167 (b + 1) (by omega) (by omega)).trans hgy201
            have hgy203 := (hfvy183 (b + 1) (by omega) (by omega)).trans hgy202
            have hgy204 := (hfvy167 (b + 2) (by omega) (by omega)).trans hgy166
            have hgy205 := (hfvy183 (b + 2) (by omega) (by omega)).trans hgy204
            have hgy206 := (hfvy41 (b + 3) (by omega)).trans ((f3 _ (by omega)).trans hb.2.2.2.1)
            have hgy207 := (hfvy167 (b + 3) (by omega) (by omega)).trans hgy206
            have hgy208 := (hfvy183 (b + 3) (by omega) (by omega)).trans hgy207
            have hgy209 := (hfvy41 (b + 4) (by omega)).trans ((f3 _ (by omega)).trans hb.2.2.2.2.1)
            have hgy210 := (hfvy167 (b + 4) (by omega) (by omega)).trans hgy209
            have hgy211 := (hfvy183 (b + 4) (by omega) (by omega)).trans hgy210
            have hgy212 := (hfvy41 (b + 5) (by omega)).trans ((f3 _ (by omega)).trans hb.2.2.2.2.2.1)
            have hgy213 := (hfvy167 (b + 5) (by omega) (by omega)).trans hgy212
            have hgy214 := (hfvy183 (b + 5) (by omega) (by omega)).trans hgy213
            have hgy215 := (hfvy41 (b + 6) (by omega)).trans ((f3 _ (by omega)).trans hb.2.2.2.2.2.2)
            have hgy216 := (hfvy167 (b + 6) (by omega) (by omega)).trans hgy215
            have hgy217 := (hfvy183 (b + 6) (by omega) (by omega)).trans hgy216
            refine z_cV (As := [.ref (ad b)]) (rest := []) (ci := 5) C (c_pSink l D A cs tt N ad _ (a + 2 + 2 * k) (by omega) _ _ _ (by omega) ⟨hpy189.1, hpy189.2⟩ ny184 Ky185 rfl hCy190 hOy193 (b) (by omega) _ _ _ _ _ _ _ _ _ ⟨hgy200, hgy203, hgy205, hgy208, hgy211, hgy214, hgy217⟩ ht (by omega) (by omega)) (by omega) hay191 hpy189.1 rfl rfl mv_yX3_freezeAndSink q_493 hd_yX3_freezeAndSink (by decide) (Nat.le_of_ble_eq_true rfl) (by decide) dX8_hour_119 rfl (kV0 fun gvy218 hvy218 => ?_)
            obtain ⟨⟨rvy218, hpvy218, hCvy218⟩, hfvy218⟩ := hvy218
            have hkvy218 : isPk cs ad gvy218 (a + 2 + 2 * k) (skS tb (ny184, Ky185, roy186)) := by
              exact ⟨rvy218, hpvy218, hCvy218⟩
            obtain ⟨⟨ny219, Ky220, roy221⟩, hSy222⟩ : ∃ S9 : SL9, S9 = skS tb (ny184, Ky185, roy186) := ⟨_, rfl⟩
            obtain ⟨ry223, hpy224, hCy225⟩ := (show isPk cs ad gvy218 (a + 2 + 2 * k) (ny219, Ky220, roy221) by rw [hSy222]; exact hkvy218)
            have hpy224 : isPack cs ad gvy218 (a + 2 + 2 * k) (ny219 : Int) roy221 ry223 := hpy224
            have hCy225 : ∀ j f, j < ny219 → f < 7 → ry223 (12 * f + j) = Ky220 (7 * j + f) := hCy225
            have hay226 : zAt ad (a + 2 + 2 * k) (ad (a + 2 + 2 * k)) := rfl
            have hay227 : zAt ad (a + 2 + 2 * k + 1) (ad (a + 2 + 2 * k + 1)) := rfl
            have hOy2289 := (sk_sl ht hOy1939)
            rw [← hSy222] at hOy2289
            obtain ⟨hOy228, hry229, hmy230, hdy231, hagy232⟩ := id hOy2289
            have hry229 : 0 ≤ roy221 := hry229
            have hmy230 : roy221 + sZ Ky220 ny219 ≤ _ := hmy230
            have hdy231 : dZ Ky220 ny219 ≤ _ := hdy231
            have hOy228 : okP Ky220 ny219 := hOy228
            have hsy233 := sZ_n hOy228 (k := ny219) (Nat.le_refl _)
            have hsy233n : ny219 ≤ 12 := hOy228.1
            have hagy232 : ∀ l, l < ny219 → Ky220 (7 * l + 5) ≤ _ := hagy232
            refine z_aload C 0 dX8_hour_122 rfl ?_
            refine z_aload_n C 6 dX8_hour_124 rfl ?_
            have hpr9 := pr_sl ht hOy2289 (by omega)
            have hgy234 := (hfvy218 (b) (by omega) (by omega)).trans hgy200
            have hgy235 := (hfvy218 (b + 1) (by omega) (by omega)).trans hgy203
            have hgy236 := (hfvy218 (b + 2) (by omega) (by omega)).trans hgy205
            have hgy237 := (hfvy218 (b + 3) (by omega) (by omega)).trans hgy208
            have hgy238 := (hfvy218 (b + 4) (by omega) (by omega)).trans hgy211
            have hgy239 := (hfvy218 (b + 5) (by omega) (by omega)).trans hgy214
            have hgy240 := (hfvy218 (b + 6) (by omega) (by omega)).trans hgy217
            refine z_cV (As := [.ref (ad b)]) (rest := []) (ci := 5) C (c_pPress l D A cs tt N ad _ (a + 2 + 2 * k) (by omega) _ _ _ (by omega) ⟨hpy224.1, hpy224.2⟩ ny219 Ky220 rfl hCy225 hOy228 (b) (by omega) _ _ _ _ _ _ _ _ _ ⟨hgy234, hgy235, hgy236, hgy237, hgy238, hgy239, hgy240⟩ ht (by omega) (by omega)) (by omega) hay226 hpy224.1 rfl rfl mv_yX3_press q_506 hd_yX3_press (by decide) (Nat.le_of_ble_eq_true rfl) (by decide) dX8_hour_125 rfl (kV0 fun gvy241 hvy241 => ?_)
            obtain ⟨⟨rvy241, hpvy241, hCvy241⟩, hfvy241⟩ := hvy241
            have hkvy241 : isPk cs ad gvy241 (a + 2 + 2 * k) (prS tb (ny219, Ky220, roy221)) := by
              exact ⟨rvy241, hpvy241, hCvy241⟩
            obtain ⟨⟨ny242, Ky243, roy244⟩, hSy245⟩ : ∃ S9 : SL9, S9 = prS tb (ny219, Ky220, roy221) := ⟨_, rfl⟩
            obtain ⟨ry246, hpy247, hCy248⟩ := (show isPk cs ad gvy241 (a + 2 + 2 * k) (ny242, Ky243, roy244) by rw [hSy245]; exact hkvy241)
            have hpy247 : isPack cs ad gvy241 (a + 2 + 2 * k) (ny242 : Int) roy244 ry246 := hpy247
            have hCy248 : ∀ j f, j < ny242 → f < 7 → ry246 (12 * f + j) = Ky243 (7 * j + f) := hCy248
            have hay249 : zAt ad (a + 2 + 2 * k) (ad (a + 2 + 2 * k)) := rfl
            have hay250 : zAt ad (a + 2 + 2 * k + 1) (ad (a + 2 + 2 * k + 1)) := rfl
            have hOy2519 := hpr9.1
            rw [← hSy245] at hOy2519
            obtain ⟨hOy251, hry252, hmy253, hdy254, hagy255⟩ := id hOy2519
            have hry252 : 0 ≤ roy244 := hry252
            have hmy253 : roy244 + sZ Ky243 ny242 ≤ _ := hmy253
            have hdy254 : dZ Ky243 ny242 ≤ _ := hdy254
            have hOy251 : okP Ky243 ny242 := hOy251
            have hsy256 := sZ_n hOy251 (k := ny242) (Nat.le_refl _)
            have hsy256n : ny242 ≤ 12 := hOy251.1
            have hagy255 : ∀ l, l < ny242 → Ky243 (7 * l + 5) ≤ _ := hagy255
            refine z_aload C 0 dX8_hour_128 rfl ?_
            refine z_iload C 4 dX8_hour_130 rfl ?_
            refine z_cV (As := [.int (zI (air))]) (rest := []) (ci := 5) C (c_pTurn l D A cs tt N ad _ (a + 2 + 2 * k) (by omega) _ _ _ (by omega) ⟨hpy247.1, hpy247.2⟩ ny242 Ky243 rfl hCy248 hOy251 (fun l9 h9 => by have := hagy255 l9 h9; omega) (air) (by omega)) (by omega) hay249 hpy247.1 rfl rfl mv_yX3_turnAndAge q_517 hd_yX3_turnAndAge (by decide) (Nat.le_of_ble_eq_true rfl) (by decide) dX8_hour_132 rfl (kV0 fun gvy257 hvy257 => ?_)
            obtain ⟨⟨rvy257, hpvy257, hCvy257⟩, hfvy257⟩ := hvy257
            have hkvy257 : isPk cs ad gvy257 (a + 2 + 2 * k) (taS air (ny242, Ky243, roy244)) := by
              exact ⟨rvy257, hpvy257, hCvy257⟩
            obtain ⟨⟨ny258, Ky259, roy260⟩, hSy261⟩ : ∃ S9 : SL9, S9 = taS air (ny242, Ky243, roy244) := ⟨_, rfl⟩
            obtain ⟨ry262, hpy263, hCy264⟩ := (show isPk cs ad gvy257 (a + 2 + 2 * k) (ny258, Ky259, roy260) by rw [hSy261]; exact hkvy257)
            have hpy263 : isPack cs ad gvy257 (a + 2 + 2 * k) (ny258 : Int) roy260 ry262 := hpy263
            have hCy264 : ∀ j f, j < ny258 → f < 7 → ry262 (12 * f + j) = Ky259 (7 * j + f) := hCy264
            have hay265 : zAt ad (a + 2 + 2 * k) (ad (a + 2 + 2 * k)) := rfl
            have hay266 : zAt ad (a + 2 + 2 * k + 1) (ad (a + 2 + 2 * k + 1)) := rfl
            refine z_iinc (z := (k : Int) + 1) (lv' := [(7, .int (zI ((k : Int) + 1))), (8, .ref (ad (a + 2 + 2 * k))), (6, .int (zI (mc))), (5, .int (zI (wh))), (4, .int (zI (air))), (0, .ref (ad a)), (1, .ref (ad b)), (2, .int (zI ((z : Int)))), (3, .int (zI (cm)))]) (j := 1) C dX8_hour_135 rfl rfl (by decide) rfl ?_
            refine z_goto (tgt := 41) C dX8_hour_138 (by decide) ?_
            have hgy267 := (hfvy167 (a) (by omega) (by omega)).trans x1vy41
            have hgy268 := (hfvy183 (a) (by omega) (by omega)).trans hgy267
            have hgy269 := (hfvy218 (a) (by omega) (by omega)).trans hgy268
            have hgy270 := (hfvy241 (a) (by omega) (by omega)).trans hgy269
            have hgy271 := (hfvy257 (a) (by omega) (by omega)).trans hgy270
            have hS6 : (ny258, Ky259, roy260) = hsZ tb air (op k) wh mc (W9.1 1) (W9.2 k) := by rw [hSy261, hSy245, hSy222, hSy187, hSy171, hSy45]; rfl
            have hp6 : isPk cs ad gvy257 (a + 2 + 2 * k) (ny258, Ky259, roy260) := ⟨_, ⟨hpy263.1, hpy263.2⟩, hCy264⟩
            rw [hS6] at hp6
            have hw6 : isWl cs ad gvy257 a (hoU tb op air wh mc k W9) := by
              have h9 := isWl.pk (uZ W9.1 1 (W9.1 1 + foN wh air)) (hsZ tb air (op k) wh mc (W9.1 1) (W9.2 k)) hwvy41 (s := k) (by omega) (fun j j1 j2 j3 => by rw [hfvy257 _ (by omega) (by omega)]; rw [hfvy241 _ (by omega) (by omega)]; rw [hfvy218 _ (by omega) (by omega)]; rw [hfvy183 _ (by omega) (by omega)]; rw [hfvy167 _ (by omega) (by omega)]) hgy271 ⟨⟨rfl, rfl⟩, ⟨rfl, rfl⟩, rfl, rfl⟩ hp6
              rw [show ((uZ W9.1 1 (W9.1 1 + foN wh air), uS W9.2 k (foZ wh mc air (W9.1 1) (W9.2 k))) : WL9).2 = uS W9.2 k (foZ wh mc air (W9.1 1) (W9.2 k)) from rfl, uS_u] at h9
              exact h9
            refine z_lv (lv' := [(7, .int (zI ((k : Int) + 1))), (6, .int (zI (mc))), (5, .int (zI (wh))), (4, .int (zI (air))), (0, .ref (ad a)), (1, .ref (ad b)), (2, .int (zI ((z : Int)))), (3, .int (zI (cm)))]) [0, 2, 3, 4, 5, 6, 7, 8] rfl ?_
            exact ih _ (by omega) ((k : Int) + 1) wh (k + 1) (hoU tb op air wh mc k W9) gvy257 rfl rfl (by omega) (by omega) (by rw [hW9]; exact (if_pos (by omega)).symm) hw6 (fun j j1 => by rw [hfvy257 _ (by omega) (by omega)]; rw [hfvy241 _ (by omega) (by omega)]; rw [hfvy218 _ (by omega) (by omega)]; rw [hfvy183 _ (by omega) (by omega)]; rw [hfvy167 _ (by omega) (by omega)]; rw [hfvy41 _ (by omega)]; exact f3 j j1)
  refine z_aload_n C 1 dX8_hour_0 rfl ?_
  refine z_aload_n C 0 dX8_hour_1 rfl ?_
  refine z_get (v := .int (zI (W.1 0))) C (lt_A0 hN rfl) hay1 u1 rfl inA_X8 0 (by decide) q_173 rfl rfl dX8_hour_2 ?_
  refine z_cV (As := [.int (zI (W.1 0))]) (rest := []) (ci := 7) C (c_pairAt l D A cs tt N ad _ (b) (by omega) _ _ _ _ _ _ _ _ _ ⟨hb.1, hb.2.1, hb.2.2.1, hb.2.2.2.1, hb.2.2.2.2.1, hb.2.2.2.2.2.1, hb.2.2.2.2.2.2⟩ (by omega) (W.1 0) (by omega)) (by omega) hay3 hb.1 rfl rfl mv_yX5_airAt q_439 hd_yX5_airAt (by decide) (Nat.le_of_ble_eq_true rfl) (by decide) dX8_hour_5 rfl (kI0 fun vy272 gvy272 hvy272 => ?_)
  obtain ⟨rfl, rfl⟩ := hvy272
  rw [← hair]
  refine z_istore (lv' := [(4, .int (zI (air))), (0, .ref (ad a)), (1, .ref (ad b)), (2, .int (zI ((z : Int)))), (3, .int (zI (cm)))]) C dX8_hour_8 (by decide) rfl ?_
  refine z_iload_n C 4 dX8_hour_10 rfl ?_
  refine z_if_eq (tgt := 25) C dX8_hour_11 (by decide) (by omega) (fun hby273 => ?_) (fun hby273 => ?_)
  · refine z_iconst (z := 0) C dX8_hour_25 rfl ?_
    refine z_istore (lv' := [(5, .int (zI (0))), (4, .int (zI (air))), (0, .ref (ad a)), (1, .ref (ad b)), (2, .int (zI ((z : Int)))), (3, .int (zI (cm)))]) C dX8_hour_26 (by decide) rfl ?_
    refine z_aload_n C 3 dX8_hour_28 rfl ?_
    refine z_aload_n C 2 dX8_hour_29 rfl ?_
    refine z_get (v := .int (zI (W.1 0))) C (lt_A0 hN rfl) hay1 u1 rfl inA_X8 0 (by decide) q_173 rfl rfl dX8_hour_30 ?_
    refine z_cV (As := [.int (zI (W.1 0))]) (rest := []) (ci := 7) C (c_pmuchAt l D A cs tt N ad _ (b) (by omega) _ _ _ _ _ _ _ _ _ ⟨hb.1, hb.2.1, hb.2.2.1, hb.2.2.2.1, hb.2.2.2.2.1, hb.2.2.2.2.2.1, hb.2.2.2.2.2.2⟩ (by omega) (W.1 0) (by omega)) (by omega) hay3 hb.1 rfl rfl mv_yX5_muchAt q_450 hd_yX5_muchAt (by decide) (Nat.le_of_ble_eq_true rfl) (by decide) dX8_hour_33 rfl (kI0 fun vy274 gvy274 hvy274 => ?_)
    obtain ⟨rfl, rfl⟩ := hvy274
    rw [← hmc]
    refine z_istore (lv' := [(6, .int (zI (mc))), (5, .int (zI (0))), (4, .int (zI (air))), (0, .ref (ad a)), (1, .ref (ad b)), (2, .int (zI ((z : Int)))), (3, .int (zI (cm)))]) C dX8_hour_36 (by decide) rfl ?_
    refine z_iconst (z := 0) C dX8_hour_38 rfl ?_
    refine z_istore (lv' := [(7, .int (zI (0))), (6, .int (zI (mc))), (5, .int (zI (0))), (4, .int (zI (air))), (0, .ref (ad a)), (1, .ref (ad b)), (2, .int (zI ((z : Int)))), (3, .int (zI (cm)))]) C dX8_hour_39 (by decide) rfl ?_
    refine z_lv (lv' := [(7, .int (zI (0))), (6, .int (zI (mc))), (5, .int (zI (0))), (4, .int (zI (air))), (0, .ref (ad a)), (1, .ref (ad b)), (2, .int (zI ((z : Int)))), (3, .int (zI (cm)))]) [0, 1, 2, 3, 4, 5, 6, 7] rfl ?_
    exact lp _ (0) (0) 0 W g rfl (by rw [hwh, if_neg (by omega)]) rfl (Nat.zero_le _) rfl hw (fun j _ => rfl)
  · refine z_aload_n C 2 dX8_hour_14 rfl ?_
    refine z_aload_n C 1 dX8_hour_15 rfl ?_
    refine z_get (v := .int (zI (W.1 0))) C (lt_A0 hN rfl) hay1 u1 rfl inA_X8 0 (by decide) q_173 rfl rfl dX8_hour_16 ?_
    refine z_cV (As := [.int (zI (W.1 0))]) (rest := []) (ci := 7) C (c_pfallAt l D A cs tt N ad _ (b) (by omega) _ _ _ _ _ _ _ _ _ ⟨hb.1, hb.2.1, hb.2.2.1, hb.2.2.2.1, hb.2.2.2.2.1, hb.2.2.2.2.2.1, hb.2.2.2.2.2.2⟩ (by omega) (W.1 0) (by omega)) (by omega) hay3 hb.1 rfl rfl mv_yX5_fallAt q_446 hd_yX5_fallAt (by decide) (Nat.le_of_ble_eq_true rfl) (by decide) dX8_hour_19 rfl (kI0 fun vy275 gvy275 hvy275 => ?_)
    obtain ⟨rfl, rfl⟩ := hvy275
    have hw1 : fcZ ho 0 fa (W.1 0) = wh := by rw [hwh, if_pos (by omega)]
    rw [hw1]
    refine z_goto (tgt := 26) C dX8_hour_22 (by decide) ?_
    refine z_istore (lv' := [(5, .int (zI (wh))), (4, .int (zI (air))), (0, .ref (ad a)), (1, .ref (ad b)), (2, .int (zI ((z : Int)))), (3, .int (zI (cm)))]) C dX8_hour_26 (by decide) rfl ?_
    refine z_aload_n C 3 dX8_hour_28 rfl ?_
    refine z_aload_n C 2 dX8_hour_29 rfl ?_
    refine z_get (v := .int (zI (W.1 0))) C (lt_A0 hN rfl) hay1 u1 rfl inA_X8 0 (by decide) q_173 rfl rfl dX8_hour_30 ?_
    refine z_cV (As := [.int (zI (W.1 0))]) (rest := []) (ci := 7) C (c_pmuchAt l D A cs tt N ad _ (b) (by omega) _ _ _ _ _ _ _ _ _ ⟨hb.1, hb.2.1, hb.2.2.1, hb.2.2.2.1, hb.2.2.2.2.1, hb.2.2.2.2.2.1, hb.2.2.2.2.2.2⟩ (by omega) (W.1 0) (by omega)) (by omega) hay3 hb.1 rfl rfl mv_yX5_muchAt q_450 hd_yX5_muchAt (by decide) (Nat.le_of_ble_eq_true rfl) (by decide) dX8_hour_33 rfl (kI0 fun vy276 gvy276 hvy276 => ?_)
    obtain ⟨rfl, rfl⟩ := hvy276
    rw [← hmc]
    refine z_istore (lv' := [(6, .int (zI (mc))), (5, .int (zI (wh))), (4, .int (zI (air))), (0, .ref (ad a)), (1, .ref (ad b)), (2, .int (zI ((z : Int)))), (3, .int (zI (cm)))]) C dX8_hour_36 (by decide) rfl ?_
    refine z_iconst (z := 0) C dX8_hour_38 rfl ?_
    refine z_istore (lv' := [(7, .int (zI (0))), (6, .int (zI (mc))), (5, .int (zI (wh))), (4, .int (zI (air))), (0, .ref (ad a)), (1, .ref (ad b)), (2, .int (zI ((z : Int)))), (3, .int (zI (cm)))]) C dX8_hour_39 (by decide) rfl ?_
    refine z_lv (lv' := [(7, .int (zI (0))), (6, .int (zI (mc))), (5, .int (zI (wh))), (4, .int (zI (air))), (0, .ref (ad a)), (1, .ref (ad b)), (2, .int (zI ((z : Int)))), (3, .int (zI (cm)))]) [0, 1, 2, 3, 4, 5, 6, 7] rfl ?_
    exact lp _ (0) (wh) 0 W g rfl rfl rfl (Nat.zero_le _) rfl hw (fun j _ => rfl)
end
section
-- 9kw.uq.lean.txt
set_option maxRecDepth 100000 in
set_option maxHeartbeats 4000000 in
theorem c_uWeight (l : Launch) (D : va_G) (A : Nat → Prop) (cs : Nat → ClassId) (tt : Nat) (N : Nat) (ad : Nat → Nat) (g : Nat → va_E) (i : Nat) (hN : i + 30 ≤ N) (F : Nat → Int) (hg : g i = mC ad i F) (r : Nat → Int) (ha1 : g (i + 1) = iA cs 29200 r) (b s p : Nat) (hp : b + 6 + 86 * s = p) (hb : b + 350 ≤ 29200) (hs : s < 4) (n : Nat) (K : Nat → Int) (hn : r p = (n : Int)) (hC : ∀ q, q < 7 * n → r (p + 2 + q) = K q) (hO : okP K n) (zl : Int) (k q : Nat) (hk : zl = (k : Int)) (hq : p + 2 + 7 * k = q) (hkn : k < n) : zM l yX10_weight cX10_weight 4 (some .int) ({ frames := 3, cells := 0, slots := 0, locals := 180 } : Room) D A cs tt N ad g [.ref (ad i), .int (zI ((b : Int))), .int (zI ((s : Int))), .int (zI (zl))] (rI0 N ad fun z g' => z = mZ K k ∧ g = g') := by
  have hay1 : zAt ad (i) (ad i) := rfl
  have hay2 : zAt ad (i + 1) (ad (i + 1)) := rfl
  have hn12 := hO.1
  refine z_of (by decide) (Nat.le_of_ble_eq_true rfl) ?_
  intro pY eY sY mY below meth cY C hr hlk hnm
  refine z_lv (lv' := [(0, .ref (ad i)), (1, .int (zI ((b : Int)))), (2, .int (zI ((s : Int)))), (3, .int (zI (zl)))]) [0, 1, 2, 3] rfl ?_
  refine z_aload_n C 0 dX10_weight_0 rfl ?_
  refine z_iload_n C 1 dX10_weight_1 rfl ?_
  refine z_iload_n C 2 dX10_weight_2 rfl ?_
  refine z_iload_n C 3 dX10_weight_3 rfl ?_
  refine z_iconst (z := 1) C dX10_weight_4 rfl ?_
  refine z_cV (As := [.int (zI ((b : Int))), .int (zI ((s : Int))), .int (zI (zl)), .int (zI (1))]) (rest := []) (ci := 12) C (c_X10_of l D A cs tt N ad _ i hN _ hg _ ha1 b s p hp (by omega) (by omega) (zl) (1) (q + 1) (by omega) (by omega) (by omega)) (lt_A0 hN rfl) hay1 hg rfl rfl mv_yX10_of q_1749 hd_yX10_of (by decide) (Nat.le_of_ble_eq_true rfl) (by decide) dX10_weight_5 rfl (kI0 fun vy3 gvy3 hvy3 => ?_)
  obtain ⟨rfl, rfl⟩ := hvy3
  rw [show r (q + 1) = K (7 * k + 1) from (congrArg r (show q + 1 = p + 2 + (7 * k + 1) by omega)).trans (hC (7 * k + 1) (by omega))]
  obtain ⟨⟨qy40, qy41, qy42, qy43, qy44, qy45, qy46⟩, qy49⟩ := hO.ly (l := k) (by omega)
  refine z_aload_n C 0 dX10_weight_8 rfl ?_
  refine z_iload_n C 1 dX10_weight_9 rfl ?_
  refine z_iload_n C 2 dX10_weight_10 rfl ?_
  refine z_iload_n C 3 dX10_weight_11 rfl ?_
  refine z_iconst (z := 2) C dX10_weight_12 rfl ?_
  refine z_cV (As := [.int (zI ((b : Int))), .int (zI ((s : Int))), .int (zI (zl)), .int (zI (2))]) (rest := [.int (zI (K (7 * k + 1)))]) (ci := 12) C (c_X10_of l D A cs tt N ad _ i hN _ hg _ ha1 b s p hp (by omega) (by omega) (zl) (2) (q + 2) (by omega) (by omega) (by omega)) (lt_A0 hN rfl) hay1 hg rfl rfl mv_yX10_of q_1749 hd_yX10_of (by decide) (Nat.le_of_ble_eq_true rfl) (by decide) dX10_weight_13 rfl (kI0 fun vy5 gvy5 hvy5 => ?_)
  obtain ⟨rfl, rfl⟩ := hvy5
  rw [show r (q + 2) = K (7 * k + 2) from (congrArg r (show q + 2 = p + 2 + (7 * k + 2) by omega)).trans (hC (7 * k + 2) (by omega))]
  refine z_iadd C dX10_weight_16 ?_
  exact z_iret C hr hlk dX10_weight_17 (by decide) (by decide) ⟨_, rfl, rfl, rfl, rfl, rfl⟩

set_option maxRecDepth 100000 in
set_option maxHeartbeats 4000000 in
theorem c_uAbove (l : Launch) (D : va_G) (A : Nat → Prop) (cs : Nat → ClassId) (tt : Nat) (N : Nat) (ad : Nat → Nat) (g : Nat → va_E) (i : Nat) (hN : i + 30 ≤ N) (F : Nat → Int) (hg : g i = mC ad i F) (r : Nat → Int) (ha1 : g (i + 1) = iA cs 29200 r) (b s p : Nat) (hp : b + 6 + 86 * s = p) (hb : b + 350 ≤ 29200) (hs : s < 4) (n : Nat) (K : Nat → Int) (hn : r p = (n : Int)) (hC : ∀ q, q < 7 * n → r (p + 2 + q) = K q) (hO : okP K n) (zl : Int) (k q : Nat) (hk : zl = (k : Int)) (hq : p + 2 + 7 * k = q) (hkn : k < n) : zM l yX10_above cX10_above 6 (some .int) ({ frames := 4, cells := 0, slots := 0, locals := 240 } : Room) D A cs tt N ad g [.ref (ad i), .int (zI ((b : Int))), .int (zI ((s : Int))), .int (zI (zl))] (rI0 N ad fun z g' => z = abZ K n k ∧ g = g') := by
  have hay1 : zAt ad (i) (ad i) := rfl
  have hay2 : zAt ad (i + 1) (ad (i + 1)) := rfl
  have hn12 := hO.1
  refine z_of (by decide) (Nat.le_of_ble_eq_true rfl) ?_
  intro pY eY sY mY below meth cY C hr hlk hnm
  refine z_lv (lv' := [(0, .ref (ad i)), (1, .int (zI ((b : Int)))), (2, .int (zI ((s : Int)))), (3, .int (zI (zl)))]) [0, 1, 2, 3] rfl ?_
  have lp : ∀ (n9 : Nat) (ll : Int) (al : Int) (j : Nat) (g1 : Nat → va_E), (13 - ll).toNat = n9 → (g1 = g) → (ll = (j : Int)) → ((k + 1) ≤ j ∧ j ≤ n) → (al = sZ K j - sZ K (k + 1)) → zV pY l eY ({ frames := 4, cells := 0, slots := 0, locals := 240 } : Room) sY mY ([.ref (ad i), .int (zI ((b : Int))), .int (zI ((s : Int))), .int (zI (zl))] : List Value).toArray below meth cY (MQ below (zPost D A (rI0 N ad fun z g' => z = abZ K n k ∧ g = g')) ([.ref (ad i), .int (zI ((b : Int))), .int (zI ((s : Int))), .int (zI (zl))] : List Value).toArray sY ({ frames := 4, cells := 0, slots := 0, locals := 240 } : Room).cells ({ frames := 4, cells := 0, slots := 0, locals := 240 } : Room).slots A) D A 6 (N) ad g1 (0) (0) 8 [(0, .ref (ad i)), (1, .int (zI ((b : Int)))), (2, .int (zI ((s : Int)))), (4, .int (zI (al))), (5, .int (zI (ll)))] [] := by
    intro n9
    induction n9 using Nat.strongRecOn with
    | ind n9 ih =>
      intro ll al j g1 hm9 hg1 hlj hjn hal
      subst hg1
      subst hlj
      have hs9 := sZ_n hO (k := j) (by omega)
      have hs8 := sZ_n hO (k := k + 1) (by omega)
      refine z_iload C 4 dX10_above_8 rfl ?_
      refine z_aload_n C 0 dX10_above_10 rfl ?_
      refine z_iload_n C 1 dX10_above_11 rfl ?_
      refine z_iload_n C 2 dX10_above_12 rfl ?_
      refine z_cV (As := [.int (zI ((b : Int))), .int (zI ((s : Int)))]) (rest := [.int (zI ((j : Int)))]) (ci := 12) C (c_X10_many l D A cs tt N ad _ i hN _ hg _ ha1 b s p hp (by omega) (by omega)) (lt_A0 hN rfl) hay1 hg rfl rfl mv_yX10_many q_1733 hd_yX10_many (by decide) (Nat.le_of_ble_eq_true rfl) (by decide) dX10_above_13 rfl (kI0 fun vy3 gvy3 hvy3 => ?_)
      obtain ⟨rfl, rfl⟩ := hvy3
      rw [show r (p) = (n : Int) from hn]
      refine z_icmp_ge (tgt := 38) C dX10_above_16 (by decide) (by omega) (by omega) (fun hby4 => ?_) (fun hby4 => ?_)
      · refine z_iload C 3 dX10_above_38 rfl ?_
        have hjn9 : j = n := by omega
        subst hjn9
        exact z_iret C hr hlk dX10_above_40 (by decide) (by decide) ⟨al, rfl, rfl, rfl, by unfold abZ; omega, rfl⟩
      · refine z_iload C 3 dX10_above_19 rfl ?_
        refine z_aload_n C 0 dX10_above_21 rfl ?_
        refine z_iload_n C 1 dX10_above_22 rfl ?_
        refine z_iload_n C 2 dX10_above_23 rfl ?_
        refine z_iload C 4 dX10_above_24 rfl ?_
        have hqy6k : ((j : Int) : Int) = ((j : Nat) : Int) := by omega
        obtain ⟨qy6, hqy6⟩ : ∃ q9 : Nat, p + 2 + 7 * j = q9 := ⟨_, rfl⟩
        refine z_cV (As := [.int (zI ((b : Int))), .int (zI ((s : Int))), .int (zI ((j : Int)))]) (rest := [.int (zI (al))]) (ci := 12) C (c_uWeight l D A cs tt N ad _ i hN _ hg _ ha1 b s p hp (by omega) (by omega) n K hn hC hO ((j : Int)) j qy6 (by omega) hqy6 (by omega)) (lt_A0 hN rfl) hay1 hg rfl rfl mv_yX10_weight q_1784 hd_yX10_weight (by decide) (Nat.le_of_ble_eq_true rfl) (by decide) dX10_above_26 rfl (kI0 fun vy5 gvy5 hvy5 => ?_)
        obtain ⟨rfl, rfl⟩ := hvy5
        have hmy7 := hO.mz (l := j) (by omega)
        refine z_iadd C dX10_above_29 ?_
        refine z_istore (lv' := [(4, .int (zI (al + (mZ K j)))), (0, .ref (ad i)), (1, .int (zI ((b : Int)))), (2, .int (zI ((s : Int)))), (5, .int (zI ((j : Int))))]) C dX10_above_30 (by decide) rfl ?_
        refine z_iinc (z := (j : Int) + 1) (lv' := [(5, .int (zI ((j : Int) + 1))), (4, .int (zI (al + (mZ K j)))), (0, .ref (ad i)), (1, .int (zI ((b : Int)))), (2, .int (zI ((s : Int))))]) (j := 4) C dX10_above_32 rfl rfl (by decide) rfl ?_
        refine z_goto (tgt := 8) C dX10_above_35 (by decide) ?_
        refine z_lv (lv' := [(0, .ref (ad i)), (1, .int (zI ((b : Int)))), (2, .int (zI ((s : Int)))), (4, .int (zI (al + (mZ K j)))), (5, .int (zI ((j : Int) + 1)))]) [2, 3, 4, 1, 0] rfl ?_
        have hs7 : sZ K (j + 1) = sZ K j + mZ K j := rfl
        exact ih _ (by omega) ((j : Int) + 1) (al + (mZ K j)) (j + 1) _ rfl rfl (by omega) (by omega) (by omega)
  refine z_iconst (z := 0) C dX10_above_0 rfl ?_
  refine z_istore (lv' := [(4, .int (zI (0))), (0, .ref (ad i)), (1, .int (zI ((b : Int)))), (2, .int (zI ((s : Int)))), (3, .int (zI (zl)))]) C dX10_above_1 (by decide) rfl ?_
  refine z_iload_n C 4 dX10_above_3 rfl ?_
  refine z_iconst (z := 1) C dX10_above_4 rfl ?_
  refine z_iadd C dX10_above_5 ?_
  refine z_istore (lv' := [(5, .int (zI (zl + 1))), (4, .int (zI (0))), (0, .ref (ad i)), (1, .int (zI ((b : Int)))), (2, .int (zI ((s : Int)))), (3, .int (zI (zl)))]) C dX10_above_6 (by decide) rfl ?_
  refine z_lv (lv' := [(0, .ref (ad i)), (1, .int (zI ((b : Int)))), (2, .int (zI ((s : Int)))), (4, .int (zI (0))), (5, .int (zI (zl + 1)))]) [2, 3, 4, 1, 0] rfl ?_
  exact lp _ (zl + 1) (0) (k + 1) _ rfl rfl (by omega) (by omega) (by rw [Int.sub_self])

set_option maxRecDepth 100000 in
set_option maxHeartbeats 4000000 in
theorem c_uStrength (l : Launch) (D : va_G) (A : Nat → Prop) (cs : Nat → ClassId) (tt : Nat) (N : Nat) (ad : Nat → Nat) (g : Nat → va_E) (i : Nat) (hN : i + 30 ≤ N) (F : Nat → Int) (hg : g i = mC ad i F) (r : Nat → Int) (ha1 : g (i + 1) = iA cs 29200 r) (tb : Nat → Int) (ha7 : g (i + 7) = iA cs 15 tb) (b s p : Nat) (hp : b + 6 + 86 * s = p) (hb : b + 350 ≤ 29200) (hs : s < 4) (n : Nat) (K : Nat → Int) (hn : r p = (n : Int)) (hC : ∀ q, q < 7 * n → r (p + 2 + q) = K q) (hO : okP K n) (ht : okTb tb) (zl : Int) (k q : Nat) (hk : zl = (k : Int)) (hq : p + 2 + 7 * k = q) (hkn : k < n) : zM l yX10_strength cX10_strength 5 (some .int) ({ frames := 4, cells := 0, slots := 0, locals := 240 } : Room) D A cs tt N ad g [.ref (ad i), .int (zI ((b : Int))), .int (zI ((s : Int))), .int (zI (zl))] (rI0 N ad fun z g' => z = stZ tb K k ∧ g = g') := by
  have hay1 : zAt ad (i) (ad i) := rfl
  have hay2 : zAt ad (i + 1) (ad (i + 1)) := rfl
  have hay3 : zAt ad (i + 7) (ad (i + 7)) := rfl
  have hn12 := hO.1
  have hsb := st0Z_b ht hO hkn
  have hMm := hO.mz hkn
  have hT1 := ht.1 (K (7 * k)).toNat (by have := (hO.ly hkn).1.1; omega)
  have hcomm : tb (K (7 * k)).toNat * mZ K k * 10 = 10 * tb (K (7 * k)).toNat * mZ K k := by rw [Int.mul_comm _ 10, Int.mul_assoc]
  refine z_of (by decide) (Nat.le_of_ble_eq_true rfl) ?_
  intro pY eY sY mY below meth cY C hr hlk hnm
  refine z_lv (lv' := [(0, .ref (ad i)), (1, .int (zI ((b : Int)))), (2, .int (zI ((s : Int)))), (3, .int (zI (zl)))]) [0, 1, 2, 3] rfl ?_
  refine z_aload_n C 0 dX10_strength_0 rfl ?_
  refine z_get (v := .ref (ad (i + 7))) C (lt_A0 hN rfl) hay1 hg rfl inA_X10 6 (by decide) q_1465 rfl rfl dX10_strength_1 ?_
  refine z_aload_n C 0 dX10_strength_4 rfl ?_
  refine z_iload_n C 1 dX10_strength_5 rfl ?_
  refine z_iload_n C 2 dX10_strength_6 rfl ?_
  refine z_iload_n C 3 dX10_strength_7 rfl ?_
  refine z_iconst (z := 0) C dX10_strength_8 rfl ?_
  refine z_cV (As := [.int (zI ((b : Int))), .int (zI ((s : Int))), .int (zI (zl)), .int (zI (0))]) (rest := [.ref (ad (i + 7))]) (ci := 12) C (c_X10_of l D A cs tt N ad _ i hN _ hg _ ha1 b s p hp (by omega) (by omega) (zl) (0) (q) (by omega) (by omega) (by omega)) (lt_A0 hN rfl) hay1 hg rfl rfl mv_yX10_of q_1749 hd_yX10_of (by decide) (Nat.le_of_ble_eq_true rfl) (by decide) dX10_strength_9 rfl (kI0 fun vy4 gvy4 hvy4 => ?_)
  obtain ⟨rfl, rfl⟩ := hvy4
  rw [show r (q) = K (7 * k) from (congrArg r (show q = p + 2 + (7 * k + 0) by omega)).trans (hC (7 * k + 0) (by omega))]
  obtain ⟨⟨qy50, qy51, qy52, qy53, qy54, qy55, qy56⟩, qy59⟩ := hO.ly (l := k) (by omega)
  refine z_iald C (lt_A (c := 7) hN rfl) hay3 ha7 ((K (7 * k)).toNat) (by omega) (by omega) (by decide) dX10_strength_12 ?_
  refine z_aload_n C 0 dX10_strength_13 rfl ?_
  refine z_iload_n C 1 dX10_strength_14 rfl ?_
  refine z_iload_n C 2 dX10_strength_15 rfl ?_
  refine z_iload_n C 3 dX10_strength_16 rfl ?_
  refine z_cV (As := [.int (zI ((b : Int))), .int (zI ((s : Int))), .int (zI (zl))]) (rest := [.int (zI (tb ((K (7 * k)).toNat)))]) (ci := 12) C (c_uWeight l D A cs tt N ad _ i hN _ hg _ ha1 b s p hp (by omega) (by omega) n K hn hC hO (zl) k q (by omega) hq (by omega)) (lt_A0 hN rfl) hay1 hg rfl rfl mv_yX10_weight q_1784 hd_yX10_weight (by decide) (Nat.le_of_ble_eq_true rfl) (by decide) dX10_strength_17 rfl (kI0 fun vy6 gvy6 hvy6 => ?_)
  obtain ⟨rfl, rfl⟩ := hvy6
  refine z_imul C dX10_strength_20 ?_
  refine z_bipush (z := 10) C dX10_strength_21 (by decide) ?_
  refine z_imul C dX10_strength_23 ?_
  rw [show ((tb ((K (7 * k)).toNat)) * (mZ K k)) * 10 = 10 * tb (K (7 * k)).toNat * mZ K k from hcomm]
  refine z_aload_n C 0 dX10_strength_24 rfl ?_
  refine z_iload_n C 1 dX10_strength_25 rfl ?_
  refine z_iload_n C 2 dX10_strength_26 rfl ?_
  refine z_iload_n C 3 dX10_strength_27 rfl ?_
  refine z_iconst (z := 3) C dX10_strength_28 rfl ?_
  refine z_cV (As := [.int (zI ((b : Int))), .int (zI ((s : Int))), .int (zI (zl)), .int (zI (3))]) (rest := [.int (zI (10 * tb (K (7 * k)).toNat * mZ K k))]) (ci := 12) C (c_X10_of l D A cs tt N ad _ i hN _ hg _ ha1 b s p hp (by omega) (by omega) (zl) (3) (q + 3) (by omega) (by omega) (by omega)) (lt_A0 hN rfl) hay1 hg rfl rfl mv_yX10_of q_1749 hd_yX10_of (by decide) (Nat.le_of_ble_eq_true rfl) (by decide) dX10_strength_29 rfl (kI0 fun vy7 gvy7 hvy7 => ?_)
  obtain ⟨rfl, rfl⟩ := hvy7
  rw [show r (q + 3) = K (7 * k + 3) from (congrArg r (show q + 3 = p + 2 + (7 * k + 3) by omega)).trans (hC (7 * k + 3) (by omega))]
  refine z_idiv C dX10_strength_32 (by omega) (by omega) (by omega) ?_
  rw [show (10 * tb (K (7 * k)).toNat * mZ K k).tdiv (K (7 * k + 3)) = st0Z tb K k from rfl]
  have htd2 := tdq (a := st0Z tb K k) (k := 2) (q := 137115000) (by decide) (by omega) (by omega)
  refine z_istore (lv' := [(4, .int (zI (st0Z tb K k))), (0, .ref (ad i)), (1, .int (zI ((b : Int)))), (2, .int (zI ((s : Int)))), (3, .int (zI (zl)))]) C dX10_strength_33 (by decide) rfl ?_
  refine z_aload_n C 1 dX10_strength_35 rfl ?_
  refine z_iload_n C 2 dX10_strength_36 rfl ?_
  refine z_iload_n C 3 dX10_strength_37 rfl ?_
  refine z_iload_n C 4 dX10_strength_38 rfl ?_
  refine z_iconst (z := 2) C dX10_strength_39 rfl ?_
  refine z_cV (As := [.int (zI ((b : Int))), .int (zI ((s : Int))), .int (zI (zl)), .int (zI (2))]) (rest := []) (ci := 12) C (c_X10_of l D A cs tt N ad _ i hN _ hg _ ha1 b s p hp (by omega) (by omega) (zl) (2) (q + 2) (by omega) (by omega) (by omega)) (lt_A0 hN rfl) hay1 hg rfl rfl mv_yX10_of q_1749 hd_yX10_of (by decide) (Nat.le_of_ble_eq_true rfl) (by decide) dX10_strength_40 rfl (kI0 fun vy8 gvy8 hvy8 => ?_)
  obtain ⟨rfl, rfl⟩ := hvy8
  rw [show r (q + 2) = K (7 * k + 2) from (congrArg r (show q + 2 = p + 2 + (7 * k + 2) by omega)).trans (hC (7 * k + 2) (by omega))]
  refine z_bipush (z := 100) C dX10_strength_43 (by decide) ?_
  refine z_imul C dX10_strength_45 ?_
  refine z_iconst (z := 3) C dX10_strength_46 rfl ?_
  refine z_aload_n C 1 dX10_strength_47 rfl ?_
  refine z_iload_n C 2 dX10_strength_48 rfl ?_
  refine z_iload_n C 3 dX10_strength_49 rfl ?_
  refine z_iload_n C 4 dX10_strength_50 rfl ?_
  refine z_iconst (z := 1) C dX10_strength_51 rfl ?_
  refine z_cV (As := [.int (zI ((b : Int))), .int (zI ((s : Int))), .int (zI (zl)), .int (zI (1))]) (rest := [.int (zI (3)), .int (zI ((K (7 * k + 2)) * 100))]) (ci := 12) C (c_X10_of l D A cs tt N ad _ i hN _ hg _ ha1 b s p hp (by omega) (by omega) (zl) (1) (q + 1) (by omega) (by omega) (by omega)) (lt_A0 hN rfl) hay1 hg rfl rfl mv_yX10_of q_1749 hd_yX10_of (by decide) (Nat.le_of_ble_eq_true rfl) (by decide) dX10_strength_52 rfl (kI0 fun vy9 gvy9 hvy9 => ?_)
  obtain ⟨rfl, rfl⟩ := hvy9
  rw [show r (q + 1) = K (7 * k + 1) from (congrArg r (show q + 1 = p + 2 + (7 * k + 1) by omega)).trans (hC (7 * k + 1) (by omega))]
  refine z_imul C dX10_strength_55 ?_
  refine z_icmp_lt (tgt := 66) C dX10_strength_56 (by decide) (by omega) (by omega) (fun hby10 => ?_) (fun hby10 => ?_)
  · refine z_iload C 0 dX10_strength_66 rfl ?_
    exact z_iret C hr hlk dX10_strength_68 (by decide) (by decide) ⟨_, rfl, rfl, rfl, (by unfold stZ; rw [if_neg (by omega)]), rfl⟩
  · refine z_iload C 0 dX10_strength_59 rfl ?_
    refine z_iconst (z := 2) C dX10_strength_61 rfl ?_
    refine z_idiv C dX10_strength_62 (by omega) (by omega) (by omega) ?_
    obtain ⟨xy11, exy11, hxy11⟩ : ∃ x9, (st0Z tb K k).tdiv 2 = x9 ∧ (0 ≤ st0Z tb K k → 0 ≤ x9 ∧ 2 * x9 ≤ st0Z tb K k ∧ st0Z tb K k < 2 * x9 + 2) ∧ (st0Z tb K k ≤ 0 → x9 ≤ 0 ∧ st0Z tb K k ≤ 2 * x9 ∧ 2 * x9 < st0Z tb K k + 2) := tdk 2 (by decide)
    rw [exy11]
    refine z_goto (tgt := 68) C dX10_strength_63 (by decide) ?_
    exact z_iret C hr hlk dX10_strength_68 (by decide) (by decide) ⟨_, rfl, rfl, rfl, (by unfold stZ; rw [if_pos (by omega)]; exact exy11.symm), rfl⟩

set_option maxRecDepth 100000 in
set_option maxHeartbeats 4000000 in
theorem c_uBurden (l : Launch) (D : va_G) (A : Nat → Prop) (cs : Nat → ClassId) (tt : Nat) (N : Nat) (ad : Nat → Nat) (g : Nat → va_E) (i : Nat) (hN : i + 30 ≤ N) (F : Nat → Int) (hg : g i = mC ad i F) (r : Nat → Int) (ha1 : g (i + 1) = iA cs 29200 r) (b s p : Nat) (hp : b + 6 + 86 * s = p) (hb : b + 350 ≤ 29200) (hs : s < 4) (n : Nat) (K : Nat → Int) (hn : r p = (n : Int)) (hC : ∀ q, q < 7 * n → r (p + 2 + q) = K q) (hO : okP K n) (zl : Int) (k q : Nat) (hk : zl = (k : Int)) (hq : p + 2 + 7 * k = q) (hkn : k < n) (z1 : Int) (hz1 : 0 ≤ z1 ∧ z1 ≤ 40000) (z2 : Int) (hz2 : 0 ≤ z2 ∧ z2 ≤ 90) : zM l yX10_burden cX10_burden 6 (some .int) ({ frames := 5, cells := 0, slots := 0, locals := 300 } : Room) D A cs tt N ad g [.ref (ad i), .int (zI ((b : Int))), .int (zI ((s : Int))), .int (zI (zl)), .int (zI (z1)), .int (zI (z2))] (rI0 N ad fun z g' => z = buZ (abZ K n k + z1) z2 ∧ g = g') := by
  have hay1 : zAt ad (i) (ad i) := rfl
  have hay2 : zAt ad (i + 1) (ad (i + 1)) := rfl
  have hn12 := hO.1
  have hab := abZ_b hO hkn
  have hbb := buZ_b (a := abZ K n k + z1) (s := z2) (by omega) hz2
  refine z_of (by decide) (Nat.le_of_ble_eq_true rfl) ?_
  intro pY eY sY mY below meth cY C hr hlk hnm
  refine z_lv (lv' := [(0, .ref (ad i)), (1, .int (zI ((b : Int)))), (2, .int (zI ((s : Int)))), (3, .int (zI (zl))), (4, .int (zI (z1))), (5, .int (zI (z2)))]) [0, 1, 2, 3, 4, 5] rfl ?_
  refine z_aload_n C 0 dX10_burden_0 rfl ?_
  refine z_iload_n C 1 dX10_burden_1 rfl ?_
  refine z_iload_n C 2 dX10_burden_2 rfl ?_
  refine z_iload_n C 3 dX10_burden_3 rfl ?_
  refine z_cV (As := [.int (zI ((b : Int))), .int (zI ((s : Int))), .int (zI (zl))]) (rest := []) (ci := 12) C (c_uAbove l D A cs tt N ad _ i hN _ hg _ ha1 b s p hp (by omega) (by omega) n K hn hC hO (zl) k q (by omega) hq (by omega)) (lt_A0 hN rfl) hay1 hg rfl rfl mv_yX10_above q_1780 hd_yX10_above (by decide) (Nat.le_of_ble_eq_true rfl) (by decide) dX10_burden_4 rfl (kI0 fun vy3 gvy3 hvy3 => ?_)
  obtain ⟨rfl, rfl⟩ := hvy3
  have hmy4 := abZ_b hO (l := k) (by omega)
  refine z_iload C 4 dX10_burden_7 rfl ?_
  refine z_iadd C dX10_burden_9 ?_
  refine z_iload C 5 dX10_burden_10 rfl ?_
  refine z_imul C dX10_burden_12 ?_
  refine z_bipush (z := 100) C dX10_burden_13 (by decide) ?_
  refine z_idiv C dX10_burden_15 (by omega) (by omega) (by omega) ?_
  obtain ⟨xy5, exy5, hxy5⟩ : ∃ x9, (((abZ K n k) + z1) * z2).tdiv 100 = x9 ∧ (0 ≤ ((abZ K n k) + z1) * z2 → 0 ≤ x9 ∧ 100 * x9 ≤ ((abZ K n k) + z1) * z2 ∧ ((abZ K n k) + z1) * z2 < 100 * x9 + 100) ∧ (((abZ K n k) + z1) * z2 ≤ 0 → x9 ≤ 0 ∧ ((abZ K n k) + z1) * z2 ≤ 100 * x9 ∧ 100 * x9 < ((abZ K n k) + z1) * z2 + 100) := tdk 100 (by decide)
  rw [exy5]
  exact z_iret C hr hlk dX10_burden_16 (by decide) (by decide) ⟨_, rfl, rfl, rfl, exy5.symm, rfl⟩

set_option maxRecDepth 100000 in
set_option maxHeartbeats 4000000 in
theorem c_uRatio (l : Launch) (D : va_G) (A : Nat → Prop) (cs : Nat → ClassId) (tt : Nat) (N : Nat) (ad : Nat → Nat) (g : Nat → va_E) (i : Nat) (hN : i + 30 ≤ N) (F : Nat → Int) (hg : g i = mC ad i F) (r : Nat → Int) (ha1 : g (i + 1) = iA cs 29200 r) (tb : Nat → Int) (ha7 : g (i + 7) = iA cs 15 tb) (b s p : Nat) (hp : b + 6 + 86 * s = p) (hb : b + 350 ≤ 29200) (hs : s < 4) (n : Nat) (K : Nat → Int) (hn : r p = (n : Int)) (hC : ∀ q, q < 7 * n → r (p + 2 + q) = K q) (hO : okP K n) (ht : okTb tb) (hX : okX K n) (zl : Int) (k q : Nat) (hk : zl = (k : Int)) (hq : p + 2 + 7 * k = q) (hkn : k < n) (z1 : Int) (hz1 : 0 ≤ z1 ∧ z1 ≤ 40000) (z2 : Int) (hz2 : 0 ≤ z2 ∧ z2 ≤ 90) : zM l yX10_ratio cX10_ratio 7 (some .int) ({ frames := 6, cells := 0, slots := 0, locals := 360 } : Room) D A cs tt N ad g [.ref (ad i), .int (zI ((b : Int))), .int (zI ((s : Int))), .int (zI (zl)), .int (zI (z1)), .int (zI (z2))] (rI0 N ad fun z g' => z = rlZ tb K n z1 z2 k ∧ g = g') := by
  have hay1 : zAt ad (i) (ad i) := rfl
  have hay2 : zAt ad (i + 1) (ad (i + 1)) := rfl
  have hay3 : zAt ad (i + 7) (ad (i + 7)) := rfl
  have hn12 := hO.1
  have hbb9 := (buZ_b (a := abZ K n k + z1) (s := z2) (by have := abZ_b hO hkn; omega) hz2).2
  have hrb := raZ_b ht hO hX hkn (bu := buZ (abZ K n k + z1) z2) hbb9.2
  have hrb1 := hrb.1
  refine z_of (by decide) (Nat.le_of_ble_eq_true rfl) ?_
  intro pY eY sY mY below meth cY C hr hlk hnm
  refine z_lv (lv' := [(0, .ref (ad i)), (1, .int (zI ((b : Int)))), (2, .int (zI ((s : Int)))), (3, .int (zI (zl))), (4, .int (zI (z1))), (5, .int (zI (z2)))]) [0, 1, 2, 3, 4, 5] rfl ?_
  refine z_aload_n C 0 dX10_ratio_0 rfl ?_
  refine z_iload_n C 1 dX10_ratio_1 rfl ?_
  refine z_iload_n C 2 dX10_ratio_2 rfl ?_
  refine z_iload_n C 3 dX10_ratio_3 rfl ?_
  refine z_iload C 4 dX10_ratio_4 rfl ?_
  refine z_iload C 5 dX10_ratio_6 rfl ?_
  refine z_cV (As := [.int (zI ((b : Int))), .int (zI ((s : Int))), .int (zI (zl)), .int (zI (z1)), .int (zI (z2))]) (rest := []) (ci := 12) C (c_uBurden l D A cs tt N ad _ i hN _ hg _ ha1 b s p hp (by omega) (by omega) n K hn hC hO (zl) k q (by omega) hq (by omega) (z1) (by omega) (z2) (by omega)) (lt_A0 hN rfl) hay1 hg rfl rfl mv_yX10_burden q_1776 hd_yX10_burden (by decide) (Nat.le_of_ble_eq_true rfl) (by decide) dX10_ratio_8 rfl (kI0 fun vy4 gvy4 hvy4 => ?_)
  obtain ⟨rfl, rfl⟩ := hvy4
  have hay5 := abZ_b hO (l := k) (by omega)
  have hby6 := buZ_b (a := abZ K n k + z1) (s := z2) (by omega) (by omega)
  refine z_istore (lv' := [(6, .int (zI (buZ (abZ K n k + z1) z2))), (0, .ref (ad i)), (1, .int (zI ((b : Int)))), (2, .int (zI ((s : Int)))), (3, .int (zI (zl))), (4, .int (zI (z1))), (5, .int (zI (z2)))]) C dX10_ratio_11 (by decide) rfl ?_
  refine z_iload C 0 dX10_ratio_13 rfl ?_
  refine z_if_ne (tgt := 24) C dX10_ratio_15 (by decide) (by omega) (fun hby7 => ?_) (fun hby7 => ?_)
  · refine z_sipush (z := 9999) C dX10_ratio_24 (by decide) ?_
    refine z_bipush (z := 100) C dX10_ratio_27 (by decide) ?_
    refine z_aload_n C 1 dX10_ratio_29 rfl ?_
    refine z_iload_n C 2 dX10_ratio_30 rfl ?_
    refine z_iload_n C 3 dX10_ratio_31 rfl ?_
    refine z_iload_n C 4 dX10_ratio_32 rfl ?_
    refine z_cV (As := [.int (zI ((b : Int))), .int (zI ((s : Int))), .int (zI (zl))]) (rest := [.int (zI (100)), .int (zI (9999))]) (ci := 12) C (c_uStrength l D A cs tt N ad _ i hN _ hg _ ha1 _ ha7 b s p hp (by omega) (by omega) n K hn hC hO ht (zl) k q (by omega) hq (by omega)) (lt_A0 hN rfl) hay1 hg rfl rfl mv_yX10_strength q_1788 hd_yX10_strength (by decide) (Nat.le_of_ble_eq_true rfl) (by decide) dX10_ratio_33 rfl (kI0 fun vy8 gvy8 hvy8 => ?_)
    obtain ⟨rfl, rfl⟩ := hvy8
    have hsy9 := stZ_b ht hO hX (l := k) (by omega)
    refine z_imul C dX10_ratio_36 ?_
    refine z_iload C 0 dX10_ratio_37 rfl ?_
    refine z_idiv C dX10_ratio_39 (by omega) (by omega) (by omega) ?_
    refine z_cS (As := [.int (zI (9999)), .int (zI ((100 * (stZ tb K k)).tdiv (buZ (abZ K n k + z1) z2)))]) (rest := []) C (c_X10_lesser l D A cs tt N ad _ (9999) (by omega) ((100 * (stZ tb K k)).tdiv (buZ (abZ K n k + z1) z2)) (by omega)) ms_yX10_lesser q_1792 hd_yX10_lesser (by decide) (Nat.le_of_ble_eq_true rfl) (by decide) dX10_ratio_40 rfl (kI0 fun vy10 gvy10 hvy10 => ?_)
    obtain ⟨hvy10, rfl⟩ := hvy10
    exact z_iret C hr hlk dX10_ratio_43 (by decide) (by decide) ⟨_, rfl, rfl, rfl, (by unfold rlZ raZ; rw [if_neg (by omega)]; split <;> omega), rfl⟩
  · refine z_sipush (z := 9999) C dX10_ratio_18 (by decide) ?_
    refine z_goto (tgt := 43) C dX10_ratio_21 (by decide) ?_
    exact z_iret C hr hlk dX10_ratio_43 (by decide) (by decide) ⟨_, rfl, rfl, rfl, (by unfold rlZ raZ; rw [if_pos (by omega)]), rfl⟩

theorem rlZ_b {tb K : Nat → Int} {n l : Nat} {more steep : Int} (ht : okTb tb) (h : okP K n) (hx : okX K n) (hl : l < n) (hm : 0 ≤ more ∧ more ≤ 40000) (hs : 0 ≤ steep ∧ steep ≤ 90) : 0 ≤ rlZ tb K n more steep l ∧ rlZ tb K n more steep l ≤ 9999 := by
  have a := abZ_b h hl
  have b := (buZ_b (a := abZ K n l + more) (s := steep) (by omega) hs).2
  exact (raZ_b ht h hx hl (bu := buZ (abZ K n l + more) steep) b.2).2
/-- the WEAKEST of the first j layers (from the ground up) -/
def wkU (tb K : Nat → Int) (n : Nat) (more steep : Int) (j : Nat) (wh le : Int) : Prop := (j = 0 ∧ wh = -1 ∧ le = 10000) ∨ ∃ w : Nat, wh = (w : Int) ∧ w < j ∧ le = rlZ tb K n more steep w ∧ (∀ l, l < j → rlZ tb K n more steep w ≤ rlZ tb K n more steep l) ∧ ∀ l, l < w → rlZ tb K n more steep w < rlZ tb K n more steep l
theorem wkU.takes {tb K : Nat → Int} {n j : Nat} {more steep wh le : Int} (h : wkU tb K n more steep j wh le) (hle : rlZ tb K n more steep j < le) : wkU tb K n more steep (j + 1) (j : Int) (rlZ tb K n more steep j) := by
  rcases h with ⟨a, b, c⟩ | ⟨w, a, b, d, x, y⟩
  · refine Or.inr ⟨j, rfl, by omega, rfl, fun l h1 => ?_, fun l h1 => by omega⟩
    obtain rfl : l = j := by omega
    exact Int.le_refl _
  · refine Or.inr ⟨j, rfl, by omega, rfl, fun l h1 => ?_, fun l h1 => ?_⟩
    · by_cases e : l = j
      · rw [e]; exact Int.le_refl _
      · have := x l (by omega)
        omega
    · have := x l h1
      omega
theorem wkU.keeps {tb K : Nat → Int} {n j : Nat} {more steep wh le : Int} (h : wkU tb K n more steep j wh le) (h9 : rlZ tb K n more steep j ≤ 9999) (hle : le ≤ rlZ tb K n more steep j) : wkU tb K n more steep (j + 1) wh le := by
  rcases h with ⟨a, b, c⟩ | ⟨w, a, b, d, x, y⟩
  · omega
  · refine Or.inr ⟨w, a, by omega, d, fun l h1 => ?_, y⟩
    by_cases e : l = j
    · rw [e]; omega
    · exact x l (by omega)
theorem wkU.done {tb K : Nat → Int} {n : Nat} {more steep wh le : Int} (h : wkU tb K n more steep n wh le) : isWk tb K n more steep wh := by
  rcases h with ⟨a, b, c⟩ | ⟨w, a, b, d, x, y⟩
  · exact Or.inl ⟨a, b⟩
  · exact Or.inr ⟨w, a, b, x, y⟩

set_option maxRecDepth 100000 in
set_option maxHeartbeats 4000000 in
theorem c_uWkBy (l : Launch) (D : va_G) (A : Nat → Prop) (cs : Nat → ClassId) (tt : Nat) (N : Nat) (ad : Nat → Nat) (g : Nat → va_E) (i : Nat) (hN : i + 30 ≤ N) (F : Nat → Int) (hg : g i = mC ad i F) (r : Nat → Int) (ha1 : g (i + 1) = iA cs 29200 r) (tb : Nat → Int) (ha7 : g (i + 7) = iA cs 15 tb) (b s p : Nat) (hp : b + 6 + 86 * s = p) (hb : b + 350 ≤ 29200) (hs : s < 4) (n : Nat) (K : Nat → Int) (hn : r p = (n : Int)) (hC : ∀ q, q < 7 * n → r (p + 2 + q) = K q) (hO : okP K n) (ht : okTb tb) (hX : okX K n) (z1 : Int) (hz1 : 0 ≤ z1 ∧ z1 ≤ 40000) (z2 : Int) (hz2 : 0 ≤ z2 ∧ z2 ≤ 90) : zM l yX10_weakestBy cX10_weakestBy 9 (some .int) ({ frames := 7, cells := 0, slots := 0, locals := 420 } : Room) D A cs tt N ad g [.ref (ad i), .int (zI ((b : Int))), .int (zI ((s : Int))), .int (zI (z1)), .int (zI (z2))] (rI0 N ad fun z g' => isWk tb K n z1 z2 z ∧ g = g') := by
  have hay1 : zAt ad (i) (ad i) := rfl
  have hay2 : zAt ad (i + 1) (ad (i + 1)) := rfl
  have hay3 : zAt ad (i + 7) (ad (i + 7)) := rfl
  have hn12 := hO.1
  refine z_of (by decide) (Nat.le_of_ble_eq_true rfl) ?_
  intro pY eY sY mY below meth cY C hr hlk hnm
  refine z_lv (lv' := [(0, .ref (ad i)), (1, .int (zI ((b : Int)))), (2, .int (zI ((s : Int)))), (3, .int (zI (z1))), (4, .int (zI (z2)))]) [0, 1, 2, 3, 4] rfl ?_
  have lp : ∀ (n9 : Nat) (ll : Int) (wh : Int) (le : Int) (j : Nat) (g1 : Nat → va_E), (13 - ll).toNat = n9 → (g1 = g) → (ll = (j : Int)) → (0 ≤ j ∧ j ≤ n) → ((-1 ≤ wh ∧ wh ≤ 11) ∧ 0 ≤ le ∧ le ≤ 10000) → (wkU tb K n z1 z2 j wh le) → zV pY l eY ({ frames := 7, cells := 0, slots := 0, locals := 420 } : Room) sY mY ([.ref (ad i), .int (zI ((b : Int))), .int (zI ((s : Int))), .int (zI (z1)), .int (zI (z2))] : List Value).toArray below meth cY (MQ below (zPost D A (rI0 N ad fun z g' => isWk tb K n z1 z2 z ∧ g = g')) ([.ref (ad i), .int (zI ((b : Int))), .int (zI ((s : Int))), .int (zI (z1)), .int (zI (z2))] : List Value).toArray sY ({ frames := 7, cells := 0, slots := 0, locals := 420 } : Room).cells ({ frames := 7, cells := 0, slots := 0, locals := 420 } : Room).slots A) D A 9 (N) ad g1 (0) (0) 11 [(0, .ref (ad i)), (1, .int (zI ((b : Int)))), (2, .int (zI ((s : Int)))), (3, .int (zI (z1))), (4, .int (zI (z2))), (5, .int (zI (wh))), (6, .int (zI (le))), (7, .int (zI (ll)))] [] := by
    intro n9
    induction n9 using Nat.strongRecOn with
    | ind n9 ih =>
      intro ll wh le j g1 hm9 hg1 hlj hjn hwr hwk
      subst hg1
      subst hlj
      refine z_iload C 7 dX10_weakestBy_11 rfl ?_
      refine z_aload_n C 0 dX10_weakestBy_13 rfl ?_
      refine z_iload_n C 1 dX10_weakestBy_14 rfl ?_
      refine z_iload_n C 2 dX10_weakestBy_15 rfl ?_
      refine z_cV (As := [.int (zI ((b : Int))), .int (zI ((s : Int)))]) (rest := [.int (zI ((j : Int)))]) (ci := 12) C (c_X10_many l D A cs tt N ad _ i hN _ hg _ ha1 b s p hp (by omega) (by omega)) (lt_A0 hN rfl) hay1 hg rfl rfl mv_yX10_many q_1733 hd_yX10_many (by decide) (Nat.le_of_ble_eq_true rfl) (by decide) dX10_weakestBy_16 rfl (kI0 fun vy4 gvy4 hvy4 => ?_)
      obtain ⟨rfl, rfl⟩ := hvy4
      rw [show r (p) = (n : Int) from hn]
      refine z_icmp_ge (tgt := 59) C dX10_weakestBy_19 (by decide) (by omega) (by omega) (fun hby5 => ?_) (fun hby5 => ?_)
      · refine z_iload C 5 dX10_weakestBy_59 rfl ?_
        have hjn9 : j = n := by omega
        rw [hjn9] at hwk
        exact z_iret C hr hlk dX10_weakestBy_61 (by decide) (by decide) ⟨_, rfl, rfl, rfl, hwk.done, rfl⟩
      · refine z_aload_n C 0 dX10_weakestBy_22 rfl ?_
        refine z_iload_n C 1 dX10_weakestBy_23 rfl ?_
        refine z_iload_n C 2 dX10_weakestBy_24 rfl ?_
        refine z_iload C 7 dX10_weakestBy_25 rfl ?_
        refine z_iload_n C 3 dX10_weakestBy_27 rfl ?_
        refine z_iload C 4 dX10_weakestBy_28 rfl ?_
        have hqy7k : ((j : Int) : Int) = ((j : Nat) : Int) := by omega
        obtain ⟨qy7, hqy7⟩ : ∃ q9 : Nat, p + 2 + 7 * j = q9 := ⟨_, rfl⟩
        refine z_cV (As := [.int (zI ((b : Int))), .int (zI ((s : Int))), .int (zI ((j : Int))), .int (zI (z1)), .int (zI (z2))]) (rest := []) (ci := 12) C (c_uRatio l D A cs tt N ad _ i hN _ hg _ ha1 _ ha7 b s p hp (by omega) (by omega) n K hn hC hO ht hX ((j : Int)) j qy7 (by omega) hqy7 (by omega) (z1) (by omega) (z2) (by omega)) (lt_A0 hN rfl) hay1 hg rfl rfl mv_yX10_ratio q_1772 hd_yX10_ratio (by decide) (Nat.le_of_ble_eq_true rfl) (by decide) dX10_weakestBy_30 rfl (kI0 fun vy6 gvy6 hvy6 => ?_)
        obtain ⟨rfl, rfl⟩ := hvy6
        have hry8 := rlZ_b ht hO hX (l := j) (by omega) (more := z1) (steep := z2) (by omega) (by omega)
        refine z_istore (lv' := [(8, .int (zI (rlZ tb K n z1 z2 j))), (0, .ref (ad i)), (1, .int (zI ((b : Int)))), (2, .int (zI ((s : Int)))), (3, .int (zI (z1))), (4, .int (zI (z2))), (5, .int (zI (wh))), (6, .int (zI (le))), (7, .int (zI ((j : Int))))]) C dX10_weakestBy_33 (by decide) rfl ?_
        refine z_iload C 0 dX10_weakestBy_35 rfl ?_
        refine z_iload C 7 dX10_weakestBy_37 rfl ?_
        refine z_icmp_lt (tgt := 45) C dX10_weakestBy_39 (by decide) (by omega) (by omega) (fun hby9 => ?_) (fun hby9 => ?_)
        · refine z_iload C 8 dX10_weakestBy_45 rfl ?_
          refine z_istore (lv' := [(5, .int (zI ((j : Int)))), (8, .int (zI (rlZ tb K n z1 z2 j))), (0, .ref (ad i)), (1, .int (zI ((b : Int)))), (2, .int (zI ((s : Int)))), (3, .int (zI (z1))), (4, .int (zI (z2))), (6, .int (zI (le))), (7, .int (zI ((j : Int))))]) C dX10_weakestBy_47 (by decide) rfl ?_
          refine z_iload C 1 dX10_weakestBy_49 rfl ?_
          refine z_istore (lv' := [(6, .int (zI (rlZ tb K n z1 z2 j))), (5, .int (zI ((j : Int)))), (8, .int (zI (rlZ tb K n z1 z2 j))), (0, .ref (ad i)), (1, .int (zI ((b : Int)))), (2, .int (zI ((s : Int)))), (3, .int (zI (z1))), (4, .int (zI (z2))), (7, .int (zI ((j : Int))))]) C dX10_weakestBy_51 (by decide) rfl ?_
          refine z_iinc (z := (j : Int) + 1) (lv' := [(7, .int (zI ((j : Int) + 1))), (6, .int (zI (rlZ tb K n z1 z2 j))), (5, .int (zI ((j : Int)))), (8, .int (zI (rlZ tb K n z1 z2 j))), (0, .ref (ad i)), (1, .int (zI ((b : Int)))), (2, .int (zI ((s : Int)))), (3, .int (zI (z1))), (4, .int (zI (z2)))]) (j := 8) C dX10_weakestBy_53 rfl rfl (by decide) rfl ?_
          refine z_goto (tgt := 11) C dX10_weakestBy_56 (by decide) ?_
          refine z_lv (lv' := [(0, .ref (ad i)), (1, .int (zI ((b : Int)))), (2, .int (zI ((s : Int)))), (3, .int (zI (z1))), (4, .int (zI (z2))), (5, .int (zI ((j : Int)))), (6, .int (zI (rlZ tb K n z1 z2 j))), (7, .int (zI ((j : Int) + 1)))]) [4, 5, 6, 7, 8, 2, 1, 0] rfl ?_
          have hr9 := rlZ_b ht hO hX (l := j) (by omega) (more := z1) (steep := z2) hz1 hz2
          exact ih _ (by omega) ((j : Int) + 1) ((j : Int)) (rlZ tb K n z1 z2 j) (j + 1) _ rfl rfl (by omega) (by omega) (by omega) (hwk.takes (by omega))
        · refine z_goto (tgt := 53) C dX10_weakestBy_42 (by decide) ?_
          refine z_iinc (z := (j : Int) + 1) (lv' := [(7, .int (zI ((j : Int) + 1))), (8, .int (zI (rlZ tb K n z1 z2 j))), (0, .ref (ad i)), (1, .int (zI ((b : Int)))), (2, .int (zI ((s : Int)))), (3, .int (zI (z1))), (4, .int (zI (z2))), (5, .int (zI (wh))), (6, .int (zI (le)))]) (j := 8) C dX10_weakestBy_53 rfl rfl (by decide) rfl ?_
          refine z_goto (tgt := 11) C dX10_weakestBy_56 (by decide) ?_
          refine z_lv (lv' := [(0, .ref (ad i)), (1, .int (zI ((b : Int)))), (2, .int (zI ((s : Int)))), (3, .int (zI (z1))), (4, .int (zI (z2))), (5, .int (zI (wh))), (6, .int (zI (le))), (7, .int (zI ((j : Int) + 1)))]) [2, 3, 4, 5, 6, 7, 8, 0] rfl ?_
          have hr9 := rlZ_b ht hO hX (l := j) (by omega) (more := z1) (steep := z2) hz1 hz2
          exact ih _ (by omega) ((j : Int) + 1) (wh) (le) (j + 1) _ rfl rfl (by omega) (by omega) (by omega) (hwk.keeps (by omega) (by omega))
  refine z_iconst (z := -1) C dX10_weakestBy_0 rfl ?_
  refine z_istore (lv' := [(5, .int (zI (-1))), (0, .ref (ad i)), (1, .int (zI ((b : Int)))), (2, .int (zI ((s : Int)))), (3, .int (zI (z1))), (4, .int (zI (z2)))]) C dX10_weakestBy_1 (by decide) rfl ?_
  refine z_sipush (z := 10000) C dX10_weakestBy_3 (by decide) ?_
  refine z_istore (lv' := [(6, .int (zI (10000))), (5, .int (zI (-1))), (0, .ref (ad i)), (1, .int (zI ((b : Int)))), (2, .int (zI ((s : Int)))), (3, .int (zI (z1))), (4, .int (zI (z2)))]) C dX10_weakestBy_6 (by decide) rfl ?_
  refine z_iconst (z := 0) C dX10_weakestBy_8 rfl ?_
  refine z_istore (lv' := [(7, .int (zI (0))), (6, .int (zI (10000))), (5, .int (zI (-1))), (0, .ref (ad i)), (1, .int (zI ((b : Int)))), (2, .int (zI ((s : Int)))), (3, .int (zI (z1))), (4, .int (zI (z2)))]) C dX10_weakestBy_9 (by decide) rfl ?_
  refine z_lv (lv' := [(0, .ref (ad i)), (1, .int (zI ((b : Int)))), (2, .int (zI ((s : Int)))), (3, .int (zI (z1))), (4, .int (zI (z2))), (5, .int (zI (-1))), (6, .int (zI (10000))), (7, .int (zI (0)))]) [3, 4, 5, 6, 7, 2, 1, 0] rfl ?_
  exact lp _ (0) (-1) (10000) 0 _ rfl rfl (by omega) (by omega) (by omega) (Or.inl ⟨rfl, rfl, rfl⟩)

set_option maxRecDepth 100000 in
set_option maxHeartbeats 4000000 in
theorem c_uLrBy (l : Launch) (D : va_G) (A : Nat → Prop) (cs : Nat → ClassId) (tt : Nat) (N : Nat) (ad : Nat → Nat) (g : Nat → va_E) (i : Nat) (hN : i + 30 ≤ N) (F : Nat → Int) (hg : g i = mC ad i F) (r : Nat → Int) (ha1 : g (i + 1) = iA cs 29200 r) (tb : Nat → Int) (ha7 : g (i + 7) = iA cs 15 tb) (b s p : Nat) (hp : b + 6 + 86 * s = p) (hb : b + 350 ≤ 29200) (hs : s < 4) (n : Nat) (K : Nat → Int) (hn : r p = (n : Int)) (hC : ∀ q, q < 7 * n → r (p + 2 + q) = K q) (hO : okP K n) (ht : okTb tb) (hX : okX K n) (z1 : Int) (hz1 : 0 ≤ z1 ∧ z1 ≤ 40000) (z2 : Int) (hz2 : 0 ≤ z2 ∧ z2 ≤ 90) : zM l yX10_leastRatioBy cX10_leastRatioBy 6 (some .int) ({ frames := 8, cells := 0, slots := 0, locals := 480 } : Room) D A cs tt N ad g [.ref (ad i), .int (zI ((b : Int))), .int (zI ((s : Int))), .int (zI (z1)), .int (zI (z2))] (rI0 N ad fun z g' => isLr tb K n z1 z2 z ∧ g = g') := by
  have hay1 : zAt ad (i) (ad i) := rfl
  have hay2 : zAt ad (i + 1) (ad (i + 1)) := rfl
  have hay3 : zAt ad (i + 7) (ad (i + 7)) := rfl
  have hn12 := hO.1
  refine z_of (by decide) (Nat.le_of_ble_eq_true rfl) ?_
  intro pY eY sY mY below meth cY C hr hlk hnm
  refine z_lv (lv' := [(0, .ref (ad i)), (1, .int (zI ((b : Int)))), (2, .int (zI ((s : Int)))), (3, .int (zI (z1))), (4, .int (zI (z2)))]) [0, 1, 2, 3, 4] rfl ?_
  refine z_aload_n C 0 dX10_leastRatioBy_0 rfl ?_
  refine z_iload_n C 1 dX10_leastRatioBy_1 rfl ?_
  refine z_iload_n C 2 dX10_leastRatioBy_2 rfl ?_
  refine z_iload_n C 3 dX10_leastRatioBy_3 rfl ?_
  refine z_iload C 4 dX10_leastRatioBy_4 rfl ?_
  refine z_cV (As := [.int (zI ((b : Int))), .int (zI ((s : Int))), .int (zI (z1)), .int (zI (z2))]) (rest := []) (ci := 12) C (c_uWkBy l D A cs tt N ad _ i hN _ hg _ ha1 _ ha7 b s p hp (by omega) (by omega) n K hn hC hO ht hX (z1) (by omega) (z2) (by omega)) (lt_A0 hN rfl) hay1 hg rfl rfl mv_yX10_weakestBy q_1768 hd_yX10_weakestBy (by decide) (Nat.le_of_ble_eq_true rfl) (by decide) dX10_leastRatioBy_6 rfl (kI0 fun vy4 gvy4 hvy4 => ?_)
  obtain ⟨hkvy4, rfl⟩ := hvy4
  have hbvy4 : -1 ≤ vy4 ∧ vy4 ≤ 11 := by rcases hkvy4 with ⟨a9, b9⟩ | ⟨k9, a9, b9, -⟩ <;> omega
  rcases hkvy4.lr with ⟨hw9, hlr⟩ | ⟨j, hw9, hj, hlr⟩
  · refine z_istore (lv' := [(5, .int (zI (vy4))), (0, .ref (ad i)), (1, .int (zI ((b : Int)))), (2, .int (zI ((s : Int)))), (3, .int (zI (z1))), (4, .int (zI (z2)))]) C dX10_leastRatioBy_9 (by decide) rfl ?_
    refine z_iload C 0 dX10_leastRatioBy_11 rfl ?_
    refine z_iconst (z := -1) C dX10_leastRatioBy_13 rfl ?_
    refine z_icmp_ne (tgt := 23) C dX10_leastRatioBy_14 (by decide) (by omega) (by omega) (fun h => absurd h (by omega)) (fun _ => ?_)
    refine z_sipush (z := 9999) C dX10_leastRatioBy_17 (by decide) ?_
    refine z_goto (tgt := 34) C dX10_leastRatioBy_20 (by decide) ?_
    exact z_iret C hr hlk dX10_leastRatioBy_34 (by decide) (by decide) ⟨_, rfl, rfl, rfl, hlr, rfl⟩
  · subst hw9
    refine z_istore (lv' := [(5, .int (zI ((j : Int)))), (0, .ref (ad i)), (1, .int (zI ((b : Int)))), (2, .int (zI ((s : Int)))), (3, .int (zI (z1))), (4, .int (zI (z2)))]) C dX10_leastRatioBy_9 (by decide) rfl ?_
    refine z_iload C 0 dX10_leastRatioBy_11 rfl ?_
    refine z_iconst (z := -1) C dX10_leastRatioBy_13 rfl ?_
    refine z_icmp_ne (tgt := 23) C dX10_leastRatioBy_14 (by decide) (by omega) (by omega) (fun _ => ?_) (fun h => absurd h (by omega))
    refine z_aload_n C 1 dX10_leastRatioBy_23 rfl ?_
    refine z_iload_n C 2 dX10_leastRatioBy_24 rfl ?_
    refine z_iload_n C 3 dX10_leastRatioBy_25 rfl ?_
    refine z_iload C 0 dX10_leastRatioBy_26 rfl ?_
    refine z_iload_n C 4 dX10_leastRatioBy_28 rfl ?_
    refine z_iload C 5 dX10_leastRatioBy_29 rfl ?_
    have hqy6k : ((j : Int) : Int) = ((j : Nat) : Int) := by omega
    obtain ⟨qy6, hqy6⟩ : ∃ q9 : Nat, p + 2 + 7 * j = q9 := ⟨_, rfl⟩
    refine z_cV (As := [.int (zI ((b : Int))), .int (zI ((s : Int))), .int (zI ((j : Int))), .int (zI (z1)), .int (zI (z2))]) (rest := []) (ci := 12) C (c_uRatio l D A cs tt N ad _ i hN _ hg _ ha1 _ ha7 b s p hp (by omega) (by omega) n K hn hC hO ht hX ((j : Int)) j qy6 (by omega) hqy6 (by omega) (z1) (by omega) (z2) (by omega)) (lt_A0 hN rfl) hay1 hg rfl rfl mv_yX10_ratio q_1772 hd_yX10_ratio (by decide) (Nat.le_of_ble_eq_true rfl) (by decide) dX10_leastRatioBy_31 rfl (kI0 fun vy5 gvy5 hvy5 => ?_)
    obtain ⟨rfl, rfl⟩ := hvy5
    have hry7 := rlZ_b ht hO hX (l := j) (by omega) (more := z1) (steep := z2) (by omega) (by omega)
    exact z_iret C hr hlk dX10_leastRatioBy_34 (by decide) (by decide) ⟨_, rfl, rfl, rfl, hlr, rfl⟩

theorem isLr_b {tb K : Nat → Int} {n : Nat} {more steep v : Int} (ht : okTb tb) (h : okP K n) (hx : okX K n) (hl : isLr tb K n more steep v) (hm : 0 ≤ more ∧ more ≤ 40000) (hs : 0 ≤ steep ∧ steep ≤ 90) : 0 ≤ v ∧ v ≤ 9999 := by
  rcases hl with ⟨a, b⟩ | ⟨k, a, b, c⟩
  · omega
  · have := rlZ_b ht h hx a hm hs
    omega

set_option maxRecDepth 100000 in
set_option maxHeartbeats 4000000 in
theorem c_uWk (l : Launch) (D : va_G) (A : Nat → Prop) (cs : Nat → ClassId) (tt : Nat) (N : Nat) (ad : Nat → Nat) (g : Nat → va_E) (i : Nat) (hN : i + 30 ≤ N) (F : Nat → Int) (hg : g i = mC ad i F) (r : Nat → Int) (ha1 : g (i + 1) = iA cs 29200 r) (st : Nat → Int) (ha2 : g (i + 2) = iA cs 4 st) (tb : Nat → Int) (ha7 : g (i + 7) = iA cs 15 tb) (b s p : Nat) (hp : b + 6 + 86 * s = p) (hb : b + 350 ≤ 29200) (hs : s < 4) (n : Nat) (K : Nat → Int) (hn : r p = (n : Int)) (hC : ∀ q, q < 7 * n → r (p + 2 + q) = K q) (hO : okP K n) (ht : okTb tb) (hX : okX K n) (hst : 0 ≤ st s ∧ st s ≤ 90) : zM l yX10_weakest cX10_weakest 3 (some .int) ({ frames := 8, cells := 0, slots := 0, locals := 480 } : Room) D A cs tt N ad g [.ref (ad i), .int (zI ((b : Int))), .int (zI ((s : Int)))] (rI0 N ad fun z g' => isWk tb K n 0 (st s) z ∧ g = g') := by
  have hay1 : zAt ad (i) (ad i) := rfl
  have hay2 : zAt ad (i + 1) (ad (i + 1)) := rfl
  have hay3 : zAt ad (i + 2) (ad (i + 2)) := rfl
  have hay4 : zAt ad (i + 7) (ad (i + 7)) := rfl
  have hn12 := hO.1
  refine z_of (by decide) (Nat.le_of_ble_eq_true rfl) ?_
  intro pY eY sY mY below meth cY C hr hlk hnm
  refine z_lv (lv' := [(0, .ref (ad i)), (1, .int (zI ((b : Int)))), (2, .int (zI ((s : Int))))]) [0, 1, 2] rfl ?_
  refine z_aload_n C 0 dX10_weakest_0 rfl ?_
  refine z_iload_n C 1 dX10_weakest_1 rfl ?_
  refine z_iload_n C 2 dX10_weakest_2 rfl ?_
  refine z_iconst (z := 0) C dX10_weakest_3 rfl ?_
  refine z_aload_n C 0 dX10_weakest_4 rfl ?_
  refine z_get (v := .ref (ad (i + 2))) C (lt_A0 hN rfl) hay1 hg rfl inA_X10 1 (by decide) q_1460 rfl rfl dX10_weakest_5 ?_
  refine z_iload_n C 2 dX10_weakest_8 rfl ?_
  refine z_iald C (lt_A (c := 2) hN rfl) hay3 ha2 (s) (by omega) (by omega) (by decide) dX10_weakest_9 ?_
  refine z_cV (As := [.int (zI ((b : Int))), .int (zI ((s : Int))), .int (zI (0)), .int (zI (st (s)))]) (rest := []) (ci := 12) C (c_uWkBy l D A cs tt N ad _ i hN _ hg _ ha1 _ ha7 b s p hp (by omega) (by omega) n K hn hC hO ht hX (0) (by omega) (st (s)) (by omega)) (lt_A0 hN rfl) hay1 hg rfl rfl mv_yX10_weakestBy q_1768 hd_yX10_weakestBy (by decide) (Nat.le_of_ble_eq_true rfl) (by decide) dX10_weakest_10 rfl (kI0 fun vy5 gvy5 hvy5 => ?_)
  obtain ⟨hkvy5, rfl⟩ := hvy5
  have hbvy5 : -1 ≤ vy5 ∧ vy5 ≤ 11 := by rcases hkvy5 with ⟨a9, b9⟩ | ⟨k9, a9, b9, -⟩ <;> omega
  exact z_iret C hr hlk dX10_weakest_13 (by decide) (by decide) ⟨_, rfl, rfl, rfl, hkvy5, rfl⟩

set_option maxRecDepth 100000 in
set_option maxHeartbeats 4000000 in
theorem c_uLr (l : Launch) (D : va_G) (A : Nat → Prop) (cs : Nat → ClassId) (tt : Nat) (N : Nat) (ad : Nat → Nat) (g : Nat → va_E) (i : Nat) (hN : i + 30 ≤ N) (F : Nat → Int) (hg : g i = mC ad i F) (r : Nat → Int) (ha1 : g (i + 1) = iA cs 29200 r) (st : Nat → Int) (ha2 : g (i + 2) = iA cs 4 st) (tb : Nat → Int) (ha7 : g (i + 7) = iA cs 15 tb) (b s p : Nat) (hp : b + 6 + 86 * s = p) (hb : b + 350 ≤ 29200) (hs : s < 4) (n : Nat) (K : Nat → Int) (hn : r p = (n : Int)) (hC : ∀ q, q < 7 * n → r (p + 2 + q) = K q) (hO : okP K n) (ht : okTb tb) (hX : okX K n) (hst : 0 ≤ st s ∧ st s ≤ 90) : zM l yX10_leastRatio cX10_leastRatio 3 (some .int) ({ frames := 9, cells := 0, slots := 0, locals := 540 } : Room) D A cs tt N ad g [.ref (ad i), .int (zI ((b : Int))), .int (zI ((s : Int)))] (rI0 N ad fun z g' => isLr tb K n 0 (st s) z ∧ g = g') := by
  have hay1 : zAt ad (i) (ad i) := rfl
  have hay2 : zAt ad (i + 1) (ad (i + 1)) := rfl
  have hay3 : zAt ad (i + 2) (ad (i + 2)) := rfl
  have hay4 : zAt ad (i + 7) (ad (i + 7)) := rfl
  have hn12 := hO.1
  refine z_of (by decide) (Nat.le_of_ble_eq_true rfl) ?_
  intro pY eY sY mY below meth cY C hr hlk hnm
  refine z_lv (lv' := [(0, .ref (ad i)), (1, .int (zI ((b : Int)))), (2, .int (zI ((s : Int))))]) [0, 1, 2] rfl ?_
  refine z_aload_n C 0 dX10_leastRatio_0 rfl ?_
  refine z_iload_n C 1 dX10_leastRatio_1 rfl ?_
  refine z_iload_n C 2 dX10_leastRatio_2 rfl ?_
  refine z_iconst (z := 0) C dX10_leastRatio_3 rfl ?_
  refine z_aload_n C 0 dX10_leastRatio_4 rfl ?_
  refine z_get (v := .ref (ad (i + 2))) C (lt_A0 hN rfl) hay1 hg rfl inA_X10 1 (by decide) q_1460 rfl rfl dX10_leastRatio_5 ?_
  refine z_iload_n C 2 dX10_leastRatio_8 rfl ?_
  refine z_iald C (lt_A (c := 2) hN rfl) hay3 ha2 (s) (by omega) (by omega) (by decide) dX10_leastRatio_9 ?_
  refine z_cV (As := [.int (zI ((b : Int))), .int (zI ((s : Int))), .int (zI (0)), .int (zI (st (s)))]) (rest := []) (ci := 12) C (c_uLrBy l D A cs tt N ad _ i hN _ hg _ ha1 _ ha7 b s p hp (by omega) (by omega) n K hn hC hO ht hX (0) (by omega) (st (s)) (by omega)) (lt_A0 hN rfl) hay1 hg rfl rfl mv_yX10_leastRatioBy q_1764 hd_yX10_leastRatioBy (by decide) (Nat.le_of_ble_eq_true rfl) (by decide) dX10_leastRatio_10 rfl (kI0 fun vy5 gvy5 hvy5 => ?_)
  obtain ⟨hlvy5, rfl⟩ := hvy5
  have hbvy5 := isLr_b ht hO hX hlvy5 (by omega) (by omega)
  exact z_iret C hr hlk dX10_leastRatio_13 (by decide) (by decide) ⟨_, rfl, rfl, rfl, hlvy5, rfl⟩

set_option maxRecDepth 100000 in
set_option maxHeartbeats 4000000 in
theorem c_uUnst (l : Launch) (D : va_G) (A : Nat → Prop) (cs : Nat → ClassId) (tt : Nat) (N : Nat) (ad : Nat → Nat) (g : Nat → va_E) (i : Nat) (hN : i + 30 ≤ N) (F : Nat → Int) (hg : g i = mC ad i F) (r : Nat → Int) (ha1 : g (i + 1) = iA cs 29200 r) (st : Nat → Int) (ha2 : g (i + 2) = iA cs 4 st) (tb : Nat → Int) (ha7 : g (i + 7) = iA cs 15 tb) (b s p : Nat) (hp : b + 6 + 86 * s = p) (hb : b + 350 ≤ 29200) (hs : s < 4) (n : Nat) (K : Nat → Int) (hn : r p = (n : Int)) (hC : ∀ q, q < 7 * n → r (p + 2 + q) = K q) (hO : okP K n) (ht : okTb tb) (hX : okX K n) (hst : 0 ≤ st s ∧ st s ≤ 90) : zM l yX10_isUnstable cX10_isUnstable 3 (some .boolean) ({ frames := 10, cells := 0, slots := 0, locals := 600 } : Room) D A cs tt N ad g [.ref (ad i), .int (zI ((b : Int))), .int (zI ((s : Int)))] (rI0 N ad fun z g' => (∃ v, isLr tb K n 0 (st s) v ∧ ((z = 1 ∧ v < 100) ∨ (z = 0 ∧ 100 ≤ v))) ∧ g = g') := by
  have hay1 : zAt ad (i) (ad i) := rfl
  have hay2 : zAt ad (i + 1) (ad (i + 1)) := rfl
  have hay3 : zAt ad (i + 2) (ad (i + 2)) := rfl
  have hay4 : zAt ad (i + 7) (ad (i + 7)) := rfl
  have hn12 := hO.1
  refine z_of (by decide) (Nat.le_of_ble_eq_true rfl) ?_
  intro pY eY sY mY below meth cY C hr hlk hnm
  refine z_lv (lv' := [(0, .ref (ad i)), (1, .int (zI ((b : Int)))), (2, .int (zI ((s : Int))))]) [0, 1, 2] rfl ?_
  refine z_aload_n C 0 dX10_isUnstable_0 rfl ?_
  refine z_iload_n C 1 dX10_isUnstable_1 rfl ?_
  refine z_iload_n C 2 dX10_isUnstable_2 rfl ?_
  refine z_cV (As := [.int (zI ((b : Int))), .int (zI ((s : Int)))]) (rest := []) (ci := 12) C (c_uLr l D A cs tt N ad _ i hN _ hg _ ha1 _ ha2 _ ha7 b s p hp (by omega) (by omega) n K hn hC hO ht hX hst) (lt_A0 hN rfl) hay1 hg rfl rfl mv_yX10_leastRatio q_1760 hd_yX10_leastRatio (by decide) (Nat.le_of_ble_eq_true rfl) (by decide) dX10_isUnstable_3 rfl (kI0 fun vy5 gvy5 hvy5 => ?_)
  obtain ⟨hlvy5, rfl⟩ := hvy5
  have hbvy5 := isLr_b ht hO hX hlvy5 (by decide) hst
  refine z_bipush (z := 100) C dX10_isUnstable_6 (by decide) ?_
  refine z_icmp_ge (tgt := 15) C dX10_isUnstable_8 (by decide) (by omega) (by omega) (fun hby6 => ?_) (fun hby6 => ?_)
  · refine z_iconst (z := 0) C dX10_isUnstable_15 rfl ?_
    exact z_zret C hr hlk dX10_isUnstable_16 (by decide) (by decide) (by decide) ⟨0, rfl, rfl, rfl, ⟨vy5, hlvy5, by omega⟩, rfl⟩
  · refine z_iconst (z := 1) C dX10_isUnstable_11 rfl ?_
    refine z_goto (tgt := 16) C dX10_isUnstable_12 (by decide) ?_
    exact z_zret C hr hlk dX10_isUnstable_16 (by decide) (by decide) (by decide) ⟨1, rfl, rfl, rfl, ⟨vy5, hlvy5, by omega⟩, rfl⟩

set_option maxRecDepth 100000 in
set_option maxHeartbeats 4000000 in
theorem c_uSpan (l : Launch) (D : va_G) (A : Nat → Prop) (cs : Nat → ClassId) (tt : Nat) (N : Nat) (ad : Nat → Nat) (g : Nat → va_E) (z : Int) (hz : -1000000000 ≤ z ∧ z ≤ 1000000000) : zM l yX10_span cX10_span 1 (some .int) ({ frames := 1, cells := 0, slots := 0, locals := 60 } : Room) D A cs tt N ad g [.int (zI (z))] (rI0 N ad fun r g' => ((z < 0 ∧ r = -z) ∨ (0 ≤ z ∧ r = z)) ∧ g = g') := by
  refine z_of (by decide) (Nat.le_of_ble_eq_true rfl) ?_
  intro pY eY sY mY below meth cY C hr hlk hnm
  refine z_lv (lv' := [(0, .int (zI (z)))]) [0] rfl ?_
  refine z_iload_n C 0 dX10_span_0 rfl ?_
  refine z_if_ge (tgt := 9) C dX10_span_1 (by decide) (by omega) (fun hby1 => ?_) (fun hby1 => ?_)
  · refine z_iload_n C 0 dX10_span_9 rfl ?_
    exact z_iret C hr hlk dX10_span_10 (by decide) (by decide) ⟨z, rfl, rfl, rfl, by omega, rfl⟩
  · refine z_iload_n C 0 dX10_span_4 rfl ?_
    refine z_ineg C dX10_span_5 ?_
    refine z_goto (tgt := 10) C dX10_span_6 (by decide) ?_
    exact z_iret C hr hlk dX10_span_10 (by decide) (by decide) ⟨-(z), rfl, rfl, rfl, by omega, rfl⟩

set_option maxRecDepth 100000 in
set_option maxHeartbeats 4000000 in
theorem c_uGrade (l : Launch) (D : va_G) (A : Nat → Prop) (cs : Nat → ClassId) (tt : Nat) (N : Nat) (ad : Nat → Nat) (g : Nat → va_E) (i : Nat) (hN : i + 30 ≤ N) (F : Nat → Int) (hg : g i = mC ad i F) (r : Nat → Int) (ha1 : g (i + 1) = iA cs 29200 r) (b s p : Nat) (hp : b + 6 + 86 * s = p) (hb : b + 350 ≤ 29200) (hs : s < 4) (n : Nat) (K : Nat → Int) (hn : r p = (n : Int)) (hC : ∀ q, q < 7 * n → r (p + 2 + q) = K q) (hO : okP K n) (zl : Int) (k q : Nat) (hk : zl = (k : Int)) (hq : p + 2 + 7 * k = q) (hkn : k < n) (z1 : Int) (hz1 : -300 ≤ z1 ∧ z1 ≤ 100) : zM l yX10_grade cX10_grade 7 (some .int) ({ frames := 3, cells := 0, slots := 0, locals := 180 } : Room) D A cs tt N ad g [.ref (ad i), .int (zI ((b : Int))), .int (zI ((s : Int))), .int (zI (zl)), .int (zI (z1))] (rI0 N ad fun z g' => (z = grZ K n k z1 ∧ 0 ≤ z ∧ z ≤ 4000) ∧ g = g') := by
  have hay1 : zAt ad (i) (ad i) := rfl
  have hay2 : zAt ad (i + 1) (ad (i + 1)) := rfl
  have hn12 := hO.1
  refine z_of (by decide) (Nat.le_of_ble_eq_true rfl) ?_
  intro pY eY sY mY below meth cY C hr hlk hnm
  refine z_lv (lv' := [(0, .ref (ad i)), (1, .int (zI ((b : Int)))), (2, .int (zI ((s : Int)))), (3, .int (zI (zl))), (4, .int (zI (z1)))]) [0, 1, 2, 3, 4] rfl ?_
  refine z_iload_n C 3 dX10_grade_0 rfl ?_
  refine z_aload_n C 0 dX10_grade_1 rfl ?_
  refine z_iload_n C 1 dX10_grade_2 rfl ?_
  refine z_iload_n C 2 dX10_grade_3 rfl ?_
  refine z_cV (As := [.int (zI ((b : Int))), .int (zI ((s : Int)))]) (rest := [.int (zI (zl))]) (ci := 12) C (c_X10_many l D A cs tt N ad _ i hN _ hg _ ha1 b s p hp (by omega) (by omega)) (lt_A0 hN rfl) hay1 hg rfl rfl mv_yX10_many q_1733 hd_yX10_many (by decide) (Nat.le_of_ble_eq_true rfl) (by decide) dX10_grade_4 rfl (kI0 fun vy3 gvy3 hvy3 => ?_)
  obtain ⟨rfl, rfl⟩ := hvy3
  rw [show r (p) = (n : Int) from hn]
  refine z_iconst (z := 1) C dX10_grade_7 rfl ?_
  refine z_isub C dX10_grade_8 ?_
  refine z_icmp_ne (tgt := 21) C dX10_grade_9 (by decide) (by omega) (by omega) (fun hby4 => ?_) (fun hby4 => ?_)
  · refine z_aload_n C 0 dX10_grade_21 rfl ?_
    refine z_iload_n C 1 dX10_grade_22 rfl ?_
    refine z_iload_n C 2 dX10_grade_23 rfl ?_
    refine z_iload_n C 3 dX10_grade_24 rfl ?_
    refine z_iconst (z := 1) C dX10_grade_25 rfl ?_
    refine z_iadd C dX10_grade_26 ?_
    refine z_iconst (z := 4) C dX10_grade_27 rfl ?_
    have hqy5k : (zl + 1 : Int) = (((k + 1) : Nat) : Int) := by omega
    obtain ⟨qy5, hqy5⟩ : ∃ q9 : Nat, p + 2 + 7 * (k + 1) = q9 := ⟨_, rfl⟩
    refine z_cV (As := [.int (zI ((b : Int))), .int (zI ((s : Int))), .int (zI (zl + 1)), .int (zI (4))]) (rest := []) (ci := 12) C (c_X10_of l D A cs tt N ad _ i hN _ hg _ ha1 b s p hp (by omega) (by omega) (zl + 1) (4) (qy5 + 4) (by omega) (by omega) (by omega)) (lt_A0 hN rfl) hay1 hg rfl rfl mv_yX10_of q_1749 hd_yX10_of (by decide) (Nat.le_of_ble_eq_true rfl) (by decide) dX10_grade_28 rfl (kI0 fun vy6 gvy6 hvy6 => ?_)
    obtain ⟨rfl, rfl⟩ := hvy6
    rw [show r (qy5 + 4) = K (7 * (k + 1) + 4) from (congrArg r (show qy5 + 4 = p + 2 + (7 * (k + 1) + 4) by omega)).trans (hC (7 * (k + 1) + 4) (by omega))]
    obtain ⟨⟨qy70, qy71, qy72, qy73, qy74, qy75, qy76⟩, qy79⟩ := hO.ly (l := (k + 1)) (by omega)
    refine z_istore (lv' := [(5, .int (zI (K (7 * (k + 1) + 4)))), (0, .ref (ad i)), (1, .int (zI ((b : Int)))), (2, .int (zI ((s : Int)))), (3, .int (zI (zl))), (4, .int (zI (z1)))]) C dX10_grade_31 (by decide) rfl ?_
    refine z_iload_n C 4 dX10_grade_33 rfl ?_
    refine z_if_ne (tgt := 41) C dX10_grade_34 (by decide) (by omega) (fun hby8 => ?_) (fun hby8 => ?_)
    · refine z_aload_n C 1 dX10_grade_41 rfl ?_
      refine z_iload_n C 2 dX10_grade_42 rfl ?_
      refine z_iload_n C 3 dX10_grade_43 rfl ?_
      refine z_iload_n C 4 dX10_grade_44 rfl ?_
      refine z_iconst (z := 1) C dX10_grade_45 rfl ?_
      refine z_isub C dX10_grade_46 ?_
      refine z_iconst (z := 4) C dX10_grade_47 rfl ?_
      have hqy9k : (zl - 1 : Int) = (((k - 1) : Nat) : Int) := by omega
      obtain ⟨qy9, hqy9⟩ : ∃ q9 : Nat, p + 2 + 7 * (k - 1) = q9 := ⟨_, rfl⟩
      refine z_cV (As := [.int (zI ((b : Int))), .int (zI ((s : Int))), .int (zI (zl - 1)), .int (zI (4))]) (rest := []) (ci := 12) C (c_X10_of l D A cs tt N ad _ i hN _ hg _ ha1 b s p hp (by omega) (by omega) (zl - 1) (4) (qy9 + 4) (by omega) (by omega) (by omega)) (lt_A0 hN rfl) hay1 hg rfl rfl mv_yX10_of q_1749 hd_yX10_of (by decide) (Nat.le_of_ble_eq_true rfl) (by decide) dX10_grade_48 rfl (kI0 fun vy10 gvy10 hvy10 => ?_)
      obtain ⟨rfl, rfl⟩ := hvy10
      rw [show r (qy9 + 4) = K (7 * (k - 1) + 4) from (congrArg r (show qy9 + 4 = p + 2 + (7 * (k - 1) + 4) by omega)).trans (hC (7 * (k - 1) + 4) (by omega))]
      obtain ⟨⟨qy110, qy111, qy112, qy113, qy114, qy115, qy116⟩, qy119⟩ := hO.ly (l := (k - 1)) (by omega)
      refine z_istore (lv' := [(6, .int (zI (K (7 * (k - 1) + 4)))), (5, .int (zI (K (7 * (k + 1) + 4)))), (0, .ref (ad i)), (1, .int (zI ((b : Int)))), (2, .int (zI ((s : Int)))), (3, .int (zI (zl))), (4, .int (zI (z1)))]) C dX10_grade_51 (by decide) rfl ?_
      refine z_iload C 1 dX10_grade_53 rfl ?_
      refine z_iload C 0 dX10_grade_55 rfl ?_
      refine z_isub C dX10_grade_57 ?_
      refine z_cS (As := [.int (zI ((K (7 * (k + 1) + 4)) - (K (7 * (k - 1) + 4))))]) (rest := []) C (c_uSpan l D A cs tt N ad _ ((K (7 * (k + 1) + 4)) - (K (7 * (k - 1) + 4))) (by omega)) ms_yX10_span q_1839 hd_yX10_span (by decide) (Nat.le_of_ble_eq_true rfl) (by decide) dX10_grade_58 rfl (kI0 fun vy12 gvy12 hvy12 => ?_)
      obtain ⟨hvy12, rfl⟩ := hvy12
      refine z_bipush (z := 10) C dX10_grade_61 (by decide) ?_
      refine z_imul C dX10_grade_63 ?_
      rw [Int.mul_comm vy12 10]
      refine z_aload_n C 2 dX10_grade_64 rfl ?_
      refine z_iload_n C 3 dX10_grade_65 rfl ?_
      refine z_iload_n C 4 dX10_grade_66 rfl ?_
      refine z_iload_n C 5 dX10_grade_67 rfl ?_
      refine z_iconst (z := 3) C dX10_grade_68 rfl ?_
      refine z_cV (As := [.int (zI ((b : Int))), .int (zI ((s : Int))), .int (zI (zl)), .int (zI (3))]) (rest := [.int (zI (10 * vy12))]) (ci := 12) C (c_X10_of l D A cs tt N ad _ i hN _ hg _ ha1 b s p hp (by omega) (by omega) (zl) (3) (q + 3) (by omega) (by omega) (by omega)) (lt_A0 hN rfl) hay1 hg rfl rfl mv_yX10_of q_1749 hd_yX10_of (by decide) (Nat.le_of_ble_eq_true rfl) (by decide) dX10_grade_69 rfl (kI0 fun vy13 gvy13 hvy13 => ?_)
      obtain ⟨rfl, rfl⟩ := hvy13
      rw [show r (q + 3) = K (7 * k + 3) from (congrArg r (show q + 3 = p + 2 + (7 * k + 3) by omega)).trans (hC (7 * k + 3) (by omega))]
      obtain ⟨⟨qy140, qy141, qy142, qy143, qy144, qy145, qy146⟩, qy149⟩ := hO.ly (l := k) (by omega)
      refine z_idiv C dX10_grade_72 (by omega) (by omega) (by omega) ?_
      have htq := tdq (a := 10 * vy12) (k := K (7 * k + 3)) (q := 4000) (by omega) (by omega) (by omega)
      exact z_iret C hr hlk dX10_grade_73 (by decide) (by decide) ⟨(10 * vy12).tdiv (K (7 * k + 3)), rfl, rfl, rfl, ⟨grZ_of (up := K (7 * (k + 1) + 4)) (dn := K (7 * (k - 1) + 4)) (by omega) (by omega) (by omega), by omega, by omega⟩, rfl⟩
    · refine z_iconst (z := 0) C dX10_grade_37 rfl ?_
      refine z_goto (tgt := 51) C dX10_grade_38 (by decide) ?_
      refine z_istore (lv' := [(6, .int (zI (0))), (5, .int (zI (K (7 * (k + 1) + 4)))), (0, .ref (ad i)), (1, .int (zI ((b : Int)))), (2, .int (zI ((s : Int)))), (3, .int (zI (zl))), (4, .int (zI (z1)))]) C dX10_grade_51 (by decide) rfl ?_
      refine z_iload C 1 dX10_grade_53 rfl ?_
      refine z_iload C 0 dX10_grade_55 rfl ?_
      refine z_isub C dX10_grade_57 ?_
      refine z_cS (As := [.int (zI ((K (7 * (k + 1) + 4)) - 0))]) (rest := []) C (c_uSpan l D A cs tt N ad _ ((K (7 * (k + 1) + 4)) - 0) (by omega)) ms_yX10_span q_1839 hd_yX10_span (by decide) (Nat.le_of_ble_eq_true rfl) (by decide) dX10_grade_58 rfl (kI0 fun vy15 gvy15 hvy15 => ?_)
      obtain ⟨hvy15, rfl⟩ := hvy15
      refine z_bipush (z := 10) C dX10_grade_61 (by decide) ?_
      refine z_imul C dX10_grade_63 ?_
      rw [Int.mul_comm vy15 10]
      refine z_aload_n C 2 dX10_grade_64 rfl ?_
      refine z_iload_n C 3 dX10_grade_65 rfl ?_
      refine z_iload_n C 4 dX10_grade_66 rfl ?_
      refine z_iload_n C 5 dX10_grade_67 rfl ?_
      refine z_iconst (z := 3) C dX10_grade_68 rfl ?_
      refine z_cV (As := [.int (zI ((b : Int))), .int (zI ((s : Int))), .int (zI (zl)), .int (zI (3))]) (rest := [.int (zI (10 * vy15))]) (ci := 12) C (c_X10_of l D A cs tt N ad _ i hN _ hg _ ha1 b s p hp (by omega) (by omega) (zl) (3) (q + 3) (by omega) (by omega) (by omega)) (lt_A0 hN rfl) hay1 hg rfl rfl mv_yX10_of q_1749 hd_yX10_of (by decide) (Nat.le_of_ble_eq_true rfl) (by decide) dX10_grade_69 rfl (kI0 fun vy16 gvy16 hvy16 => ?_)
      obtain ⟨rfl, rfl⟩ := hvy16
      rw [show r (q + 3) = K (7 * k + 3) from (congrArg r (show q + 3 = p + 2 + (7 * k + 3) by omega)).trans (hC (7 * k + 3) (by omega))]
      obtain ⟨⟨qy170, qy171, qy172, qy173, qy174, qy175, qy176⟩, qy179⟩ := hO.ly (l := k) (by omega)
      refine z_idiv C dX10_grade_72 (by omega) (by omega) (by omega) ?_
      have htq := tdq (a := 10 * vy15) (k := K (7 * k + 3)) (q := 4000) (by omega) (by omega) (by omega)
      exact z_iret C hr hlk dX10_grade_73 (by decide) (by decide) ⟨(10 * vy15).tdiv (K (7 * k + 3)), rfl, rfl, rfl, ⟨grZ_of (up := K (7 * (k + 1) + 4)) (dn := 0) (by omega) (by omega) (by omega), by omega, by omega⟩, rfl⟩
  · refine z_iload C 4 dX10_grade_12 rfl ?_
    refine z_iconst (z := 0) C dX10_grade_14 rfl ?_
    refine z_cS (As := [.int (zI (z1)), .int (zI (0))]) (rest := []) C (c_X10_lesser l D A cs tt N ad _ (z1) (by omega) (0) (by omega)) ms_yX10_lesser q_1792 hd_yX10_lesser (by decide) (Nat.le_of_ble_eq_true rfl) (by decide) dX10_grade_15 rfl (kI0 fun vy18 gvy18 hvy18 => ?_)
    obtain ⟨hvy18, rfl⟩ := hvy18
    refine z_goto (tgt := 31) C dX10_grade_18 (by decide) ?_
    refine z_istore (lv' := [(5, .int (zI (vy18))), (0, .ref (ad i)), (1, .int (zI ((b : Int)))), (2, .int (zI ((s : Int)))), (3, .int (zI (zl))), (4, .int (zI (z1)))]) C dX10_grade_31 (by decide) rfl ?_
    refine z_iload_n C 4 dX10_grade_33 rfl ?_
    refine z_if_ne (tgt := 41) C dX10_grade_34 (by decide) (by omega) (fun hby19 => ?_) (fun hby19 => ?_)
    · refine z_aload_n C 1 dX10_grade_41 rfl ?_
      refine z_iload_n C 2 dX10_grade_42 rfl ?_
      refine z_iload_n C 3 dX10_grade_43 rfl ?_
      refine z_iload_n C 4 dX10_grade_44 rfl ?_
      refine z_iconst (z := 1) C dX10_grade_45 rfl ?_
      refine z_isub C dX10_grade_46 ?_
      refine z_iconst (z := 4) C dX10_grade_47 rfl ?_
      have hqy20k : (zl - 1 : Int) = (((k - 1) : Nat) : Int) := by omega
      obtain ⟨qy20, hqy20⟩ : ∃ q9 : Nat, p + 2 + 7 * (k - 1) = q9 := ⟨_, rfl⟩
      refine z_cV (As := [.int (zI ((b : Int))), .int (zI ((s : Int))), .int (zI (zl - 1)), .int (zI (4))]) (rest := []) (ci := 12) C (c_X10_of l D A cs tt N ad _ i hN _ hg _ ha1 b s p hp (by omega) (by omega) (zl - 1) (4) (qy20 + 4) (by omega) (by omega) (by omega)) (lt_A0 hN rfl) hay1 hg rfl rfl mv_yX10_of q_1749 hd_yX10_of (by decide) (Nat.le_of_ble_eq_true rfl) (by decide) dX10_grade_48 rfl (kI0 fun vy21 gvy21 hvy21 => ?_)
      obtain ⟨rfl, rfl⟩ := hvy21
      rw [show r (qy20 + 4) = K (7 * (k - 1) + 4) from (congrArg r (show qy20 + 4 = p + 2 + (7 * (k - 1) + 4) by omega)).trans (hC (7 * (k - 1) + 4) (by omega))]
      obtain ⟨⟨qy220, qy221, qy222, qy223, qy224, qy225, qy226⟩, qy229⟩ := hO.ly (l := (k - 1)) (by omega)
      refine z_istore (lv' := [(6, .int (zI (K (7 * (k - 1) + 4)))), (5, .int (zI (vy18))), (0, .ref (ad i)), (1, .int (zI ((b : Int)))), (2, .int (zI ((s : Int)))), (3, .int (zI (zl))), (4, .int (zI (z1)))]) C dX10_grade_51 (by decide) rfl ?_
      refine z_iload C 1 dX10_grade_53 rfl ?_
      refine z_iload C 0 dX10_grade_55 rfl ?_
      refine z_isub C dX10_grade_57 ?_
      refine z_cS (As := [.int (zI (vy18 - (K (7 * (k - 1) + 4))))]) (rest := []) C (c_uSpan l D A cs tt N ad _ (vy18 - (K (7 * (k - 1) + 4))) (by omega)) ms_yX10_span q_1839 hd_yX10_span (by decide) (Nat.le_of_ble_eq_true rfl) (by decide) dX10_grade_58 rfl (kI0 fun vy23 gvy23 hvy23 => ?_)
      obtain ⟨hvy23, rfl⟩ := hvy23
      refine z_bipush (z := 10) C dX10_grade_61 (by decide) ?_
      refine z_imul C dX10_grade_63 ?_
      rw [Int.mul_comm vy23 10]
      refine z_aload_n C 2 dX10_grade_64 rfl ?_
      refine z_iload_n C 3 dX10_grade_65 rfl ?_
      refine z_iload_n C 4 dX10_grade_66 rfl ?_
      refine z_iload_n C 5 dX10_grade_67 rfl ?_
      refine z_iconst (z := 3) C dX10_grade_68 rfl ?_
      refine z_cV (As := [.int (zI ((b : Int))), .int (zI ((s : Int))), .int (zI (zl)), .int (zI (3))]) (rest := [.int (zI (10 * vy23))]) (ci := 12) C (c_X10_of l D A cs tt N ad _ i hN _ hg _ ha1 b s p hp (by omega) (by omega) (zl) (3) (q + 3) (by omega) (by omega) (by omega)) (lt_A0 hN rfl) hay1 hg rfl rfl mv_yX10_of q_1749 hd_yX10_of (by decide) (Nat.le_of_ble_eq_true rfl) (by decide) dX10_grade_69 rfl (kI0 fun vy24 gvy24 hvy24 => ?_)
      obtain ⟨rfl, rfl⟩ := hvy24
      rw [show r (q + 3) = K (7 * k + 3) from (congrArg r (show q + 3 = p + 2 + (7 * k + 3) by omega)).trans (hC (7 * k + 3) (by omega))]
      obtain ⟨⟨qy250, qy251, qy252, qy253, qy254, qy255, qy256⟩, qy259⟩ := hO.ly (l := k) (by omega)
      refine z_idiv C dX10_grade_72 (by omega) (by omega) (by omega) ?_
      have htq := tdq (a := 10 * vy23) (k := K (7 * k + 3)) (q := 4000) (by omega) (by omega) (by omega)
      exact z_iret C hr hlk dX10_grade_73 (by decide) (by decide) ⟨(10 * vy23).tdiv (K (7 * k + 3)), rfl, rfl, rfl, ⟨grZ_of (up := vy18) (dn := K (7 * (k - 1) + 4)) (by omega) (by omega) (by omega), by omega, by omega⟩, rfl⟩
    · refine z_iconst (z := 0) C dX10_grade_37 rfl ?_
      refine z_goto (tgt := 51) C dX10_grade_38 (by decide) ?_
      refine z_istore (lv' := [(6, .int (zI (0))), (5, .int (zI (vy18))), (0, .ref (ad i)), (1, .int (zI ((b : Int)))), (2, .int (zI ((s : Int)))), (3, .int (zI (zl))), (4, .int (zI (z1)))]) C dX10_grade_51 (by decide) rfl ?_
      refine z_iload C 1 dX10_grade_53 rfl ?_
      refine z_iload C 0 dX10_grade_55 rfl ?_
      refine z_isub C dX10_grade_57 ?_
      refine z_cS (As := [.int (zI (vy18 - 0))]) (rest := []) C (c_uSpan l D A cs tt N ad _ (vy18 - 0) (by omega)) ms_yX10_span q_1839 hd_yX10_span (by decide) (Nat.le_of_ble_eq_true rfl) (by decide) dX10_grade_58 rfl (kI0 fun vy26 gvy26 hvy26 => ?_)
      obtain ⟨hvy26, rfl⟩ := hvy26
      refine z_bipush (z := 10) C dX10_grade_61 (by decide) ?_
      refine z_imul C dX10_grade_63 ?_
      rw [Int.mul_comm vy26 10]
      refine z_aload_n C 2 dX10_grade_64 rfl ?_
      refine z_iload_n C 3 dX10_grade_65 rfl ?_
      refine z_iload_n C 4 dX10_grade_66 rfl ?_
      refine z_iload_n C 5 dX10_grade_67 rfl ?_
      refine z_iconst (z := 3) C dX10_grade_68 rfl ?_
      refine z_cV (As := [.int (zI ((b : Int))), .int (zI ((s : Int))), .int (zI (zl)), .int (zI (3))]) (rest := [.int (zI (10 * vy26))]) (ci := 12) C (c_X10_of l D A cs tt N ad _ i hN _ hg _ ha1 b s p hp (by omega) (by omega) (zl) (3) (q + 3) (by omega) (by omega) (by omega)) (lt_A0 hN rfl) hay1 hg rfl rfl mv_yX10_of q_1749 hd_yX10_of (by decide) (Nat.le_of_ble_eq_true rfl) (by decide) dX10_grade_69 rfl (kI0 fun vy27 gvy27 hvy27 => ?_)
      obtain ⟨rfl, rfl⟩ := hvy27
      rw [show r (q + 3) = K (7 * k + 3) from (congrArg r (show q + 3 = p + 2 + (7 * k + 3) by omega)).trans (hC (7 * k + 3) (by omega))]
      obtain ⟨⟨qy280, qy281, qy282, qy283, qy284, qy285, qy286⟩, qy289⟩ := hO.ly (l := k) (by omega)
      refine z_idiv C dX10_grade_72 (by omega) (by omega) (by omega) ?_
      have htq := tdq (a := 10 * vy26) (k := K (7 * k + 3)) (q := 4000) (by omega) (by omega) (by omega)
      exact z_iret C hr hlk dX10_grade_73 (by decide) (by decide) ⟨(10 * vy26).tdiv (K (7 * k + 3)), rfl, rfl, rfl, ⟨grZ_of (up := vy18) (dn := 0) (by omega) (by omega) (by omega), by omega, by omega⟩, rfl⟩

set_option maxRecDepth 100000 in
set_option maxHeartbeats 4000000 in
theorem c_uKind (l : Launch) (D : va_G) (A : Nat → Prop) (cs : Nat → ClassId) (tt : Nat) (N : Nat) (ad : Nat → Nat) (g : Nat → va_E) (i : Nat) (hN : i + 30 ≤ N) (F : Nat → Int) (hg : g i = mC ad i F) (r : Nat → Int) (ha1 : g (i + 1) = iA cs 29200 r) (b s p : Nat) (hp : b + 6 + 86 * s = p) (hb : b + 350 ≤ 29200) (hs : s < 4) (n : Nat) (K : Nat → Int) (hn : r p = (n : Int)) (hC : ∀ q, q < 7 * n → r (p + 2 + q) = K q) (hO : okP K n) (zl : Int) (k q : Nat) (hk : zl = (k : Int)) (hq : p + 2 + 7 * k = q) (hkn : k < n) (z1 : Int) (hz1 : -300 ≤ z1 ∧ z1 ≤ 100) : zM l yX10_kindThen cX10_kindThen 6 (some .int) ({ frames := 4, cells := 0, slots := 0, locals := 240 } : Room) D A cs tt N ad g [.ref (ad i), .int (zI ((b : Int))), .int (zI ((s : Int))), .int (zI (zl)), .int (zI (z1))] (rI0 N ad fun z g' => z = nkZ K k (grZ K n k z1) ∧ g = g') := by
  have hay1 : zAt ad (i) (ad i) := rfl
  have hay2 : zAt ad (i + 1) (ad (i + 1)) := rfl
  have hn12 := hO.1
  obtain ⟨⟨qy30, qy31, qy32, qy33, qy34, qy35, qy36⟩, qy39⟩ := hO.ly (l := k) (by omega)
  refine z_of (by decide) (Nat.le_of_ble_eq_true rfl) ?_
  intro pY eY sY mY below meth cY C hr hlk hnm
  refine z_lv (lv' := [(0, .ref (ad i)), (1, .int (zI ((b : Int)))), (2, .int (zI ((s : Int)))), (3, .int (zI (zl))), (4, .int (zI (z1)))]) [0, 1, 2, 3, 4] rfl ?_
  refine z_aload_n C 0 dX10_kindThen_0 rfl ?_
  refine z_iload_n C 1 dX10_kindThen_1 rfl ?_
  refine z_iload_n C 2 dX10_kindThen_2 rfl ?_
  refine z_iload_n C 3 dX10_kindThen_3 rfl ?_
  refine z_iconst (z := 0) C dX10_kindThen_4 rfl ?_
  refine z_cV (As := [.int (zI ((b : Int))), .int (zI ((s : Int))), .int (zI (zl)), .int (zI (0))]) (rest := []) (ci := 12) C (c_X10_of l D A cs tt N ad _ i hN _ hg _ ha1 b s p hp (by omega) (by omega) (zl) (0) (q) (by omega) (by omega) (by omega)) (lt_A0 hN rfl) hay1 hg rfl rfl mv_yX10_of q_1749 hd_yX10_of (by decide) (Nat.le_of_ble_eq_true rfl) (by decide) dX10_kindThen_5 rfl (kI0 fun vy4 gvy4 hvy4 => ?_)
  obtain ⟨rfl, rfl⟩ := hvy4
  rw [show r (q) = K (7 * k) from (congrArg r (show q = p + 2 + (7 * k + 0) by omega)).trans (hC (7 * k + 0) (by omega))]
  refine z_istore (lv' := [(5, .int (zI (K (7 * k)))), (0, .ref (ad i)), (1, .int (zI ((b : Int)))), (2, .int (zI ((s : Int)))), (3, .int (zI (zl))), (4, .int (zI (z1)))]) C dX10_kindThen_8 (by decide) rfl ?_
  refine z_iload C 0 dX10_kindThen_10 rfl ?_
  refine z_iconst (z := 3) C dX10_kindThen_12 rfl ?_
  refine z_icmp_ne (tgt := 19) C dX10_kindThen_13 (by decide) (by omega) (by omega) (fun hby5 => ?_) (fun hby5 => ?_)
  · refine z_aload_n C 1 dX10_kindThen_19 rfl ?_
    refine z_iload_n C 2 dX10_kindThen_20 rfl ?_
    refine z_iload_n C 3 dX10_kindThen_21 rfl ?_
    refine z_iload_n C 4 dX10_kindThen_22 rfl ?_
    refine z_iconst (z := 2) C dX10_kindThen_23 rfl ?_
    refine z_cV (As := [.int (zI ((b : Int))), .int (zI ((s : Int))), .int (zI (zl)), .int (zI (2))]) (rest := []) (ci := 12) C (c_X10_of l D A cs tt N ad _ i hN _ hg _ ha1 b s p hp (by omega) (by omega) (zl) (2) (q + 2) (by omega) (by omega) (by omega)) (lt_A0 hN rfl) hay1 hg rfl rfl mv_yX10_of q_1749 hd_yX10_of (by decide) (Nat.le_of_ble_eq_true rfl) (by decide) dX10_kindThen_24 rfl (kI0 fun vy6 gvy6 hvy6 => ?_)
    obtain ⟨rfl, rfl⟩ := hvy6
    rw [show r (q + 2) = K (7 * k + 2) from (congrArg r (show q + 2 = p + 2 + (7 * k + 2) by omega)).trans (hC (7 * k + 2) (by omega))]
    refine z_if_le (tgt := 32) C dX10_kindThen_27 (by decide) (by omega) (fun hby7 => ?_) (fun hby7 => ?_)
    · refine z_iload C 0 dX10_kindThen_32 rfl ?_
      refine z_iconst (z := 4) C dX10_kindThen_34 rfl ?_
      refine z_icmp_ne (tgt := 41) C dX10_kindThen_35 (by decide) (by omega) (by omega) (fun hby8 => ?_) (fun hby8 => ?_)
      · refine z_aload_n C 1 dX10_kindThen_41 rfl ?_
        refine z_iload_n C 2 dX10_kindThen_42 rfl ?_
        refine z_iload_n C 3 dX10_kindThen_43 rfl ?_
        refine z_iload_n C 4 dX10_kindThen_44 rfl ?_
        refine z_iload C 5 dX10_kindThen_45 rfl ?_
        refine z_cV (As := [.int (zI ((b : Int))), .int (zI ((s : Int))), .int (zI (zl)), .int (zI (z1))]) (rest := []) (ci := 12) C (c_uGrade l D A cs tt N ad _ i hN _ hg _ ha1 b s p hp (by omega) (by omega) n K hn hC hO (zl) k q (by omega) hq (by omega) (z1) (by omega)) (lt_A0 hN rfl) hay1 hg rfl rfl mv_yX10_grade q_1835 hd_yX10_grade (by decide) (Nat.le_of_ble_eq_true rfl) (by decide) dX10_kindThen_47 rfl (kI0 fun vy9 gvy9 hvy9 => ?_)
        obtain ⟨⟨hvvy9, hwvy9⟩, rfl⟩ := hvy9
        refine z_bipush (z := 20) C dX10_kindThen_50 (by decide) ?_
        refine z_icmp_lt (tgt := 57) C dX10_kindThen_52 (by decide) (by omega) (by omega) (fun hby10 => ?_) (fun hby10 => ?_)
        · refine z_aload_n C 1 dX10_kindThen_57 rfl ?_
          refine z_iload_n C 2 dX10_kindThen_58 rfl ?_
          refine z_iload_n C 3 dX10_kindThen_59 rfl ?_
          refine z_iload_n C 4 dX10_kindThen_60 rfl ?_
          refine z_iconst (z := 5) C dX10_kindThen_61 rfl ?_
          refine z_cV (As := [.int (zI ((b : Int))), .int (zI ((s : Int))), .int (zI (zl)), .int (zI (5))]) (rest := []) (ci := 12) C (c_X10_of l D A cs tt N ad _ i hN _ hg _ ha1 b s p hp (by omega) (by omega) (zl) (5) (q + 5) (by omega) (by omega) (by omega)) (lt_A0 hN rfl) hay1 hg rfl rfl mv_yX10_of q_1749 hd_yX10_of (by decide) (Nat.le_of_ble_eq_true rfl) (by decide) dX10_kindThen_62 rfl (kI0 fun vy11 gvy11 hvy11 => ?_)
          obtain ⟨rfl, rfl⟩ := hvy11
          rw [show r (q + 5) = K (7 * k + 5) from (congrArg r (show q + 5 = p + 2 + (7 * k + 5) by omega)).trans (hC (7 * k + 5) (by omega))]
          refine z_bipush (z := 24) C dX10_kindThen_65 (by decide) ?_
          refine z_icmp_lt (tgt := 74) C dX10_kindThen_67 (by decide) (by omega) (by omega) (fun hby12 => ?_) (fun hby12 => ?_)
          · refine z_iload C 0 dX10_kindThen_74 rfl ?_
            rw [← hvvy9]
            exact z_iret C hr hlk dX10_kindThen_76 (by decide) (by decide) ⟨K (7 * k), rfl, rfl, rfl, (by unfold nkZ; (repeat' split) <;> omega), rfl⟩
          · refine z_iconst (z := 1) C dX10_kindThen_70 rfl ?_
            refine z_goto (tgt := 76) C dX10_kindThen_71 (by decide) ?_
            rw [← hvvy9]
            exact z_iret C hr hlk dX10_kindThen_76 (by decide) (by decide) ⟨1, rfl, rfl, rfl, (by unfold nkZ; (repeat' split) <;> omega), rfl⟩
        · refine z_iconst (z := 2) C dX10_kindThen_55 rfl ?_
          rw [← hvvy9]
          exact z_iret C hr hlk dX10_kindThen_56 (by decide) (by decide) ⟨2, rfl, rfl, rfl, (by unfold nkZ; (repeat' split) <;> omega), rfl⟩
      · refine z_iload C 0 dX10_kindThen_38 rfl ?_
        exact z_iret C hr hlk dX10_kindThen_40 (by decide) (by decide) ⟨K (7 * k), rfl, rfl, rfl, (by unfold nkZ; (repeat' split) <;> omega), rfl⟩
    · refine z_iconst (z := 1) C dX10_kindThen_30 rfl ?_
      exact z_iret C hr hlk dX10_kindThen_31 (by decide) (by decide) ⟨1, rfl, rfl, rfl, (by unfold nkZ; (repeat' split) <;> omega), rfl⟩
  · refine z_iload C 0 dX10_kindThen_16 rfl ?_
    exact z_iret C hr hlk dX10_kindThen_18 (by decide) (by decide) ⟨K (7 * k), rfl, rfl, rfl, (by unfold nkZ; (repeat' split) <;> omega), rfl⟩
end
