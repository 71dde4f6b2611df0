section
-- 9pda.law.lean.txt
set_option maxRecDepth 100000 in
set_option maxHeartbeats 4000000 in
theorem law_c0 {p : Program} {l : Launch} {e : Env} {s : State} {m : MethodId} {below : List Frame} {meth : Method} {c : Code} {D : va_G} {A : Nat → Prop} {cs : Nat → ClassId} {tt : Nat} {b L : Nat} {xs : Nat → Int32} {N : Nat} {ad : Nat → Nat} {g : Nat → va_E} {k n : Nat} {x z : Int} {q : Nat → Int} {w1 w2 w3 w4 w5 : Int} (hl0 : l.stackTraces = false) (C : zC p s m #[Value.ref b] c cL_law 7 RL D A cs tt) (hr : meth.sig.returnType = ret) (hlk : meth.locks = false) (hA : ∀ q, A q → s.heap.size ≤ q) (hX : va_X b L xs s s.heap) (hbl : b < s.heap.size) (hbA : ¬ A b) (hL : L ≤ 3072) (hN : 952 ≤ N) (hJI : JI cs ad g N x) (hq : g 951 = jA cs 1 q) (hx : 0 ≤ x ∧ x ≤ 511) (hz : z = 6 * x) (hzL : z + 6 ≤ (L : Int)) (hk : k ≤ 590000) (hn : n ≤ 7000000) (hw1r : -2147483648 ≤ w1 ∧ w1 ≤ 2147483647) (hw1 : xs (z + 1).toNat = zI w1) (hw2r : -2147483648 ≤ w2 ∧ w2 ≤ 2147483647) (hw2 : xs (z + 2).toNat = zI w2) (hw3r : -2147483648 ≤ w3 ∧ w3 ≤ 2147483647) (hw3 : xs (z + 3).toNat = zI w3) (hw4r : -2147483648 ≤ w4 ∧ w4 ≤ 2147483647) (hw4 : xs (z + 4).toNat = zI w4) (hw5r : -2147483648 ≤ w5 ∧ w5 ≤ 2147483647) (hw5 : xs (z + 5).toNat = zI w5) (hK : ∀ (N' : Nat) (ad' : Nat → Nat) (g' : Nat → va_E) (q' : Nat → Int), 952 ≤ N' → JI cs ad' g' N' (x + 1) → g' 951 = jA cs 1 q' → zV p l e room_1 s m #[Value.ref b] below meth c (lw_Z below #[Value.ref b] s) D A 7 (N') ad' g' (k + 16) (n + 2150) 1348 [(4, .int (zI (z))), (3, .ref (ad' 951)), (2, .ref (ad' 921)), (1, .ref (ad' 0)), (0, .ref b)] []) : zV p l e room_1 s m #[Value.ref b] below meth c (lw_Z below #[Value.ref b] s) D A 7 (N) ad g (k) (n) 188 [(4, .int (zI (z))), (3, .ref (ad 951)), (2, .ref (ad 921)), (1, .ref (ad 0)), (0, .ref b)] [] := by
  have hay1 : zAt ad (0) (ad 0) := rfl
  have hay2 : zAt ad (921) (ad 921) := rfl
  have hay3 : zAt ad (951) (ad 951) := rfl
  obtain ⟨t, fp, im, nz, kz, sl, ho, st, op, ai, fa, mu, tb, tp, F, r, sR, oR, aR, fR, mR, bR, pR, hR, hM, hJ, hW⟩ := hJI
  have ht9 := hR.2.1
  have hi9 := hR.2.2.1
  obtain ⟨j23, j24, j21, j17, j20, j13, j14⟩ := id hJ.1
  have hPl := hW.pl
  refine z_aload_n C 3 dL_law_188 rfl ?_
  refine z_aload_n C 4 dL_law_189 rfl ?_
  refine z_iload C 0 dL_law_190 rfl ?_
  refine z_iconst (z := 1) C dL_law_192 rfl ?_
  refine z_iadd C dL_law_193 ?_
  refine z_sld C hX hbl hbA (z + 1).toNat (by omega) (by omega) (by omega) hw1 dL_law_194 ?_
  refine z_aload_n C 4 dL_law_195 rfl ?_
  refine z_iload C 0 dL_law_196 rfl ?_
  refine z_iconst (z := 2) C dL_law_198 rfl ?_
  refine z_iadd C dL_law_199 ?_
  refine z_sld C hX hbl hbA (z + 2).toNat (by omega) (by omega) (by omega) hw2 dL_law_200 ?_
  refine z_aload_n C 4 dL_law_201 rfl ?_
  refine z_iload C 0 dL_law_202 rfl ?_
  refine z_iconst (z := 3) C dL_law_204 rfl ?_
  refine z_iadd C dL_law_205 ?_
  refine z_sld C hX hbl hbA (z + 3).toNat (by omega) (by omega) (by omega) hw3 dL_law_206 ?_
  refine z_aload_n C 4 dL_law_207 rfl ?_
  refine z_iload C 0 dL_law_208 rfl ?_
  refine z_iconst (z := 4) C dL_law_210 rfl ?_
  refine z_iadd C dL_law_211 ?_
  refine z_sld C hX hbl hbA (z + 4).toNat (by omega) (by omega) (by omega) hw4 dL_law_212 ?_
  refine z_aload_n C 4 dL_law_213 rfl ?_
  refine z_iload C 0 dL_law_214 rfl ?_
  refine z_iconst (z := 5) C dL_law_216 rfl ?_
  refine z_iadd C dL_law_217 ?_
  refine z_sld C hX hbl hbA (z + 5).toNat (by omega) (by omega) (by omega) hw5 dL_law_218 ?_
  refine z_cV (As := [.int (zI (w1)), .int (zI (w2)), .int (zI (w3)), .int (zI (w4)), .int (zI (w5))]) (rest := []) (ci := 11) C (c_X9_feed l D A cs tt N ad _ hN _ _ _ _ _ _ _ _ _ _ _ _ _ _ _ hR w1 hw1r w2 hw2r w3 hw3r w4 hw4r w5 hw5r) (by omega) hay1 hR.1 rfl rfl mv_yX9_feed q_392 hd_yX9_feed (by decide) (Nat.le_of_ble_eq_true rfl) ⟨show k + 0 ≤ 601024 by omega, show n + 0 ≤ 7293034 by omega⟩ dL_law_219 rfl (kI0 fun rx gx hx9 => ?_)
  obtain ⟨hrx, ⟨tp1, hR0, hA1, hB1⟩, hG1⟩ := hx9
  have hR1 := hR0
  have hM1 : okMr cs ad gx 921 x F r sR oR aR fR mR bR pR := hM.grow (fun _ _ _ => rfl) (fun j a b => hG1 j (by omega) (by omega))
  have hq1 : gx 951 = jA cs 1 q := (hG1 951 (by omega) (by omega)).trans hq
  have hKG : ∀ j, 11 ≤ j → j < 883 → gx j = g j := fun j a b => hG1 j (by omega) (by omega)
  have hHG : ∀ j, 929 ≤ j → j ≤ 933 → gx j = g j := fun j a b => hG1 j (by omega) (by omega)
  refine z_pop C dL_law_222 rfl ?_
  refine z_aload_n C 2 dL_law_223 rfl ?_
  refine z_aload_n C 4 dL_law_224 rfl ?_
  refine z_iload C 0 dL_law_225 rfl ?_
  refine z_iconst (z := 1) C dL_law_227 rfl ?_
  refine z_iadd C dL_law_228 ?_
  refine z_sld C hX hbl hbA (z + 1).toNat (by omega) (by omega) (by omega) hw1 dL_law_229 ?_
  refine z_aload_n C 4 dL_law_230 rfl ?_
  refine z_iload C 0 dL_law_231 rfl ?_
  refine z_iconst (z := 2) C dL_law_233 rfl ?_
  refine z_iadd C dL_law_234 ?_
  refine z_sld C hX hbl hbA (z + 2).toNat (by omega) (by omega) (by omega) hw2 dL_law_235 ?_
  refine z_aload_n C 4 dL_law_236 rfl ?_
  refine z_iload C 0 dL_law_237 rfl ?_
  refine z_iconst (z := 3) C dL_law_239 rfl ?_
  refine z_iadd C dL_law_240 ?_
  refine z_sld C hX hbl hbA (z + 3).toNat (by omega) (by omega) (by omega) hw3 dL_law_241 ?_
  refine z_aload_n C 4 dL_law_242 rfl ?_
  refine z_iload C 0 dL_law_243 rfl ?_
  refine z_iconst (z := 4) C dL_law_245 rfl ?_
  refine z_iadd C dL_law_246 ?_
  refine z_sld C hX hbl hbA (z + 4).toNat (by omega) (by omega) (by omega) hw4 dL_law_247 ?_
  refine z_aload_n C 4 dL_law_248 rfl ?_
  refine z_iload C 0 dL_law_249 rfl ?_
  refine z_iconst (z := 5) C dL_law_251 rfl ?_
  refine z_iadd C dL_law_252 ?_
  refine z_sld C hX hbl hbA (z + 5).toNat (by omega) (by omega) (by omega) hw5 dL_law_253 ?_
  refine z_cV (As := [.int (zI (w1)), .int (zI (w2)), .int (zI (w3)), .int (zI (w4)), .int (zI (w5))]) (rest := []) (ci := 12) C (c_X10_feed l D A cs tt N ad _ 921 (by omega) x (by omega) F r hM1 hPl w1 hw1r w2 hw2r w3 hw3r w4 hw4r w5 hw5r) (by omega) hay2 hM1.1 rfl rfl mv_yX10_feed q_1640 hd_yX10_feed (by decide) (Nat.le_of_ble_eq_true rfl) ⟨show k + 0 + 0 ≤ 601024 by omega, show n + 0 + 0 ≤ 7293034 by omega⟩ dL_law_254 rfl (kI0 fun ry gy hy => ?_)
  obtain ⟨⟨F2, r2, pR2, hM2, hF2, hP2, hw2, hD2⟩, hG2⟩ := hy
  have hrr : -1 ≤ rx ∧ rx ≤ 900 := by rw [hrx]; split <;> omega
  have hW2 := (hW.ques (fun _ _ _ => rfl) (fun j a b => (hG2 j (by omega)).trans (hKG j a b)) (fun j a b => (hG2 j (by omega)).trans (hHG j a b)) ⟨hF2.2.2.1, hF2.2.2.2.1, hF2.2.2.2.2.2.1, hF2.2.2.2.2.2.2.1, hF2.2.2.2.2.2.2.2.1⟩ hP2 hw2)
  by_cases h9 : t ≤ 880
  · rw [if_pos h9] at hR1
    have hd2 := hD2.resolve_left (fun e9 => by omega)
    have hF3 : F2 23 = t + 20 := by omega
    have hd3 := hd2.2.2.2
    rw [j23] at hd3
    have hJ2 := hJ.feed (by omega) ⟨hF2.1, hF2.2.1, hF2.2.2.2.2.1, hF2.2.2.2.2.2.2.2.1, hF2.2.2.2.2.2.2.2.2.1, hF2.2.2.2.2.2.2.2.2.2.1, hF2.2.2.2.2.2.2.2.2.2.2⟩ hF3 hM2.tape (hA1 h9) hd3
    refine z_pop C dL_law_257 rfl ?_
    refine z_goto (tgt := 1348) C dL_law_258 (by decide) ?_
    refine z_lv (lv' := [(4, .int (zI (z))), (3, .ref (ad 951)), (2, .ref (ad 921)), (1, .ref (ad 0)), (0, .ref b)]) [0, 1, 2, 3, 4] rfl ?_
    refine z_widen (k2 := k + 16) (n2 := n + 2150) (show k + 0 + 0 ≤ k + 16 by omega) (show n + 0 + 0 ≤ n + 2150 by omega) ?_
    exact hK _ _ _ _ hN ⟨_, _, _, _, _, _, _, _, _, _, _, _, _, _, _, _, _, _, _, _, _, _, _, (hR1.o951 (fun j hj => hG2 j (by omega))), hM2, hJ2, hW2⟩ ((hG2 951 (by omega)).trans hq1)
  · rw [if_neg h9] at hR1
    obtain ⟨-, -, hF3, rfl⟩ := hD2.resolve_right (fun e9 => by omega)
    obtain rfl := hB1 (by omega)
    have hJ2 := hJ.keep (F' := F2) ⟨hF2.1, hF2.2.1, hF2.2.2.2.2.1, hF2.2.2.2.2.2.2.2.1, hF2.2.2.2.2.2.2.2.2.1, hF3, hF2.2.2.2.2.2.2.2.2.2.2⟩
    refine z_pop C dL_law_257 rfl ?_
    refine z_goto (tgt := 1348) C dL_law_258 (by decide) ?_
    refine z_lv (lv' := [(4, .int (zI (z))), (3, .ref (ad 951)), (2, .ref (ad 921)), (1, .ref (ad 0)), (0, .ref b)]) [0, 1, 2, 3, 4] rfl ?_
    refine z_widen (k2 := k + 16) (n2 := n + 2150) (show k + 0 + 0 ≤ k + 16 by omega) (show n + 0 + 0 ≤ n + 2150 by omega) ?_
    exact hK _ _ _ _ hN ⟨_, _, _, _, _, _, _, _, _, _, _, _, _, _, _, _, _, _, _, _, _, _, _, (hR1.o951 (fun j hj => hG2 j (by omega))), hM2, hJ2, hW2⟩ ((hG2 951 (by omega)).trans hq1)

set_option maxRecDepth 100000 in
set_option maxHeartbeats 4000000 in
theorem law_c2 {p : Program} {l : Launch} {e : Env} {s : State} {m : MethodId} {below : List Frame} {meth : Method} {c : Code} {D : va_G} {A : Nat → Prop} {cs : Nat → ClassId} {tt : Nat} {b L : Nat} {xs : Nat → Int32} {N : Nat} {ad : Nat → Nat} {g : Nat → va_E} {k n : Nat} {x z : Int} {q : Nat → Int} {w1 w2 w3 w4 w5 : Int} (hl0 : l.stackTraces = false) (C : zC p s m #[Value.ref b] c cL_law 7 RL D A cs tt) (hr : meth.sig.returnType = ret) (hlk : meth.locks = false) (hA : ∀ q, A q → s.heap.size ≤ q) (hX : va_X b L xs s s.heap) (hbl : b < s.heap.size) (hbA : ¬ A b) (hL : L ≤ 3072) (hN : 952 ≤ N) (hJI : JI cs ad g N x) (hq : g 951 = jA cs 1 q) (hx : 0 ≤ x ∧ x ≤ 511) (hz : z = 6 * x) (hzL : z + 6 ≤ (L : Int)) (hk : k ≤ 590000) (hn : n ≤ 7000000) (hw1r : -2147483648 ≤ w1 ∧ w1 ≤ 2147483647) (hw1 : xs (z + 1).toNat = zI w1) (hw2r : -2147483648 ≤ w2 ∧ w2 ≤ 2147483647) (hw2 : xs (z + 2).toNat = zI w2) (hw3r : -2147483648 ≤ w3 ∧ w3 ≤ 2147483647) (hw3 : xs (z + 3).toNat = zI w3) (hw4r : -2147483648 ≤ w4 ∧ w4 ≤ 2147483647) (hw4 : xs (z + 4).toNat = zI w4) (hw5r : -2147483648 ≤ w5 ∧ w5 ≤ 2147483647) (hw5 : xs (z + 5).toNat = zI w5) (hK : ∀ (N' : Nat) (ad' : Nat → Nat) (g' : Nat → va_E) (q' : Nat → Int), 952 ≤ N' → JI cs ad' g' N' (x + 1) → g' 951 = jA cs 1 q' → zV p l e room_1 s m #[Value.ref b] below meth c (lw_Z below #[Value.ref b] s) D A 7 (N') ad' g' (k + 16) (n + 2150) 1348 [(4, .int (zI (z))), (3, .ref (ad' 951)), (2, .ref (ad' 921)), (1, .ref (ad' 0)), (0, .ref b)] []) : zV p l e room_1 s m #[Value.ref b] below meth c (lw_Z below #[Value.ref b] s) D A 7 (N) ad g (k) (n) 289 [(4, .int (zI (z))), (3, .ref (ad 951)), (2, .ref (ad 921)), (1, .ref (ad 0)), (0, .ref b)] [] := by
  have hay1 : zAt ad (0) (ad 0) := rfl
  have hay2 : zAt ad (921) (ad 921) := rfl
  have hay3 : zAt ad (951) (ad 951) := rfl
  obtain ⟨t, fp, im, nz, kz, sl, ho, st, op, ai, fa, mu, tb, tp, F, r, sR, oR, aR, fR, mR, bR, pR, hR, hM, hJ, hW⟩ := hJI
  have ht9 := hR.2.1
  have hi9 := hR.2.2.1
  obtain ⟨j23, j24, j21, j17, j20, j13, j14⟩ := id hJ.1
  have hPl := hW.pl
  refine z_aload_n C 3 dL_law_289 rfl ?_
  refine z_cV (As := []) (rest := []) (ci := 11) C (c_X9_fault l D A cs tt N ad _ hN _ _ _ _ _ _ _ _ _ _ _ _ _ _ _ hR ) (by omega) hay1 hR.1 rfl rfl mv_yX9_fault q_400 hd_yX9_fault (by decide) (Nat.le_of_ble_eq_true rfl) ⟨show k + 0 ≤ 601024 by omega, show n + 0 ≤ 7293034 by omega⟩ dL_law_290 rfl (kI0 fun rx gx hx9 => ?_)
  obtain ⟨hrx, hxv, rfl⟩ := hx9
  have hR1 := hR
  have hM1 := hM
  have hq1 := hq
  have hKG : ∀ j, 11 ≤ j → j < 883 → g j = g j := fun _ _ _ => rfl
  have hHG : ∀ j, 929 ≤ j → j ≤ 933 → g j = g j := fun _ _ _ => rfl
  refine z_pop C dL_law_293 rfl ?_
  refine z_aload_n C 2 dL_law_294 rfl ?_
  refine z_cV (As := []) (rest := []) (ci := 12) C (c_X10_fault l D A cs tt N ad _ 921 (by omega) x (by omega) F r hM1 hPl ) (by omega) hay2 hM1.1 rfl rfl mv_yX10_fault q_1721 hd_yX10_fault (by decide) (Nat.le_of_ble_eq_true rfl) ⟨show k + 0 + 0 ≤ 601024 by omega, show n + 0 + 0 ≤ 7293034 by omega⟩ dL_law_295 rfl (kI0 fun ry gy hy => ?_)
  obtain ⟨⟨hry, hyv⟩, ⟨F2, r2, hM2, hF2, hP2, hw2⟩, hG2⟩ := hy
  refine z_pop C dL_law_298 rfl ?_
  refine z_goto (tgt := 1348) C dL_law_299 (by decide) ?_
  refine z_lv (lv' := [(4, .int (zI (z))), (3, .ref (ad 951)), (2, .ref (ad 921)), (1, .ref (ad 0)), (0, .ref b)]) [0, 1, 2, 3, 4] rfl ?_
  refine z_widen (k2 := k + 16) (n2 := n + 2150) (show k + 0 + 0 ≤ k + 16 by omega) (show n + 0 + 0 ≤ n + 2150 by omega) ?_
  exact hK _ _ _ _ hN ⟨_, _, _, _, _, _, _, _, _, _, _, _, _, _, _, _, _, _, _, _, _, _, _, (hR1.o951 (fun j hj => hG2 j (by omega))), hM2, (hJ.keep ⟨hF2.1, hF2.2.1, hF2.2.2.2.2.1, hF2.2.2.2.2.2.2.2.1, hF2.2.2.2.2.2.2.2.2.1, hF2.2.2.2.2.2.2.2.2.2.1, hF2.2.2.2.2.2.2.2.2.2.2⟩), (hW.ques (fun _ _ _ => rfl) (fun j a b => (hG2 j (by omega)).trans (hKG j a b)) (fun j a b => (hG2 j (by omega)).trans (hHG j a b)) ⟨hF2.2.2.1, hF2.2.2.2.1, hF2.2.2.2.2.2.1, hF2.2.2.2.2.2.2.1, hF2.2.2.2.2.2.2.2.1⟩ hP2 hw2)⟩ ((hG2 951 (by omega)).trans hq1)

set_option maxRecDepth 100000 in
set_option maxHeartbeats 4000000 in
theorem law_c8 {p : Program} {l : Launch} {e : Env} {s : State} {m : MethodId} {below : List Frame} {meth : Method} {c : Code} {D : va_G} {A : Nat → Prop} {cs : Nat → ClassId} {tt : Nat} {b L : Nat} {xs : Nat → Int32} {N : Nat} {ad : Nat → Nat} {g : Nat → va_E} {k n : Nat} {x z : Int} {q : Nat → Int} {w1 w2 w3 w4 w5 : Int} (hl0 : l.stackTraces = false) (C : zC p s m #[Value.ref b] c cL_law 7 RL D A cs tt) (hr : meth.sig.returnType = ret) (hlk : meth.locks = false) (hA : ∀ q, A q → s.heap.size ≤ q) (hX : va_X b L xs s s.heap) (hbl : b < s.heap.size) (hbA : ¬ A b) (hL : L ≤ 3072) (hN : 952 ≤ N) (hJI : JI cs ad g N x) (hq : g 951 = jA cs 1 q) (hx : 0 ≤ x ∧ x ≤ 511) (hz : z = 6 * x) (hzL : z + 6 ≤ (L : Int)) (hk : k ≤ 590000) (hn : n ≤ 7000000) (hw1r : -2147483648 ≤ w1 ∧ w1 ≤ 2147483647) (hw1 : xs (z + 1).toNat = zI w1) (hw2r : -2147483648 ≤ w2 ∧ w2 ≤ 2147483647) (hw2 : xs (z + 2).toNat = zI w2) (hw3r : -2147483648 ≤ w3 ∧ w3 ≤ 2147483647) (hw3 : xs (z + 3).toNat = zI w3) (hw4r : -2147483648 ≤ w4 ∧ w4 ≤ 2147483647) (hw4 : xs (z + 4).toNat = zI w4) (hw5r : -2147483648 ≤ w5 ∧ w5 ≤ 2147483647) (hw5 : xs (z + 5).toNat = zI w5) (hK : ∀ (N' : Nat) (ad' : Nat → Nat) (g' : Nat → va_E) (q' : Nat → Int), 952 ≤ N' → JI cs ad' g' N' (x + 1) → g' 951 = jA cs 1 q' → zV p l e room_1 s m #[Value.ref b] below meth c (lw_Z below #[Value.ref b] s) D A 7 (N') ad' g' (k + 16) (n + 2150) 1348 [(4, .int (zI (z))), (3, .ref (ad' 951)), (2, .ref (ad' 921)), (1, .ref (ad' 0)), (0, .ref b)] []) : zV p l e room_1 s m #[Value.ref b] below meth c (lw_Z below #[Value.ref b] s) D A 7 (N) ad g (k) (n) 514 [(4, .int (zI (z))), (3, .ref (ad 951)), (2, .ref (ad 921)), (1, .ref (ad 0)), (0, .ref b)] [] := by
  have hay1 : zAt ad (0) (ad 0) := rfl
  have hay2 : zAt ad (921) (ad 921) := rfl
  have hay3 : zAt ad (951) (ad 951) := rfl
  obtain ⟨t, fp, im, nz, kz, sl, ho, st, op, ai, fa, mu, tb, tp, F, r, sR, oR, aR, fR, mR, bR, pR, hR, hM, hJ, hW⟩ := hJI
  obtain ⟨j23, j24, j21, j17, j20, j13, j14⟩ := id hJ.1
  obtain ⟨nsl, na, nak, H, Hk, W, Wk, P, Pk, ns, nh, nd, rr, pp, hSL, hPL, hCL, hPT, hNow, hKep, hEm, hEk⟩ := hW
  obtain ⟨hS, ⟨nu, nv, nw, rf, hXK, hne, hnt, hrf⟩, hz8, hRX, hPr, hP9⟩ := id hNow
  have hna := hS.2.1
  have hsl4 := hR.2.2.2.2.2.2.1
  have hho := hR.2.2.2.2.2.2.2.1
  have hPl := hPL.1
  refine z_aload_n C 3 dL_law_514 rfl ?_
  refine z_aload_n C 4 dL_law_515 rfl ?_
  refine z_iload C 0 dL_law_516 rfl ?_
  refine z_iconst (z := 1) C dL_law_518 rfl ?_
  refine z_iadd C dL_law_519 ?_
  refine z_sld C hX hbl hbA (z + 1).toNat (by omega) (by omega) (by omega) hw1 dL_law_520 ?_
  refine z_cV (As := [.int (zI (w1))]) (rest := []) (ci := 11) C (c_qHours l D A cs tt N ad _ hN _ _ _ _ _ _ _ _ _ _ _ _ _ _ _ hR na H W P nu nv nw rf hS hXK nsl hSL.1 hSL.2.1 x (by omega) hRX.1.2 w1 hw1r) (by omega) hay1 hR.1 rfl rfl mv_yX9_hours q_404 hd_yX9_hours (by decide) (Nat.le_of_ble_eq_true rfl) ⟨show k + 0 ≤ 601024 by omega, show n + 0 ≤ 7293034 by omega⟩ dL_law_521 rfl (kI0 fun rx gx hx9 => ?_)
  obtain ⟨hqx, hR1, ⟨hS0, rf1, hrfx, hXK0⟩, hG1⟩ := hx9
  have hHG : ∀ j, 921 ≤ j → gx j = g j := fun j a => hG1 j (by omega)
  have hM1 : okMr cs ad gx 921 x F r sR oR aR fR mR bR pR := hM.grow (fun _ _ _ => rfl) (fun j a b => hHG j a)
  have hq1 : gx 951 = jA cs 1 q := (hHG 951 (by decide)).trans hq
  have hc8 := (hHG 929 (by decide)).trans hCL.1
  have hc9 := (hHG 930 (by decide)).trans hCL.2.1
  have hc10 := (hHG 931 (by decide)).trans hCL.2.2.1
  have hc11 := (hHG 932 (by decide)).trans hCL.2.2.2.1
  have hc12 := (hHG 933 (by decide)).trans hCL.2.2.2.2
  have hfr : okFr F oR aR fR mR bR := okEnv.fr hM.env hPl (okTb.eq hSL.2.1.2.2.2.2.2 hJ.2.2.2.2.2)
  have hn13 : F 13 = (nsl : Int) := j13.trans hSL.1
  have hO9 : ∀ k, k < nsl → sR k = st k ∧ oR k = op k := fun k hk => by have h9 := hJ.2.2.2.2.1 k (by omega); exact ⟨h9.1.symm, h9.2.symm⟩
  have hT9 : ∀ k, k < 15 → bR k = tb k := fun k hk => (hJ.2.2.2.2.2 k hk).symm
  refine z_aload_n C 2 dL_law_524 rfl ?_
  refine z_aload_n C 4 dL_law_525 rfl ?_
  refine z_iload C 0 dL_law_526 rfl ?_
  refine z_iconst (z := 1) C dL_law_528 rfl ?_
  refine z_iadd C dL_law_529 ?_
  refine z_sld C hX hbl hbA (z + 1).toNat (by omega) (by omega) (by omega) hw1 dL_law_530 ?_
  refine z_cV (As := [.int (zI (w1))]) (rest := [.int (zI (rx))]) (ci := 12) C (c_vHours l D A cs tt N ad _ 921 (by omega) x (by omega) F r hM1 hfr nsl hn13 W na H hRX rr hc11 w1 hw1r) (by omega) hay2 hM1.1 rfl rfl mv_yX10_hours q_1862 hd_yX10_hours (by decide) (Nat.le_of_ble_eq_true rfl) ⟨show k + 0 + 0 ≤ 601024 by omega, show n + 0 + 0 ≤ 7293034 by omega⟩ dL_law_531 rfl (kI0 fun ry gy hy => ?_)
  obtain ⟨hqy, ⟨F2, r2, hM2, hF2, hRX2, hrw2⟩, ⟨rr2, hcr2, hrr2⟩, hG2, hG3⟩ := hy
  have e8 : hoA F oR aR fR mR bR nsl w1 W na H = hoC ho 0 op ai fa mu tb nsl w1 W na H := hoA_hoC hPl j14 hJ.2.2.2.1 (fun k hk => (hO9 k hk).2) hT9 hSL.2.1 hSL.1 hRX.1.2 (by omega) (by omega)
  rw [e8] at hqy hRX2
  have e9 : ry = rx := hqy.trans hqx.symm
  have hrf2 := rf_act (n := 1) (by decide) hrf hrfx hrr2 e9
  have hG3b : ∀ j, 929 ≤ j → j ≤ 931 → gy j = gx j := fun j a b => hG3 j (by omega) (by omega) (by omega)
  have hcp2 := (hG3 933 (by decide) (by decide) (by decide)).trans hc12
  have hW2 : JW cs ad gy (x + 1) im nz kz sl ho st op ai fa mu tb F2 r2 := JW.act hSL hPL hCL hPT hKep hEk hne hnt hz8 hS0 hXK0 hrf2 hG1 hRX2 hF2 hrw2 hcr2 hcp2 hPr hPT.1 (fun _ _ => rfl) hP9 (fun j a => hG2 j (by omega)) hG3b (hoC_em hEm.1 hEm.2 (by omega))
  obtain ⟨x9, ex9, hx9z⟩ := zI_of (zI rx)
  rw [e9, ex9]
  refine z_icmp_eq (tgt := 1348) C dL_law_534 (by decide) (by omega) (by omega) (fun _ => ?_) (fun h => absurd h (by omega))
  refine z_lv (lv' := [(4, .int (zI (z))), (3, .ref (ad 951)), (2, .ref (ad 921)), (1, .ref (ad 0)), (0, .ref b)]) [0, 1, 2, 3, 4] rfl ?_
  refine z_widen (k2 := k + 16) (n2 := n + 2150) (show k + 0 + 0 ≤ k + 16 by omega) (show n + 0 + 0 ≤ n + 2150 by omega) ?_
  exact hK _ _ _ _ hN ⟨_, _, _, _, _, _, _, _, _, _, _, _, _, _, _, _, _, _, _, _, _, _, _, (hR1.o951 (fun j hj => hG2 j (by omega))), hM2, (hJ.keep ⟨hF2.1, hF2.2.1, hF2.2.2.1, hF2.2.2.2.2.2.1, hF2.2.2.2.2.2.2.1, hF2.2.2.2.2.2.2.2.1, hF2.2.2.2.2.2.2.2.2.1⟩), hW2⟩ ((hG2 951 (by omega)).trans hq1)

set_option maxRecDepth 100000 in
set_option maxHeartbeats 4000000 in
theorem law_c9 {p : Program} {l : Launch} {e : Env} {s : State} {m : MethodId} {below : List Frame} {meth : Method} {c : Code} {D : va_G} {A : Nat → Prop} {cs : Nat → ClassId} {tt : Nat} {b L : Nat} {xs : Nat → Int32} {N : Nat} {ad : Nat → Nat} {g : Nat → va_E} {k n : Nat} {x z : Int} {q : Nat → Int} {w1 w2 w3 w4 w5 : Int} (hl0 : l.stackTraces = false) (C : zC p s m #[Value.ref b] c cL_law 7 RL D A cs tt) (hr : meth.sig.returnType = ret) (hlk : meth.locks = false) (hA : ∀ q, A q → s.heap.size ≤ q) (hX : va_X b L xs s s.heap) (hbl : b < s.heap.size) (hbA : ¬ A b) (hL : L ≤ 3072) (hN : 952 ≤ N) (hJI : JI cs ad g N x) (hq : g 951 = jA cs 1 q) (hx : 0 ≤ x ∧ x ≤ 511) (hz : z = 6 * x) (hzL : z + 6 ≤ (L : Int)) (hk : k ≤ 590000) (hn : n ≤ 7000000) (hw1r : -2147483648 ≤ w1 ∧ w1 ≤ 2147483647) (hw1 : xs (z + 1).toNat = zI w1) (hw2r : -2147483648 ≤ w2 ∧ w2 ≤ 2147483647) (hw2 : xs (z + 2).toNat = zI w2) (hw3r : -2147483648 ≤ w3 ∧ w3 ≤ 2147483647) (hw3 : xs (z + 3).toNat = zI w3) (hw4r : -2147483648 ≤ w4 ∧ w4 ≤ 2147483647) (hw4 : xs (z + 4).toNat = zI w4) (hw5r : -2147483648 ≤ w5 ∧ w5 ≤ 2147483647) (hw5 : xs (z + 5).toNat = zI w5) (hK : ∀ (N' : Nat) (ad' : Nat → Nat) (g' : Nat → va_E) (q' : Nat → Int), 952 ≤ N' → JI cs ad' g' N' (x + 1) → g' 951 = jA cs 1 q' → zV p l e room_1 s m #[Value.ref b] below meth c (lw_Z below #[Value.ref b] s) D A 7 (N') ad' g' (k + 16) (n + 2150) 1348 [(4, .int (zI (z))), (3, .ref (ad' 951)), (2, .ref (ad' 921)), (1, .ref (ad' 0)), (0, .ref b)] []) : zV p l e room_1 s m #[Value.ref b] below meth c (lw_Z below #[Value.ref b] s) D A 7 (N) ad g (k) (n) 539 [(4, .int (zI (z))), (3, .ref (ad 951)), (2, .ref (ad 921)), (1, .ref (ad 0)), (0, .ref b)] [] := by
  have hay1 : zAt ad (0) (ad 0) := rfl
  have hay2 : zAt ad (921) (ad 921) := rfl
  have hay3 : zAt ad (951) (ad 951) := rfl
  obtain ⟨t, fp, im, nz, kz, sl, ho, st, op, ai, fa, mu, tb, tp, F, r, sR, oR, aR, fR, mR, bR, pR, hR, hM, hJ, hW⟩ := hJI
  obtain ⟨j23, j24, j21, j17, j20, j13, j14⟩ := id hJ.1
  obtain ⟨nsl, na, nak, H, Hk, W, Wk, P, Pk, ns, nh, nd, rr, pp, hSL, hPL, hCL, hPT, hNow, hKep, hEm, hEk⟩ := hW
  obtain ⟨hS, ⟨nu, nv, nw, rf, hXK, hne, hnt, hrf⟩, hz8, hRX, hPr, hP9⟩ := id hNow
  have hna := hS.2.1
  have hsl4 := hR.2.2.2.2.2.2.1
  have hho := hR.2.2.2.2.2.2.2.1
  have hPl := hPL.1
  refine z_aload_n C 3 dL_law_539 rfl ?_
  refine z_aload_n C 4 dL_law_540 rfl ?_
  refine z_iload C 0 dL_law_541 rfl ?_
  refine z_iconst (z := 1) C dL_law_543 rfl ?_
  refine z_iadd C dL_law_544 ?_
  refine z_sld C hX hbl hbA (z + 1).toNat (by omega) (by omega) (by omega) hw1 dL_law_545 ?_
  refine z_aload_n C 4 dL_law_546 rfl ?_
  refine z_iload C 0 dL_law_547 rfl ?_
  refine z_iconst (z := 2) C dL_law_549 rfl ?_
  refine z_iadd C dL_law_550 ?_
  refine z_sld C hX hbl hbA (z + 2).toNat (by omega) (by omega) (by omega) hw2 dL_law_551 ?_
  refine z_aload_n C 4 dL_law_552 rfl ?_
  refine z_iload C 0 dL_law_553 rfl ?_
  refine z_iconst (z := 3) C dL_law_555 rfl ?_
  refine z_iadd C dL_law_556 ?_
  refine z_sld C hX hbl hbA (z + 3).toNat (by omega) (by omega) (by omega) hw3 dL_law_557 ?_
  refine z_cV (As := [.int (zI (w1)), .int (zI (w2)), .int (zI (w3))]) (rest := []) (ci := 11) C (c_qFall l D A cs tt N ad _ hN _ _ _ _ _ _ _ _ _ _ _ _ _ _ _ hR na H W P nu nv nw rf hS hXK nsl hSL.1 hSL.2.1 x (by omega) hRX.1.2 w1 hw1r w2 hw2r w3 hw3r) (by omega) hay1 hR.1 rfl rfl mv_yX9_fall q_533 hd_yX9_fall (by decide) (Nat.le_of_ble_eq_true rfl) ⟨show k + 0 ≤ 601024 by omega, show n + 0 ≤ 7293034 by omega⟩ dL_law_558 rfl (kI0 fun rx gx hx9 => ?_)
  obtain ⟨hqx, hR1, ⟨hS0, rf1, hrfx, hXK0⟩, hG1⟩ := hx9
  have hHG : ∀ j, 921 ≤ j → gx j = g j := fun j a => hG1 j (by omega)
  have hM1 : okMr cs ad gx 921 x F r sR oR aR fR mR bR pR := hM.grow (fun _ _ _ => rfl) (fun j a b => hHG j a)
  have hq1 : gx 951 = jA cs 1 q := (hHG 951 (by decide)).trans hq
  have hc8 := (hHG 929 (by decide)).trans hCL.1
  have hc9 := (hHG 930 (by decide)).trans hCL.2.1
  have hc10 := (hHG 931 (by decide)).trans hCL.2.2.1
  have hc11 := (hHG 932 (by decide)).trans hCL.2.2.2.1
  have hc12 := (hHG 933 (by decide)).trans hCL.2.2.2.2
  have hfr : okFr F oR aR fR mR bR := okEnv.fr hM.env hPl (okTb.eq hSL.2.1.2.2.2.2.2 hJ.2.2.2.2.2)
  have hn13 : F 13 = (nsl : Int) := j13.trans hSL.1
  have hO9 : ∀ k, k < nsl → sR k = st k ∧ oR k = op k := fun k hk => by have h9 := hJ.2.2.2.2.1 k (by omega); exact ⟨h9.1.symm, h9.2.symm⟩
  have hT9 : ∀ k, k < 15 → bR k = tb k := fun k hk => (hJ.2.2.2.2.2 k hk).symm
  refine z_pop C dL_law_561 rfl ?_
  refine z_aload_n C 2 dL_law_562 rfl ?_
  refine z_aload_n C 4 dL_law_563 rfl ?_
  refine z_iload C 0 dL_law_564 rfl ?_
  refine z_iconst (z := 1) C dL_law_566 rfl ?_
  refine z_iadd C dL_law_567 ?_
  refine z_sld C hX hbl hbA (z + 1).toNat (by omega) (by omega) (by omega) hw1 dL_law_568 ?_
  refine z_aload_n C 4 dL_law_569 rfl ?_
  refine z_iload C 0 dL_law_570 rfl ?_
  refine z_iconst (z := 2) C dL_law_572 rfl ?_
  refine z_iadd C dL_law_573 ?_
  refine z_sld C hX hbl hbA (z + 2).toNat (by omega) (by omega) (by omega) hw2 dL_law_574 ?_
  refine z_aload_n C 4 dL_law_575 rfl ?_
  refine z_iload C 0 dL_law_576 rfl ?_
  refine z_iconst (z := 3) C dL_law_578 rfl ?_
  refine z_iadd C dL_law_579 ?_
  refine z_sld C hX hbl hbA (z + 3).toNat (by omega) (by omega) (by omega) hw3 dL_law_580 ?_
  refine z_cV (As := [.int (zI (w1)), .int (zI (w2)), .int (zI (w3))]) (rest := []) (ci := 12) C (c_vFall l D A cs tt N ad _ 921 (by omega) x (by omega) F r hM1 hfr nsl hn13 W na H hRX rr hc11 w1 hw1r w2 hw2r w3 hw3r) (by omega) hay2 hM1.1 rfl rfl mv_yX10_fall q_1948 hd_yX10_fall (by decide) (Nat.le_of_ble_eq_true rfl) ⟨show k + 0 + 0 ≤ 601024 by omega, show n + 0 + 0 ≤ 7293034 by omega⟩ dL_law_581 rfl (kI0 fun ry gy hy => ?_)
  obtain ⟨hqy, ⟨F2, r2, hM2, hF2, hRX2, hrw2⟩, ⟨rr2, hcr2, hrr2⟩, hG2, hG3⟩ := hy
  have e8 : falA F aR nsl w1 w2 w3 W na H = falC ho 0 ai nsl w1 w2 w3 W na H := falA_falC hPl j14 hho hJ.2.2.2.1
  rw [e8] at hqy hRX2
  have e9 : ry = rx := hqy.trans hqx.symm
  have hrf2 := rf_act (n := 1) (by decide) hrf hrfx hrr2 e9
  have hG3b : ∀ j, 929 ≤ j → j ≤ 931 → gy j = gx j := fun j a b => hG3 j (by omega) (by omega) (by omega)
  have hcp2 := (hG3 933 (by decide) (by decide) (by decide)).trans hc12
  have hW2 : JW cs ad gy (x + 1) im nz kz sl ho st op ai fa mu tb F2 r2 := JW.act hSL hPL hCL hPT hKep hEk hne hnt hz8 hS0 hXK0 hrf2 hG1 hRX2 hF2 hrw2 hcr2 hcp2 hPr hPT.1 (fun _ _ => rfl) hP9 (fun j a => hG2 j (by omega)) hG3b (falC_em hEm.1 hEm.2 (by omega))
  refine z_pop C dL_law_584 rfl ?_
  refine z_goto (tgt := 1348) C dL_law_585 (by decide) ?_
  refine z_lv (lv' := [(4, .int (zI (z))), (3, .ref (ad 951)), (2, .ref (ad 921)), (1, .ref (ad 0)), (0, .ref b)]) [0, 1, 2, 3, 4] rfl ?_
  refine z_widen (k2 := k + 16) (n2 := n + 2150) (show k + 0 + 0 ≤ k + 16 by omega) (show n + 0 + 0 ≤ n + 2150 by omega) ?_
  exact hK _ _ _ _ hN ⟨_, _, _, _, _, _, _, _, _, _, _, _, _, _, _, _, _, _, _, _, _, _, _, (hR1.o951 (fun j hj => hG2 j (by omega))), hM2, (hJ.keep ⟨hF2.1, hF2.2.1, hF2.2.2.1, hF2.2.2.2.2.2.1, hF2.2.2.2.2.2.2.1, hF2.2.2.2.2.2.2.2.1, hF2.2.2.2.2.2.2.2.2.1⟩), hW2⟩ ((hG2 951 (by omega)).trans hq1)

set_option maxRecDepth 100000 in
set_option maxHeartbeats 4000000 in
theorem law_c10 {p : Program} {l : Launch} {e : Env} {s : State} {m : MethodId} {below : List Frame} {meth : Method} {c : Code} {D : va_G} {A : Nat → Prop} {cs : Nat → ClassId} {tt : Nat} {b L : Nat} {xs : Nat → Int32} {N : Nat} {ad : Nat → Nat} {g : Nat → va_E} {k n : Nat} {x z : Int} {q : Nat → Int} {w1 w2 w3 w4 w5 : Int} (hl0 : l.stackTraces = false) (C : zC p s m #[Value.ref b] c cL_law 7 RL D A cs tt) (hr : meth.sig.returnType = ret) (hlk : meth.locks = false) (hA : ∀ q, A q → s.heap.size ≤ q) (hX : va_X b L xs s s.heap) (hbl : b < s.heap.size) (hbA : ¬ A b) (hL : L ≤ 3072) (hN : 952 ≤ N) (hJI : JI cs ad g N x) (hq : g 951 = jA cs 1 q) (hx : 0 ≤ x ∧ x ≤ 511) (hz : z = 6 * x) (hzL : z + 6 ≤ (L : Int)) (hk : k ≤ 590000) (hn : n ≤ 7000000) (hw1r : -2147483648 ≤ w1 ∧ w1 ≤ 2147483647) (hw1 : xs (z + 1).toNat = zI w1) (hw2r : -2147483648 ≤ w2 ∧ w2 ≤ 2147483647) (hw2 : xs (z + 2).toNat = zI w2) (hw3r : -2147483648 ≤ w3 ∧ w3 ≤ 2147483647) (hw3 : xs (z + 3).toNat = zI w3) (hw4r : -2147483648 ≤ w4 ∧ w4 ≤ 2147483647) (hw4 : xs (z + 4).toNat = zI w4) (hw5r : -2147483648 ≤ w5 ∧ w5 ≤ 2147483647) (hw5 : xs (z + 5).toNat = zI w5) (hK : ∀ (N' : Nat) (ad' : Nat → Nat) (g' : Nat → va_E) (q' : Nat → Int), 952 ≤ N' → JI cs ad' g' N' (x + 1) → g' 951 = jA cs 1 q' → zV p l e room_1 s m #[Value.ref b] below meth c (lw_Z below #[Value.ref b] s) D A 7 (N') ad' g' (k + 16) (n + 2150) 1348 [(4, .int (zI (z))), (3, .ref (ad' 951)), (2, .ref (ad' 921)), (1, .ref (ad' 0)), (0, .ref b)] []) : zV p l e room_1 s m #[Value.ref b] below meth c (lw_Z below #[Value.ref b] s) D A 7 (N) ad g (k) (n) 588 [(4, .int (zI (z))), (3, .ref (ad 951)), (2, .ref (ad 921)), (1, .ref (ad 0)), (0, .ref b)] [] := by
  have hay1 : zAt ad (0) (ad 0) := rfl
  have hay2 : zAt ad (921) (ad 921) := rfl
  have hay3 : zAt ad (951) (ad 951) := rfl
  obtain ⟨t, fp, im, nz, kz, sl, ho, st, op, ai, fa, mu, tb, tp, F, r, sR, oR, aR, fR, mR, bR, pR, hR, hM, hJ, hW⟩ := hJI
  obtain ⟨j23, j24, j21, j17, j20, j13, j14⟩ := id hJ.1
  obtain ⟨nsl, na, nak, H, Hk, W, Wk, P, Pk, ns, nh, nd, rr, pp, hSL, hPL, hCL, hPT, hNow, hKep, hEm, hEk⟩ := hW
  obtain ⟨hS, ⟨nu, nv, nw, rf, hXK, hne, hnt, hrf⟩, hz8, hRX, hPr, hP9⟩ := id hNow
  have hna := hS.2.1
  have hsl4 := hR.2.2.2.2.2.2.1
  have hho := hR.2.2.2.2.2.2.2.1
  have hPl := hPL.1
  refine z_aload_n C 3 dL_law_588 rfl ?_
  refine z_aload_n C 4 dL_law_589 rfl ?_
  refine z_iload C 0 dL_law_590 rfl ?_
  refine z_iconst (z := 1) C dL_law_592 rfl ?_
  refine z_iadd C dL_law_593 ?_
  refine z_sld C hX hbl hbA (z + 1).toNat (by omega) (by omega) (by omega) hw1 dL_law_594 ?_
  refine z_cV (As := [.int (zI (w1))]) (rest := []) (ci := 11) C (c_qDig l D A cs tt N ad _ hN _ _ _ _ _ _ _ _ _ _ _ _ _ _ _ hR na H W P nu nv nw rf hS hXK nsl hSL.1 hSL.2.1 x (by omega) hRX.1.2 w1 hw1r) (by omega) hay1 hR.1 rfl rfl mv_yX9_dig q_547 hd_yX9_dig (by decide) (Nat.le_of_ble_eq_true rfl) ⟨show k + 0 ≤ 601024 by omega, show n + 0 ≤ 7293034 by omega⟩ dL_law_595 rfl (kI0 fun rx gx hx9 => ?_)
  obtain ⟨hqx, hR1, ⟨hS0, rf1, hrfx, hXK0⟩, hG1⟩ := hx9
  have hHG : ∀ j, 921 ≤ j → gx j = g j := fun j a => hG1 j (by omega)
  have hM1 : okMr cs ad gx 921 x F r sR oR aR fR mR bR pR := hM.grow (fun _ _ _ => rfl) (fun j a b => hHG j a)
  have hq1 : gx 951 = jA cs 1 q := (hHG 951 (by decide)).trans hq
  have hc8 := (hHG 929 (by decide)).trans hCL.1
  have hc9 := (hHG 930 (by decide)).trans hCL.2.1
  have hc10 := (hHG 931 (by decide)).trans hCL.2.2.1
  have hc11 := (hHG 932 (by decide)).trans hCL.2.2.2.1
  have hc12 := (hHG 933 (by decide)).trans hCL.2.2.2.2
  have hfr : okFr F oR aR fR mR bR := okEnv.fr hM.env hPl (okTb.eq hSL.2.1.2.2.2.2.2 hJ.2.2.2.2.2)
  have hn13 : F 13 = (nsl : Int) := j13.trans hSL.1
  have hO9 : ∀ k, k < nsl → sR k = st k ∧ oR k = op k := fun k hk => by have h9 := hJ.2.2.2.2.1 k (by omega); exact ⟨h9.1.symm, h9.2.symm⟩
  have hT9 : ∀ k, k < 15 → bR k = tb k := fun k hk => (hJ.2.2.2.2.2 k hk).symm
  refine z_pop C dL_law_598 rfl ?_
  refine z_aload_n C 2 dL_law_599 rfl ?_
  refine z_aload_n C 4 dL_law_600 rfl ?_
  refine z_iload C 0 dL_law_601 rfl ?_
  refine z_iconst (z := 1) C dL_law_603 rfl ?_
  refine z_iadd C dL_law_604 ?_
  refine z_sld C hX hbl hbA (z + 1).toNat (by omega) (by omega) (by omega) hw1 dL_law_605 ?_
  refine z_cV (As := [.int (zI (w1))]) (rest := []) (ci := 12) C (c_vDig l D A cs tt N ad _ 921 (by omega) x (by omega) F r hM1 hfr nsl hn13 W na H hRX rr hc11 w1 hw1r) (by omega) hay2 hM1.1 rfl rfl mv_yX10_dig q_1952 hd_yX10_dig (by decide) (Nat.le_of_ble_eq_true rfl) ⟨show k + 0 + 0 ≤ 601024 by omega, show n + 0 + 0 ≤ 7293034 by omega⟩ dL_law_606 rfl (kI0 fun ry gy hy => ?_)
  obtain ⟨hqy, ⟨F2, r2, hM2, hF2, hRX2, hrw2⟩, ⟨rr2, hcr2, hrr2⟩, hG2, hG3⟩ := hy
  have e9 : ry = rx := hqy.trans hqx.symm
  have hrf2 := rf_act (n := 1) (by decide) hrf hrfx hrr2 e9
  have hG3b : ∀ j, 929 ≤ j → j ≤ 931 → gy j = gx j := fun j a b => hG3 j (by omega) (by omega) (by omega)
  have hcp2 := (hG3 933 (by decide) (by decide) (by decide)).trans hc12
  have hW2 : JW cs ad gy (x + 1) im nz kz sl ho st op ai fa mu tb F2 r2 := JW.act hSL hPL hCL hPT hKep hEk hne hnt hz8 hS0 hXK0 hrf2 hG1 hRX2 hF2 hrw2 hcr2 hcp2 hPr hPT.1 (fun _ _ => rfl) hP9 (fun j a => hG2 j (by omega)) hG3b (digA_em hEm.1 hEm.2 (by omega))
  refine z_pop C dL_law_609 rfl ?_
  refine z_goto (tgt := 1348) C dL_law_610 (by decide) ?_
  refine z_lv (lv' := [(4, .int (zI (z))), (3, .ref (ad 951)), (2, .ref (ad 921)), (1, .ref (ad 0)), (0, .ref b)]) [0, 1, 2, 3, 4] rfl ?_
  refine z_widen (k2 := k + 16) (n2 := n + 2150) (show k + 0 + 0 ≤ k + 16 by omega) (show n + 0 + 0 ≤ n + 2150 by omega) ?_
  exact hK _ _ _ _ hN ⟨_, _, _, _, _, _, _, _, _, _, _, _, _, _, _, _, _, _, _, _, _, _, _, (hR1.o951 (fun j hj => hG2 j (by omega))), hM2, (hJ.keep ⟨hF2.1, hF2.2.1, hF2.2.2.1, hF2.2.2.2.2.2.1, hF2.2.2.2.2.2.2.1, hF2.2.2.2.2.2.2.2.1, hF2.2.2.2.2.2.2.2.2.1⟩), hW2⟩ ((hG2 951 (by omega)).trans hq1)

set_option maxRecDepth 100000 in
set_option maxHeartbeats 4000000 in
theorem law_c11 {p : Program} {l : Launch} {e : Env} {s : State} {m : MethodId} {below : List Frame} {meth : Method} {c : Code} {D : va_G} {A : Nat → Prop} {cs : Nat → ClassId} {tt : Nat} {b L : Nat} {xs : Nat → Int32} {N : Nat} {ad : Nat → Nat} {g : Nat → va_E} {k n : Nat} {x z : Int} {q : Nat → Int} {w1 w2 w3 w4 w5 : Int} (hl0 : l.stackTraces = false) (C : zC p s m #[Value.ref b] c cL_law 7 RL D A cs tt) (hr : meth.sig.returnType = ret) (hlk : meth.locks = false) (hA : ∀ q, A q → s.heap.size ≤ q) (hX : va_X b L xs s s.heap) (hbl : b < s.heap.size) (hbA : ¬ A b) (hL : L ≤ 3072) (hN : 952 ≤ N) (hJI : JI cs ad g N x) (hq : g 951 = jA cs 1 q) (hx : 0 ≤ x ∧ x ≤ 511) (hz : z = 6 * x) (hzL : z + 6 ≤ (L : Int)) (hk : k ≤ 590000) (hn : n ≤ 7000000) (hw1r : -2147483648 ≤ w1 ∧ w1 ≤ 2147483647) (hw1 : xs (z + 1).toNat = zI w1) (hw2r : -2147483648 ≤ w2 ∧ w2 ≤ 2147483647) (hw2 : xs (z + 2).toNat = zI w2) (hw3r : -2147483648 ≤ w3 ∧ w3 ≤ 2147483647) (hw3 : xs (z + 3).toNat = zI w3) (hw4r : -2147483648 ≤ w4 ∧ w4 ≤ 2147483647) (hw4 : xs (z + 4).toNat = zI w4) (hw5r : -2147483648 ≤ w5 ∧ w5 ≤ 2147483647) (hw5 : xs (z + 5).toNat = zI w5) (hK : ∀ (N' : Nat) (ad' : Nat → Nat) (g' : Nat → va_E) (q' : Nat → Int), 952 ≤ N' → JI cs ad' g' N' (x + 1) → g' 951 = jA cs 1 q' → zV p l e room_1 s m #[Value.ref b] below meth c (lw_Z below #[Value.ref b] s) D A 7 (N') ad' g' (k + 16) (n + 2150) 1348 [(4, .int (zI (z))), (3, .ref (ad' 951)), (2, .ref (ad' 921)), (1, .ref (ad' 0)), (0, .ref b)] []) : zV p l e room_1 s m #[Value.ref b] below meth c (lw_Z below #[Value.ref b] s) D A 7 (N) ad g (k) (n) 613 [(4, .int (zI (z))), (3, .ref (ad 951)), (2, .ref (ad 921)), (1, .ref (ad 0)), (0, .ref b)] [] := by
  have hay1 : zAt ad (0) (ad 0) := rfl
  have hay2 : zAt ad (921) (ad 921) := rfl
  have hay3 : zAt ad (951) (ad 951) := rfl
  obtain ⟨t, fp, im, nz, kz, sl, ho, st, op, ai, fa, mu, tb, tp, F, r, sR, oR, aR, fR, mR, bR, pR, hR, hM, hJ, hW⟩ := hJI
  obtain ⟨j23, j24, j21, j17, j20, j13, j14⟩ := id hJ.1
  obtain ⟨nsl, na, nak, H, Hk, W, Wk, P, Pk, ns, nh, nd, rr, pp, hSL, hPL, hCL, hPT, hNow, hKep, hEm, hEk⟩ := hW
  obtain ⟨hS, ⟨nu, nv, nw, rf, hXK, hne, hnt, hrf⟩, hz8, hRX, hPr, hP9⟩ := id hNow
  have hna := hS.2.1
  have hsl4 := hR.2.2.2.2.2.2.1
  have hho := hR.2.2.2.2.2.2.2.1
  have hPl := hPL.1
  refine z_aload_n C 3 dL_law_613 rfl ?_
  refine z_aload_n C 4 dL_law_614 rfl ?_
  refine z_iload C 0 dL_law_615 rfl ?_
  refine z_iconst (z := 1) C dL_law_617 rfl ?_
  refine z_iadd C dL_law_618 ?_
  refine z_sld C hX hbl hbA (z + 1).toNat (by omega) (by omega) (by omega) hw1 dL_law_619 ?_
  refine z_cV (As := [.int (zI (w1))]) (rest := []) (ci := 11) C (c_qSlide l D A cs tt N ad _ hN _ _ _ _ _ _ _ _ _ _ _ _ _ _ _ hR na H W P nu nv nw rf hS hXK nsl hSL.1 hSL.2.1 x (by omega) hRX.1.2 hSL.2.2 w1 hw1r) (by omega) hay1 hR.1 rfl rfl mv_yX9_slide q_556 hd_yX9_slide (by decide) (Nat.le_of_ble_eq_true rfl) ⟨show k + 0 ≤ 601024 by omega, show n + 0 ≤ 7293034 by omega⟩ dL_law_620 rfl (kI0 fun rx gx hx9 => ?_)
  obtain ⟨W1, na1, H1, hqx, hR1, ⟨hS0, rf1, hrfx, hXK0⟩, hG1⟩ := hx9
  have hHG : ∀ j, 921 ≤ j → gx j = g j := fun j a => hG1 j (by omega)
  have hM1 : okMr cs ad gx 921 x F r sR oR aR fR mR bR pR := hM.grow (fun _ _ _ => rfl) (fun j a b => hHG j a)
  have hq1 : gx 951 = jA cs 1 q := (hHG 951 (by decide)).trans hq
  have hc8 := (hHG 929 (by decide)).trans hCL.1
  have hc9 := (hHG 930 (by decide)).trans hCL.2.1
  have hc10 := (hHG 931 (by decide)).trans hCL.2.2.1
  have hc11 := (hHG 932 (by decide)).trans hCL.2.2.2.1
  have hc12 := (hHG 933 (by decide)).trans hCL.2.2.2.2
  have hfr : okFr F oR aR fR mR bR := okEnv.fr hM.env hPl (okTb.eq hSL.2.1.2.2.2.2.2 hJ.2.2.2.2.2)
  have hn13 : F 13 = (nsl : Int) := j13.trans hSL.1
  have hO9 : ∀ k, k < nsl → sR k = st k ∧ oR k = op k := fun k hk => by have h9 := hJ.2.2.2.2.1 k (by omega); exact ⟨h9.1.symm, h9.2.symm⟩
  have hT9 : ∀ k, k < 15 → bR k = tb k := fun k hk => (hJ.2.2.2.2.2 k hk).symm
  have hs9 : ∀ k, k < nsl → 0 ≤ sR k ∧ sR k ≤ 90 := fun k hk => by have h9 := (hO9 k hk).1; have h8 := hSL.2.2 k (by omega); omega
  refine z_pop C dL_law_623 rfl ?_
  refine z_aload_n C 2 dL_law_624 rfl ?_
  refine z_aload_n C 4 dL_law_625 rfl ?_
  refine z_iload C 0 dL_law_626 rfl ?_
  refine z_iconst (z := 1) C dL_law_628 rfl ?_
  refine z_iadd C dL_law_629 ?_
  refine z_sld C hX hbl hbA (z + 1).toNat (by omega) (by omega) (by omega) hw1 dL_law_630 ?_
  refine z_cV (As := [.int (zI (w1))]) (rest := []) (ci := 12) C (c_vSlide l D A cs tt N ad _ 921 (by omega) x (by omega) F r hM1 hfr nsl hn13 W na H hRX rr hc11 hs9 w1 hw1r) (by omega) hay2 hM1.1 rfl rfl mv_yX10_slide q_1960 hd_yX10_slide (by decide) (Nat.le_of_ble_eq_true rfl) ⟨show k + 0 + 0 ≤ 601024 by omega, show n + 0 + 0 ≤ 7293034 by omega⟩ dL_law_631 rfl (kI0 fun ry gy hy => ?_)
  obtain ⟨⟨W2, na2, H2, hqy, F2, r2, hM2, hF2, hRX2, hrw2⟩, ⟨rr2, hcr2, hrr2⟩, hG2, hG3⟩ := hy
  obtain ⟨e9, rfl, rfl, rfl⟩ := sldA_j (by omega) hT9 (fun k hk => (hO9 k hk).1) hRX.1.2.1 hqx hqy
  have e9 : ry = rx := e9.symm
  have hrf2 := rf_act (n := 1) (by decide) hrf hrfx hrr2 e9
  have hG3b : ∀ j, 929 ≤ j → j ≤ 931 → gy j = gx j := fun j a b => hG3 j (by omega) (by omega) (by omega)
  have hcp2 := (hG3 933 (by decide) (by decide) (by decide)).trans hc12
  have hEm2 := sldA_em hqx hEm.1 hEm.2 (by omega)
  have hW2 : JW cs ad gy (x + 1) im nz kz sl ho st op ai fa mu tb F2 r2 := JW.act hSL hPL hCL hPT hKep hEk hne hnt hz8 hS0 hXK0 hrf2 hG1 hRX2 hF2 hrw2 hcr2 hcp2 hPr hPT.1 (fun _ _ => rfl) hP9 (fun j a => hG2 j (by omega)) hG3b hEm2
  refine z_pop C dL_law_634 rfl ?_
  refine z_goto (tgt := 1348) C dL_law_635 (by decide) ?_
  refine z_lv (lv' := [(4, .int (zI (z))), (3, .ref (ad 951)), (2, .ref (ad 921)), (1, .ref (ad 0)), (0, .ref b)]) [0, 1, 2, 3, 4] rfl ?_
  refine z_widen (k2 := k + 16) (n2 := n + 2150) (show k + 0 + 0 ≤ k + 16 by omega) (show n + 0 + 0 ≤ n + 2150 by omega) ?_
  exact hK _ _ _ _ hN ⟨_, _, _, _, _, _, _, _, _, _, _, _, _, _, _, _, _, _, _, _, _, _, _, (hR1.o951 (fun j hj => hG2 j (by omega))), hM2, (hJ.keep ⟨hF2.1, hF2.2.1, hF2.2.2.1, hF2.2.2.2.2.2.1, hF2.2.2.2.2.2.2.1, hF2.2.2.2.2.2.2.2.1, hF2.2.2.2.2.2.2.2.2.1⟩), hW2⟩ ((hG2 951 (by omega)).trans hq1)

set_option maxRecDepth 100000 in
set_option maxHeartbeats 4000000 in
theorem law_c12 {p : Program} {l : Launch} {e : Env} {s : State} {m : MethodId} {below : List Frame} {meth : Method} {c : Code} {D : va_G} {A : Nat → Prop} {cs : Nat → ClassId} {tt : Nat} {b L : Nat} {xs : Nat → Int32} {N : Nat} {ad : Nat → Nat} {g : Nat → va_E} {k n : Nat} {x z : Int} {q : Nat → Int} {w1 w2 w3 w4 w5 : Int} (hl0 : l.stackTraces = false) (C : zC p s m #[Value.ref b] c cL_law 7 RL D A cs tt) (hr : meth.sig.returnType = ret) (hlk : meth.locks = false) (hA : ∀ q, A q → s.heap.size ≤ q) (hX : va_X b L xs s s.heap) (hbl : b < s.heap.size) (hbA : ¬ A b) (hL : L ≤ 3072) (hN : 952 ≤ N) (hJI : JI cs ad g N x) (hq : g 951 = jA cs 1 q) (hx : 0 ≤ x ∧ x ≤ 511) (hz : z = 6 * x) (hzL : z + 6 ≤ (L : Int)) (hk : k ≤ 590000) (hn : n ≤ 7000000) (hw1r : -2147483648 ≤ w1 ∧ w1 ≤ 2147483647) (hw1 : xs (z + 1).toNat = zI w1) (hw2r : -2147483648 ≤ w2 ∧ w2 ≤ 2147483647) (hw2 : xs (z + 2).toNat = zI w2) (hw3r : -2147483648 ≤ w3 ∧ w3 ≤ 2147483647) (hw3 : xs (z + 3).toNat = zI w3) (hw4r : -2147483648 ≤ w4 ∧ w4 ≤ 2147483647) (hw4 : xs (z + 4).toNat = zI w4) (hw5r : -2147483648 ≤ w5 ∧ w5 ≤ 2147483647) (hw5 : xs (z + 5).toNat = zI w5) (hK : ∀ (N' : Nat) (ad' : Nat → Nat) (g' : Nat → va_E) (q' : Nat → Int), 952 ≤ N' → JI cs ad' g' N' (x + 1) → g' 951 = jA cs 1 q' → zV p l e room_1 s m #[Value.ref b] below meth c (lw_Z below #[Value.ref b] s) D A 7 (N') ad' g' (k + 16) (n + 2150) 1348 [(4, .int (zI (z))), (3, .ref (ad' 951)), (2, .ref (ad' 921)), (1, .ref (ad' 0)), (0, .ref b)] []) : zV p l e room_1 s m #[Value.ref b] below meth c (lw_Z below #[Value.ref b] s) D A 7 (N) ad g (k) (n) 638 [(4, .int (zI (z))), (3, .ref (ad 951)), (2, .ref (ad 921)), (1, .ref (ad 0)), (0, .ref b)] [] := by
  have hay1 : zAt ad (0) (ad 0) := rfl
  have hay2 : zAt ad (921) (ad 921) := rfl
  have hay3 : zAt ad (951) (ad 951) := rfl
  obtain ⟨t, fp, im, nz, kz, sl, ho, st, op, ai, fa, mu, tb, tp, F, r, sR, oR, aR, fR, mR, bR, pR, hR, hM, hJ, hW⟩ := hJI
  obtain ⟨j23, j24, j21, j17, j20, j13, j14⟩ := id hJ.1
  obtain ⟨nsl, na, nak, H, Hk, W, Wk, P, Pk, ns, nh, nd, rr, pp, hSL, hPL, hCL, hPT, hNow, hKep, hEm, hEk⟩ := hW
  obtain ⟨hS, ⟨nu, nv, nw, rf, hXK, hne, hnt, hrf⟩, hz8, hRX, hPr, hP9⟩ := id hNow
  have hna := hS.2.1
  have hsl4 := hR.2.2.2.2.2.2.1
  have hho := hR.2.2.2.2.2.2.2.1
  have hPl := hPL.1
  refine z_aload_n C 3 dL_law_638 rfl ?_
  refine z_aload_n C 4 dL_law_639 rfl ?_
  refine z_iload C 0 dL_law_640 rfl ?_
  refine z_iconst (z := 1) C dL_law_642 rfl ?_
  refine z_iadd C dL_law_643 ?_
  refine z_sld C hX hbl hbA (z + 1).toNat (by omega) (by omega) (by omega) hw1 dL_law_644 ?_
  refine z_cV (As := [.int (zI (w1))]) (rest := []) (ci := 11) C (c_qPit l D A cs tt N ad _ hN _ _ _ _ _ _ _ _ _ _ _ _ _ _ _ hR na H W P nu nv nw rf hS hXK nsl hSL.1 hSL.2.1 x (by omega) hRX.1.2 w1 hw1r) (by omega) hay1 hR.1 rfl rfl mv_yX9_pit q_598 hd_yX9_pit (by decide) (Nat.le_of_ble_eq_true rfl) ⟨show k + 0 ≤ 601024 by omega, show n + 0 ≤ 7293034 by omega⟩ dL_law_645 rfl (kI0 fun rx gx hx9 => ?_)
  obtain ⟨hqx, hR1, ⟨hS0, rf1, hrfx, hXK0⟩, hG1⟩ := hx9
  have hHG : ∀ j, 921 ≤ j → gx j = g j := fun j a => hG1 j (by omega)
  have hM1 : okMr cs ad gx 921 x F r sR oR aR fR mR bR pR := hM.grow (fun _ _ _ => rfl) (fun j a b => hHG j a)
  have hq1 : gx 951 = jA cs 1 q := (hHG 951 (by decide)).trans hq
  have hc8 := (hHG 929 (by decide)).trans hCL.1
  have hc9 := (hHG 930 (by decide)).trans hCL.2.1
  have hc10 := (hHG 931 (by decide)).trans hCL.2.2.1
  have hc11 := (hHG 932 (by decide)).trans hCL.2.2.2.1
  have hc12 := (hHG 933 (by decide)).trans hCL.2.2.2.2
  have hfr : okFr F oR aR fR mR bR := okEnv.fr hM.env hPl (okTb.eq hSL.2.1.2.2.2.2.2 hJ.2.2.2.2.2)
  have hn13 : F 13 = (nsl : Int) := j13.trans hSL.1
  have hO9 : ∀ k, k < nsl → sR k = st k ∧ oR k = op k := fun k hk => by have h9 := hJ.2.2.2.2.1 k (by omega); exact ⟨h9.1.symm, h9.2.symm⟩
  have hT9 : ∀ k, k < 15 → bR k = tb k := fun k hk => (hJ.2.2.2.2.2 k hk).symm
  refine z_pop C dL_law_648 rfl ?_
  refine z_aload_n C 2 dL_law_649 rfl ?_
  refine z_aload_n C 4 dL_law_650 rfl ?_
  refine z_iload C 0 dL_law_651 rfl ?_
  refine z_iconst (z := 1) C dL_law_653 rfl ?_
  refine z_iadd C dL_law_654 ?_
  refine z_sld C hX hbl hbA (z + 1).toNat (by omega) (by omega) (by omega) hw1 dL_law_655 ?_
  refine z_cV (As := [.int (zI (w1))]) (rest := []) (ci := 12) C (c_vPit l D A cs tt N ad _ 921 (by omega) x (by omega) F r hM1 hfr nsl hn13 W na H hRX rr hc11 P pp hc12 ⟨hPr, hPT.1⟩ w1 hw1r) (by omega) hay2 hM1.1 rfl rfl mv_yX10_pit q_1968 hd_yX10_pit (by decide) (Nat.le_of_ble_eq_true rfl) ⟨show k + 0 + 0 ≤ 601024 by omega, show n + 0 + 0 ≤ 7293034 by omega⟩ dL_law_656 rfl (kI0 fun ry gy hy => ?_)
  obtain ⟨hqy, ⟨F2, r2, hM2, hF2, hRX2, hrw2⟩, ⟨rr2, hcr2, hrr2⟩, ⟨pp2, hcp2, hPr2, hpt2, hpp2⟩, hG2, hG3⟩ := hy
  have e9 : ry = rx := hqy.trans hqx.symm
  have hrf2 := rf_act (n := 1) (by decide) hrf hrfx hrr2 e9
  have hG3b : ∀ j, 929 ≤ j → j ≤ 931 → gy j = gx j := fun j a b => hG3 j (by omega) (by omega)
  have hW2 : JW cs ad gy (x + 1) im nz kz sl ho st op ai fa mu tb F2 r2 := JW.act hSL hPL hCL hPT hKep hEk hne hnt hz8 hS0 hXK0 hrf2 hG1 hRX2 hF2 hrw2 hcr2 hcp2 hPr2 hpt2 hpp2 (pitA_9 (by omega) hRX.1.2.1.n12 hP9) (fun j a => hG2 j (by omega)) hG3b (pitA_em hEm.1 hEm.2 (by omega))
  refine z_pop C dL_law_659 rfl ?_
  refine z_goto (tgt := 1348) C dL_law_660 (by decide) ?_
  refine z_lv (lv' := [(4, .int (zI (z))), (3, .ref (ad 951)), (2, .ref (ad 921)), (1, .ref (ad 0)), (0, .ref b)]) [0, 1, 2, 3, 4] rfl ?_
  refine z_widen (k2 := k + 16) (n2 := n + 2150) (show k + 0 + 0 ≤ k + 16 by omega) (show n + 0 + 0 ≤ n + 2150 by omega) ?_
  exact hK _ _ _ _ hN ⟨_, _, _, _, _, _, _, _, _, _, _, _, _, _, _, _, _, _, _, _, _, _, _, (hR1.o951 (fun j hj => hG2 j (by omega))), hM2, (hJ.keep ⟨hF2.1, hF2.2.1, hF2.2.2.1, hF2.2.2.2.2.2.1, hF2.2.2.2.2.2.2.1, hF2.2.2.2.2.2.2.2.1, hF2.2.2.2.2.2.2.2.2.1⟩), hW2⟩ ((hG2 951 (by omega)).trans hq1)

set_option maxRecDepth 100000 in
set_option maxHeartbeats 4000000 in
theorem law_c13 {p : Program} {l : Launch} {e : Env} {s : State} {m : MethodId} {below : List Frame} {meth : Method} {c : Code} {D : va_G} {A : Nat → Prop} {cs : Nat → ClassId} {tt : Nat} {b L : Nat} {xs : Nat → Int32} {N : Nat} {ad : Nat → Nat} {g : Nat → va_E} {k n : Nat} {x z : Int} {q : Nat → Int} {w1 w2 w3 w4 w5 : Int} (hl0 : l.stackTraces = false) (C : zC p s m #[Value.ref b] c cL_law 7 RL D A cs tt) (hr : meth.sig.returnType = ret) (hlk : meth.locks = false) (hA : ∀ q, A q → s.heap.size ≤ q) (hX : va_X b L xs s s.heap) (hbl : b < s.heap.size) (hbA : ¬ A b) (hL : L ≤ 3072) (hN : 952 ≤ N) (hJI : JI cs ad g N x) (hq : g 951 = jA cs 1 q) (hx : 0 ≤ x ∧ x ≤ 511) (hz : z = 6 * x) (hzL : z + 6 ≤ (L : Int)) (hk : k ≤ 590000) (hn : n ≤ 7000000) (hw1r : -2147483648 ≤ w1 ∧ w1 ≤ 2147483647) (hw1 : xs (z + 1).toNat = zI w1) (hw2r : -2147483648 ≤ w2 ∧ w2 ≤ 2147483647) (hw2 : xs (z + 2).toNat = zI w2) (hw3r : -2147483648 ≤ w3 ∧ w3 ≤ 2147483647) (hw3 : xs (z + 3).toNat = zI w3) (hw4r : -2147483648 ≤ w4 ∧ w4 ≤ 2147483647) (hw4 : xs (z + 4).toNat = zI w4) (hw5r : -2147483648 ≤ w5 ∧ w5 ≤ 2147483647) (hw5 : xs (z + 5).toNat = zI w5) (hK : ∀ (N' : Nat) (ad' : Nat → Nat) (g' : Nat → va_E) (q' : Nat → Int), 952 ≤ N' → JI cs ad' g' N' (x + 1) → g' 951 = jA cs 1 q' → zV p l e room_1 s m #[Value.ref b] below meth c (lw_Z below #[Value.ref b] s) D A 7 (N') ad' g' (k + 16) (n + 2150) 1348 [(4, .int (zI (z))), (3, .ref (ad' 951)), (2, .ref (ad' 921)), (1, .ref (ad' 0)), (0, .ref b)] []) : zV p l e room_1 s m #[Value.ref b] below meth c (lw_Z below #[Value.ref b] s) D A 7 (N) ad g (k) (n) 663 [(4, .int (zI (z))), (3, .ref (ad 951)), (2, .ref (ad 921)), (1, .ref (ad 0)), (0, .ref b)] [] := by
  have hay1 : zAt ad (0) (ad 0) := rfl
  have hay2 : zAt ad (921) (ad 921) := rfl
  have hay3 : zAt ad (951) (ad 951) := rfl
  obtain ⟨t, fp, im, nz, kz, sl, ho, st, op, ai, fa, mu, tb, tp, F, r, sR, oR, aR, fR, mR, bR, pR, hR, hM, hJ, hW⟩ := hJI
  obtain ⟨j23, j24, j21, j17, j20, j13, j14⟩ := id hJ.1
  obtain ⟨nsl, na, nak, H, Hk, W, Wk, P, Pk, ns, nh, nd, rr, pp, hSL, hPL, hCL, hPT, hNow, hKep, hEm, hEk⟩ := hW
  obtain ⟨hS, ⟨nu, nv, nw, rf, hXK, hne, hnt, hrf⟩, hz8, hRX, hPr, hP9⟩ := id hNow
  have hna := hS.2.1
  have hsl4 := hR.2.2.2.2.2.2.1
  have hho := hR.2.2.2.2.2.2.2.1
  have hPl := hPL.1
  refine z_aload_n C 3 dL_law_663 rfl ?_
  refine z_cV (As := []) (rest := []) (ci := 11) C (c_qUndo l D A cs tt N ad _ hN _ _ _ _ _ _ _ _ _ _ _ _ _ _ _ hR na H W P nu nv nw rf hS hXK nsl hSL.1 hSL.2.1 x (by omega) hRX.1.2 ) (by omega) hay1 hR.1 rfl rfl mv_yX9_undo q_607 hd_yX9_undo (by decide) (Nat.le_of_ble_eq_true rfl) ⟨show k + 0 ≤ 601024 by omega, show n + 0 ≤ 7293034 by omega⟩ dL_law_664 rfl (kI0 fun rx gx hx9 => ?_)
  obtain ⟨hqx, hR1, ⟨hS0, rf1, hrfx, hXK0⟩, hG1⟩ := hx9
  have hHG : ∀ j, 921 ≤ j → gx j = g j := fun j a => hG1 j (by omega)
  have hM1 : okMr cs ad gx 921 x F r sR oR aR fR mR bR pR := hM.grow (fun _ _ _ => rfl) (fun j a b => hHG j a)
  have hq1 : gx 951 = jA cs 1 q := (hHG 951 (by decide)).trans hq
  have hc8 := (hHG 929 (by decide)).trans hCL.1
  have hc9 := (hHG 930 (by decide)).trans hCL.2.1
  have hc10 := (hHG 931 (by decide)).trans hCL.2.2.1
  have hc11 := (hHG 932 (by decide)).trans hCL.2.2.2.1
  have hc12 := (hHG 933 (by decide)).trans hCL.2.2.2.2
  have hfr : okFr F oR aR fR mR bR := okEnv.fr hM.env hPl (okTb.eq hSL.2.1.2.2.2.2.2 hJ.2.2.2.2.2)
  have hn13 : F 13 = (nsl : Int) := j13.trans hSL.1
  have hO9 : ∀ k, k < nsl → sR k = st k ∧ oR k = op k := fun k hk => by have h9 := hJ.2.2.2.2.1 k (by omega); exact ⟨h9.1.symm, h9.2.symm⟩
  have hT9 : ∀ k, k < 15 → bR k = tb k := fun k hk => (hJ.2.2.2.2.2 k hk).symm
  refine z_pop C dL_law_667 rfl ?_
  refine z_aload_n C 2 dL_law_668 rfl ?_
  refine z_cV (As := []) (rest := []) (ci := 12) C (c_vUndo l D A cs tt N ad _ 921 (by omega) x (by omega) F r hM1 hfr nsl hn13 W na H hRX rr hc11 ) (by omega) hay2 hM1.1 rfl rfl mv_yX10_undo q_1972 hd_yX10_undo (by decide) (Nat.le_of_ble_eq_true rfl) ⟨show k + 0 + 0 ≤ 601024 by omega, show n + 0 + 0 ≤ 7293034 by omega⟩ dL_law_669 rfl (kI0 fun ry gy hy => ?_)
  obtain ⟨hqy, ⟨F2, r2, hM2, hF2, hRX2, hrw2⟩, ⟨rr2, hcr2, hrr2⟩, hG2, hG3⟩ := hy
  have e9 : ry = rx := hqy.trans hqx.symm
  have hrf2 : (∀ k, k < 3 → rf1 k = rr2 k) ∧ ∀ k, k < 3 → rr2 (3 + k) = rr (3 + k) := ⟨fun k hk => by rw [hrfx, hrr2]; exact hrf k hk, fun k _ => by rw [hrr2]⟩
  have hG3b : ∀ j, 929 ≤ j → j ≤ 931 → gy j = gx j := fun j a b => hG3 j (by omega) (by omega) (by omega)
  have hcp2 := (hG3 933 (by decide) (by decide) (by decide)).trans hc12
  have hW2 : JW cs ad gy (x + 1) im nz kz sl ho st op ai fa mu tb F2 r2 := JW.act hSL hPL hCL hPT hKep hEk hne hnt hz8 hS0 hXK0 hrf2 hG1 hRX2 hF2 hrw2 hcr2 hcp2 hPr hPT.1 (fun _ _ => rfl) hP9 (fun j a => hG2 j (by omega)) hG3b (undA_em hEm.1 hEm.2)
  refine z_pop C dL_law_672 rfl ?_
  refine z_goto (tgt := 1348) C dL_law_673 (by decide) ?_
  refine z_lv (lv' := [(4, .int (zI (z))), (3, .ref (ad 951)), (2, .ref (ad 921)), (1, .ref (ad 0)), (0, .ref b)]) [0, 1, 2, 3, 4] rfl ?_
  refine z_widen (k2 := k + 16) (n2 := n + 2150) (show k + 0 + 0 ≤ k + 16 by omega) (show n + 0 + 0 ≤ n + 2150 by omega) ?_
  exact hK _ _ _ _ hN ⟨_, _, _, _, _, _, _, _, _, _, _, _, _, _, _, _, _, _, _, _, _, _, _, (hR1.o951 (fun j hj => hG2 j (by omega))), hM2, (hJ.keep ⟨hF2.1, hF2.2.1, hF2.2.2.1, hF2.2.2.2.2.2.1, hF2.2.2.2.2.2.2.1, hF2.2.2.2.2.2.2.2.1, hF2.2.2.2.2.2.2.2.2.1⟩), hW2⟩ ((hG2 951 (by omega)).trans hq1)

set_option maxRecDepth 100000 in
set_option maxHeartbeats 4000000 in
theorem law_c25 {p : Program} {l : Launch} {e : Env} {s : State} {m : MethodId} {below : List Frame} {meth : Method} {c : Code} {D : va_G} {A : Nat → Prop} {cs : Nat → ClassId} {tt : Nat} {b L : Nat} {xs : Nat → Int32} {N : Nat} {ad : Nat → Nat} {g : Nat → va_E} {k n : Nat} {x z : Int} {q : Nat → Int} {w1 w2 w3 w4 w5 : Int} (hl0 : l.stackTraces = false) (C : zC p s m #[Value.ref b] c cL_law 7 RL D A cs tt) (hr : meth.sig.returnType = ret) (hlk : meth.locks = false) (hA : ∀ q, A q → s.heap.size ≤ q) (hX : va_X b L xs s s.heap) (hbl : b < s.heap.size) (hbA : ¬ A b) (hL : L ≤ 3072) (hN : 952 ≤ N) (hJI : JI cs ad g N x) (hq : g 951 = jA cs 1 q) (hx : 0 ≤ x ∧ x ≤ 511) (hz : z = 6 * x) (hzL : z + 6 ≤ (L : Int)) (hk : k ≤ 590000) (hn : n ≤ 7000000) (hw1r : -2147483648 ≤ w1 ∧ w1 ≤ 2147483647) (hw1 : xs (z + 1).toNat = zI w1) (hw2r : -2147483648 ≤ w2 ∧ w2 ≤ 2147483647) (hw2 : xs (z + 2).toNat = zI w2) (hw3r : -2147483648 ≤ w3 ∧ w3 ≤ 2147483647) (hw3 : xs (z + 3).toNat = zI w3) (hw4r : -2147483648 ≤ w4 ∧ w4 ≤ 2147483647) (hw4 : xs (z + 4).toNat = zI w4) (hw5r : -2147483648 ≤ w5 ∧ w5 ≤ 2147483647) (hw5 : xs (z + 5).toNat = zI w5) (hK : ∀ (N' : Nat) (ad' : Nat → Nat) (g' : Nat → va_E) (q' : Nat → Int), 952 ≤ N' → JI cs ad' g' N' (x + 1) → g' 951 = jA cs 1 q' → zV p l e room_1 s m #[Value.ref b] below meth c (lw_Z below #[Value.ref b] s) D A 7 (N') ad' g' (k + 16) (n + 2150) 1348 [(4, .int (zI (z))), (3, .ref (ad' 951)), (2, .ref (ad' 921)), (1, .ref (ad' 0)), (0, .ref b)] []) : zV p l e room_1 s m #[Value.ref b] below meth c (lw_Z below #[Value.ref b] s) D A 7 (N) ad g (k) (n) 1104 [(4, .int (zI (z))), (3, .ref (ad 951)), (2, .ref (ad 921)), (1, .ref (ad 0)), (0, .ref b)] [] := by
  have hay1 : zAt ad (0) (ad 0) := rfl
  have hay2 : zAt ad (921) (ad 921) := rfl
  have hay3 : zAt ad (951) (ad 951) := rfl
  obtain ⟨t, fp, im, nz, kz, sl, ho, st, op, ai, fa, mu, tb, tp, F, r, sR, oR, aR, fR, mR, bR, pR, hR, hM, hJ, hW⟩ := hJI
  obtain ⟨j23, j24, j21, j17, j20, j13, j14⟩ := id hJ.1
  obtain ⟨nsl, na, nak, H, Hk, W, Wk, P, Pk, ns, nh, nd, rr, pp, hSL, hPL, hCL, hPT, hNow, hKep, hEm, hEk⟩ := hW
  obtain ⟨hS, ⟨nu, nv, nw, rf, hXK, hne, hnt, hrf⟩, hz8, hRX, hPr, hP9⟩ := id hNow
  have hna := hS.2.1
  have hsl4 := hR.2.2.2.2.2.2.1
  have hho := hR.2.2.2.2.2.2.2.1
  have hPl := hPL.1
  refine z_aload_n C 3 dL_law_1104 rfl ?_
  refine z_aload_n C 4 dL_law_1105 rfl ?_
  refine z_iload C 0 dL_law_1106 rfl ?_
  refine z_iconst (z := 1) C dL_law_1108 rfl ?_
  refine z_iadd C dL_law_1109 ?_
  refine z_sld C hX hbl hbA (z + 1).toNat (by omega) (by omega) (by omega) hw1 dL_law_1110 ?_
  refine z_aload_n C 4 dL_law_1111 rfl ?_
  refine z_iload C 0 dL_law_1112 rfl ?_
  refine z_iconst (z := 2) C dL_law_1114 rfl ?_
  refine z_iadd C dL_law_1115 ?_
  refine z_sld C hX hbl hbA (z + 2).toNat (by omega) (by omega) (by omega) hw2 dL_law_1116 ?_
  refine z_aload_n C 4 dL_law_1117 rfl ?_
  refine z_iload C 0 dL_law_1118 rfl ?_
  refine z_iconst (z := 3) C dL_law_1120 rfl ?_
  refine z_iadd C dL_law_1121 ?_
  refine z_sld C hX hbl hbA (z + 3).toNat (by omega) (by omega) (by omega) hw3 dL_law_1122 ?_
  refine z_cV (As := [.int (zI (w1)), .int (zI (w2)), .int (zI (w3))]) (rest := []) (ci := 11) C (c_qNote l D A cs tt N ad _ hN _ _ _ _ _ _ _ _ _ _ _ _ _ _ _ hR na H W P nu nv nw rf hS hXK hz8 hnt w1 hw1r w2 hw2r w3 hw3r) (by omega) hay1 hR.1 rfl rfl mv_yX9_note q_615 hd_yX9_note (by decide) (Nat.le_of_ble_eq_true rfl) ⟨show k + 0 ≤ 601024 by omega, show n + 0 ≤ 7293034 by omega⟩ dL_law_1123 rfl (kI0 fun rx gx hx9 => ?_)
  obtain ⟨hx8, hG1⟩ := hx9
  have hHG : ∀ j, 921 ≤ j → gx j = g j := fun j a => hG1 j (by omega)
  have hM1 : okMr cs ad gx 921 x F r sR oR aR fR mR bR pR := hM.grow (fun _ _ _ => rfl) (fun j a b => hHG j a)
  have hq1 : gx 951 = jA cs 1 q := (hHG 951 (by decide)).trans hq
  have hc8 := (hHG 929 (by decide)).trans hCL.1
  have hc9 := (hHG 930 (by decide)).trans hCL.2.1
  have hc10 := (hHG 931 (by decide)).trans hCL.2.2.1
  have hc11 := (hHG 932 (by decide)).trans hCL.2.2.2.1
  have hc12 := (hHG 933 (by decide)).trans hCL.2.2.2.2
  refine z_pop C dL_law_1126 rfl ?_
  refine z_aload_n C 2 dL_law_1127 rfl ?_
  refine z_aload_n C 4 dL_law_1128 rfl ?_
  refine z_iload C 0 dL_law_1129 rfl ?_
  refine z_iconst (z := 1) C dL_law_1131 rfl ?_
  refine z_iadd C dL_law_1132 ?_
  refine z_sld C hX hbl hbA (z + 1).toNat (by omega) (by omega) (by omega) hw1 dL_law_1133 ?_
  refine z_aload_n C 4 dL_law_1134 rfl ?_
  refine z_iload C 0 dL_law_1135 rfl ?_
  refine z_iconst (z := 2) C dL_law_1137 rfl ?_
  refine z_iadd C dL_law_1138 ?_
  refine z_sld C hX hbl hbA (z + 2).toNat (by omega) (by omega) (by omega) hw2 dL_law_1139 ?_
  refine z_aload_n C 4 dL_law_1140 rfl ?_
  refine z_iload C 0 dL_law_1141 rfl ?_
  refine z_iconst (z := 3) C dL_law_1143 rfl ?_
  refine z_iadd C dL_law_1144 ?_
  refine z_sld C hX hbl hbA (z + 3).toNat (by omega) (by omega) (by omega) hw3 dL_law_1145 ?_
  refine z_cV (As := [.int (zI (w1)), .int (zI (w2)), .int (zI (w3))]) (rest := []) (ci := 12) C (c_vNote l D A cs tt N ad _ 921 (by omega) x (by omega) F r hM1 hPl ns nh nd rr hc8 hc9 hc10 hc11 hPT.2 w1 hw1r w2 hw2r w3 hw3r) (by omega) hay2 hM1.1 rfl rfl mv_yX10_note q_2063 hd_yX10_note (by decide) (Nat.le_of_ble_eq_true rfl) ⟨show k + 0 + 0 ≤ 601024 by omega, show n + 0 + 0 ≤ 7293034 by omega⟩ dL_law_1146 rfl (kI0 fun ry gy hy => ?_)
  obtain ⟨⟨F2, r2, hM2, hF2, hP2, hw2, hq2⟩, ⟨a8, a9, a10, a11, hca, hcb⟩, hG2, hG12⟩ := hy
  rcases hx8 with ⟨hc, hqx, hR1, hS0, hXK0⟩ | ⟨hc, hqx, hR1, hS0, hXK0⟩
  · obtain ⟨hc2, hqy, h17⟩ := hq2.resolve_right (fun h9 => h9.1 ⟨by omega, by omega, by omega, by omega⟩)
    obtain ⟨-, e8, e9a, e10, e11⟩ := hcb.resolve_right (fun h9 => h9.1 hc2)
    have hW2 : JW cs ad gy (x + 1) im (nz + 1) kz sl ho st op ai fa mu tb F2 r2 := JW.notes (ns' := a8) (nh' := a9) (nd' := a10) (rr' := a11) hSL hPL hCL hPT hKep hEm hEk hRX hPr hP9 (fun k hk => by rw [e8, e9a, e10, j17]; exact ⟨uZ_q9 (hne k hk).1, uZ_q9 (hne k hk).2.1, uZ_q9 (hne k hk).2.2⟩) (nt_put hnt (by omega) (by omega)) (by omega) hS0 hXK0 (fun k hk => by rw [e11]; exact hrf k hk) (fun k _ => by rw [e11]) (fun k hk => by rw [e8, e9a, e10]; exact ⟨uZ_n _ _ (by omega), uZ_n _ _ (by omega), uZ_n _ _ (by omega)⟩) (by rw [e8]; exact uZ_any hPT.2 (by omega)) hca (hG12.trans (hHG 933 (by decide))) (fun j a b => hG1 j (by omega)) (fun j a => hG2 j (by omega)) ⟨hF2.2.2.1, hF2.2.2.2.1, hF2.2.2.2.2.2.1, hF2.2.2.2.2.2.2.1, hF2.2.2.2.2.2.2.2.1⟩ hP2 hw2
    refine z_pop C dL_law_1149 rfl ?_
    refine z_goto (tgt := 1348) C dL_law_1150 (by decide) ?_
    refine z_lv (lv' := [(4, .int (zI (z))), (3, .ref (ad 951)), (2, .ref (ad 921)), (1, .ref (ad 0)), (0, .ref b)]) [0, 1, 2, 3, 4] rfl ?_
    refine z_widen (k2 := k + 16) (n2 := n + 2150) (show k + 0 + 0 ≤ k + 16 by omega) (show n + 0 + 0 ≤ n + 2150 by omega) ?_
    exact hK _ _ _ _ hN ⟨_, _, _, _, _, _, _, _, _, _, _, _, _, _, _, _, _, _, _, _, _, _, _, (hR1.o951 (fun j hj => hG2 j (by omega))), hM2, (hJ.notes (nz' := nz + 1) ⟨hF2.1, hF2.2.1, rfl, hF2.2.2.2.2.2.2.2.1, hF2.2.2.2.2.2.2.2.2.1, hF2.2.2.2.2.2.2.2.2.2.1, hF2.2.2.2.2.2.2.2.2.2.2⟩ (by omega)), hW2⟩ ((hG2 951 (by omega)).trans hq1)
  · obtain ⟨hc2, hqy, h17⟩ := hq2.resolve_left (fun h9 => hc ⟨by omega, by omega, by omega, by omega⟩)
    obtain ⟨-, e8, e9a, e10, e11⟩ := hcb.resolve_left (fun h9 => hc2 h9.1)
    have hW2 : JW cs ad gy (x + 1) im (nz) kz sl ho st op ai fa mu tb F2 r2 := JW.notes (ns' := a8) (nh' := a9) (nd' := a10) (rr' := a11) hSL hPL hCL hPT hKep hEm hEk hRX hPr hP9 (fun k hk => by rw [e8, e9a, e10]; exact hne k hk) (hnt) (by omega) hS0 hXK0 (fun k hk => by rw [e11, hrf 2 (by decide)]; exact uZ_q9 (hrf k hk)) (fun k _ => by rw [e11]; exact uZ_n _ _ (by omega)) (fun k hk => by rw [e8, e9a, e10]; exact ⟨rfl, rfl, rfl⟩) (by rw [e8]; exact hPT.2) hca (hG12.trans (hHG 933 (by decide))) (fun j a b => hG1 j (by omega)) (fun j a => hG2 j (by omega)) ⟨hF2.2.2.1, hF2.2.2.2.1, hF2.2.2.2.2.2.1, hF2.2.2.2.2.2.2.1, hF2.2.2.2.2.2.2.2.1⟩ hP2 hw2
    refine z_pop C dL_law_1149 rfl ?_
    refine z_goto (tgt := 1348) C dL_law_1150 (by decide) ?_
    refine z_lv (lv' := [(4, .int (zI (z))), (3, .ref (ad 951)), (2, .ref (ad 921)), (1, .ref (ad 0)), (0, .ref b)]) [0, 1, 2, 3, 4] rfl ?_
    refine z_widen (k2 := k + 16) (n2 := n + 2150) (show k + 0 + 0 ≤ k + 16 by omega) (show n + 0 + 0 ≤ n + 2150 by omega) ?_
    exact hK _ _ _ _ hN ⟨_, _, _, _, _, _, _, _, _, _, _, _, _, _, _, _, _, _, _, _, _, _, _, (hR1.o951 (fun j hj => hG2 j (by omega))), hM2, (hJ.notes (nz' := nz) ⟨hF2.1, hF2.2.1, rfl, hF2.2.2.2.2.2.2.2.1, hF2.2.2.2.2.2.2.2.2.1, hF2.2.2.2.2.2.2.2.2.2.1, hF2.2.2.2.2.2.2.2.2.2.2⟩ (by omega)), hW2⟩ ((hG2 951 (by omega)).trans hq1)

set_option maxRecDepth 100000 in
set_option maxHeartbeats 4000000 in
theorem law_c28 {p : Program} {l : Launch} {e : Env} {s : State} {m : MethodId} {below : List Frame} {meth : Method} {c : Code} {D : va_G} {A : Nat → Prop} {cs : Nat → ClassId} {tt : Nat} {b L : Nat} {xs : Nat → Int32} {N : Nat} {ad : Nat → Nat} {g : Nat → va_E} {k n : Nat} {x z : Int} {q : Nat → Int} {w1 w2 w3 w4 w5 : Int} (hl0 : l.stackTraces = false) (C : zC p s m #[Value.ref b] c cL_law 7 RL D A cs tt) (hr : meth.sig.returnType = ret) (hlk : meth.locks = false) (hA : ∀ q, A q → s.heap.size ≤ q) (hX : va_X b L xs s s.heap) (hbl : b < s.heap.size) (hbA : ¬ A b) (hL : L ≤ 3072) (hN : 952 ≤ N) (hJI : JI cs ad g N x) (hq : g 951 = jA cs 1 q) (hx : 0 ≤ x ∧ x ≤ 511) (hz : z = 6 * x) (hzL : z + 6 ≤ (L : Int)) (hk : k ≤ 590000) (hn : n ≤ 7000000) (hw1r : -2147483648 ≤ w1 ∧ w1 ≤ 2147483647) (hw1 : xs (z + 1).toNat = zI w1) (hw2r : -2147483648 ≤ w2 ∧ w2 ≤ 2147483647) (hw2 : xs (z + 2).toNat = zI w2) (hw3r : -2147483648 ≤ w3 ∧ w3 ≤ 2147483647) (hw3 : xs (z + 3).toNat = zI w3) (hw4r : -2147483648 ≤ w4 ∧ w4 ≤ 2147483647) (hw4 : xs (z + 4).toNat = zI w4) (hw5r : -2147483648 ≤ w5 ∧ w5 ≤ 2147483647) (hw5 : xs (z + 5).toNat = zI w5) (hK : ∀ (N' : Nat) (ad' : Nat → Nat) (g' : Nat → va_E) (q' : Nat → Int), 952 ≤ N' → JI cs ad' g' N' (x + 1) → g' 951 = jA cs 1 q' → zV p l e room_1 s m #[Value.ref b] below meth c (lw_Z below #[Value.ref b] s) D A 7 (N') ad' g' (k + 16) (n + 2150) 1348 [(4, .int (zI (z))), (3, .ref (ad' 951)), (2, .ref (ad' 921)), (1, .ref (ad' 0)), (0, .ref b)] []) : zV p l e room_1 s m #[Value.ref b] below meth c (lw_Z below #[Value.ref b] s) D A 7 (N) ad g (k) (n) 1209 [(4, .int (zI (z))), (3, .ref (ad 951)), (2, .ref (ad 921)), (1, .ref (ad 0)), (0, .ref b)] [] := by
  have hay1 : zAt ad (0) (ad 0) := rfl
  have hay2 : zAt ad (921) (ad 921) := rfl
  have hay3 : zAt ad (951) (ad 951) := rfl
  obtain ⟨t, fp, im, nz, kz, sl, ho, st, op, ai, fa, mu, tb, tp, F, r, sR, oR, aR, fR, mR, bR, pR, hR, hM, hJ, hW⟩ := hJI
  obtain ⟨j23, j24, j21, j17, j20, j13, j14⟩ := id hJ.1
  obtain ⟨nsl, na, nak, H, Hk, W, Wk, P, Pk, ns, nh, nd, rr, pp, hSL, hPL, hCL, hPT, hNow, hKep, hEm, hEk⟩ := hW
  obtain ⟨hS, ⟨nu, nv, nw, rf, hXK, hne, hnt, hrf⟩, hz8, hRX, hPr, hP9⟩ := id hNow
  have hna := hS.2.1
  have hsl4 := hR.2.2.2.2.2.2.1
  have hho := hR.2.2.2.2.2.2.2.1
  have hPl := hPL.1
  refine z_aload_n C 3 dL_law_1209 rfl ?_
  refine z_cV (As := []) (rest := []) (ci := 11) C (c_qForget0 l D A cs tt N ad _ hN _ _ _ _ _ _ _ _ _ _ _ _ _ _ _ hR na H W P nu nv nw rf hS hXK hz8 hnt) (by omega) hay1 hR.1 rfl rfl mv_yX9_forget q_623 hd_yX9_forget (by decide) (Nat.le_of_ble_eq_true rfl) ⟨show k + 0 ≤ 601024 by omega, show n + 0 ≤ 7293034 by omega⟩ dL_law_1210 rfl (kV0 fun gx hx9 => ?_)
  obtain ⟨hR1, ⟨hS0, hXK0⟩, hG1⟩ := hx9
  have hHG : ∀ j, 921 ≤ j → gx j = g j := fun j a => hG1 j (by omega)
  have hM1 : okMr cs ad gx 921 x F r sR oR aR fR mR bR pR := hM.grow (fun _ _ _ => rfl) (fun j a b => hHG j a)
  have hq1 : gx 951 = jA cs 1 q := (hHG 951 (by decide)).trans hq
  have hc8 := (hHG 929 (by decide)).trans hCL.1
  have hc9 := (hHG 930 (by decide)).trans hCL.2.1
  have hc10 := (hHG 931 (by decide)).trans hCL.2.2.1
  have hc11 := (hHG 932 (by decide)).trans hCL.2.2.2.1
  have hc12 := (hHG 933 (by decide)).trans hCL.2.2.2.2
  refine z_aload_n C 2 dL_law_1213 rfl ?_
  refine z_cV (As := []) (rest := []) (ci := 12) C (c_X10_forget l D A cs tt N ad _ 921 (by omega) x (by omega) F r hM1 hPl ) (by omega) hay2 hM1.1 rfl rfl mv_yX10_forget q_2087 hd_yX10_forget (by decide) (Nat.le_of_ble_eq_true rfl) ⟨show k + 0 + 0 ≤ 601024 by omega, show n + 0 + 0 ≤ 7293034 by omega⟩ dL_law_1214 rfl (kV0 fun gy hy => ?_)
  obtain ⟨⟨F2, r2, hM2, hF2, hP2, hw2⟩, hG2⟩ := hy
  have hW2 : JW cs ad gy (x + 1) im 0 kz sl ho st op ai fa mu tb F2 r2 := JW.notes (ns' := ns) (nh' := nh) (nd' := nd) (rr' := rr) hSL hPL hCL hPT hKep hEm hEk hRX hPr hP9 hne hnt (by decide) hS0 hXK0 hrf (fun _ _ => rfl) (fun _ _ => ⟨rfl, rfl, rfl⟩) hPT.2 ⟨(hG2 929 (by decide)).trans hc8, (hG2 930 (by decide)).trans hc9, (hG2 931 (by decide)).trans hc10, (hG2 932 (by decide)).trans hc11⟩ ((hG2 933 (by decide)).trans (hHG 933 (by decide))) (fun j a b => hG1 j (by omega)) (fun j a => hG2 j (by omega)) ⟨hF2.2.2.1, hF2.2.2.2.1, hF2.2.2.2.2.2.1, hF2.2.2.2.2.2.2.1, hF2.2.2.2.2.2.2.2.1⟩ hP2 hw2
  refine z_goto (tgt := 1348) C dL_law_1217 (by decide) ?_
  refine z_lv (lv' := [(4, .int (zI (z))), (3, .ref (ad 951)), (2, .ref (ad 921)), (1, .ref (ad 0)), (0, .ref b)]) [0, 1, 2, 3, 4] rfl ?_
  refine z_widen (k2 := k + 16) (n2 := n + 2150) (show k + 0 + 0 ≤ k + 16 by omega) (show n + 0 + 0 ≤ n + 2150 by omega) ?_
  exact hK _ _ _ _ hN ⟨_, _, _, _, _, _, _, _, _, _, _, _, _, _, _, _, _, _, _, _, _, _, _, (hR1.o951 (fun j hj => hG2 j (by omega))), hM2, (hJ.notes (nz' := 0) ⟨hF2.1, hF2.2.1, rfl, hF2.2.2.2.2.2.2.2.1, hF2.2.2.2.2.2.2.2.2.1, hF2.2.2.2.2.2.2.2.2.2.1, hF2.2.2.2.2.2.2.2.2.2.2⟩ hF2.2.2.2.2.1), hW2⟩ ((hG2 951 (by omega)).trans hq1)

set_option maxRecDepth 100000 in
set_option maxHeartbeats 4000000 in
theorem law_c31 {p : Program} {l : Launch} {e : Env} {s : State} {m : MethodId} {below : List Frame} {meth : Method} {c : Code} {D : va_G} {A : Nat → Prop} {cs : Nat → ClassId} {tt : Nat} {b L : Nat} {xs : Nat → Int32} {N : Nat} {ad : Nat → Nat} {g : Nat → va_E} {k n : Nat} {x z : Int} {q : Nat → Int} {w1 w2 w3 w4 w5 : Int} (hl0 : l.stackTraces = false) (C : zC p s m #[Value.ref b] c cL_law 7 RL D A cs tt) (hr : meth.sig.returnType = ret) (hlk : meth.locks = false) (hA : ∀ q, A q → s.heap.size ≤ q) (hX : va_X b L xs s s.heap) (hbl : b < s.heap.size) (hbA : ¬ A b) (hL : L ≤ 3072) (hN : 952 ≤ N) (hJI : JI cs ad g N x) (hq : g 951 = jA cs 1 q) (hx : 0 ≤ x ∧ x ≤ 511) (hz : z = 6 * x) (hzL : z + 6 ≤ (L : Int)) (hk : k ≤ 590000) (hn : n ≤ 7000000) (hw1r : -2147483648 ≤ w1 ∧ w1 ≤ 2147483647) (hw1 : xs (z + 1).toNat = zI w1) (hw2r : -2147483648 ≤ w2 ∧ w2 ≤ 2147483647) (hw2 : xs (z + 2).toNat = zI w2) (hw3r : -2147483648 ≤ w3 ∧ w3 ≤ 2147483647) (hw3 : xs (z + 3).toNat = zI w3) (hw4r : -2147483648 ≤ w4 ∧ w4 ≤ 2147483647) (hw4 : xs (z + 4).toNat = zI w4) (hw5r : -2147483648 ≤ w5 ∧ w5 ≤ 2147483647) (hw5 : xs (z + 5).toNat = zI w5) (hK : ∀ (N' : Nat) (ad' : Nat → Nat) (g' : Nat → va_E) (q' : Nat → Int), 952 ≤ N' → JI cs ad' g' N' (x + 1) → g' 951 = jA cs 1 q' → zV p l e room_1 s m #[Value.ref b] below meth c (lw_Z below #[Value.ref b] s) D A 7 (N') ad' g' (k + 16) (n + 2150) 1348 [(4, .int (zI (z))), (3, .ref (ad' 951)), (2, .ref (ad' 921)), (1, .ref (ad' 0)), (0, .ref b)] []) : zV p l e room_1 s m #[Value.ref b] below meth c (lw_Z below #[Value.ref b] s) D A 7 (N) ad g (k) (n) 1324 [(4, .int (zI (z))), (3, .ref (ad 951)), (2, .ref (ad 921)), (1, .ref (ad 0)), (0, .ref b)] [] := by
  have hay1 : zAt ad (0) (ad 0) := rfl
  have hay2 : zAt ad (921) (ad 921) := rfl
  have hay3 : zAt ad (951) (ad 951) := rfl
  obtain ⟨t, fp, im, nz, kz, sl, ho, st, op, ai, fa, mu, tb, tp, F, r, sR, oR, aR, fR, mR, bR, pR, hR, hM, hJ, hW⟩ := hJI
  obtain ⟨j23, j24, j21, j17, j20, j13, j14⟩ := id hJ.1
  obtain ⟨nsl, na, nak, H, Hk, W, Wk, P, Pk, ns, nh, nd, rr, pp, hSL, hPL, hCL, hPT, hNow, hKep, hEm, hEk⟩ := hW
  obtain ⟨hS, ⟨nu, nv, nw, rf, hXK, hne, hnt, hrf⟩, hz8, hRX, hPr, hP9⟩ := id hNow
  have hna := hS.2.1
  have hsl4 := hR.2.2.2.2.2.2.1
  have hho := hR.2.2.2.2.2.2.2.1
  have hPl := hPL.1
  have hB : ∃ (b9 : Nat → Option Nat) (f9 : Nat → Nat), (g (447 + 11) = rA (cs 4) 40 b9 ∧ ∀ k, k < 40 → f9 k < 40 ∧ b9 k = some (ad (447 + 18 + 10 * f9 k))) ∧ ∀ j k, j < 40 → k < 40 → f9 j = f9 k → j = k := by obtain ⟨-, ⟨_, _, _, _, hXk, -⟩, -⟩ := id hKep; obtain ⟨b9, f9, hb1, hb2, -⟩ := hXk.2.2.1; exact ⟨b9, f9, hb1, hb2⟩
  refine z_aload_n C 3 dL_law_1324 rfl ?_
  refine z_cV (As := []) (rest := []) (ci := 11) C (c_qImage l D A cs tt N ad _ hN _ _ _ _ _ _ _ _ _ _ _ _ _ _ _ hR na H W P nu nv nw rf hS hXK hP9 hz8 hnt hB) (by omega) hay1 hR.1 rfl rfl mv_yX9_image q_627 hd_yX9_image (by decide) (Nat.le_of_ble_eq_true rfl) ⟨show k + 0 ≤ 601024 by omega, show n + 0 ≤ 7293034 by omega⟩ dL_law_1325 rfl (kV0 fun gx hx9 => ?_)
  obtain ⟨hR1, ⟨hS0, hXK0⟩, hG1⟩ := hx9
  have hHG : ∀ j, 921 ≤ j → gx j = g j := fun j a => hG1 j (by omega) (by omega)
  have hM1 : okMr cs ad gx 921 x F r sR oR aR fR mR bR pR := hM.grow (fun _ _ _ => rfl) (fun j a b => hHG j a)
  have hq1 : gx 951 = jA cs 1 q := (hHG 951 (by decide)).trans hq
  have hc8 := (hHG 929 (by decide)).trans hCL.1
  have hc9 := (hHG 930 (by decide)).trans hCL.2.1
  have hc10 := (hHG 931 (by decide)).trans hCL.2.2.1
  have hc11 := (hHG 932 (by decide)).trans hCL.2.2.2.1
  have hc12 := (hHG 933 (by decide)).trans hCL.2.2.2.2
  refine z_aload_n C 2 dL_law_1328 rfl ?_
  refine z_cV (As := []) (rest := []) (ci := 12) C (c_vImage l D A cs tt N ad _ 921 (by omega) x (by omega) F r hM1 ns hc8 nh hc9 nd hc10 rr hc11 pp hc12 hPT.1 hPT.2 ) (by omega) hay2 hM1.1 rfl rfl mv_yX10_image q_2108 hd_yX10_image (by decide) (Nat.le_of_ble_eq_true rfl) ⟨show k + 0 + 0 ≤ 601024 by omega, show n + 0 + 0 ≤ 7293034 by omega⟩ dL_law_1329 rfl (kV0 fun gy hy => ?_)
  obtain ⟨⟨F2, r2, hM2, hF2, hF15, ra2, rb2, rc2⟩, h82, h92, h102, h112, h122, hG2⟩ := hy
  have hW2 : JW cs ad gy (x + 1) 1 nz nz sl ho st op ai fa mu tb F2 r2 := JW.image hSL hPl hNow hEm hne hnt hrf hS0 hXK0 (fun j a b => hG1 j (by omega) (by omega)) (fun j a => hG2 j (by omega)) h82 h92 h102 h112 h122 ⟨hF2.2.2.2.2.2.2.2.2.2.1.trans hPl.1, hF2.2.2.2.2.2.2.2.2.2.2.1.trans hPl.2.1, hF2.2.2.2.2.2.2.2.2.2.2.2.1.trans hPl.2.2.1, hF2.2.2.2.2.2.2.2.2.2.2.2.2.2.trans hPl.2.2.2⟩ hF15.1 hF15.2 hF2.2.2.2.1 hF2.2.2.2.2.1 (hF2.2.2.2.2.2.1.trans j17) hF2.2.2.2.2.2.2.1 ra2 rb2 rc2
  refine z_goto (tgt := 1348) C dL_law_1332 (by decide) ?_
  refine z_lv (lv' := [(4, .int (zI (z))), (3, .ref (ad 951)), (2, .ref (ad 921)), (1, .ref (ad 0)), (0, .ref b)]) [0, 1, 2, 3, 4] rfl ?_
  refine z_widen (k2 := k + 16) (n2 := n + 2150) (show k + 0 + 0 ≤ k + 16 by omega) (show n + 0 + 0 ≤ n + 2150 by omega) ?_
  exact hK _ _ _ _ hN ⟨_, _, _, _, _, _, _, _, _, _, _, _, _, _, _, _, _, _, _, _, _, _, _, (hR1.o951 (fun j hj => hG2 j (by omega))), hM2, (hJ.image ⟨hF2.1, hF2.2.1, hF2.2.2.1, hF2.2.2.2.2.2.1, hF2.2.2.2.2.2.2.1, hF2.2.2.2.2.2.2.2.1, hF2.2.2.2.2.2.2.2.2.1⟩ ⟨rfl, rfl⟩), hW2⟩ ((hG2 951 (by omega)).trans hq1)

set_option maxRecDepth 100000 in
set_option maxHeartbeats 4000000 in
theorem law_c32 {p : Program} {l : Launch} {e : Env} {s : State} {m : MethodId} {below : List Frame} {meth : Method} {c : Code} {D : va_G} {A : Nat → Prop} {cs : Nat → ClassId} {tt : Nat} {b L : Nat} {xs : Nat → Int32} {N : Nat} {ad : Nat → Nat} {g : Nat → va_E} {k n : Nat} {x z : Int} {q : Nat → Int} {w1 w2 w3 w4 w5 : Int} (hl0 : l.stackTraces = false) (C : zC p s m #[Value.ref b] c cL_law 7 RL D A cs tt) (hr : meth.sig.returnType = ret) (hlk : meth.locks = false) (hA : ∀ q, A q → s.heap.size ≤ q) (hX : va_X b L xs s s.heap) (hbl : b < s.heap.size) (hbA : ¬ A b) (hL : L ≤ 3072) (hN : 952 ≤ N) (hJI : JI cs ad g N x) (hq : g 951 = jA cs 1 q) (hx : 0 ≤ x ∧ x ≤ 511) (hz : z = 6 * x) (hzL : z + 6 ≤ (L : Int)) (hk : k ≤ 590000) (hn : n ≤ 7000000) (hw1r : -2147483648 ≤ w1 ∧ w1 ≤ 2147483647) (hw1 : xs (z + 1).toNat = zI w1) (hw2r : -2147483648 ≤ w2 ∧ w2 ≤ 2147483647) (hw2 : xs (z + 2).toNat = zI w2) (hw3r : -2147483648 ≤ w3 ∧ w3 ≤ 2147483647) (hw3 : xs (z + 3).toNat = zI w3) (hw4r : -2147483648 ≤ w4 ∧ w4 ≤ 2147483647) (hw4 : xs (z + 4).toNat = zI w4) (hw5r : -2147483648 ≤ w5 ∧ w5 ≤ 2147483647) (hw5 : xs (z + 5).toNat = zI w5) (hK : ∀ (N' : Nat) (ad' : Nat → Nat) (g' : Nat → va_E) (q' : Nat → Int), 952 ≤ N' → JI cs ad' g' N' (x + 1) → g' 951 = jA cs 1 q' → zV p l e room_1 s m #[Value.ref b] below meth c (lw_Z below #[Value.ref b] s) D A 7 (N') ad' g' (k + 16) (n + 2150) 1348 [(4, .int (zI (z))), (3, .ref (ad' 951)), (2, .ref (ad' 921)), (1, .ref (ad' 0)), (0, .ref b)] []) : zV p l e room_1 s m #[Value.ref b] below meth c (lw_Z below #[Value.ref b] s) D A 7 (N) ad g (k) (n) 1335 [(4, .int (zI (z))), (3, .ref (ad 951)), (2, .ref (ad 921)), (1, .ref (ad 0)), (0, .ref b)] [] := by
  have hay1 : zAt ad (0) (ad 0) := rfl
  have hay2 : zAt ad (921) (ad 921) := rfl
  have hay3 : zAt ad (951) (ad 951) := rfl
  obtain ⟨t, fp, im, nz, kz, sl, ho, st, op, ai, fa, mu, tb, tp, F, r, sR, oR, aR, fR, mR, bR, pR, hR, hM, hJ, hW⟩ := hJI
  obtain ⟨j23, j24, j21, j17, j20, j13, j14⟩ := id hJ.1
  obtain ⟨nsl, na, nak, H, Hk, W, Wk, P, Pk, ns, nh, nd, rr, pp, hSL, hPL, hCL, hPT, hNow, hKep, hEm, hEk⟩ := hW
  obtain ⟨hS, ⟨nu, nv, nw, rf, hXK, hne, hnt, hrf⟩, hz8, hRX, hPr, hP9⟩ := id hNow
  have hna := hS.2.1
  have hsl4 := hR.2.2.2.2.2.2.1
  have hho := hR.2.2.2.2.2.2.2.1
  have hPl := hPL.1
  have hi9 := hR.2.2.1
  obtain ⟨hSk, ⟨nuk, nvk, nwk, rfk, hXk, hnek, hntk, hrfk⟩, hz8k, -, -, hP9k⟩ := id hKep
  refine z_aload_n C 3 dL_law_1335 rfl ?_
  refine z_cV (As := []) (rest := []) (ci := 11) C (c_qRestore l D A cs tt N ad _ hN _ _ _ _ _ _ _ _ _ _ _ _ _ _ _ hR na H W P nu nv nw rf hS hXK nak Hk Wk Pk nuk nvk nwk rfk (fun _ => ⟨hSk, hXk, hP9k, hz8k, hntk⟩)) (by omega) hay1 hR.1 rfl rfl mv_yX9_restore q_646 hd_yX9_restore (by decide) (Nat.le_of_ble_eq_true rfl) ⟨show k + 0 ≤ 601024 by omega, show n + 0 ≤ 7293034 by omega⟩ dL_law_1336 rfl (kI0 fun rx gx hx9 => ?_)
  have hG1 : ∀ j, 447 ≤ j → gx j = g j := fun j a => by
    rcases hx9 with ⟨-, -, e⟩ | ⟨-, -, -, -, e⟩
    · rw [e]
    · exact e j (by omega)
  have hHG : ∀ j, 921 ≤ j → gx j = g j := fun j a => hG1 j (by omega)
  have hM1 : okMr cs ad gx 921 x F r sR oR aR fR mR bR pR := hM.grow (fun _ _ _ => rfl) (fun j a b => hHG j a)
  have hq1 : gx 951 = jA cs 1 q := (hHG 951 (by decide)).trans hq
  have hc8 := (hHG 929 (by decide)).trans hCL.1
  have hc9 := (hHG 930 (by decide)).trans hCL.2.1
  have hc10 := (hHG 931 (by decide)).trans hCL.2.2.1
  have hc11 := (hHG 932 (by decide)).trans hCL.2.2.2.1
  have hc12 := (hHG 933 (by decide)).trans hCL.2.2.2.2
  refine z_pop C dL_law_1339 rfl ?_
  refine z_aload_n C 2 dL_law_1340 rfl ?_
  refine z_cV (As := []) (rest := []) (ci := 12) C (c_vRestore l D A cs tt N ad _ 921 (by omega) x (by omega) F r hM1 ns hc8 nh hc9 nd hc10 rr hc11 pp hc12 hPT.1 hPT.2 ) (by omega) hay2 hM1.1 rfl rfl mv_yX10_restore q_2112 hd_yX10_restore (by decide) (Nat.le_of_ble_eq_true rfl) ⟨show k + 0 + 0 ≤ 601024 by omega, show n + 0 + 0 ≤ 7293034 by omega⟩ dL_law_1341 rfl (kI0 fun ry gy hy => ?_)
  rcases hx9 with ⟨i9, hqx, e8⟩ | ⟨i9, hqx, hR1, ⟨hS0, hXK0⟩, -⟩
  · obtain ⟨-, hqy, ⟨F2, r2, hM2, hF2, hF15, hw2⟩, hG3, hG2⟩ := hy.resolve_right (fun h9 => h9.1 (by omega))
    have hR1 : okRec cs ad gx N t fp im nz kz sl ho 0 st op ai fa mu tb tp := by rw [← e8]; exact hR
    have hW2 := JW.ques (F' := F2) (r' := r2) (g' := gy) (ad' := ad) ⟨nsl, na, nak, H, Hk, W, Wk, P, Pk, ns, nh, nd, rr, pp, hSL, hPL, hCL, hPT, hNow, hKep, hEm, hEk⟩ (fun _ _ _ => rfl) (fun j a b => (hG2 j (by omega)).trans (congrFun e8.symm j)) (fun j a b => (hG3 j (by omega) (by omega)).trans (hHG j (by omega))) ⟨hF15.1, hF15.2, hF2.2.2.2.1, hF2.2.2.2.2.1, hF2.2.2.2.2.2.1⟩ ⟨hF2.2.2.2.2.2.2.2.2.2.1.trans hPl.1, hF2.2.2.2.2.2.2.2.2.2.2.1.trans hPl.2.1, hF2.2.2.2.2.2.2.2.2.2.2.2.1.trans hPl.2.2.1, hF2.2.2.2.2.2.2.2.2.2.2.2.2.2.trans hPl.2.2.2⟩ hw2
    refine z_pop C dL_law_1344 rfl ?_
    refine z_goto (tgt := 1348) C dL_law_1345 (by decide) ?_
    refine z_lv (lv' := [(4, .int (zI (z))), (3, .ref (ad 951)), (2, .ref (ad 921)), (1, .ref (ad 0)), (0, .ref b)]) [0, 1, 2, 3, 4] rfl ?_
    refine z_widen (k2 := k + 16) (n2 := n + 2150) (show k + 0 + 0 ≤ k + 16 by omega) (show n + 0 + 0 ≤ n + 2150 by omega) ?_
    exact hK _ _ _ _ hN ⟨_, _, _, _, _, _, _, _, _, _, _, _, _, _, _, _, _, _, _, _, _, _, _, (hR1.o951 (fun j hj => hG2 j (by omega))), hM2, (hJ.keep ⟨hF2.1, hF2.2.1, hF2.2.2.1, hF2.2.2.2.2.2.1, hF2.2.2.2.2.2.2.1, hF2.2.2.2.2.2.2.2.1, hF2.2.2.2.2.2.2.2.2.1⟩), hW2⟩ ((hG2 951 (by omega)).trans hq1)
  · obtain ⟨-, hqy, ⟨F2, r2, hM2, hF2, hF15, ra2, rb2, rc2⟩, h82, h92, h102, h112, h122, hG2⟩ := hy.resolve_left (fun h9 => by have h8 := h9.1; omega)
    have hW2 : JW cs ad gy (x + 1) im kz kz sl ho st op ai fa mu tb F2 r2 := JW.restore hSL hPL hKep hEk i9 j21 hnek hntk hrfk hS0 hXK0 (fun j a b => hG1 j a) (fun j a => hG2 j (by omega)) h82 h92 h102 h112 h122 ⟨hF2.2.2.2.2.2.2.2.2.2.1.trans hPl.1, hF2.2.2.2.2.2.2.2.2.2.2.1.trans hPl.2.1, hF2.2.2.2.2.2.2.2.2.2.2.2.1.trans hPl.2.2.1, hF2.2.2.2.2.2.2.2.2.2.2.2.2.2.trans hPl.2.2.2⟩ hF15.1 hF15.2 hF2.2.2.2.1 hF2.2.2.2.2.1 hF2.2.2.2.2.2.1 ra2 rb2 rc2
    refine z_pop C dL_law_1344 rfl ?_
    refine z_goto (tgt := 1348) C dL_law_1345 (by decide) ?_
    refine z_lv (lv' := [(4, .int (zI (z))), (3, .ref (ad 951)), (2, .ref (ad 921)), (1, .ref (ad 0)), (0, .ref b)]) [0, 1, 2, 3, 4] rfl ?_
    refine z_widen (k2 := k + 16) (n2 := n + 2150) (show k + 0 + 0 ≤ k + 16 by omega) (show n + 0 + 0 ≤ n + 2150 by omega) ?_
    exact hK _ _ _ _ hN ⟨_, _, _, _, _, _, _, _, _, _, _, _, _, _, _, _, _, _, _, _, _, _, _, (hR1.o951 (fun j hj => hG2 j (by omega))), hM2, (hJ.notes (nz' := kz) ⟨hF2.1, hF2.2.1, rfl, hF2.2.2.2.2.2.1, hF2.2.2.2.2.2.2.1, hF2.2.2.2.2.2.2.2.1, hF2.2.2.2.2.2.2.2.2.1⟩ (by have h20 := j20 i9; omega)), hW2⟩ ((hG2 951 (by omega)).trans hq1)

set_option maxRecDepth 100000 in
set_option maxHeartbeats 4000000 in
theorem law_c1 {p : Program} {l : Launch} {e : Env} {s : State} {m : MethodId} {below : List Frame} {meth : Method} {c : Code} {D : va_G} {A : Nat → Prop} {cs : Nat → ClassId} {tt : Nat} {b L : Nat} {xs : Nat → Int32} {N : Nat} {ad : Nat → Nat} {g : Nat → va_E} {k n : Nat} {x z : Int} {q : Nat → Int} {w1 w2 w3 w4 w5 : Int} (hl0 : l.stackTraces = false) (C : zC p s m #[Value.ref b] c cL_law 7 RL D A cs tt) (hr : meth.sig.returnType = ret) (hlk : meth.locks = false) (hA : ∀ q, A q → s.heap.size ≤ q) (hX : va_X b L xs s s.heap) (hbl : b < s.heap.size) (hbA : ¬ A b) (hL : L ≤ 3072) (hN : 952 ≤ N) (hJI : JI cs ad g N x) (hq : g 951 = jA cs 1 q) (hx : 0 ≤ x ∧ x ≤ 511) (hz : z = 6 * x) (hzL : z + 6 ≤ (L : Int)) (hk : k ≤ 590000) (hn : n ≤ 7000000) (hw1r : -2147483648 ≤ w1 ∧ w1 ≤ 2147483647) (hw1 : xs (z + 1).toNat = zI w1) (hw2r : -2147483648 ≤ w2 ∧ w2 ≤ 2147483647) (hw2 : xs (z + 2).toNat = zI w2) (hw3r : -2147483648 ≤ w3 ∧ w3 ≤ 2147483647) (hw3 : xs (z + 3).toNat = zI w3) (hw4r : -2147483648 ≤ w4 ∧ w4 ≤ 2147483647) (hw4 : xs (z + 4).toNat = zI w4) (hw5r : -2147483648 ≤ w5 ∧ w5 ≤ 2147483647) (hw5 : xs (z + 5).toNat = zI w5) (hK : ∀ (N' : Nat) (ad' : Nat → Nat) (g' : Nat → va_E) (q' : Nat → Int), 952 ≤ N' → JI cs ad' g' N' (x + 1) → g' 951 = jA cs 1 q' → zV p l e room_1 s m #[Value.ref b] below meth c (lw_Z below #[Value.ref b] s) D A 7 (N') ad' g' (k + 16) (n + 2150) 1348 [(4, .int (zI (z))), (3, .ref (ad' 951)), (2, .ref (ad' 921)), (1, .ref (ad' 0)), (0, .ref b)] []) : zV p l e room_1 s m #[Value.ref b] below meth c (lw_Z below #[Value.ref b] s) D A 7 (N) ad g (k) (n) 261 [(4, .int (zI (z))), (3, .ref (ad 951)), (2, .ref (ad 921)), (1, .ref (ad 0)), (0, .ref b)] [] := by
  have hay1 : zAt ad (0) (ad 0) := rfl
  have hay2 : zAt ad (921) (ad 921) := rfl
  have hay3 : zAt ad (951) (ad 951) := rfl
  obtain ⟨t, fp, im, nz, kz, sl, ho, st, op, ai, fa, mu, tb, tp, F, r, sR, oR, aR, fR, mR, bR, pR, hR, hM, hJ, hW⟩ := hJI
  obtain ⟨j23, j24, j21, j17, j20, j13, j14⟩ := id hJ.1
  obtain ⟨nsl, na, nak, H, Hk, W, Wk, P, Pk, ns, nh, nd, rr, pp, hSL, hPL, hCL, hPT, hNow, hKep, hEm, hEk⟩ := hW
  obtain ⟨hS, ⟨nu, nv, nw, rf, hXK, hne, hnt, hrf⟩, hz8, hRX, hPr, hP9⟩ := id hNow
  have hna := hS.2.1
  have hsl4 := hR.2.2.2.2.2.2.1
  have hho := hR.2.2.2.2.2.2.2.1
  have hPl := hPL.1
  have ht9 := hR.2.1
  refine z_aload_n C 3 dL_law_261 rfl ?_
  refine z_aload_n C 4 dL_law_262 rfl ?_
  refine z_iload C 0 dL_law_263 rfl ?_
  refine z_iconst (z := 1) C dL_law_265 rfl ?_
  refine z_iadd C dL_law_266 ?_
  refine z_sld C hX hbl hbA (z + 1).toNat (by omega) (by omega) (by omega) hw1 dL_law_267 ?_
  refine z_aload_n C 1 dL_law_268 rfl ?_
  refine z_cSW (As := [.ref (ad 0), .int (zI (w1)), .ref (ad 951)]) (rest := []) C (c_L_snow l D A cs tt N ad _ hN hR na H W P nu nv nw rf hS hXK hJ.2.1 hl0 q hq w1 hw1r) mW_yL_snow q_650 hd_yL_snow (by decide) (Nat.le_of_ble_eq_true rfl) ⟨show k + 6 ≤ 601024 by omega, show n + 60 ≤ 7293034 by omega⟩ dL_law_269 rfl (kI fun rk N1 ad1 g1 h1 => ?_)
  obtain ⟨⟨hN1, hA1, hG1⟩, h1⟩ := h1
  have hM1 : okMr cs ad1 g1 921 x F r sR oR aR fR mR bR pR := hM.grow (fun j a b => hA1 j (by omega)) (fun j a b => hG1 j (by omega) (by omega))
  have hN2 : 952 ≤ N1 := by omega
  rw [← hA1 0 (by omega), ← hA1 921 (by omega), ← hA1 951 (by omega)]
  have hay4 : zAt ad1 (921) (ad1 921) := rfl
  have hCL1 : (g1 929 = iA cs 16 ns ∧ g1 930 = iA cs 16 nh ∧ g1 931 = iA cs 16 nd ∧ g1 932 = iA cs 6 rr ∧ g1 933 = iA cs 1080 pp) := ⟨(hG1 929 (by decide) (by decide)).trans hCL.1, (hG1 930 (by decide) (by decide)).trans hCL.2.1, (hG1 931 (by decide) (by decide)).trans hCL.2.2.1, (hG1 932 (by decide) (by decide)).trans hCL.2.2.2.1, (hG1 933 (by decide) (by decide)).trans hCL.2.2.2.2⟩
  rcases h1 with ⟨rfl, hc1, hR1, hKG, hq1⟩ | ⟨rfl, hc1, hKG, r1, hr1, hs1, hq1⟩
  · refine z_istore (lv' := [(5, .int (zI (1))), (4, .int (zI (z))), (3, .ref (ad1 951)), (2, .ref (ad1 921)), (1, .ref (ad1 0)), (0, .ref b)]) C dL_law_272 (by decide) rfl ?_
    refine z_aload_n C 3 dL_law_274 rfl ?_
    refine z_aload_n C 5 dL_law_275 rfl ?_
    refine z_iload C 1 dL_law_276 rfl ?_
    refine z_iconst (z := 1) C dL_law_278 rfl ?_
    refine z_iadd C dL_law_279 ?_
    refine z_sld C hX hbl hbA (z + 1).toNat (by omega) (by omega) (by omega) hw1 dL_law_280 ?_
    refine z_cV (As := [.int (zI (w1))]) (rest := []) (ci := 12) C (c_ySnow0 l D A cs tt N1 ad1 _ 921 (by omega) x (by omega) F r hM1 hPl w1 hw1r (by omega)) (by omega) hay4 hM1.1 rfl rfl mv_yX10_snow q_1644 hd_yX10_snow (by decide) (Nat.le_of_ble_eq_true rfl) ⟨show k + 6 + 0 ≤ 601024 by omega, show n + 60 + 0 ≤ 7293034 by omega⟩ dL_law_281 rfl (kI0 fun ry gy hy => ?_)
    obtain ⟨hry, ⟨F2, r2, hM2, h12, hF2, hP2, hw2⟩, hG2⟩ := hy
    have hW2 := JW.ques (F' := F2) (r' := r2) (g' := gy) (ad' := ad1) ⟨nsl, na, nak, H, Hk, W, Wk, P, Pk, ns, nh, nd, rr, pp, hSL, hPL, hCL, hPT, hNow, hKep, hEm, hEk⟩ (fun j a b => hA1 j (by omega)) (fun j a b => (hG2 j (by omega)).trans (hKG j a b)) (fun j a b => (hG2 j (by omega)).trans (hG1 j (by omega) (by omega))) ⟨hF2.2.2.1, hF2.2.2.2.1, hF2.2.2.2.2.2.1, hF2.2.2.2.2.2.2.1, hF2.2.2.2.2.2.2.2.1⟩ hP2 hw2
    refine z_istore (lv' := [(6, .int (zI (ry))), (5, .int (zI (1))), (4, .int (zI (z))), (3, .ref (ad1 951)), (2, .ref (ad1 921)), (1, .ref (ad1 0)), (0, .ref b)]) C dL_law_284 (by decide) rfl ?_
    refine z_goto (tgt := 1348) C dL_law_286 (by decide) ?_
    refine z_lv (lv' := [(4, .int (zI (z))), (3, .ref (ad1 951)), (2, .ref (ad1 921)), (1, .ref (ad1 0)), (0, .ref b)]) [2, 3, 4, 5, 6] rfl ?_
    refine z_widen (k2 := k + 16) (n2 := n + 2150) (show k + 6 + 0 ≤ k + 16 by omega) (show n + 60 + 0 ≤ n + 2150 by omega) ?_
    exact hK _ _ _ _ hN2 ⟨_, _, _, _, _, _, _, _, _, _, _, _, _, _, _, _, _, _, _, _, _, _, _, (hR1.o951 (fun j hj => hG2 j (by omega))), hM2, (hJ.keep ⟨hF2.1, hF2.2.1, hF2.2.2.2.2.1, hF2.2.2.2.2.2.2.2.1, hF2.2.2.2.2.2.2.2.2.1, hF2.2.2.2.2.2.2.2.2.2.1, hF2.2.2.2.2.2.2.2.2.2.2⟩), hW2⟩ ((hG2 951 (by omega)).trans hq1)
  · obtain ⟨st0, op0, ai0, fa0, mu0, L0, k9, pl9, s9, hrun9, hO9⟩ := hs1
    obtain ⟨hu1, hu2⟩ := hJ.un (n := (w1).toNat) (by omega) hM.tape (by omega)
    have hKep1 := hKep.mv (y := x) (ad' := ad1) (g' := g1) (F' := imF F) (r' := imR r) (Int.le_refl _) (fun j a b => hA1 j (by omega)) (fun j a b => hKG j (by omega) (by omega)) rfl rfl (fun _ _ => rfl) (fun _ _ => ⟨rfl, rfl, rfl⟩) (fun _ _ => rfl) (fun _ _ => rfl)
    refine z_istore (lv' := [(5, .int (zI (0))), (4, .int (zI (z))), (3, .ref (ad1 951)), (2, .ref (ad1 921)), (1, .ref (ad1 0)), (0, .ref b)]) C dL_law_272 (by decide) rfl ?_
    refine z_aload_n C 3 dL_law_274 rfl ?_
    refine z_aload_n C 5 dL_law_275 rfl ?_
    refine z_iload C 1 dL_law_276 rfl ?_
    refine z_iconst (z := 1) C dL_law_278 rfl ?_
    refine z_iadd C dL_law_279 ?_
    refine z_sld C hX hbl hbA (z + 1).toNat (by omega) (by omega) (by omega) hw1 dL_law_280 ?_
    refine z_cV (As := [.int (zI (w1))]) (rest := []) (ci := 12) C (c_ySnow1 l D A cs tt N1 ad1 _ 921 (by omega) x (by omega) F r hM1 hPl rr hCL1.2.2.2.1 (unS tp) (w1).toNat hu1 hu2 st0 op0 ai0 fa0 mu0 L0 w1 (by omega) (by omega)) (by omega) hay4 hM1.1 rfl rfl mv_yX10_snow q_1644 hd_yX10_snow (by decide) (Nat.le_of_ble_eq_true rfl) ⟨show k + 6 + 0 ≤ 601024 by omega, show n + 60 + 0 ≤ 7293034 by omega⟩ dL_law_281 rfl (kI0 fun ry gy hy => ?_)
    obtain ⟨hry, ⟨k2, pl2, s2, hrun2, hO2⟩, ⟨rr2, hcr2, hrr2⟩, hG2, hG3⟩ := hy
    have hu3 := ps_run_u hrun9 hrun2
    obtain ⟨hu4, rfl⟩ := Prod.mk.inj hu3
    obtain ⟨rfl, rfl⟩ := Prod.mk.inj hu4
    rcases hO9 with ⟨e9, hR1, hS1, hXK1⟩ | ⟨e9, hR1, hS1, hXK1⟩
    · obtain ⟨-, F2, r2, sR2, oR2, aR2, fR2, mR2, bR2, hM2, h12, hF2, hP2, hD2, hT2, hw2⟩ := hO2.resolve_right (fun h9 => h9.1 e9)
      have hps : okPS s9 := okPS.run _ _ _ _ (okPS.start st0 op0 ai0 fa0 mu0 L0) hrun9
      have hG3b : ∀ j, 929 ≤ j → j ≤ 933 → gy j = g1 j := fun j a b => by
        by_cases e : j = 932
        · rw [e, hCL1.2.2.2.1]; rw [if_pos e9] at hrr2; rw [← hrr2]; exact hcr2
        · exact hG3 j (by omega) (by omega) (by omega)
      have hW2 := JW.snowO hps hx.1 hPL.2 hCL1 hPT hKep1 hne hnt hrf hPr hP9 hS1 hXK1 (fun j a => hG2 j (by omega)) hG3b hF2.2.2.1 hF2.2.2.2.1 hF2.2.2.2.2.2.1 hF2.2.2.2.2.2.2.1 hF2.2.2.2.2.2.2.2.1 hP2 hT2 hw2
      refine z_istore (lv' := [(6, .int (zI (r1))), (5, .int (zI (0))), (4, .int (zI (z))), (3, .ref (ad1 951)), (2, .ref (ad1 921)), (1, .ref (ad1 0)), (0, .ref b)]) C dL_law_284 (by decide) rfl ?_
      refine z_goto (tgt := 1348) C dL_law_286 (by decide) ?_
      refine z_lv (lv' := [(4, .int (zI (z))), (3, .ref (ad1 951)), (2, .ref (ad1 921)), (1, .ref (ad1 0)), (0, .ref b)]) [2, 3, 4, 5, 6] rfl ?_
      refine z_widen (k2 := k + 16) (n2 := n + 2150) (show k + 6 + 0 ≤ k + 16 by omega) (show n + 60 + 0 ≤ n + 2150 by omega) ?_
      exact hK _ _ _ _ hN2 ⟨_, _, _, _, _, _, _, _, _, _, _, _, _, _, _, _, _, _, _, _, _, _, _, (hR1.o951 (fun j hj => hG2 j (by omega))), hM2, (hJ.snowO ⟨hF2.1, hF2.2.1, hF2.2.2.2.2.1, hF2.2.2.2.2.2.2.2.1, hF2.2.2.2.2.2.2.2.2.1, hF2.2.2.2.2.2.2.2.2.2.1, hF2.2.2.2.2.2.2.2.2.2.2⟩ hD2), hW2⟩ ((hG2 951 (by omega)).trans hq1)
    · obtain ⟨-, F2, r2, hM2, h12, hF2, hP2, hw2⟩ := hO2.resolve_left (fun h9 => e9 h9.1)
      rw [if_neg e9] at hrr2
      have hW2 : JW cs ad1 gy (x + 1) im nz kz sl ho st op ai fa mu tb F2 r2 := JW.notes (ns' := ns) (nh' := nh) (nd' := nd) (rr' := rr2) hSL hPL hCL1 hPT hKep1 hEm hEk hRX hPr hP9 hne hnt hz8 hS1 hXK1 (fun k hk => by rw [hrr2, hrf 0 (by decide)]; exact uZ_q9 (hrf k hk)) (fun k _ => by rw [hrr2]; exact uZ_n _ _ (by omega)) (fun _ _ => ⟨rfl, rfl, rfl⟩) hPT.2 ⟨(hG3 929 (by decide) (by decide) (by decide)).trans hCL1.1, (hG3 930 (by decide) (by decide) (by decide)).trans hCL1.2.1, (hG3 931 (by decide) (by decide) (by decide)).trans hCL1.2.2.1, hcr2⟩ (hG3 933 (by decide) (by decide) (by decide)) (fun _ _ _ => rfl) (fun j a => hG2 j (by omega)) ⟨hF2.2.2.1, hF2.2.2.2.1, hF2.2.2.2.2.2.1, hF2.2.2.2.2.2.2.1, hF2.2.2.2.2.2.2.2.1⟩ hP2 (fun j _ => by rw [hw2])
      refine z_istore (lv' := [(6, .int (zI (r1))), (5, .int (zI (0))), (4, .int (zI (z))), (3, .ref (ad1 951)), (2, .ref (ad1 921)), (1, .ref (ad1 0)), (0, .ref b)]) C dL_law_284 (by decide) rfl ?_
      refine z_goto (tgt := 1348) C dL_law_286 (by decide) ?_
      refine z_lv (lv' := [(4, .int (zI (z))), (3, .ref (ad1 951)), (2, .ref (ad1 921)), (1, .ref (ad1 0)), (0, .ref b)]) [2, 3, 4, 5, 6] rfl ?_
      refine z_widen (k2 := k + 16) (n2 := n + 2150) (show k + 6 + 0 ≤ k + 16 by omega) (show n + 60 + 0 ≤ n + 2150 by omega) ?_
      exact hK _ _ _ _ hN2 ⟨_, _, _, _, _, _, _, _, _, _, _, _, _, _, _, _, _, _, _, _, _, _, _, (hR1.o951 (fun j hj => hG2 j (by omega))), hM2, (hJ.snowE ⟨hF2.1, hF2.2.1, hF2.2.2.2.2.1, hF2.2.2.2.2.2.2.2.1, hF2.2.2.2.2.2.2.2.2.1, hF2.2.2.2.2.2.2.2.2.2.1, hF2.2.2.2.2.2.2.2.2.2.2⟩), hW2⟩ ((hG2 951 (by omega)).trans hq1)

set_option maxRecDepth 100000 in
set_option maxHeartbeats 4000000 in
theorem law_c4 {p : Program} {l : Launch} {e : Env} {s : State} {m : MethodId} {below : List Frame} {meth : Method} {c : Code} {D : va_G} {A : Nat → Prop} {cs : Nat → ClassId} {tt : Nat} {b L : Nat} {xs : Nat → Int32} {N : Nat} {ad : Nat → Nat} {g : Nat → va_E} {k n : Nat} {x z : Int} {q : Nat → Int} {w1 w2 w3 w4 w5 : Int} (hl0 : l.stackTraces = false) (C : zC p s m #[Value.ref b] c cL_law 7 RL D A cs tt) (hr : meth.sig.returnType = ret) (hlk : meth.locks = false) (hA : ∀ q, A q → s.heap.size ≤ q) (hX : va_X b L xs s s.heap) (hbl : b < s.heap.size) (hbA : ¬ A b) (hL : L ≤ 3072) (hN : 952 ≤ N) (hJI : JI cs ad g N x) (hq : g 951 = jA cs 1 q) (hx : 0 ≤ x ∧ x ≤ 511) (hz : z = 6 * x) (hzL : z + 6 ≤ (L : Int)) (hk : k ≤ 590000) (hn : n ≤ 7000000) (hw1r : -2147483648 ≤ w1 ∧ w1 ≤ 2147483647) (hw1 : xs (z + 1).toNat = zI w1) (hw2r : -2147483648 ≤ w2 ∧ w2 ≤ 2147483647) (hw2 : xs (z + 2).toNat = zI w2) (hw3r : -2147483648 ≤ w3 ∧ w3 ≤ 2147483647) (hw3 : xs (z + 3).toNat = zI w3) (hw4r : -2147483648 ≤ w4 ∧ w4 ≤ 2147483647) (hw4 : xs (z + 4).toNat = zI w4) (hw5r : -2147483648 ≤ w5 ∧ w5 ≤ 2147483647) (hw5 : xs (z + 5).toNat = zI w5) (hK : ∀ (N' : Nat) (ad' : Nat → Nat) (g' : Nat → va_E) (q' : Nat → Int), 952 ≤ N' → JI cs ad' g' N' (x + 1) → g' 951 = jA cs 1 q' → zV p l e room_1 s m #[Value.ref b] below meth c (lw_Z below #[Value.ref b] s) D A 7 (N') ad' g' (k + 16) (n + 2150) 1348 [(4, .int (zI (z))), (3, .ref (ad' 951)), (2, .ref (ad' 921)), (1, .ref (ad' 0)), (0, .ref b)] []) : zV p l e room_1 s m #[Value.ref b] below meth c (lw_Z below #[Value.ref b] s) D A 7 (N) ad g (k) (n) 330 [(4, .int (zI (z))), (3, .ref (ad 951)), (2, .ref (ad 921)), (1, .ref (ad 0)), (0, .ref b)] [] := by
  have hay1 : zAt ad (0) (ad 0) := rfl
  have hay2 : zAt ad (921) (ad 921) := rfl
  have hay3 : zAt ad (951) (ad 951) := rfl
  obtain ⟨t, fp, im, nz, kz, sl, ho, st, op, ai, fa, mu, tb, tp, F, r, sR, oR, aR, fR, mR, bR, pR, hR, hM, hJ, hW⟩ := hJI
  obtain ⟨j23, j24, j21, j17, j20, j13, j14⟩ := id hJ.1
  have hPl := hW.pl
  refine z_aload_n C 3 dL_law_330 rfl ?_
  refine z_aload_n C 4 dL_law_331 rfl ?_
  refine z_iload C 0 dL_law_332 rfl ?_
  refine z_iconst (z := 1) C dL_law_334 rfl ?_
  refine z_iadd C dL_law_335 ?_
  refine z_sld C hX hbl hbA (z + 1).toNat (by omega) (by omega) (by omega) hw1 dL_law_336 ?_
  refine z_aload_n C 4 dL_law_337 rfl ?_
  refine z_iload C 0 dL_law_338 rfl ?_
  refine z_iconst (z := 2) C dL_law_340 rfl ?_
  refine z_iadd C dL_law_341 ?_
  refine z_sld C hX hbl hbA (z + 2).toNat (by omega) (by omega) (by omega) hw2 dL_law_342 ?_
  refine z_aload_n C 1 dL_law_343 rfl ?_
  refine z_cSW (As := [.ref (ad 0), .int (zI (w1)), .int (zI (w2)), .ref (ad 951)]) (rest := []) C (c_L_forecast l D A cs tt N ad _ hN hR hl0 q hq w1 hw1r w2 hw2r) mW_yL_forecast q_920 hd_yL_forecast (by decide) (Nat.le_of_ble_eq_true rfl) ⟨show k + 6 ≤ 601024 by omega, show n + 36 ≤ 7293034 by omega⟩ dL_law_344 rfl (kI fun rk N1 ad1 g1 h1 => ?_)
  obtain ⟨⟨⟨hN1, hA1, hG1⟩, hKG⟩, h1⟩ := h1
  have hM1 : okMr cs ad1 g1 921 x F r sR oR aR fR mR bR pR := hM.grow (fun j a b => hA1 j (by omega)) (fun j a b => hG1 j (by omega) (by omega))
  have hN2 : 952 ≤ N1 := by omega
  rw [← hA1 0 (by omega), ← hA1 921 (by omega), ← hA1 951 (by omega)]
  have hay4 : zAt ad1 (921) (ad1 921) := rfl
  obtain ⟨hR1, h1⟩ := h1
  rcases h1 with ⟨rfl, hc1, hq1⟩ | ⟨rfl, r1, hr1, hc1, hq1⟩
  · refine z_istore (lv' := [(5, .int (zI (1))), (4, .int (zI (z))), (3, .ref (ad1 951)), (2, .ref (ad1 921)), (1, .ref (ad1 0)), (0, .ref b)]) C dL_law_347 (by decide) rfl ?_
    refine z_aload_n C 3 dL_law_349 rfl ?_
    refine z_aload_n C 5 dL_law_350 rfl ?_
    refine z_iload C 1 dL_law_351 rfl ?_
    refine z_iconst (z := 1) C dL_law_353 rfl ?_
    refine z_iadd C dL_law_354 ?_
    refine z_sld C hX hbl hbA (z + 1).toNat (by omega) (by omega) (by omega) hw1 dL_law_355 ?_
    refine z_aload_n C 5 dL_law_356 rfl ?_
    refine z_iload C 1 dL_law_357 rfl ?_
    refine z_iconst (z := 2) C dL_law_359 rfl ?_
    refine z_iadd C dL_law_360 ?_
    refine z_sld C hX hbl hbA (z + 2).toNat (by omega) (by omega) (by omega) hw2 dL_law_361 ?_
    refine z_cV (As := [.int (zI (w1)), .int (zI (w2))]) (rest := []) (ci := 12) C (c_yForecast l D A cs tt N1 ad1 _ 921 (by omega) x (by omega) F r hM1 hPl w1 hw1r w2 hw2r) (by omega) hay4 hM1.1 rfl rfl mv_yX10_forecast q_1795 hd_yX10_forecast (by decide) (Nat.le_of_ble_eq_true rfl) ⟨show k + 6 + 0 ≤ 601024 by omega, show n + 36 + 0 ≤ 7293034 by omega⟩ dL_law_362 rfl (kI0 fun ry gy hy => ?_)
    obtain ⟨⟨F2, r2, hM2, hq2, hF2, hP2, hw2⟩, hG2⟩ := hy
    obtain ⟨-, h12⟩ := hq2.resolve_left (fun h9 => by omega)
    refine z_istore (lv' := [(6, .int (zI (ry))), (5, .int (zI (1))), (4, .int (zI (z))), (3, .ref (ad1 951)), (2, .ref (ad1 921)), (1, .ref (ad1 0)), (0, .ref b)]) C dL_law_365 (by decide) rfl ?_
    refine z_goto (tgt := 1348) C dL_law_367 (by decide) ?_
    refine z_lv (lv' := [(4, .int (zI (z))), (3, .ref (ad1 951)), (2, .ref (ad1 921)), (1, .ref (ad1 0)), (0, .ref b)]) [2, 3, 4, 5, 6] rfl ?_
    refine z_widen (k2 := k + 16) (n2 := n + 2150) (show k + 6 + 0 ≤ k + 16 by omega) (show n + 36 + 0 ≤ n + 2150 by omega) ?_
    exact hK _ _ _ _ hN2 ⟨_, _, _, _, _, _, _, _, _, _, _, _, _, _, _, _, _, _, _, _, _, _, _, (hR1.o951 (fun j hj => hG2 j (by omega))), hM2, (hJ.keep ⟨hF2.1, hF2.2.1, hF2.2.2.2.2.1, hF2.2.2.2.2.2.2.2.1, hF2.2.2.2.2.2.2.2.2.1, hF2.2.2.2.2.2.2.2.2.2.1, hF2.2.2.2.2.2.2.2.2.2.2⟩), (hW.ques (fun j a b => hA1 j (by omega)) (fun j a b => (hG2 j (by omega)).trans (hKG j a b)) (fun j a b => (hG2 j (by omega)).trans (hG1 j (by omega) (by omega))) ⟨hF2.2.2.1, hF2.2.2.2.1, hF2.2.2.2.2.2.1, hF2.2.2.2.2.2.2.1, hF2.2.2.2.2.2.2.2.1⟩ hP2 hw2)⟩ ((hG2 951 (by omega)).trans hq1)
  · refine z_istore (lv' := [(5, .int (zI (0))), (4, .int (zI (z))), (3, .ref (ad1 951)), (2, .ref (ad1 921)), (1, .ref (ad1 0)), (0, .ref b)]) C dL_law_347 (by decide) rfl ?_
    refine z_aload_n C 3 dL_law_349 rfl ?_
    refine z_aload_n C 5 dL_law_350 rfl ?_
    refine z_iload C 1 dL_law_351 rfl ?_
    refine z_iconst (z := 1) C dL_law_353 rfl ?_
    refine z_iadd C dL_law_354 ?_
    refine z_sld C hX hbl hbA (z + 1).toNat (by omega) (by omega) (by omega) hw1 dL_law_355 ?_
    refine z_aload_n C 5 dL_law_356 rfl ?_
    refine z_iload C 1 dL_law_357 rfl ?_
    refine z_iconst (z := 2) C dL_law_359 rfl ?_
    refine z_iadd C dL_law_360 ?_
    refine z_sld C hX hbl hbA (z + 2).toNat (by omega) (by omega) (by omega) hw2 dL_law_361 ?_
    refine z_cV (As := [.int (zI (w1)), .int (zI (w2))]) (rest := []) (ci := 12) C (c_yForecast l D A cs tt N1 ad1 _ 921 (by omega) x (by omega) F r hM1 hPl w1 hw1r w2 hw2r) (by omega) hay4 hM1.1 rfl rfl mv_yX10_forecast q_1795 hd_yX10_forecast (by decide) (Nat.le_of_ble_eq_true rfl) ⟨show k + 6 + 0 ≤ 601024 by omega, show n + 36 + 0 ≤ 7293034 by omega⟩ dL_law_362 rfl (kI0 fun ry gy hy => ?_)
    obtain ⟨⟨F2, r2, hM2, hq2, hF2, hP2, hw2⟩, hG2⟩ := hy
    obtain ⟨h9a, h12, hyr, hyv⟩ := hq2.resolve_right (fun h9 => by omega)
    refine z_istore (lv' := [(6, .int (zI (ry))), (5, .int (zI (0))), (4, .int (zI (z))), (3, .ref (ad1 951)), (2, .ref (ad1 921)), (1, .ref (ad1 0)), (0, .ref b)]) C dL_law_365 (by decide) rfl ?_
    refine z_goto (tgt := 1348) C dL_law_367 (by decide) ?_
    refine z_lv (lv' := [(4, .int (zI (z))), (3, .ref (ad1 951)), (2, .ref (ad1 921)), (1, .ref (ad1 0)), (0, .ref b)]) [2, 3, 4, 5, 6] rfl ?_
    refine z_widen (k2 := k + 16) (n2 := n + 2150) (show k + 6 + 0 ≤ k + 16 by omega) (show n + 36 + 0 ≤ n + 2150 by omega) ?_
    exact hK _ _ _ _ hN2 ⟨_, _, _, _, _, _, _, _, _, _, _, _, _, _, _, _, _, _, _, _, _, _, _, (hR1.o951 (fun j hj => hG2 j (by omega))), hM2, (hJ.keep ⟨hF2.1, hF2.2.1, hF2.2.2.2.2.1, hF2.2.2.2.2.2.2.2.1, hF2.2.2.2.2.2.2.2.2.1, hF2.2.2.2.2.2.2.2.2.2.1, hF2.2.2.2.2.2.2.2.2.2.2⟩), (hW.ques (fun j a b => hA1 j (by omega)) (fun j a b => (hG2 j (by omega)).trans (hKG j a b)) (fun j a b => (hG2 j (by omega)).trans (hG1 j (by omega) (by omega))) ⟨hF2.2.2.1, hF2.2.2.2.1, hF2.2.2.2.2.2.1, hF2.2.2.2.2.2.2.1, hF2.2.2.2.2.2.2.2.1⟩ hP2 hw2)⟩ ((hG2 951 (by omega)).trans hq1)

set_option maxRecDepth 100000 in
set_option maxHeartbeats 4000000 in
theorem law_c3 {p : Program} {l : Launch} {e : Env} {s : State} {m : MethodId} {below : List Frame} {meth : Method} {c : Code} {D : va_G} {A : Nat → Prop} {cs : Nat → ClassId} {tt : Nat} {b L : Nat} {xs : Nat → Int32} {N : Nat} {ad : Nat → Nat} {g : Nat → va_E} {k n : Nat} {x z : Int} {q : Nat → Int} {w1 w2 w3 w4 w5 : Int} (hl0 : l.stackTraces = false) (C : zC p s m #[Value.ref b] c cL_law 7 RL D A cs tt) (hr : meth.sig.returnType = ret) (hlk : meth.locks = false) (hA : ∀ q, A q → s.heap.size ≤ q) (hX : va_X b L xs s s.heap) (hbl : b < s.heap.size) (hbA : ¬ A b) (hL : L ≤ 3072) (hN : 952 ≤ N) (hJI : JI cs ad g N x) (hq : g 951 = jA cs 1 q) (hx : 0 ≤ x ∧ x ≤ 511) (hz : z = 6 * x) (hzL : z + 6 ≤ (L : Int)) (hk : k ≤ 590000) (hn : n ≤ 7000000) (hw1r : -2147483648 ≤ w1 ∧ w1 ≤ 2147483647) (hw1 : xs (z + 1).toNat = zI w1) (hw2r : -2147483648 ≤ w2 ∧ w2 ≤ 2147483647) (hw2 : xs (z + 2).toNat = zI w2) (hw3r : -2147483648 ≤ w3 ∧ w3 ≤ 2147483647) (hw3 : xs (z + 3).toNat = zI w3) (hw4r : -2147483648 ≤ w4 ∧ w4 ≤ 2147483647) (hw4 : xs (z + 4).toNat = zI w4) (hw5r : -2147483648 ≤ w5 ∧ w5 ≤ 2147483647) (hw5 : xs (z + 5).toNat = zI w5) (hK : ∀ (N' : Nat) (ad' : Nat → Nat) (g' : Nat → va_E) (q' : Nat → Int), 952 ≤ N' → JI cs ad' g' N' (x + 1) → g' 951 = jA cs 1 q' → zV p l e room_1 s m #[Value.ref b] below meth c (lw_Z below #[Value.ref b] s) D A 7 (N') ad' g' (k + 16) (n + 2150) 1348 [(4, .int (zI (z))), (3, .ref (ad' 951)), (2, .ref (ad' 921)), (1, .ref (ad' 0)), (0, .ref b)] []) : zV p l e room_1 s m #[Value.ref b] below meth c (lw_Z below #[Value.ref b] s) D A 7 (N) ad g (k) (n) 302 [(4, .int (zI (z))), (3, .ref (ad 951)), (2, .ref (ad 921)), (1, .ref (ad 0)), (0, .ref b)] [] := by
  have hay1 : zAt ad (0) (ad 0) := rfl
  have hay2 : zAt ad (921) (ad 921) := rfl
  have hay3 : zAt ad (951) (ad 951) := rfl
  obtain ⟨t, fp, im, nz, kz, sl, ho, st, op, ai, fa, mu, tb, tp, F, r, sR, oR, aR, fR, mR, bR, pR, hR, hM, hJ, hW⟩ := hJI
  have hPl := hW.pl
  refine z_aload_n C 3 dL_law_302 rfl ?_
  refine z_aload_n C 4 dL_law_303 rfl ?_
  refine z_iload C 0 dL_law_304 rfl ?_
  refine z_iconst (z := 1) C dL_law_306 rfl ?_
  refine z_iadd C dL_law_307 ?_
  refine z_sld C hX hbl hbA (z + 1).toNat (by omega) (by omega) (by omega) hw1 dL_law_308 ?_
  refine z_aload_n C 1 dL_law_309 rfl ?_
  refine z_cSW (As := [.ref (ad 0), .int (zI (w1)), .ref (ad 951)]) (rest := []) C (c_L_count l D A cs tt N ad _ hN hR hl0 q hq w1 hw1r) mW_yL_count q_870 hd_yL_count (by decide) (Nat.le_of_ble_eq_true rfl) ⟨show k + 6 ≤ 601024 by omega, show n + 36 ≤ 7293034 by omega⟩ dL_law_310 rfl (kI fun rk N1 ad1 g1 h1 => ?_)
  obtain ⟨⟨⟨hN1, hA1, hG1⟩, hKG⟩, h1⟩ := h1
  have hM1 : okMr cs ad1 g1 921 x F r sR oR aR fR mR bR pR := hM.grow (fun j a b => hA1 j (by omega)) (fun j a b => hG1 j (by omega) (by omega))
  have hN2 : 952 ≤ N1 := by omega
  rw [← hA1 0 (by omega), ← hA1 921 (by omega), ← hA1 951 (by omega)]
  have hay4 : zAt ad1 (921) (ad1 921) := rfl
  obtain ⟨hR1, q1, hq1⟩ := h1
  refine z_istore (lv' := [(5, .int (zI (rk))), (4, .int (zI (z))), (3, .ref (ad1 951)), (2, .ref (ad1 921)), (1, .ref (ad1 0)), (0, .ref b)]) C dL_law_313 (by decide) rfl ?_
  refine z_aload_n C 3 dL_law_315 rfl ?_
  refine z_aload_n C 5 dL_law_316 rfl ?_
  refine z_iload C 1 dL_law_317 rfl ?_
  refine z_iconst (z := 1) C dL_law_319 rfl ?_
  refine z_iadd C dL_law_320 ?_
  refine z_sld C hX hbl hbA (z + 1).toNat (by omega) (by omega) (by omega) hw1 dL_law_321 ?_
  refine z_cV (As := [.int (zI (w1))]) (rest := []) (ci := 12) C (c_X10_count l D A cs tt N1 ad1 _ 921 (by omega) x (by omega) F r hM1 hPl w1 hw1r) (by omega) hay4 hM1.1 rfl rfl mv_yX10_count q_1725 hd_yX10_count (by decide) (Nat.le_of_ble_eq_true rfl) ⟨show k + 6 + 0 ≤ 601024 by omega, show n + 36 + 0 ≤ 7293034 by omega⟩ dL_law_322 rfl (kI0 fun ry gy hy => ?_)
  obtain ⟨hry, ⟨F2, r2, hM2, hF2, hP2, hw2⟩, hG2⟩ := hy
  refine z_istore (lv' := [(6, .int (zI (ry))), (5, .int (zI (rk))), (4, .int (zI (z))), (3, .ref (ad1 951)), (2, .ref (ad1 921)), (1, .ref (ad1 0)), (0, .ref b)]) C dL_law_325 (by decide) rfl ?_
  refine z_goto (tgt := 1348) C dL_law_327 (by decide) ?_
  refine z_lv (lv' := [(4, .int (zI (z))), (3, .ref (ad1 951)), (2, .ref (ad1 921)), (1, .ref (ad1 0)), (0, .ref b)]) [2, 3, 4, 5, 6] rfl ?_
  refine z_widen (k2 := k + 16) (n2 := n + 2150) (show k + 6 + 0 ≤ k + 16 by omega) (show n + 36 + 0 ≤ n + 2150 by omega) ?_
  exact hK _ _ _ _ hN2 ⟨_, _, _, _, _, _, _, _, _, _, _, _, _, _, _, _, _, _, _, _, _, _, _, (hR1.o951 (fun j hj => hG2 j (by omega))), hM2, (hJ.keep ⟨hF2.1, hF2.2.1, hF2.2.2.2.2.1, hF2.2.2.2.2.2.2.2.1, hF2.2.2.2.2.2.2.2.2.1, hF2.2.2.2.2.2.2.2.2.2.1, hF2.2.2.2.2.2.2.2.2.2.2⟩), (hW.ques (fun j a b => hA1 j (by omega)) (fun j a b => (hG2 j (by omega)).trans (hKG j a b)) (fun j a b => (hG2 j (by omega)).trans (hG1 j (by omega) (by omega))) ⟨hF2.2.2.1, hF2.2.2.2.1, hF2.2.2.2.2.2.1, hF2.2.2.2.2.2.2.1, hF2.2.2.2.2.2.2.2.1⟩ hP2 hw2)⟩ ((hG2 951 (by omega)).trans hq1)

set_option maxRecDepth 100000 in
set_option maxHeartbeats 4000000 in
theorem law_c5 {p : Program} {l : Launch} {e : Env} {s : State} {m : MethodId} {below : List Frame} {meth : Method} {c : Code} {D : va_G} {A : Nat → Prop} {cs : Nat → ClassId} {tt : Nat} {b L : Nat} {xs : Nat → Int32} {N : Nat} {ad : Nat → Nat} {g : Nat → va_E} {k n : Nat} {x z : Int} {q : Nat → Int} {w1 w2 w3 w4 w5 : Int} (hl0 : l.stackTraces = false) (C : zC p s m #[Value.ref b] c cL_law 7 RL D A cs tt) (hr : meth.sig.returnType = ret) (hlk : meth.locks = false) (hA : ∀ q, A q → s.heap.size ≤ q) (hX : va_X b L xs s s.heap) (hbl : b < s.heap.size) (hbA : ¬ A b) (hL : L ≤ 3072) (hN : 952 ≤ N) (hJI : JI cs ad g N x) (hq : g 951 = jA cs 1 q) (hx : 0 ≤ x ∧ x ≤ 511) (hz : z = 6 * x) (hzL : z + 6 ≤ (L : Int)) (hk : k ≤ 590000) (hn : n ≤ 7000000) (hw1r : -2147483648 ≤ w1 ∧ w1 ≤ 2147483647) (hw1 : xs (z + 1).toNat = zI w1) (hw2r : -2147483648 ≤ w2 ∧ w2 ≤ 2147483647) (hw2 : xs (z + 2).toNat = zI w2) (hw3r : -2147483648 ≤ w3 ∧ w3 ≤ 2147483647) (hw3 : xs (z + 3).toNat = zI w3) (hw4r : -2147483648 ≤ w4 ∧ w4 ≤ 2147483647) (hw4 : xs (z + 4).toNat = zI w4) (hw5r : -2147483648 ≤ w5 ∧ w5 ≤ 2147483647) (hw5 : xs (z + 5).toNat = zI w5) (hK : ∀ (N' : Nat) (ad' : Nat → Nat) (g' : Nat → va_E) (q' : Nat → Int), 952 ≤ N' → JI cs ad' g' N' (x + 1) → g' 951 = jA cs 1 q' → zV p l e room_1 s m #[Value.ref b] below meth c (lw_Z below #[Value.ref b] s) D A 7 (N') ad' g' (k + 16) (n + 2150) 1348 [(4, .int (zI (z))), (3, .ref (ad' 951)), (2, .ref (ad' 921)), (1, .ref (ad' 0)), (0, .ref b)] []) : zV p l e room_1 s m #[Value.ref b] below meth c (lw_Z below #[Value.ref b] s) D A 7 (N) ad g (k) (n) 370 [(4, .int (zI (z))), (3, .ref (ad 951)), (2, .ref (ad 921)), (1, .ref (ad 0)), (0, .ref b)] [] := by
  have hay1 : zAt ad (0) (ad 0) := rfl
  have hay2 : zAt ad (921) (ad 921) := rfl
  have hay3 : zAt ad (951) (ad 951) := rfl
  obtain ⟨t, fp, im, nz, kz, sl, ho, st, op, ai, fa, mu, tb, tp, F, r, sR, oR, aR, fR, mR, bR, pR, hR, hM, hJ, hW⟩ := hJI
  have hPl := hW.pl
  refine z_aload_n C 3 dL_law_370 rfl ?_
  refine z_aload_n C 4 dL_law_371 rfl ?_
  refine z_iload C 0 dL_law_372 rfl ?_
  refine z_iconst (z := 1) C dL_law_374 rfl ?_
  refine z_iadd C dL_law_375 ?_
  refine z_sld C hX hbl hbA (z + 1).toNat (by omega) (by omega) (by omega) hw1 dL_law_376 ?_
  refine z_aload_n C 4 dL_law_377 rfl ?_
  refine z_iload C 0 dL_law_378 rfl ?_
  refine z_iconst (z := 2) C dL_law_380 rfl ?_
  refine z_iadd C dL_law_381 ?_
  refine z_sld C hX hbl hbA (z + 2).toNat (by omega) (by omega) (by omega) hw2 dL_law_382 ?_
  refine z_aload_n C 1 dL_law_383 rfl ?_
  refine z_cSW (As := [.ref (ad 0), .int (zI (w1)), .int (zI (w2)), .ref (ad 951)]) (rest := []) C (c_L_slope l D A cs tt N ad _ hN hR hl0 q hq w1 hw1r w2 hw2r) mW_yL_slope q_929 hd_yL_slope (by decide) (Nat.le_of_ble_eq_true rfl) ⟨show k + 6 ≤ 601024 by omega, show n + 36 ≤ 7293034 by omega⟩ dL_law_384 rfl (kI fun rk N1 ad1 g1 h1 => ?_)
  obtain ⟨⟨⟨hN1, hA1, hG1⟩, hKG⟩, h1⟩ := h1
  have hM1 : okMr cs ad1 g1 921 x F r sR oR aR fR mR bR pR := hM.grow (fun j a b => hA1 j (by omega)) (fun j a b => hG1 j (by omega) (by omega))
  have hN2 : 952 ≤ N1 := by omega
  rw [← hA1 0 (by omega), ← hA1 921 (by omega), ← hA1 951 (by omega)]
  have hay4 : zAt ad1 (921) (ad1 921) := rfl
  obtain ⟨hR1, q1, hq1⟩ := h1
  refine z_istore (lv' := [(5, .int (zI (rk))), (4, .int (zI (z))), (3, .ref (ad1 951)), (2, .ref (ad1 921)), (1, .ref (ad1 0)), (0, .ref b)]) C dL_law_387 (by decide) rfl ?_
  refine z_aload_n C 3 dL_law_389 rfl ?_
  refine z_aload_n C 5 dL_law_390 rfl ?_
  refine z_iload C 1 dL_law_391 rfl ?_
  refine z_iconst (z := 1) C dL_law_393 rfl ?_
  refine z_iadd C dL_law_394 ?_
  refine z_sld C hX hbl hbA (z + 1).toNat (by omega) (by omega) (by omega) hw1 dL_law_395 ?_
  refine z_aload_n C 5 dL_law_396 rfl ?_
  refine z_iload C 1 dL_law_397 rfl ?_
  refine z_iconst (z := 2) C dL_law_399 rfl ?_
  refine z_iadd C dL_law_400 ?_
  refine z_sld C hX hbl hbA (z + 2).toNat (by omega) (by omega) (by omega) hw2 dL_law_401 ?_
  refine z_cV (As := [.int (zI (w1)), .int (zI (w2))]) (rest := []) (ci := 12) C (c_X10_slope l D A cs tt N1 ad1 _ 921 (by omega) x (by omega) F r hM1 hPl w1 hw1r w2 hw2r) (by omega) hay4 hM1.1 rfl rfl mv_yX10_slope q_1799 hd_yX10_slope (by decide) (Nat.le_of_ble_eq_true rfl) ⟨show k + 6 + 0 ≤ 601024 by omega, show n + 36 + 0 ≤ 7293034 by omega⟩ dL_law_402 rfl (kI0 fun ry gy hy => ?_)
  obtain ⟨hry, ⟨F2, r2, hM2, hF2, hP2, hw2⟩, hG2⟩ := hy
  refine z_istore (lv' := [(6, .int (zI (ry))), (5, .int (zI (rk))), (4, .int (zI (z))), (3, .ref (ad1 951)), (2, .ref (ad1 921)), (1, .ref (ad1 0)), (0, .ref b)]) C dL_law_405 (by decide) rfl ?_
  refine z_goto (tgt := 1348) C dL_law_407 (by decide) ?_
  refine z_lv (lv' := [(4, .int (zI (z))), (3, .ref (ad1 951)), (2, .ref (ad1 921)), (1, .ref (ad1 0)), (0, .ref b)]) [2, 3, 4, 5, 6] rfl ?_
  refine z_widen (k2 := k + 16) (n2 := n + 2150) (show k + 6 + 0 ≤ k + 16 by omega) (show n + 36 + 0 ≤ n + 2150 by omega) ?_
  exact hK _ _ _ _ hN2 ⟨_, _, _, _, _, _, _, _, _, _, _, _, _, _, _, _, _, _, _, _, _, _, _, (hR1.o951 (fun j hj => hG2 j (by omega))), hM2, (hJ.keep ⟨hF2.1, hF2.2.1, hF2.2.2.2.2.1, hF2.2.2.2.2.2.2.2.1, hF2.2.2.2.2.2.2.2.2.1, hF2.2.2.2.2.2.2.2.2.2.1, hF2.2.2.2.2.2.2.2.2.2.2⟩), (hW.ques (fun j a b => hA1 j (by omega)) (fun j a b => (hG2 j (by omega)).trans (hKG j a b)) (fun j a b => (hG2 j (by omega)).trans (hG1 j (by omega) (by omega))) ⟨hF2.2.2.1, hF2.2.2.2.1, hF2.2.2.2.2.2.1, hF2.2.2.2.2.2.2.1, hF2.2.2.2.2.2.2.2.1⟩ hP2 hw2)⟩ ((hG2 951 (by omega)).trans hq1)

set_option maxRecDepth 100000 in
set_option maxHeartbeats 4000000 in
theorem law_c6 {p : Program} {l : Launch} {e : Env} {s : State} {m : MethodId} {below : List Frame} {meth : Method} {c : Code} {D : va_G} {A : Nat → Prop} {cs : Nat → ClassId} {tt : Nat} {b L : Nat} {xs : Nat → Int32} {N : Nat} {ad : Nat → Nat} {g : Nat → va_E} {k n : Nat} {x z : Int} {q : Nat → Int} {w1 w2 w3 w4 w5 : Int} (hl0 : l.stackTraces = false) (C : zC p s m #[Value.ref b] c cL_law 7 RL D A cs tt) (hr : meth.sig.returnType = ret) (hlk : meth.locks = false) (hA : ∀ q, A q → s.heap.size ≤ q) (hX : va_X b L xs s s.heap) (hbl : b < s.heap.size) (hbA : ¬ A b) (hL : L ≤ 3072) (hN : 952 ≤ N) (hJI : JI cs ad g N x) (hq : g 951 = jA cs 1 q) (hx : 0 ≤ x ∧ x ≤ 511) (hz : z = 6 * x) (hzL : z + 6 ≤ (L : Int)) (hk : k ≤ 590000) (hn : n ≤ 7000000) (hw1r : -2147483648 ≤ w1 ∧ w1 ≤ 2147483647) (hw1 : xs (z + 1).toNat = zI w1) (hw2r : -2147483648 ≤ w2 ∧ w2 ≤ 2147483647) (hw2 : xs (z + 2).toNat = zI w2) (hw3r : -2147483648 ≤ w3 ∧ w3 ≤ 2147483647) (hw3 : xs (z + 3).toNat = zI w3) (hw4r : -2147483648 ≤ w4 ∧ w4 ≤ 2147483647) (hw4 : xs (z + 4).toNat = zI w4) (hw5r : -2147483648 ≤ w5 ∧ w5 ≤ 2147483647) (hw5 : xs (z + 5).toNat = zI w5) (hK : ∀ (N' : Nat) (ad' : Nat → Nat) (g' : Nat → va_E) (q' : Nat → Int), 952 ≤ N' → JI cs ad' g' N' (x + 1) → g' 951 = jA cs 1 q' → zV p l e room_1 s m #[Value.ref b] below meth c (lw_Z below #[Value.ref b] s) D A 7 (N') ad' g' (k + 16) (n + 2150) 1348 [(4, .int (zI (z))), (3, .ref (ad' 951)), (2, .ref (ad' 921)), (1, .ref (ad' 0)), (0, .ref b)] []) : zV p l e room_1 s m #[Value.ref b] below meth c (lw_Z below #[Value.ref b] s) D A 7 (N) ad g (k) (n) 410 [(4, .int (zI (z))), (3, .ref (ad 951)), (2, .ref (ad 921)), (1, .ref (ad 0)), (0, .ref b)] [] := by
  have hay1 : zAt ad (0) (ad 0) := rfl
  have hay2 : zAt ad (921) (ad 921) := rfl
  have hay3 : zAt ad (951) (ad 951) := rfl
  obtain ⟨t, fp, im, nz, kz, sl, ho, st, op, ai, fa, mu, tb, tp, F, r, sR, oR, aR, fR, mR, bR, pR, hR, hM, hJ, hW⟩ := hJI
  have hPl := hW.pl
  refine z_aload_n C 3 dL_law_410 rfl ?_
  refine z_aload_n C 4 dL_law_411 rfl ?_
  refine z_iload C 0 dL_law_412 rfl ?_
  refine z_iconst (z := 1) C dL_law_414 rfl ?_
  refine z_iadd C dL_law_415 ?_
  refine z_sld C hX hbl hbA (z + 1).toNat (by omega) (by omega) (by omega) hw1 dL_law_416 ?_
  refine z_aload_n C 4 dL_law_417 rfl ?_
  refine z_iload C 0 dL_law_418 rfl ?_
  refine z_iconst (z := 2) C dL_law_420 rfl ?_
  refine z_iadd C dL_law_421 ?_
  refine z_sld C hX hbl hbA (z + 2).toNat (by omega) (by omega) (by omega) hw2 dL_law_422 ?_
  refine z_aload_n C 4 dL_law_423 rfl ?_
  refine z_iload C 0 dL_law_424 rfl ?_
  refine z_iconst (z := 3) C dL_law_426 rfl ?_
  refine z_iadd C dL_law_427 ?_
  refine z_sld C hX hbl hbA (z + 3).toNat (by omega) (by omega) (by omega) hw3 dL_law_428 ?_
  refine z_aload_n C 1 dL_law_429 rfl ?_
  refine z_cSW (As := [.ref (ad 0), .int (zI (w1)), .int (zI (w2)), .int (zI (w3)), .ref (ad 951)]) (rest := []) C (c_L_layer l D A cs tt N ad _ hN hR hl0 q hq w1 hw1r w2 hw2r w3 hw3r) mW_yL_layer q_948 hd_yL_layer (by decide) (Nat.le_of_ble_eq_true rfl) ⟨show k + 6 ≤ 601024 by omega, show n + 36 ≤ 7293034 by omega⟩ dL_law_430 rfl (kI fun rk N1 ad1 g1 h1 => ?_)
  obtain ⟨⟨⟨hN1, hA1, hG1⟩, hKG⟩, h1⟩ := h1
  have hM1 : okMr cs ad1 g1 921 x F r sR oR aR fR mR bR pR := hM.grow (fun j a b => hA1 j (by omega)) (fun j a b => hG1 j (by omega) (by omega))
  have hN2 : 952 ≤ N1 := by omega
  rw [← hA1 0 (by omega), ← hA1 921 (by omega), ← hA1 951 (by omega)]
  have hay4 : zAt ad1 (921) (ad1 921) := rfl
  obtain ⟨hR1, q1, hq1⟩ := h1
  refine z_istore (lv' := [(5, .int (zI (rk))), (4, .int (zI (z))), (3, .ref (ad1 951)), (2, .ref (ad1 921)), (1, .ref (ad1 0)), (0, .ref b)]) C dL_law_433 (by decide) rfl ?_
  refine z_aload_n C 3 dL_law_435 rfl ?_
  refine z_aload_n C 5 dL_law_436 rfl ?_
  refine z_iload C 1 dL_law_437 rfl ?_
  refine z_iconst (z := 1) C dL_law_439 rfl ?_
  refine z_iadd C dL_law_440 ?_
  refine z_sld C hX hbl hbA (z + 1).toNat (by omega) (by omega) (by omega) hw1 dL_law_441 ?_
  refine z_aload_n C 5 dL_law_442 rfl ?_
  refine z_iload C 1 dL_law_443 rfl ?_
  refine z_iconst (z := 2) C dL_law_445 rfl ?_
  refine z_iadd C dL_law_446 ?_
  refine z_sld C hX hbl hbA (z + 2).toNat (by omega) (by omega) (by omega) hw2 dL_law_447 ?_
  refine z_aload_n C 5 dL_law_448 rfl ?_
  refine z_iload C 1 dL_law_449 rfl ?_
  refine z_iconst (z := 3) C dL_law_451 rfl ?_
  refine z_iadd C dL_law_452 ?_
  refine z_sld C hX hbl hbA (z + 3).toNat (by omega) (by omega) (by omega) hw3 dL_law_453 ?_
  refine z_cV (As := [.int (zI (w1)), .int (zI (w2)), .int (zI (w3))]) (rest := []) (ci := 12) C (c_X10_layer l D A cs tt N1 ad1 _ 921 (by omega) x (by omega) F r hM1 hPl w1 hw1r w2 hw2r w3 hw3r) (by omega) hay4 hM1.1 rfl rfl mv_yX10_layer q_1815 hd_yX10_layer (by decide) (Nat.le_of_ble_eq_true rfl) ⟨show k + 6 + 0 ≤ 601024 by omega, show n + 36 + 0 ≤ 7293034 by omega⟩ dL_law_454 rfl (kI0 fun ry gy hy => ?_)
  obtain ⟨hry, ⟨F2, r2, hM2, hF2, hP2, hw2⟩, hG2⟩ := hy
  refine z_istore (lv' := [(6, .int (zI (ry))), (5, .int (zI (rk))), (4, .int (zI (z))), (3, .ref (ad1 951)), (2, .ref (ad1 921)), (1, .ref (ad1 0)), (0, .ref b)]) C dL_law_457 (by decide) rfl ?_
  refine z_goto (tgt := 1348) C dL_law_459 (by decide) ?_
  refine z_lv (lv' := [(4, .int (zI (z))), (3, .ref (ad1 951)), (2, .ref (ad1 921)), (1, .ref (ad1 0)), (0, .ref b)]) [2, 3, 4, 5, 6] rfl ?_
  refine z_widen (k2 := k + 16) (n2 := n + 2150) (show k + 6 + 0 ≤ k + 16 by omega) (show n + 36 + 0 ≤ n + 2150 by omega) ?_
  exact hK _ _ _ _ hN2 ⟨_, _, _, _, _, _, _, _, _, _, _, _, _, _, _, _, _, _, _, _, _, _, _, (hR1.o951 (fun j hj => hG2 j (by omega))), hM2, (hJ.keep ⟨hF2.1, hF2.2.1, hF2.2.2.2.2.1, hF2.2.2.2.2.2.2.2.1, hF2.2.2.2.2.2.2.2.2.1, hF2.2.2.2.2.2.2.2.2.2.1, hF2.2.2.2.2.2.2.2.2.2.2⟩), (hW.ques (fun j a b => hA1 j (by omega)) (fun j a b => (hG2 j (by omega)).trans (hKG j a b)) (fun j a b => (hG2 j (by omega)).trans (hG1 j (by omega) (by omega))) ⟨hF2.2.2.1, hF2.2.2.2.1, hF2.2.2.2.2.2.1, hF2.2.2.2.2.2.2.1, hF2.2.2.2.2.2.2.2.1⟩ hP2 hw2)⟩ ((hG2 951 (by omega)).trans hq1)

set_option maxRecDepth 100000 in
set_option maxHeartbeats 4000000 in
theorem law_c7 {p : Program} {l : Launch} {e : Env} {s : State} {m : MethodId} {below : List Frame} {meth : Method} {c : Code} {D : va_G} {A : Nat → Prop} {cs : Nat → ClassId} {tt : Nat} {b L : Nat} {xs : Nat → Int32} {N : Nat} {ad : Nat → Nat} {g : Nat → va_E} {k n : Nat} {x z : Int} {q : Nat → Int} {w1 w2 w3 w4 w5 : Int} (hl0 : l.stackTraces = false) (C : zC p s m #[Value.ref b] c cL_law 7 RL D A cs tt) (hr : meth.sig.returnType = ret) (hlk : meth.locks = false) (hA : ∀ q, A q → s.heap.size ≤ q) (hX : va_X b L xs s s.heap) (hbl : b < s.heap.size) (hbA : ¬ A b) (hL : L ≤ 3072) (hN : 952 ≤ N) (hJI : JI cs ad g N x) (hq : g 951 = jA cs 1 q) (hx : 0 ≤ x ∧ x ≤ 511) (hz : z = 6 * x) (hzL : z + 6 ≤ (L : Int)) (hk : k ≤ 590000) (hn : n ≤ 7000000) (hw1r : -2147483648 ≤ w1 ∧ w1 ≤ 2147483647) (hw1 : xs (z + 1).toNat = zI w1) (hw2r : -2147483648 ≤ w2 ∧ w2 ≤ 2147483647) (hw2 : xs (z + 2).toNat = zI w2) (hw3r : -2147483648 ≤ w3 ∧ w3 ≤ 2147483647) (hw3 : xs (z + 3).toNat = zI w3) (hw4r : -2147483648 ≤ w4 ∧ w4 ≤ 2147483647) (hw4 : xs (z + 4).toNat = zI w4) (hw5r : -2147483648 ≤ w5 ∧ w5 ≤ 2147483647) (hw5 : xs (z + 5).toNat = zI w5) (hK : ∀ (N' : Nat) (ad' : Nat → Nat) (g' : Nat → va_E) (q' : Nat → Int), 952 ≤ N' → JI cs ad' g' N' (x + 1) → g' 951 = jA cs 1 q' → zV p l e room_1 s m #[Value.ref b] below meth c (lw_Z below #[Value.ref b] s) D A 7 (N') ad' g' (k + 16) (n + 2150) 1348 [(4, .int (zI (z))), (3, .ref (ad' 951)), (2, .ref (ad' 921)), (1, .ref (ad' 0)), (0, .ref b)] []) : zV p l e room_1 s m #[Value.ref b] below meth c (lw_Z below #[Value.ref b] s) D A 7 (N) ad g (k) (n) 462 [(4, .int (zI (z))), (3, .ref (ad 951)), (2, .ref (ad 921)), (1, .ref (ad 0)), (0, .ref b)] [] := by
  have hay1 : zAt ad (0) (ad 0) := rfl
  have hay2 : zAt ad (921) (ad 921) := rfl
  have hay3 : zAt ad (951) (ad 951) := rfl
  obtain ⟨t, fp, im, nz, kz, sl, ho, st, op, ai, fa, mu, tb, tp, F, r, sR, oR, aR, fR, mR, bR, pR, hR, hM, hJ, hW⟩ := hJI
  have hPl := hW.pl
  refine z_aload_n C 3 dL_law_462 rfl ?_
  refine z_aload_n C 4 dL_law_463 rfl ?_
  refine z_iload C 0 dL_law_464 rfl ?_
  refine z_iconst (z := 1) C dL_law_466 rfl ?_
  refine z_iadd C dL_law_467 ?_
  refine z_sld C hX hbl hbA (z + 1).toNat (by omega) (by omega) (by omega) hw1 dL_law_468 ?_
  refine z_aload_n C 4 dL_law_469 rfl ?_
  refine z_iload C 0 dL_law_470 rfl ?_
  refine z_iconst (z := 2) C dL_law_472 rfl ?_
  refine z_iadd C dL_law_473 ?_
  refine z_sld C hX hbl hbA (z + 2).toNat (by omega) (by omega) (by omega) hw2 dL_law_474 ?_
  refine z_aload_n C 4 dL_law_475 rfl ?_
  refine z_iload C 0 dL_law_476 rfl ?_
  refine z_iconst (z := 3) C dL_law_478 rfl ?_
  refine z_iadd C dL_law_479 ?_
  refine z_sld C hX hbl hbA (z + 3).toNat (by omega) (by omega) (by omega) hw3 dL_law_480 ?_
  refine z_aload_n C 1 dL_law_481 rfl ?_
  refine z_cSW (As := [.ref (ad 0), .int (zI (w1)), .int (zI (w2)), .int (zI (w3)), .ref (ad 951)]) (rest := []) C (c_L_told l D A cs tt N ad _ hN hR hl0 q hq w1 hw1r w2 hw2r w3 hw3r) mW_yL_told q_967 hd_yL_told (by decide) (Nat.le_of_ble_eq_true rfl) ⟨show k + 16 ≤ 601024 by omega, show n + 2150 ≤ 7293034 by omega⟩ dL_law_482 rfl (kI fun rk N1 ad1 g1 h1 => ?_)
  obtain ⟨⟨⟨hN1, hA1, hG1⟩, hKG⟩, h1⟩ := h1
  have hM1 : okMr cs ad1 g1 921 x F r sR oR aR fR mR bR pR := hM.grow (fun j a b => hA1 j (by omega)) (fun j a b => hG1 j (by omega) (by omega))
  have hN2 : 952 ≤ N1 := by omega
  rw [← hA1 0 (by omega), ← hA1 921 (by omega), ← hA1 951 (by omega)]
  have hay4 : zAt ad1 (921) (ad1 921) := rfl
  obtain ⟨hR1, q1, hq1⟩ := h1
  refine z_istore (lv' := [(5, .int (zI (rk))), (4, .int (zI (z))), (3, .ref (ad1 951)), (2, .ref (ad1 921)), (1, .ref (ad1 0)), (0, .ref b)]) C dL_law_485 (by decide) rfl ?_
  refine z_aload_n C 3 dL_law_487 rfl ?_
  refine z_aload_n C 5 dL_law_488 rfl ?_
  refine z_iload C 1 dL_law_489 rfl ?_
  refine z_iconst (z := 1) C dL_law_491 rfl ?_
  refine z_iadd C dL_law_492 ?_
  refine z_sld C hX hbl hbA (z + 1).toNat (by omega) (by omega) (by omega) hw1 dL_law_493 ?_
  refine z_aload_n C 5 dL_law_494 rfl ?_
  refine z_iload C 1 dL_law_495 rfl ?_
  refine z_iconst (z := 2) C dL_law_497 rfl ?_
  refine z_iadd C dL_law_498 ?_
  refine z_sld C hX hbl hbA (z + 2).toNat (by omega) (by omega) (by omega) hw2 dL_law_499 ?_
  refine z_aload_n C 5 dL_law_500 rfl ?_
  refine z_iload C 1 dL_law_501 rfl ?_
  refine z_iconst (z := 3) C dL_law_503 rfl ?_
  refine z_iadd C dL_law_504 ?_
  refine z_sld C hX hbl hbA (z + 3).toNat (by omega) (by omega) (by omega) hw3 dL_law_505 ?_
  refine z_cV (As := [.int (zI (w1)), .int (zI (w2)), .int (zI (w3))]) (rest := []) (ci := 12) C (c_X10_told l D A cs tt N1 ad1 _ 921 (by omega) x (by omega) F r hM1 hPl w1 hw1r w2 hw2r w3 hw3r) (by omega) hay4 hM1.1 rfl rfl mv_yX10_told q_1842 hd_yX10_told (by decide) (Nat.le_of_ble_eq_true rfl) ⟨show k + 16 + 0 ≤ 601024 by omega, show n + 2150 + 0 ≤ 7293034 by omega⟩ dL_law_506 rfl (kI0 fun ry gy hy => ?_)
  obtain ⟨hry, ⟨F2, r2, hM2, hF2, hP2, hw2⟩, hG2⟩ := hy
  refine z_istore (lv' := [(6, .int (zI (ry))), (5, .int (zI (rk))), (4, .int (zI (z))), (3, .ref (ad1 951)), (2, .ref (ad1 921)), (1, .ref (ad1 0)), (0, .ref b)]) C dL_law_509 (by decide) rfl ?_
  refine z_goto (tgt := 1348) C dL_law_511 (by decide) ?_
  refine z_lv (lv' := [(4, .int (zI (z))), (3, .ref (ad1 951)), (2, .ref (ad1 921)), (1, .ref (ad1 0)), (0, .ref b)]) [2, 3, 4, 5, 6] rfl ?_
  refine z_widen (k2 := k + 16) (n2 := n + 2150) (show k + 16 + 0 ≤ k + 16 by omega) (show n + 2150 + 0 ≤ n + 2150 by omega) ?_
  exact hK _ _ _ _ hN2 ⟨_, _, _, _, _, _, _, _, _, _, _, _, _, _, _, _, _, _, _, _, _, _, _, (hR1.o951 (fun j hj => hG2 j (by omega))), hM2, (hJ.keep ⟨hF2.1, hF2.2.1, hF2.2.2.2.2.1, hF2.2.2.2.2.2.2.2.1, hF2.2.2.2.2.2.2.2.2.1, hF2.2.2.2.2.2.2.2.2.2.1, hF2.2.2.2.2.2.2.2.2.2.2⟩), (hW.ques (fun j a b => hA1 j (by omega)) (fun j a b => (hG2 j (by omega)).trans (hKG j a b)) (fun j a b => (hG2 j (by omega)).trans (hG1 j (by omega) (by omega))) ⟨hF2.2.2.1, hF2.2.2.2.1, hF2.2.2.2.2.2.1, hF2.2.2.2.2.2.2.1, hF2.2.2.2.2.2.2.2.1⟩ hP2 hw2)⟩ ((hG2 951 (by omega)).trans hq1)

set_option maxRecDepth 100000 in
set_option maxHeartbeats 4000000 in
theorem law_c14 {p : Program} {l : Launch} {e : Env} {s : State} {m : MethodId} {below : List Frame} {meth : Method} {c : Code} {D : va_G} {A : Nat → Prop} {cs : Nat → ClassId} {tt : Nat} {b L : Nat} {xs : Nat → Int32} {N : Nat} {ad : Nat → Nat} {g : Nat → va_E} {k n : Nat} {x z : Int} {q : Nat → Int} {w1 w2 w3 w4 w5 : Int} (hl0 : l.stackTraces = false) (C : zC p s m #[Value.ref b] c cL_law 7 RL D A cs tt) (hr : meth.sig.returnType = ret) (hlk : meth.locks = false) (hA : ∀ q, A q → s.heap.size ≤ q) (hX : va_X b L xs s s.heap) (hbl : b < s.heap.size) (hbA : ¬ A b) (hL : L ≤ 3072) (hN : 952 ≤ N) (hJI : JI cs ad g N x) (hq : g 951 = jA cs 1 q) (hx : 0 ≤ x ∧ x ≤ 511) (hz : z = 6 * x) (hzL : z + 6 ≤ (L : Int)) (hk : k ≤ 590000) (hn : n ≤ 7000000) (hw1r : -2147483648 ≤ w1 ∧ w1 ≤ 2147483647) (hw1 : xs (z + 1).toNat = zI w1) (hw2r : -2147483648 ≤ w2 ∧ w2 ≤ 2147483647) (hw2 : xs (z + 2).toNat = zI w2) (hw3r : -2147483648 ≤ w3 ∧ w3 ≤ 2147483647) (hw3 : xs (z + 3).toNat = zI w3) (hw4r : -2147483648 ≤ w4 ∧ w4 ≤ 2147483647) (hw4 : xs (z + 4).toNat = zI w4) (hw5r : -2147483648 ≤ w5 ∧ w5 ≤ 2147483647) (hw5 : xs (z + 5).toNat = zI w5) (hK : ∀ (N' : Nat) (ad' : Nat → Nat) (g' : Nat → va_E) (q' : Nat → Int), 952 ≤ N' → JI cs ad' g' N' (x + 1) → g' 951 = jA cs 1 q' → zV p l e room_1 s m #[Value.ref b] below meth c (lw_Z below #[Value.ref b] s) D A 7 (N') ad' g' (k + 16) (n + 2150) 1348 [(4, .int (zI (z))), (3, .ref (ad' 951)), (2, .ref (ad' 921)), (1, .ref (ad' 0)), (0, .ref b)] []) : zV p l e room_1 s m #[Value.ref b] below meth c (lw_Z below #[Value.ref b] s) D A 7 (N) ad g (k) (n) 676 [(4, .int (zI (z))), (3, .ref (ad 951)), (2, .ref (ad 921)), (1, .ref (ad 0)), (0, .ref b)] [] := by
  have hay1 : zAt ad (0) (ad 0) := rfl
  have hay2 : zAt ad (921) (ad 921) := rfl
  have hay3 : zAt ad (951) (ad 951) := rfl
  obtain ⟨t, fp, im, nz, kz, sl, ho, st, op, ai, fa, mu, tb, tp, F, r, sR, oR, aR, fR, mR, bR, pR, hR, hM, hJ, hW⟩ := hJI
  have hPl := hW.pl
  refine z_aload_n C 3 dL_law_676 rfl ?_
  refine z_aload_n C 4 dL_law_677 rfl ?_
  refine z_iload C 0 dL_law_678 rfl ?_
  refine z_iconst (z := 1) C dL_law_680 rfl ?_
  refine z_iadd C dL_law_681 ?_
  refine z_sld C hX hbl hbA (z + 1).toNat (by omega) (by omega) (by omega) hw1 dL_law_682 ?_
  refine z_aload_n C 4 dL_law_683 rfl ?_
  refine z_iload C 0 dL_law_684 rfl ?_
  refine z_iconst (z := 2) C dL_law_686 rfl ?_
  refine z_iadd C dL_law_687 ?_
  refine z_sld C hX hbl hbA (z + 2).toNat (by omega) (by omega) (by omega) hw2 dL_law_688 ?_
  refine z_aload_n C 4 dL_law_689 rfl ?_
  refine z_iload C 0 dL_law_690 rfl ?_
  refine z_iconst (z := 3) C dL_law_692 rfl ?_
  refine z_iadd C dL_law_693 ?_
  refine z_sld C hX hbl hbA (z + 3).toNat (by omega) (by omega) (by omega) hw3 dL_law_694 ?_
  refine z_aload_n C 1 dL_law_695 rfl ?_
  refine z_cSW (As := [.ref (ad 0), .int (zI (w1)), .int (zI (w2)), .int (zI (w3)), .ref (ad 951)]) (rest := []) C (c_L_then l D A cs tt N ad _ hN hR hl0 q hq w1 hw1r w2 hw2r w3 hw3r) mW_yL_then q_1213 hd_yL_then (by decide) (Nat.le_of_ble_eq_true rfl) ⟨show k + 6 ≤ 601024 by omega, show n + 60 ≤ 7293034 by omega⟩ dL_law_696 rfl (kI fun rk N1 ad1 g1 h1 => ?_)
  obtain ⟨⟨⟨hN1, hA1, hG1⟩, hKG⟩, h1⟩ := h1
  have hM1 : okMr cs ad1 g1 921 x F r sR oR aR fR mR bR pR := hM.grow (fun j a b => hA1 j (by omega)) (fun j a b => hG1 j (by omega) (by omega))
  have hN2 : 952 ≤ N1 := by omega
  rw [← hA1 0 (by omega), ← hA1 921 (by omega), ← hA1 951 (by omega)]
  have hay4 : zAt ad1 (921) (ad1 921) := rfl
  obtain ⟨hR1, q1, hq1⟩ := h1
  refine z_istore (lv' := [(5, .int (zI (rk))), (4, .int (zI (z))), (3, .ref (ad1 951)), (2, .ref (ad1 921)), (1, .ref (ad1 0)), (0, .ref b)]) C dL_law_699 (by decide) rfl ?_
  refine z_aload_n C 3 dL_law_701 rfl ?_
  refine z_aload_n C 5 dL_law_702 rfl ?_
  refine z_iload C 1 dL_law_703 rfl ?_
  refine z_iconst (z := 1) C dL_law_705 rfl ?_
  refine z_iadd C dL_law_706 ?_
  refine z_sld C hX hbl hbA (z + 1).toNat (by omega) (by omega) (by omega) hw1 dL_law_707 ?_
  refine z_aload_n C 5 dL_law_708 rfl ?_
  refine z_iload C 1 dL_law_709 rfl ?_
  refine z_iconst (z := 2) C dL_law_711 rfl ?_
  refine z_iadd C dL_law_712 ?_
  refine z_sld C hX hbl hbA (z + 2).toNat (by omega) (by omega) (by omega) hw2 dL_law_713 ?_
  refine z_aload_n C 5 dL_law_714 rfl ?_
  refine z_iload C 1 dL_law_715 rfl ?_
  refine z_iconst (z := 3) C dL_law_717 rfl ?_
  refine z_iadd C dL_law_718 ?_
  refine z_sld C hX hbl hbA (z + 3).toNat (by omega) (by omega) (by omega) hw3 dL_law_719 ?_
  refine z_cV (As := [.int (zI (w1)), .int (zI (w2)), .int (zI (w3))]) (rest := []) (ci := 12) C (c_X10_then l D A cs tt N1 ad1 _ 921 (by omega) x (by omega) F r hM1 hPl w1 hw1r w2 hw2r w3 hw3r) (by omega) hay4 hM1.1 rfl rfl mv_yX10_then q_1976 hd_yX10_then (by decide) (Nat.le_of_ble_eq_true rfl) ⟨show k + 6 + 0 ≤ 601024 by omega, show n + 60 + 0 ≤ 7293034 by omega⟩ dL_law_720 rfl (kI0 fun ry gy hy => ?_)
  obtain ⟨hry, ⟨F2, r2, hM2, hF2, hP2, hw2⟩, hG2⟩ := hy
  refine z_istore (lv' := [(6, .int (zI (ry))), (5, .int (zI (rk))), (4, .int (zI (z))), (3, .ref (ad1 951)), (2, .ref (ad1 921)), (1, .ref (ad1 0)), (0, .ref b)]) C dL_law_723 (by decide) rfl ?_
  refine z_goto (tgt := 1348) C dL_law_725 (by decide) ?_
  refine z_lv (lv' := [(4, .int (zI (z))), (3, .ref (ad1 951)), (2, .ref (ad1 921)), (1, .ref (ad1 0)), (0, .ref b)]) [2, 3, 4, 5, 6] rfl ?_
  refine z_widen (k2 := k + 16) (n2 := n + 2150) (show k + 6 + 0 ≤ k + 16 by omega) (show n + 60 + 0 ≤ n + 2150 by omega) ?_
  exact hK _ _ _ _ hN2 ⟨_, _, _, _, _, _, _, _, _, _, _, _, _, _, _, _, _, _, _, _, _, _, _, (hR1.o951 (fun j hj => hG2 j (by omega))), hM2, (hJ.keep ⟨hF2.1, hF2.2.1, hF2.2.2.2.2.1, hF2.2.2.2.2.2.2.2.1, hF2.2.2.2.2.2.2.2.2.1, hF2.2.2.2.2.2.2.2.2.2.1, hF2.2.2.2.2.2.2.2.2.2.2⟩), (hW.ques (fun j a b => hA1 j (by omega)) (fun j a b => (hG2 j (by omega)).trans (hKG j a b)) (fun j a b => (hG2 j (by omega)).trans (hG1 j (by omega) (by omega))) ⟨hF2.2.2.1, hF2.2.2.2.1, hF2.2.2.2.2.2.1, hF2.2.2.2.2.2.2.1, hF2.2.2.2.2.2.2.2.1⟩ hP2 hw2)⟩ ((hG2 951 (by omega)).trans hq1)

set_option maxRecDepth 100000 in
set_option maxHeartbeats 4000000 in
theorem law_c15 {p : Program} {l : Launch} {e : Env} {s : State} {m : MethodId} {below : List Frame} {meth : Method} {c : Code} {D : va_G} {A : Nat → Prop} {cs : Nat → ClassId} {tt : Nat} {b L : Nat} {xs : Nat → Int32} {N : Nat} {ad : Nat → Nat} {g : Nat → va_E} {k n : Nat} {x z : Int} {q : Nat → Int} {w1 w2 w3 w4 w5 : Int} (hl0 : l.stackTraces = false) (C : zC p s m #[Value.ref b] c cL_law 7 RL D A cs tt) (hr : meth.sig.returnType = ret) (hlk : meth.locks = false) (hA : ∀ q, A q → s.heap.size ≤ q) (hX : va_X b L xs s s.heap) (hbl : b < s.heap.size) (hbA : ¬ A b) (hL : L ≤ 3072) (hN : 952 ≤ N) (hJI : JI cs ad g N x) (hq : g 951 = jA cs 1 q) (hx : 0 ≤ x ∧ x ≤ 511) (hz : z = 6 * x) (hzL : z + 6 ≤ (L : Int)) (hk : k ≤ 590000) (hn : n ≤ 7000000) (hw1r : -2147483648 ≤ w1 ∧ w1 ≤ 2147483647) (hw1 : xs (z + 1).toNat = zI w1) (hw2r : -2147483648 ≤ w2 ∧ w2 ≤ 2147483647) (hw2 : xs (z + 2).toNat = zI w2) (hw3r : -2147483648 ≤ w3 ∧ w3 ≤ 2147483647) (hw3 : xs (z + 3).toNat = zI w3) (hw4r : -2147483648 ≤ w4 ∧ w4 ≤ 2147483647) (hw4 : xs (z + 4).toNat = zI w4) (hw5r : -2147483648 ≤ w5 ∧ w5 ≤ 2147483647) (hw5 : xs (z + 5).toNat = zI w5) (hK : ∀ (N' : Nat) (ad' : Nat → Nat) (g' : Nat → va_E) (q' : Nat → Int), 952 ≤ N' → JI cs ad' g' N' (x + 1) → g' 951 = jA cs 1 q' → zV p l e room_1 s m #[Value.ref b] below meth c (lw_Z below #[Value.ref b] s) D A 7 (N') ad' g' (k + 16) (n + 2150) 1348 [(4, .int (zI (z))), (3, .ref (ad' 951)), (2, .ref (ad' 921)), (1, .ref (ad' 0)), (0, .ref b)] []) : zV p l e room_1 s m #[Value.ref b] below meth c (lw_Z below #[Value.ref b] s) D A 7 (N) ad g (k) (n) 728 [(4, .int (zI (z))), (3, .ref (ad 951)), (2, .ref (ad 921)), (1, .ref (ad 0)), (0, .ref b)] [] := by
  have hay1 : zAt ad (0) (ad 0) := rfl
  have hay2 : zAt ad (921) (ad 921) := rfl
  have hay3 : zAt ad (951) (ad 951) := rfl
  obtain ⟨t, fp, im, nz, kz, sl, ho, st, op, ai, fa, mu, tb, tp, F, r, sR, oR, aR, fR, mR, bR, pR, hR, hM, hJ, hW⟩ := hJI
  have hPl := hW.pl
  refine z_aload_n C 3 dL_law_728 rfl ?_
  refine z_aload_n C 4 dL_law_729 rfl ?_
  refine z_iload C 0 dL_law_730 rfl ?_
  refine z_iconst (z := 1) C dL_law_732 rfl ?_
  refine z_iadd C dL_law_733 ?_
  refine z_sld C hX hbl hbA (z + 1).toNat (by omega) (by omega) (by omega) hw1 dL_law_734 ?_
  refine z_aload_n C 4 dL_law_735 rfl ?_
  refine z_iload C 0 dL_law_736 rfl ?_
  refine z_iconst (z := 2) C dL_law_738 rfl ?_
  refine z_iadd C dL_law_739 ?_
  refine z_sld C hX hbl hbA (z + 2).toNat (by omega) (by omega) (by omega) hw2 dL_law_740 ?_
  refine z_aload_n C 1 dL_law_741 rfl ?_
  refine z_cSW (As := [.ref (ad 0), .int (zI (w1)), .int (zI (w2)), .ref (ad 951)]) (rest := []) C (c_L_once l D A cs tt N ad _ hN hR hl0 q hq w1 hw1r w2 hw2r) mW_yL_once q_1233 hd_yL_once (by decide) (Nat.le_of_ble_eq_true rfl) ⟨show k + 6 ≤ 601024 by omega, show n + 60 ≤ 7293034 by omega⟩ dL_law_742 rfl (kI fun rk N1 ad1 g1 h1 => ?_)
  obtain ⟨⟨⟨hN1, hA1, hG1⟩, hKG⟩, h1⟩ := h1
  have hM1 : okMr cs ad1 g1 921 x F r sR oR aR fR mR bR pR := hM.grow (fun j a b => hA1 j (by omega)) (fun j a b => hG1 j (by omega) (by omega))
  have hN2 : 952 ≤ N1 := by omega
  rw [← hA1 0 (by omega), ← hA1 921 (by omega), ← hA1 951 (by omega)]
  have hay4 : zAt ad1 (921) (ad1 921) := rfl
  obtain ⟨hR1, q1, hq1⟩ := h1
  refine z_istore (lv' := [(5, .int (zI (rk))), (4, .int (zI (z))), (3, .ref (ad1 951)), (2, .ref (ad1 921)), (1, .ref (ad1 0)), (0, .ref b)]) C dL_law_745 (by decide) rfl ?_
  refine z_aload_n C 3 dL_law_747 rfl ?_
  refine z_aload_n C 5 dL_law_748 rfl ?_
  refine z_iload C 1 dL_law_749 rfl ?_
  refine z_iconst (z := 1) C dL_law_751 rfl ?_
  refine z_iadd C dL_law_752 ?_
  refine z_sld C hX hbl hbA (z + 1).toNat (by omega) (by omega) (by omega) hw1 dL_law_753 ?_
  refine z_aload_n C 5 dL_law_754 rfl ?_
  refine z_iload C 1 dL_law_755 rfl ?_
  refine z_iconst (z := 2) C dL_law_757 rfl ?_
  refine z_iadd C dL_law_758 ?_
  refine z_sld C hX hbl hbA (z + 2).toNat (by omega) (by omega) (by omega) hw2 dL_law_759 ?_
  refine z_cV (As := [.int (zI (w1)), .int (zI (w2))]) (rest := []) (ci := 12) C (c_X10_once l D A cs tt N1 ad1 _ 921 (by omega) x (by omega) F r hM1 hPl w1 hw1r w2 hw2r) (by omega) hay4 hM1.1 rfl rfl mv_yX10_once q_1984 hd_yX10_once (by decide) (Nat.le_of_ble_eq_true rfl) ⟨show k + 6 + 0 ≤ 601024 by omega, show n + 60 + 0 ≤ 7293034 by omega⟩ dL_law_760 rfl (kI0 fun ry gy hy => ?_)
  obtain ⟨hry, ⟨F2, r2, hM2, hF2, hP2, hw2⟩, hG2⟩ := hy
  refine z_istore (lv' := [(6, .int (zI (ry))), (5, .int (zI (rk))), (4, .int (zI (z))), (3, .ref (ad1 951)), (2, .ref (ad1 921)), (1, .ref (ad1 0)), (0, .ref b)]) C dL_law_763 (by decide) rfl ?_
  refine z_goto (tgt := 1348) C dL_law_765 (by decide) ?_
  refine z_lv (lv' := [(4, .int (zI (z))), (3, .ref (ad1 951)), (2, .ref (ad1 921)), (1, .ref (ad1 0)), (0, .ref b)]) [2, 3, 4, 5, 6] rfl ?_
  refine z_widen (k2 := k + 16) (n2 := n + 2150) (show k + 6 + 0 ≤ k + 16 by omega) (show n + 60 + 0 ≤ n + 2150 by omega) ?_
  exact hK _ _ _ _ hN2 ⟨_, _, _, _, _, _, _, _, _, _, _, _, _, _, _, _, _, _, _, _, _, _, _, (hR1.o951 (fun j hj => hG2 j (by omega))), hM2, (hJ.keep ⟨hF2.1, hF2.2.1, hF2.2.2.2.2.1, hF2.2.2.2.2.2.2.2.1, hF2.2.2.2.2.2.2.2.2.1, hF2.2.2.2.2.2.2.2.2.2.1, hF2.2.2.2.2.2.2.2.2.2.2⟩), (hW.ques (fun j a b => hA1 j (by omega)) (fun j a b => (hG2 j (by omega)).trans (hKG j a b)) (fun j a b => (hG2 j (by omega)).trans (hG1 j (by omega) (by omega))) ⟨hF2.2.2.1, hF2.2.2.2.1, hF2.2.2.2.2.2.1, hF2.2.2.2.2.2.2.1, hF2.2.2.2.2.2.2.2.1⟩ hP2 hw2)⟩ ((hG2 951 (by omega)).trans hq1)

set_option maxRecDepth 100000 in
set_option maxHeartbeats 4000000 in
theorem law_c16 {p : Program} {l : Launch} {e : Env} {s : State} {m : MethodId} {below : List Frame} {meth : Method} {c : Code} {D : va_G} {A : Nat → Prop} {cs : Nat → ClassId} {tt : Nat} {b L : Nat} {xs : Nat → Int32} {N : Nat} {ad : Nat → Nat} {g : Nat → va_E} {k n : Nat} {x z : Int} {q : Nat → Int} {w1 w2 w3 w4 w5 : Int} (hl0 : l.stackTraces = false) (C : zC p s m #[Value.ref b] c cL_law 7 RL D A cs tt) (hr : meth.sig.returnType = ret) (hlk : meth.locks = false) (hA : ∀ q, A q → s.heap.size ≤ q) (hX : va_X b L xs s s.heap) (hbl : b < s.heap.size) (hbA : ¬ A b) (hL : L ≤ 3072) (hN : 952 ≤ N) (hJI : JI cs ad g N x) (hq : g 951 = jA cs 1 q) (hx : 0 ≤ x ∧ x ≤ 511) (hz : z = 6 * x) (hzL : z + 6 ≤ (L : Int)) (hk : k ≤ 590000) (hn : n ≤ 7000000) (hw1r : -2147483648 ≤ w1 ∧ w1 ≤ 2147483647) (hw1 : xs (z + 1).toNat = zI w1) (hw2r : -2147483648 ≤ w2 ∧ w2 ≤ 2147483647) (hw2 : xs (z + 2).toNat = zI w2) (hw3r : -2147483648 ≤ w3 ∧ w3 ≤ 2147483647) (hw3 : xs (z + 3).toNat = zI w3) (hw4r : -2147483648 ≤ w4 ∧ w4 ≤ 2147483647) (hw4 : xs (z + 4).toNat = zI w4) (hw5r : -2147483648 ≤ w5 ∧ w5 ≤ 2147483647) (hw5 : xs (z + 5).toNat = zI w5) (hK : ∀ (N' : Nat) (ad' : Nat → Nat) (g' : Nat → va_E) (q' : Nat → Int), 952 ≤ N' → JI cs ad' g' N' (x + 1) → g' 951 = jA cs 1 q' → zV p l e room_1 s m #[Value.ref b] below meth c (lw_Z below #[Value.ref b] s) D A 7 (N') ad' g' (k + 16) (n + 2150) 1348 [(4, .int (zI (z))), (3, .ref (ad' 951)), (2, .ref (ad' 921)), (1, .ref (ad' 0)), (0, .ref b)] []) : zV p l e room_1 s m #[Value.ref b] below meth c (lw_Z below #[Value.ref b] s) D A 7 (N) ad g (k) (n) 768 [(4, .int (zI (z))), (3, .ref (ad 951)), (2, .ref (ad 921)), (1, .ref (ad 0)), (0, .ref b)] [] := by
  have hay1 : zAt ad (0) (ad 0) := rfl
  have hay2 : zAt ad (921) (ad 921) := rfl
  have hay3 : zAt ad (951) (ad 951) := rfl
  obtain ⟨t, fp, im, nz, kz, sl, ho, st, op, ai, fa, mu, tb, tp, F, r, sR, oR, aR, fR, mR, bR, pR, hR, hM, hJ, hW⟩ := hJI
  have hPl := hW.pl
  refine z_aload_n C 3 dL_law_768 rfl ?_
  refine z_aload_n C 4 dL_law_769 rfl ?_
  refine z_iload C 0 dL_law_770 rfl ?_
  refine z_iconst (z := 1) C dL_law_772 rfl ?_
  refine z_iadd C dL_law_773 ?_
  refine z_sld C hX hbl hbA (z + 1).toNat (by omega) (by omega) (by omega) hw1 dL_law_774 ?_
  refine z_aload_n C 1 dL_law_775 rfl ?_
  refine z_cSW (As := [.ref (ad 0), .int (zI (w1)), .ref (ad 951)]) (rest := []) C (c_L_gone l D A cs tt N ad _ hN hR hl0 q hq w1 hw1r) mW_yL_gone q_1240 hd_yL_gone (by decide) (Nat.le_of_ble_eq_true rfl) ⟨show k + 6 ≤ 601024 by omega, show n + 60 ≤ 7293034 by omega⟩ dL_law_776 rfl (kI fun rk N1 ad1 g1 h1 => ?_)
  obtain ⟨⟨⟨hN1, hA1, hG1⟩, hKG⟩, h1⟩ := h1
  have hM1 : okMr cs ad1 g1 921 x F r sR oR aR fR mR bR pR := hM.grow (fun j a b => hA1 j (by omega)) (fun j a b => hG1 j (by omega) (by omega))
  have hN2 : 952 ≤ N1 := by omega
  rw [← hA1 0 (by omega), ← hA1 921 (by omega), ← hA1 951 (by omega)]
  have hay4 : zAt ad1 (921) (ad1 921) := rfl
  obtain ⟨hR1, q1, hq1⟩ := h1
  refine z_istore (lv' := [(5, .int (zI (rk))), (4, .int (zI (z))), (3, .ref (ad1 951)), (2, .ref (ad1 921)), (1, .ref (ad1 0)), (0, .ref b)]) C dL_law_779 (by decide) rfl ?_
  refine z_aload_n C 3 dL_law_781 rfl ?_
  refine z_aload_n C 5 dL_law_782 rfl ?_
  refine z_iload C 1 dL_law_783 rfl ?_
  refine z_iconst (z := 1) C dL_law_785 rfl ?_
  refine z_iadd C dL_law_786 ?_
  refine z_sld C hX hbl hbA (z + 1).toNat (by omega) (by omega) (by omega) hw1 dL_law_787 ?_
  refine z_cV (As := [.int (zI (w1))]) (rest := []) (ci := 12) C (c_X10_gone l D A cs tt N1 ad1 _ 921 (by omega) x (by omega) F r hM1 hPl w1 hw1r) (by omega) hay4 hM1.1 rfl rfl mv_yX10_gone q_1988 hd_yX10_gone (by decide) (Nat.le_of_ble_eq_true rfl) ⟨show k + 6 + 0 ≤ 601024 by omega, show n + 60 + 0 ≤ 7293034 by omega⟩ dL_law_788 rfl (kI0 fun ry gy hy => ?_)
  obtain ⟨hry, ⟨F2, r2, hM2, hF2, hP2, hw2⟩, hG2⟩ := hy
  refine z_istore (lv' := [(6, .int (zI (ry))), (5, .int (zI (rk))), (4, .int (zI (z))), (3, .ref (ad1 951)), (2, .ref (ad1 921)), (1, .ref (ad1 0)), (0, .ref b)]) C dL_law_791 (by decide) rfl ?_
  refine z_goto (tgt := 1348) C dL_law_793 (by decide) ?_
  refine z_lv (lv' := [(4, .int (zI (z))), (3, .ref (ad1 951)), (2, .ref (ad1 921)), (1, .ref (ad1 0)), (0, .ref b)]) [2, 3, 4, 5, 6] rfl ?_
  refine z_widen (k2 := k + 16) (n2 := n + 2150) (show k + 6 + 0 ≤ k + 16 by omega) (show n + 60 + 0 ≤ n + 2150 by omega) ?_
  exact hK _ _ _ _ hN2 ⟨_, _, _, _, _, _, _, _, _, _, _, _, _, _, _, _, _, _, _, _, _, _, _, (hR1.o951 (fun j hj => hG2 j (by omega))), hM2, (hJ.keep ⟨hF2.1, hF2.2.1, hF2.2.2.2.2.1, hF2.2.2.2.2.2.2.2.1, hF2.2.2.2.2.2.2.2.2.1, hF2.2.2.2.2.2.2.2.2.2.1, hF2.2.2.2.2.2.2.2.2.2.2⟩), (hW.ques (fun j a b => hA1 j (by omega)) (fun j a b => (hG2 j (by omega)).trans (hKG j a b)) (fun j a b => (hG2 j (by omega)).trans (hG1 j (by omega) (by omega))) ⟨hF2.2.2.1, hF2.2.2.2.1, hF2.2.2.2.2.2.1, hF2.2.2.2.2.2.2.1, hF2.2.2.2.2.2.2.2.1⟩ hP2 hw2)⟩ ((hG2 951 (by omega)).trans hq1)

set_option maxRecDepth 100000 in
set_option maxHeartbeats 4000000 in
theorem law_c17 {p : Program} {l : Launch} {e : Env} {s : State} {m : MethodId} {below : List Frame} {meth : Method} {c : Code} {D : va_G} {A : Nat → Prop} {cs : Nat → ClassId} {tt : Nat} {b L : Nat} {xs : Nat → Int32} {N : Nat} {ad : Nat → Nat} {g : Nat → va_E} {k n : Nat} {x z : Int} {q : Nat → Int} {w1 w2 w3 w4 w5 : Int} (hl0 : l.stackTraces = false) (C : zC p s m #[Value.ref b] c cL_law 7 RL D A cs tt) (hr : meth.sig.returnType = ret) (hlk : meth.locks = false) (hA : ∀ q, A q → s.heap.size ≤ q) (hX : va_X b L xs s s.heap) (hbl : b < s.heap.size) (hbA : ¬ A b) (hL : L ≤ 3072) (hN : 952 ≤ N) (hJI : JI cs ad g N x) (hq : g 951 = jA cs 1 q) (hx : 0 ≤ x ∧ x ≤ 511) (hz : z = 6 * x) (hzL : z + 6 ≤ (L : Int)) (hk : k ≤ 590000) (hn : n ≤ 7000000) (hw1r : -2147483648 ≤ w1 ∧ w1 ≤ 2147483647) (hw1 : xs (z + 1).toNat = zI w1) (hw2r : -2147483648 ≤ w2 ∧ w2 ≤ 2147483647) (hw2 : xs (z + 2).toNat = zI w2) (hw3r : -2147483648 ≤ w3 ∧ w3 ≤ 2147483647) (hw3 : xs (z + 3).toNat = zI w3) (hw4r : -2147483648 ≤ w4 ∧ w4 ≤ 2147483647) (hw4 : xs (z + 4).toNat = zI w4) (hw5r : -2147483648 ≤ w5 ∧ w5 ≤ 2147483647) (hw5 : xs (z + 5).toNat = zI w5) (hK : ∀ (N' : Nat) (ad' : Nat → Nat) (g' : Nat → va_E) (q' : Nat → Int), 952 ≤ N' → JI cs ad' g' N' (x + 1) → g' 951 = jA cs 1 q' → zV p l e room_1 s m #[Value.ref b] below meth c (lw_Z below #[Value.ref b] s) D A 7 (N') ad' g' (k + 16) (n + 2150) 1348 [(4, .int (zI (z))), (3, .ref (ad' 951)), (2, .ref (ad' 921)), (1, .ref (ad' 0)), (0, .ref b)] []) : zV p l e room_1 s m #[Value.ref b] below meth c (lw_Z below #[Value.ref b] s) D A 7 (N) ad g (k) (n) 796 [(4, .int (zI (z))), (3, .ref (ad 951)), (2, .ref (ad 921)), (1, .ref (ad 0)), (0, .ref b)] [] := by
  have hay1 : zAt ad (0) (ad 0) := rfl
  have hay2 : zAt ad (921) (ad 921) := rfl
  have hay3 : zAt ad (951) (ad 951) := rfl
  obtain ⟨t, fp, im, nz, kz, sl, ho, st, op, ai, fa, mu, tb, tp, F, r, sR, oR, aR, fR, mR, bR, pR, hR, hM, hJ, hW⟩ := hJI
  have hPl := hW.pl
  refine z_aload_n C 3 dL_law_796 rfl ?_
  refine z_aload_n C 4 dL_law_797 rfl ?_
  refine z_iload C 0 dL_law_798 rfl ?_
  refine z_iconst (z := 1) C dL_law_800 rfl ?_
  refine z_iadd C dL_law_801 ?_
  refine z_sld C hX hbl hbA (z + 1).toNat (by omega) (by omega) (by omega) hw1 dL_law_802 ?_
  refine z_aload_n C 4 dL_law_803 rfl ?_
  refine z_iload C 0 dL_law_804 rfl ?_
  refine z_iconst (z := 2) C dL_law_806 rfl ?_
  refine z_iadd C dL_law_807 ?_
  refine z_sld C hX hbl hbA (z + 2).toNat (by omega) (by omega) (by omega) hw2 dL_law_808 ?_
  refine z_aload_n C 1 dL_law_809 rfl ?_
  refine z_cSW (As := [.ref (ad 0), .int (zI (w1)), .int (zI (w2)), .ref (ad 951)]) (rest := []) C (c_L_stands l D A cs tt N ad _ hN hR hl0 q hq w1 hw1r w2 hw2r) mW_yL_stands q_1256 hd_yL_stands (by decide) (Nat.le_of_ble_eq_true rfl) ⟨show k + 6 ≤ 601024 by omega, show n + 36 ≤ 7293034 by omega⟩ dL_law_810 rfl (kI fun rk N1 ad1 g1 h1 => ?_)
  obtain ⟨⟨⟨hN1, hA1, hG1⟩, hKG⟩, h1⟩ := h1
  have hM1 : okMr cs ad1 g1 921 x F r sR oR aR fR mR bR pR := hM.grow (fun j a b => hA1 j (by omega)) (fun j a b => hG1 j (by omega) (by omega))
  have hN2 : 952 ≤ N1 := by omega
  rw [← hA1 0 (by omega), ← hA1 921 (by omega), ← hA1 951 (by omega)]
  have hay4 : zAt ad1 (921) (ad1 921) := rfl
  obtain ⟨hR1, q1, hq1⟩ := h1
  refine z_istore (lv' := [(5, .int (zI (rk))), (4, .int (zI (z))), (3, .ref (ad1 951)), (2, .ref (ad1 921)), (1, .ref (ad1 0)), (0, .ref b)]) C dL_law_813 (by decide) rfl ?_
  refine z_aload_n C 3 dL_law_815 rfl ?_
  refine z_aload_n C 5 dL_law_816 rfl ?_
  refine z_iload C 1 dL_law_817 rfl ?_
  refine z_iconst (z := 1) C dL_law_819 rfl ?_
  refine z_iadd C dL_law_820 ?_
  refine z_sld C hX hbl hbA (z + 1).toNat (by omega) (by omega) (by omega) hw1 dL_law_821 ?_
  refine z_aload_n C 5 dL_law_822 rfl ?_
  refine z_iload C 1 dL_law_823 rfl ?_
  refine z_iconst (z := 2) C dL_law_825 rfl ?_
  refine z_iadd C dL_law_826 ?_
  refine z_sld C hX hbl hbA (z + 2).toNat (by omega) (by omega) (by omega) hw2 dL_law_827 ?_
  refine z_cV (As := [.int (zI (w1)), .int (zI (w2))]) (rest := []) (ci := 12) C (c_X10_stands l D A cs tt N1 ad1 _ 921 (by omega) x (by omega) F r hM1 hPl w1 hw1r w2 hw2r) (by omega) hay4 hM1.1 rfl rfl mv_yX10_stands q_1996 hd_yX10_stands (by decide) (Nat.le_of_ble_eq_true rfl) ⟨show k + 6 + 0 ≤ 601024 by omega, show n + 36 + 0 ≤ 7293034 by omega⟩ dL_law_828 rfl (kI0 fun ry gy hy => ?_)
  obtain ⟨hry, ⟨F2, r2, hM2, hF2, hP2, hw2⟩, hG2⟩ := hy
  refine z_istore (lv' := [(6, .int (zI (ry))), (5, .int (zI (rk))), (4, .int (zI (z))), (3, .ref (ad1 951)), (2, .ref (ad1 921)), (1, .ref (ad1 0)), (0, .ref b)]) C dL_law_831 (by decide) rfl ?_
  refine z_goto (tgt := 1348) C dL_law_833 (by decide) ?_
  refine z_lv (lv' := [(4, .int (zI (z))), (3, .ref (ad1 951)), (2, .ref (ad1 921)), (1, .ref (ad1 0)), (0, .ref b)]) [2, 3, 4, 5, 6] rfl ?_
  refine z_widen (k2 := k + 16) (n2 := n + 2150) (show k + 6 + 0 ≤ k + 16 by omega) (show n + 36 + 0 ≤ n + 2150 by omega) ?_
  exact hK _ _ _ _ hN2 ⟨_, _, _, _, _, _, _, _, _, _, _, _, _, _, _, _, _, _, _, _, _, _, _, (hR1.o951 (fun j hj => hG2 j (by omega))), hM2, (hJ.keep ⟨hF2.1, hF2.2.1, hF2.2.2.2.2.1, hF2.2.2.2.2.2.2.2.1, hF2.2.2.2.2.2.2.2.2.1, hF2.2.2.2.2.2.2.2.2.2.1, hF2.2.2.2.2.2.2.2.2.2.2⟩), (hW.ques (fun j a b => hA1 j (by omega)) (fun j a b => (hG2 j (by omega)).trans (hKG j a b)) (fun j a b => (hG2 j (by omega)).trans (hG1 j (by omega) (by omega))) ⟨hF2.2.2.1, hF2.2.2.2.1, hF2.2.2.2.2.2.1, hF2.2.2.2.2.2.2.1, hF2.2.2.2.2.2.2.2.1⟩ hP2 hw2)⟩ ((hG2 951 (by omega)).trans hq1)

set_option maxRecDepth 100000 in
set_option maxHeartbeats 4000000 in
theorem law_c18 {p : Program} {l : Launch} {e : Env} {s : State} {m : MethodId} {below : List Frame} {meth : Method} {c : Code} {D : va_G} {A : Nat → Prop} {cs : Nat → ClassId} {tt : Nat} {b L : Nat} {xs : Nat → Int32} {N : Nat} {ad : Nat → Nat} {g : Nat → va_E} {k n : Nat} {x z : Int} {q : Nat → Int} {w1 w2 w3 w4 w5 : Int} (hl0 : l.stackTraces = false) (C : zC p s m #[Value.ref b] c cL_law 7 RL D A cs tt) (hr : meth.sig.returnType = ret) (hlk : meth.locks = false) (hA : ∀ q, A q → s.heap.size ≤ q) (hX : va_X b L xs s s.heap) (hbl : b < s.heap.size) (hbA : ¬ A b) (hL : L ≤ 3072) (hN : 952 ≤ N) (hJI : JI cs ad g N x) (hq : g 951 = jA cs 1 q) (hx : 0 ≤ x ∧ x ≤ 511) (hz : z = 6 * x) (hzL : z + 6 ≤ (L : Int)) (hk : k ≤ 590000) (hn : n ≤ 7000000) (hw1r : -2147483648 ≤ w1 ∧ w1 ≤ 2147483647) (hw1 : xs (z + 1).toNat = zI w1) (hw2r : -2147483648 ≤ w2 ∧ w2 ≤ 2147483647) (hw2 : xs (z + 2).toNat = zI w2) (hw3r : -2147483648 ≤ w3 ∧ w3 ≤ 2147483647) (hw3 : xs (z + 3).toNat = zI w3) (hw4r : -2147483648 ≤ w4 ∧ w4 ≤ 2147483647) (hw4 : xs (z + 4).toNat = zI w4) (hw5r : -2147483648 ≤ w5 ∧ w5 ≤ 2147483647) (hw5 : xs (z + 5).toNat = zI w5) (hK : ∀ (N' : Nat) (ad' : Nat → Nat) (g' : Nat → va_E) (q' : Nat → Int), 952 ≤ N' → JI cs ad' g' N' (x + 1) → g' 951 = jA cs 1 q' → zV p l e room_1 s m #[Value.ref b] below meth c (lw_Z below #[Value.ref b] s) D A 7 (N') ad' g' (k + 16) (n + 2150) 1348 [(4, .int (zI (z))), (3, .ref (ad' 951)), (2, .ref (ad' 921)), (1, .ref (ad' 0)), (0, .ref b)] []) : zV p l e room_1 s m #[Value.ref b] below meth c (lw_Z below #[Value.ref b] s) D A 7 (N) ad g (k) (n) 836 [(4, .int (zI (z))), (3, .ref (ad 951)), (2, .ref (ad 921)), (1, .ref (ad 0)), (0, .ref b)] [] := by
  have hay1 : zAt ad (0) (ad 0) := rfl
  have hay2 : zAt ad (921) (ad 921) := rfl
  have hay3 : zAt ad (951) (ad 951) := rfl
  obtain ⟨t, fp, im, nz, kz, sl, ho, st, op, ai, fa, mu, tb, tp, F, r, sR, oR, aR, fR, mR, bR, pR, hR, hM, hJ, hW⟩ := hJI
  have hPl := hW.pl
  refine z_aload_n C 3 dL_law_836 rfl ?_
  refine z_aload_n C 4 dL_law_837 rfl ?_
  refine z_iload C 0 dL_law_838 rfl ?_
  refine z_iconst (z := 1) C dL_law_840 rfl ?_
  refine z_iadd C dL_law_841 ?_
  refine z_sld C hX hbl hbA (z + 1).toNat (by omega) (by omega) (by omega) hw1 dL_law_842 ?_
  refine z_aload_n C 1 dL_law_843 rfl ?_
  refine z_cSW (As := [.ref (ad 0), .int (zI (w1)), .ref (ad 951)]) (rest := []) C (c_L_toLoad l D A cs tt N ad _ hN hR hl0 q hq w1 hw1r) mW_yL_toLoad q_1267 hd_yL_toLoad (by decide) (Nat.le_of_ble_eq_true rfl) ⟨show k + 6 ≤ 601024 by omega, show n + 36 ≤ 7293034 by omega⟩ dL_law_844 rfl (kI fun rk N1 ad1 g1 h1 => ?_)
  obtain ⟨⟨⟨hN1, hA1, hG1⟩, hKG⟩, h1⟩ := h1
  have hM1 : okMr cs ad1 g1 921 x F r sR oR aR fR mR bR pR := hM.grow (fun j a b => hA1 j (by omega)) (fun j a b => hG1 j (by omega) (by omega))
  have hN2 : 952 ≤ N1 := by omega
  rw [← hA1 0 (by omega), ← hA1 921 (by omega), ← hA1 951 (by omega)]
  have hay4 : zAt ad1 (921) (ad1 921) := rfl
  obtain ⟨hR1, q1, hq1⟩ := h1
  refine z_istore (lv' := [(5, .int (zI (rk))), (4, .int (zI (z))), (3, .ref (ad1 951)), (2, .ref (ad1 921)), (1, .ref (ad1 0)), (0, .ref b)]) C dL_law_847 (by decide) rfl ?_
  refine z_aload_n C 3 dL_law_849 rfl ?_
  refine z_aload_n C 5 dL_law_850 rfl ?_
  refine z_iload C 1 dL_law_851 rfl ?_
  refine z_iconst (z := 1) C dL_law_853 rfl ?_
  refine z_iadd C dL_law_854 ?_
  refine z_sld C hX hbl hbA (z + 1).toNat (by omega) (by omega) (by omega) hw1 dL_law_855 ?_
  refine z_cV (As := [.int (zI (w1))]) (rest := []) (ci := 12) C (c_X10_toLoad l D A cs tt N1 ad1 _ 921 (by omega) x (by omega) F r hM1 hPl w1 hw1r) (by omega) hay4 hM1.1 rfl rfl mv_yX10_toLoad q_2003 hd_yX10_toLoad (by decide) (Nat.le_of_ble_eq_true rfl) ⟨show k + 6 + 0 ≤ 601024 by omega, show n + 36 + 0 ≤ 7293034 by omega⟩ dL_law_856 rfl (kI0 fun ry gy hy => ?_)
  obtain ⟨hry, ⟨F2, r2, hM2, hF2, hP2, hw2⟩, hG2⟩ := hy
  refine z_istore (lv' := [(6, .int (zI (ry))), (5, .int (zI (rk))), (4, .int (zI (z))), (3, .ref (ad1 951)), (2, .ref (ad1 921)), (1, .ref (ad1 0)), (0, .ref b)]) C dL_law_859 (by decide) rfl ?_
  refine z_goto (tgt := 1348) C dL_law_861 (by decide) ?_
  refine z_lv (lv' := [(4, .int (zI (z))), (3, .ref (ad1 951)), (2, .ref (ad1 921)), (1, .ref (ad1 0)), (0, .ref b)]) [2, 3, 4, 5, 6] rfl ?_
  refine z_widen (k2 := k + 16) (n2 := n + 2150) (show k + 6 + 0 ≤ k + 16 by omega) (show n + 36 + 0 ≤ n + 2150 by omega) ?_
  exact hK _ _ _ _ hN2 ⟨_, _, _, _, _, _, _, _, _, _, _, _, _, _, _, _, _, _, _, _, _, _, _, (hR1.o951 (fun j hj => hG2 j (by omega))), hM2, (hJ.keep ⟨hF2.1, hF2.2.1, hF2.2.2.2.2.1, hF2.2.2.2.2.2.2.2.1, hF2.2.2.2.2.2.2.2.2.1, hF2.2.2.2.2.2.2.2.2.2.1, hF2.2.2.2.2.2.2.2.2.2.2⟩), (hW.ques (fun j a b => hA1 j (by omega)) (fun j a b => (hG2 j (by omega)).trans (hKG j a b)) (fun j a b => (hG2 j (by omega)).trans (hG1 j (by omega) (by omega))) ⟨hF2.2.2.1, hF2.2.2.2.1, hF2.2.2.2.2.2.1, hF2.2.2.2.2.2.2.1, hF2.2.2.2.2.2.2.2.1⟩ hP2 hw2)⟩ ((hG2 951 (by omega)).trans hq1)

set_option maxRecDepth 100000 in
set_option maxHeartbeats 4000000 in
theorem law_c19 {p : Program} {l : Launch} {e : Env} {s : State} {m : MethodId} {below : List Frame} {meth : Method} {c : Code} {D : va_G} {A : Nat → Prop} {cs : Nat → ClassId} {tt : Nat} {b L : Nat} {xs : Nat → Int32} {N : Nat} {ad : Nat → Nat} {g : Nat → va_E} {k n : Nat} {x z : Int} {q : Nat → Int} {w1 w2 w3 w4 w5 : Int} (hl0 : l.stackTraces = false) (C : zC p s m #[Value.ref b] c cL_law 7 RL D A cs tt) (hr : meth.sig.returnType = ret) (hlk : meth.locks = false) (hA : ∀ q, A q → s.heap.size ≤ q) (hX : va_X b L xs s s.heap) (hbl : b < s.heap.size) (hbA : ¬ A b) (hL : L ≤ 3072) (hN : 952 ≤ N) (hJI : JI cs ad g N x) (hq : g 951 = jA cs 1 q) (hx : 0 ≤ x ∧ x ≤ 511) (hz : z = 6 * x) (hzL : z + 6 ≤ (L : Int)) (hk : k ≤ 590000) (hn : n ≤ 7000000) (hw1r : -2147483648 ≤ w1 ∧ w1 ≤ 2147483647) (hw1 : xs (z + 1).toNat = zI w1) (hw2r : -2147483648 ≤ w2 ∧ w2 ≤ 2147483647) (hw2 : xs (z + 2).toNat = zI w2) (hw3r : -2147483648 ≤ w3 ∧ w3 ≤ 2147483647) (hw3 : xs (z + 3).toNat = zI w3) (hw4r : -2147483648 ≤ w4 ∧ w4 ≤ 2147483647) (hw4 : xs (z + 4).toNat = zI w4) (hw5r : -2147483648 ≤ w5 ∧ w5 ≤ 2147483647) (hw5 : xs (z + 5).toNat = zI w5) (hK : ∀ (N' : Nat) (ad' : Nat → Nat) (g' : Nat → va_E) (q' : Nat → Int), 952 ≤ N' → JI cs ad' g' N' (x + 1) → g' 951 = jA cs 1 q' → zV p l e room_1 s m #[Value.ref b] below meth c (lw_Z below #[Value.ref b] s) D A 7 (N') ad' g' (k + 16) (n + 2150) 1348 [(4, .int (zI (z))), (3, .ref (ad' 951)), (2, .ref (ad' 921)), (1, .ref (ad' 0)), (0, .ref b)] []) : zV p l e room_1 s m #[Value.ref b] below meth c (lw_Z below #[Value.ref b] s) D A 7 (N) ad g (k) (n) 864 [(4, .int (zI (z))), (3, .ref (ad 951)), (2, .ref (ad 921)), (1, .ref (ad 0)), (0, .ref b)] [] := by
  have hay1 : zAt ad (0) (ad 0) := rfl
  have hay2 : zAt ad (921) (ad 921) := rfl
  have hay3 : zAt ad (951) (ad 951) := rfl
  obtain ⟨t, fp, im, nz, kz, sl, ho, st, op, ai, fa, mu, tb, tp, F, r, sR, oR, aR, fR, mR, bR, pR, hR, hM, hJ, hW⟩ := hJI
  have hPl := hW.pl
  refine z_aload_n C 3 dL_law_864 rfl ?_
  refine z_aload_n C 4 dL_law_865 rfl ?_
  refine z_iload C 0 dL_law_866 rfl ?_
  refine z_iconst (z := 1) C dL_law_868 rfl ?_
  refine z_iadd C dL_law_869 ?_
  refine z_sld C hX hbl hbA (z + 1).toNat (by omega) (by omega) (by omega) hw1 dL_law_870 ?_
  refine z_aload_n C 1 dL_law_871 rfl ?_
  refine z_cSW (As := [.ref (ad 0), .int (zI (w1)), .ref (ad 951)]) (rest := []) C (c_L_steepest l D A cs tt N ad _ hN hR hl0 q hq w1 hw1r) mW_yL_steepest q_1274 hd_yL_steepest (by decide) (Nat.le_of_ble_eq_true rfl) ⟨show k + 6 ≤ 601024 by omega, show n + 36 ≤ 7293034 by omega⟩ dL_law_872 rfl (kI fun rk N1 ad1 g1 h1 => ?_)
  obtain ⟨⟨⟨hN1, hA1, hG1⟩, hKG⟩, h1⟩ := h1
  have hM1 : okMr cs ad1 g1 921 x F r sR oR aR fR mR bR pR := hM.grow (fun j a b => hA1 j (by omega)) (fun j a b => hG1 j (by omega) (by omega))
  have hN2 : 952 ≤ N1 := by omega
  rw [← hA1 0 (by omega), ← hA1 921 (by omega), ← hA1 951 (by omega)]
  have hay4 : zAt ad1 (921) (ad1 921) := rfl
  obtain ⟨hR1, q1, hq1⟩ := h1
  refine z_istore (lv' := [(5, .int (zI (rk))), (4, .int (zI (z))), (3, .ref (ad1 951)), (2, .ref (ad1 921)), (1, .ref (ad1 0)), (0, .ref b)]) C dL_law_875 (by decide) rfl ?_
  refine z_aload_n C 3 dL_law_877 rfl ?_
  refine z_aload_n C 5 dL_law_878 rfl ?_
  refine z_iload C 1 dL_law_879 rfl ?_
  refine z_iconst (z := 1) C dL_law_881 rfl ?_
  refine z_iadd C dL_law_882 ?_
  refine z_sld C hX hbl hbA (z + 1).toNat (by omega) (by omega) (by omega) hw1 dL_law_883 ?_
  refine z_cV (As := [.int (zI (w1))]) (rest := []) (ci := 12) C (c_X10_steepest l D A cs tt N1 ad1 _ 921 (by omega) x (by omega) F r hM1 hPl w1 hw1r) (by omega) hay4 hM1.1 rfl rfl mv_yX10_steepest q_2007 hd_yX10_steepest (by decide) (Nat.le_of_ble_eq_true rfl) ⟨show k + 6 + 0 ≤ 601024 by omega, show n + 36 + 0 ≤ 7293034 by omega⟩ dL_law_884 rfl (kI0 fun ry gy hy => ?_)
  obtain ⟨hry, ⟨F2, r2, hM2, hF2, hP2, hw2⟩, hG2⟩ := hy
  refine z_istore (lv' := [(6, .int (zI (ry))), (5, .int (zI (rk))), (4, .int (zI (z))), (3, .ref (ad1 951)), (2, .ref (ad1 921)), (1, .ref (ad1 0)), (0, .ref b)]) C dL_law_887 (by decide) rfl ?_
  refine z_goto (tgt := 1348) C dL_law_889 (by decide) ?_
  refine z_lv (lv' := [(4, .int (zI (z))), (3, .ref (ad1 951)), (2, .ref (ad1 921)), (1, .ref (ad1 0)), (0, .ref b)]) [2, 3, 4, 5, 6] rfl ?_
  refine z_widen (k2 := k + 16) (n2 := n + 2150) (show k + 6 + 0 ≤ k + 16 by omega) (show n + 36 + 0 ≤ n + 2150 by omega) ?_
  exact hK _ _ _ _ hN2 ⟨_, _, _, _, _, _, _, _, _, _, _, _, _, _, _, _, _, _, _, _, _, _, _, (hR1.o951 (fun j hj => hG2 j (by omega))), hM2, (hJ.keep ⟨hF2.1, hF2.2.1, hF2.2.2.2.2.1, hF2.2.2.2.2.2.2.2.1, hF2.2.2.2.2.2.2.2.2.1, hF2.2.2.2.2.2.2.2.2.2.1, hF2.2.2.2.2.2.2.2.2.2.2⟩), (hW.ques (fun j a b => hA1 j (by omega)) (fun j a b => (hG2 j (by omega)).trans (hKG j a b)) (fun j a b => (hG2 j (by omega)).trans (hG1 j (by omega) (by omega))) ⟨hF2.2.2.1, hF2.2.2.2.1, hF2.2.2.2.2.2.1, hF2.2.2.2.2.2.2.1, hF2.2.2.2.2.2.2.2.1⟩ hP2 hw2)⟩ ((hG2 951 (by omega)).trans hq1)

set_option maxRecDepth 100000 in
set_option maxHeartbeats 4000000 in
theorem law_c20 {p : Program} {l : Launch} {e : Env} {s : State} {m : MethodId} {below : List Frame} {meth : Method} {c : Code} {D : va_G} {A : Nat → Prop} {cs : Nat → ClassId} {tt : Nat} {b L : Nat} {xs : Nat → Int32} {N : Nat} {ad : Nat → Nat} {g : Nat → va_E} {k n : Nat} {x z : Int} {q : Nat → Int} {w1 w2 w3 w4 w5 : Int} (hl0 : l.stackTraces = false) (C : zC p s m #[Value.ref b] c cL_law 7 RL D A cs tt) (hr : meth.sig.returnType = ret) (hlk : meth.locks = false) (hA : ∀ q, A q → s.heap.size ≤ q) (hX : va_X b L xs s s.heap) (hbl : b < s.heap.size) (hbA : ¬ A b) (hL : L ≤ 3072) (hN : 952 ≤ N) (hJI : JI cs ad g N x) (hq : g 951 = jA cs 1 q) (hx : 0 ≤ x ∧ x ≤ 511) (hz : z = 6 * x) (hzL : z + 6 ≤ (L : Int)) (hk : k ≤ 590000) (hn : n ≤ 7000000) (hw1r : -2147483648 ≤ w1 ∧ w1 ≤ 2147483647) (hw1 : xs (z + 1).toNat = zI w1) (hw2r : -2147483648 ≤ w2 ∧ w2 ≤ 2147483647) (hw2 : xs (z + 2).toNat = zI w2) (hw3r : -2147483648 ≤ w3 ∧ w3 ≤ 2147483647) (hw3 : xs (z + 3).toNat = zI w3) (hw4r : -2147483648 ≤ w4 ∧ w4 ≤ 2147483647) (hw4 : xs (z + 4).toNat = zI w4) (hw5r : -2147483648 ≤ w5 ∧ w5 ≤ 2147483647) (hw5 : xs (z + 5).toNat = zI w5) (hK : ∀ (N' : Nat) (ad' : Nat → Nat) (g' : Nat → va_E) (q' : Nat → Int), 952 ≤ N' → JI cs ad' g' N' (x + 1) → g' 951 = jA cs 1 q' → zV p l e room_1 s m #[Value.ref b] below meth c (lw_Z below #[Value.ref b] s) D A 7 (N') ad' g' (k + 16) (n + 2150) 1348 [(4, .int (zI (z))), (3, .ref (ad' 951)), (2, .ref (ad' 921)), (1, .ref (ad' 0)), (0, .ref b)] []) : zV p l e room_1 s m #[Value.ref b] below meth c (lw_Z below #[Value.ref b] s) D A 7 (N) ad g (k) (n) 892 [(4, .int (zI (z))), (3, .ref (ad 951)), (2, .ref (ad 921)), (1, .ref (ad 0)), (0, .ref b)] [] := by
  have hay1 : zAt ad (0) (ad 0) := rfl
  have hay2 : zAt ad (921) (ad 921) := rfl
  have hay3 : zAt ad (951) (ad 951) := rfl
  obtain ⟨t, fp, im, nz, kz, sl, ho, st, op, ai, fa, mu, tb, tp, F, r, sR, oR, aR, fR, mR, bR, pR, hR, hM, hJ, hW⟩ := hJI
  have hPl := hW.pl
  refine z_aload_n C 3 dL_law_892 rfl ?_
  refine z_aload_n C 4 dL_law_893 rfl ?_
  refine z_iload C 0 dL_law_894 rfl ?_
  refine z_iconst (z := 1) C dL_law_896 rfl ?_
  refine z_iadd C dL_law_897 ?_
  refine z_sld C hX hbl hbA (z + 1).toNat (by omega) (by omega) (by omega) hw1 dL_law_898 ?_
  refine z_aload_n C 4 dL_law_899 rfl ?_
  refine z_iload C 0 dL_law_900 rfl ?_
  refine z_iconst (z := 2) C dL_law_902 rfl ?_
  refine z_iadd C dL_law_903 ?_
  refine z_sld C hX hbl hbA (z + 2).toNat (by omega) (by omega) (by omega) hw2 dL_law_904 ?_
  refine z_aload_n C 1 dL_law_905 rfl ?_
  refine z_cSW (As := [.ref (ad 0), .int (zI (w1)), .int (zI (w2)), .ref (ad 951)]) (rest := []) C (c_L_toWarm l D A cs tt N ad _ hN hR hl0 q hq w1 hw1r w2 hw2r) mW_yL_toWarm q_1281 hd_yL_toWarm (by decide) (Nat.le_of_ble_eq_true rfl) ⟨show k + 6 ≤ 601024 by omega, show n + 60 ≤ 7293034 by omega⟩ dL_law_906 rfl (kI fun rk N1 ad1 g1 h1 => ?_)
  obtain ⟨⟨⟨hN1, hA1, hG1⟩, hKG⟩, h1⟩ := h1
  have hM1 : okMr cs ad1 g1 921 x F r sR oR aR fR mR bR pR := hM.grow (fun j a b => hA1 j (by omega)) (fun j a b => hG1 j (by omega) (by omega))
  have hN2 : 952 ≤ N1 := by omega
  rw [← hA1 0 (by omega), ← hA1 921 (by omega), ← hA1 951 (by omega)]
  have hay4 : zAt ad1 (921) (ad1 921) := rfl
  obtain ⟨hR1, q1, hq1⟩ := h1
  refine z_istore (lv' := [(5, .int (zI (rk))), (4, .int (zI (z))), (3, .ref (ad1 951)), (2, .ref (ad1 921)), (1, .ref (ad1 0)), (0, .ref b)]) C dL_law_909 (by decide) rfl ?_
  refine z_aload_n C 3 dL_law_911 rfl ?_
  refine z_aload_n C 5 dL_law_912 rfl ?_
  refine z_iload C 1 dL_law_913 rfl ?_
  refine z_iconst (z := 1) C dL_law_915 rfl ?_
  refine z_iadd C dL_law_916 ?_
  refine z_sld C hX hbl hbA (z + 1).toNat (by omega) (by omega) (by omega) hw1 dL_law_917 ?_
  refine z_aload_n C 5 dL_law_918 rfl ?_
  refine z_iload C 1 dL_law_919 rfl ?_
  refine z_iconst (z := 2) C dL_law_921 rfl ?_
  refine z_iadd C dL_law_922 ?_
  refine z_sld C hX hbl hbA (z + 2).toNat (by omega) (by omega) (by omega) hw2 dL_law_923 ?_
  refine z_cV (As := [.int (zI (w1)), .int (zI (w2))]) (rest := []) (ci := 12) C (c_X10_toWarm l D A cs tt N1 ad1 _ 921 (by omega) x (by omega) F r hM1 hPl w1 hw1r w2 hw2r) (by omega) hay4 hM1.1 rfl rfl mv_yX10_toWarm q_2011 hd_yX10_toWarm (by decide) (Nat.le_of_ble_eq_true rfl) ⟨show k + 6 + 0 ≤ 601024 by omega, show n + 60 + 0 ≤ 7293034 by omega⟩ dL_law_924 rfl (kI0 fun ry gy hy => ?_)
  obtain ⟨hry, ⟨F2, r2, hM2, hF2, hP2, hw2⟩, hG2⟩ := hy
  refine z_istore (lv' := [(6, .int (zI (ry))), (5, .int (zI (rk))), (4, .int (zI (z))), (3, .ref (ad1 951)), (2, .ref (ad1 921)), (1, .ref (ad1 0)), (0, .ref b)]) C dL_law_927 (by decide) rfl ?_
  refine z_goto (tgt := 1348) C dL_law_929 (by decide) ?_
  refine z_lv (lv' := [(4, .int (zI (z))), (3, .ref (ad1 951)), (2, .ref (ad1 921)), (1, .ref (ad1 0)), (0, .ref b)]) [2, 3, 4, 5, 6] rfl ?_
  refine z_widen (k2 := k + 16) (n2 := n + 2150) (show k + 6 + 0 ≤ k + 16 by omega) (show n + 60 + 0 ≤ n + 2150 by omega) ?_
  exact hK _ _ _ _ hN2 ⟨_, _, _, _, _, _, _, _, _, _, _, _, _, _, _, _, _, _, _, _, _, _, _, (hR1.o951 (fun j hj => hG2 j (by omega))), hM2, (hJ.keep ⟨hF2.1, hF2.2.1, hF2.2.2.2.2.1, hF2.2.2.2.2.2.2.2.1, hF2.2.2.2.2.2.2.2.2.1, hF2.2.2.2.2.2.2.2.2.2.1, hF2.2.2.2.2.2.2.2.2.2.2⟩), (hW.ques (fun j a b => hA1 j (by omega)) (fun j a b => (hG2 j (by omega)).trans (hKG j a b)) (fun j a b => (hG2 j (by omega)).trans (hG1 j (by omega) (by omega))) ⟨hF2.2.2.1, hF2.2.2.2.1, hF2.2.2.2.2.2.1, hF2.2.2.2.2.2.2.1, hF2.2.2.2.2.2.2.2.1⟩ hP2 hw2)⟩ ((hG2 951 (by omega)).trans hq1)

set_option maxRecDepth 100000 in
set_option maxHeartbeats 4000000 in
theorem law_c21 {p : Program} {l : Launch} {e : Env} {s : State} {m : MethodId} {below : List Frame} {meth : Method} {c : Code} {D : va_G} {A : Nat → Prop} {cs : Nat → ClassId} {tt : Nat} {b L : Nat} {xs : Nat → Int32} {N : Nat} {ad : Nat → Nat} {g : Nat → va_E} {k n : Nat} {x z : Int} {q : Nat → Int} {w1 w2 w3 w4 w5 : Int} (hl0 : l.stackTraces = false) (C : zC p s m #[Value.ref b] c cL_law 7 RL D A cs tt) (hr : meth.sig.returnType = ret) (hlk : meth.locks = false) (hA : ∀ q, A q → s.heap.size ≤ q) (hX : va_X b L xs s s.heap) (hbl : b < s.heap.size) (hbA : ¬ A b) (hL : L ≤ 3072) (hN : 952 ≤ N) (hJI : JI cs ad g N x) (hq : g 951 = jA cs 1 q) (hx : 0 ≤ x ∧ x ≤ 511) (hz : z = 6 * x) (hzL : z + 6 ≤ (L : Int)) (hk : k ≤ 590000) (hn : n ≤ 7000000) (hw1r : -2147483648 ≤ w1 ∧ w1 ≤ 2147483647) (hw1 : xs (z + 1).toNat = zI w1) (hw2r : -2147483648 ≤ w2 ∧ w2 ≤ 2147483647) (hw2 : xs (z + 2).toNat = zI w2) (hw3r : -2147483648 ≤ w3 ∧ w3 ≤ 2147483647) (hw3 : xs (z + 3).toNat = zI w3) (hw4r : -2147483648 ≤ w4 ∧ w4 ≤ 2147483647) (hw4 : xs (z + 4).toNat = zI w4) (hw5r : -2147483648 ≤ w5 ∧ w5 ≤ 2147483647) (hw5 : xs (z + 5).toNat = zI w5) (hK : ∀ (N' : Nat) (ad' : Nat → Nat) (g' : Nat → va_E) (q' : Nat → Int), 952 ≤ N' → JI cs ad' g' N' (x + 1) → g' 951 = jA cs 1 q' → zV p l e room_1 s m #[Value.ref b] below meth c (lw_Z below #[Value.ref b] s) D A 7 (N') ad' g' (k + 16) (n + 2150) 1348 [(4, .int (zI (z))), (3, .ref (ad' 951)), (2, .ref (ad' 921)), (1, .ref (ad' 0)), (0, .ref b)] []) : zV p l e room_1 s m #[Value.ref b] below meth c (lw_Z below #[Value.ref b] s) D A 7 (N) ad g (k) (n) 932 [(4, .int (zI (z))), (3, .ref (ad 951)), (2, .ref (ad 921)), (1, .ref (ad 0)), (0, .ref b)] [] := by
  have hay1 : zAt ad (0) (ad 0) := rfl
  have hay2 : zAt ad (921) (ad 921) := rfl
  have hay3 : zAt ad (951) (ad 951) := rfl
  obtain ⟨t, fp, im, nz, kz, sl, ho, st, op, ai, fa, mu, tb, tp, F, r, sR, oR, aR, fR, mR, bR, pR, hR, hM, hJ, hW⟩ := hJI
  have hPl := hW.pl
  refine z_aload_n C 3 dL_law_932 rfl ?_
  refine z_aload_n C 4 dL_law_933 rfl ?_
  refine z_iload C 0 dL_law_934 rfl ?_
  refine z_iconst (z := 1) C dL_law_936 rfl ?_
  refine z_iadd C dL_law_937 ?_
  refine z_sld C hX hbl hbA (z + 1).toNat (by omega) (by omega) (by omega) hw1 dL_law_938 ?_
  refine z_aload_n C 4 dL_law_939 rfl ?_
  refine z_iload C 0 dL_law_940 rfl ?_
  refine z_iconst (z := 2) C dL_law_942 rfl ?_
  refine z_iadd C dL_law_943 ?_
  refine z_sld C hX hbl hbA (z + 2).toNat (by omega) (by omega) (by omega) hw2 dL_law_944 ?_
  refine z_aload_n C 4 dL_law_945 rfl ?_
  refine z_iload C 0 dL_law_946 rfl ?_
  refine z_iconst (z := 3) C dL_law_948 rfl ?_
  refine z_iadd C dL_law_949 ?_
  refine z_sld C hX hbl hbA (z + 3).toNat (by omega) (by omega) (by omega) hw3 dL_law_950 ?_
  refine z_aload_n C 1 dL_law_951 rfl ?_
  refine z_cSW (As := [.ref (ad 0), .int (zI (w1)), .int (zI (w2)), .int (zI (w3)), .ref (ad 951)]) (rest := []) C (c_L_matters l D A cs tt N ad _ hN hR hl0 q hq w1 hw1r w2 hw2r w3 hw3r) mW_yL_matters q_1297 hd_yL_matters (by decide) (Nat.le_of_ble_eq_true rfl) ⟨show k + 6 ≤ 601024 by omega, show n + 60 ≤ 7293034 by omega⟩ dL_law_952 rfl (kI fun rk N1 ad1 g1 h1 => ?_)
  obtain ⟨⟨⟨hN1, hA1, hG1⟩, hKG⟩, h1⟩ := h1
  have hM1 : okMr cs ad1 g1 921 x F r sR oR aR fR mR bR pR := hM.grow (fun j a b => hA1 j (by omega)) (fun j a b => hG1 j (by omega) (by omega))
  have hN2 : 952 ≤ N1 := by omega
  rw [← hA1 0 (by omega), ← hA1 921 (by omega), ← hA1 951 (by omega)]
  have hay4 : zAt ad1 (921) (ad1 921) := rfl
  obtain ⟨hR1, q1, hq1⟩ := h1
  refine z_istore (lv' := [(5, .int (zI (rk))), (4, .int (zI (z))), (3, .ref (ad1 951)), (2, .ref (ad1 921)), (1, .ref (ad1 0)), (0, .ref b)]) C dL_law_955 (by decide) rfl ?_
  refine z_aload_n C 3 dL_law_957 rfl ?_
  refine z_aload_n C 5 dL_law_958 rfl ?_
  refine z_iload C 1 dL_law_959 rfl ?_
  refine z_iconst (z := 1) C dL_law_961 rfl ?_
  refine z_iadd C dL_law_962 ?_
  refine z_sld C hX hbl hbA (z + 1).toNat (by omega) (by omega) (by omega) hw1 dL_law_963 ?_
  refine z_aload_n C 5 dL_law_964 rfl ?_
  refine z_iload C 1 dL_law_965 rfl ?_
  refine z_iconst (z := 2) C dL_law_967 rfl ?_
  refine z_iadd C dL_law_968 ?_
  refine z_sld C hX hbl hbA (z + 2).toNat (by omega) (by omega) (by omega) hw2 dL_law_969 ?_
  refine z_aload_n C 5 dL_law_970 rfl ?_
  refine z_iload C 1 dL_law_971 rfl ?_
  refine z_iconst (z := 3) C dL_law_973 rfl ?_
  refine z_iadd C dL_law_974 ?_
  refine z_sld C hX hbl hbA (z + 3).toNat (by omega) (by omega) (by omega) hw3 dL_law_975 ?_
  refine z_cV (As := [.int (zI (w1)), .int (zI (w2)), .int (zI (w3))]) (rest := []) (ci := 12) C (c_X10_matters l D A cs tt N1 ad1 _ 921 (by omega) x (by omega) F r hM1 hPl w1 hw1r w2 hw2r w3 hw3r) (by omega) hay4 hM1.1 rfl rfl mv_yX10_matters q_2015 hd_yX10_matters (by decide) (Nat.le_of_ble_eq_true rfl) ⟨show k + 6 + 0 ≤ 601024 by omega, show n + 60 + 0 ≤ 7293034 by omega⟩ dL_law_976 rfl (kI0 fun ry gy hy => ?_)
  obtain ⟨hry, ⟨F2, r2, hM2, hF2, hP2, hw2⟩, hG2⟩ := hy
  refine z_istore (lv' := [(6, .int (zI (ry))), (5, .int (zI (rk))), (4, .int (zI (z))), (3, .ref (ad1 951)), (2, .ref (ad1 921)), (1, .ref (ad1 0)), (0, .ref b)]) C dL_law_979 (by decide) rfl ?_
  refine z_goto (tgt := 1348) C dL_law_981 (by decide) ?_
  refine z_lv (lv' := [(4, .int (zI (z))), (3, .ref (ad1 951)), (2, .ref (ad1 921)), (1, .ref (ad1 0)), (0, .ref b)]) [2, 3, 4, 5, 6] rfl ?_
  refine z_widen (k2 := k + 16) (n2 := n + 2150) (show k + 6 + 0 ≤ k + 16 by omega) (show n + 60 + 0 ≤ n + 2150 by omega) ?_
  exact hK _ _ _ _ hN2 ⟨_, _, _, _, _, _, _, _, _, _, _, _, _, _, _, _, _, _, _, _, _, _, _, (hR1.o951 (fun j hj => hG2 j (by omega))), hM2, (hJ.keep ⟨hF2.1, hF2.2.1, hF2.2.2.2.2.1, hF2.2.2.2.2.2.2.2.1, hF2.2.2.2.2.2.2.2.2.1, hF2.2.2.2.2.2.2.2.2.2.1, hF2.2.2.2.2.2.2.2.2.2.2⟩), (hW.ques (fun j a b => hA1 j (by omega)) (fun j a b => (hG2 j (by omega)).trans (hKG j a b)) (fun j a b => (hG2 j (by omega)).trans (hG1 j (by omega) (by omega))) ⟨hF2.2.2.1, hF2.2.2.2.1, hF2.2.2.2.2.2.1, hF2.2.2.2.2.2.2.1, hF2.2.2.2.2.2.2.2.1⟩ hP2 hw2)⟩ ((hG2 951 (by omega)).trans hq1)

set_option maxRecDepth 100000 in
set_option maxHeartbeats 4000000 in
theorem law_c22 {p : Program} {l : Launch} {e : Env} {s : State} {m : MethodId} {below : List Frame} {meth : Method} {c : Code} {D : va_G} {A : Nat → Prop} {cs : Nat → ClassId} {tt : Nat} {b L : Nat} {xs : Nat → Int32} {N : Nat} {ad : Nat → Nat} {g : Nat → va_E} {k n : Nat} {x z : Int} {q : Nat → Int} {w1 w2 w3 w4 w5 : Int} (hl0 : l.stackTraces = false) (C : zC p s m #[Value.ref b] c cL_law 7 RL D A cs tt) (hr : meth.sig.returnType = ret) (hlk : meth.locks = false) (hA : ∀ q, A q → s.heap.size ≤ q) (hX : va_X b L xs s s.heap) (hbl : b < s.heap.size) (hbA : ¬ A b) (hL : L ≤ 3072) (hN : 952 ≤ N) (hJI : JI cs ad g N x) (hq : g 951 = jA cs 1 q) (hx : 0 ≤ x ∧ x ≤ 511) (hz : z = 6 * x) (hzL : z + 6 ≤ (L : Int)) (hk : k ≤ 590000) (hn : n ≤ 7000000) (hw1r : -2147483648 ≤ w1 ∧ w1 ≤ 2147483647) (hw1 : xs (z + 1).toNat = zI w1) (hw2r : -2147483648 ≤ w2 ∧ w2 ≤ 2147483647) (hw2 : xs (z + 2).toNat = zI w2) (hw3r : -2147483648 ≤ w3 ∧ w3 ≤ 2147483647) (hw3 : xs (z + 3).toNat = zI w3) (hw4r : -2147483648 ≤ w4 ∧ w4 ≤ 2147483647) (hw4 : xs (z + 4).toNat = zI w4) (hw5r : -2147483648 ≤ w5 ∧ w5 ≤ 2147483647) (hw5 : xs (z + 5).toNat = zI w5) (hK : ∀ (N' : Nat) (ad' : Nat → Nat) (g' : Nat → va_E) (q' : Nat → Int), 952 ≤ N' → JI cs ad' g' N' (x + 1) → g' 951 = jA cs 1 q' → zV p l e room_1 s m #[Value.ref b] below meth c (lw_Z below #[Value.ref b] s) D A 7 (N') ad' g' (k + 16) (n + 2150) 1348 [(4, .int (zI (z))), (3, .ref (ad' 951)), (2, .ref (ad' 921)), (1, .ref (ad' 0)), (0, .ref b)] []) : zV p l e room_1 s m #[Value.ref b] below meth c (lw_Z below #[Value.ref b] s) D A 7 (N) ad g (k) (n) 984 [(4, .int (zI (z))), (3, .ref (ad 951)), (2, .ref (ad 921)), (1, .ref (ad 0)), (0, .ref b)] [] := by
  have hay1 : zAt ad (0) (ad 0) := rfl
  have hay2 : zAt ad (921) (ad 921) := rfl
  have hay3 : zAt ad (951) (ad 951) := rfl
  obtain ⟨t, fp, im, nz, kz, sl, ho, st, op, ai, fa, mu, tb, tp, F, r, sR, oR, aR, fR, mR, bR, pR, hR, hM, hJ, hW⟩ := hJI
  have hPl := hW.pl
  refine z_aload_n C 3 dL_law_984 rfl ?_
  refine z_aload_n C 4 dL_law_985 rfl ?_
  refine z_iload C 0 dL_law_986 rfl ?_
  refine z_iconst (z := 1) C dL_law_988 rfl ?_
  refine z_iadd C dL_law_989 ?_
  refine z_sld C hX hbl hbA (z + 1).toNat (by omega) (by omega) (by omega) hw1 dL_law_990 ?_
  refine z_aload_n C 4 dL_law_991 rfl ?_
  refine z_iload C 0 dL_law_992 rfl ?_
  refine z_iconst (z := 2) C dL_law_994 rfl ?_
  refine z_iadd C dL_law_995 ?_
  refine z_sld C hX hbl hbA (z + 2).toNat (by omega) (by omega) (by omega) hw2 dL_law_996 ?_
  refine z_aload_n C 1 dL_law_997 rfl ?_
  refine z_cSW (As := [.ref (ad 0), .int (zI (w1)), .int (zI (w2)), .ref (ad 951)]) (rest := []) C (c_L_pitOf l D A cs tt N ad _ hN hR hl0 q hq w1 hw1r w2 hw2r) mW_yL_pitOf q_1309 hd_yL_pitOf (by decide) (Nat.le_of_ble_eq_true rfl) ⟨show k + 6 ≤ 601024 by omega, show n + 36 ≤ 7293034 by omega⟩ dL_law_998 rfl (kI fun rk N1 ad1 g1 h1 => ?_)
  obtain ⟨⟨⟨hN1, hA1, hG1⟩, hKG⟩, h1⟩ := h1
  have hM1 : okMr cs ad1 g1 921 x F r sR oR aR fR mR bR pR := hM.grow (fun j a b => hA1 j (by omega)) (fun j a b => hG1 j (by omega) (by omega))
  have hN2 : 952 ≤ N1 := by omega
  rw [← hA1 0 (by omega), ← hA1 921 (by omega), ← hA1 951 (by omega)]
  have hay4 : zAt ad1 (921) (ad1 921) := rfl
  obtain ⟨hR1, q1, hq1⟩ := h1
  refine z_istore (lv' := [(5, .int (zI (rk))), (4, .int (zI (z))), (3, .ref (ad1 951)), (2, .ref (ad1 921)), (1, .ref (ad1 0)), (0, .ref b)]) C dL_law_1001 (by decide) rfl ?_
  refine z_aload_n C 3 dL_law_1003 rfl ?_
  refine z_aload_n C 5 dL_law_1004 rfl ?_
  refine z_iload C 1 dL_law_1005 rfl ?_
  refine z_iconst (z := 1) C dL_law_1007 rfl ?_
  refine z_iadd C dL_law_1008 ?_
  refine z_sld C hX hbl hbA (z + 1).toNat (by omega) (by omega) (by omega) hw1 dL_law_1009 ?_
  refine z_aload_n C 5 dL_law_1010 rfl ?_
  refine z_iload C 1 dL_law_1011 rfl ?_
  refine z_iconst (z := 2) C dL_law_1013 rfl ?_
  refine z_iadd C dL_law_1014 ?_
  refine z_sld C hX hbl hbA (z + 2).toNat (by omega) (by omega) (by omega) hw2 dL_law_1015 ?_
  refine z_cV (As := [.int (zI (w1)), .int (zI (w2))]) (rest := []) (ci := 12) C (c_X10_pitOf l D A cs tt N1 ad1 _ 921 (by omega) x (by omega) F r hM1 hPl w1 hw1r w2 hw2r) (by omega) hay4 hM1.1 rfl rfl mv_yX10_pitOf q_2023 hd_yX10_pitOf (by decide) (Nat.le_of_ble_eq_true rfl) ⟨show k + 6 + 0 ≤ 601024 by omega, show n + 36 + 0 ≤ 7293034 by omega⟩ dL_law_1016 rfl (kI0 fun ry gy hy => ?_)
  obtain ⟨hry, ⟨F2, r2, hM2, hF2, hP2, hw2⟩, hG2⟩ := hy
  refine z_istore (lv' := [(6, .int (zI (ry))), (5, .int (zI (rk))), (4, .int (zI (z))), (3, .ref (ad1 951)), (2, .ref (ad1 921)), (1, .ref (ad1 0)), (0, .ref b)]) C dL_law_1019 (by decide) rfl ?_
  refine z_goto (tgt := 1348) C dL_law_1021 (by decide) ?_
  refine z_lv (lv' := [(4, .int (zI (z))), (3, .ref (ad1 951)), (2, .ref (ad1 921)), (1, .ref (ad1 0)), (0, .ref b)]) [2, 3, 4, 5, 6] rfl ?_
  refine z_widen (k2 := k + 16) (n2 := n + 2150) (show k + 6 + 0 ≤ k + 16 by omega) (show n + 36 + 0 ≤ n + 2150 by omega) ?_
  exact hK _ _ _ _ hN2 ⟨_, _, _, _, _, _, _, _, _, _, _, _, _, _, _, _, _, _, _, _, _, _, _, (hR1.o951 (fun j hj => hG2 j (by omega))), hM2, (hJ.keep ⟨hF2.1, hF2.2.1, hF2.2.2.2.2.1, hF2.2.2.2.2.2.2.2.1, hF2.2.2.2.2.2.2.2.2.1, hF2.2.2.2.2.2.2.2.2.2.1, hF2.2.2.2.2.2.2.2.2.2.2⟩), (hW.ques (fun j a b => hA1 j (by omega)) (fun j a b => (hG2 j (by omega)).trans (hKG j a b)) (fun j a b => (hG2 j (by omega)).trans (hG1 j (by omega) (by omega))) ⟨hF2.2.2.1, hF2.2.2.2.1, hF2.2.2.2.2.2.1, hF2.2.2.2.2.2.2.1, hF2.2.2.2.2.2.2.2.1⟩ hP2 hw2)⟩ ((hG2 951 (by omega)).trans hq1)

set_option maxRecDepth 100000 in
set_option maxHeartbeats 4000000 in
theorem law_c23 {p : Program} {l : Launch} {e : Env} {s : State} {m : MethodId} {below : List Frame} {meth : Method} {c : Code} {D : va_G} {A : Nat → Prop} {cs : Nat → ClassId} {tt : Nat} {b L : Nat} {xs : Nat → Int32} {N : Nat} {ad : Nat → Nat} {g : Nat → va_E} {k n : Nat} {x z : Int} {q : Nat → Int} {w1 w2 w3 w4 w5 : Int} (hl0 : l.stackTraces = false) (C : zC p s m #[Value.ref b] c cL_law 7 RL D A cs tt) (hr : meth.sig.returnType = ret) (hlk : meth.locks = false) (hA : ∀ q, A q → s.heap.size ≤ q) (hX : va_X b L xs s s.heap) (hbl : b < s.heap.size) (hbA : ¬ A b) (hL : L ≤ 3072) (hN : 952 ≤ N) (hJI : JI cs ad g N x) (hq : g 951 = jA cs 1 q) (hx : 0 ≤ x ∧ x ≤ 511) (hz : z = 6 * x) (hzL : z + 6 ≤ (L : Int)) (hk : k ≤ 590000) (hn : n ≤ 7000000) (hw1r : -2147483648 ≤ w1 ∧ w1 ≤ 2147483647) (hw1 : xs (z + 1).toNat = zI w1) (hw2r : -2147483648 ≤ w2 ∧ w2 ≤ 2147483647) (hw2 : xs (z + 2).toNat = zI w2) (hw3r : -2147483648 ≤ w3 ∧ w3 ≤ 2147483647) (hw3 : xs (z + 3).toNat = zI w3) (hw4r : -2147483648 ≤ w4 ∧ w4 ≤ 2147483647) (hw4 : xs (z + 4).toNat = zI w4) (hw5r : -2147483648 ≤ w5 ∧ w5 ≤ 2147483647) (hw5 : xs (z + 5).toNat = zI w5) (hK : ∀ (N' : Nat) (ad' : Nat → Nat) (g' : Nat → va_E) (q' : Nat → Int), 952 ≤ N' → JI cs ad' g' N' (x + 1) → g' 951 = jA cs 1 q' → zV p l e room_1 s m #[Value.ref b] below meth c (lw_Z below #[Value.ref b] s) D A 7 (N') ad' g' (k + 16) (n + 2150) 1348 [(4, .int (zI (z))), (3, .ref (ad' 951)), (2, .ref (ad' 921)), (1, .ref (ad' 0)), (0, .ref b)] []) : zV p l e room_1 s m #[Value.ref b] below meth c (lw_Z below #[Value.ref b] s) D A 7 (N) ad g (k) (n) 1024 [(4, .int (zI (z))), (3, .ref (ad 951)), (2, .ref (ad 921)), (1, .ref (ad 0)), (0, .ref b)] [] := by
  have hay1 : zAt ad (0) (ad 0) := rfl
  have hay2 : zAt ad (921) (ad 921) := rfl
  have hay3 : zAt ad (951) (ad 951) := rfl
  obtain ⟨t, fp, im, nz, kz, sl, ho, st, op, ai, fa, mu, tb, tp, F, r, sR, oR, aR, fR, mR, bR, pR, hR, hM, hJ, hW⟩ := hJI
  have hPl := hW.pl
  refine z_aload_n C 3 dL_law_1024 rfl ?_
  refine z_aload_n C 4 dL_law_1025 rfl ?_
  refine z_iload C 0 dL_law_1026 rfl ?_
  refine z_iconst (z := 1) C dL_law_1028 rfl ?_
  refine z_iadd C dL_law_1029 ?_
  refine z_sld C hX hbl hbA (z + 1).toNat (by omega) (by omega) (by omega) hw1 dL_law_1030 ?_
  refine z_aload_n C 4 dL_law_1031 rfl ?_
  refine z_iload C 0 dL_law_1032 rfl ?_
  refine z_iconst (z := 2) C dL_law_1034 rfl ?_
  refine z_iadd C dL_law_1035 ?_
  refine z_sld C hX hbl hbA (z + 2).toNat (by omega) (by omega) (by omega) hw2 dL_law_1036 ?_
  refine z_aload_n C 4 dL_law_1037 rfl ?_
  refine z_iload C 0 dL_law_1038 rfl ?_
  refine z_iconst (z := 3) C dL_law_1040 rfl ?_
  refine z_iadd C dL_law_1041 ?_
  refine z_sld C hX hbl hbA (z + 3).toNat (by omega) (by omega) (by omega) hw3 dL_law_1042 ?_
  refine z_aload_n C 1 dL_law_1043 rfl ?_
  refine z_cSW (As := [.ref (ad 0), .int (zI (w1)), .int (zI (w2)), .int (zI (w3)), .ref (ad 951)]) (rest := []) C (c_L_compare l D A cs tt N ad _ hN hR hl0 q hq w1 hw1r w2 hw2r w3 hw3r) mW_yL_compare q_1322 hd_yL_compare (by decide) (Nat.le_of_ble_eq_true rfl) ⟨show k + 6 ≤ 601024 by omega, show n + 60 ≤ 7293034 by omega⟩ dL_law_1044 rfl (kI fun rk N1 ad1 g1 h1 => ?_)
  obtain ⟨⟨⟨hN1, hA1, hG1⟩, hKG⟩, h1⟩ := h1
  have hM1 : okMr cs ad1 g1 921 x F r sR oR aR fR mR bR pR := hM.grow (fun j a b => hA1 j (by omega)) (fun j a b => hG1 j (by omega) (by omega))
  have hN2 : 952 ≤ N1 := by omega
  rw [← hA1 0 (by omega), ← hA1 921 (by omega), ← hA1 951 (by omega)]
  have hay4 : zAt ad1 (921) (ad1 921) := rfl
  obtain ⟨hR1, q1, hq1⟩ := h1
  refine z_istore (lv' := [(5, .int (zI (rk))), (4, .int (zI (z))), (3, .ref (ad1 951)), (2, .ref (ad1 921)), (1, .ref (ad1 0)), (0, .ref b)]) C dL_law_1047 (by decide) rfl ?_
  refine z_aload_n C 3 dL_law_1049 rfl ?_
  refine z_aload_n C 5 dL_law_1050 rfl ?_
  refine z_iload C 1 dL_law_1051 rfl ?_
  refine z_iconst (z := 1) C dL_law_1053 rfl ?_
  refine z_iadd C dL_law_1054 ?_
  refine z_sld C hX hbl hbA (z + 1).toNat (by omega) (by omega) (by omega) hw1 dL_law_1055 ?_
  refine z_aload_n C 5 dL_law_1056 rfl ?_
  refine z_iload C 1 dL_law_1057 rfl ?_
  refine z_iconst (z := 2) C dL_law_1059 rfl ?_
  refine z_iadd C dL_law_1060 ?_
  refine z_sld C hX hbl hbA (z + 2).toNat (by omega) (by omega) (by omega) hw2 dL_law_1061 ?_
  refine z_aload_n C 5 dL_law_1062 rfl ?_
  refine z_iload C 1 dL_law_1063 rfl ?_
  refine z_iconst (z := 3) C dL_law_1065 rfl ?_
  refine z_iadd C dL_law_1066 ?_
  refine z_sld C hX hbl hbA (z + 3).toNat (by omega) (by omega) (by omega) hw3 dL_law_1067 ?_
  refine z_cV (As := [.int (zI (w1)), .int (zI (w2)), .int (zI (w3))]) (rest := []) (ci := 12) C (c_X10_compare l D A cs tt N1 ad1 _ 921 (by omega) x (by omega) F r hM1 hPl w1 hw1r w2 hw2r w3 hw3r) (by omega) hay4 hM1.1 rfl rfl mv_yX10_compare q_2035 hd_yX10_compare (by decide) (Nat.le_of_ble_eq_true rfl) ⟨show k + 6 + 0 ≤ 601024 by omega, show n + 60 + 0 ≤ 7293034 by omega⟩ dL_law_1068 rfl (kI0 fun ry gy hy => ?_)
  obtain ⟨hry, ⟨F2, r2, hM2, hF2, hP2, hw2⟩, hG2⟩ := hy
  refine z_istore (lv' := [(6, .int (zI (ry))), (5, .int (zI (rk))), (4, .int (zI (z))), (3, .ref (ad1 951)), (2, .ref (ad1 921)), (1, .ref (ad1 0)), (0, .ref b)]) C dL_law_1071 (by decide) rfl ?_
  refine z_goto (tgt := 1348) C dL_law_1073 (by decide) ?_
  refine z_lv (lv' := [(4, .int (zI (z))), (3, .ref (ad1 951)), (2, .ref (ad1 921)), (1, .ref (ad1 0)), (0, .ref b)]) [2, 3, 4, 5, 6] rfl ?_
  refine z_widen (k2 := k + 16) (n2 := n + 2150) (show k + 6 + 0 ≤ k + 16 by omega) (show n + 60 + 0 ≤ n + 2150 by omega) ?_
  exact hK _ _ _ _ hN2 ⟨_, _, _, _, _, _, _, _, _, _, _, _, _, _, _, _, _, _, _, _, _, _, _, (hR1.o951 (fun j hj => hG2 j (by omega))), hM2, (hJ.keep ⟨hF2.1, hF2.2.1, hF2.2.2.2.2.1, hF2.2.2.2.2.2.2.2.1, hF2.2.2.2.2.2.2.2.2.1, hF2.2.2.2.2.2.2.2.2.2.1, hF2.2.2.2.2.2.2.2.2.2.2⟩), (hW.ques (fun j a b => hA1 j (by omega)) (fun j a b => (hG2 j (by omega)).trans (hKG j a b)) (fun j a b => (hG2 j (by omega)).trans (hG1 j (by omega) (by omega))) ⟨hF2.2.2.1, hF2.2.2.2.1, hF2.2.2.2.2.2.1, hF2.2.2.2.2.2.2.1, hF2.2.2.2.2.2.2.2.1⟩ hP2 hw2)⟩ ((hG2 951 (by omega)).trans hq1)

set_option maxRecDepth 100000 in
set_option maxHeartbeats 4000000 in
theorem law_c24 {p : Program} {l : Launch} {e : Env} {s : State} {m : MethodId} {below : List Frame} {meth : Method} {c : Code} {D : va_G} {A : Nat → Prop} {cs : Nat → ClassId} {tt : Nat} {b L : Nat} {xs : Nat → Int32} {N : Nat} {ad : Nat → Nat} {g : Nat → va_E} {k n : Nat} {x z : Int} {q : Nat → Int} {w1 w2 w3 w4 w5 : Int} (hl0 : l.stackTraces = false) (C : zC p s m #[Value.ref b] c cL_law 7 RL D A cs tt) (hr : meth.sig.returnType = ret) (hlk : meth.locks = false) (hA : ∀ q, A q → s.heap.size ≤ q) (hX : va_X b L xs s s.heap) (hbl : b < s.heap.size) (hbA : ¬ A b) (hL : L ≤ 3072) (hN : 952 ≤ N) (hJI : JI cs ad g N x) (hq : g 951 = jA cs 1 q) (hx : 0 ≤ x ∧ x ≤ 511) (hz : z = 6 * x) (hzL : z + 6 ≤ (L : Int)) (hk : k ≤ 590000) (hn : n ≤ 7000000) (hw1r : -2147483648 ≤ w1 ∧ w1 ≤ 2147483647) (hw1 : xs (z + 1).toNat = zI w1) (hw2r : -2147483648 ≤ w2 ∧ w2 ≤ 2147483647) (hw2 : xs (z + 2).toNat = zI w2) (hw3r : -2147483648 ≤ w3 ∧ w3 ≤ 2147483647) (hw3 : xs (z + 3).toNat = zI w3) (hw4r : -2147483648 ≤ w4 ∧ w4 ≤ 2147483647) (hw4 : xs (z + 4).toNat = zI w4) (hw5r : -2147483648 ≤ w5 ∧ w5 ≤ 2147483647) (hw5 : xs (z + 5).toNat = zI w5) (hK : ∀ (N' : Nat) (ad' : Nat → Nat) (g' : Nat → va_E) (q' : Nat → Int), 952 ≤ N' → JI cs ad' g' N' (x + 1) → g' 951 = jA cs 1 q' → zV p l e room_1 s m #[Value.ref b] below meth c (lw_Z below #[Value.ref b] s) D A 7 (N') ad' g' (k + 16) (n + 2150) 1348 [(4, .int (zI (z))), (3, .ref (ad' 951)), (2, .ref (ad' 921)), (1, .ref (ad' 0)), (0, .ref b)] []) : zV p l e room_1 s m #[Value.ref b] below meth c (lw_Z below #[Value.ref b] s) D A 7 (N) ad g (k) (n) 1076 [(4, .int (zI (z))), (3, .ref (ad 951)), (2, .ref (ad 921)), (1, .ref (ad 0)), (0, .ref b)] [] := by
  have hay1 : zAt ad (0) (ad 0) := rfl
  have hay2 : zAt ad (921) (ad 921) := rfl
  have hay3 : zAt ad (951) (ad 951) := rfl
  obtain ⟨t, fp, im, nz, kz, sl, ho, st, op, ai, fa, mu, tb, tp, F, r, sR, oR, aR, fR, mR, bR, pR, hR, hM, hJ, hW⟩ := hJI
  have hPl := hW.pl
  refine z_aload_n C 3 dL_law_1076 rfl ?_
  refine z_aload_n C 4 dL_law_1077 rfl ?_
  refine z_iload C 0 dL_law_1078 rfl ?_
  refine z_iconst (z := 1) C dL_law_1080 rfl ?_
  refine z_iadd C dL_law_1081 ?_
  refine z_sld C hX hbl hbA (z + 1).toNat (by omega) (by omega) (by omega) hw1 dL_law_1082 ?_
  refine z_aload_n C 1 dL_law_1083 rfl ?_
  refine z_cSW (As := [.ref (ad 0), .int (zI (w1)), .ref (ad 951)]) (rest := []) C (c_L_nearest l D A cs tt N ad _ hN hR hl0 q hq w1 hw1r) mW_yL_nearest q_1349 hd_yL_nearest (by decide) (Nat.le_of_ble_eq_true rfl) ⟨show k + 6 ≤ 601024 by omega, show n + 60 ≤ 7293034 by omega⟩ dL_law_1084 rfl (kI fun rk N1 ad1 g1 h1 => ?_)
  obtain ⟨⟨⟨hN1, hA1, hG1⟩, hKG⟩, h1⟩ := h1
  have hM1 : okMr cs ad1 g1 921 x F r sR oR aR fR mR bR pR := hM.grow (fun j a b => hA1 j (by omega)) (fun j a b => hG1 j (by omega) (by omega))
  have hN2 : 952 ≤ N1 := by omega
  rw [← hA1 0 (by omega), ← hA1 921 (by omega), ← hA1 951 (by omega)]
  have hay4 : zAt ad1 (921) (ad1 921) := rfl
  obtain ⟨hR1, q1, hq1⟩ := h1
  refine z_istore (lv' := [(5, .int (zI (rk))), (4, .int (zI (z))), (3, .ref (ad1 951)), (2, .ref (ad1 921)), (1, .ref (ad1 0)), (0, .ref b)]) C dL_law_1087 (by decide) rfl ?_
  refine z_aload_n C 3 dL_law_1089 rfl ?_
  refine z_aload_n C 5 dL_law_1090 rfl ?_
  refine z_iload C 1 dL_law_1091 rfl ?_
  refine z_iconst (z := 1) C dL_law_1093 rfl ?_
  refine z_iadd C dL_law_1094 ?_
  refine z_sld C hX hbl hbA (z + 1).toNat (by omega) (by omega) (by omega) hw1 dL_law_1095 ?_
  refine z_cV (As := [.int (zI (w1))]) (rest := []) (ci := 12) C (c_X10_nearest l D A cs tt N1 ad1 _ 921 (by omega) x (by omega) F r hM1 hPl w1 hw1r) (by omega) hay4 hM1.1 rfl rfl mv_yX10_nearest q_2059 hd_yX10_nearest (by decide) (Nat.le_of_ble_eq_true rfl) ⟨show k + 6 + 0 ≤ 601024 by omega, show n + 60 + 0 ≤ 7293034 by omega⟩ dL_law_1096 rfl (kI0 fun ry gy hy => ?_)
  obtain ⟨hry, ⟨F2, r2, hM2, hF2, hP2, hw2⟩, hG2⟩ := hy
  refine z_istore (lv' := [(6, .int (zI (ry))), (5, .int (zI (rk))), (4, .int (zI (z))), (3, .ref (ad1 951)), (2, .ref (ad1 921)), (1, .ref (ad1 0)), (0, .ref b)]) C dL_law_1099 (by decide) rfl ?_
  refine z_goto (tgt := 1348) C dL_law_1101 (by decide) ?_
  refine z_lv (lv' := [(4, .int (zI (z))), (3, .ref (ad1 951)), (2, .ref (ad1 921)), (1, .ref (ad1 0)), (0, .ref b)]) [2, 3, 4, 5, 6] rfl ?_
  refine z_widen (k2 := k + 16) (n2 := n + 2150) (show k + 6 + 0 ≤ k + 16 by omega) (show n + 60 + 0 ≤ n + 2150 by omega) ?_
  exact hK _ _ _ _ hN2 ⟨_, _, _, _, _, _, _, _, _, _, _, _, _, _, _, _, _, _, _, _, _, _, _, (hR1.o951 (fun j hj => hG2 j (by omega))), hM2, (hJ.keep ⟨hF2.1, hF2.2.1, hF2.2.2.2.2.1, hF2.2.2.2.2.2.2.2.1, hF2.2.2.2.2.2.2.2.2.1, hF2.2.2.2.2.2.2.2.2.2.1, hF2.2.2.2.2.2.2.2.2.2.2⟩), (hW.ques (fun j a b => hA1 j (by omega)) (fun j a b => (hG2 j (by omega)).trans (hKG j a b)) (fun j a b => (hG2 j (by omega)).trans (hG1 j (by omega) (by omega))) ⟨hF2.2.2.1, hF2.2.2.2.1, hF2.2.2.2.2.2.1, hF2.2.2.2.2.2.2.1, hF2.2.2.2.2.2.2.2.1⟩ hP2 hw2)⟩ ((hG2 951 (by omega)).trans hq1)

set_option maxRecDepth 100000 in
set_option maxHeartbeats 4000000 in
theorem law_c26 {p : Program} {l : Launch} {e : Env} {s : State} {m : MethodId} {below : List Frame} {meth : Method} {c : Code} {D : va_G} {A : Nat → Prop} {cs : Nat → ClassId} {tt : Nat} {b L : Nat} {xs : Nat → Int32} {N : Nat} {ad : Nat → Nat} {g : Nat → va_E} {k n : Nat} {x z : Int} {q : Nat → Int} {w1 w2 w3 w4 w5 : Int} (hl0 : l.stackTraces = false) (C : zC p s m #[Value.ref b] c cL_law 7 RL D A cs tt) (hr : meth.sig.returnType = ret) (hlk : meth.locks = false) (hA : ∀ q, A q → s.heap.size ≤ q) (hX : va_X b L xs s s.heap) (hbl : b < s.heap.size) (hbA : ¬ A b) (hL : L ≤ 3072) (hN : 952 ≤ N) (hJI : JI cs ad g N x) (hq : g 951 = jA cs 1 q) (hx : 0 ≤ x ∧ x ≤ 511) (hz : z = 6 * x) (hzL : z + 6 ≤ (L : Int)) (hk : k ≤ 590000) (hn : n ≤ 7000000) (hw1r : -2147483648 ≤ w1 ∧ w1 ≤ 2147483647) (hw1 : xs (z + 1).toNat = zI w1) (hw2r : -2147483648 ≤ w2 ∧ w2 ≤ 2147483647) (hw2 : xs (z + 2).toNat = zI w2) (hw3r : -2147483648 ≤ w3 ∧ w3 ≤ 2147483647) (hw3 : xs (z + 3).toNat = zI w3) (hw4r : -2147483648 ≤ w4 ∧ w4 ≤ 2147483647) (hw4 : xs (z + 4).toNat = zI w4) (hw5r : -2147483648 ≤ w5 ∧ w5 ≤ 2147483647) (hw5 : xs (z + 5).toNat = zI w5) (hK : ∀ (N' : Nat) (ad' : Nat → Nat) (g' : Nat → va_E) (q' : Nat → Int), 952 ≤ N' → JI cs ad' g' N' (x + 1) → g' 951 = jA cs 1 q' → zV p l e room_1 s m #[Value.ref b] below meth c (lw_Z below #[Value.ref b] s) D A 7 (N') ad' g' (k + 16) (n + 2150) 1348 [(4, .int (zI (z))), (3, .ref (ad' 951)), (2, .ref (ad' 921)), (1, .ref (ad' 0)), (0, .ref b)] []) : zV p l e room_1 s m #[Value.ref b] below meth c (lw_Z below #[Value.ref b] s) D A 7 (N) ad g (k) (n) 1153 [(4, .int (zI (z))), (3, .ref (ad 951)), (2, .ref (ad 921)), (1, .ref (ad 0)), (0, .ref b)] [] := by
  have hay1 : zAt ad (0) (ad 0) := rfl
  have hay2 : zAt ad (921) (ad 921) := rfl
  have hay3 : zAt ad (951) (ad 951) := rfl
  obtain ⟨t, fp, im, nz, kz, sl, ho, st, op, ai, fa, mu, tb, tp, F, r, sR, oR, aR, fR, mR, bR, pR, hR, hM, hJ, hW⟩ := hJI
  have hPl := hW.pl
  refine z_aload_n C 3 dL_law_1153 rfl ?_
  refine z_aload_n C 4 dL_law_1154 rfl ?_
  refine z_iload C 0 dL_law_1155 rfl ?_
  refine z_iconst (z := 1) C dL_law_1157 rfl ?_
  refine z_iadd C dL_law_1158 ?_
  refine z_sld C hX hbl hbA (z + 1).toNat (by omega) (by omega) (by omega) hw1 dL_law_1159 ?_
  refine z_aload_n C 1 dL_law_1160 rfl ?_
  refine z_cSW (As := [.ref (ad 0), .int (zI (w1)), .ref (ad 951)]) (rest := []) C (c_L_falls l D A cs tt N ad _ hN hR hl0 q hq w1 hw1r) mW_yL_falls q_1356 hd_yL_falls (by decide) (Nat.le_of_ble_eq_true rfl) ⟨show k + 6 ≤ 601024 by omega, show n + 60 ≤ 7293034 by omega⟩ dL_law_1161 rfl (kI fun rk N1 ad1 g1 h1 => ?_)
  obtain ⟨⟨⟨hN1, hA1, hG1⟩, hKG⟩, h1⟩ := h1
  have hM1 : okMr cs ad1 g1 921 x F r sR oR aR fR mR bR pR := hM.grow (fun j a b => hA1 j (by omega)) (fun j a b => hG1 j (by omega) (by omega))
  have hN2 : 952 ≤ N1 := by omega
  rw [← hA1 0 (by omega), ← hA1 921 (by omega), ← hA1 951 (by omega)]
  have hay4 : zAt ad1 (921) (ad1 921) := rfl
  obtain ⟨hR1, q1, hq1⟩ := h1
  refine z_istore (lv' := [(5, .int (zI (rk))), (4, .int (zI (z))), (3, .ref (ad1 951)), (2, .ref (ad1 921)), (1, .ref (ad1 0)), (0, .ref b)]) C dL_law_1164 (by decide) rfl ?_
  refine z_aload_n C 3 dL_law_1166 rfl ?_
  refine z_aload_n C 5 dL_law_1167 rfl ?_
  refine z_iload C 1 dL_law_1168 rfl ?_
  refine z_iconst (z := 1) C dL_law_1170 rfl ?_
  refine z_iadd C dL_law_1171 ?_
  refine z_sld C hX hbl hbA (z + 1).toNat (by omega) (by omega) (by omega) hw1 dL_law_1172 ?_
  refine z_cV (As := [.int (zI (w1))]) (rest := []) (ci := 12) C (c_X10_falls l D A cs tt N1 ad1 _ 921 (by omega) x (by omega) F r hM1 hPl w1 hw1r) (by omega) hay4 hM1.1 rfl rfl mv_yX10_falls q_2067 hd_yX10_falls (by decide) (Nat.le_of_ble_eq_true rfl) ⟨show k + 6 + 0 ≤ 601024 by omega, show n + 60 + 0 ≤ 7293034 by omega⟩ dL_law_1173 rfl (kI0 fun ry gy hy => ?_)
  obtain ⟨hry, ⟨F2, r2, hM2, hF2, hP2, hw2⟩, hG2⟩ := hy
  refine z_istore (lv' := [(6, .int (zI (ry))), (5, .int (zI (rk))), (4, .int (zI (z))), (3, .ref (ad1 951)), (2, .ref (ad1 921)), (1, .ref (ad1 0)), (0, .ref b)]) C dL_law_1176 (by decide) rfl ?_
  refine z_goto (tgt := 1348) C dL_law_1178 (by decide) ?_
  refine z_lv (lv' := [(4, .int (zI (z))), (3, .ref (ad1 951)), (2, .ref (ad1 921)), (1, .ref (ad1 0)), (0, .ref b)]) [2, 3, 4, 5, 6] rfl ?_
  refine z_widen (k2 := k + 16) (n2 := n + 2150) (show k + 6 + 0 ≤ k + 16 by omega) (show n + 60 + 0 ≤ n + 2150 by omega) ?_
  exact hK _ _ _ _ hN2 ⟨_, _, _, _, _, _, _, _, _, _, _, _, _, _, _, _, _, _, _, _, _, _, _, (hR1.o951 (fun j hj => hG2 j (by omega))), hM2, (hJ.keep ⟨hF2.1, hF2.2.1, hF2.2.2.2.2.1, hF2.2.2.2.2.2.2.2.1, hF2.2.2.2.2.2.2.2.2.1, hF2.2.2.2.2.2.2.2.2.2.1, hF2.2.2.2.2.2.2.2.2.2.2⟩), (hW.ques (fun j a b => hA1 j (by omega)) (fun j a b => (hG2 j (by omega)).trans (hKG j a b)) (fun j a b => (hG2 j (by omega)).trans (hG1 j (by omega) (by omega))) ⟨hF2.2.2.1, hF2.2.2.2.1, hF2.2.2.2.2.2.1, hF2.2.2.2.2.2.2.1, hF2.2.2.2.2.2.2.2.1⟩ hP2 hw2)⟩ ((hG2 951 (by omega)).trans hq1)

set_option maxRecDepth 100000 in
set_option maxHeartbeats 4000000 in
theorem law_c27 {p : Program} {l : Launch} {e : Env} {s : State} {m : MethodId} {below : List Frame} {meth : Method} {c : Code} {D : va_G} {A : Nat → Prop} {cs : Nat → ClassId} {tt : Nat} {b L : Nat} {xs : Nat → Int32} {N : Nat} {ad : Nat → Nat} {g : Nat → va_E} {k n : Nat} {x z : Int} {q : Nat → Int} {w1 w2 w3 w4 w5 : Int} (hl0 : l.stackTraces = false) (C : zC p s m #[Value.ref b] c cL_law 7 RL D A cs tt) (hr : meth.sig.returnType = ret) (hlk : meth.locks = false) (hA : ∀ q, A q → s.heap.size ≤ q) (hX : va_X b L xs s s.heap) (hbl : b < s.heap.size) (hbA : ¬ A b) (hL : L ≤ 3072) (hN : 952 ≤ N) (hJI : JI cs ad g N x) (hq : g 951 = jA cs 1 q) (hx : 0 ≤ x ∧ x ≤ 511) (hz : z = 6 * x) (hzL : z + 6 ≤ (L : Int)) (hk : k ≤ 590000) (hn : n ≤ 7000000) (hw1r : -2147483648 ≤ w1 ∧ w1 ≤ 2147483647) (hw1 : xs (z + 1).toNat = zI w1) (hw2r : -2147483648 ≤ w2 ∧ w2 ≤ 2147483647) (hw2 : xs (z + 2).toNat = zI w2) (hw3r : -2147483648 ≤ w3 ∧ w3 ≤ 2147483647) (hw3 : xs (z + 3).toNat = zI w3) (hw4r : -2147483648 ≤ w4 ∧ w4 ≤ 2147483647) (hw4 : xs (z + 4).toNat = zI w4) (hw5r : -2147483648 ≤ w5 ∧ w5 ≤ 2147483647) (hw5 : xs (z + 5).toNat = zI w5) (hK : ∀ (N' : Nat) (ad' : Nat → Nat) (g' : Nat → va_E) (q' : Nat → Int), 952 ≤ N' → JI cs ad' g' N' (x + 1) → g' 951 = jA cs 1 q' → zV p l e room_1 s m #[Value.ref b] below meth c (lw_Z below #[Value.ref b] s) D A 7 (N') ad' g' (k + 16) (n + 2150) 1348 [(4, .int (zI (z))), (3, .ref (ad' 951)), (2, .ref (ad' 921)), (1, .ref (ad' 0)), (0, .ref b)] []) : zV p l e room_1 s m #[Value.ref b] below meth c (lw_Z below #[Value.ref b] s) D A 7 (N) ad g (k) (n) 1181 [(4, .int (zI (z))), (3, .ref (ad 951)), (2, .ref (ad 921)), (1, .ref (ad 0)), (0, .ref b)] [] := by
  have hay1 : zAt ad (0) (ad 0) := rfl
  have hay2 : zAt ad (921) (ad 921) := rfl
  have hay3 : zAt ad (951) (ad 951) := rfl
  obtain ⟨t, fp, im, nz, kz, sl, ho, st, op, ai, fa, mu, tb, tp, F, r, sR, oR, aR, fR, mR, bR, pR, hR, hM, hJ, hW⟩ := hJI
  have hPl := hW.pl
  refine z_aload_n C 3 dL_law_1181 rfl ?_
  refine z_aload_n C 4 dL_law_1182 rfl ?_
  refine z_iload C 0 dL_law_1183 rfl ?_
  refine z_iconst (z := 1) C dL_law_1185 rfl ?_
  refine z_iadd C dL_law_1186 ?_
  refine z_sld C hX hbl hbA (z + 1).toNat (by omega) (by omega) (by omega) hw1 dL_law_1187 ?_
  refine z_aload_n C 1 dL_law_1188 rfl ?_
  refine z_cSW (As := [.ref (ad 0), .int (zI (w1)), .ref (ad 951)]) (rest := []) C (c_L_look l D A cs tt N ad _ hN hR hl0 q hq w1 hw1r) mW_yL_look q_1401 hd_yL_look (by decide) (Nat.le_of_ble_eq_true rfl) ⟨show k + 6 ≤ 601024 by omega, show n + 60 ≤ 7293034 by omega⟩ dL_law_1189 rfl (kI fun rk N1 ad1 g1 h1 => ?_)
  obtain ⟨⟨⟨hN1, hA1, hG1⟩, hKG⟩, h1⟩ := h1
  have hM1 : okMr cs ad1 g1 921 x F r sR oR aR fR mR bR pR := hM.grow (fun j a b => hA1 j (by omega)) (fun j a b => hG1 j (by omega) (by omega))
  have hN2 : 952 ≤ N1 := by omega
  rw [← hA1 0 (by omega), ← hA1 921 (by omega), ← hA1 951 (by omega)]
  have hay4 : zAt ad1 (921) (ad1 921) := rfl
  obtain ⟨hR1, q1, hq1⟩ := h1
  refine z_istore (lv' := [(5, .int (zI (rk))), (4, .int (zI (z))), (3, .ref (ad1 951)), (2, .ref (ad1 921)), (1, .ref (ad1 0)), (0, .ref b)]) C dL_law_1192 (by decide) rfl ?_
  refine z_aload_n C 3 dL_law_1194 rfl ?_
  refine z_aload_n C 5 dL_law_1195 rfl ?_
  refine z_iload C 1 dL_law_1196 rfl ?_
  refine z_iconst (z := 1) C dL_law_1198 rfl ?_
  refine z_iadd C dL_law_1199 ?_
  refine z_sld C hX hbl hbA (z + 1).toNat (by omega) (by omega) (by omega) hw1 dL_law_1200 ?_
  refine z_cV (As := [.int (zI (w1))]) (rest := []) (ci := 12) C (c_X10_look l D A cs tt N1 ad1 _ 921 (by omega) x (by omega) F r hM1 hPl w1 hw1r) (by omega) hay4 hM1.1 rfl rfl mv_yX10_look q_2079 hd_yX10_look (by decide) (Nat.le_of_ble_eq_true rfl) ⟨show k + 6 + 0 ≤ 601024 by omega, show n + 60 + 0 ≤ 7293034 by omega⟩ dL_law_1201 rfl (kI0 fun ry gy hy => ?_)
  obtain ⟨hry, ⟨F2, r2, hM2, hF2, hP2, hw2⟩, hG2⟩ := hy
  refine z_istore (lv' := [(6, .int (zI (ry))), (5, .int (zI (rk))), (4, .int (zI (z))), (3, .ref (ad1 951)), (2, .ref (ad1 921)), (1, .ref (ad1 0)), (0, .ref b)]) C dL_law_1204 (by decide) rfl ?_
  refine z_goto (tgt := 1348) C dL_law_1206 (by decide) ?_
  refine z_lv (lv' := [(4, .int (zI (z))), (3, .ref (ad1 951)), (2, .ref (ad1 921)), (1, .ref (ad1 0)), (0, .ref b)]) [2, 3, 4, 5, 6] rfl ?_
  refine z_widen (k2 := k + 16) (n2 := n + 2150) (show k + 6 + 0 ≤ k + 16 by omega) (show n + 60 + 0 ≤ n + 2150 by omega) ?_
  exact hK _ _ _ _ hN2 ⟨_, _, _, _, _, _, _, _, _, _, _, _, _, _, _, _, _, _, _, _, _, _, _, (hR1.o951 (fun j hj => hG2 j (by omega))), hM2, (hJ.keep ⟨hF2.1, hF2.2.1, hF2.2.2.2.2.1, hF2.2.2.2.2.2.2.2.1, hF2.2.2.2.2.2.2.2.2.1, hF2.2.2.2.2.2.2.2.2.2.1, hF2.2.2.2.2.2.2.2.2.2.2⟩), (hW.ques (fun j a b => hA1 j (by omega)) (fun j a b => (hG2 j (by omega)).trans (hKG j a b)) (fun j a b => (hG2 j (by omega)).trans (hG1 j (by omega) (by omega))) ⟨hF2.2.2.1, hF2.2.2.2.1, hF2.2.2.2.2.2.1, hF2.2.2.2.2.2.2.1, hF2.2.2.2.2.2.2.2.1⟩ hP2 hw2)⟩ ((hG2 951 (by omega)).trans hq1)

set_option maxRecDepth 100000 in
set_option maxHeartbeats 4000000 in
theorem law_c29 {p : Program} {l : Launch} {e : Env} {s : State} {m : MethodId} {below : List Frame} {meth : Method} {c : Code} {D : va_G} {A : Nat → Prop} {cs : Nat → ClassId} {tt : Nat} {b L : Nat} {xs : Nat → Int32} {N : Nat} {ad : Nat → Nat} {g : Nat → va_E} {k n : Nat} {x z : Int} {q : Nat → Int} {w1 w2 w3 w4 w5 : Int} (hl0 : l.stackTraces = false) (C : zC p s m #[Value.ref b] c cL_law 7 RL D A cs tt) (hr : meth.sig.returnType = ret) (hlk : meth.locks = false) (hA : ∀ q, A q → s.heap.size ≤ q) (hX : va_X b L xs s s.heap) (hbl : b < s.heap.size) (hbA : ¬ A b) (hL : L ≤ 3072) (hN : 952 ≤ N) (hJI : JI cs ad g N x) (hq : g 951 = jA cs 1 q) (hx : 0 ≤ x ∧ x ≤ 511) (hz : z = 6 * x) (hzL : z + 6 ≤ (L : Int)) (hk : k ≤ 590000) (hn : n ≤ 7000000) (hw1r : -2147483648 ≤ w1 ∧ w1 ≤ 2147483647) (hw1 : xs (z + 1).toNat = zI w1) (hw2r : -2147483648 ≤ w2 ∧ w2 ≤ 2147483647) (hw2 : xs (z + 2).toNat = zI w2) (hw3r : -2147483648 ≤ w3 ∧ w3 ≤ 2147483647) (hw3 : xs (z + 3).toNat = zI w3) (hw4r : -2147483648 ≤ w4 ∧ w4 ≤ 2147483647) (hw4 : xs (z + 4).toNat = zI w4) (hw5r : -2147483648 ≤ w5 ∧ w5 ≤ 2147483647) (hw5 : xs (z + 5).toNat = zI w5) (hK : ∀ (N' : Nat) (ad' : Nat → Nat) (g' : Nat → va_E) (q' : Nat → Int), 952 ≤ N' → JI cs ad' g' N' (x + 1) → g' 951 = jA cs 1 q' → zV p l e room_1 s m #[Value.ref b] below meth c (lw_Z below #[Value.ref b] s) D A 7 (N') ad' g' (k + 16) (n + 2150) 1348 [(4, .int (zI (z))), (3, .ref (ad' 951)), (2, .ref (ad' 921)), (1, .ref (ad' 0)), (0, .ref b)] []) : zV p l e room_1 s m #[Value.ref b] below meth c (lw_Z below #[Value.ref b] s) D A 7 (N) ad g (k) (n) 1220 [(4, .int (zI (z))), (3, .ref (ad 951)), (2, .ref (ad 921)), (1, .ref (ad 0)), (0, .ref b)] [] := by
  have hay1 : zAt ad (0) (ad 0) := rfl
  have hay2 : zAt ad (921) (ad 921) := rfl
  have hay3 : zAt ad (951) (ad 951) := rfl
  obtain ⟨t, fp, im, nz, kz, sl, ho, st, op, ai, fa, mu, tb, tp, F, r, sR, oR, aR, fR, mR, bR, pR, hR, hM, hJ, hW⟩ := hJI
  have hPl := hW.pl
  refine z_aload_n C 3 dL_law_1220 rfl ?_
  refine z_aload_n C 4 dL_law_1221 rfl ?_
  refine z_iload C 0 dL_law_1222 rfl ?_
  refine z_iconst (z := 1) C dL_law_1224 rfl ?_
  refine z_iadd C dL_law_1225 ?_
  refine z_sld C hX hbl hbA (z + 1).toNat (by omega) (by omega) (by omega) hw1 dL_law_1226 ?_
  refine z_aload_n C 4 dL_law_1227 rfl ?_
  refine z_iload C 0 dL_law_1228 rfl ?_
  refine z_iconst (z := 2) C dL_law_1230 rfl ?_
  refine z_iadd C dL_law_1231 ?_
  refine z_sld C hX hbl hbA (z + 2).toNat (by omega) (by omega) (by omega) hw2 dL_law_1232 ?_
  refine z_aload_n C 4 dL_law_1233 rfl ?_
  refine z_iload C 0 dL_law_1234 rfl ?_
  refine z_iconst (z := 3) C dL_law_1236 rfl ?_
  refine z_iadd C dL_law_1237 ?_
  refine z_sld C hX hbl hbA (z + 3).toNat (by omega) (by omega) (by omega) hw3 dL_law_1238 ?_
  refine z_aload_n C 1 dL_law_1239 rfl ?_
  refine z_cSW (As := [.ref (ad 0), .int (zI (w1)), .int (zI (w2)), .int (zI (w3)), .ref (ad 951)]) (rest := []) C (c_L_odds l D A cs tt N ad _ hN hR hl0 q hq w1 hw1r w2 hw2r w3 hw3r) mW_yL_odds q_1408 hd_yL_odds (by decide) (Nat.le_of_ble_eq_true rfl) ⟨show k + 6 ≤ 601024 by omega, show n + 60 ≤ 7293034 by omega⟩ dL_law_1240 rfl (kI fun rk N1 ad1 g1 h1 => ?_)
  obtain ⟨⟨⟨hN1, hA1, hG1⟩, hKG⟩, h1⟩ := h1
  have hM1 : okMr cs ad1 g1 921 x F r sR oR aR fR mR bR pR := hM.grow (fun j a b => hA1 j (by omega)) (fun j a b => hG1 j (by omega) (by omega))
  have hN2 : 952 ≤ N1 := by omega
  rw [← hA1 0 (by omega), ← hA1 921 (by omega), ← hA1 951 (by omega)]
  have hay4 : zAt ad1 (921) (ad1 921) := rfl
  obtain ⟨hR1, q1, hq1⟩ := h1
  refine z_istore (lv' := [(5, .int (zI (rk))), (4, .int (zI (z))), (3, .ref (ad1 951)), (2, .ref (ad1 921)), (1, .ref (ad1 0)), (0, .ref b)]) C dL_law_1243 (by decide) rfl ?_
  refine z_aload_n C 3 dL_law_1245 rfl ?_
  refine z_aload_n C 5 dL_law_1246 rfl ?_
  refine z_iload C 1 dL_law_1247 rfl ?_
  refine z_iconst (z := 1) C dL_law_1249 rfl ?_
  refine z_iadd C dL_law_1250 ?_
  refine z_sld C hX hbl hbA (z + 1).toNat (by omega) (by omega) (by omega) hw1 dL_law_1251 ?_
  refine z_aload_n C 5 dL_law_1252 rfl ?_
  refine z_iload C 1 dL_law_1253 rfl ?_
  refine z_iconst (z := 2) C dL_law_1255 rfl ?_
  refine z_iadd C dL_law_1256 ?_
  refine z_sld C hX hbl hbA (z + 2).toNat (by omega) (by omega) (by omega) hw2 dL_law_1257 ?_
  refine z_aload_n C 5 dL_law_1258 rfl ?_
  refine z_iload C 1 dL_law_1259 rfl ?_
  refine z_iconst (z := 3) C dL_law_1261 rfl ?_
  refine z_iadd C dL_law_1262 ?_
  refine z_sld C hX hbl hbA (z + 3).toNat (by omega) (by omega) (by omega) hw3 dL_law_1263 ?_
  refine z_cV (As := [.int (zI (w1)), .int (zI (w2)), .int (zI (w3))]) (rest := []) (ci := 12) C (c_X10_odds l D A cs tt N1 ad1 _ 921 (by omega) x (by omega) F r hM1 hPl w1 hw1r w2 hw2r w3 hw3r) (by omega) hay4 hM1.1 rfl rfl mv_yX10_odds q_2091 hd_yX10_odds (by decide) (Nat.le_of_ble_eq_true rfl) ⟨show k + 6 + 0 ≤ 601024 by omega, show n + 60 + 0 ≤ 7293034 by omega⟩ dL_law_1264 rfl (kI0 fun ry gy hy => ?_)
  obtain ⟨hry, ⟨F2, r2, hM2, hF2, hP2, hw2⟩, hG2⟩ := hy
  refine z_istore (lv' := [(6, .int (zI (ry))), (5, .int (zI (rk))), (4, .int (zI (z))), (3, .ref (ad1 951)), (2, .ref (ad1 921)), (1, .ref (ad1 0)), (0, .ref b)]) C dL_law_1267 (by decide) rfl ?_
  refine z_goto (tgt := 1348) C dL_law_1269 (by decide) ?_
  refine z_lv (lv' := [(4, .int (zI (z))), (3, .ref (ad1 951)), (2, .ref (ad1 921)), (1, .ref (ad1 0)), (0, .ref b)]) [2, 3, 4, 5, 6] rfl ?_
  refine z_widen (k2 := k + 16) (n2 := n + 2150) (show k + 6 + 0 ≤ k + 16 by omega) (show n + 60 + 0 ≤ n + 2150 by omega) ?_
  exact hK _ _ _ _ hN2 ⟨_, _, _, _, _, _, _, _, _, _, _, _, _, _, _, _, _, _, _, _, _, _, _, (hR1.o951 (fun j hj => hG2 j (by omega))), hM2, (hJ.keep ⟨hF2.1, hF2.2.1, hF2.2.2.2.2.1, hF2.2.2.2.2.2.2.2.1, hF2.2.2.2.2.2.2.2.2.1, hF2.2.2.2.2.2.2.2.2.2.1, hF2.2.2.2.2.2.2.2.2.2.2⟩), (hW.ques (fun j a b => hA1 j (by omega)) (fun j a b => (hG2 j (by omega)).trans (hKG j a b)) (fun j a b => (hG2 j (by omega)).trans (hG1 j (by omega) (by omega))) ⟨hF2.2.2.1, hF2.2.2.2.1, hF2.2.2.2.2.2.1, hF2.2.2.2.2.2.2.1, hF2.2.2.2.2.2.2.2.1⟩ hP2 hw2)⟩ ((hG2 951 (by omega)).trans hq1)

set_option maxRecDepth 100000 in
set_option maxHeartbeats 4000000 in
theorem law_c30 {p : Program} {l : Launch} {e : Env} {s : State} {m : MethodId} {below : List Frame} {meth : Method} {c : Code} {D : va_G} {A : Nat → Prop} {cs : Nat → ClassId} {tt : Nat} {b L : Nat} {xs : Nat → Int32} {N : Nat} {ad : Nat → Nat} {g : Nat → va_E} {k n : Nat} {x z : Int} {q : Nat → Int} {w1 w2 w3 w4 w5 : Int} (hl0 : l.stackTraces = false) (C : zC p s m #[Value.ref b] c cL_law 7 RL D A cs tt) (hr : meth.sig.returnType = ret) (hlk : meth.locks = false) (hA : ∀ q, A q → s.heap.size ≤ q) (hX : va_X b L xs s s.heap) (hbl : b < s.heap.size) (hbA : ¬ A b) (hL : L ≤ 3072) (hN : 952 ≤ N) (hJI : JI cs ad g N x) (hq : g 951 = jA cs 1 q) (hx : 0 ≤ x ∧ x ≤ 511) (hz : z = 6 * x) (hzL : z + 6 ≤ (L : Int)) (hk : k ≤ 590000) (hn : n ≤ 7000000) (hw1r : -2147483648 ≤ w1 ∧ w1 ≤ 2147483647) (hw1 : xs (z + 1).toNat = zI w1) (hw2r : -2147483648 ≤ w2 ∧ w2 ≤ 2147483647) (hw2 : xs (z + 2).toNat = zI w2) (hw3r : -2147483648 ≤ w3 ∧ w3 ≤ 2147483647) (hw3 : xs (z + 3).toNat = zI w3) (hw4r : -2147483648 ≤ w4 ∧ w4 ≤ 2147483647) (hw4 : xs (z + 4).toNat = zI w4) (hw5r : -2147483648 ≤ w5 ∧ w5 ≤ 2147483647) (hw5 : xs (z + 5).toNat = zI w5) (hK : ∀ (N' : Nat) (ad' : Nat → Nat) (g' : Nat → va_E) (q' : Nat → Int), 952 ≤ N' → JI cs ad' g' N' (x + 1) → g' 951 = jA cs 1 q' → zV p l e room_1 s m #[Value.ref b] below meth c (lw_Z below #[Value.ref b] s) D A 7 (N') ad' g' (k + 16) (n + 2150) 1348 [(4, .int (zI (z))), (3, .ref (ad' 951)), (2, .ref (ad' 921)), (1, .ref (ad' 0)), (0, .ref b)] []) : zV p l e room_1 s m #[Value.ref b] below meth c (lw_Z below #[Value.ref b] s) D A 7 (N) ad g (k) (n) 1272 [(4, .int (zI (z))), (3, .ref (ad 951)), (2, .ref (ad 921)), (1, .ref (ad 0)), (0, .ref b)] [] := by
  have hay1 : zAt ad (0) (ad 0) := rfl
  have hay2 : zAt ad (921) (ad 921) := rfl
  have hay3 : zAt ad (951) (ad 951) := rfl
  obtain ⟨t, fp, im, nz, kz, sl, ho, st, op, ai, fa, mu, tb, tp, F, r, sR, oR, aR, fR, mR, bR, pR, hR, hM, hJ, hW⟩ := hJI
  have hPl := hW.pl
  refine z_aload_n C 3 dL_law_1272 rfl ?_
  refine z_aload_n C 4 dL_law_1273 rfl ?_
  refine z_iload C 0 dL_law_1274 rfl ?_
  refine z_iconst (z := 1) C dL_law_1276 rfl ?_
  refine z_iadd C dL_law_1277 ?_
  refine z_sld C hX hbl hbA (z + 1).toNat (by omega) (by omega) (by omega) hw1 dL_law_1278 ?_
  refine z_aload_n C 4 dL_law_1279 rfl ?_
  refine z_iload C 0 dL_law_1280 rfl ?_
  refine z_iconst (z := 2) C dL_law_1282 rfl ?_
  refine z_iadd C dL_law_1283 ?_
  refine z_sld C hX hbl hbA (z + 2).toNat (by omega) (by omega) (by omega) hw2 dL_law_1284 ?_
  refine z_aload_n C 4 dL_law_1285 rfl ?_
  refine z_iload C 0 dL_law_1286 rfl ?_
  refine z_iconst (z := 3) C dL_law_1288 rfl ?_
  refine z_iadd C dL_law_1289 ?_
  refine z_sld C hX hbl hbA (z + 3).toNat (by omega) (by omega) (by omega) hw3 dL_law_1290 ?_
  refine z_aload_n C 1 dL_law_1291 rfl ?_
  refine z_cSW (As := [.ref (ad 0), .int (zI (w1)), .int (zI (w2)), .int (zI (w3)), .ref (ad 951)]) (rest := []) C (c_L_years l D A cs tt N ad _ hN hR hl0 q hq w1 hw1r w2 hw2r w3 hw3r) mW_yL_years q_1425 hd_yL_years (by decide) (Nat.le_of_ble_eq_true rfl) ⟨show k + 6 ≤ 601024 by omega, show n + 60 ≤ 7293034 by omega⟩ dL_law_1292 rfl (kI fun rk N1 ad1 g1 h1 => ?_)
  obtain ⟨⟨⟨hN1, hA1, hG1⟩, hKG⟩, h1⟩ := h1
  have hM1 : okMr cs ad1 g1 921 x F r sR oR aR fR mR bR pR := hM.grow (fun j a b => hA1 j (by omega)) (fun j a b => hG1 j (by omega) (by omega))
  have hN2 : 952 ≤ N1 := by omega
  rw [← hA1 0 (by omega), ← hA1 921 (by omega), ← hA1 951 (by omega)]
  have hay4 : zAt ad1 (921) (ad1 921) := rfl
  obtain ⟨hR1, q1, hq1⟩ := h1
  refine z_istore (lv' := [(5, .int (zI (rk))), (4, .int (zI (z))), (3, .ref (ad1 951)), (2, .ref (ad1 921)), (1, .ref (ad1 0)), (0, .ref b)]) C dL_law_1295 (by decide) rfl ?_
  refine z_aload_n C 3 dL_law_1297 rfl ?_
  refine z_aload_n C 5 dL_law_1298 rfl ?_
  refine z_iload C 1 dL_law_1299 rfl ?_
  refine z_iconst (z := 1) C dL_law_1301 rfl ?_
  refine z_iadd C dL_law_1302 ?_
  refine z_sld C hX hbl hbA (z + 1).toNat (by omega) (by omega) (by omega) hw1 dL_law_1303 ?_
  refine z_aload_n C 5 dL_law_1304 rfl ?_
  refine z_iload C 1 dL_law_1305 rfl ?_
  refine z_iconst (z := 2) C dL_law_1307 rfl ?_
  refine z_iadd C dL_law_1308 ?_
  refine z_sld C hX hbl hbA (z + 2).toNat (by omega) (by omega) (by omega) hw2 dL_law_1309 ?_
  refine z_aload_n C 5 dL_law_1310 rfl ?_
  refine z_iload C 1 dL_law_1311 rfl ?_
  refine z_iconst (z := 3) C dL_law_1313 rfl ?_
  refine z_iadd C dL_law_1314 ?_
  refine z_sld C hX hbl hbA (z + 3).toNat (by omega) (by omega) (by omega) hw3 dL_law_1315 ?_
  refine z_cV (As := [.int (zI (w1)), .int (zI (w2)), .int (zI (w3))]) (rest := []) (ci := 12) C (c_X10_years l D A cs tt N1 ad1 _ 921 (by omega) x (by omega) F r hM1 hPl w1 hw1r w2 hw2r w3 hw3r) (by omega) hay4 hM1.1 rfl rfl mv_yX10_years q_2095 hd_yX10_years (by decide) (Nat.le_of_ble_eq_true rfl) ⟨show k + 6 + 0 ≤ 601024 by omega, show n + 60 + 0 ≤ 7293034 by omega⟩ dL_law_1316 rfl (kI0 fun ry gy hy => ?_)
  obtain ⟨hry, ⟨F2, r2, hM2, hF2, hP2, hw2⟩, hG2⟩ := hy
  refine z_istore (lv' := [(6, .int (zI (ry))), (5, .int (zI (rk))), (4, .int (zI (z))), (3, .ref (ad1 951)), (2, .ref (ad1 921)), (1, .ref (ad1 0)), (0, .ref b)]) C dL_law_1319 (by decide) rfl ?_
  refine z_goto (tgt := 1348) C dL_law_1321 (by decide) ?_
  refine z_lv (lv' := [(4, .int (zI (z))), (3, .ref (ad1 951)), (2, .ref (ad1 921)), (1, .ref (ad1 0)), (0, .ref b)]) [2, 3, 4, 5, 6] rfl ?_
  refine z_widen (k2 := k + 16) (n2 := n + 2150) (show k + 6 + 0 ≤ k + 16 by omega) (show n + 60 + 0 ≤ n + 2150 by omega) ?_
  exact hK _ _ _ _ hN2 ⟨_, _, _, _, _, _, _, _, _, _, _, _, _, _, _, _, _, _, _, _, _, _, _, (hR1.o951 (fun j hj => hG2 j (by omega))), hM2, (hJ.keep ⟨hF2.1, hF2.2.1, hF2.2.2.2.2.1, hF2.2.2.2.2.2.2.2.1, hF2.2.2.2.2.2.2.2.2.1, hF2.2.2.2.2.2.2.2.2.2.1, hF2.2.2.2.2.2.2.2.2.2.2⟩), (hW.ques (fun j a b => hA1 j (by omega)) (fun j a b => (hG2 j (by omega)).trans (hKG j a b)) (fun j a b => (hG2 j (by omega)).trans (hG1 j (by omega) (by omega))) ⟨hF2.2.2.1, hF2.2.2.2.1, hF2.2.2.2.2.2.1, hF2.2.2.2.2.2.2.1, hF2.2.2.2.2.2.2.2.1⟩ hP2 hw2)⟩ ((hG2 951 (by omega)).trans hq1)
end
section
-- 9pdb.loop.lean.txt
set_option maxRecDepth 100000 in
set_option maxHeartbeats 4000000 in
theorem law_loop {p : Program} {l : Launch} {e : Env} {s : State} {m : MethodId} {below : List Frame} {meth : Method} {c : Code} {D : va_G} {A : Nat → Prop} {cs : Nat → ClassId} {tt : Nat} {b L : Nat} {xs : Nat → Int32} (hl0 : l.stackTraces = false) (C : zC p s m #[Value.ref b] c cL_law 7 RL D A cs tt) (hr : meth.sig.returnType = ret) (hlk : meth.locks = false) (hA : ∀ q, A q → s.heap.size ≤ q) (hX : va_X b L xs s s.heap) (hbl : b < s.heap.size) (hbA : ¬ A b) (hL : L ≤ 3072) : ∀ (n9 : Nat) (N : Nat) (ad : Nat → Nat) (g : Nat → va_E) (k n : Nat) (x z : Int) (q : Nat → Int), (3072 - z).toNat = n9 → 952 ≤ N → JI cs ad g N x → g 951 = jA cs 1 q → (0 ≤ x ∧ x ≤ 512) → z = 6 * x → (k : Int) ≤ 1000 + 16 * x → (n : Int) ≤ 200000 + 2150 * x → zV p l e room_1 s m #[Value.ref b] below meth c (lw_Z below #[Value.ref b] s) D A 7 (N) ad g (k) (n) 23 [(4, .int (zI (z))), (3, .ref (ad 951)), (2, .ref (ad 921)), (1, .ref (ad 0)), (0, .ref b)] [] := by
  intro n9
  induction n9 using Nat.strongRecOn with
  | ind n9 ih =>
      intro N ad g k n x z q hm9 hN hJI hq hx hz hk hn
      refine z_iload C 0 dL_law_23 rfl ?_
      refine z_aload_n C 4 dL_law_25 rfl ?_
      refine z_slen C hX hbl hbA dL_law_26 ?_
      refine z_bipush (z := 6) C dL_law_27 (by decide) ?_
      refine z_isub C dL_law_29 ?_
      refine z_icmp_gt (tgt := 1354) C dL_law_30 (by decide) (by omega) (by omega) (fun hb => ?_) (fun hb => ?_)
      · refine z_iconst (z := 1) C dL_law_1354 rfl ?_
        exact z_lend C hr hlk hA dL_law_1355 (by omega) (by omega)
      · obtain ⟨w0, hw0, hw0r⟩ := zI_of (xs (z).toNat)
        obtain ⟨w1, hw1, hw1r⟩ := zI_of (xs (z + 1).toNat)
        obtain ⟨w2, hw2, hw2r⟩ := zI_of (xs (z + 2).toNat)
        obtain ⟨w3, hw3, hw3r⟩ := zI_of (xs (z + 3).toNat)
        obtain ⟨w4, hw4, hw4r⟩ := zI_of (xs (z + 4).toNat)
        obtain ⟨w5, hw5, hw5r⟩ := zI_of (xs (z + 5).toNat)
        have hK : ∀ (N' : Nat) (ad' : Nat → Nat) (g' : Nat → va_E) (q' : Nat → Int), 952 ≤ N' → JI cs ad' g' N' (x + 1) → g' 951 = jA cs 1 q' → zV p l e room_1 s m #[Value.ref b] below meth c (lw_Z below #[Value.ref b] s) D A 7 (N') ad' g' (k + 16) (n + 2150) 1348 [(4, .int (zI (z))), (3, .ref (ad' 951)), (2, .ref (ad' 921)), (1, .ref (ad' 0)), (0, .ref b)] [] := by
          intro N' ad' g' q' a1 a2 a5
          refine z_iinc (z := z + 6) (lv' := [(4, .int (zI (z + 6))), (3, .ref (ad' 951)), (2, .ref (ad' 921)), (1, .ref (ad' 0)), (0, .ref b)]) (j := 0) C dL_law_1348 rfl rfl (by decide) rfl ?_
          refine z_goto (tgt := 23) C dL_law_1351 (by decide) ?_
          exact ih _ (by omega) N' ad' g' (k + 16) (n + 2150) (x + 1) (z + 6) q' rfl a1 a2 a5 (by omega) (by omega) (by omega) (by omega)
        refine z_aload_n C 4 dL_law_33 rfl ?_
        refine z_iload C 0 dL_law_34 rfl ?_
        refine z_sld C hX hbl hbA (z).toNat (by omega) (by omega) (by omega) hw0 dL_law_36 ?_
        refine z_bipush (z := 63) C dL_law_37 (by decide) ?_
        obtain ⟨y, ey, hy⟩ := zI_and (zI w0) (m := zI 63) 6 (by decide)
        refine z_iand (z := y) C dL_law_39 ey ?_
        by_cases hsw : y < 0 ∨ 32 < y
        · refine z_tout (tgt := 1348) C dL_law_40 (by omega) hsw (by decide) ?_
          refine z_widen (k2 := k + 16) (n2 := n + 2150) (by omega) (by omega) ?_
          exact hK _ _ _ _ hN (okMr.monoJ hJI (by omega)) hq
        · rcases (show y = 0 ∨ y = 1 ∨ y = 2 ∨ y = 3 ∨ y = 4 ∨ y = 5 ∨ y = 6 ∨ y = 7 ∨ y = 8 ∨ y = 9 ∨ y = 10 ∨ y = 11 ∨ y = 12 ∨ y = 13 ∨ y = 14 ∨ y = 15 ∨ y = 16 ∨ y = 17 ∨ y = 18 ∨ y = 19 ∨ y = 20 ∨ y = 21 ∨ y = 22 ∨ y = 23 ∨ y = 24 ∨ y = 25 ∨ y = 26 ∨ y = 27 ∨ y = 28 ∨ y = 29 ∨ y = 30 ∨ y = 31 ∨ y = 32 by omega) with rfl | rfl | rfl | rfl | rfl | rfl | rfl | rfl | rfl | rfl | rfl | rfl | rfl | rfl | rfl | rfl | rfl | rfl | rfl | rfl | rfl | rfl | rfl | rfl | rfl | rfl | rfl | rfl | rfl | rfl | rfl | rfl | rfl
          · refine z_tin (off := 148) (tgt := 188) C dL_law_40 (by omega) (by omega) (by omega) rfl (by decide) ?_
            exact law_c0 hl0 C hr hlk hA hX hbl hbA hL hN hJI hq (by omega) hz (by omega) (by omega) (by omega) hw1r hw1 hw2r hw2 hw3r hw3 hw4r hw4 hw5r hw5 hK
          · refine z_tin (off := 221) (tgt := 261) C dL_law_40 (by omega) (by omega) (by omega) rfl (by decide) ?_
            exact law_c1 hl0 C hr hlk hA hX hbl hbA hL hN hJI hq (by omega) hz (by omega) (by omega) (by omega) hw1r hw1 hw2r hw2 hw3r hw3 hw4r hw4 hw5r hw5 hK
          · refine z_tin (off := 249) (tgt := 289) C dL_law_40 (by omega) (by omega) (by omega) rfl (by decide) ?_
            exact law_c2 hl0 C hr hlk hA hX hbl hbA hL hN hJI hq (by omega) hz (by omega) (by omega) (by omega) hw1r hw1 hw2r hw2 hw3r hw3 hw4r hw4 hw5r hw5 hK
          · refine z_tin (off := 262) (tgt := 302) C dL_law_40 (by omega) (by omega) (by omega) rfl (by decide) ?_
            exact law_c3 hl0 C hr hlk hA hX hbl hbA hL hN hJI hq (by omega) hz (by omega) (by omega) (by omega) hw1r hw1 hw2r hw2 hw3r hw3 hw4r hw4 hw5r hw5 hK
          · refine z_tin (off := 290) (tgt := 330) C dL_law_40 (by omega) (by omega) (by omega) rfl (by decide) ?_
            exact law_c4 hl0 C hr hlk hA hX hbl hbA hL hN hJI hq (by omega) hz (by omega) (by omega) (by omega) hw1r hw1 hw2r hw2 hw3r hw3 hw4r hw4 hw5r hw5 hK
          · refine z_tin (off := 330) (tgt := 370) C dL_law_40 (by omega) (by omega) (by omega) rfl (by decide) ?_
            exact law_c5 hl0 C hr hlk hA hX hbl hbA hL hN hJI hq (by omega) hz (by omega) (by omega) (by omega) hw1r hw1 hw2r hw2 hw3r hw3 hw4r hw4 hw5r hw5 hK
          · refine z_tin (off := 370) (tgt := 410) C dL_law_40 (by omega) (by omega) (by omega) rfl (by decide) ?_
            exact law_c6 hl0 C hr hlk hA hX hbl hbA hL hN hJI hq (by omega) hz (by omega) (by omega) (by omega) hw1r hw1 hw2r hw2 hw3r hw3 hw4r hw4 hw5r hw5 hK
          · refine z_tin (off := 422) (tgt := 462) C dL_law_40 (by omega) (by omega) (by omega) rfl (by decide) ?_
            exact law_c7 hl0 C hr hlk hA hX hbl hbA hL hN hJI hq (by omega) hz (by omega) (by omega) (by omega) hw1r hw1 hw2r hw2 hw3r hw3 hw4r hw4 hw5r hw5 hK
          · refine z_tin (off := 474) (tgt := 514) C dL_law_40 (by omega) (by omega) (by omega) rfl (by decide) ?_
            exact law_c8 hl0 C hr hlk hA hX hbl hbA hL hN hJI hq (by omega) hz (by omega) (by omega) (by omega) hw1r hw1 hw2r hw2 hw3r hw3 hw4r hw4 hw5r hw5 hK
          · refine z_tin (off := 499) (tgt := 539) C dL_law_40 (by omega) (by omega) (by omega) rfl (by decide) ?_
            exact law_c9 hl0 C hr hlk hA hX hbl hbA hL hN hJI hq (by omega) hz (by omega) (by omega) (by omega) hw1r hw1 hw2r hw2 hw3r hw3 hw4r hw4 hw5r hw5 hK
          · refine z_tin (off := 548) (tgt := 588) C dL_law_40 (by omega) (by omega) (by omega) rfl (by decide) ?_
            exact law_c10 hl0 C hr hlk hA hX hbl hbA hL hN hJI hq (by omega) hz (by omega) (by omega) (by omega) hw1r hw1 hw2r hw2 hw3r hw3 hw4r hw4 hw5r hw5 hK
          · refine z_tin (off := 573) (tgt := 613) C dL_law_40 (by omega) (by omega) (by omega) rfl (by decide) ?_
            exact law_c11 hl0 C hr hlk hA hX hbl hbA hL hN hJI hq (by omega) hz (by omega) (by omega) (by omega) hw1r hw1 hw2r hw2 hw3r hw3 hw4r hw4 hw5r hw5 hK
          · refine z_tin (off := 598) (tgt := 638) C dL_law_40 (by omega) (by omega) (by omega) rfl (by decide) ?_
            exact law_c12 hl0 C hr hlk hA hX hbl hbA hL hN hJI hq (by omega) hz (by omega) (by omega) (by omega) hw1r hw1 hw2r hw2 hw3r hw3 hw4r hw4 hw5r hw5 hK
          · refine z_tin (off := 623) (tgt := 663) C dL_law_40 (by omega) (by omega) (by omega) rfl (by decide) ?_
            exact law_c13 hl0 C hr hlk hA hX hbl hbA hL hN hJI hq (by omega) hz (by omega) (by omega) (by omega) hw1r hw1 hw2r hw2 hw3r hw3 hw4r hw4 hw5r hw5 hK
          · refine z_tin (off := 636) (tgt := 676) C dL_law_40 (by omega) (by omega) (by omega) rfl (by decide) ?_
            exact law_c14 hl0 C hr hlk hA hX hbl hbA hL hN hJI hq (by omega) hz (by omega) (by omega) (by omega) hw1r hw1 hw2r hw2 hw3r hw3 hw4r hw4 hw5r hw5 hK
          · refine z_tin (off := 688) (tgt := 728) C dL_law_40 (by omega) (by omega) (by omega) rfl (by decide) ?_
            exact law_c15 hl0 C hr hlk hA hX hbl hbA hL hN hJI hq (by omega) hz (by omega) (by omega) (by omega) hw1r hw1 hw2r hw2 hw3r hw3 hw4r hw4 hw5r hw5 hK
          · refine z_tin (off := 728) (tgt := 768) C dL_law_40 (by omega) (by omega) (by omega) rfl (by decide) ?_
            exact law_c16 hl0 C hr hlk hA hX hbl hbA hL hN hJI hq (by omega) hz (by omega) (by omega) (by omega) hw1r hw1 hw2r hw2 hw3r hw3 hw4r hw4 hw5r hw5 hK
          · refine z_tin (off := 756) (tgt := 796) C dL_law_40 (by omega) (by omega) (by omega) rfl (by decide) ?_
            exact law_c17 hl0 C hr hlk hA hX hbl hbA hL hN hJI hq (by omega) hz (by omega) (by omega) (by omega) hw1r hw1 hw2r hw2 hw3r hw3 hw4r hw4 hw5r hw5 hK
          · refine z_tin (off := 796) (tgt := 836) C dL_law_40 (by omega) (by omega) (by omega) rfl (by decide) ?_
            exact law_c18 hl0 C hr hlk hA hX hbl hbA hL hN hJI hq (by omega) hz (by omega) (by omega) (by omega) hw1r hw1 hw2r hw2 hw3r hw3 hw4r hw4 hw5r hw5 hK
          · refine z_tin (off := 824) (tgt := 864) C dL_law_40 (by omega) (by omega) (by omega) rfl (by decide) ?_
            exact law_c19 hl0 C hr hlk hA hX hbl hbA hL hN hJI hq (by omega) hz (by omega) (by omega) (by omega) hw1r hw1 hw2r hw2 hw3r hw3 hw4r hw4 hw5r hw5 hK
          · refine z_tin (off := 852) (tgt := 892) C dL_law_40 (by omega) (by omega) (by omega) rfl (by decide) ?_
            exact law_c20 hl0 C hr hlk hA hX hbl hbA hL hN hJI hq (by omega) hz (by omega) (by omega) (by omega) hw1r hw1 hw2r hw2 hw3r hw3 hw4r hw4 hw5r hw5 hK
          · refine z_tin (off := 892) (tgt := 932) C dL_law_40 (by omega) (by omega) (by omega) rfl (by decide) ?_
            exact law_c21 hl0 C hr hlk hA hX hbl hbA hL hN hJI hq (by omega) hz (by omega) (by omega) (by omega) hw1r hw1 hw2r hw2 hw3r hw3 hw4r hw4 hw5r hw5 hK
          · refine z_tin (off := 944) (tgt := 984) C dL_law_40 (by omega) (by omega) (by omega) rfl (by decide) ?_
            exact law_c22 hl0 C hr hlk hA hX hbl hbA hL hN hJI hq (by omega) hz (by omega) (by omega) (by omega) hw1r hw1 hw2r hw2 hw3r hw3 hw4r hw4 hw5r hw5 hK
          · refine z_tin (off := 984) (tgt := 1024) C dL_law_40 (by omega) (by omega) (by omega) rfl (by decide) ?_
            exact law_c23 hl0 C hr hlk hA hX hbl hbA hL hN hJI hq (by omega) hz (by omega) (by omega) (by omega) hw1r hw1 hw2r hw2 hw3r hw3 hw4r hw4 hw5r hw5 hK
          · refine z_tin (off := 1036) (tgt := 1076) C dL_law_40 (by omega) (by omega) (by omega) rfl (by decide) ?_
            exact law_c24 hl0 C hr hlk hA hX hbl hbA hL hN hJI hq (by omega) hz (by omega) (by omega) (by omega) hw1r hw1 hw2r hw2 hw3r hw3 hw4r hw4 hw5r hw5 hK
          · refine z_tin (off := 1064) (tgt := 1104) C dL_law_40 (by omega) (by omega) (by omega) rfl (by decide) ?_
            exact law_c25 hl0 C hr hlk hA hX hbl hbA hL hN hJI hq (by omega) hz (by omega) (by omega) (by omega) hw1r hw1 hw2r hw2 hw3r hw3 hw4r hw4 hw5r hw5 hK
          · refine z_tin (off := 1113) (tgt := 1153) C dL_law_40 (by omega) (by omega) (by omega) rfl (by decide) ?_
            exact law_c26 hl0 C hr hlk hA hX hbl hbA hL hN hJI hq (by omega) hz (by omega) (by omega) (by omega) hw1r hw1 hw2r hw2 hw3r hw3 hw4r hw4 hw5r hw5 hK
          · refine z_tin (off := 1141) (tgt := 1181) C dL_law_40 (by omega) (by omega) (by omega) rfl (by decide) ?_
            exact law_c27 hl0 C hr hlk hA hX hbl hbA hL hN hJI hq (by omega) hz (by omega) (by omega) (by omega) hw1r hw1 hw2r hw2 hw3r hw3 hw4r hw4 hw5r hw5 hK
          · refine z_tin (off := 1169) (tgt := 1209) C dL_law_40 (by omega) (by omega) (by omega) rfl (by decide) ?_
            exact law_c28 hl0 C hr hlk hA hX hbl hbA hL hN hJI hq (by omega) hz (by omega) (by omega) (by omega) hw1r hw1 hw2r hw2 hw3r hw3 hw4r hw4 hw5r hw5 hK
          · refine z_tin (off := 1180) (tgt := 1220) C dL_law_40 (by omega) (by omega) (by omega) rfl (by decide) ?_
            exact law_c29 hl0 C hr hlk hA hX hbl hbA hL hN hJI hq (by omega) hz (by omega) (by omega) (by omega) hw1r hw1 hw2r hw2 hw3r hw3 hw4r hw4 hw5r hw5 hK
          · refine z_tin (off := 1232) (tgt := 1272) C dL_law_40 (by omega) (by omega) (by omega) rfl (by decide) ?_
            exact law_c30 hl0 C hr hlk hA hX hbl hbA hL hN hJI hq (by omega) hz (by omega) (by omega) (by omega) hw1r hw1 hw2r hw2 hw3r hw3 hw4r hw4 hw5r hw5 hK
          · refine z_tin (off := 1284) (tgt := 1324) C dL_law_40 (by omega) (by omega) (by omega) rfl (by decide) ?_
            exact law_c31 hl0 C hr hlk hA hX hbl hbA hL hN hJI hq (by omega) hz (by omega) (by omega) (by omega) hw1r hw1 hw2r hw2 hw3r hw3 hw4r hw4 hw5r hw5 hK
          · refine z_tin (off := 1295) (tgt := 1335) C dL_law_40 (by omega) (by omega) (by omega) rfl (by decide) ?_
            exact law_c32 hl0 C hr hlk hA hX hbl hbA hL hN hJI hq (by omega) hz (by omega) (by omega) (by omega) hw1r hw1 hw2r hw2 hw3r hw3 hw4r hw4 hw5r hw5 hK
end
section
-- 9pe.fresh.lean.txt
theorem okWorld.fresh {cs : Nat → ClassId} {ad : Nat → Nat} {g : Nat → va_E} {i : Nat} (h : isWorld cs ad g i (fun _ => 0) (fun _ => 0) (fun _ => 0) (fun _ _ => 0)) : okWorld cs ad g i :=
  ⟨fun _ => 0, fun _ => 0, fun _ => 0, fun _ _ => 0, fun _ _ => ⟨Int.le_refl 0, show (0 : Int) ≤ 12 by decide⟩, ⟨Int.le_refl 0, show (0 : Int) ≤ 6 by decide⟩, h⟩
theorem okState.fresh {cs : Nat → ClassId} {ad : Nat → Nat} {g : Nat → va_E} {i : Nat} (h : isSt cs ad g i) : okState cs ad g i 0 0 := by
  obtain ⟨h1, h2, ⟨b1, h3, h4⟩, ⟨b2, h5, h6⟩, h7, h8, h9, h10⟩ := h
  exact ⟨h1, by decide, okWorld.fresh h2, ⟨b1, fun k => k, h3, fun k hk => ⟨hk, h4 k hk⟩⟩, fun k hk => okWorld.fresh (h9 k hk), ⟨b2, h5, h6⟩, fun k hk => ⟨0, 0, 0, 0, fun _ => 0, by decide, by decide, h10 k hk⟩, ⟨fun _ => 0, fun _ => 0, fun _ => 0, by decide, fun _ _ => ⟨⟨Int.le_refl 0, show (0 : Int) ≤ 3 by decide⟩, Int.le_refl 0, show (0 : Int) ≤ 48 by decide⟩, h7⟩, _, h8⟩
theorem okRec.fresh {cs : Nat → ClassId} {ad : Nat → Nat} {g : Nat → va_E} {N : Nat} (h : isRec cs ad g 0) (hN : 952 ≤ N) : okRec cs ad g N 0 (-1) 0 0 0 0 0 0 (fun _ => 0) (fun _ => 0) (fun _ => 0) (fun _ => 0) (fun _ => 0) tabZ (fun _ => 0) := by
  obtain ⟨h1, h2, h3, h4, h5, h6, h7, h8, h9, h10, h11, h12⟩ := h
  have b1 : okRdr ad g 2 := ⟨-1, 0, 0, 0, 0, 0, 0, 0, _, h3.1⟩
  have b2 : okPlan cs ad g 883 := ⟨0, 0, 0, _, _, _, _, _, _, by decide, by decide, h7⟩
  have b3 : okGss cs ad g 910 := ⟨0, -1, fun _ => 0, fun _ _ => 0, fun _ _ => ⟨Int.le_refl 0, show (0 : Int) ≤ 1200 by decide⟩, h10⟩
  have b4 : okLike cs ad g 917 := ⟨_, h11⟩
  have b5 : okBld cs ad g N := ⟨920, 16, 0, 0, fun _ => 0, Or.inl rfl, by omega, by decide, by decide, ⟨by decide, fun _ => ⟨show (-128 : Int) ≤ 0 by decide, show (0 : Int) ≤ 127 by decide⟩⟩, h12.1, h12.2⟩
  exact ⟨h1, by decide, by decide, h2, b1, h4, by decide, by decide, ⟨0, okState.fresh h5⟩, ⟨0, okState.fresh h6⟩, b2, okWorld.fresh h8, okWorld.fresh h9, b3, b4, b5⟩
abbrev mF0 : Nat → Int := (fun k => if k = 24 ∨ k = 26 ∨ k = 27 then -1 else 0)
def isM0 (cs : Nat → ClassId) (ad : Nat → Nat) (g : Nat → va_E) (i : Nat) : Prop := ∃ B : Nat → Nat → Int, isMod cs ad g i mF0 B ∧ (∀ k, k < 15 → B 7 k = tabZ k) ∧ ∀ k, k ≠ 7 → ∀ j, B k j = 0
theorem isM0.mv {cs : Nat → ClassId} {ad ad' : Nat → Nat} {g g' : Nat → va_E} {i : Nat} (hA : ∀ j, i ≤ j → j < i + 30 → ad' j = ad j) (hG : ∀ j, i ≤ j → j < i + 30 → g' j = g j) (h : isM0 cs ad g i) : isM0 cs ad' g' i := by
  obtain ⟨B, h1, h2, h3⟩ := h
  exact ⟨B, h1.mv hA hG, h2, h3⟩
theorem okMr.fresh {cs : Nat → ClassId} {ad : Nat → Nat} {g : Nat → va_E} {i : Nat} (h : isM0 cs ad g i) : ∃ r sR oR aR fR mR bR pR n8 n9 n10 n11 n12 : Nat → Int, okMr cs ad g i 0 mF0 r sR oR aR fR mR bR pR ∧ (∀ k, k < 15 → bR k = tabZ k) ∧ (∀ j, r j = 0) ∧ (g (i + 8) = iA cs 16 n8 ∧ g (i + 9) = iA cs 16 n9 ∧ g (i + 10) = iA cs 16 n10 ∧ g (i + 11) = iA cs 6 n11 ∧ g (i + 12) = iA cs 1080 n12) ∧ (∀ j, n8 j = 0) ∧ (∀ j, n9 j = 0) ∧ (∀ j, n10 j = 0) ∧ (∀ j, n11 j = 0) ∧ (∀ j, n12 j = 0) ∧ okPt n12 := by
  obtain ⟨B, ⟨h1, h2⟩, h7, h0⟩ := h
  have hT : okTy cs g i mF0 := ⟨B 16, B 17, B 18, B 19, B 20, B 21, B 22, B 23, ⟨h2 16 (by decide) (by decide), h2 17 (by decide) (by decide), h2 18 (by decide) (by decide), h2 19 (by decide) (by decide), h2 20 (by decide) (by decide), h2 21 (by decide) (by decide), h2 22 (by decide) (by decide), h2 23 (by decide) (by decide)⟩, by decide, fun k _ => by have e := h0 17 (by decide) k; omega, fun k _ => by have e := h0 18 (by decide) k; omega, fun k _ => by have e := h0 19 (by decide) k; omega, fun k _ => by have e := h0 20 (by decide) k; have e2 := h0 21 (by decide) k; omega, fun s l hs _ => absurd hs (by show ¬ ((s : Int) < 0); omega)⟩
  have hW : okA (B 1) 0 := fun w _ _ => by
    have z : ∀ j, B 1 j = 0 := h0 1 (by decide)
    refine ⟨⟨fun s _ => okS.zero (z _) (by unfold mB; rw [z]; decide) (by unfold eB; rw [z]; decide), by rw [z]; decide, by rw [z, z]; decide, by rw [z]; decide⟩, by rw [z]; decide⟩
  have hP : okPt (B 12) := fun k _ => by
    have z : ∀ j, B 12 j = 0 := h0 12 (by decide)
    refine ⟨by rw [z]; decide, by rw [z]; decide, fun l hl => absurd hl (by rw [z]; omega)⟩
  have hE : okEnv mF0 (B 3) (B 4) (B 5) (B 6) (B 7) := ⟨by decide, fun k _ => by have e := h0 3 (by decide) k; omega, fun k _ => by have e := h0 4 (by decide) k; omega, fun k _ => by have e := h0 5 (by decide) k; have e2 := h0 6 (by decide) k; omega, fun k hk => by rw [h7 k hk]; exact (tabOK ⟨k, hk⟩).1, fun k a hk => by rw [h7 k hk]; exact (tabOK ⟨k, hk⟩).2 a⟩
  have hF : okF mF0 := by unfold okF; decide
  have hD : RD mF0 := by unfold RD; decide
  exact ⟨B 1, B 2, B 3, B 4, B 5, B 6, B 7, B 13, B 8, B 9, B 10, B 11, B 12, ⟨h1, hF, hD, hT, hW, B 8, B 9, B 10, B 11, B 12, B 14, B 15, B 24, B 25, B 26, B 27, B 28, B 29, ⟨h2 1 (by decide) (by decide), h2 2 (by decide) (by decide), h2 3 (by decide) (by decide), h2 4 (by decide) (by decide), h2 5 (by decide) (by decide), h2 6 (by decide) (by decide), h2 7 (by decide) (by decide), h2 8 (by decide) (by decide), h2 9 (by decide) (by decide), h2 10 (by decide) (by decide), h2 11 (by decide) (by decide), h2 12 (by decide) (by decide), h2 13 (by decide) (by decide), h2 14 (by decide) (by decide), h2 15 (by decide) (by decide), h2 24 (by decide) (by decide), h2 25 (by decide) (by decide), h2 26 (by decide) (by decide), h2 27 (by decide) (by decide), h2 28 (by decide) (by decide), h2 29 (by decide) (by decide)⟩, hE, hP, fun k _ => by have e := h0 8 (by decide) k; omega, fun k _ => by have e := h0 13 (by decide) k; omega⟩, h7, h0 1 (by decide), ⟨h2 8 (by decide) (by decide), h2 9 (by decide) (by decide), h2 10 (by decide) (by decide), h2 11 (by decide) (by decide), h2 12 (by decide) (by decide)⟩, h0 8 (by decide), h0 9 (by decide), h0 10 (by decide), h0 11 (by decide), h0 12 (by decide), hP⟩
theorem JI.fresh {cs : Nat → ClassId} {ad : Nat → Nat} {g : Nat → va_E} {N : Nat} (h : isRec cs ad g 0) (hm : isM0 cs ad g 921) (hN : 952 ≤ N) : JI cs ad g N 0 := by
  obtain ⟨r, sR, oR, aR, fR, mR, bR, pR, n8, n9, n10, n11, n12, hM, hb, hr, ⟨c8, c9, c10, c11, c12⟩, z8, z9, z10, z11, z12, hpt⟩ := okMr.fresh hm
  have hW := JW.fresh h.2.2.2.2.1 h.2.2.2.2.2.1 (okState.fresh h.2.2.2.2.1) (okState.fresh h.2.2.2.2.2.1) (F := mF0) ⟨by decide, by decide, by decide, by decide⟩ (by decide) (by decide) (by decide) (by decide) (by decide) hr c8 c9 c10 c11 c12 z8 z9 z10 z11 z12 hpt
  exact ⟨_, _, _, _, _, _, _, _, _, _, _, _, _, _, _, _, _, _, _, _, _, _, _, okRec.fresh h hN, hM, ⟨⟨rfl, rfl, rfl, rfl, fun e => absurd e (by decide), rfl, rfl⟩, fun k _ => (show (-128 : Int) ≤ 0 ∧ (0 : Int) ≤ 127 by decide), fun k hk => absurd hk (by omega), fun k hk => absurd hk (by omega), fun k hk => absurd hk (by omega), fun k hk => (hb k hk).symm⟩, hW⟩
end
section
-- 9pi.words.lean.txt
-- words and decode rows of the start
theorem q_1449 : (Jvm.Cond.classLink "SnowRecorderLaw" (80 : Nat) "SnowRecorderModel") ∈ AW := AW_m7 9 (by decide +kernel) (by decide +kernel)
theorem q_1450 : (Jvm.Cond.instantiable "SnowRecorderModel" (60 : Nat)) ∈ AW := AW_m7 10 (by decide +kernel) (by decide +kernel)
theorem q_1451 : (Jvm.Cond.methodLink "SnowRecorderLaw" (82 : Nat) ({ cls := "SnowRecorderModel", name := "<init>", desc := "()V" } : Jvm.MethodName)) ∈ AW := AW_m7 11 (by decide +kernel) (by decide +kernel)
theorem q_1452 : (Jvm.Cond.instanceMethod ({ cls := "SnowRecorderModel", name := "<init>", desc := "()V" } : Jvm.MethodName)) ∈ AW := AW_m7 12 (by decide +kernel) (by decide +kernel)
theorem q_1453 : (Jvm.Cond.code ({ cls := "SnowRecorderModel", name := "<init>", desc := "()V" } : Jvm.MethodName) prog_12_method_1_code (1 : Nat) (Option.none : Option Jvm.ClassFile.FieldType)) ∈ AW := AW_m7 13 (by decide +kernel) (by decide +kernel)
theorem q_2116 : (Jvm.Cond.arrayClass Jvm.ClassFile.FieldType.long) ∈ AW := AW_m9 196 (by decide +kernel) (by decide +kernel)
theorem q_29 : (Jvm.Cond.classLink "SnowRecorderLaw" (8 : Nat) "SnowRecorder") ∈ AW := AW_m1 29 (by decide +kernel) (by decide +kernel)
theorem q_30 : (Jvm.Cond.instantiable "SnowRecorder" (14 : Nat)) ∈ AW := AW_m1 30 (by decide +kernel) (by decide +kernel)
theorem q_31 : (Jvm.Cond.methodLink "SnowRecorderLaw" (79 : Nat) ({ cls := "SnowRecorder", name := "<init>", desc := "()V" } : Jvm.MethodName)) ∈ AW := AW_m1 31 (by decide +kernel) (by decide +kernel)
theorem q_32 : (Jvm.Cond.instanceMethod ({ cls := "SnowRecorder", name := "<init>", desc := "()V" } : Jvm.MethodName)) ∈ AW := AW_m1 32 (by decide +kernel) (by decide +kernel)
theorem q_33 : (Jvm.Cond.code ({ cls := "SnowRecorder", name := "<init>", desc := "()V" } : Jvm.MethodName) prog_1_method_1_code (1 : Nat) (Option.none : Option Jvm.ClassFile.FieldType)) ∈ AW := AW_m1 33 (by decide +kernel) (by decide +kernel)
theorem mi_yX9_init : zWi yX9_init cX9_init 1 := ⟨q_32, q_1, q_33⟩
theorem mi_yX10_init : zWi yX10_init cX10_init 1 := ⟨q_1452, q_15, q_1453⟩
theorem dL_law_0 : decode cL_law 0 = .ok (.new 8, 3) := by decide +kernel
theorem dL_law_3 : decode cL_law 3 = .ok (.dup, 1) := by decide +kernel
theorem dL_law_4 : decode cL_law 4 = .ok (.invokespecial 79, 3) := by decide +kernel
theorem dL_law_7 : decode cL_law 7 = .ok (.astore_n 1, 1) := by decide +kernel
theorem dL_law_8 : decode cL_law 8 = .ok (.new 80, 3) := by decide +kernel
theorem dL_law_11 : decode cL_law 11 = .ok (.dup, 1) := by decide +kernel
theorem dL_law_12 : decode cL_law 12 = .ok (.invokespecial 82, 3) := by decide +kernel
theorem dL_law_15 : decode cL_law 15 = .ok (.astore_n 2, 1) := by decide +kernel
theorem dL_law_16 : decode cL_law 16 = .ok (.iconst 1, 1) := by decide +kernel
theorem dL_law_17 : decode cL_law 17 = .ok (.newarray .long, 2) := by decide +kernel
theorem dL_law_19 : decode cL_law 19 = .ok (.astore_n 3, 1) := by decide +kernel
theorem dL_law_20 : decode cL_law 20 = .ok (.iconst 0, 1) := by decide +kernel
theorem dL_law_21 : decode cL_law 21 = .ok (.istore 4, 2) := by decide +kernel
end
section
-- 9pia.start.lean.txt
set_option maxRecDepth 100000 in
set_option maxHeartbeats 4000000 in
theorem law_walk {p : Program} {l : Launch} {e : Env} {s : State} {m : MethodId} {below : List Frame} {meth : Method} {c : Code} {D : va_G} {A : Nat → Prop} {cs : Nat → ClassId} {tt : Nat} {b L : Nat} {xs : Nat → Int32} (hl0 : l.stackTraces = false) (C : zC p s m #[Value.ref b] c cL_law 7 RL D A cs tt) (hr : meth.sig.returnType = ret) (hlk : meth.locks = false) (hA : ∀ q, A q → s.heap.size ≤ q) (hX : va_X b L xs s s.heap) (hbl : b < s.heap.size) (hbA : ¬ A b) (hL : L ≤ 3072) : zV p l e room_1 s m #[Value.ref b] below meth c (lw_Z below #[Value.ref b] s) D A 7 (0) (fun _ => 0) (fun _ => iA cs 0 (fun _ => 0)) (0) (0) 0 [(0, .ref b)] [] := by
  refine z_new (fs := [.null, .int (zI (0)), .int (zI (0)), .null, .null, .null, .null, .int (zI (0)), .null, .null, .null, .null, .null, .null]) (ci := 11) C tyX9 tyX9_ok rfl inA_X9 q_29 q_30 q_1 (fun j hj => by rcases (show j = 0 ∨ j = 1 ∨ j = 2 ∨ j = 3 ∨ j = 4 ∨ j = 5 ∨ j = 6 ∨ j = 7 ∨ j = 8 ∨ j = 9 ∨ j = 10 ∨ j = 11 ∨ j = 12 ∨ j = 13 by omega) with rfl | rfl | rfl | rfl | rfl | rfl | rfl | rfl | rfl | rfl | rfl | rfl | rfl | rfl <;> rfl) (by decide) (by decide) dL_law_0 (fun qy1 ady2 gy3 eay4 egy5 => ?_)
  have hay6 : zAt ady2 (0) qy1 := up_s eay4
  have hgy7 := up_s egy5
  refine z_dup C dL_law_3 rfl ?_
  refine z_cI (As := []) (rest := [.ref qy1]) C (c_X9_init l D A cs tt _ _ 0 qy1 hay6 hgy7) mi_yX9_init q_31 rfl (by decide +kernel) (by decide) (Nat.le_of_ble_eq_true rfl) (by decide) dL_law_4 rfl (kV fun My8 ady9 gy10 hqy11 => ?_)
  obtain ⟨rfl, hA1, hG1, hR1⟩ := hqy11
  refine z_astore_n (lv' := [(1, .ref qy1), (0, .ref b)]) C dL_law_7 rfl (by decide) rfl ?_
  refine z_new (fs := [.null, .null, .null, .null, .null, .null, .null, .null, .null, .null, .null, .null, .int (zI (0)), .int (zI (0)), .int (zI (0)), .int (zI (0)), .int (zI (0)), .int (zI (0)), .int (zI (0)), .int (zI (0)), .int (zI (0)), .int (zI (0)), .null, .int (zI (0)), .int (zI (0)), .int (zI (0)), .int (zI (0)), .int (zI (0)), .int (zI (0)), .int (zI (0)), .null, .null, .int (zI (0)), .int (zI (0)), .int (zI (0)), .int (zI (0)), .int (zI (0)), .int (zI (0)), .int (zI (0)), .null, .null, .null, .null, .null, .null, .null, .null, .int (zI (0)), .int (zI (0)), .int (zI (0)), .null, .int (zI (0)), .null, .null, .null, .int (zI (0)), .int (zI (0)), .null, .null, .int (zI (0))]) (ci := 12) C tyX10 tyX10_ok rfl inA_X10 q_1449 q_1450 q_15 (fun j hj => by rcases (show j = 0 ∨ j = 1 ∨ j = 2 ∨ j = 3 ∨ j = 4 ∨ j = 5 ∨ j = 6 ∨ j = 7 ∨ j = 8 ∨ j = 9 ∨ j = 10 ∨ j = 11 ∨ j = 12 ∨ j = 13 ∨ j = 14 ∨ j = 15 ∨ j = 16 ∨ j = 17 ∨ j = 18 ∨ j = 19 ∨ j = 20 ∨ j = 21 ∨ j = 22 ∨ j = 23 ∨ j = 24 ∨ j = 25 ∨ j = 26 ∨ j = 27 ∨ j = 28 ∨ j = 29 ∨ j = 30 ∨ j = 31 ∨ j = 32 ∨ j = 33 ∨ j = 34 ∨ j = 35 ∨ j = 36 ∨ j = 37 ∨ j = 38 ∨ j = 39 ∨ j = 40 ∨ j = 41 ∨ j = 42 ∨ j = 43 ∨ j = 44 ∨ j = 45 ∨ j = 46 ∨ j = 47 ∨ j = 48 ∨ j = 49 ∨ j = 50 ∨ j = 51 ∨ j = 52 ∨ j = 53 ∨ j = 54 ∨ j = 55 ∨ j = 56 ∨ j = 57 ∨ j = 58 ∨ j = 59 by omega) with rfl | rfl | rfl | rfl | rfl | rfl | rfl | rfl | rfl | rfl | rfl | rfl | rfl | rfl | rfl | rfl | rfl | rfl | rfl | rfl | rfl | rfl | rfl | rfl | rfl | rfl | rfl | rfl | rfl | rfl | rfl | rfl | rfl | rfl | rfl | rfl | rfl | rfl | rfl | rfl | rfl | rfl | rfl | rfl | rfl | rfl | rfl | rfl | rfl | rfl | rfl | rfl | rfl | rfl | rfl | rfl | rfl | rfl | rfl | rfl <;> rfl) (by decide) (by decide) dL_law_8 (fun qy12 ady13 gy14 eay15 egy16 => ?_)
  have hay17 : zAt ady13 (921) qy12 := up_s eay15
  have hgy18 := up_s egy16
  refine z_dup C dL_law_11 rfl ?_
  refine z_cI (As := []) (rest := [.ref qy12]) C (c_X10_init l D A cs tt _ _ 921 qy12 hay17 hgy18) mi_yX10_init q_1451 rfl (by decide +kernel) (by decide) (Nat.le_of_ble_eq_true rfl) (by decide) dL_law_12 rfl (kV fun My19 ady20 gy21 hqy22 => ?_)
  obtain ⟨rfl, hA2, hG2, B9, hM1, hM2, hM3⟩ := hqy22
  have hM0 : isM0 cs ady20 gy21 921 := ⟨B9, hM1, hM2, hM3⟩
  refine z_astore_n (lv' := [(2, .ref qy12), (1, .ref qy1), (0, .ref b)]) C dL_law_15 rfl (by decide) rfl ?_
  refine z_iconst (z := 1) C dL_law_16 rfl ?_
  refine z_newJ C 1 rfl q_2116 (by decide) (by decide) (by decide) dL_law_17 (fun qy23 ady24 gy25 eay26 egy27 => ?_)
  have hay28 : zAt ady24 (951) qy23 := up_s eay26
  have hgy29 := up_s egy27
  refine z_astore_n (lv' := [(3, .ref qy23), (2, .ref qy12), (1, .ref qy1), (0, .ref b)]) C dL_law_19 rfl (by decide) rfl ?_
  refine z_iconst (z := 0) C dL_law_20 rfl ?_
  refine z_istore (lv' := [(4, .int (zI (0))), (3, .ref qy23), (2, .ref qy12), (1, .ref qy1), (0, .ref b)]) C dL_law_21 (by decide) rfl ?_
  have hpy30 := isRec.mv (ad' := ady24) (g' := gy25) (fun j h1 h2 => by rw [eay26, va_up_ne _ _ (by omega)]; rw [hA2 _ (by omega)]; rw [eay15, va_up_ne _ _ (by omega)]) (fun j h1 h2 => by rw [egy27, va_up_ne _ _ (by omega)]; rw [hG2 _ (by omega) (by omega)]; rw [egy16, va_up_ne _ _ (by omega)]) hR1
  have hpy31 := isM0.mv (ad' := ady24) (g' := gy25) (fun j h1 h2 => by rw [eay26, va_up_ne _ _ (by omega)]) (fun j h1 h2 => by rw [egy27, va_up_ne _ _ (by omega)]) hM0
  have hay32 : zAt ady9 (0) (qy1) := (hA1 (0) (by decide)).trans hay6
  have hay33 : zAt ady13 (0) (qy1) := up_n eay15 hay32 (by decide)
  have hay34 : zAt ady20 (0) (qy1) := (hA2 (0) (by decide)).trans hay33
  have hay35 : zAt ady24 (0) (qy1) := up_n eay26 hay34 (by decide)
  have hzqy1 : ady24 (0) = qy1 := hay35
  subst hzqy1
  have hay36 : zAt ady20 (921) (qy12) := (hA2 (921) (by decide)).trans hay17
  have hay37 : zAt ady24 (921) (qy12) := up_n eay26 hay36 (by decide)
  have hzqy12 : ady24 (921) = qy12 := hay37
  subst hzqy12
  have hzqy23 : ady24 (951) = qy23 := hay28
  subst hzqy23
  refine z_lv (lv' := [(4, .int (zI (0))), (3, .ref (ady24 951)), (2, .ref (ady24 921)), (1, .ref (ady24 0)), (0, .ref b)]) [0, 1, 2, 3, 4] rfl ?_
  refine z_widen (k2 := 1000) (n2 := 200000) (Nat.le_of_ble_eq_true rfl) (Nat.le_of_ble_eq_true rfl) ?_
  exact law_loop hl0 C hr hlk hA hX hbl hbA hL _ 952 ady24 gy25 1000 200000 0 0 (fun _ => 0) rfl (Nat.le_refl _) (JI.fresh hpy30 hpy31 (Nat.le_refl _)) hgy29 (by decide) (by decide) (by decide) (by decide)

set_option maxHeartbeats 4000000 in
/-- from the entry, for every script of at most 3072 ints, the law comes to its end with true -/
theorem whole_start {p : Program} {e : Env} {s : State} {m : MethodId} {below : List Frame} {meth : Method} {c : Code} (l : Launch) (hflags : l.flags = flags0) {b L : Nat} {xs : Nat → Int32} (hL : L ≤ 3072) (C0 : lw_At p s m meth c b L xs) : W p l e room_1 s m #[Value.ref b] below meth c s.heap [] 0 0 (lw_Z below #[Value.ref b] s) (entryFrame m ([Value.ref b] : List Value).toArray 7) := by
  obtain ⟨hx, hb, hr, hml, hown, hts, hX, hbl, hlocks, hgv⟩ := id C0
  obtain ⟨D, cs, tt, hE⟩ := env_of hts hgv
  have hl0 : l.stackTraces = false := by
    unfold Launch.stackTraces
    rw [hflags]
    decide +kernel
  have hl := lv_entry ([.ref b]) (n := 7) (Nat.le_of_ble_eq_true rfl)
  rw [lg_entry_eq]
  have C : zC p s m #[Value.ref b] c cL_law 7 RL D (fun q => s.heap.size ≤ q) cs tt := ⟨hx, hb, hml, hown, fun w h => hts w (List.mem_filter.mp h).1, hE⟩
  exact law_walk hl0 C hr hlocks (fun q h => h) hX hbl (Nat.not_le.mpr hbl) hL s.heap [] _ (fun k q h => by simp [wl] at h) ⟨fun i j p q h => by simp [wl] at h, fun k q h => by simp [wl] at h⟩ va_S.rf hl
end
