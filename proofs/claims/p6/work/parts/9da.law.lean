set_option maxRecDepth 100000 in
set_option maxHeartbeats 4000000 in
theorem law_c0 {p : Program} {l : Launch} {e : Env} {s : State} {m : MethodId} {below : List Frame} {meth : Method} {c : Code} {D : va_G} {A : Nat → Prop} {cs : Nat → ClassId} {tt : Nat} {b L : Nat} {xs : Nat → Int32} {N : Nat} {ad : Nat → Nat} {g : Nat → va_E} {k n : Nat} {x z : Int} {q : Nat → Int} {w1 w2 w3 w4 w5 : Int} (hl0 : l.stackTraces = false) (C : zC p s m #[Value.ref b] c cL_law 7 RL D A cs tt) (hr : meth.sig.returnType = ret) (hlk : meth.locks = false) (hA : ∀ q, A q → s.heap.size ≤ q) (hX : va_X b L xs s s.heap) (hbl : b < s.heap.size) (hbA : ¬ A b) (hL : L ≤ 3072) (hN : 952 ≤ N) (hJI : JI cs ad g N x) (hq : g 951 = jA cs 1 q) (hx : 0 ≤ x ∧ x ≤ 511) (hz : z = 6 * x) (hzL : z + 6 ≤ (L : Int)) (hk : k ≤ 590000) (hn : n ≤ 7000000) (hw1r : -2147483648 ≤ w1 ∧ w1 ≤ 2147483647) (hw1 : xs (z + 1).toNat = zI w1) (hw2r : -2147483648 ≤ w2 ∧ w2 ≤ 2147483647) (hw2 : xs (z + 2).toNat = zI w2) (hw3r : -2147483648 ≤ w3 ∧ w3 ≤ 2147483647) (hw3 : xs (z + 3).toNat = zI w3) (hw4r : -2147483648 ≤ w4 ∧ w4 ≤ 2147483647) (hw4 : xs (z + 4).toNat = zI w4) (hw5r : -2147483648 ≤ w5 ∧ w5 ≤ 2147483647) (hw5 : xs (z + 5).toNat = zI w5) (hK : ∀ (N' : Nat) (ad' : Nat → Nat) (g' : Nat → va_E) (q' : Nat → Int), 952 ≤ N' → JI cs ad' g' N' (x + 1) → g' 951 = jA cs 1 q' → zV p l e room_1 s m #[Value.ref b] below meth c (lw_Z below #[Value.ref b] s) D A 7 (N') ad' g' (k + 16) (n + 2150) 1376 [(4, .int (zI (z))), (3, .ref (ad' 951)), (2, .ref (ad' 921)), (1, .ref (ad' 0)), (0, .ref b)] []) : zV p l e room_1 s m #[Value.ref b] below meth c (lw_Z below #[Value.ref b] s) D A 7 (N) ad g (k) (n) 188 [(4, .int (zI (z))), (3, .ref (ad 951)), (2, .ref (ad 921)), (1, .ref (ad 0)), (0, .ref b)] [] := by
  have hay1 : zAt ad (0) (ad 0) := rfl
  have hay2 : zAt ad (921) (ad 921) := rfl
  have hay3 : zAt ad (951) (ad 951) := rfl
  obtain ⟨t, fp, im, nz, kz, sl, ho, ua, st, op, ai, fa, mu, tb, tp, F, r, sR, oR, aR, fR, mR, bR, pR, hR, hM, hJ⟩ := hJI
  have ht9 := hR.2.1
  have hi9 := hR.2.2.1
  obtain ⟨j23, j24, j21, j17, j20, j13, j14⟩ := id hJ.1
  refine z_aload_n C 3 dL_law_188 rfl ?_
  refine z_aload_n C 4 dL_law_189 rfl ?_
  refine z_iload C 0 dL_law_190 rfl ?_
  refine z_iconst (z := 1) C dL_law_192 rfl ?_
  refine z_iadd C dL_law_193 ?_
  refine z_sld C hX hbl hbA (z + 1).toNat (by omega) (by omega) (by omega) hw1 dL_law_194 ?_
  refine z_aload_n C 4 dL_law_195 rfl ?_
  refine z_iload C 0 dL_law_196 rfl ?_
  refine z_iconst (z := 2) C dL_law_198 rfl ?_
  refine z_iadd C dL_law_199 ?_
  refine z_sld C hX hbl hbA (z + 2).toNat (by omega) (by omega) (by omega) hw2 dL_law_200 ?_
  refine z_aload_n C 4 dL_law_201 rfl ?_
  refine z_iload C 0 dL_law_202 rfl ?_
  refine z_iconst (z := 3) C dL_law_204 rfl ?_
  refine z_iadd C dL_law_205 ?_
  refine z_sld C hX hbl hbA (z + 3).toNat (by omega) (by omega) (by omega) hw3 dL_law_206 ?_
  refine z_aload_n C 4 dL_law_207 rfl ?_
  refine z_iload C 0 dL_law_208 rfl ?_
  refine z_iconst (z := 4) C dL_law_210 rfl ?_
  refine z_iadd C dL_law_211 ?_
  refine z_sld C hX hbl hbA (z + 4).toNat (by omega) (by omega) (by omega) hw4 dL_law_212 ?_
  refine z_aload_n C 4 dL_law_213 rfl ?_
  refine z_iload C 0 dL_law_214 rfl ?_
  refine z_iconst (z := 5) C dL_law_216 rfl ?_
  refine z_iadd C dL_law_217 ?_
  refine z_sld C hX hbl hbA (z + 5).toNat (by omega) (by omega) (by omega) hw5 dL_law_218 ?_
  refine z_cV (As := [.int (zI (w1)), .int (zI (w2)), .int (zI (w3)), .int (zI (w4)), .int (zI (w5))]) (rest := []) (ci := 11) C (c_X9_feed l D A cs tt N ad _ hN _ _ _ _ _ _ _ _ _ _ _ _ _ _ _ hR w1 hw1r w2 hw2r w3 hw3r w4 hw4r w5 hw5r) (by omega) hay1 hR.1 rfl rfl mv_yX9_feed q_392 hd_yX9_feed (by decide) (Nat.le_of_ble_eq_true rfl) ⟨show k + 0 ≤ 601024 by omega, show n + 0 ≤ 7293034 by omega⟩ dL_law_219 rfl (kI0 fun rx gx hx9 => ?_)
  obtain ⟨hrx, ⟨tp1, hR0, hA1, hB1⟩, hG1⟩ := hx9
  have hR1 := hR0
  have hM1 : okMr cs ad gx 921 x F r sR oR aR fR mR bR pR := hM.grow (fun _ _ _ => rfl) (fun j a b => hG1 j (by omega) (by omega))
  have hq1 : gx 951 = jA cs 1 q := (hG1 951 (by omega) (by omega)).trans hq
  refine z_pop C dL_law_222 rfl ?_
  refine z_aload_n C 2 dL_law_223 rfl ?_
  refine z_aload_n C 4 dL_law_224 rfl ?_
  refine z_iload C 0 dL_law_225 rfl ?_
  refine z_iconst (z := 1) C dL_law_227 rfl ?_
  refine z_iadd C dL_law_228 ?_
  refine z_sld C hX hbl hbA (z + 1).toNat (by omega) (by omega) (by omega) hw1 dL_law_229 ?_
  refine z_aload_n C 4 dL_law_230 rfl ?_
  refine z_iload C 0 dL_law_231 rfl ?_
  refine z_iconst (z := 2) C dL_law_233 rfl ?_
  refine z_iadd C dL_law_234 ?_
  refine z_sld C hX hbl hbA (z + 2).toNat (by omega) (by omega) (by omega) hw2 dL_law_235 ?_
  refine z_aload_n C 4 dL_law_236 rfl ?_
  refine z_iload C 0 dL_law_237 rfl ?_
  refine z_iconst (z := 3) C dL_law_239 rfl ?_
  refine z_iadd C dL_law_240 ?_
  refine z_sld C hX hbl hbA (z + 3).toNat (by omega) (by omega) (by omega) hw3 dL_law_241 ?_
  refine z_aload_n C 4 dL_law_242 rfl ?_
  refine z_iload C 0 dL_law_243 rfl ?_
  refine z_iconst (z := 4) C dL_law_245 rfl ?_
  refine z_iadd C dL_law_246 ?_
  refine z_sld C hX hbl hbA (z + 4).toNat (by omega) (by omega) (by omega) hw4 dL_law_247 ?_
  refine z_aload_n C 4 dL_law_248 rfl ?_
  refine z_iload C 0 dL_law_249 rfl ?_
  refine z_iconst (z := 5) C dL_law_251 rfl ?_
  refine z_iadd C dL_law_252 ?_
  refine z_sld C hX hbl hbA (z + 5).toNat (by omega) (by omega) (by omega) hw5 dL_law_253 ?_
  refine z_cV (As := [.int (zI (w1)), .int (zI (w2)), .int (zI (w3)), .int (zI (w4)), .int (zI (w5))]) (rest := []) (ci := 12) C (c_X10_feed l D A cs tt N ad _ 921 (by omega) x (by omega) F r hM1 w1 hw1r w2 hw2r w3 hw3r w4 hw4r w5 hw5r) (by omega) hay2 hM1.1 rfl rfl mv_yX10_feed q_1644 hd_yX10_feed (by decide) (Nat.le_of_ble_eq_true rfl) ⟨show k + 0 + 0 ≤ 601024 by omega, show n + 0 + 0 ≤ 7293034 by omega⟩ dL_law_254 rfl (kI0 fun ry gy hy => ?_)
  obtain ⟨⟨F2, r2, pR2, hM2, hF2, hD2⟩, hG2⟩ := hy
  have hrr : -1 ≤ rx ∧ rx ≤ 900 := by rw [hrx]; split <;> omega
  by_cases h9 : t ≤ 880
  · rw [if_pos h9] at hR1
    have hd2 := hD2.resolve_left (fun e9 => by omega)
    have hF3 : F2 23 = t + 20 := by omega
    have hd3 := hd2.2.2.2
    rw [j23] at hd3
    have hJ2 := hJ.feed (by omega) hF2 hF3 hM2.tape (hA1 h9) hd3
    refine z_pop C dL_law_257 rfl ?_
    refine z_goto (tgt := 1376) C dL_law_258 (by decide) ?_
    refine z_lv (lv' := [(4, .int (zI (z))), (3, .ref (ad 951)), (2, .ref (ad 921)), (1, .ref (ad 0)), (0, .ref b)]) [0, 1, 2, 3, 4] rfl ?_
    refine z_widen (k2 := k + 16) (n2 := n + 2150) (show k + 0 + 0 ≤ k + 16 by omega) (show n + 0 + 0 ≤ n + 2150 by omega) ?_
    exact hK _ _ _ _ hN ⟨_, _, _, _, _, _, _, _, _, _, _, _, _, _, _, _, _, _, _, _, _, _, _, _, (hR1.o951 (fun j hj => hG2 j (by omega))), hM2, hJ2⟩ ((hG2 951 (by omega)).trans hq1)
  · rw [if_neg h9] at hR1
    obtain ⟨-, -, hF3, rfl⟩ := hD2.resolve_right (fun e9 => by omega)
    obtain rfl := hB1 (by omega)
    have hJ2 := hJ.keep (F' := F2) (by omega)
    refine z_pop C dL_law_257 rfl ?_
    refine z_goto (tgt := 1376) C dL_law_258 (by decide) ?_
    refine z_lv (lv' := [(4, .int (zI (z))), (3, .ref (ad 951)), (2, .ref (ad 921)), (1, .ref (ad 0)), (0, .ref b)]) [0, 1, 2, 3, 4] rfl ?_
    refine z_widen (k2 := k + 16) (n2 := n + 2150) (show k + 0 + 0 ≤ k + 16 by omega) (show n + 0 + 0 ≤ n + 2150 by omega) ?_
    exact hK _ _ _ _ hN ⟨_, _, _, _, _, _, _, _, _, _, _, _, _, _, _, _, _, _, _, _, _, _, _, _, (hR1.o951 (fun j hj => hG2 j (by omega))), hM2, hJ2⟩ ((hG2 951 (by omega)).trans hq1)

set_option maxRecDepth 100000 in
set_option maxHeartbeats 4000000 in
theorem law_c2 {p : Program} {l : Launch} {e : Env} {s : State} {m : MethodId} {below : List Frame} {meth : Method} {c : Code} {D : va_G} {A : Nat → Prop} {cs : Nat → ClassId} {tt : Nat} {b L : Nat} {xs : Nat → Int32} {N : Nat} {ad : Nat → Nat} {g : Nat → va_E} {k n : Nat} {x z : Int} {q : Nat → Int} {w1 w2 w3 w4 w5 : Int} (hl0 : l.stackTraces = false) (C : zC p s m #[Value.ref b] c cL_law 7 RL D A cs tt) (hr : meth.sig.returnType = ret) (hlk : meth.locks = false) (hA : ∀ q, A q → s.heap.size ≤ q) (hX : va_X b L xs s s.heap) (hbl : b < s.heap.size) (hbA : ¬ A b) (hL : L ≤ 3072) (hN : 952 ≤ N) (hJI : JI cs ad g N x) (hq : g 951 = jA cs 1 q) (hx : 0 ≤ x ∧ x ≤ 511) (hz : z = 6 * x) (hzL : z + 6 ≤ (L : Int)) (hk : k ≤ 590000) (hn : n ≤ 7000000) (hw1r : -2147483648 ≤ w1 ∧ w1 ≤ 2147483647) (hw1 : xs (z + 1).toNat = zI w1) (hw2r : -2147483648 ≤ w2 ∧ w2 ≤ 2147483647) (hw2 : xs (z + 2).toNat = zI w2) (hw3r : -2147483648 ≤ w3 ∧ w3 ≤ 2147483647) (hw3 : xs (z + 3).toNat = zI w3) (hw4r : -2147483648 ≤ w4 ∧ w4 ≤ 2147483647) (hw4 : xs (z + 4).toNat = zI w4) (hw5r : -2147483648 ≤ w5 ∧ w5 ≤ 2147483647) (hw5 : xs (z + 5).toNat = zI w5) (hK : ∀ (N' : Nat) (ad' : Nat → Nat) (g' : Nat → va_E) (q' : Nat → Int), 952 ≤ N' → JI cs ad' g' N' (x + 1) → g' 951 = jA cs 1 q' → zV p l e room_1 s m #[Value.ref b] below meth c (lw_Z below #[Value.ref b] s) D A 7 (N') ad' g' (k + 16) (n + 2150) 1376 [(4, .int (zI (z))), (3, .ref (ad' 951)), (2, .ref (ad' 921)), (1, .ref (ad' 0)), (0, .ref b)] []) : zV p l e room_1 s m #[Value.ref b] below meth c (lw_Z below #[Value.ref b] s) D A 7 (N) ad g (k) (n) 289 [(4, .int (zI (z))), (3, .ref (ad 951)), (2, .ref (ad 921)), (1, .ref (ad 0)), (0, .ref b)] [] := by
  have hay1 : zAt ad (0) (ad 0) := rfl
  have hay2 : zAt ad (921) (ad 921) := rfl
  have hay3 : zAt ad (951) (ad 951) := rfl
  obtain ⟨t, fp, im, nz, kz, sl, ho, ua, st, op, ai, fa, mu, tb, tp, F, r, sR, oR, aR, fR, mR, bR, pR, hR, hM, hJ⟩ := hJI
  have ht9 := hR.2.1
  have hi9 := hR.2.2.1
  obtain ⟨j23, j24, j21, j17, j20, j13, j14⟩ := id hJ.1
  refine z_aload_n C 3 dL_law_289 rfl ?_
  refine z_cV (As := []) (rest := []) (ci := 11) C (c_X9_fault l D A cs tt N ad _ hN _ _ _ _ _ _ _ _ _ _ _ _ _ _ _ hR ) (by omega) hay1 hR.1 rfl rfl mv_yX9_fault q_400 hd_yX9_fault (by decide) (Nat.le_of_ble_eq_true rfl) ⟨show k + 0 ≤ 601024 by omega, show n + 0 ≤ 7293034 by omega⟩ dL_law_290 rfl (kI0 fun rx gx hx9 => ?_)
  obtain ⟨hrx, hxv, rfl⟩ := hx9
  have hR1 := hR
  have hM1 := hM
  have hq1 := hq
  refine z_pop C dL_law_293 rfl ?_
  refine z_aload_n C 2 dL_law_294 rfl ?_
  refine z_cV (As := []) (rest := []) (ci := 12) C (c_X10_fault l D A cs tt N ad _ 921 (by omega) x (by omega) F r hM1 ) (by omega) hay2 hM1.1 rfl rfl mv_yX10_fault q_1725 hd_yX10_fault (by decide) (Nat.le_of_ble_eq_true rfl) ⟨show k + 0 + 0 ≤ 601024 by omega, show n + 0 + 0 ≤ 7293034 by omega⟩ dL_law_295 rfl (kI0 fun ry gy hy => ?_)
  obtain ⟨⟨hry, hyv⟩, ⟨F2, r2, hM2, hF2⟩, hG2⟩ := hy
  refine z_pop C dL_law_298 rfl ?_
  refine z_goto (tgt := 1376) C dL_law_299 (by decide) ?_
  refine z_lv (lv' := [(4, .int (zI (z))), (3, .ref (ad 951)), (2, .ref (ad 921)), (1, .ref (ad 0)), (0, .ref b)]) [0, 1, 2, 3, 4] rfl ?_
  refine z_widen (k2 := k + 16) (n2 := n + 2150) (show k + 0 + 0 ≤ k + 16 by omega) (show n + 0 + 0 ≤ n + 2150 by omega) ?_
  exact hK _ _ _ _ hN ⟨_, _, _, _, _, _, _, _, _, _, _, _, _, _, _, _, _, _, _, _, _, _, _, _, (hR1.o951 (fun j hj => hG2 j (by omega))), hM2, (hJ.keep hF2)⟩ ((hG2 951 (by omega)).trans hq1)

set_option maxRecDepth 100000 in
set_option maxHeartbeats 4000000 in
theorem law_c8 {p : Program} {l : Launch} {e : Env} {s : State} {m : MethodId} {below : List Frame} {meth : Method} {c : Code} {D : va_G} {A : Nat → Prop} {cs : Nat → ClassId} {tt : Nat} {b L : Nat} {xs : Nat → Int32} {N : Nat} {ad : Nat → Nat} {g : Nat → va_E} {k n : Nat} {x z : Int} {q : Nat → Int} {w1 w2 w3 w4 w5 : Int} (hl0 : l.stackTraces = false) (C : zC p s m #[Value.ref b] c cL_law 7 RL D A cs tt) (hr : meth.sig.returnType = ret) (hlk : meth.locks = false) (hA : ∀ q, A q → s.heap.size ≤ q) (hX : va_X b L xs s s.heap) (hbl : b < s.heap.size) (hbA : ¬ A b) (hL : L ≤ 3072) (hN : 952 ≤ N) (hJI : JI cs ad g N x) (hq : g 951 = jA cs 1 q) (hx : 0 ≤ x ∧ x ≤ 511) (hz : z = 6 * x) (hzL : z + 6 ≤ (L : Int)) (hk : k ≤ 590000) (hn : n ≤ 7000000) (hw1r : -2147483648 ≤ w1 ∧ w1 ≤ 2147483647) (hw1 : xs (z + 1).toNat = zI w1) (hw2r : -2147483648 ≤ w2 ∧ w2 ≤ 2147483647) (hw2 : xs (z + 2).toNat = zI w2) (hw3r : -2147483648 ≤ w3 ∧ w3 ≤ 2147483647) (hw3 : xs (z + 3).toNat = zI w3) (hw4r : -2147483648 ≤ w4 ∧ w4 ≤ 2147483647) (hw4 : xs (z + 4).toNat = zI w4) (hw5r : -2147483648 ≤ w5 ∧ w5 ≤ 2147483647) (hw5 : xs (z + 5).toNat = zI w5) (hK : ∀ (N' : Nat) (ad' : Nat → Nat) (g' : Nat → va_E) (q' : Nat → Int), 952 ≤ N' → JI cs ad' g' N' (x + 1) → g' 951 = jA cs 1 q' → zV p l e room_1 s m #[Value.ref b] below meth c (lw_Z below #[Value.ref b] s) D A 7 (N') ad' g' (k + 16) (n + 2150) 1376 [(4, .int (zI (z))), (3, .ref (ad' 951)), (2, .ref (ad' 921)), (1, .ref (ad' 0)), (0, .ref b)] []) : zV p l e room_1 s m #[Value.ref b] below meth c (lw_Z below #[Value.ref b] s) D A 7 (N) ad g (k) (n) 542 [(4, .int (zI (z))), (3, .ref (ad 951)), (2, .ref (ad 921)), (1, .ref (ad 0)), (0, .ref b)] [] := by
  have hay1 : zAt ad (0) (ad 0) := rfl
  have hay2 : zAt ad (921) (ad 921) := rfl
  have hay3 : zAt ad (951) (ad 951) := rfl
  obtain ⟨t, fp, im, nz, kz, sl, ho, ua, st, op, ai, fa, mu, tb, tp, F, r, sR, oR, aR, fR, mR, bR, pR, hR, hM, hJ⟩ := hJI
  have ht9 := hR.2.1
  have hi9 := hR.2.2.1
  obtain ⟨j23, j24, j21, j17, j20, j13, j14⟩ := id hJ.1
  refine z_aload_n C 3 dL_law_542 rfl ?_
  refine z_aload_n C 4 dL_law_543 rfl ?_
  refine z_iload C 0 dL_law_544 rfl ?_
  refine z_iconst (z := 1) C dL_law_546 rfl ?_
  refine z_iadd C dL_law_547 ?_
  refine z_sld C hX hbl hbA (z + 1).toNat (by omega) (by omega) (by omega) hw1 dL_law_548 ?_
  refine z_cV (As := [.int (zI (w1))]) (rest := []) (ci := 11) C (c_X9_hours l D A cs tt N ad _ hN _ _ _ _ _ _ _ _ _ _ _ _ _ _ _ hR w1 hw1r) (by omega) hay1 hR.1 rfl rfl mv_yX9_hours q_404 hd_yX9_hours (by decide) (Nat.le_of_ble_eq_true rfl) ⟨show k + 0 ≤ 601024 by omega, show n + 0 ≤ 7293034 by omega⟩ dL_law_549 rfl (kI0 fun rx gx hx9 => ?_)
  obtain ⟨hrx, hR0, hG1⟩ := hx9
  have hR1 := hR0
  have hM1 : okMr cs ad gx 921 x F r sR oR aR fR mR bR pR := hM.grow (fun _ _ _ => rfl) (fun j a b => hG1 j (by omega) (by omega))
  have hq1 : gx 951 = jA cs 1 q := (hG1 951 (by omega) (by omega)).trans hq
  refine z_pop C dL_law_552 rfl ?_
  refine z_aload_n C 2 dL_law_553 rfl ?_
  refine z_aload_n C 4 dL_law_554 rfl ?_
  refine z_iload C 0 dL_law_555 rfl ?_
  refine z_iconst (z := 1) C dL_law_557 rfl ?_
  refine z_iadd C dL_law_558 ?_
  refine z_sld C hX hbl hbA (z + 1).toNat (by omega) (by omega) (by omega) hw1 dL_law_559 ?_
  refine z_cV (As := [.int (zI (w1))]) (rest := []) (ci := 12) C (c_X10_hours l D A cs tt N ad _ 921 (by omega) x (by omega) F r hM1 w1 hw1r) (by omega) hay2 hM1.1 rfl rfl mv_yX10_hours q_1866 hd_yX10_hours (by decide) (Nat.le_of_ble_eq_true rfl) ⟨show k + 0 + 0 ≤ 601024 by omega, show n + 0 + 0 ≤ 7293034 by omega⟩ dL_law_560 rfl (kI0 fun ry gy hy => ?_)
  obtain ⟨hry, ⟨F2, r2, hM2, hF2⟩, hG2⟩ := hy
  refine z_pop C dL_law_563 rfl ?_
  refine z_goto (tgt := 1376) C dL_law_564 (by decide) ?_
  refine z_lv (lv' := [(4, .int (zI (z))), (3, .ref (ad 951)), (2, .ref (ad 921)), (1, .ref (ad 0)), (0, .ref b)]) [0, 1, 2, 3, 4] rfl ?_
  refine z_widen (k2 := k + 16) (n2 := n + 2150) (show k + 0 + 0 ≤ k + 16 by omega) (show n + 0 + 0 ≤ n + 2150 by omega) ?_
  exact hK _ _ _ _ hN ⟨_, _, _, _, _, _, _, _, _, _, _, _, _, _, _, _, _, _, _, _, _, _, _, _, (hR1.o951 (fun j hj => hG2 j (by omega))), hM2, (hJ.keep hF2)⟩ ((hG2 951 (by omega)).trans hq1)

set_option maxRecDepth 100000 in
set_option maxHeartbeats 4000000 in
theorem law_c9 {p : Program} {l : Launch} {e : Env} {s : State} {m : MethodId} {below : List Frame} {meth : Method} {c : Code} {D : va_G} {A : Nat → Prop} {cs : Nat → ClassId} {tt : Nat} {b L : Nat} {xs : Nat → Int32} {N : Nat} {ad : Nat → Nat} {g : Nat → va_E} {k n : Nat} {x z : Int} {q : Nat → Int} {w1 w2 w3 w4 w5 : Int} (hl0 : l.stackTraces = false) (C : zC p s m #[Value.ref b] c cL_law 7 RL D A cs tt) (hr : meth.sig.returnType = ret) (hlk : meth.locks = false) (hA : ∀ q, A q → s.heap.size ≤ q) (hX : va_X b L xs s s.heap) (hbl : b < s.heap.size) (hbA : ¬ A b) (hL : L ≤ 3072) (hN : 952 ≤ N) (hJI : JI cs ad g N x) (hq : g 951 = jA cs 1 q) (hx : 0 ≤ x ∧ x ≤ 511) (hz : z = 6 * x) (hzL : z + 6 ≤ (L : Int)) (hk : k ≤ 590000) (hn : n ≤ 7000000) (hw1r : -2147483648 ≤ w1 ∧ w1 ≤ 2147483647) (hw1 : xs (z + 1).toNat = zI w1) (hw2r : -2147483648 ≤ w2 ∧ w2 ≤ 2147483647) (hw2 : xs (z + 2).toNat = zI w2) (hw3r : -2147483648 ≤ w3 ∧ w3 ≤ 2147483647) (hw3 : xs (z + 3).toNat = zI w3) (hw4r : -2147483648 ≤ w4 ∧ w4 ≤ 2147483647) (hw4 : xs (z + 4).toNat = zI w4) (hw5r : -2147483648 ≤ w5 ∧ w5 ≤ 2147483647) (hw5 : xs (z + 5).toNat = zI w5) (hK : ∀ (N' : Nat) (ad' : Nat → Nat) (g' : Nat → va_E) (q' : Nat → Int), 952 ≤ N' → JI cs ad' g' N' (x + 1) → g' 951 = jA cs 1 q' → zV p l e room_1 s m #[Value.ref b] below meth c (lw_Z below #[Value.ref b] s) D A 7 (N') ad' g' (k + 16) (n + 2150) 1376 [(4, .int (zI (z))), (3, .ref (ad' 951)), (2, .ref (ad' 921)), (1, .ref (ad' 0)), (0, .ref b)] []) : zV p l e room_1 s m #[Value.ref b] below meth c (lw_Z below #[Value.ref b] s) D A 7 (N) ad g (k) (n) 567 [(4, .int (zI (z))), (3, .ref (ad 951)), (2, .ref (ad 921)), (1, .ref (ad 0)), (0, .ref b)] [] := by
  have hay1 : zAt ad (0) (ad 0) := rfl
  have hay2 : zAt ad (921) (ad 921) := rfl
  have hay3 : zAt ad (951) (ad 951) := rfl
  obtain ⟨t, fp, im, nz, kz, sl, ho, ua, st, op, ai, fa, mu, tb, tp, F, r, sR, oR, aR, fR, mR, bR, pR, hR, hM, hJ⟩ := hJI
  have ht9 := hR.2.1
  have hi9 := hR.2.2.1
  obtain ⟨j23, j24, j21, j17, j20, j13, j14⟩ := id hJ.1
  refine z_aload_n C 3 dL_law_567 rfl ?_
  refine z_aload_n C 4 dL_law_568 rfl ?_
  refine z_iload C 0 dL_law_569 rfl ?_
  refine z_iconst (z := 1) C dL_law_571 rfl ?_
  refine z_iadd C dL_law_572 ?_
  refine z_sld C hX hbl hbA (z + 1).toNat (by omega) (by omega) (by omega) hw1 dL_law_573 ?_
  refine z_aload_n C 4 dL_law_574 rfl ?_
  refine z_iload C 0 dL_law_575 rfl ?_
  refine z_iconst (z := 2) C dL_law_577 rfl ?_
  refine z_iadd C dL_law_578 ?_
  refine z_sld C hX hbl hbA (z + 2).toNat (by omega) (by omega) (by omega) hw2 dL_law_579 ?_
  refine z_aload_n C 4 dL_law_580 rfl ?_
  refine z_iload C 0 dL_law_581 rfl ?_
  refine z_iconst (z := 3) C dL_law_583 rfl ?_
  refine z_iadd C dL_law_584 ?_
  refine z_sld C hX hbl hbA (z + 3).toNat (by omega) (by omega) (by omega) hw3 dL_law_585 ?_
  refine z_cV (As := [.int (zI (w1)), .int (zI (w2)), .int (zI (w3))]) (rest := []) (ci := 11) C (c_X9_fall l D A cs tt N ad _ hN _ _ _ _ _ _ _ _ _ _ _ _ _ _ _ hR w1 hw1r w2 hw2r w3 hw3r) (by omega) hay1 hR.1 rfl rfl mv_yX9_fall q_533 hd_yX9_fall (by decide) (Nat.le_of_ble_eq_true rfl) ⟨show k + 0 ≤ 601024 by omega, show n + 0 ≤ 7293034 by omega⟩ dL_law_586 rfl (kI0 fun rx gx hx9 => ?_)
  obtain ⟨hrx, hR0, hG1⟩ := hx9
  have hR1 := hR0
  have hM1 : okMr cs ad gx 921 x F r sR oR aR fR mR bR pR := hM.grow (fun _ _ _ => rfl) (fun j a b => hG1 j (by omega) (by omega))
  have hq1 : gx 951 = jA cs 1 q := (hG1 951 (by omega) (by omega)).trans hq
  refine z_pop C dL_law_589 rfl ?_
  refine z_aload_n C 2 dL_law_590 rfl ?_
  refine z_aload_n C 4 dL_law_591 rfl ?_
  refine z_iload C 0 dL_law_592 rfl ?_
  refine z_iconst (z := 1) C dL_law_594 rfl ?_
  refine z_iadd C dL_law_595 ?_
  refine z_sld C hX hbl hbA (z + 1).toNat (by omega) (by omega) (by omega) hw1 dL_law_596 ?_
  refine z_aload_n C 4 dL_law_597 rfl ?_
  refine z_iload C 0 dL_law_598 rfl ?_
  refine z_iconst (z := 2) C dL_law_600 rfl ?_
  refine z_iadd C dL_law_601 ?_
  refine z_sld C hX hbl hbA (z + 2).toNat (by omega) (by omega) (by omega) hw2 dL_law_602 ?_
  refine z_aload_n C 4 dL_law_603 rfl ?_
  refine z_iload C 0 dL_law_604 rfl ?_
  refine z_iconst (z := 3) C dL_law_606 rfl ?_
  refine z_iadd C dL_law_607 ?_
  refine z_sld C hX hbl hbA (z + 3).toNat (by omega) (by omega) (by omega) hw3 dL_law_608 ?_
  refine z_cV (As := [.int (zI (w1)), .int (zI (w2)), .int (zI (w3))]) (rest := []) (ci := 12) C (c_X10_fall l D A cs tt N ad _ 921 (by omega) x (by omega) F r hM1 w1 hw1r w2 hw2r w3 hw3r) (by omega) hay2 hM1.1 rfl rfl mv_yX10_fall q_1952 hd_yX10_fall (by decide) (Nat.le_of_ble_eq_true rfl) ⟨show k + 0 + 0 ≤ 601024 by omega, show n + 0 + 0 ≤ 7293034 by omega⟩ dL_law_609 rfl (kI0 fun ry gy hy => ?_)
  obtain ⟨hry, ⟨F2, r2, hM2, hF2⟩, hG2⟩ := hy
  refine z_pop C dL_law_612 rfl ?_
  refine z_goto (tgt := 1376) C dL_law_613 (by decide) ?_
  refine z_lv (lv' := [(4, .int (zI (z))), (3, .ref (ad 951)), (2, .ref (ad 921)), (1, .ref (ad 0)), (0, .ref b)]) [0, 1, 2, 3, 4] rfl ?_
  refine z_widen (k2 := k + 16) (n2 := n + 2150) (show k + 0 + 0 ≤ k + 16 by omega) (show n + 0 + 0 ≤ n + 2150 by omega) ?_
  exact hK _ _ _ _ hN ⟨_, _, _, _, _, _, _, _, _, _, _, _, _, _, _, _, _, _, _, _, _, _, _, _, (hR1.o951 (fun j hj => hG2 j (by omega))), hM2, (hJ.keep hF2)⟩ ((hG2 951 (by omega)).trans hq1)

set_option maxRecDepth 100000 in
set_option maxHeartbeats 4000000 in
theorem law_c10 {p : Program} {l : Launch} {e : Env} {s : State} {m : MethodId} {below : List Frame} {meth : Method} {c : Code} {D : va_G} {A : Nat → Prop} {cs : Nat → ClassId} {tt : Nat} {b L : Nat} {xs : Nat → Int32} {N : Nat} {ad : Nat → Nat} {g : Nat → va_E} {k n : Nat} {x z : Int} {q : Nat → Int} {w1 w2 w3 w4 w5 : Int} (hl0 : l.stackTraces = false) (C : zC p s m #[Value.ref b] c cL_law 7 RL D A cs tt) (hr : meth.sig.returnType = ret) (hlk : meth.locks = false) (hA : ∀ q, A q → s.heap.size ≤ q) (hX : va_X b L xs s s.heap) (hbl : b < s.heap.size) (hbA : ¬ A b) (hL : L ≤ 3072) (hN : 952 ≤ N) (hJI : JI cs ad g N x) (hq : g 951 = jA cs 1 q) (hx : 0 ≤ x ∧ x ≤ 511) (hz : z = 6 * x) (hzL : z + 6 ≤ (L : Int)) (hk : k ≤ 590000) (hn : n ≤ 7000000) (hw1r : -2147483648 ≤ w1 ∧ w1 ≤ 2147483647) (hw1 : xs (z + 1).toNat = zI w1) (hw2r : -2147483648 ≤ w2 ∧ w2 ≤ 2147483647) (hw2 : xs (z + 2).toNat = zI w2) (hw3r : -2147483648 ≤ w3 ∧ w3 ≤ 2147483647) (hw3 : xs (z + 3).toNat = zI w3) (hw4r : -2147483648 ≤ w4 ∧ w4 ≤ 2147483647) (hw4 : xs (z + 4).toNat = zI w4) (hw5r : -2147483648 ≤ w5 ∧ w5 ≤ 2147483647) (hw5 : xs (z + 5).toNat = zI w5) (hK : ∀ (N' : Nat) (ad' : Nat → Nat) (g' : Nat → va_E) (q' : Nat → Int), 952 ≤ N' → JI cs ad' g' N' (x + 1) → g' 951 = jA cs 1 q' → zV p l e room_1 s m #[Value.ref b] below meth c (lw_Z below #[Value.ref b] s) D A 7 (N') ad' g' (k + 16) (n + 2150) 1376 [(4, .int (zI (z))), (3, .ref (ad' 951)), (2, .ref (ad' 921)), (1, .ref (ad' 0)), (0, .ref b)] []) : zV p l e room_1 s m #[Value.ref b] below meth c (lw_Z below #[Value.ref b] s) D A 7 (N) ad g (k) (n) 616 [(4, .int (zI (z))), (3, .ref (ad 951)), (2, .ref (ad 921)), (1, .ref (ad 0)), (0, .ref b)] [] := by
  have hay1 : zAt ad (0) (ad 0) := rfl
  have hay2 : zAt ad (921) (ad 921) := rfl
  have hay3 : zAt ad (951) (ad 951) := rfl
  obtain ⟨t, fp, im, nz, kz, sl, ho, ua, st, op, ai, fa, mu, tb, tp, F, r, sR, oR, aR, fR, mR, bR, pR, hR, hM, hJ⟩ := hJI
  have ht9 := hR.2.1
  have hi9 := hR.2.2.1
  obtain ⟨j23, j24, j21, j17, j20, j13, j14⟩ := id hJ.1
  refine z_aload_n C 3 dL_law_616 rfl ?_
  refine z_aload_n C 4 dL_law_617 rfl ?_
  refine z_iload C 0 dL_law_618 rfl ?_
  refine z_iconst (z := 1) C dL_law_620 rfl ?_
  refine z_iadd C dL_law_621 ?_
  refine z_sld C hX hbl hbA (z + 1).toNat (by omega) (by omega) (by omega) hw1 dL_law_622 ?_
  refine z_cV (As := [.int (zI (w1))]) (rest := []) (ci := 11) C (c_X9_dig l D A cs tt N ad _ hN _ _ _ _ _ _ _ _ _ _ _ _ _ _ _ hR w1 hw1r) (by omega) hay1 hR.1 rfl rfl mv_yX9_dig q_547 hd_yX9_dig (by decide) (Nat.le_of_ble_eq_true rfl) ⟨show k + 0 ≤ 601024 by omega, show n + 0 ≤ 7293034 by omega⟩ dL_law_623 rfl (kI0 fun rx gx hx9 => ?_)
  obtain ⟨hrx, hR0, hG1⟩ := hx9
  have hR1 := hR0
  have hM1 : okMr cs ad gx 921 x F r sR oR aR fR mR bR pR := hM.grow (fun _ _ _ => rfl) (fun j a b => hG1 j (by omega) (by omega))
  have hq1 : gx 951 = jA cs 1 q := (hG1 951 (by omega) (by omega)).trans hq
  refine z_pop C dL_law_626 rfl ?_
  refine z_aload_n C 2 dL_law_627 rfl ?_
  refine z_aload_n C 4 dL_law_628 rfl ?_
  refine z_iload C 0 dL_law_629 rfl ?_
  refine z_iconst (z := 1) C dL_law_631 rfl ?_
  refine z_iadd C dL_law_632 ?_
  refine z_sld C hX hbl hbA (z + 1).toNat (by omega) (by omega) (by omega) hw1 dL_law_633 ?_
  refine z_cV (As := [.int (zI (w1))]) (rest := []) (ci := 12) C (c_X10_dig l D A cs tt N ad _ 921 (by omega) x (by omega) F r hM1 w1 hw1r) (by omega) hay2 hM1.1 rfl rfl mv_yX10_dig q_1956 hd_yX10_dig (by decide) (Nat.le_of_ble_eq_true rfl) ⟨show k + 0 + 0 ≤ 601024 by omega, show n + 0 + 0 ≤ 7293034 by omega⟩ dL_law_634 rfl (kI0 fun ry gy hy => ?_)
  obtain ⟨hry, ⟨F2, r2, hM2, hF2⟩, hG2⟩ := hy
  refine z_pop C dL_law_637 rfl ?_
  refine z_goto (tgt := 1376) C dL_law_638 (by decide) ?_
  refine z_lv (lv' := [(4, .int (zI (z))), (3, .ref (ad 951)), (2, .ref (ad 921)), (1, .ref (ad 0)), (0, .ref b)]) [0, 1, 2, 3, 4] rfl ?_
  refine z_widen (k2 := k + 16) (n2 := n + 2150) (show k + 0 + 0 ≤ k + 16 by omega) (show n + 0 + 0 ≤ n + 2150 by omega) ?_
  exact hK _ _ _ _ hN ⟨_, _, _, _, _, _, _, _, _, _, _, _, _, _, _, _, _, _, _, _, _, _, _, _, (hR1.o951 (fun j hj => hG2 j (by omega))), hM2, (hJ.keep hF2)⟩ ((hG2 951 (by omega)).trans hq1)

set_option maxRecDepth 100000 in
set_option maxHeartbeats 4000000 in
theorem law_c11 {p : Program} {l : Launch} {e : Env} {s : State} {m : MethodId} {below : List Frame} {meth : Method} {c : Code} {D : va_G} {A : Nat → Prop} {cs : Nat → ClassId} {tt : Nat} {b L : Nat} {xs : Nat → Int32} {N : Nat} {ad : Nat → Nat} {g : Nat → va_E} {k n : Nat} {x z : Int} {q : Nat → Int} {w1 w2 w3 w4 w5 : Int} (hl0 : l.stackTraces = false) (C : zC p s m #[Value.ref b] c cL_law 7 RL D A cs tt) (hr : meth.sig.returnType = ret) (hlk : meth.locks = false) (hA : ∀ q, A q → s.heap.size ≤ q) (hX : va_X b L xs s s.heap) (hbl : b < s.heap.size) (hbA : ¬ A b) (hL : L ≤ 3072) (hN : 952 ≤ N) (hJI : JI cs ad g N x) (hq : g 951 = jA cs 1 q) (hx : 0 ≤ x ∧ x ≤ 511) (hz : z = 6 * x) (hzL : z + 6 ≤ (L : Int)) (hk : k ≤ 590000) (hn : n ≤ 7000000) (hw1r : -2147483648 ≤ w1 ∧ w1 ≤ 2147483647) (hw1 : xs (z + 1).toNat = zI w1) (hw2r : -2147483648 ≤ w2 ∧ w2 ≤ 2147483647) (hw2 : xs (z + 2).toNat = zI w2) (hw3r : -2147483648 ≤ w3 ∧ w3 ≤ 2147483647) (hw3 : xs (z + 3).toNat = zI w3) (hw4r : -2147483648 ≤ w4 ∧ w4 ≤ 2147483647) (hw4 : xs (z + 4).toNat = zI w4) (hw5r : -2147483648 ≤ w5 ∧ w5 ≤ 2147483647) (hw5 : xs (z + 5).toNat = zI w5) (hK : ∀ (N' : Nat) (ad' : Nat → Nat) (g' : Nat → va_E) (q' : Nat → Int), 952 ≤ N' → JI cs ad' g' N' (x + 1) → g' 951 = jA cs 1 q' → zV p l e room_1 s m #[Value.ref b] below meth c (lw_Z below #[Value.ref b] s) D A 7 (N') ad' g' (k + 16) (n + 2150) 1376 [(4, .int (zI (z))), (3, .ref (ad' 951)), (2, .ref (ad' 921)), (1, .ref (ad' 0)), (0, .ref b)] []) : zV p l e room_1 s m #[Value.ref b] below meth c (lw_Z below #[Value.ref b] s) D A 7 (N) ad g (k) (n) 641 [(4, .int (zI (z))), (3, .ref (ad 951)), (2, .ref (ad 921)), (1, .ref (ad 0)), (0, .ref b)] [] := by
  have hay1 : zAt ad (0) (ad 0) := rfl
  have hay2 : zAt ad (921) (ad 921) := rfl
  have hay3 : zAt ad (951) (ad 951) := rfl
  obtain ⟨t, fp, im, nz, kz, sl, ho, ua, st, op, ai, fa, mu, tb, tp, F, r, sR, oR, aR, fR, mR, bR, pR, hR, hM, hJ⟩ := hJI
  have ht9 := hR.2.1
  have hi9 := hR.2.2.1
  obtain ⟨j23, j24, j21, j17, j20, j13, j14⟩ := id hJ.1
  refine z_aload_n C 3 dL_law_641 rfl ?_
  refine z_aload_n C 4 dL_law_642 rfl ?_
  refine z_iload C 0 dL_law_643 rfl ?_
  refine z_iconst (z := 1) C dL_law_645 rfl ?_
  refine z_iadd C dL_law_646 ?_
  refine z_sld C hX hbl hbA (z + 1).toNat (by omega) (by omega) (by omega) hw1 dL_law_647 ?_
  refine z_cV (As := [.int (zI (w1))]) (rest := []) (ci := 11) C (c_X9_slide l D A cs tt N ad _ hN _ _ _ _ _ _ _ _ _ _ _ _ _ _ _ hR w1 hw1r) (by omega) hay1 hR.1 rfl rfl mv_yX9_slide q_556 hd_yX9_slide (by decide) (Nat.le_of_ble_eq_true rfl) ⟨show k + 0 ≤ 601024 by omega, show n + 0 ≤ 7293034 by omega⟩ dL_law_648 rfl (kI0 fun rx gx hx9 => ?_)
  obtain ⟨hrx, hR0, hG1⟩ := hx9
  have hR1 := hR0
  have hM1 : okMr cs ad gx 921 x F r sR oR aR fR mR bR pR := hM.grow (fun _ _ _ => rfl) (fun j a b => hG1 j (by omega) (by omega))
  have hq1 : gx 951 = jA cs 1 q := (hG1 951 (by omega) (by omega)).trans hq
  refine z_pop C dL_law_651 rfl ?_
  refine z_aload_n C 2 dL_law_652 rfl ?_
  refine z_aload_n C 4 dL_law_653 rfl ?_
  refine z_iload C 0 dL_law_654 rfl ?_
  refine z_iconst (z := 1) C dL_law_656 rfl ?_
  refine z_iadd C dL_law_657 ?_
  refine z_sld C hX hbl hbA (z + 1).toNat (by omega) (by omega) (by omega) hw1 dL_law_658 ?_
  refine z_cV (As := [.int (zI (w1))]) (rest := []) (ci := 12) C (c_X10_slide l D A cs tt N ad _ 921 (by omega) x (by omega) F r hM1 w1 hw1r) (by omega) hay2 hM1.1 rfl rfl mv_yX10_slide q_1964 hd_yX10_slide (by decide) (Nat.le_of_ble_eq_true rfl) ⟨show k + 0 + 0 ≤ 601024 by omega, show n + 0 + 0 ≤ 7293034 by omega⟩ dL_law_659 rfl (kI0 fun ry gy hy => ?_)
  obtain ⟨hry, ⟨F2, r2, hM2, hF2⟩, hG2⟩ := hy
  refine z_pop C dL_law_662 rfl ?_
  refine z_goto (tgt := 1376) C dL_law_663 (by decide) ?_
  refine z_lv (lv' := [(4, .int (zI (z))), (3, .ref (ad 951)), (2, .ref (ad 921)), (1, .ref (ad 0)), (0, .ref b)]) [0, 1, 2, 3, 4] rfl ?_
  refine z_widen (k2 := k + 16) (n2 := n + 2150) (show k + 0 + 0 ≤ k + 16 by omega) (show n + 0 + 0 ≤ n + 2150 by omega) ?_
  exact hK _ _ _ _ hN ⟨_, _, _, _, _, _, _, _, _, _, _, _, _, _, _, _, _, _, _, _, _, _, _, _, (hR1.o951 (fun j hj => hG2 j (by omega))), hM2, (hJ.keep hF2)⟩ ((hG2 951 (by omega)).trans hq1)

set_option maxRecDepth 100000 in
set_option maxHeartbeats 4000000 in
theorem law_c12 {p : Program} {l : Launch} {e : Env} {s : State} {m : MethodId} {below : List Frame} {meth : Method} {c : Code} {D : va_G} {A : Nat → Prop} {cs : Nat → ClassId} {tt : Nat} {b L : Nat} {xs : Nat → Int32} {N : Nat} {ad : Nat → Nat} {g : Nat → va_E} {k n : Nat} {x z : Int} {q : Nat → Int} {w1 w2 w3 w4 w5 : Int} (hl0 : l.stackTraces = false) (C : zC p s m #[Value.ref b] c cL_law 7 RL D A cs tt) (hr : meth.sig.returnType = ret) (hlk : meth.locks = false) (hA : ∀ q, A q → s.heap.size ≤ q) (hX : va_X b L xs s s.heap) (hbl : b < s.heap.size) (hbA : ¬ A b) (hL : L ≤ 3072) (hN : 952 ≤ N) (hJI : JI cs ad g N x) (hq : g 951 = jA cs 1 q) (hx : 0 ≤ x ∧ x ≤ 511) (hz : z = 6 * x) (hzL : z + 6 ≤ (L : Int)) (hk : k ≤ 590000) (hn : n ≤ 7000000) (hw1r : -2147483648 ≤ w1 ∧ w1 ≤ 2147483647) (hw1 : xs (z + 1).toNat = zI w1) (hw2r : -2147483648 ≤ w2 ∧ w2 ≤ 2147483647) (hw2 : xs (z + 2).toNat = zI w2) (hw3r : -2147483648 ≤ w3 ∧ w3 ≤ 2147483647) (hw3 : xs (z + 3).toNat = zI w3) (hw4r : -2147483648 ≤ w4 ∧ w4 ≤ 2147483647) (hw4 : xs (z + 4).toNat = zI w4) (hw5r : -2147483648 ≤ w5 ∧ w5 ≤ 2147483647) (hw5 : xs (z + 5).toNat = zI w5) (hK : ∀ (N' : Nat) (ad' : Nat → Nat) (g' : Nat → va_E) (q' : Nat → Int), 952 ≤ N' → JI cs ad' g' N' (x + 1) → g' 951 = jA cs 1 q' → zV p l e room_1 s m #[Value.ref b] below meth c (lw_Z below #[Value.ref b] s) D A 7 (N') ad' g' (k + 16) (n + 2150) 1376 [(4, .int (zI (z))), (3, .ref (ad' 951)), (2, .ref (ad' 921)), (1, .ref (ad' 0)), (0, .ref b)] []) : zV p l e room_1 s m #[Value.ref b] below meth c (lw_Z below #[Value.ref b] s) D A 7 (N) ad g (k) (n) 666 [(4, .int (zI (z))), (3, .ref (ad 951)), (2, .ref (ad 921)), (1, .ref (ad 0)), (0, .ref b)] [] := by
  have hay1 : zAt ad (0) (ad 0) := rfl
  have hay2 : zAt ad (921) (ad 921) := rfl
  have hay3 : zAt ad (951) (ad 951) := rfl
  obtain ⟨t, fp, im, nz, kz, sl, ho, ua, st, op, ai, fa, mu, tb, tp, F, r, sR, oR, aR, fR, mR, bR, pR, hR, hM, hJ⟩ := hJI
  have ht9 := hR.2.1
  have hi9 := hR.2.2.1
  obtain ⟨j23, j24, j21, j17, j20, j13, j14⟩ := id hJ.1
  refine z_aload_n C 3 dL_law_666 rfl ?_
  refine z_aload_n C 4 dL_law_667 rfl ?_
  refine z_iload C 0 dL_law_668 rfl ?_
  refine z_iconst (z := 1) C dL_law_670 rfl ?_
  refine z_iadd C dL_law_671 ?_
  refine z_sld C hX hbl hbA (z + 1).toNat (by omega) (by omega) (by omega) hw1 dL_law_672 ?_
  refine z_cV (As := [.int (zI (w1))]) (rest := []) (ci := 11) C (c_X9_pit l D A cs tt N ad _ hN _ _ _ _ _ _ _ _ _ _ _ _ _ _ _ hR w1 hw1r) (by omega) hay1 hR.1 rfl rfl mv_yX9_pit q_598 hd_yX9_pit (by decide) (Nat.le_of_ble_eq_true rfl) ⟨show k + 0 ≤ 601024 by omega, show n + 0 ≤ 7293034 by omega⟩ dL_law_673 rfl (kI0 fun rx gx hx9 => ?_)
  obtain ⟨hrx, hR0, hG1⟩ := hx9
  have hR1 := hR0
  have hM1 : okMr cs ad gx 921 x F r sR oR aR fR mR bR pR := hM.grow (fun _ _ _ => rfl) (fun j a b => hG1 j (by omega) (by omega))
  have hq1 : gx 951 = jA cs 1 q := (hG1 951 (by omega) (by omega)).trans hq
  refine z_pop C dL_law_676 rfl ?_
  refine z_aload_n C 2 dL_law_677 rfl ?_
  refine z_aload_n C 4 dL_law_678 rfl ?_
  refine z_iload C 0 dL_law_679 rfl ?_
  refine z_iconst (z := 1) C dL_law_681 rfl ?_
  refine z_iadd C dL_law_682 ?_
  refine z_sld C hX hbl hbA (z + 1).toNat (by omega) (by omega) (by omega) hw1 dL_law_683 ?_
  refine z_cV (As := [.int (zI (w1))]) (rest := []) (ci := 12) C (c_X10_pit l D A cs tt N ad _ 921 (by omega) x (by omega) F r hM1 w1 hw1r) (by omega) hay2 hM1.1 rfl rfl mv_yX10_pit q_1972 hd_yX10_pit (by decide) (Nat.le_of_ble_eq_true rfl) ⟨show k + 0 + 0 ≤ 601024 by omega, show n + 0 + 0 ≤ 7293034 by omega⟩ dL_law_684 rfl (kI0 fun ry gy hy => ?_)
  obtain ⟨hry, ⟨F2, r2, hM2, hF2⟩, hG2⟩ := hy
  refine z_pop C dL_law_687 rfl ?_
  refine z_goto (tgt := 1376) C dL_law_688 (by decide) ?_
  refine z_lv (lv' := [(4, .int (zI (z))), (3, .ref (ad 951)), (2, .ref (ad 921)), (1, .ref (ad 0)), (0, .ref b)]) [0, 1, 2, 3, 4] rfl ?_
  refine z_widen (k2 := k + 16) (n2 := n + 2150) (show k + 0 + 0 ≤ k + 16 by omega) (show n + 0 + 0 ≤ n + 2150 by omega) ?_
  exact hK _ _ _ _ hN ⟨_, _, _, _, _, _, _, _, _, _, _, _, _, _, _, _, _, _, _, _, _, _, _, _, (hR1.o951 (fun j hj => hG2 j (by omega))), hM2, (hJ.keep hF2)⟩ ((hG2 951 (by omega)).trans hq1)

set_option maxRecDepth 100000 in
set_option maxHeartbeats 4000000 in
theorem law_c13 {p : Program} {l : Launch} {e : Env} {s : State} {m : MethodId} {below : List Frame} {meth : Method} {c : Code} {D : va_G} {A : Nat → Prop} {cs : Nat → ClassId} {tt : Nat} {b L : Nat} {xs : Nat → Int32} {N : Nat} {ad : Nat → Nat} {g : Nat → va_E} {k n : Nat} {x z : Int} {q : Nat → Int} {w1 w2 w3 w4 w5 : Int} (hl0 : l.stackTraces = false) (C : zC p s m #[Value.ref b] c cL_law 7 RL D A cs tt) (hr : meth.sig.returnType = ret) (hlk : meth.locks = false) (hA : ∀ q, A q → s.heap.size ≤ q) (hX : va_X b L xs s s.heap) (hbl : b < s.heap.size) (hbA : ¬ A b) (hL : L ≤ 3072) (hN : 952 ≤ N) (hJI : JI cs ad g N x) (hq : g 951 = jA cs 1 q) (hx : 0 ≤ x ∧ x ≤ 511) (hz : z = 6 * x) (hzL : z + 6 ≤ (L : Int)) (hk : k ≤ 590000) (hn : n ≤ 7000000) (hw1r : -2147483648 ≤ w1 ∧ w1 ≤ 2147483647) (hw1 : xs (z + 1).toNat = zI w1) (hw2r : -2147483648 ≤ w2 ∧ w2 ≤ 2147483647) (hw2 : xs (z + 2).toNat = zI w2) (hw3r : -2147483648 ≤ w3 ∧ w3 ≤ 2147483647) (hw3 : xs (z + 3).toNat = zI w3) (hw4r : -2147483648 ≤ w4 ∧ w4 ≤ 2147483647) (hw4 : xs (z + 4).toNat = zI w4) (hw5r : -2147483648 ≤ w5 ∧ w5 ≤ 2147483647) (hw5 : xs (z + 5).toNat = zI w5) (hK : ∀ (N' : Nat) (ad' : Nat → Nat) (g' : Nat → va_E) (q' : Nat → Int), 952 ≤ N' → JI cs ad' g' N' (x + 1) → g' 951 = jA cs 1 q' → zV p l e room_1 s m #[Value.ref b] below meth c (lw_Z below #[Value.ref b] s) D A 7 (N') ad' g' (k + 16) (n + 2150) 1376 [(4, .int (zI (z))), (3, .ref (ad' 951)), (2, .ref (ad' 921)), (1, .ref (ad' 0)), (0, .ref b)] []) : zV p l e room_1 s m #[Value.ref b] below meth c (lw_Z below #[Value.ref b] s) D A 7 (N) ad g (k) (n) 691 [(4, .int (zI (z))), (3, .ref (ad 951)), (2, .ref (ad 921)), (1, .ref (ad 0)), (0, .ref b)] [] := by
  have hay1 : zAt ad (0) (ad 0) := rfl
  have hay2 : zAt ad (921) (ad 921) := rfl
  have hay3 : zAt ad (951) (ad 951) := rfl
  obtain ⟨t, fp, im, nz, kz, sl, ho, ua, st, op, ai, fa, mu, tb, tp, F, r, sR, oR, aR, fR, mR, bR, pR, hR, hM, hJ⟩ := hJI
  have ht9 := hR.2.1
  have hi9 := hR.2.2.1
  obtain ⟨j23, j24, j21, j17, j20, j13, j14⟩ := id hJ.1
  refine z_aload_n C 3 dL_law_691 rfl ?_
  refine z_cV (As := []) (rest := []) (ci := 11) C (c_X9_undo l D A cs tt N ad _ hN _ _ _ _ _ _ _ _ _ _ _ _ _ _ _ hR ) (by omega) hay1 hR.1 rfl rfl mv_yX9_undo q_607 hd_yX9_undo (by decide) (Nat.le_of_ble_eq_true rfl) ⟨show k + 0 ≤ 601024 by omega, show n + 0 ≤ 7293034 by omega⟩ dL_law_692 rfl (kI0 fun rx gx hx9 => ?_)
  obtain ⟨hrx, hR0, hG1⟩ := hx9
  have hR1 := hR0
  have hM1 : okMr cs ad gx 921 x F r sR oR aR fR mR bR pR := hM.grow (fun _ _ _ => rfl) (fun j a b => hG1 j (by omega) (by omega))
  have hq1 : gx 951 = jA cs 1 q := (hG1 951 (by omega) (by omega)).trans hq
  refine z_pop C dL_law_695 rfl ?_
  refine z_aload_n C 2 dL_law_696 rfl ?_
  refine z_cV (As := []) (rest := []) (ci := 12) C (c_X10_undo l D A cs tt N ad _ 921 (by omega) x (by omega) F r hM1 ) (by omega) hay2 hM1.1 rfl rfl mv_yX10_undo q_1976 hd_yX10_undo (by decide) (Nat.le_of_ble_eq_true rfl) ⟨show k + 0 + 0 ≤ 601024 by omega, show n + 0 + 0 ≤ 7293034 by omega⟩ dL_law_697 rfl (kI0 fun ry gy hy => ?_)
  obtain ⟨hry, ⟨F2, r2, hM2, hF2⟩, hG2⟩ := hy
  refine z_pop C dL_law_700 rfl ?_
  refine z_goto (tgt := 1376) C dL_law_701 (by decide) ?_
  refine z_lv (lv' := [(4, .int (zI (z))), (3, .ref (ad 951)), (2, .ref (ad 921)), (1, .ref (ad 0)), (0, .ref b)]) [0, 1, 2, 3, 4] rfl ?_
  refine z_widen (k2 := k + 16) (n2 := n + 2150) (show k + 0 + 0 ≤ k + 16 by omega) (show n + 0 + 0 ≤ n + 2150 by omega) ?_
  exact hK _ _ _ _ hN ⟨_, _, _, _, _, _, _, _, _, _, _, _, _, _, _, _, _, _, _, _, _, _, _, _, (hR1.o951 (fun j hj => hG2 j (by omega))), hM2, (hJ.keep hF2)⟩ ((hG2 951 (by omega)).trans hq1)

set_option maxRecDepth 100000 in
set_option maxHeartbeats 4000000 in
theorem law_c25 {p : Program} {l : Launch} {e : Env} {s : State} {m : MethodId} {below : List Frame} {meth : Method} {c : Code} {D : va_G} {A : Nat → Prop} {cs : Nat → ClassId} {tt : Nat} {b L : Nat} {xs : Nat → Int32} {N : Nat} {ad : Nat → Nat} {g : Nat → va_E} {k n : Nat} {x z : Int} {q : Nat → Int} {w1 w2 w3 w4 w5 : Int} (hl0 : l.stackTraces = false) (C : zC p s m #[Value.ref b] c cL_law 7 RL D A cs tt) (hr : meth.sig.returnType = ret) (hlk : meth.locks = false) (hA : ∀ q, A q → s.heap.size ≤ q) (hX : va_X b L xs s s.heap) (hbl : b < s.heap.size) (hbA : ¬ A b) (hL : L ≤ 3072) (hN : 952 ≤ N) (hJI : JI cs ad g N x) (hq : g 951 = jA cs 1 q) (hx : 0 ≤ x ∧ x ≤ 511) (hz : z = 6 * x) (hzL : z + 6 ≤ (L : Int)) (hk : k ≤ 590000) (hn : n ≤ 7000000) (hw1r : -2147483648 ≤ w1 ∧ w1 ≤ 2147483647) (hw1 : xs (z + 1).toNat = zI w1) (hw2r : -2147483648 ≤ w2 ∧ w2 ≤ 2147483647) (hw2 : xs (z + 2).toNat = zI w2) (hw3r : -2147483648 ≤ w3 ∧ w3 ≤ 2147483647) (hw3 : xs (z + 3).toNat = zI w3) (hw4r : -2147483648 ≤ w4 ∧ w4 ≤ 2147483647) (hw4 : xs (z + 4).toNat = zI w4) (hw5r : -2147483648 ≤ w5 ∧ w5 ≤ 2147483647) (hw5 : xs (z + 5).toNat = zI w5) (hK : ∀ (N' : Nat) (ad' : Nat → Nat) (g' : Nat → va_E) (q' : Nat → Int), 952 ≤ N' → JI cs ad' g' N' (x + 1) → g' 951 = jA cs 1 q' → zV p l e room_1 s m #[Value.ref b] below meth c (lw_Z below #[Value.ref b] s) D A 7 (N') ad' g' (k + 16) (n + 2150) 1376 [(4, .int (zI (z))), (3, .ref (ad' 951)), (2, .ref (ad' 921)), (1, .ref (ad' 0)), (0, .ref b)] []) : zV p l e room_1 s m #[Value.ref b] below meth c (lw_Z below #[Value.ref b] s) D A 7 (N) ad g (k) (n) 1132 [(4, .int (zI (z))), (3, .ref (ad 951)), (2, .ref (ad 921)), (1, .ref (ad 0)), (0, .ref b)] [] := by
  have hay1 : zAt ad (0) (ad 0) := rfl
  have hay2 : zAt ad (921) (ad 921) := rfl
  have hay3 : zAt ad (951) (ad 951) := rfl
  obtain ⟨t, fp, im, nz, kz, sl, ho, ua, st, op, ai, fa, mu, tb, tp, F, r, sR, oR, aR, fR, mR, bR, pR, hR, hM, hJ⟩ := hJI
  have ht9 := hR.2.1
  have hi9 := hR.2.2.1
  obtain ⟨j23, j24, j21, j17, j20, j13, j14⟩ := id hJ.1
  refine z_aload_n C 3 dL_law_1132 rfl ?_
  refine z_aload_n C 4 dL_law_1133 rfl ?_
  refine z_iload C 0 dL_law_1134 rfl ?_
  refine z_iconst (z := 1) C dL_law_1136 rfl ?_
  refine z_iadd C dL_law_1137 ?_
  refine z_sld C hX hbl hbA (z + 1).toNat (by omega) (by omega) (by omega) hw1 dL_law_1138 ?_
  refine z_aload_n C 4 dL_law_1139 rfl ?_
  refine z_iload C 0 dL_law_1140 rfl ?_
  refine z_iconst (z := 2) C dL_law_1142 rfl ?_
  refine z_iadd C dL_law_1143 ?_
  refine z_sld C hX hbl hbA (z + 2).toNat (by omega) (by omega) (by omega) hw2 dL_law_1144 ?_
  refine z_aload_n C 4 dL_law_1145 rfl ?_
  refine z_iload C 0 dL_law_1146 rfl ?_
  refine z_iconst (z := 3) C dL_law_1148 rfl ?_
  refine z_iadd C dL_law_1149 ?_
  refine z_sld C hX hbl hbA (z + 3).toNat (by omega) (by omega) (by omega) hw3 dL_law_1150 ?_
  refine z_cV (As := [.int (zI (w1)), .int (zI (w2)), .int (zI (w3))]) (rest := []) (ci := 11) C (c_X9_note l D A cs tt N ad _ hN _ _ _ _ _ _ _ _ _ _ _ _ _ _ _ hR w1 hw1r w2 hw2r w3 hw3r) (by omega) hay1 hR.1 rfl rfl mv_yX9_note q_615 hd_yX9_note (by decide) (Nat.le_of_ble_eq_true rfl) ⟨show k + 0 ≤ 601024 by omega, show n + 0 ≤ 7293034 by omega⟩ dL_law_1151 rfl (kI0 fun rx gx hx9 => ?_)
  obtain ⟨hrx, ⟨nz1, hc1, hR0⟩, hG1⟩ := hx9
  have hR1 := hR0
  have hM1 : okMr cs ad gx 921 x F r sR oR aR fR mR bR pR := hM.grow (fun _ _ _ => rfl) (fun j a b => hG1 j (by omega) (by omega))
  have hq1 : gx 951 = jA cs 1 q := (hG1 951 (by omega) (by omega)).trans hq
  refine z_pop C dL_law_1154 rfl ?_
  refine z_aload_n C 2 dL_law_1155 rfl ?_
  refine z_aload_n C 4 dL_law_1156 rfl ?_
  refine z_iload C 0 dL_law_1157 rfl ?_
  refine z_iconst (z := 1) C dL_law_1159 rfl ?_
  refine z_iadd C dL_law_1160 ?_
  refine z_sld C hX hbl hbA (z + 1).toNat (by omega) (by omega) (by omega) hw1 dL_law_1161 ?_
  refine z_aload_n C 4 dL_law_1162 rfl ?_
  refine z_iload C 0 dL_law_1163 rfl ?_
  refine z_iconst (z := 2) C dL_law_1165 rfl ?_
  refine z_iadd C dL_law_1166 ?_
  refine z_sld C hX hbl hbA (z + 2).toNat (by omega) (by omega) (by omega) hw2 dL_law_1167 ?_
  refine z_aload_n C 4 dL_law_1168 rfl ?_
  refine z_iload C 0 dL_law_1169 rfl ?_
  refine z_iconst (z := 3) C dL_law_1171 rfl ?_
  refine z_iadd C dL_law_1172 ?_
  refine z_sld C hX hbl hbA (z + 3).toNat (by omega) (by omega) (by omega) hw3 dL_law_1173 ?_
  refine z_cV (As := [.int (zI (w1)), .int (zI (w2)), .int (zI (w3))]) (rest := []) (ci := 12) C (c_X10_note l D A cs tt N ad _ 921 (by omega) x (by omega) F r hM1 w1 hw1r w2 hw2r w3 hw3r) (by omega) hay2 hM1.1 rfl rfl mv_yX10_note q_2067 hd_yX10_note (by decide) (Nat.le_of_ble_eq_true rfl) ⟨show k + 0 + 0 ≤ 601024 by omega, show n + 0 + 0 ≤ 7293034 by omega⟩ dL_law_1174 rfl (kI0 fun ry gy hy => ?_)
  obtain ⟨⟨F2, r2, hM2, hq2, hF2⟩, hG2⟩ := hy
  have h17 : 0 ≤ F 17 ∧ F 17 ≤ 8 := hM.2.1.2.2.2.1
  have hJ2 := hJ.notes (nz' := nz1) hF2 (by omega)
  refine z_pop C dL_law_1177 rfl ?_
  refine z_goto (tgt := 1376) C dL_law_1178 (by decide) ?_
  refine z_lv (lv' := [(4, .int (zI (z))), (3, .ref (ad 951)), (2, .ref (ad 921)), (1, .ref (ad 0)), (0, .ref b)]) [0, 1, 2, 3, 4] rfl ?_
  refine z_widen (k2 := k + 16) (n2 := n + 2150) (show k + 0 + 0 ≤ k + 16 by omega) (show n + 0 + 0 ≤ n + 2150 by omega) ?_
  exact hK _ _ _ _ hN ⟨_, _, _, _, _, _, _, _, _, _, _, _, _, _, _, _, _, _, _, _, _, _, _, _, (hR1.o951 (fun j hj => hG2 j (by omega))), hM2, hJ2⟩ ((hG2 951 (by omega)).trans hq1)

set_option maxRecDepth 100000 in
set_option maxHeartbeats 4000000 in
theorem law_c32 {p : Program} {l : Launch} {e : Env} {s : State} {m : MethodId} {below : List Frame} {meth : Method} {c : Code} {D : va_G} {A : Nat → Prop} {cs : Nat → ClassId} {tt : Nat} {b L : Nat} {xs : Nat → Int32} {N : Nat} {ad : Nat → Nat} {g : Nat → va_E} {k n : Nat} {x z : Int} {q : Nat → Int} {w1 w2 w3 w4 w5 : Int} (hl0 : l.stackTraces = false) (C : zC p s m #[Value.ref b] c cL_law 7 RL D A cs tt) (hr : meth.sig.returnType = ret) (hlk : meth.locks = false) (hA : ∀ q, A q → s.heap.size ≤ q) (hX : va_X b L xs s s.heap) (hbl : b < s.heap.size) (hbA : ¬ A b) (hL : L ≤ 3072) (hN : 952 ≤ N) (hJI : JI cs ad g N x) (hq : g 951 = jA cs 1 q) (hx : 0 ≤ x ∧ x ≤ 511) (hz : z = 6 * x) (hzL : z + 6 ≤ (L : Int)) (hk : k ≤ 590000) (hn : n ≤ 7000000) (hw1r : -2147483648 ≤ w1 ∧ w1 ≤ 2147483647) (hw1 : xs (z + 1).toNat = zI w1) (hw2r : -2147483648 ≤ w2 ∧ w2 ≤ 2147483647) (hw2 : xs (z + 2).toNat = zI w2) (hw3r : -2147483648 ≤ w3 ∧ w3 ≤ 2147483647) (hw3 : xs (z + 3).toNat = zI w3) (hw4r : -2147483648 ≤ w4 ∧ w4 ≤ 2147483647) (hw4 : xs (z + 4).toNat = zI w4) (hw5r : -2147483648 ≤ w5 ∧ w5 ≤ 2147483647) (hw5 : xs (z + 5).toNat = zI w5) (hK : ∀ (N' : Nat) (ad' : Nat → Nat) (g' : Nat → va_E) (q' : Nat → Int), 952 ≤ N' → JI cs ad' g' N' (x + 1) → g' 951 = jA cs 1 q' → zV p l e room_1 s m #[Value.ref b] below meth c (lw_Z below #[Value.ref b] s) D A 7 (N') ad' g' (k + 16) (n + 2150) 1376 [(4, .int (zI (z))), (3, .ref (ad' 951)), (2, .ref (ad' 921)), (1, .ref (ad' 0)), (0, .ref b)] []) : zV p l e room_1 s m #[Value.ref b] below meth c (lw_Z below #[Value.ref b] s) D A 7 (N) ad g (k) (n) 1363 [(4, .int (zI (z))), (3, .ref (ad 951)), (2, .ref (ad 921)), (1, .ref (ad 0)), (0, .ref b)] [] := by
  have hay1 : zAt ad (0) (ad 0) := rfl
  have hay2 : zAt ad (921) (ad 921) := rfl
  have hay3 : zAt ad (951) (ad 951) := rfl
  obtain ⟨t, fp, im, nz, kz, sl, ho, ua, st, op, ai, fa, mu, tb, tp, F, r, sR, oR, aR, fR, mR, bR, pR, hR, hM, hJ⟩ := hJI
  have ht9 := hR.2.1
  have hi9 := hR.2.2.1
  obtain ⟨j23, j24, j21, j17, j20, j13, j14⟩ := id hJ.1
  refine z_aload_n C 3 dL_law_1363 rfl ?_
  refine z_cV (As := []) (rest := []) (ci := 11) C (c_X9_restore l D A cs tt N ad _ hN _ _ _ _ _ _ _ _ _ _ _ _ _ _ _ hR ) (by omega) hay1 hR.1 rfl rfl mv_yX9_restore q_646 hd_yX9_restore (by decide) (Nat.le_of_ble_eq_true rfl) ⟨show k + 0 ≤ 601024 by omega, show n + 0 ≤ 7293034 by omega⟩ dL_law_1364 rfl (kI0 fun rx gx hx9 => ?_)
  obtain ⟨hrx, ⟨nz1, hc1, hR0⟩, hG1⟩ := hx9
  have hR1 := hR0
  have hM1 : okMr cs ad gx 921 x F r sR oR aR fR mR bR pR := hM.grow (fun _ _ _ => rfl) (fun j a b => hG1 j (by omega) (by omega))
  have hq1 : gx 951 = jA cs 1 q := (hG1 951 (by omega) (by omega)).trans hq
  refine z_pop C dL_law_1367 rfl ?_
  refine z_aload_n C 2 dL_law_1368 rfl ?_
  refine z_cV (As := []) (rest := []) (ci := 12) C (c_X10_restore l D A cs tt N ad _ 921 (by omega) x (by omega) F r hM1 ) (by omega) hay2 hM1.1 rfl rfl mv_yX10_restore q_2116 hd_yX10_restore (by decide) (Nat.le_of_ble_eq_true rfl) ⟨show k + 0 + 0 ≤ 601024 by omega, show n + 0 + 0 ≤ 7293034 by omega⟩ dL_law_1369 rfl (kI0 fun ry gy hy => ?_)
  obtain ⟨hry, ⟨F2, r2, hM2, hq2, hF2⟩, hG2⟩ := hy
  have hJ2 := hJ.notes (nz' := nz1) hF2 (by have h20 := j20; omega)
  refine z_pop C dL_law_1372 rfl ?_
  refine z_goto (tgt := 1376) C dL_law_1373 (by decide) ?_
  refine z_lv (lv' := [(4, .int (zI (z))), (3, .ref (ad 951)), (2, .ref (ad 921)), (1, .ref (ad 0)), (0, .ref b)]) [0, 1, 2, 3, 4] rfl ?_
  refine z_widen (k2 := k + 16) (n2 := n + 2150) (show k + 0 + 0 ≤ k + 16 by omega) (show n + 0 + 0 ≤ n + 2150 by omega) ?_
  exact hK _ _ _ _ hN ⟨_, _, _, _, _, _, _, _, _, _, _, _, _, _, _, _, _, _, _, _, _, _, _, _, (hR1.o951 (fun j hj => hG2 j (by omega))), hM2, hJ2⟩ ((hG2 951 (by omega)).trans hq1)

set_option maxRecDepth 100000 in
set_option maxHeartbeats 4000000 in
theorem law_c28 {p : Program} {l : Launch} {e : Env} {s : State} {m : MethodId} {below : List Frame} {meth : Method} {c : Code} {D : va_G} {A : Nat → Prop} {cs : Nat → ClassId} {tt : Nat} {b L : Nat} {xs : Nat → Int32} {N : Nat} {ad : Nat → Nat} {g : Nat → va_E} {k n : Nat} {x z : Int} {q : Nat → Int} {w1 w2 w3 w4 w5 : Int} (hl0 : l.stackTraces = false) (C : zC p s m #[Value.ref b] c cL_law 7 RL D A cs tt) (hr : meth.sig.returnType = ret) (hlk : meth.locks = false) (hA : ∀ q, A q → s.heap.size ≤ q) (hX : va_X b L xs s s.heap) (hbl : b < s.heap.size) (hbA : ¬ A b) (hL : L ≤ 3072) (hN : 952 ≤ N) (hJI : JI cs ad g N x) (hq : g 951 = jA cs 1 q) (hx : 0 ≤ x ∧ x ≤ 511) (hz : z = 6 * x) (hzL : z + 6 ≤ (L : Int)) (hk : k ≤ 590000) (hn : n ≤ 7000000) (hw1r : -2147483648 ≤ w1 ∧ w1 ≤ 2147483647) (hw1 : xs (z + 1).toNat = zI w1) (hw2r : -2147483648 ≤ w2 ∧ w2 ≤ 2147483647) (hw2 : xs (z + 2).toNat = zI w2) (hw3r : -2147483648 ≤ w3 ∧ w3 ≤ 2147483647) (hw3 : xs (z + 3).toNat = zI w3) (hw4r : -2147483648 ≤ w4 ∧ w4 ≤ 2147483647) (hw4 : xs (z + 4).toNat = zI w4) (hw5r : -2147483648 ≤ w5 ∧ w5 ≤ 2147483647) (hw5 : xs (z + 5).toNat = zI w5) (hK : ∀ (N' : Nat) (ad' : Nat → Nat) (g' : Nat → va_E) (q' : Nat → Int), 952 ≤ N' → JI cs ad' g' N' (x + 1) → g' 951 = jA cs 1 q' → zV p l e room_1 s m #[Value.ref b] below meth c (lw_Z below #[Value.ref b] s) D A 7 (N') ad' g' (k + 16) (n + 2150) 1376 [(4, .int (zI (z))), (3, .ref (ad' 951)), (2, .ref (ad' 921)), (1, .ref (ad' 0)), (0, .ref b)] []) : zV p l e room_1 s m #[Value.ref b] below meth c (lw_Z below #[Value.ref b] s) D A 7 (N) ad g (k) (n) 1237 [(4, .int (zI (z))), (3, .ref (ad 951)), (2, .ref (ad 921)), (1, .ref (ad 0)), (0, .ref b)] [] := by
  have hay1 : zAt ad (0) (ad 0) := rfl
  have hay2 : zAt ad (921) (ad 921) := rfl
  have hay3 : zAt ad (951) (ad 951) := rfl
  obtain ⟨t, fp, im, nz, kz, sl, ho, ua, st, op, ai, fa, mu, tb, tp, F, r, sR, oR, aR, fR, mR, bR, pR, hR, hM, hJ⟩ := hJI
  have ht9 := hR.2.1
  have hi9 := hR.2.2.1
  obtain ⟨j23, j24, j21, j17, j20, j13, j14⟩ := id hJ.1
  refine z_aload_n C 3 dL_law_1237 rfl ?_
  refine z_cV (As := []) (rest := []) (ci := 11) C (c_X9_forget l D A cs tt N ad _ hN _ _ _ _ _ _ _ _ _ _ _ _ _ _ _ hR ) (by omega) hay1 hR.1 rfl rfl mv_yX9_forget q_623 hd_yX9_forget (by decide) (Nat.le_of_ble_eq_true rfl) ⟨show k + 0 ≤ 601024 by omega, show n + 0 ≤ 7293034 by omega⟩ dL_law_1238 rfl (kV0 fun gx hx9 => ?_)
  obtain ⟨⟨nz1, hc1, hR0⟩, hG1⟩ := hx9
  have hR1 := hR0
  have hM1 : okMr cs ad gx 921 x F r sR oR aR fR mR bR pR := hM.grow (fun _ _ _ => rfl) (fun j a b => hG1 j (by omega) (by omega))
  have hq1 : gx 951 = jA cs 1 q := (hG1 951 (by omega) (by omega)).trans hq
  refine z_aload_n C 2 dL_law_1241 rfl ?_
  refine z_cV (As := []) (rest := []) (ci := 12) C (c_X10_forget l D A cs tt N ad _ 921 (by omega) x (by omega) F r hM1 ) (by omega) hay2 hM1.1 rfl rfl mv_yX10_forget q_2091 hd_yX10_forget (by decide) (Nat.le_of_ble_eq_true rfl) ⟨show k + 0 + 0 ≤ 601024 by omega, show n + 0 + 0 ≤ 7293034 by omega⟩ dL_law_1242 rfl (kV0 fun gy hy => ?_)
  obtain ⟨⟨F2, r2, hM2, hF2⟩, hG2⟩ := hy
  obtain ⟨c13, c14, c17, c20, c21, c23, c24⟩ := id hF2
  have hJ2 := hJ.notes (nz' := nz1) (F' := F2) (by omega) (by omega)
  refine z_goto (tgt := 1376) C dL_law_1245 (by decide) ?_
  refine z_lv (lv' := [(4, .int (zI (z))), (3, .ref (ad 951)), (2, .ref (ad 921)), (1, .ref (ad 0)), (0, .ref b)]) [0, 1, 2, 3, 4] rfl ?_
  refine z_widen (k2 := k + 16) (n2 := n + 2150) (show k + 0 + 0 ≤ k + 16 by omega) (show n + 0 + 0 ≤ n + 2150 by omega) ?_
  exact hK _ _ _ _ hN ⟨_, _, _, _, _, _, _, _, _, _, _, _, _, _, _, _, _, _, _, _, _, _, _, _, (hR1.o951 (fun j hj => hG2 j (by omega))), hM2, hJ2⟩ ((hG2 951 (by omega)).trans hq1)

set_option maxRecDepth 100000 in
set_option maxHeartbeats 4000000 in
theorem law_c31 {p : Program} {l : Launch} {e : Env} {s : State} {m : MethodId} {below : List Frame} {meth : Method} {c : Code} {D : va_G} {A : Nat → Prop} {cs : Nat → ClassId} {tt : Nat} {b L : Nat} {xs : Nat → Int32} {N : Nat} {ad : Nat → Nat} {g : Nat → va_E} {k n : Nat} {x z : Int} {q : Nat → Int} {w1 w2 w3 w4 w5 : Int} (hl0 : l.stackTraces = false) (C : zC p s m #[Value.ref b] c cL_law 7 RL D A cs tt) (hr : meth.sig.returnType = ret) (hlk : meth.locks = false) (hA : ∀ q, A q → s.heap.size ≤ q) (hX : va_X b L xs s s.heap) (hbl : b < s.heap.size) (hbA : ¬ A b) (hL : L ≤ 3072) (hN : 952 ≤ N) (hJI : JI cs ad g N x) (hq : g 951 = jA cs 1 q) (hx : 0 ≤ x ∧ x ≤ 511) (hz : z = 6 * x) (hzL : z + 6 ≤ (L : Int)) (hk : k ≤ 590000) (hn : n ≤ 7000000) (hw1r : -2147483648 ≤ w1 ∧ w1 ≤ 2147483647) (hw1 : xs (z + 1).toNat = zI w1) (hw2r : -2147483648 ≤ w2 ∧ w2 ≤ 2147483647) (hw2 : xs (z + 2).toNat = zI w2) (hw3r : -2147483648 ≤ w3 ∧ w3 ≤ 2147483647) (hw3 : xs (z + 3).toNat = zI w3) (hw4r : -2147483648 ≤ w4 ∧ w4 ≤ 2147483647) (hw4 : xs (z + 4).toNat = zI w4) (hw5r : -2147483648 ≤ w5 ∧ w5 ≤ 2147483647) (hw5 : xs (z + 5).toNat = zI w5) (hK : ∀ (N' : Nat) (ad' : Nat → Nat) (g' : Nat → va_E) (q' : Nat → Int), 952 ≤ N' → JI cs ad' g' N' (x + 1) → g' 951 = jA cs 1 q' → zV p l e room_1 s m #[Value.ref b] below meth c (lw_Z below #[Value.ref b] s) D A 7 (N') ad' g' (k + 16) (n + 2150) 1376 [(4, .int (zI (z))), (3, .ref (ad' 951)), (2, .ref (ad' 921)), (1, .ref (ad' 0)), (0, .ref b)] []) : zV p l e room_1 s m #[Value.ref b] below meth c (lw_Z below #[Value.ref b] s) D A 7 (N) ad g (k) (n) 1352 [(4, .int (zI (z))), (3, .ref (ad 951)), (2, .ref (ad 921)), (1, .ref (ad 0)), (0, .ref b)] [] := by
  have hay1 : zAt ad (0) (ad 0) := rfl
  have hay2 : zAt ad (921) (ad 921) := rfl
  have hay3 : zAt ad (951) (ad 951) := rfl
  obtain ⟨t, fp, im, nz, kz, sl, ho, ua, st, op, ai, fa, mu, tb, tp, F, r, sR, oR, aR, fR, mR, bR, pR, hR, hM, hJ⟩ := hJI
  have ht9 := hR.2.1
  have hi9 := hR.2.2.1
  obtain ⟨j23, j24, j21, j17, j20, j13, j14⟩ := id hJ.1
  refine z_aload_n C 3 dL_law_1352 rfl ?_
  refine z_cV (As := []) (rest := []) (ci := 11) C (c_X9_image l D A cs tt N ad _ hN _ _ _ _ _ _ _ _ _ _ _ _ _ _ _ hR ) (by omega) hay1 hR.1 rfl rfl mv_yX9_image q_627 hd_yX9_image (by decide) (Nat.le_of_ble_eq_true rfl) ⟨show k + 0 ≤ 601024 by omega, show n + 0 ≤ 7293034 by omega⟩ dL_law_1353 rfl (kV0 fun gx hx9 => ?_)
  obtain ⟨⟨im1, kz1, hc1, hR0⟩, hG1⟩ := hx9
  have hR1 := hR0
  have hM1 : okMr cs ad gx 921 x F r sR oR aR fR mR bR pR := hM.grow (fun _ _ _ => rfl) (fun j a b => hG1 j (by omega) (by omega))
  have hq1 : gx 951 = jA cs 1 q := (hG1 951 (by omega) (by omega)).trans hq
  refine z_aload_n C 2 dL_law_1356 rfl ?_
  refine z_cV (As := []) (rest := []) (ci := 12) C (c_X10_image l D A cs tt N ad _ 921 (by omega) x (by omega) F r hM1 ) (by omega) hay2 hM1.1 rfl rfl mv_yX10_image q_2112 hd_yX10_image (by decide) (Nat.le_of_ble_eq_true rfl) ⟨show k + 0 + 0 ≤ 601024 by omega, show n + 0 + 0 ≤ 7293034 by omega⟩ dL_law_1357 rfl (kV0 fun gy hy => ?_)
  obtain ⟨⟨F2, r2, hM2, hF2⟩, hG2⟩ := hy
  have hJ2 := hJ.image hF2 hc1
  refine z_goto (tgt := 1376) C dL_law_1360 (by decide) ?_
  refine z_lv (lv' := [(4, .int (zI (z))), (3, .ref (ad 951)), (2, .ref (ad 921)), (1, .ref (ad 0)), (0, .ref b)]) [0, 1, 2, 3, 4] rfl ?_
  refine z_widen (k2 := k + 16) (n2 := n + 2150) (show k + 0 + 0 ≤ k + 16 by omega) (show n + 0 + 0 ≤ n + 2150 by omega) ?_
  exact hK _ _ _ _ hN ⟨_, _, _, _, _, _, _, _, _, _, _, _, _, _, _, _, _, _, _, _, _, _, _, _, (hR1.o951 (fun j hj => hG2 j (by omega))), hM2, hJ2⟩ ((hG2 951 (by omega)).trans hq1)

set_option maxRecDepth 100000 in
set_option maxHeartbeats 4000000 in
theorem law_c1 {p : Program} {l : Launch} {e : Env} {s : State} {m : MethodId} {below : List Frame} {meth : Method} {c : Code} {D : va_G} {A : Nat → Prop} {cs : Nat → ClassId} {tt : Nat} {b L : Nat} {xs : Nat → Int32} {N : Nat} {ad : Nat → Nat} {g : Nat → va_E} {k n : Nat} {x z : Int} {q : Nat → Int} {w1 w2 w3 w4 w5 : Int} (hl0 : l.stackTraces = false) (C : zC p s m #[Value.ref b] c cL_law 7 RL D A cs tt) (hr : meth.sig.returnType = ret) (hlk : meth.locks = false) (hA : ∀ q, A q → s.heap.size ≤ q) (hX : va_X b L xs s s.heap) (hbl : b < s.heap.size) (hbA : ¬ A b) (hL : L ≤ 3072) (hN : 952 ≤ N) (hJI : JI cs ad g N x) (hq : g 951 = jA cs 1 q) (hx : 0 ≤ x ∧ x ≤ 511) (hz : z = 6 * x) (hzL : z + 6 ≤ (L : Int)) (hk : k ≤ 590000) (hn : n ≤ 7000000) (hw1r : -2147483648 ≤ w1 ∧ w1 ≤ 2147483647) (hw1 : xs (z + 1).toNat = zI w1) (hw2r : -2147483648 ≤ w2 ∧ w2 ≤ 2147483647) (hw2 : xs (z + 2).toNat = zI w2) (hw3r : -2147483648 ≤ w3 ∧ w3 ≤ 2147483647) (hw3 : xs (z + 3).toNat = zI w3) (hw4r : -2147483648 ≤ w4 ∧ w4 ≤ 2147483647) (hw4 : xs (z + 4).toNat = zI w4) (hw5r : -2147483648 ≤ w5 ∧ w5 ≤ 2147483647) (hw5 : xs (z + 5).toNat = zI w5) (hK : ∀ (N' : Nat) (ad' : Nat → Nat) (g' : Nat → va_E) (q' : Nat → Int), 952 ≤ N' → JI cs ad' g' N' (x + 1) → g' 951 = jA cs 1 q' → zV p l e room_1 s m #[Value.ref b] below meth c (lw_Z below #[Value.ref b] s) D A 7 (N') ad' g' (k + 16) (n + 2150) 1376 [(4, .int (zI (z))), (3, .ref (ad' 951)), (2, .ref (ad' 921)), (1, .ref (ad' 0)), (0, .ref b)] []) : zV p l e room_1 s m #[Value.ref b] below meth c (lw_Z below #[Value.ref b] s) D A 7 (N) ad g (k) (n) 261 [(4, .int (zI (z))), (3, .ref (ad 951)), (2, .ref (ad 921)), (1, .ref (ad 0)), (0, .ref b)] [] := by
  have hay1 : zAt ad (0) (ad 0) := rfl
  have hay2 : zAt ad (921) (ad 921) := rfl
  have hay3 : zAt ad (951) (ad 951) := rfl
  obtain ⟨t, fp, im, nz, kz, sl, ho, ua, st, op, ai, fa, mu, tb, tp, F, r, sR, oR, aR, fR, mR, bR, pR, hR, hM, hJ⟩ := hJI
  have ht9 := hR.2.1
  obtain ⟨j23, j24, j21, j17, j20, j13, j14⟩ := id hJ.1
  refine z_aload_n C 3 dL_law_261 rfl ?_
  refine z_aload_n C 4 dL_law_262 rfl ?_
  refine z_iload C 0 dL_law_263 rfl ?_
  refine z_iconst (z := 1) C dL_law_265 rfl ?_
  refine z_iadd C dL_law_266 ?_
  refine z_sld C hX hbl hbA (z + 1).toNat (by omega) (by omega) (by omega) hw1 dL_law_267 ?_
  refine z_aload_n C 1 dL_law_268 rfl ?_
  refine z_cSW (As := [.ref (ad 0), .int (zI (w1)), .ref (ad 951)]) (rest := []) C (c_L_snow l D A cs tt N ad _ hN hR hJ.2.1 hl0 q hq w1 hw1r) mW_yL_snow q_650 hd_yL_snow (by decide) (Nat.le_of_ble_eq_true rfl) ⟨show k + 6 ≤ 601024 by omega, show n + 60 ≤ 7293034 by omega⟩ dL_law_269 rfl (kI fun rk N1 ad1 g1 h1 => ?_)
  obtain ⟨⟨hN1, hA1, hG1⟩, h1⟩ := h1
  have hM1 : okMr cs ad1 g1 921 x F r sR oR aR fR mR bR pR := hM.grow (fun j a b => hA1 j (by omega)) (fun j a b => hG1 j (by omega) (by omega))
  have hN2 : 952 ≤ N1 := by omega
  rw [← hA1 0 (by omega), ← hA1 921 (by omega), ← hA1 951 (by omega)]
  have hay4 : zAt ad1 (921) (ad1 921) := rfl
  rcases h1 with ⟨rfl, hc1, hR1, hq1⟩ | ⟨rfl, hc1, r1, hr1, hs1, hq1⟩
  · refine z_istore (lv' := [(5, .int (zI (1))), (4, .int (zI (z))), (3, .ref (ad1 951)), (2, .ref (ad1 921)), (1, .ref (ad1 0)), (0, .ref b)]) C dL_law_272 (by decide) rfl ?_
    refine z_aload_n C 3 dL_law_274 rfl ?_
    refine z_aload_n C 5 dL_law_275 rfl ?_
    refine z_iload C 1 dL_law_276 rfl ?_
    refine z_iconst (z := 1) C dL_law_278 rfl ?_
    refine z_iadd C dL_law_279 ?_
    refine z_sld C hX hbl hbA (z + 1).toNat (by omega) (by omega) (by omega) hw1 dL_law_280 ?_
    refine z_cV (As := [.int (zI (w1))]) (rest := []) (ci := 12) C (c_ySnow0 l D A cs tt N1 ad1 _ 921 (by omega) x (by omega) F r hM1 w1 hw1r (by omega)) (by omega) hay4 hM1.1 rfl rfl mv_yX10_snow q_1648 hd_yX10_snow (by decide) (Nat.le_of_ble_eq_true rfl) ⟨show k + 6 + 0 ≤ 601024 by omega, show n + 60 + 0 ≤ 7293034 by omega⟩ dL_law_281 rfl (kI0 fun ry gy hy => ?_)
    obtain ⟨hry, ⟨F2, r2, hM2, h12, hF2⟩, hG2⟩ := hy
    refine z_istore (lv' := [(6, .int (zI (ry))), (5, .int (zI (1))), (4, .int (zI (z))), (3, .ref (ad1 951)), (2, .ref (ad1 921)), (1, .ref (ad1 0)), (0, .ref b)]) C dL_law_284 (by decide) rfl ?_
    refine z_goto (tgt := 1376) C dL_law_286 (by decide) ?_
    refine z_lv (lv' := [(4, .int (zI (z))), (3, .ref (ad1 951)), (2, .ref (ad1 921)), (1, .ref (ad1 0)), (0, .ref b)]) [2, 3, 4, 5, 6] rfl ?_
    refine z_widen (k2 := k + 16) (n2 := n + 2150) (show k + 6 + 0 ≤ k + 16 by omega) (show n + 60 + 0 ≤ n + 2150 by omega) ?_
    exact hK _ _ _ _ hN2 ⟨_, _, _, _, _, _, _, _, _, _, _, _, _, _, _, _, _, _, _, _, _, _, _, _, (hR1.o951 (fun j hj => hG2 j (by omega))), hM2, (hJ.keep hF2)⟩ ((hG2 951 (by omega)).trans hq1)
  · obtain ⟨st0, op0, ai0, fa0, mu0, L0, k9, pl9, s9, hrun9, hO9⟩ := hs1
    obtain ⟨hu1, hu2⟩ := hJ.un (n := (w1).toNat) (by omega) hM.tape (by omega)
    refine z_istore (lv' := [(5, .int (zI (0))), (4, .int (zI (z))), (3, .ref (ad1 951)), (2, .ref (ad1 921)), (1, .ref (ad1 0)), (0, .ref b)]) C dL_law_272 (by decide) rfl ?_
    refine z_aload_n C 3 dL_law_274 rfl ?_
    refine z_aload_n C 5 dL_law_275 rfl ?_
    refine z_iload C 1 dL_law_276 rfl ?_
    refine z_iconst (z := 1) C dL_law_278 rfl ?_
    refine z_iadd C dL_law_279 ?_
    refine z_sld C hX hbl hbA (z + 1).toNat (by omega) (by omega) (by omega) hw1 dL_law_280 ?_
    refine z_cV (As := [.int (zI (w1))]) (rest := []) (ci := 12) C (c_ySnow1 l D A cs tt N1 ad1 _ 921 (by omega) x (by omega) F r hM1 (unS tp) (w1).toNat hu1 hu2 st0 op0 ai0 fa0 mu0 L0 w1 (by omega) (by omega)) (by omega) hay4 hM1.1 rfl rfl mv_yX10_snow q_1648 hd_yX10_snow (by decide) (Nat.le_of_ble_eq_true rfl) ⟨show k + 6 + 0 ≤ 601024 by omega, show n + 60 + 0 ≤ 7293034 by omega⟩ dL_law_281 rfl (kI0 fun ry gy hy => ?_)
    obtain ⟨hry, ⟨k2, pl2, s2, hrun2, hO2⟩, hG2⟩ := hy
    have hu3 := ps_run_u hrun9 hrun2
    obtain ⟨hu4, rfl⟩ := Prod.mk.inj hu3
    obtain ⟨rfl, rfl⟩ := Prod.mk.inj hu4
    rcases hO9 with ⟨e9, hR1⟩ | ⟨e9, hR1⟩
    · obtain ⟨-, F2, r2, sR2, oR2, aR2, fR2, mR2, bR2, hM2, h12, hF2, hD2⟩ := hO2.resolve_right (fun h9 => h9.1 e9)
      refine z_istore (lv' := [(6, .int (zI (r1))), (5, .int (zI (0))), (4, .int (zI (z))), (3, .ref (ad1 951)), (2, .ref (ad1 921)), (1, .ref (ad1 0)), (0, .ref b)]) C dL_law_284 (by decide) rfl ?_
      refine z_goto (tgt := 1376) C dL_law_286 (by decide) ?_
      refine z_lv (lv' := [(4, .int (zI (z))), (3, .ref (ad1 951)), (2, .ref (ad1 921)), (1, .ref (ad1 0)), (0, .ref b)]) [2, 3, 4, 5, 6] rfl ?_
      refine z_widen (k2 := k + 16) (n2 := n + 2150) (show k + 6 + 0 ≤ k + 16 by omega) (show n + 60 + 0 ≤ n + 2150 by omega) ?_
      exact hK _ _ _ _ hN2 ⟨_, _, _, _, _, _, _, _, _, _, _, _, _, _, _, _, _, _, _, _, _, _, _, _, (hR1.o951 (fun j hj => hG2 j (by omega))), hM2, (hJ.snowO hF2 hD2)⟩ ((hG2 951 (by omega)).trans hq1)
    · obtain ⟨-, F2, r2, hM2, h12, hF2⟩ := hO2.resolve_left (fun h9 => e9 h9.1)
      refine z_istore (lv' := [(6, .int (zI (r1))), (5, .int (zI (0))), (4, .int (zI (z))), (3, .ref (ad1 951)), (2, .ref (ad1 921)), (1, .ref (ad1 0)), (0, .ref b)]) C dL_law_284 (by decide) rfl ?_
      refine z_goto (tgt := 1376) C dL_law_286 (by decide) ?_
      refine z_lv (lv' := [(4, .int (zI (z))), (3, .ref (ad1 951)), (2, .ref (ad1 921)), (1, .ref (ad1 0)), (0, .ref b)]) [2, 3, 4, 5, 6] rfl ?_
      refine z_widen (k2 := k + 16) (n2 := n + 2150) (show k + 6 + 0 ≤ k + 16 by omega) (show n + 60 + 0 ≤ n + 2150 by omega) ?_
      exact hK _ _ _ _ hN2 ⟨_, _, _, _, _, _, _, _, _, _, _, _, _, _, _, _, _, _, _, _, _, _, _, _, (hR1.o951 (fun j hj => hG2 j (by omega))), hM2, (hJ.snowE hF2)⟩ ((hG2 951 (by omega)).trans hq1)

set_option maxRecDepth 100000 in
set_option maxHeartbeats 4000000 in
theorem law_c4 {p : Program} {l : Launch} {e : Env} {s : State} {m : MethodId} {below : List Frame} {meth : Method} {c : Code} {D : va_G} {A : Nat → Prop} {cs : Nat → ClassId} {tt : Nat} {b L : Nat} {xs : Nat → Int32} {N : Nat} {ad : Nat → Nat} {g : Nat → va_E} {k n : Nat} {x z : Int} {q : Nat → Int} {w1 w2 w3 w4 w5 : Int} (hl0 : l.stackTraces = false) (C : zC p s m #[Value.ref b] c cL_law 7 RL D A cs tt) (hr : meth.sig.returnType = ret) (hlk : meth.locks = false) (hA : ∀ q, A q → s.heap.size ≤ q) (hX : va_X b L xs s s.heap) (hbl : b < s.heap.size) (hbA : ¬ A b) (hL : L ≤ 3072) (hN : 952 ≤ N) (hJI : JI cs ad g N x) (hq : g 951 = jA cs 1 q) (hx : 0 ≤ x ∧ x ≤ 511) (hz : z = 6 * x) (hzL : z + 6 ≤ (L : Int)) (hk : k ≤ 590000) (hn : n ≤ 7000000) (hw1r : -2147483648 ≤ w1 ∧ w1 ≤ 2147483647) (hw1 : xs (z + 1).toNat = zI w1) (hw2r : -2147483648 ≤ w2 ∧ w2 ≤ 2147483647) (hw2 : xs (z + 2).toNat = zI w2) (hw3r : -2147483648 ≤ w3 ∧ w3 ≤ 2147483647) (hw3 : xs (z + 3).toNat = zI w3) (hw4r : -2147483648 ≤ w4 ∧ w4 ≤ 2147483647) (hw4 : xs (z + 4).toNat = zI w4) (hw5r : -2147483648 ≤ w5 ∧ w5 ≤ 2147483647) (hw5 : xs (z + 5).toNat = zI w5) (hK : ∀ (N' : Nat) (ad' : Nat → Nat) (g' : Nat → va_E) (q' : Nat → Int), 952 ≤ N' → JI cs ad' g' N' (x + 1) → g' 951 = jA cs 1 q' → zV p l e room_1 s m #[Value.ref b] below meth c (lw_Z below #[Value.ref b] s) D A 7 (N') ad' g' (k + 16) (n + 2150) 1376 [(4, .int (zI (z))), (3, .ref (ad' 951)), (2, .ref (ad' 921)), (1, .ref (ad' 0)), (0, .ref b)] []) : zV p l e room_1 s m #[Value.ref b] below meth c (lw_Z below #[Value.ref b] s) D A 7 (N) ad g (k) (n) 330 [(4, .int (zI (z))), (3, .ref (ad 951)), (2, .ref (ad 921)), (1, .ref (ad 0)), (0, .ref b)] [] := by
  have hay1 : zAt ad (0) (ad 0) := rfl
  have hay2 : zAt ad (921) (ad 921) := rfl
  have hay3 : zAt ad (951) (ad 951) := rfl
  obtain ⟨t, fp, im, nz, kz, sl, ho, ua, st, op, ai, fa, mu, tb, tp, F, r, sR, oR, aR, fR, mR, bR, pR, hR, hM, hJ⟩ := hJI
  obtain ⟨j23, j24, j21, j17, j20, j13, j14⟩ := id hJ.1
  refine z_aload_n C 3 dL_law_330 rfl ?_
  refine z_aload_n C 4 dL_law_331 rfl ?_
  refine z_iload C 0 dL_law_332 rfl ?_
  refine z_iconst (z := 1) C dL_law_334 rfl ?_
  refine z_iadd C dL_law_335 ?_
  refine z_sld C hX hbl hbA (z + 1).toNat (by omega) (by omega) (by omega) hw1 dL_law_336 ?_
  refine z_aload_n C 4 dL_law_337 rfl ?_
  refine z_iload C 0 dL_law_338 rfl ?_
  refine z_iconst (z := 2) C dL_law_340 rfl ?_
  refine z_iadd C dL_law_341 ?_
  refine z_sld C hX hbl hbA (z + 2).toNat (by omega) (by omega) (by omega) hw2 dL_law_342 ?_
  refine z_aload_n C 1 dL_law_343 rfl ?_
  refine z_cSW (As := [.ref (ad 0), .int (zI (w1)), .int (zI (w2)), .ref (ad 951)]) (rest := []) C (c_L_forecast l D A cs tt N ad _ hN hR hl0 q hq w1 hw1r w2 hw2r) mW_yL_forecast q_920 hd_yL_forecast (by decide) (Nat.le_of_ble_eq_true rfl) ⟨show k + 6 ≤ 601024 by omega, show n + 36 ≤ 7293034 by omega⟩ dL_law_344 rfl (kI fun rk N1 ad1 g1 h1 => ?_)
  obtain ⟨⟨hN1, hA1, hG1⟩, h1⟩ := h1
  have hM1 : okMr cs ad1 g1 921 x F r sR oR aR fR mR bR pR := hM.grow (fun j a b => hA1 j (by omega)) (fun j a b => hG1 j (by omega) (by omega))
  have hN2 : 952 ≤ N1 := by omega
  rw [← hA1 0 (by omega), ← hA1 921 (by omega), ← hA1 951 (by omega)]
  have hay4 : zAt ad1 (921) (ad1 921) := rfl
  obtain ⟨hR1, h1⟩ := h1
  rcases h1 with ⟨rfl, hc1, hq1⟩ | ⟨rfl, r1, hr1, hc1, hq1⟩
  · refine z_istore (lv' := [(5, .int (zI (1))), (4, .int (zI (z))), (3, .ref (ad1 951)), (2, .ref (ad1 921)), (1, .ref (ad1 0)), (0, .ref b)]) C dL_law_347 (by decide) rfl ?_
    refine z_aload_n C 3 dL_law_349 rfl ?_
    refine z_aload_n C 5 dL_law_350 rfl ?_
    refine z_iload C 1 dL_law_351 rfl ?_
    refine z_iconst (z := 1) C dL_law_353 rfl ?_
    refine z_iadd C dL_law_354 ?_
    refine z_sld C hX hbl hbA (z + 1).toNat (by omega) (by omega) (by omega) hw1 dL_law_355 ?_
    refine z_aload_n C 5 dL_law_356 rfl ?_
    refine z_iload C 1 dL_law_357 rfl ?_
    refine z_iconst (z := 2) C dL_law_359 rfl ?_
    refine z_iadd C dL_law_360 ?_
    refine z_sld C hX hbl hbA (z + 2).toNat (by omega) (by omega) (by omega) hw2 dL_law_361 ?_
    refine z_cV (As := [.int (zI (w1)), .int (zI (w2))]) (rest := []) (ci := 12) C (c_yForecast l D A cs tt N1 ad1 _ 921 (by omega) x (by omega) F r hM1 w1 hw1r w2 hw2r) (by omega) hay4 hM1.1 rfl rfl mv_yX10_forecast q_1799 hd_yX10_forecast (by decide) (Nat.le_of_ble_eq_true rfl) ⟨show k + 6 + 0 ≤ 601024 by omega, show n + 36 + 0 ≤ 7293034 by omega⟩ dL_law_362 rfl (kI0 fun ry gy hy => ?_)
    obtain ⟨⟨F2, r2, hM2, hq2, hF2⟩, hG2⟩ := hy
    obtain ⟨-, h12⟩ := hq2.resolve_left (fun h9 => by omega)
    refine z_istore (lv' := [(6, .int (zI (ry))), (5, .int (zI (1))), (4, .int (zI (z))), (3, .ref (ad1 951)), (2, .ref (ad1 921)), (1, .ref (ad1 0)), (0, .ref b)]) C dL_law_365 (by decide) rfl ?_
    refine z_aload_n C 4 dL_law_367 rfl ?_
    refine z_cV (As := []) (rest := []) (ci := 12) C (c_yThrown l D A cs tt N1 ad1 _ 921 (by omega) F2 hM2.1) (by omega) hay4 hM2.1 rfl rfl mv_yX10_thrown q_1640 hd_yX10_thrown (by decide) (Nat.le_of_ble_eq_true rfl) ⟨show k + 6 + 0 + 0 ≤ 601024 by omega, show n + 36 + 0 + 0 ≤ 7293034 by omega⟩ dL_law_368 rfl (kI0 fun rt gt ht => ?_)
    obtain ⟨rfl, rfl⟩ := ht
    rw [h12]
    refine z_iload C 1 dL_law_371 rfl ?_
    refine z_icmp_eq (tgt := 378) C dL_law_373 (by decide) (by omega) (by omega) (fun _ => ?_) (fun h => absurd h (by omega))
    refine z_iload C 1 dL_law_378 rfl ?_
    refine z_if_ne (tgt := 395) C dL_law_380 (by decide) (by omega) (fun _ => ?_) (fun h => absurd h (by omega))
    refine z_goto (tgt := 1376) C dL_law_395 (by decide) ?_
    refine z_lv (lv' := [(4, .int (zI (z))), (3, .ref (ad1 951)), (2, .ref (ad1 921)), (1, .ref (ad1 0)), (0, .ref b)]) [2, 3, 4, 5, 6] rfl ?_
    refine z_widen (k2 := k + 16) (n2 := n + 2150) (show k + 6 + 0 + 0 ≤ k + 16 by omega) (show n + 36 + 0 + 0 ≤ n + 2150 by omega) ?_
    exact hK _ _ _ _ hN2 ⟨_, _, _, _, _, _, _, _, _, _, _, _, _, _, _, _, _, _, _, _, _, _, _, _, (hR1.o951 (fun j hj => hG2 j (by omega))), hM2, (hJ.keep hF2)⟩ ((hG2 951 (by omega)).trans hq1)
  · refine z_istore (lv' := [(5, .int (zI (0))), (4, .int (zI (z))), (3, .ref (ad1 951)), (2, .ref (ad1 921)), (1, .ref (ad1 0)), (0, .ref b)]) C dL_law_347 (by decide) rfl ?_
    refine z_aload_n C 3 dL_law_349 rfl ?_
    refine z_aload_n C 5 dL_law_350 rfl ?_
    refine z_iload C 1 dL_law_351 rfl ?_
    refine z_iconst (z := 1) C dL_law_353 rfl ?_
    refine z_iadd C dL_law_354 ?_
    refine z_sld C hX hbl hbA (z + 1).toNat (by omega) (by omega) (by omega) hw1 dL_law_355 ?_
    refine z_aload_n C 5 dL_law_356 rfl ?_
    refine z_iload C 1 dL_law_357 rfl ?_
    refine z_iconst (z := 2) C dL_law_359 rfl ?_
    refine z_iadd C dL_law_360 ?_
    refine z_sld C hX hbl hbA (z + 2).toNat (by omega) (by omega) (by omega) hw2 dL_law_361 ?_
    refine z_cV (As := [.int (zI (w1)), .int (zI (w2))]) (rest := []) (ci := 12) C (c_yForecast l D A cs tt N1 ad1 _ 921 (by omega) x (by omega) F r hM1 w1 hw1r w2 hw2r) (by omega) hay4 hM1.1 rfl rfl mv_yX10_forecast q_1799 hd_yX10_forecast (by decide) (Nat.le_of_ble_eq_true rfl) ⟨show k + 6 + 0 ≤ 601024 by omega, show n + 36 + 0 ≤ 7293034 by omega⟩ dL_law_362 rfl (kI0 fun ry gy hy => ?_)
    obtain ⟨⟨F2, r2, hM2, hq2, hF2⟩, hG2⟩ := hy
    obtain ⟨h9a, h12, hyr, hyv⟩ := hq2.resolve_right (fun h9 => by omega)
    have hhj := hJ.2.2.2.1 (w1).toNat (by omega)
    have e9 : ry = r1 := (zI_eq hyr hr1).mp (by
        rcases hc1.2 with ⟨a9, b9⟩ | ⟨a9, b9⟩ | ⟨a9, b9⟩
        · rw [← b9, hhj.1]; rcases hyv with ⟨c9, d9⟩ | ⟨c9, d9⟩ | ⟨c9, d9⟩ <;> first | exact d9.symm | omega
        · rw [← b9, hhj.2.1]; rcases hyv with ⟨c9, d9⟩ | ⟨c9, d9⟩ | ⟨c9, d9⟩ <;> first | exact d9.symm | omega
        · rw [← b9, hhj.2.2]; rcases hyv with ⟨c9, d9⟩ | ⟨c9, d9⟩ | ⟨c9, d9⟩ <;> first | exact d9.symm | omega)
    have hqz := (hG2 951 (by omega)).trans hq1
    refine z_istore (lv' := [(6, .int (zI (ry))), (5, .int (zI (0))), (4, .int (zI (z))), (3, .ref (ad1 951)), (2, .ref (ad1 921)), (1, .ref (ad1 0)), (0, .ref b)]) C dL_law_365 (by decide) rfl ?_
    refine z_aload_n C 4 dL_law_367 rfl ?_
    refine z_cV (As := []) (rest := []) (ci := 12) C (c_yThrown l D A cs tt N1 ad1 _ 921 (by omega) F2 hM2.1) (by omega) hay4 hM2.1 rfl rfl mv_yX10_thrown q_1640 hd_yX10_thrown (by decide) (Nat.le_of_ble_eq_true rfl) ⟨show k + 6 + 0 + 0 ≤ 601024 by omega, show n + 36 + 0 + 0 ≤ 7293034 by omega⟩ dL_law_368 rfl (kI0 fun rt gt ht => ?_)
    obtain ⟨rfl, rfl⟩ := ht
    rw [h12]
    refine z_iload C 1 dL_law_371 rfl ?_
    refine z_icmp_eq (tgt := 378) C dL_law_373 (by decide) (by omega) (by omega) (fun _ => ?_) (fun h => absurd h (by omega))
    refine z_iload C 1 dL_law_378 rfl ?_
    refine z_if_ne (tgt := 395) C dL_law_380 (by decide) (by omega) (fun h => absurd h (by omega)) (fun _ => ?_)
    refine z_aload_n C 3 dL_law_383 rfl ?_
    refine z_iconst (z := 0) C dL_law_384 rfl ?_
    have hay5 : zAt ad1 (951) (ad1 951) := rfl
    refine z_lald C (by omega) hay5 hqz (0) (by omega) (by omega) (by decide) dL_law_385 ?_
    rw [show (uZ q 0 r1) 0 = r1 from uZ_s _ _ _]
    refine z_iload C 0 dL_law_386 rfl ?_
    refine z_i2l C dL_law_388 (by omega) ?_
    refine z_lcmp C dL_law_389 (by omega) (by omega) ?_
    rw [show cmpZ (r1) (ry) = 0 from cmpZ_eq.mpr (by omega)]
    refine z_if_eq (tgt := 395) C dL_law_390 (by decide) (by omega) (fun _ => ?_) (fun h => absurd h (by omega))
    refine z_goto (tgt := 1376) C dL_law_395 (by decide) ?_
    refine z_lv (lv' := [(4, .int (zI (z))), (3, .ref (ad1 951)), (2, .ref (ad1 921)), (1, .ref (ad1 0)), (0, .ref b)]) [2, 3, 4, 5, 6] rfl ?_
    refine z_widen (k2 := k + 16) (n2 := n + 2150) (show k + 6 + 0 + 0 ≤ k + 16 by omega) (show n + 36 + 0 + 0 ≤ n + 2150 by omega) ?_
    exact hK _ _ _ _ hN2 ⟨_, _, _, _, _, _, _, _, _, _, _, _, _, _, _, _, _, _, _, _, _, _, _, _, (hR1.o951 (fun j hj => hG2 j (by omega))), hM2, (hJ.keep hF2)⟩ ((hG2 951 (by omega)).trans hq1)

set_option maxRecDepth 100000 in
set_option maxHeartbeats 4000000 in
theorem law_c3 {p : Program} {l : Launch} {e : Env} {s : State} {m : MethodId} {below : List Frame} {meth : Method} {c : Code} {D : va_G} {A : Nat → Prop} {cs : Nat → ClassId} {tt : Nat} {b L : Nat} {xs : Nat → Int32} {N : Nat} {ad : Nat → Nat} {g : Nat → va_E} {k n : Nat} {x z : Int} {q : Nat → Int} {w1 w2 w3 w4 w5 : Int} (hl0 : l.stackTraces = false) (C : zC p s m #[Value.ref b] c cL_law 7 RL D A cs tt) (hr : meth.sig.returnType = ret) (hlk : meth.locks = false) (hA : ∀ q, A q → s.heap.size ≤ q) (hX : va_X b L xs s s.heap) (hbl : b < s.heap.size) (hbA : ¬ A b) (hL : L ≤ 3072) (hN : 952 ≤ N) (hJI : JI cs ad g N x) (hq : g 951 = jA cs 1 q) (hx : 0 ≤ x ∧ x ≤ 511) (hz : z = 6 * x) (hzL : z + 6 ≤ (L : Int)) (hk : k ≤ 590000) (hn : n ≤ 7000000) (hw1r : -2147483648 ≤ w1 ∧ w1 ≤ 2147483647) (hw1 : xs (z + 1).toNat = zI w1) (hw2r : -2147483648 ≤ w2 ∧ w2 ≤ 2147483647) (hw2 : xs (z + 2).toNat = zI w2) (hw3r : -2147483648 ≤ w3 ∧ w3 ≤ 2147483647) (hw3 : xs (z + 3).toNat = zI w3) (hw4r : -2147483648 ≤ w4 ∧ w4 ≤ 2147483647) (hw4 : xs (z + 4).toNat = zI w4) (hw5r : -2147483648 ≤ w5 ∧ w5 ≤ 2147483647) (hw5 : xs (z + 5).toNat = zI w5) (hK : ∀ (N' : Nat) (ad' : Nat → Nat) (g' : Nat → va_E) (q' : Nat → Int), 952 ≤ N' → JI cs ad' g' N' (x + 1) → g' 951 = jA cs 1 q' → zV p l e room_1 s m #[Value.ref b] below meth c (lw_Z below #[Value.ref b] s) D A 7 (N') ad' g' (k + 16) (n + 2150) 1376 [(4, .int (zI (z))), (3, .ref (ad' 951)), (2, .ref (ad' 921)), (1, .ref (ad' 0)), (0, .ref b)] []) : zV p l e room_1 s m #[Value.ref b] below meth c (lw_Z below #[Value.ref b] s) D A 7 (N) ad g (k) (n) 302 [(4, .int (zI (z))), (3, .ref (ad 951)), (2, .ref (ad 921)), (1, .ref (ad 0)), (0, .ref b)] [] := by
  have hay1 : zAt ad (0) (ad 0) := rfl
  have hay2 : zAt ad (921) (ad 921) := rfl
  have hay3 : zAt ad (951) (ad 951) := rfl
  obtain ⟨t, fp, im, nz, kz, sl, ho, ua, st, op, ai, fa, mu, tb, tp, F, r, sR, oR, aR, fR, mR, bR, pR, hR, hM, hJ⟩ := hJI
  refine z_aload_n C 3 dL_law_302 rfl ?_
  refine z_aload_n C 4 dL_law_303 rfl ?_
  refine z_iload C 0 dL_law_304 rfl ?_
  refine z_iconst (z := 1) C dL_law_306 rfl ?_
  refine z_iadd C dL_law_307 ?_
  refine z_sld C hX hbl hbA (z + 1).toNat (by omega) (by omega) (by omega) hw1 dL_law_308 ?_
  refine z_aload_n C 1 dL_law_309 rfl ?_
  refine z_cSW (As := [.ref (ad 0), .int (zI (w1)), .ref (ad 951)]) (rest := []) C (c_L_count l D A cs tt N ad _ hN hR hl0 q hq w1 hw1r) mW_yL_count q_870 hd_yL_count (by decide) (Nat.le_of_ble_eq_true rfl) ⟨show k + 6 ≤ 601024 by omega, show n + 36 ≤ 7293034 by omega⟩ dL_law_310 rfl (kI fun rk N1 ad1 g1 h1 => ?_)
  obtain ⟨⟨hN1, hA1, hG1⟩, h1⟩ := h1
  have hM1 : okMr cs ad1 g1 921 x F r sR oR aR fR mR bR pR := hM.grow (fun j a b => hA1 j (by omega)) (fun j a b => hG1 j (by omega) (by omega))
  have hN2 : 952 ≤ N1 := by omega
  rw [← hA1 0 (by omega), ← hA1 921 (by omega), ← hA1 951 (by omega)]
  have hay4 : zAt ad1 (921) (ad1 921) := rfl
  obtain ⟨hR1, q1, hq1⟩ := h1
  refine z_istore (lv' := [(5, .int (zI (rk))), (4, .int (zI (z))), (3, .ref (ad1 951)), (2, .ref (ad1 921)), (1, .ref (ad1 0)), (0, .ref b)]) C dL_law_313 (by decide) rfl ?_
  refine z_aload_n C 3 dL_law_315 rfl ?_
  refine z_aload_n C 5 dL_law_316 rfl ?_
  refine z_iload C 1 dL_law_317 rfl ?_
  refine z_iconst (z := 1) C dL_law_319 rfl ?_
  refine z_iadd C dL_law_320 ?_
  refine z_sld C hX hbl hbA (z + 1).toNat (by omega) (by omega) (by omega) hw1 dL_law_321 ?_
  refine z_cV (As := [.int (zI (w1))]) (rest := []) (ci := 12) C (c_X10_count l D A cs tt N1 ad1 _ 921 (by omega) x (by omega) F r hM1 w1 hw1r) (by omega) hay4 hM1.1 rfl rfl mv_yX10_count q_1729 hd_yX10_count (by decide) (Nat.le_of_ble_eq_true rfl) ⟨show k + 6 + 0 ≤ 601024 by omega, show n + 36 + 0 ≤ 7293034 by omega⟩ dL_law_322 rfl (kI0 fun ry gy hy => ?_)
  obtain ⟨hry, ⟨F2, r2, hM2, hF2⟩, hG2⟩ := hy
  refine z_istore (lv' := [(6, .int (zI (ry))), (5, .int (zI (rk))), (4, .int (zI (z))), (3, .ref (ad1 951)), (2, .ref (ad1 921)), (1, .ref (ad1 0)), (0, .ref b)]) C dL_law_325 (by decide) rfl ?_
  refine z_goto (tgt := 1376) C dL_law_327 (by decide) ?_
  refine z_lv (lv' := [(4, .int (zI (z))), (3, .ref (ad1 951)), (2, .ref (ad1 921)), (1, .ref (ad1 0)), (0, .ref b)]) [2, 3, 4, 5, 6] rfl ?_
  refine z_widen (k2 := k + 16) (n2 := n + 2150) (show k + 6 + 0 ≤ k + 16 by omega) (show n + 36 + 0 ≤ n + 2150 by omega) ?_
  exact hK _ _ _ _ hN2 ⟨_, _, _, _, _, _, _, _, _, _, _, _, _, _, _, _, _, _, _, _, _, _, _, _, (hR1.o951 (fun j hj => hG2 j (by omega))), hM2, (hJ.keep hF2)⟩ ((hG2 951 (by omega)).trans hq1)

set_option maxRecDepth 100000 in
set_option maxHeartbeats 4000000 in
theorem law_c5 {p : Program} {l : Launch} {e : Env} {s : State} {m : MethodId} {below : List Frame} {meth : Method} {c : Code} {D : va_G} {A : Nat → Prop} {cs : Nat → ClassId} {tt : Nat} {b L : Nat} {xs : Nat → Int32} {N : Nat} {ad : Nat → Nat} {g : Nat → va_E} {k n : Nat} {x z : Int} {q : Nat → Int} {w1 w2 w3 w4 w5 : Int} (hl0 : l.stackTraces = false) (C : zC p s m #[Value.ref b] c cL_law 7 RL D A cs tt) (hr : meth.sig.returnType = ret) (hlk : meth.locks = false) (hA : ∀ q, A q → s.heap.size ≤ q) (hX : va_X b L xs s s.heap) (hbl : b < s.heap.size) (hbA : ¬ A b) (hL : L ≤ 3072) (hN : 952 ≤ N) (hJI : JI cs ad g N x) (hq : g 951 = jA cs 1 q) (hx : 0 ≤ x ∧ x ≤ 511) (hz : z = 6 * x) (hzL : z + 6 ≤ (L : Int)) (hk : k ≤ 590000) (hn : n ≤ 7000000) (hw1r : -2147483648 ≤ w1 ∧ w1 ≤ 2147483647) (hw1 : xs (z + 1).toNat = zI w1) (hw2r : -2147483648 ≤ w2 ∧ w2 ≤ 2147483647) (hw2 : xs (z + 2).toNat = zI w2) (hw3r : -2147483648 ≤ w3 ∧ w3 ≤ 2147483647) (hw3 : xs (z + 3).toNat = zI w3) (hw4r : -2147483648 ≤ w4 ∧ w4 ≤ 2147483647) (hw4 : xs (z + 4).toNat = zI w4) (hw5r : -2147483648 ≤ w5 ∧ w5 ≤ 2147483647) (hw5 : xs (z + 5).toNat = zI w5) (hK : ∀ (N' : Nat) (ad' : Nat → Nat) (g' : Nat → va_E) (q' : Nat → Int), 952 ≤ N' → JI cs ad' g' N' (x + 1) → g' 951 = jA cs 1 q' → zV p l e room_1 s m #[Value.ref b] below meth c (lw_Z below #[Value.ref b] s) D A 7 (N') ad' g' (k + 16) (n + 2150) 1376 [(4, .int (zI (z))), (3, .ref (ad' 951)), (2, .ref (ad' 921)), (1, .ref (ad' 0)), (0, .ref b)] []) : zV p l e room_1 s m #[Value.ref b] below meth c (lw_Z below #[Value.ref b] s) D A 7 (N) ad g (k) (n) 398 [(4, .int (zI (z))), (3, .ref (ad 951)), (2, .ref (ad 921)), (1, .ref (ad 0)), (0, .ref b)] [] := by
  have hay1 : zAt ad (0) (ad 0) := rfl
  have hay2 : zAt ad (921) (ad 921) := rfl
  have hay3 : zAt ad (951) (ad 951) := rfl
  obtain ⟨t, fp, im, nz, kz, sl, ho, ua, st, op, ai, fa, mu, tb, tp, F, r, sR, oR, aR, fR, mR, bR, pR, hR, hM, hJ⟩ := hJI
  refine z_aload_n C 3 dL_law_398 rfl ?_
  refine z_aload_n C 4 dL_law_399 rfl ?_
  refine z_iload C 0 dL_law_400 rfl ?_
  refine z_iconst (z := 1) C dL_law_402 rfl ?_
  refine z_iadd C dL_law_403 ?_
  refine z_sld C hX hbl hbA (z + 1).toNat (by omega) (by omega) (by omega) hw1 dL_law_404 ?_
  refine z_aload_n C 4 dL_law_405 rfl ?_
  refine z_iload C 0 dL_law_406 rfl ?_
  refine z_iconst (z := 2) C dL_law_408 rfl ?_
  refine z_iadd C dL_law_409 ?_
  refine z_sld C hX hbl hbA (z + 2).toNat (by omega) (by omega) (by omega) hw2 dL_law_410 ?_
  refine z_aload_n C 1 dL_law_411 rfl ?_
  refine z_cSW (As := [.ref (ad 0), .int (zI (w1)), .int (zI (w2)), .ref (ad 951)]) (rest := []) C (c_L_slope l D A cs tt N ad _ hN hR hl0 q hq w1 hw1r w2 hw2r) mW_yL_slope q_929 hd_yL_slope (by decide) (Nat.le_of_ble_eq_true rfl) ⟨show k + 6 ≤ 601024 by omega, show n + 36 ≤ 7293034 by omega⟩ dL_law_412 rfl (kI fun rk N1 ad1 g1 h1 => ?_)
  obtain ⟨⟨hN1, hA1, hG1⟩, h1⟩ := h1
  have hM1 : okMr cs ad1 g1 921 x F r sR oR aR fR mR bR pR := hM.grow (fun j a b => hA1 j (by omega)) (fun j a b => hG1 j (by omega) (by omega))
  have hN2 : 952 ≤ N1 := by omega
  rw [← hA1 0 (by omega), ← hA1 921 (by omega), ← hA1 951 (by omega)]
  have hay4 : zAt ad1 (921) (ad1 921) := rfl
  obtain ⟨hR1, q1, hq1⟩ := h1
  refine z_istore (lv' := [(5, .int (zI (rk))), (4, .int (zI (z))), (3, .ref (ad1 951)), (2, .ref (ad1 921)), (1, .ref (ad1 0)), (0, .ref b)]) C dL_law_415 (by decide) rfl ?_
  refine z_aload_n C 3 dL_law_417 rfl ?_
  refine z_aload_n C 5 dL_law_418 rfl ?_
  refine z_iload C 1 dL_law_419 rfl ?_
  refine z_iconst (z := 1) C dL_law_421 rfl ?_
  refine z_iadd C dL_law_422 ?_
  refine z_sld C hX hbl hbA (z + 1).toNat (by omega) (by omega) (by omega) hw1 dL_law_423 ?_
  refine z_aload_n C 5 dL_law_424 rfl ?_
  refine z_iload C 1 dL_law_425 rfl ?_
  refine z_iconst (z := 2) C dL_law_427 rfl ?_
  refine z_iadd C dL_law_428 ?_
  refine z_sld C hX hbl hbA (z + 2).toNat (by omega) (by omega) (by omega) hw2 dL_law_429 ?_
  refine z_cV (As := [.int (zI (w1)), .int (zI (w2))]) (rest := []) (ci := 12) C (c_X10_slope l D A cs tt N1 ad1 _ 921 (by omega) x (by omega) F r hM1 w1 hw1r w2 hw2r) (by omega) hay4 hM1.1 rfl rfl mv_yX10_slope q_1803 hd_yX10_slope (by decide) (Nat.le_of_ble_eq_true rfl) ⟨show k + 6 + 0 ≤ 601024 by omega, show n + 36 + 0 ≤ 7293034 by omega⟩ dL_law_430 rfl (kI0 fun ry gy hy => ?_)
  obtain ⟨hry, ⟨F2, r2, hM2, hF2⟩, hG2⟩ := hy
  refine z_istore (lv' := [(6, .int (zI (ry))), (5, .int (zI (rk))), (4, .int (zI (z))), (3, .ref (ad1 951)), (2, .ref (ad1 921)), (1, .ref (ad1 0)), (0, .ref b)]) C dL_law_433 (by decide) rfl ?_
  refine z_goto (tgt := 1376) C dL_law_435 (by decide) ?_
  refine z_lv (lv' := [(4, .int (zI (z))), (3, .ref (ad1 951)), (2, .ref (ad1 921)), (1, .ref (ad1 0)), (0, .ref b)]) [2, 3, 4, 5, 6] rfl ?_
  refine z_widen (k2 := k + 16) (n2 := n + 2150) (show k + 6 + 0 ≤ k + 16 by omega) (show n + 36 + 0 ≤ n + 2150 by omega) ?_
  exact hK _ _ _ _ hN2 ⟨_, _, _, _, _, _, _, _, _, _, _, _, _, _, _, _, _, _, _, _, _, _, _, _, (hR1.o951 (fun j hj => hG2 j (by omega))), hM2, (hJ.keep hF2)⟩ ((hG2 951 (by omega)).trans hq1)

set_option maxRecDepth 100000 in
set_option maxHeartbeats 4000000 in
theorem law_c6 {p : Program} {l : Launch} {e : Env} {s : State} {m : MethodId} {below : List Frame} {meth : Method} {c : Code} {D : va_G} {A : Nat → Prop} {cs : Nat → ClassId} {tt : Nat} {b L : Nat} {xs : Nat → Int32} {N : Nat} {ad : Nat → Nat} {g : Nat → va_E} {k n : Nat} {x z : Int} {q : Nat → Int} {w1 w2 w3 w4 w5 : Int} (hl0 : l.stackTraces = false) (C : zC p s m #[Value.ref b] c cL_law 7 RL D A cs tt) (hr : meth.sig.returnType = ret) (hlk : meth.locks = false) (hA : ∀ q, A q → s.heap.size ≤ q) (hX : va_X b L xs s s.heap) (hbl : b < s.heap.size) (hbA : ¬ A b) (hL : L ≤ 3072) (hN : 952 ≤ N) (hJI : JI cs ad g N x) (hq : g 951 = jA cs 1 q) (hx : 0 ≤ x ∧ x ≤ 511) (hz : z = 6 * x) (hzL : z + 6 ≤ (L : Int)) (hk : k ≤ 590000) (hn : n ≤ 7000000) (hw1r : -2147483648 ≤ w1 ∧ w1 ≤ 2147483647) (hw1 : xs (z + 1).toNat = zI w1) (hw2r : -2147483648 ≤ w2 ∧ w2 ≤ 2147483647) (hw2 : xs (z + 2).toNat = zI w2) (hw3r : -2147483648 ≤ w3 ∧ w3 ≤ 2147483647) (hw3 : xs (z + 3).toNat = zI w3) (hw4r : -2147483648 ≤ w4 ∧ w4 ≤ 2147483647) (hw4 : xs (z + 4).toNat = zI w4) (hw5r : -2147483648 ≤ w5 ∧ w5 ≤ 2147483647) (hw5 : xs (z + 5).toNat = zI w5) (hK : ∀ (N' : Nat) (ad' : Nat → Nat) (g' : Nat → va_E) (q' : Nat → Int), 952 ≤ N' → JI cs ad' g' N' (x + 1) → g' 951 = jA cs 1 q' → zV p l e room_1 s m #[Value.ref b] below meth c (lw_Z below #[Value.ref b] s) D A 7 (N') ad' g' (k + 16) (n + 2150) 1376 [(4, .int (zI (z))), (3, .ref (ad' 951)), (2, .ref (ad' 921)), (1, .ref (ad' 0)), (0, .ref b)] []) : zV p l e room_1 s m #[Value.ref b] below meth c (lw_Z below #[Value.ref b] s) D A 7 (N) ad g (k) (n) 438 [(4, .int (zI (z))), (3, .ref (ad 951)), (2, .ref (ad 921)), (1, .ref (ad 0)), (0, .ref b)] [] := by
  have hay1 : zAt ad (0) (ad 0) := rfl
  have hay2 : zAt ad (921) (ad 921) := rfl
  have hay3 : zAt ad (951) (ad 951) := rfl
  obtain ⟨t, fp, im, nz, kz, sl, ho, ua, st, op, ai, fa, mu, tb, tp, F, r, sR, oR, aR, fR, mR, bR, pR, hR, hM, hJ⟩ := hJI
  refine z_aload_n C 3 dL_law_438 rfl ?_
  refine z_aload_n C 4 dL_law_439 rfl ?_
  refine z_iload C 0 dL_law_440 rfl ?_
  refine z_iconst (z := 1) C dL_law_442 rfl ?_
  refine z_iadd C dL_law_443 ?_
  refine z_sld C hX hbl hbA (z + 1).toNat (by omega) (by omega) (by omega) hw1 dL_law_444 ?_
  refine z_aload_n C 4 dL_law_445 rfl ?_
  refine z_iload C 0 dL_law_446 rfl ?_
  refine z_iconst (z := 2) C dL_law_448 rfl ?_
  refine z_iadd C dL_law_449 ?_
  refine z_sld C hX hbl hbA (z + 2).toNat (by omega) (by omega) (by omega) hw2 dL_law_450 ?_
  refine z_aload_n C 4 dL_law_451 rfl ?_
  refine z_iload C 0 dL_law_452 rfl ?_
  refine z_iconst (z := 3) C dL_law_454 rfl ?_
  refine z_iadd C dL_law_455 ?_
  refine z_sld C hX hbl hbA (z + 3).toNat (by omega) (by omega) (by omega) hw3 dL_law_456 ?_
  refine z_aload_n C 1 dL_law_457 rfl ?_
  refine z_cSW (As := [.ref (ad 0), .int (zI (w1)), .int (zI (w2)), .int (zI (w3)), .ref (ad 951)]) (rest := []) C (c_L_layer l D A cs tt N ad _ hN hR hl0 q hq w1 hw1r w2 hw2r w3 hw3r) mW_yL_layer q_948 hd_yL_layer (by decide) (Nat.le_of_ble_eq_true rfl) ⟨show k + 6 ≤ 601024 by omega, show n + 36 ≤ 7293034 by omega⟩ dL_law_458 rfl (kI fun rk N1 ad1 g1 h1 => ?_)
  obtain ⟨⟨hN1, hA1, hG1⟩, h1⟩ := h1
  have hM1 : okMr cs ad1 g1 921 x F r sR oR aR fR mR bR pR := hM.grow (fun j a b => hA1 j (by omega)) (fun j a b => hG1 j (by omega) (by omega))
  have hN2 : 952 ≤ N1 := by omega
  rw [← hA1 0 (by omega), ← hA1 921 (by omega), ← hA1 951 (by omega)]
  have hay4 : zAt ad1 (921) (ad1 921) := rfl
  obtain ⟨hR1, q1, hq1⟩ := h1
  refine z_istore (lv' := [(5, .int (zI (rk))), (4, .int (zI (z))), (3, .ref (ad1 951)), (2, .ref (ad1 921)), (1, .ref (ad1 0)), (0, .ref b)]) C dL_law_461 (by decide) rfl ?_
  refine z_aload_n C 3 dL_law_463 rfl ?_
  refine z_aload_n C 5 dL_law_464 rfl ?_
  refine z_iload C 1 dL_law_465 rfl ?_
  refine z_iconst (z := 1) C dL_law_467 rfl ?_
  refine z_iadd C dL_law_468 ?_
  refine z_sld C hX hbl hbA (z + 1).toNat (by omega) (by omega) (by omega) hw1 dL_law_469 ?_
  refine z_aload_n C 5 dL_law_470 rfl ?_
  refine z_iload C 1 dL_law_471 rfl ?_
  refine z_iconst (z := 2) C dL_law_473 rfl ?_
  refine z_iadd C dL_law_474 ?_
  refine z_sld C hX hbl hbA (z + 2).toNat (by omega) (by omega) (by omega) hw2 dL_law_475 ?_
  refine z_aload_n C 5 dL_law_476 rfl ?_
  refine z_iload C 1 dL_law_477 rfl ?_
  refine z_iconst (z := 3) C dL_law_479 rfl ?_
  refine z_iadd C dL_law_480 ?_
  refine z_sld C hX hbl hbA (z + 3).toNat (by omega) (by omega) (by omega) hw3 dL_law_481 ?_
  refine z_cV (As := [.int (zI (w1)), .int (zI (w2)), .int (zI (w3))]) (rest := []) (ci := 12) C (c_X10_layer l D A cs tt N1 ad1 _ 921 (by omega) x (by omega) F r hM1 w1 hw1r w2 hw2r w3 hw3r) (by omega) hay4 hM1.1 rfl rfl mv_yX10_layer q_1819 hd_yX10_layer (by decide) (Nat.le_of_ble_eq_true rfl) ⟨show k + 6 + 0 ≤ 601024 by omega, show n + 36 + 0 ≤ 7293034 by omega⟩ dL_law_482 rfl (kI0 fun ry gy hy => ?_)
  obtain ⟨hry, ⟨F2, r2, hM2, hF2⟩, hG2⟩ := hy
  refine z_istore (lv' := [(6, .int (zI (ry))), (5, .int (zI (rk))), (4, .int (zI (z))), (3, .ref (ad1 951)), (2, .ref (ad1 921)), (1, .ref (ad1 0)), (0, .ref b)]) C dL_law_485 (by decide) rfl ?_
  refine z_goto (tgt := 1376) C dL_law_487 (by decide) ?_
  refine z_lv (lv' := [(4, .int (zI (z))), (3, .ref (ad1 951)), (2, .ref (ad1 921)), (1, .ref (ad1 0)), (0, .ref b)]) [2, 3, 4, 5, 6] rfl ?_
  refine z_widen (k2 := k + 16) (n2 := n + 2150) (show k + 6 + 0 ≤ k + 16 by omega) (show n + 36 + 0 ≤ n + 2150 by omega) ?_
  exact hK _ _ _ _ hN2 ⟨_, _, _, _, _, _, _, _, _, _, _, _, _, _, _, _, _, _, _, _, _, _, _, _, (hR1.o951 (fun j hj => hG2 j (by omega))), hM2, (hJ.keep hF2)⟩ ((hG2 951 (by omega)).trans hq1)

set_option maxRecDepth 100000 in
set_option maxHeartbeats 4000000 in
theorem law_c7 {p : Program} {l : Launch} {e : Env} {s : State} {m : MethodId} {below : List Frame} {meth : Method} {c : Code} {D : va_G} {A : Nat → Prop} {cs : Nat → ClassId} {tt : Nat} {b L : Nat} {xs : Nat → Int32} {N : Nat} {ad : Nat → Nat} {g : Nat → va_E} {k n : Nat} {x z : Int} {q : Nat → Int} {w1 w2 w3 w4 w5 : Int} (hl0 : l.stackTraces = false) (C : zC p s m #[Value.ref b] c cL_law 7 RL D A cs tt) (hr : meth.sig.returnType = ret) (hlk : meth.locks = false) (hA : ∀ q, A q → s.heap.size ≤ q) (hX : va_X b L xs s s.heap) (hbl : b < s.heap.size) (hbA : ¬ A b) (hL : L ≤ 3072) (hN : 952 ≤ N) (hJI : JI cs ad g N x) (hq : g 951 = jA cs 1 q) (hx : 0 ≤ x ∧ x ≤ 511) (hz : z = 6 * x) (hzL : z + 6 ≤ (L : Int)) (hk : k ≤ 590000) (hn : n ≤ 7000000) (hw1r : -2147483648 ≤ w1 ∧ w1 ≤ 2147483647) (hw1 : xs (z + 1).toNat = zI w1) (hw2r : -2147483648 ≤ w2 ∧ w2 ≤ 2147483647) (hw2 : xs (z + 2).toNat = zI w2) (hw3r : -2147483648 ≤ w3 ∧ w3 ≤ 2147483647) (hw3 : xs (z + 3).toNat = zI w3) (hw4r : -2147483648 ≤ w4 ∧ w4 ≤ 2147483647) (hw4 : xs (z + 4).toNat = zI w4) (hw5r : -2147483648 ≤ w5 ∧ w5 ≤ 2147483647) (hw5 : xs (z + 5).toNat = zI w5) (hK : ∀ (N' : Nat) (ad' : Nat → Nat) (g' : Nat → va_E) (q' : Nat → Int), 952 ≤ N' → JI cs ad' g' N' (x + 1) → g' 951 = jA cs 1 q' → zV p l e room_1 s m #[Value.ref b] below meth c (lw_Z below #[Value.ref b] s) D A 7 (N') ad' g' (k + 16) (n + 2150) 1376 [(4, .int (zI (z))), (3, .ref (ad' 951)), (2, .ref (ad' 921)), (1, .ref (ad' 0)), (0, .ref b)] []) : zV p l e room_1 s m #[Value.ref b] below meth c (lw_Z below #[Value.ref b] s) D A 7 (N) ad g (k) (n) 490 [(4, .int (zI (z))), (3, .ref (ad 951)), (2, .ref (ad 921)), (1, .ref (ad 0)), (0, .ref b)] [] := by
  have hay1 : zAt ad (0) (ad 0) := rfl
  have hay2 : zAt ad (921) (ad 921) := rfl
  have hay3 : zAt ad (951) (ad 951) := rfl
  obtain ⟨t, fp, im, nz, kz, sl, ho, ua, st, op, ai, fa, mu, tb, tp, F, r, sR, oR, aR, fR, mR, bR, pR, hR, hM, hJ⟩ := hJI
  refine z_aload_n C 3 dL_law_490 rfl ?_
  refine z_aload_n C 4 dL_law_491 rfl ?_
  refine z_iload C 0 dL_law_492 rfl ?_
  refine z_iconst (z := 1) C dL_law_494 rfl ?_
  refine z_iadd C dL_law_495 ?_
  refine z_sld C hX hbl hbA (z + 1).toNat (by omega) (by omega) (by omega) hw1 dL_law_496 ?_
  refine z_aload_n C 4 dL_law_497 rfl ?_
  refine z_iload C 0 dL_law_498 rfl ?_
  refine z_iconst (z := 2) C dL_law_500 rfl ?_
  refine z_iadd C dL_law_501 ?_
  refine z_sld C hX hbl hbA (z + 2).toNat (by omega) (by omega) (by omega) hw2 dL_law_502 ?_
  refine z_aload_n C 4 dL_law_503 rfl ?_
  refine z_iload C 0 dL_law_504 rfl ?_
  refine z_iconst (z := 3) C dL_law_506 rfl ?_
  refine z_iadd C dL_law_507 ?_
  refine z_sld C hX hbl hbA (z + 3).toNat (by omega) (by omega) (by omega) hw3 dL_law_508 ?_
  refine z_aload_n C 1 dL_law_509 rfl ?_
  refine z_cSW (As := [.ref (ad 0), .int (zI (w1)), .int (zI (w2)), .int (zI (w3)), .ref (ad 951)]) (rest := []) C (c_L_told l D A cs tt N ad _ hN hR hl0 q hq w1 hw1r w2 hw2r w3 hw3r) mW_yL_told q_967 hd_yL_told (by decide) (Nat.le_of_ble_eq_true rfl) ⟨show k + 16 ≤ 601024 by omega, show n + 2150 ≤ 7293034 by omega⟩ dL_law_510 rfl (kI fun rk N1 ad1 g1 h1 => ?_)
  obtain ⟨⟨hN1, hA1, hG1⟩, h1⟩ := h1
  have hM1 : okMr cs ad1 g1 921 x F r sR oR aR fR mR bR pR := hM.grow (fun j a b => hA1 j (by omega)) (fun j a b => hG1 j (by omega) (by omega))
  have hN2 : 952 ≤ N1 := by omega
  rw [← hA1 0 (by omega), ← hA1 921 (by omega), ← hA1 951 (by omega)]
  have hay4 : zAt ad1 (921) (ad1 921) := rfl
  obtain ⟨hR1, q1, hq1⟩ := h1
  refine z_istore (lv' := [(5, .int (zI (rk))), (4, .int (zI (z))), (3, .ref (ad1 951)), (2, .ref (ad1 921)), (1, .ref (ad1 0)), (0, .ref b)]) C dL_law_513 (by decide) rfl ?_
  refine z_aload_n C 3 dL_law_515 rfl ?_
  refine z_aload_n C 5 dL_law_516 rfl ?_
  refine z_iload C 1 dL_law_517 rfl ?_
  refine z_iconst (z := 1) C dL_law_519 rfl ?_
  refine z_iadd C dL_law_520 ?_
  refine z_sld C hX hbl hbA (z + 1).toNat (by omega) (by omega) (by omega) hw1 dL_law_521 ?_
  refine z_aload_n C 5 dL_law_522 rfl ?_
  refine z_iload C 1 dL_law_523 rfl ?_
  refine z_iconst (z := 2) C dL_law_525 rfl ?_
  refine z_iadd C dL_law_526 ?_
  refine z_sld C hX hbl hbA (z + 2).toNat (by omega) (by omega) (by omega) hw2 dL_law_527 ?_
  refine z_aload_n C 5 dL_law_528 rfl ?_
  refine z_iload C 1 dL_law_529 rfl ?_
  refine z_iconst (z := 3) C dL_law_531 rfl ?_
  refine z_iadd C dL_law_532 ?_
  refine z_sld C hX hbl hbA (z + 3).toNat (by omega) (by omega) (by omega) hw3 dL_law_533 ?_
  refine z_cV (As := [.int (zI (w1)), .int (zI (w2)), .int (zI (w3))]) (rest := []) (ci := 12) C (c_X10_told l D A cs tt N1 ad1 _ 921 (by omega) x (by omega) F r hM1 w1 hw1r w2 hw2r w3 hw3r) (by omega) hay4 hM1.1 rfl rfl mv_yX10_told q_1846 hd_yX10_told (by decide) (Nat.le_of_ble_eq_true rfl) ⟨show k + 16 + 0 ≤ 601024 by omega, show n + 2150 + 0 ≤ 7293034 by omega⟩ dL_law_534 rfl (kI0 fun ry gy hy => ?_)
  obtain ⟨hry, ⟨F2, r2, hM2, hF2⟩, hG2⟩ := hy
  refine z_istore (lv' := [(6, .int (zI (ry))), (5, .int (zI (rk))), (4, .int (zI (z))), (3, .ref (ad1 951)), (2, .ref (ad1 921)), (1, .ref (ad1 0)), (0, .ref b)]) C dL_law_537 (by decide) rfl ?_
  refine z_goto (tgt := 1376) C dL_law_539 (by decide) ?_
  refine z_lv (lv' := [(4, .int (zI (z))), (3, .ref (ad1 951)), (2, .ref (ad1 921)), (1, .ref (ad1 0)), (0, .ref b)]) [2, 3, 4, 5, 6] rfl ?_
  refine z_widen (k2 := k + 16) (n2 := n + 2150) (show k + 16 + 0 ≤ k + 16 by omega) (show n + 2150 + 0 ≤ n + 2150 by omega) ?_
  exact hK _ _ _ _ hN2 ⟨_, _, _, _, _, _, _, _, _, _, _, _, _, _, _, _, _, _, _, _, _, _, _, _, (hR1.o951 (fun j hj => hG2 j (by omega))), hM2, (hJ.keep hF2)⟩ ((hG2 951 (by omega)).trans hq1)

set_option maxRecDepth 100000 in
set_option maxHeartbeats 4000000 in
theorem law_c14 {p : Program} {l : Launch} {e : Env} {s : State} {m : MethodId} {below : List Frame} {meth : Method} {c : Code} {D : va_G} {A : Nat → Prop} {cs : Nat → ClassId} {tt : Nat} {b L : Nat} {xs : Nat → Int32} {N : Nat} {ad : Nat → Nat} {g : Nat → va_E} {k n : Nat} {x z : Int} {q : Nat → Int} {w1 w2 w3 w4 w5 : Int} (hl0 : l.stackTraces = false) (C : zC p s m #[Value.ref b] c cL_law 7 RL D A cs tt) (hr : meth.sig.returnType = ret) (hlk : meth.locks = false) (hA : ∀ q, A q → s.heap.size ≤ q) (hX : va_X b L xs s s.heap) (hbl : b < s.heap.size) (hbA : ¬ A b) (hL : L ≤ 3072) (hN : 952 ≤ N) (hJI : JI cs ad g N x) (hq : g 951 = jA cs 1 q) (hx : 0 ≤ x ∧ x ≤ 511) (hz : z = 6 * x) (hzL : z + 6 ≤ (L : Int)) (hk : k ≤ 590000) (hn : n ≤ 7000000) (hw1r : -2147483648 ≤ w1 ∧ w1 ≤ 2147483647) (hw1 : xs (z + 1).toNat = zI w1) (hw2r : -2147483648 ≤ w2 ∧ w2 ≤ 2147483647) (hw2 : xs (z + 2).toNat = zI w2) (hw3r : -2147483648 ≤ w3 ∧ w3 ≤ 2147483647) (hw3 : xs (z + 3).toNat = zI w3) (hw4r : -2147483648 ≤ w4 ∧ w4 ≤ 2147483647) (hw4 : xs (z + 4).toNat = zI w4) (hw5r : -2147483648 ≤ w5 ∧ w5 ≤ 2147483647) (hw5 : xs (z + 5).toNat = zI w5) (hK : ∀ (N' : Nat) (ad' : Nat → Nat) (g' : Nat → va_E) (q' : Nat → Int), 952 ≤ N' → JI cs ad' g' N' (x + 1) → g' 951 = jA cs 1 q' → zV p l e room_1 s m #[Value.ref b] below meth c (lw_Z below #[Value.ref b] s) D A 7 (N') ad' g' (k + 16) (n + 2150) 1376 [(4, .int (zI (z))), (3, .ref (ad' 951)), (2, .ref (ad' 921)), (1, .ref (ad' 0)), (0, .ref b)] []) : zV p l e room_1 s m #[Value.ref b] below meth c (lw_Z below #[Value.ref b] s) D A 7 (N) ad g (k) (n) 704 [(4, .int (zI (z))), (3, .ref (ad 951)), (2, .ref (ad 921)), (1, .ref (ad 0)), (0, .ref b)] [] := by
  have hay1 : zAt ad (0) (ad 0) := rfl
  have hay2 : zAt ad (921) (ad 921) := rfl
  have hay3 : zAt ad (951) (ad 951) := rfl
  obtain ⟨t, fp, im, nz, kz, sl, ho, ua, st, op, ai, fa, mu, tb, tp, F, r, sR, oR, aR, fR, mR, bR, pR, hR, hM, hJ⟩ := hJI
  refine z_aload_n C 3 dL_law_704 rfl ?_
  refine z_aload_n C 4 dL_law_705 rfl ?_
  refine z_iload C 0 dL_law_706 rfl ?_
  refine z_iconst (z := 1) C dL_law_708 rfl ?_
  refine z_iadd C dL_law_709 ?_
  refine z_sld C hX hbl hbA (z + 1).toNat (by omega) (by omega) (by omega) hw1 dL_law_710 ?_
  refine z_aload_n C 4 dL_law_711 rfl ?_
  refine z_iload C 0 dL_law_712 rfl ?_
  refine z_iconst (z := 2) C dL_law_714 rfl ?_
  refine z_iadd C dL_law_715 ?_
  refine z_sld C hX hbl hbA (z + 2).toNat (by omega) (by omega) (by omega) hw2 dL_law_716 ?_
  refine z_aload_n C 4 dL_law_717 rfl ?_
  refine z_iload C 0 dL_law_718 rfl ?_
  refine z_iconst (z := 3) C dL_law_720 rfl ?_
  refine z_iadd C dL_law_721 ?_
  refine z_sld C hX hbl hbA (z + 3).toNat (by omega) (by omega) (by omega) hw3 dL_law_722 ?_
  refine z_aload_n C 1 dL_law_723 rfl ?_
  refine z_cSW (As := [.ref (ad 0), .int (zI (w1)), .int (zI (w2)), .int (zI (w3)), .ref (ad 951)]) (rest := []) C (c_L_then l D A cs tt N ad _ hN hR hl0 q hq w1 hw1r w2 hw2r w3 hw3r) mW_yL_then q_1213 hd_yL_then (by decide) (Nat.le_of_ble_eq_true rfl) ⟨show k + 6 ≤ 601024 by omega, show n + 60 ≤ 7293034 by omega⟩ dL_law_724 rfl (kI fun rk N1 ad1 g1 h1 => ?_)
  obtain ⟨⟨hN1, hA1, hG1⟩, h1⟩ := h1
  have hM1 : okMr cs ad1 g1 921 x F r sR oR aR fR mR bR pR := hM.grow (fun j a b => hA1 j (by omega)) (fun j a b => hG1 j (by omega) (by omega))
  have hN2 : 952 ≤ N1 := by omega
  rw [← hA1 0 (by omega), ← hA1 921 (by omega), ← hA1 951 (by omega)]
  have hay4 : zAt ad1 (921) (ad1 921) := rfl
  obtain ⟨hR1, q1, hq1⟩ := h1
  refine z_istore (lv' := [(5, .int (zI (rk))), (4, .int (zI (z))), (3, .ref (ad1 951)), (2, .ref (ad1 921)), (1, .ref (ad1 0)), (0, .ref b)]) C dL_law_727 (by decide) rfl ?_
  refine z_aload_n C 3 dL_law_729 rfl ?_
  refine z_aload_n C 5 dL_law_730 rfl ?_
  refine z_iload C 1 dL_law_731 rfl ?_
  refine z_iconst (z := 1) C dL_law_733 rfl ?_
  refine z_iadd C dL_law_734 ?_
  refine z_sld C hX hbl hbA (z + 1).toNat (by omega) (by omega) (by omega) hw1 dL_law_735 ?_
  refine z_aload_n C 5 dL_law_736 rfl ?_
  refine z_iload C 1 dL_law_737 rfl ?_
  refine z_iconst (z := 2) C dL_law_739 rfl ?_
  refine z_iadd C dL_law_740 ?_
  refine z_sld C hX hbl hbA (z + 2).toNat (by omega) (by omega) (by omega) hw2 dL_law_741 ?_
  refine z_aload_n C 5 dL_law_742 rfl ?_
  refine z_iload C 1 dL_law_743 rfl ?_
  refine z_iconst (z := 3) C dL_law_745 rfl ?_
  refine z_iadd C dL_law_746 ?_
  refine z_sld C hX hbl hbA (z + 3).toNat (by omega) (by omega) (by omega) hw3 dL_law_747 ?_
  refine z_cV (As := [.int (zI (w1)), .int (zI (w2)), .int (zI (w3))]) (rest := []) (ci := 12) C (c_X10_then l D A cs tt N1 ad1 _ 921 (by omega) x (by omega) F r hM1 w1 hw1r w2 hw2r w3 hw3r) (by omega) hay4 hM1.1 rfl rfl mv_yX10_then q_1980 hd_yX10_then (by decide) (Nat.le_of_ble_eq_true rfl) ⟨show k + 6 + 0 ≤ 601024 by omega, show n + 60 + 0 ≤ 7293034 by omega⟩ dL_law_748 rfl (kI0 fun ry gy hy => ?_)
  obtain ⟨hry, ⟨F2, r2, hM2, hF2⟩, hG2⟩ := hy
  refine z_istore (lv' := [(6, .int (zI (ry))), (5, .int (zI (rk))), (4, .int (zI (z))), (3, .ref (ad1 951)), (2, .ref (ad1 921)), (1, .ref (ad1 0)), (0, .ref b)]) C dL_law_751 (by decide) rfl ?_
  refine z_goto (tgt := 1376) C dL_law_753 (by decide) ?_
  refine z_lv (lv' := [(4, .int (zI (z))), (3, .ref (ad1 951)), (2, .ref (ad1 921)), (1, .ref (ad1 0)), (0, .ref b)]) [2, 3, 4, 5, 6] rfl ?_
  refine z_widen (k2 := k + 16) (n2 := n + 2150) (show k + 6 + 0 ≤ k + 16 by omega) (show n + 60 + 0 ≤ n + 2150 by omega) ?_
  exact hK _ _ _ _ hN2 ⟨_, _, _, _, _, _, _, _, _, _, _, _, _, _, _, _, _, _, _, _, _, _, _, _, (hR1.o951 (fun j hj => hG2 j (by omega))), hM2, (hJ.keep hF2)⟩ ((hG2 951 (by omega)).trans hq1)

set_option maxRecDepth 100000 in
set_option maxHeartbeats 4000000 in
theorem law_c15 {p : Program} {l : Launch} {e : Env} {s : State} {m : MethodId} {below : List Frame} {meth : Method} {c : Code} {D : va_G} {A : Nat → Prop} {cs : Nat → ClassId} {tt : Nat} {b L : Nat} {xs : Nat → Int32} {N : Nat} {ad : Nat → Nat} {g : Nat → va_E} {k n : Nat} {x z : Int} {q : Nat → Int} {w1 w2 w3 w4 w5 : Int} (hl0 : l.stackTraces = false) (C : zC p s m #[Value.ref b] c cL_law 7 RL D A cs tt) (hr : meth.sig.returnType = ret) (hlk : meth.locks = false) (hA : ∀ q, A q → s.heap.size ≤ q) (hX : va_X b L xs s s.heap) (hbl : b < s.heap.size) (hbA : ¬ A b) (hL : L ≤ 3072) (hN : 952 ≤ N) (hJI : JI cs ad g N x) (hq : g 951 = jA cs 1 q) (hx : 0 ≤ x ∧ x ≤ 511) (hz : z = 6 * x) (hzL : z + 6 ≤ (L : Int)) (hk : k ≤ 590000) (hn : n ≤ 7000000) (hw1r : -2147483648 ≤ w1 ∧ w1 ≤ 2147483647) (hw1 : xs (z + 1).toNat = zI w1) (hw2r : -2147483648 ≤ w2 ∧ w2 ≤ 2147483647) (hw2 : xs (z + 2).toNat = zI w2) (hw3r : -2147483648 ≤ w3 ∧ w3 ≤ 2147483647) (hw3 : xs (z + 3).toNat = zI w3) (hw4r : -2147483648 ≤ w4 ∧ w4 ≤ 2147483647) (hw4 : xs (z + 4).toNat = zI w4) (hw5r : -2147483648 ≤ w5 ∧ w5 ≤ 2147483647) (hw5 : xs (z + 5).toNat = zI w5) (hK : ∀ (N' : Nat) (ad' : Nat → Nat) (g' : Nat → va_E) (q' : Nat → Int), 952 ≤ N' → JI cs ad' g' N' (x + 1) → g' 951 = jA cs 1 q' → zV p l e room_1 s m #[Value.ref b] below meth c (lw_Z below #[Value.ref b] s) D A 7 (N') ad' g' (k + 16) (n + 2150) 1376 [(4, .int (zI (z))), (3, .ref (ad' 951)), (2, .ref (ad' 921)), (1, .ref (ad' 0)), (0, .ref b)] []) : zV p l e room_1 s m #[Value.ref b] below meth c (lw_Z below #[Value.ref b] s) D A 7 (N) ad g (k) (n) 756 [(4, .int (zI (z))), (3, .ref (ad 951)), (2, .ref (ad 921)), (1, .ref (ad 0)), (0, .ref b)] [] := by
  have hay1 : zAt ad (0) (ad 0) := rfl
  have hay2 : zAt ad (921) (ad 921) := rfl
  have hay3 : zAt ad (951) (ad 951) := rfl
  obtain ⟨t, fp, im, nz, kz, sl, ho, ua, st, op, ai, fa, mu, tb, tp, F, r, sR, oR, aR, fR, mR, bR, pR, hR, hM, hJ⟩ := hJI
  refine z_aload_n C 3 dL_law_756 rfl ?_
  refine z_aload_n C 4 dL_law_757 rfl ?_
  refine z_iload C 0 dL_law_758 rfl ?_
  refine z_iconst (z := 1) C dL_law_760 rfl ?_
  refine z_iadd C dL_law_761 ?_
  refine z_sld C hX hbl hbA (z + 1).toNat (by omega) (by omega) (by omega) hw1 dL_law_762 ?_
  refine z_aload_n C 4 dL_law_763 rfl ?_
  refine z_iload C 0 dL_law_764 rfl ?_
  refine z_iconst (z := 2) C dL_law_766 rfl ?_
  refine z_iadd C dL_law_767 ?_
  refine z_sld C hX hbl hbA (z + 2).toNat (by omega) (by omega) (by omega) hw2 dL_law_768 ?_
  refine z_aload_n C 1 dL_law_769 rfl ?_
  refine z_cSW (As := [.ref (ad 0), .int (zI (w1)), .int (zI (w2)), .ref (ad 951)]) (rest := []) C (c_L_once l D A cs tt N ad _ hN hR hl0 q hq w1 hw1r w2 hw2r) mW_yL_once q_1233 hd_yL_once (by decide) (Nat.le_of_ble_eq_true rfl) ⟨show k + 6 ≤ 601024 by omega, show n + 60 ≤ 7293034 by omega⟩ dL_law_770 rfl (kI fun rk N1 ad1 g1 h1 => ?_)
  obtain ⟨⟨hN1, hA1, hG1⟩, h1⟩ := h1
  have hM1 : okMr cs ad1 g1 921 x F r sR oR aR fR mR bR pR := hM.grow (fun j a b => hA1 j (by omega)) (fun j a b => hG1 j (by omega) (by omega))
  have hN2 : 952 ≤ N1 := by omega
  rw [← hA1 0 (by omega), ← hA1 921 (by omega), ← hA1 951 (by omega)]
  have hay4 : zAt ad1 (921) (ad1 921) := rfl
  obtain ⟨hR1, q1, hq1⟩ := h1
  refine z_istore (lv' := [(5, .int (zI (rk))), (4, .int (zI (z))), (3, .ref (ad1 951)), (2, .ref (ad1 921)), (1, .ref (ad1 0)), (0, .ref b)]) C dL_law_773 (by decide) rfl ?_
  refine z_aload_n C 3 dL_law_775 rfl ?_
  refine z_aload_n C 5 dL_law_776 rfl ?_
  refine z_iload C 1 dL_law_777 rfl ?_
  refine z_iconst (z := 1) C dL_law_779 rfl ?_
  refine z_iadd C dL_law_780 ?_
  refine z_sld C hX hbl hbA (z + 1).toNat (by omega) (by omega) (by omega) hw1 dL_law_781 ?_
  refine z_aload_n C 5 dL_law_782 rfl ?_
  refine z_iload C 1 dL_law_783 rfl ?_
  refine z_iconst (z := 2) C dL_law_785 rfl ?_
  refine z_iadd C dL_law_786 ?_
  refine z_sld C hX hbl hbA (z + 2).toNat (by omega) (by omega) (by omega) hw2 dL_law_787 ?_
  refine z_cV (As := [.int (zI (w1)), .int (zI (w2))]) (rest := []) (ci := 12) C (c_X10_once l D A cs tt N1 ad1 _ 921 (by omega) x (by omega) F r hM1 w1 hw1r w2 hw2r) (by omega) hay4 hM1.1 rfl rfl mv_yX10_once q_1988 hd_yX10_once (by decide) (Nat.le_of_ble_eq_true rfl) ⟨show k + 6 + 0 ≤ 601024 by omega, show n + 60 + 0 ≤ 7293034 by omega⟩ dL_law_788 rfl (kI0 fun ry gy hy => ?_)
  obtain ⟨hry, ⟨F2, r2, hM2, hF2⟩, hG2⟩ := hy
  refine z_istore (lv' := [(6, .int (zI (ry))), (5, .int (zI (rk))), (4, .int (zI (z))), (3, .ref (ad1 951)), (2, .ref (ad1 921)), (1, .ref (ad1 0)), (0, .ref b)]) C dL_law_791 (by decide) rfl ?_
  refine z_goto (tgt := 1376) C dL_law_793 (by decide) ?_
  refine z_lv (lv' := [(4, .int (zI (z))), (3, .ref (ad1 951)), (2, .ref (ad1 921)), (1, .ref (ad1 0)), (0, .ref b)]) [2, 3, 4, 5, 6] rfl ?_
  refine z_widen (k2 := k + 16) (n2 := n + 2150) (show k + 6 + 0 ≤ k + 16 by omega) (show n + 60 + 0 ≤ n + 2150 by omega) ?_
  exact hK _ _ _ _ hN2 ⟨_, _, _, _, _, _, _, _, _, _, _, _, _, _, _, _, _, _, _, _, _, _, _, _, (hR1.o951 (fun j hj => hG2 j (by omega))), hM2, (hJ.keep hF2)⟩ ((hG2 951 (by omega)).trans hq1)

set_option maxRecDepth 100000 in
set_option maxHeartbeats 4000000 in
theorem law_c16 {p : Program} {l : Launch} {e : Env} {s : State} {m : MethodId} {below : List Frame} {meth : Method} {c : Code} {D : va_G} {A : Nat → Prop} {cs : Nat → ClassId} {tt : Nat} {b L : Nat} {xs : Nat → Int32} {N : Nat} {ad : Nat → Nat} {g : Nat → va_E} {k n : Nat} {x z : Int} {q : Nat → Int} {w1 w2 w3 w4 w5 : Int} (hl0 : l.stackTraces = false) (C : zC p s m #[Value.ref b] c cL_law 7 RL D A cs tt) (hr : meth.sig.returnType = ret) (hlk : meth.locks = false) (hA : ∀ q, A q → s.heap.size ≤ q) (hX : va_X b L xs s s.heap) (hbl : b < s.heap.size) (hbA : ¬ A b) (hL : L ≤ 3072) (hN : 952 ≤ N) (hJI : JI cs ad g N x) (hq : g 951 = jA cs 1 q) (hx : 0 ≤ x ∧ x ≤ 511) (hz : z = 6 * x) (hzL : z + 6 ≤ (L : Int)) (hk : k ≤ 590000) (hn : n ≤ 7000000) (hw1r : -2147483648 ≤ w1 ∧ w1 ≤ 2147483647) (hw1 : xs (z + 1).toNat = zI w1) (hw2r : -2147483648 ≤ w2 ∧ w2 ≤ 2147483647) (hw2 : xs (z + 2).toNat = zI w2) (hw3r : -2147483648 ≤ w3 ∧ w3 ≤ 2147483647) (hw3 : xs (z + 3).toNat = zI w3) (hw4r : -2147483648 ≤ w4 ∧ w4 ≤ 2147483647) (hw4 : xs (z + 4).toNat = zI w4) (hw5r : -2147483648 ≤ w5 ∧ w5 ≤ 2147483647) (hw5 : xs (z + 5).toNat = zI w5) (hK : ∀ (N' : Nat) (ad' : Nat → Nat) (g' : Nat → va_E) (q' : Nat → Int), 952 ≤ N' → JI cs ad' g' N' (x + 1) → g' 951 = jA cs 1 q' → zV p l e room_1 s m #[Value.ref b] below meth c (lw_Z below #[Value.ref b] s) D A 7 (N') ad' g' (k + 16) (n + 2150) 1376 [(4, .int (zI (z))), (3, .ref (ad' 951)), (2, .ref (ad' 921)), (1, .ref (ad' 0)), (0, .ref b)] []) : zV p l e room_1 s m #[Value.ref b] below meth c (lw_Z below #[Value.ref b] s) D A 7 (N) ad g (k) (n) 796 [(4, .int (zI (z))), (3, .ref (ad 951)), (2, .ref (ad 921)), (1, .ref (ad 0)), (0, .ref b)] [] := by
  have hay1 : zAt ad (0) (ad 0) := rfl
  have hay2 : zAt ad (921) (ad 921) := rfl
  have hay3 : zAt ad (951) (ad 951) := rfl
  obtain ⟨t, fp, im, nz, kz, sl, ho, ua, st, op, ai, fa, mu, tb, tp, F, r, sR, oR, aR, fR, mR, bR, pR, hR, hM, hJ⟩ := hJI
  refine z_aload_n C 3 dL_law_796 rfl ?_
  refine z_aload_n C 4 dL_law_797 rfl ?_
  refine z_iload C 0 dL_law_798 rfl ?_
  refine z_iconst (z := 1) C dL_law_800 rfl ?_
  refine z_iadd C dL_law_801 ?_
  refine z_sld C hX hbl hbA (z + 1).toNat (by omega) (by omega) (by omega) hw1 dL_law_802 ?_
  refine z_aload_n C 1 dL_law_803 rfl ?_
  refine z_cSW (As := [.ref (ad 0), .int (zI (w1)), .ref (ad 951)]) (rest := []) C (c_L_gone l D A cs tt N ad _ hN hR hl0 q hq w1 hw1r) mW_yL_gone q_1240 hd_yL_gone (by decide) (Nat.le_of_ble_eq_true rfl) ⟨show k + 6 ≤ 601024 by omega, show n + 60 ≤ 7293034 by omega⟩ dL_law_804 rfl (kI fun rk N1 ad1 g1 h1 => ?_)
  obtain ⟨⟨hN1, hA1, hG1⟩, h1⟩ := h1
  have hM1 : okMr cs ad1 g1 921 x F r sR oR aR fR mR bR pR := hM.grow (fun j a b => hA1 j (by omega)) (fun j a b => hG1 j (by omega) (by omega))
  have hN2 : 952 ≤ N1 := by omega
  rw [← hA1 0 (by omega), ← hA1 921 (by omega), ← hA1 951 (by omega)]
  have hay4 : zAt ad1 (921) (ad1 921) := rfl
  obtain ⟨hR1, q1, hq1⟩ := h1
  refine z_istore (lv' := [(5, .int (zI (rk))), (4, .int (zI (z))), (3, .ref (ad1 951)), (2, .ref (ad1 921)), (1, .ref (ad1 0)), (0, .ref b)]) C dL_law_807 (by decide) rfl ?_
  refine z_aload_n C 3 dL_law_809 rfl ?_
  refine z_aload_n C 5 dL_law_810 rfl ?_
  refine z_iload C 1 dL_law_811 rfl ?_
  refine z_iconst (z := 1) C dL_law_813 rfl ?_
  refine z_iadd C dL_law_814 ?_
  refine z_sld C hX hbl hbA (z + 1).toNat (by omega) (by omega) (by omega) hw1 dL_law_815 ?_
  refine z_cV (As := [.int (zI (w1))]) (rest := []) (ci := 12) C (c_X10_gone l D A cs tt N1 ad1 _ 921 (by omega) x (by omega) F r hM1 w1 hw1r) (by omega) hay4 hM1.1 rfl rfl mv_yX10_gone q_1992 hd_yX10_gone (by decide) (Nat.le_of_ble_eq_true rfl) ⟨show k + 6 + 0 ≤ 601024 by omega, show n + 60 + 0 ≤ 7293034 by omega⟩ dL_law_816 rfl (kI0 fun ry gy hy => ?_)
  obtain ⟨hry, ⟨F2, r2, hM2, hF2⟩, hG2⟩ := hy
  refine z_istore (lv' := [(6, .int (zI (ry))), (5, .int (zI (rk))), (4, .int (zI (z))), (3, .ref (ad1 951)), (2, .ref (ad1 921)), (1, .ref (ad1 0)), (0, .ref b)]) C dL_law_819 (by decide) rfl ?_
  refine z_goto (tgt := 1376) C dL_law_821 (by decide) ?_
  refine z_lv (lv' := [(4, .int (zI (z))), (3, .ref (ad1 951)), (2, .ref (ad1 921)), (1, .ref (ad1 0)), (0, .ref b)]) [2, 3, 4, 5, 6] rfl ?_
  refine z_widen (k2 := k + 16) (n2 := n + 2150) (show k + 6 + 0 ≤ k + 16 by omega) (show n + 60 + 0 ≤ n + 2150 by omega) ?_
  exact hK _ _ _ _ hN2 ⟨_, _, _, _, _, _, _, _, _, _, _, _, _, _, _, _, _, _, _, _, _, _, _, _, (hR1.o951 (fun j hj => hG2 j (by omega))), hM2, (hJ.keep hF2)⟩ ((hG2 951 (by omega)).trans hq1)

set_option maxRecDepth 100000 in
set_option maxHeartbeats 4000000 in
theorem law_c17 {p : Program} {l : Launch} {e : Env} {s : State} {m : MethodId} {below : List Frame} {meth : Method} {c : Code} {D : va_G} {A : Nat → Prop} {cs : Nat → ClassId} {tt : Nat} {b L : Nat} {xs : Nat → Int32} {N : Nat} {ad : Nat → Nat} {g : Nat → va_E} {k n : Nat} {x z : Int} {q : Nat → Int} {w1 w2 w3 w4 w5 : Int} (hl0 : l.stackTraces = false) (C : zC p s m #[Value.ref b] c cL_law 7 RL D A cs tt) (hr : meth.sig.returnType = ret) (hlk : meth.locks = false) (hA : ∀ q, A q → s.heap.size ≤ q) (hX : va_X b L xs s s.heap) (hbl : b < s.heap.size) (hbA : ¬ A b) (hL : L ≤ 3072) (hN : 952 ≤ N) (hJI : JI cs ad g N x) (hq : g 951 = jA cs 1 q) (hx : 0 ≤ x ∧ x ≤ 511) (hz : z = 6 * x) (hzL : z + 6 ≤ (L : Int)) (hk : k ≤ 590000) (hn : n ≤ 7000000) (hw1r : -2147483648 ≤ w1 ∧ w1 ≤ 2147483647) (hw1 : xs (z + 1).toNat = zI w1) (hw2r : -2147483648 ≤ w2 ∧ w2 ≤ 2147483647) (hw2 : xs (z + 2).toNat = zI w2) (hw3r : -2147483648 ≤ w3 ∧ w3 ≤ 2147483647) (hw3 : xs (z + 3).toNat = zI w3) (hw4r : -2147483648 ≤ w4 ∧ w4 ≤ 2147483647) (hw4 : xs (z + 4).toNat = zI w4) (hw5r : -2147483648 ≤ w5 ∧ w5 ≤ 2147483647) (hw5 : xs (z + 5).toNat = zI w5) (hK : ∀ (N' : Nat) (ad' : Nat → Nat) (g' : Nat → va_E) (q' : Nat → Int), 952 ≤ N' → JI cs ad' g' N' (x + 1) → g' 951 = jA cs 1 q' → zV p l e room_1 s m #[Value.ref b] below meth c (lw_Z below #[Value.ref b] s) D A 7 (N') ad' g' (k + 16) (n + 2150) 1376 [(4, .int (zI (z))), (3, .ref (ad' 951)), (2, .ref (ad' 921)), (1, .ref (ad' 0)), (0, .ref b)] []) : zV p l e room_1 s m #[Value.ref b] below meth c (lw_Z below #[Value.ref b] s) D A 7 (N) ad g (k) (n) 824 [(4, .int (zI (z))), (3, .ref (ad 951)), (2, .ref (ad 921)), (1, .ref (ad 0)), (0, .ref b)] [] := by
  have hay1 : zAt ad (0) (ad 0) := rfl
  have hay2 : zAt ad (921) (ad 921) := rfl
  have hay3 : zAt ad (951) (ad 951) := rfl
  obtain ⟨t, fp, im, nz, kz, sl, ho, ua, st, op, ai, fa, mu, tb, tp, F, r, sR, oR, aR, fR, mR, bR, pR, hR, hM, hJ⟩ := hJI
  refine z_aload_n C 3 dL_law_824 rfl ?_
  refine z_aload_n C 4 dL_law_825 rfl ?_
  refine z_iload C 0 dL_law_826 rfl ?_
  refine z_iconst (z := 1) C dL_law_828 rfl ?_
  refine z_iadd C dL_law_829 ?_
  refine z_sld C hX hbl hbA (z + 1).toNat (by omega) (by omega) (by omega) hw1 dL_law_830 ?_
  refine z_aload_n C 4 dL_law_831 rfl ?_
  refine z_iload C 0 dL_law_832 rfl ?_
  refine z_iconst (z := 2) C dL_law_834 rfl ?_
  refine z_iadd C dL_law_835 ?_
  refine z_sld C hX hbl hbA (z + 2).toNat (by omega) (by omega) (by omega) hw2 dL_law_836 ?_
  refine z_aload_n C 1 dL_law_837 rfl ?_
  refine z_cSW (As := [.ref (ad 0), .int (zI (w1)), .int (zI (w2)), .ref (ad 951)]) (rest := []) C (c_L_stands l D A cs tt N ad _ hN hR hl0 q hq w1 hw1r w2 hw2r) mW_yL_stands q_1256 hd_yL_stands (by decide) (Nat.le_of_ble_eq_true rfl) ⟨show k + 6 ≤ 601024 by omega, show n + 36 ≤ 7293034 by omega⟩ dL_law_838 rfl (kI fun rk N1 ad1 g1 h1 => ?_)
  obtain ⟨⟨hN1, hA1, hG1⟩, h1⟩ := h1
  have hM1 : okMr cs ad1 g1 921 x F r sR oR aR fR mR bR pR := hM.grow (fun j a b => hA1 j (by omega)) (fun j a b => hG1 j (by omega) (by omega))
  have hN2 : 952 ≤ N1 := by omega
  rw [← hA1 0 (by omega), ← hA1 921 (by omega), ← hA1 951 (by omega)]
  have hay4 : zAt ad1 (921) (ad1 921) := rfl
  obtain ⟨hR1, q1, hq1⟩ := h1
  refine z_istore (lv' := [(5, .int (zI (rk))), (4, .int (zI (z))), (3, .ref (ad1 951)), (2, .ref (ad1 921)), (1, .ref (ad1 0)), (0, .ref b)]) C dL_law_841 (by decide) rfl ?_
  refine z_aload_n C 3 dL_law_843 rfl ?_
  refine z_aload_n C 5 dL_law_844 rfl ?_
  refine z_iload C 1 dL_law_845 rfl ?_
  refine z_iconst (z := 1) C dL_law_847 rfl ?_
  refine z_iadd C dL_law_848 ?_
  refine z_sld C hX hbl hbA (z + 1).toNat (by omega) (by omega) (by omega) hw1 dL_law_849 ?_
  refine z_aload_n C 5 dL_law_850 rfl ?_
  refine z_iload C 1 dL_law_851 rfl ?_
  refine z_iconst (z := 2) C dL_law_853 rfl ?_
  refine z_iadd C dL_law_854 ?_
  refine z_sld C hX hbl hbA (z + 2).toNat (by omega) (by omega) (by omega) hw2 dL_law_855 ?_
  refine z_cV (As := [.int (zI (w1)), .int (zI (w2))]) (rest := []) (ci := 12) C (c_X10_stands l D A cs tt N1 ad1 _ 921 (by omega) x (by omega) F r hM1 w1 hw1r w2 hw2r) (by omega) hay4 hM1.1 rfl rfl mv_yX10_stands q_2000 hd_yX10_stands (by decide) (Nat.le_of_ble_eq_true rfl) ⟨show k + 6 + 0 ≤ 601024 by omega, show n + 36 + 0 ≤ 7293034 by omega⟩ dL_law_856 rfl (kI0 fun ry gy hy => ?_)
  obtain ⟨hry, ⟨F2, r2, hM2, hF2⟩, hG2⟩ := hy
  refine z_istore (lv' := [(6, .int (zI (ry))), (5, .int (zI (rk))), (4, .int (zI (z))), (3, .ref (ad1 951)), (2, .ref (ad1 921)), (1, .ref (ad1 0)), (0, .ref b)]) C dL_law_859 (by decide) rfl ?_
  refine z_goto (tgt := 1376) C dL_law_861 (by decide) ?_
  refine z_lv (lv' := [(4, .int (zI (z))), (3, .ref (ad1 951)), (2, .ref (ad1 921)), (1, .ref (ad1 0)), (0, .ref b)]) [2, 3, 4, 5, 6] rfl ?_
  refine z_widen (k2 := k + 16) (n2 := n + 2150) (show k + 6 + 0 ≤ k + 16 by omega) (show n + 36 + 0 ≤ n + 2150 by omega) ?_
  exact hK _ _ _ _ hN2 ⟨_, _, _, _, _, _, _, _, _, _, _, _, _, _, _, _, _, _, _, _, _, _, _, _, (hR1.o951 (fun j hj => hG2 j (by omega))), hM2, (hJ.keep hF2)⟩ ((hG2 951 (by omega)).trans hq1)

set_option maxRecDepth 100000 in
set_option maxHeartbeats 4000000 in
theorem law_c18 {p : Program} {l : Launch} {e : Env} {s : State} {m : MethodId} {below : List Frame} {meth : Method} {c : Code} {D : va_G} {A : Nat → Prop} {cs : Nat → ClassId} {tt : Nat} {b L : Nat} {xs : Nat → Int32} {N : Nat} {ad : Nat → Nat} {g : Nat → va_E} {k n : Nat} {x z : Int} {q : Nat → Int} {w1 w2 w3 w4 w5 : Int} (hl0 : l.stackTraces = false) (C : zC p s m #[Value.ref b] c cL_law 7 RL D A cs tt) (hr : meth.sig.returnType = ret) (hlk : meth.locks = false) (hA : ∀ q, A q → s.heap.size ≤ q) (hX : va_X b L xs s s.heap) (hbl : b < s.heap.size) (hbA : ¬ A b) (hL : L ≤ 3072) (hN : 952 ≤ N) (hJI : JI cs ad g N x) (hq : g 951 = jA cs 1 q) (hx : 0 ≤ x ∧ x ≤ 511) (hz : z = 6 * x) (hzL : z + 6 ≤ (L : Int)) (hk : k ≤ 590000) (hn : n ≤ 7000000) (hw1r : -2147483648 ≤ w1 ∧ w1 ≤ 2147483647) (hw1 : xs (z + 1).toNat = zI w1) (hw2r : -2147483648 ≤ w2 ∧ w2 ≤ 2147483647) (hw2 : xs (z + 2).toNat = zI w2) (hw3r : -2147483648 ≤ w3 ∧ w3 ≤ 2147483647) (hw3 : xs (z + 3).toNat = zI w3) (hw4r : -2147483648 ≤ w4 ∧ w4 ≤ 2147483647) (hw4 : xs (z + 4).toNat = zI w4) (hw5r : -2147483648 ≤ w5 ∧ w5 ≤ 2147483647) (hw5 : xs (z + 5).toNat = zI w5) (hK : ∀ (N' : Nat) (ad' : Nat → Nat) (g' : Nat → va_E) (q' : Nat → Int), 952 ≤ N' → JI cs ad' g' N' (x + 1) → g' 951 = jA cs 1 q' → zV p l e room_1 s m #[Value.ref b] below meth c (lw_Z below #[Value.ref b] s) D A 7 (N') ad' g' (k + 16) (n + 2150) 1376 [(4, .int (zI (z))), (3, .ref (ad' 951)), (2, .ref (ad' 921)), (1, .ref (ad' 0)), (0, .ref b)] []) : zV p l e room_1 s m #[Value.ref b] below meth c (lw_Z below #[Value.ref b] s) D A 7 (N) ad g (k) (n) 864 [(4, .int (zI (z))), (3, .ref (ad 951)), (2, .ref (ad 921)), (1, .ref (ad 0)), (0, .ref b)] [] := by
  have hay1 : zAt ad (0) (ad 0) := rfl
  have hay2 : zAt ad (921) (ad 921) := rfl
  have hay3 : zAt ad (951) (ad 951) := rfl
  obtain ⟨t, fp, im, nz, kz, sl, ho, ua, st, op, ai, fa, mu, tb, tp, F, r, sR, oR, aR, fR, mR, bR, pR, hR, hM, hJ⟩ := hJI
  refine z_aload_n C 3 dL_law_864 rfl ?_
  refine z_aload_n C 4 dL_law_865 rfl ?_
  refine z_iload C 0 dL_law_866 rfl ?_
  refine z_iconst (z := 1) C dL_law_868 rfl ?_
  refine z_iadd C dL_law_869 ?_
  refine z_sld C hX hbl hbA (z + 1).toNat (by omega) (by omega) (by omega) hw1 dL_law_870 ?_
  refine z_aload_n C 1 dL_law_871 rfl ?_
  refine z_cSW (As := [.ref (ad 0), .int (zI (w1)), .ref (ad 951)]) (rest := []) C (c_L_toLoad l D A cs tt N ad _ hN hR hl0 q hq w1 hw1r) mW_yL_toLoad q_1267 hd_yL_toLoad (by decide) (Nat.le_of_ble_eq_true rfl) ⟨show k + 6 ≤ 601024 by omega, show n + 36 ≤ 7293034 by omega⟩ dL_law_872 rfl (kI fun rk N1 ad1 g1 h1 => ?_)
  obtain ⟨⟨hN1, hA1, hG1⟩, h1⟩ := h1
  have hM1 : okMr cs ad1 g1 921 x F r sR oR aR fR mR bR pR := hM.grow (fun j a b => hA1 j (by omega)) (fun j a b => hG1 j (by omega) (by omega))
  have hN2 : 952 ≤ N1 := by omega
  rw [← hA1 0 (by omega), ← hA1 921 (by omega), ← hA1 951 (by omega)]
  have hay4 : zAt ad1 (921) (ad1 921) := rfl
  obtain ⟨hR1, q1, hq1⟩ := h1
  refine z_istore (lv' := [(5, .int (zI (rk))), (4, .int (zI (z))), (3, .ref (ad1 951)), (2, .ref (ad1 921)), (1, .ref (ad1 0)), (0, .ref b)]) C dL_law_875 (by decide) rfl ?_
  refine z_aload_n C 3 dL_law_877 rfl ?_
  refine z_aload_n C 5 dL_law_878 rfl ?_
  refine z_iload C 1 dL_law_879 rfl ?_
  refine z_iconst (z := 1) C dL_law_881 rfl ?_
  refine z_iadd C dL_law_882 ?_
  refine z_sld C hX hbl hbA (z + 1).toNat (by omega) (by omega) (by omega) hw1 dL_law_883 ?_
  refine z_cV (As := [.int (zI (w1))]) (rest := []) (ci := 12) C (c_X10_toLoad l D A cs tt N1 ad1 _ 921 (by omega) x (by omega) F r hM1 w1 hw1r) (by omega) hay4 hM1.1 rfl rfl mv_yX10_toLoad q_2007 hd_yX10_toLoad (by decide) (Nat.le_of_ble_eq_true rfl) ⟨show k + 6 + 0 ≤ 601024 by omega, show n + 36 + 0 ≤ 7293034 by omega⟩ dL_law_884 rfl (kI0 fun ry gy hy => ?_)
  obtain ⟨hry, ⟨F2, r2, hM2, hF2⟩, hG2⟩ := hy
  refine z_istore (lv' := [(6, .int (zI (ry))), (5, .int (zI (rk))), (4, .int (zI (z))), (3, .ref (ad1 951)), (2, .ref (ad1 921)), (1, .ref (ad1 0)), (0, .ref b)]) C dL_law_887 (by decide) rfl ?_
  refine z_goto (tgt := 1376) C dL_law_889 (by decide) ?_
  refine z_lv (lv' := [(4, .int (zI (z))), (3, .ref (ad1 951)), (2, .ref (ad1 921)), (1, .ref (ad1 0)), (0, .ref b)]) [2, 3, 4, 5, 6] rfl ?_
  refine z_widen (k2 := k + 16) (n2 := n + 2150) (show k + 6 + 0 ≤ k + 16 by omega) (show n + 36 + 0 ≤ n + 2150 by omega) ?_
  exact hK _ _ _ _ hN2 ⟨_, _, _, _, _, _, _, _, _, _, _, _, _, _, _, _, _, _, _, _, _, _, _, _, (hR1.o951 (fun j hj => hG2 j (by omega))), hM2, (hJ.keep hF2)⟩ ((hG2 951 (by omega)).trans hq1)

set_option maxRecDepth 100000 in
set_option maxHeartbeats 4000000 in
theorem law_c19 {p : Program} {l : Launch} {e : Env} {s : State} {m : MethodId} {below : List Frame} {meth : Method} {c : Code} {D : va_G} {A : Nat → Prop} {cs : Nat → ClassId} {tt : Nat} {b L : Nat} {xs : Nat → Int32} {N : Nat} {ad : Nat → Nat} {g : Nat → va_E} {k n : Nat} {x z : Int} {q : Nat → Int} {w1 w2 w3 w4 w5 : Int} (hl0 : l.stackTraces = false) (C : zC p s m #[Value.ref b] c cL_law 7 RL D A cs tt) (hr : meth.sig.returnType = ret) (hlk : meth.locks = false) (hA : ∀ q, A q → s.heap.size ≤ q) (hX : va_X b L xs s s.heap) (hbl : b < s.heap.size) (hbA : ¬ A b) (hL : L ≤ 3072) (hN : 952 ≤ N) (hJI : JI cs ad g N x) (hq : g 951 = jA cs 1 q) (hx : 0 ≤ x ∧ x ≤ 511) (hz : z = 6 * x) (hzL : z + 6 ≤ (L : Int)) (hk : k ≤ 590000) (hn : n ≤ 7000000) (hw1r : -2147483648 ≤ w1 ∧ w1 ≤ 2147483647) (hw1 : xs (z + 1).toNat = zI w1) (hw2r : -2147483648 ≤ w2 ∧ w2 ≤ 2147483647) (hw2 : xs (z + 2).toNat = zI w2) (hw3r : -2147483648 ≤ w3 ∧ w3 ≤ 2147483647) (hw3 : xs (z + 3).toNat = zI w3) (hw4r : -2147483648 ≤ w4 ∧ w4 ≤ 2147483647) (hw4 : xs (z + 4).toNat = zI w4) (hw5r : -2147483648 ≤ w5 ∧ w5 ≤ 2147483647) (hw5 : xs (z + 5).toNat = zI w5) (hK : ∀ (N' : Nat) (ad' : Nat → Nat) (g' : Nat → va_E) (q' : Nat → Int), 952 ≤ N' → JI cs ad' g' N' (x + 1) → g' 951 = jA cs 1 q' → zV p l e room_1 s m #[Value.ref b] below meth c (lw_Z below #[Value.ref b] s) D A 7 (N') ad' g' (k + 16) (n + 2150) 1376 [(4, .int (zI (z))), (3, .ref (ad' 951)), (2, .ref (ad' 921)), (1, .ref (ad' 0)), (0, .ref b)] []) : zV p l e room_1 s m #[Value.ref b] below meth c (lw_Z below #[Value.ref b] s) D A 7 (N) ad g (k) (n) 892 [(4, .int (zI (z))), (3, .ref (ad 951)), (2, .ref (ad 921)), (1, .ref (ad 0)), (0, .ref b)] [] := by
  have hay1 : zAt ad (0) (ad 0) := rfl
  have hay2 : zAt ad (921) (ad 921) := rfl
  have hay3 : zAt ad (951) (ad 951) := rfl
  obtain ⟨t, fp, im, nz, kz, sl, ho, ua, st, op, ai, fa, mu, tb, tp, F, r, sR, oR, aR, fR, mR, bR, pR, hR, hM, hJ⟩ := hJI
  refine z_aload_n C 3 dL_law_892 rfl ?_
  refine z_aload_n C 4 dL_law_893 rfl ?_
  refine z_iload C 0 dL_law_894 rfl ?_
  refine z_iconst (z := 1) C dL_law_896 rfl ?_
  refine z_iadd C dL_law_897 ?_
  refine z_sld C hX hbl hbA (z + 1).toNat (by omega) (by omega) (by omega) hw1 dL_law_898 ?_
  refine z_aload_n C 1 dL_law_899 rfl ?_
  refine z_cSW (As := [.ref (ad 0), .int (zI (w1)), .ref (ad 951)]) (rest := []) C (c_L_steepest l D A cs tt N ad _ hN hR hl0 q hq w1 hw1r) mW_yL_steepest q_1274 hd_yL_steepest (by decide) (Nat.le_of_ble_eq_true rfl) ⟨show k + 6 ≤ 601024 by omega, show n + 36 ≤ 7293034 by omega⟩ dL_law_900 rfl (kI fun rk N1 ad1 g1 h1 => ?_)
  obtain ⟨⟨hN1, hA1, hG1⟩, h1⟩ := h1
  have hM1 : okMr cs ad1 g1 921 x F r sR oR aR fR mR bR pR := hM.grow (fun j a b => hA1 j (by omega)) (fun j a b => hG1 j (by omega) (by omega))
  have hN2 : 952 ≤ N1 := by omega
  rw [← hA1 0 (by omega), ← hA1 921 (by omega), ← hA1 951 (by omega)]
  have hay4 : zAt ad1 (921) (ad1 921) := rfl
  obtain ⟨hR1, q1, hq1⟩ := h1
  refine z_istore (lv' := [(5, .int (zI (rk))), (4, .int (zI (z))), (3, .ref (ad1 951)), (2, .ref (ad1 921)), (1, .ref (ad1 0)), (0, .ref b)]) C dL_law_903 (by decide) rfl ?_
  refine z_aload_n C 3 dL_law_905 rfl ?_
  refine z_aload_n C 5 dL_law_906 rfl ?_
  refine z_iload C 1 dL_law_907 rfl ?_
  refine z_iconst (z := 1) C dL_law_909 rfl ?_
  refine z_iadd C dL_law_910 ?_
  refine z_sld C hX hbl hbA (z + 1).toNat (by omega) (by omega) (by omega) hw1 dL_law_911 ?_
  refine z_cV (As := [.int (zI (w1))]) (rest := []) (ci := 12) C (c_X10_steepest l D A cs tt N1 ad1 _ 921 (by omega) x (by omega) F r hM1 w1 hw1r) (by omega) hay4 hM1.1 rfl rfl mv_yX10_steepest q_2011 hd_yX10_steepest (by decide) (Nat.le_of_ble_eq_true rfl) ⟨show k + 6 + 0 ≤ 601024 by omega, show n + 36 + 0 ≤ 7293034 by omega⟩ dL_law_912 rfl (kI0 fun ry gy hy => ?_)
  obtain ⟨hry, ⟨F2, r2, hM2, hF2⟩, hG2⟩ := hy
  refine z_istore (lv' := [(6, .int (zI (ry))), (5, .int (zI (rk))), (4, .int (zI (z))), (3, .ref (ad1 951)), (2, .ref (ad1 921)), (1, .ref (ad1 0)), (0, .ref b)]) C dL_law_915 (by decide) rfl ?_
  refine z_goto (tgt := 1376) C dL_law_917 (by decide) ?_
  refine z_lv (lv' := [(4, .int (zI (z))), (3, .ref (ad1 951)), (2, .ref (ad1 921)), (1, .ref (ad1 0)), (0, .ref b)]) [2, 3, 4, 5, 6] rfl ?_
  refine z_widen (k2 := k + 16) (n2 := n + 2150) (show k + 6 + 0 ≤ k + 16 by omega) (show n + 36 + 0 ≤ n + 2150 by omega) ?_
  exact hK _ _ _ _ hN2 ⟨_, _, _, _, _, _, _, _, _, _, _, _, _, _, _, _, _, _, _, _, _, _, _, _, (hR1.o951 (fun j hj => hG2 j (by omega))), hM2, (hJ.keep hF2)⟩ ((hG2 951 (by omega)).trans hq1)

set_option maxRecDepth 100000 in
set_option maxHeartbeats 4000000 in
theorem law_c20 {p : Program} {l : Launch} {e : Env} {s : State} {m : MethodId} {below : List Frame} {meth : Method} {c : Code} {D : va_G} {A : Nat → Prop} {cs : Nat → ClassId} {tt : Nat} {b L : Nat} {xs : Nat → Int32} {N : Nat} {ad : Nat → Nat} {g : Nat → va_E} {k n : Nat} {x z : Int} {q : Nat → Int} {w1 w2 w3 w4 w5 : Int} (hl0 : l.stackTraces = false) (C : zC p s m #[Value.ref b] c cL_law 7 RL D A cs tt) (hr : meth.sig.returnType = ret) (hlk : meth.locks = false) (hA : ∀ q, A q → s.heap.size ≤ q) (hX : va_X b L xs s s.heap) (hbl : b < s.heap.size) (hbA : ¬ A b) (hL : L ≤ 3072) (hN : 952 ≤ N) (hJI : JI cs ad g N x) (hq : g 951 = jA cs 1 q) (hx : 0 ≤ x ∧ x ≤ 511) (hz : z = 6 * x) (hzL : z + 6 ≤ (L : Int)) (hk : k ≤ 590000) (hn : n ≤ 7000000) (hw1r : -2147483648 ≤ w1 ∧ w1 ≤ 2147483647) (hw1 : xs (z + 1).toNat = zI w1) (hw2r : -2147483648 ≤ w2 ∧ w2 ≤ 2147483647) (hw2 : xs (z + 2).toNat = zI w2) (hw3r : -2147483648 ≤ w3 ∧ w3 ≤ 2147483647) (hw3 : xs (z + 3).toNat = zI w3) (hw4r : -2147483648 ≤ w4 ∧ w4 ≤ 2147483647) (hw4 : xs (z + 4).toNat = zI w4) (hw5r : -2147483648 ≤ w5 ∧ w5 ≤ 2147483647) (hw5 : xs (z + 5).toNat = zI w5) (hK : ∀ (N' : Nat) (ad' : Nat → Nat) (g' : Nat → va_E) (q' : Nat → Int), 952 ≤ N' → JI cs ad' g' N' (x + 1) → g' 951 = jA cs 1 q' → zV p l e room_1 s m #[Value.ref b] below meth c (lw_Z below #[Value.ref b] s) D A 7 (N') ad' g' (k + 16) (n + 2150) 1376 [(4, .int (zI (z))), (3, .ref (ad' 951)), (2, .ref (ad' 921)), (1, .ref (ad' 0)), (0, .ref b)] []) : zV p l e room_1 s m #[Value.ref b] below meth c (lw_Z below #[Value.ref b] s) D A 7 (N) ad g (k) (n) 920 [(4, .int (zI (z))), (3, .ref (ad 951)), (2, .ref (ad 921)), (1, .ref (ad 0)), (0, .ref b)] [] := by
  have hay1 : zAt ad (0) (ad 0) := rfl
  have hay2 : zAt ad (921) (ad 921) := rfl
  have hay3 : zAt ad (951) (ad 951) := rfl
  obtain ⟨t, fp, im, nz, kz, sl, ho, ua, st, op, ai, fa, mu, tb, tp, F, r, sR, oR, aR, fR, mR, bR, pR, hR, hM, hJ⟩ := hJI
  refine z_aload_n C 3 dL_law_920 rfl ?_
  refine z_aload_n C 4 dL_law_921 rfl ?_
  refine z_iload C 0 dL_law_922 rfl ?_
  refine z_iconst (z := 1) C dL_law_924 rfl ?_
  refine z_iadd C dL_law_925 ?_
  refine z_sld C hX hbl hbA (z + 1).toNat (by omega) (by omega) (by omega) hw1 dL_law_926 ?_
  refine z_aload_n C 4 dL_law_927 rfl ?_
  refine z_iload C 0 dL_law_928 rfl ?_
  refine z_iconst (z := 2) C dL_law_930 rfl ?_
  refine z_iadd C dL_law_931 ?_
  refine z_sld C hX hbl hbA (z + 2).toNat (by omega) (by omega) (by omega) hw2 dL_law_932 ?_
  refine z_aload_n C 1 dL_law_933 rfl ?_
  refine z_cSW (As := [.ref (ad 0), .int (zI (w1)), .int (zI (w2)), .ref (ad 951)]) (rest := []) C (c_L_toWarm l D A cs tt N ad _ hN hR hl0 q hq w1 hw1r w2 hw2r) mW_yL_toWarm q_1281 hd_yL_toWarm (by decide) (Nat.le_of_ble_eq_true rfl) ⟨show k + 6 ≤ 601024 by omega, show n + 60 ≤ 7293034 by omega⟩ dL_law_934 rfl (kI fun rk N1 ad1 g1 h1 => ?_)
  obtain ⟨⟨hN1, hA1, hG1⟩, h1⟩ := h1
  have hM1 : okMr cs ad1 g1 921 x F r sR oR aR fR mR bR pR := hM.grow (fun j a b => hA1 j (by omega)) (fun j a b => hG1 j (by omega) (by omega))
  have hN2 : 952 ≤ N1 := by omega
  rw [← hA1 0 (by omega), ← hA1 921 (by omega), ← hA1 951 (by omega)]
  have hay4 : zAt ad1 (921) (ad1 921) := rfl
  obtain ⟨hR1, q1, hq1⟩ := h1
  refine z_istore (lv' := [(5, .int (zI (rk))), (4, .int (zI (z))), (3, .ref (ad1 951)), (2, .ref (ad1 921)), (1, .ref (ad1 0)), (0, .ref b)]) C dL_law_937 (by decide) rfl ?_
  refine z_aload_n C 3 dL_law_939 rfl ?_
  refine z_aload_n C 5 dL_law_940 rfl ?_
  refine z_iload C 1 dL_law_941 rfl ?_
  refine z_iconst (z := 1) C dL_law_943 rfl ?_
  refine z_iadd C dL_law_944 ?_
  refine z_sld C hX hbl hbA (z + 1).toNat (by omega) (by omega) (by omega) hw1 dL_law_945 ?_
  refine z_aload_n C 5 dL_law_946 rfl ?_
  refine z_iload C 1 dL_law_947 rfl ?_
  refine z_iconst (z := 2) C dL_law_949 rfl ?_
  refine z_iadd C dL_law_950 ?_
  refine z_sld C hX hbl hbA (z + 2).toNat (by omega) (by omega) (by omega) hw2 dL_law_951 ?_
  refine z_cV (As := [.int (zI (w1)), .int (zI (w2))]) (rest := []) (ci := 12) C (c_X10_toWarm l D A cs tt N1 ad1 _ 921 (by omega) x (by omega) F r hM1 w1 hw1r w2 hw2r) (by omega) hay4 hM1.1 rfl rfl mv_yX10_toWarm q_2015 hd_yX10_toWarm (by decide) (Nat.le_of_ble_eq_true rfl) ⟨show k + 6 + 0 ≤ 601024 by omega, show n + 60 + 0 ≤ 7293034 by omega⟩ dL_law_952 rfl (kI0 fun ry gy hy => ?_)
  obtain ⟨hry, ⟨F2, r2, hM2, hF2⟩, hG2⟩ := hy
  refine z_istore (lv' := [(6, .int (zI (ry))), (5, .int (zI (rk))), (4, .int (zI (z))), (3, .ref (ad1 951)), (2, .ref (ad1 921)), (1, .ref (ad1 0)), (0, .ref b)]) C dL_law_955 (by decide) rfl ?_
  refine z_goto (tgt := 1376) C dL_law_957 (by decide) ?_
  refine z_lv (lv' := [(4, .int (zI (z))), (3, .ref (ad1 951)), (2, .ref (ad1 921)), (1, .ref (ad1 0)), (0, .ref b)]) [2, 3, 4, 5, 6] rfl ?_
  refine z_widen (k2 := k + 16) (n2 := n + 2150) (show k + 6 + 0 ≤ k + 16 by omega) (show n + 60 + 0 ≤ n + 2150 by omega) ?_
  exact hK _ _ _ _ hN2 ⟨_, _, _, _, _, _, _, _, _, _, _, _, _, _, _, _, _, _, _, _, _, _, _, _, (hR1.o951 (fun j hj => hG2 j (by omega))), hM2, (hJ.keep hF2)⟩ ((hG2 951 (by omega)).trans hq1)

set_option maxRecDepth 100000 in
set_option maxHeartbeats 4000000 in
theorem law_c21 {p : Program} {l : Launch} {e : Env} {s : State} {m : MethodId} {below : List Frame} {meth : Method} {c : Code} {D : va_G} {A : Nat → Prop} {cs : Nat → ClassId} {tt : Nat} {b L : Nat} {xs : Nat → Int32} {N : Nat} {ad : Nat → Nat} {g : Nat → va_E} {k n : Nat} {x z : Int} {q : Nat → Int} {w1 w2 w3 w4 w5 : Int} (hl0 : l.stackTraces = false) (C : zC p s m #[Value.ref b] c cL_law 7 RL D A cs tt) (hr : meth.sig.returnType = ret) (hlk : meth.locks = false) (hA : ∀ q, A q → s.heap.size ≤ q) (hX : va_X b L xs s s.heap) (hbl : b < s.heap.size) (hbA : ¬ A b) (hL : L ≤ 3072) (hN : 952 ≤ N) (hJI : JI cs ad g N x) (hq : g 951 = jA cs 1 q) (hx : 0 ≤ x ∧ x ≤ 511) (hz : z = 6 * x) (hzL : z + 6 ≤ (L : Int)) (hk : k ≤ 590000) (hn : n ≤ 7000000) (hw1r : -2147483648 ≤ w1 ∧ w1 ≤ 2147483647) (hw1 : xs (z + 1).toNat = zI w1) (hw2r : -2147483648 ≤ w2 ∧ w2 ≤ 2147483647) (hw2 : xs (z + 2).toNat = zI w2) (hw3r : -2147483648 ≤ w3 ∧ w3 ≤ 2147483647) (hw3 : xs (z + 3).toNat = zI w3) (hw4r : -2147483648 ≤ w4 ∧ w4 ≤ 2147483647) (hw4 : xs (z + 4).toNat = zI w4) (hw5r : -2147483648 ≤ w5 ∧ w5 ≤ 2147483647) (hw5 : xs (z + 5).toNat = zI w5) (hK : ∀ (N' : Nat) (ad' : Nat → Nat) (g' : Nat → va_E) (q' : Nat → Int), 952 ≤ N' → JI cs ad' g' N' (x + 1) → g' 951 = jA cs 1 q' → zV p l e room_1 s m #[Value.ref b] below meth c (lw_Z below #[Value.ref b] s) D A 7 (N') ad' g' (k + 16) (n + 2150) 1376 [(4, .int (zI (z))), (3, .ref (ad' 951)), (2, .ref (ad' 921)), (1, .ref (ad' 0)), (0, .ref b)] []) : zV p l e room_1 s m #[Value.ref b] below meth c (lw_Z below #[Value.ref b] s) D A 7 (N) ad g (k) (n) 960 [(4, .int (zI (z))), (3, .ref (ad 951)), (2, .ref (ad 921)), (1, .ref (ad 0)), (0, .ref b)] [] := by
  have hay1 : zAt ad (0) (ad 0) := rfl
  have hay2 : zAt ad (921) (ad 921) := rfl
  have hay3 : zAt ad (951) (ad 951) := rfl
  obtain ⟨t, fp, im, nz, kz, sl, ho, ua, st, op, ai, fa, mu, tb, tp, F, r, sR, oR, aR, fR, mR, bR, pR, hR, hM, hJ⟩ := hJI
  refine z_aload_n C 3 dL_law_960 rfl ?_
  refine z_aload_n C 4 dL_law_961 rfl ?_
  refine z_iload C 0 dL_law_962 rfl ?_
  refine z_iconst (z := 1) C dL_law_964 rfl ?_
  refine z_iadd C dL_law_965 ?_
  refine z_sld C hX hbl hbA (z + 1).toNat (by omega) (by omega) (by omega) hw1 dL_law_966 ?_
  refine z_aload_n C 4 dL_law_967 rfl ?_
  refine z_iload C 0 dL_law_968 rfl ?_
  refine z_iconst (z := 2) C dL_law_970 rfl ?_
  refine z_iadd C dL_law_971 ?_
  refine z_sld C hX hbl hbA (z + 2).toNat (by omega) (by omega) (by omega) hw2 dL_law_972 ?_
  refine z_aload_n C 4 dL_law_973 rfl ?_
  refine z_iload C 0 dL_law_974 rfl ?_
  refine z_iconst (z := 3) C dL_law_976 rfl ?_
  refine z_iadd C dL_law_977 ?_
  refine z_sld C hX hbl hbA (z + 3).toNat (by omega) (by omega) (by omega) hw3 dL_law_978 ?_
  refine z_aload_n C 1 dL_law_979 rfl ?_
  refine z_cSW (As := [.ref (ad 0), .int (zI (w1)), .int (zI (w2)), .int (zI (w3)), .ref (ad 951)]) (rest := []) C (c_L_matters l D A cs tt N ad _ hN hR hl0 q hq w1 hw1r w2 hw2r w3 hw3r) mW_yL_matters q_1297 hd_yL_matters (by decide) (Nat.le_of_ble_eq_true rfl) ⟨show k + 6 ≤ 601024 by omega, show n + 60 ≤ 7293034 by omega⟩ dL_law_980 rfl (kI fun rk N1 ad1 g1 h1 => ?_)
  obtain ⟨⟨hN1, hA1, hG1⟩, h1⟩ := h1
  have hM1 : okMr cs ad1 g1 921 x F r sR oR aR fR mR bR pR := hM.grow (fun j a b => hA1 j (by omega)) (fun j a b => hG1 j (by omega) (by omega))
  have hN2 : 952 ≤ N1 := by omega
  rw [← hA1 0 (by omega), ← hA1 921 (by omega), ← hA1 951 (by omega)]
  have hay4 : zAt ad1 (921) (ad1 921) := rfl
  obtain ⟨hR1, q1, hq1⟩ := h1
  refine z_istore (lv' := [(5, .int (zI (rk))), (4, .int (zI (z))), (3, .ref (ad1 951)), (2, .ref (ad1 921)), (1, .ref (ad1 0)), (0, .ref b)]) C dL_law_983 (by decide) rfl ?_
  refine z_aload_n C 3 dL_law_985 rfl ?_
  refine z_aload_n C 5 dL_law_986 rfl ?_
  refine z_iload C 1 dL_law_987 rfl ?_
  refine z_iconst (z := 1) C dL_law_989 rfl ?_
  refine z_iadd C dL_law_990 ?_
  refine z_sld C hX hbl hbA (z + 1).toNat (by omega) (by omega) (by omega) hw1 dL_law_991 ?_
  refine z_aload_n C 5 dL_law_992 rfl ?_
  refine z_iload C 1 dL_law_993 rfl ?_
  refine z_iconst (z := 2) C dL_law_995 rfl ?_
  refine z_iadd C dL_law_996 ?_
  refine z_sld C hX hbl hbA (z + 2).toNat (by omega) (by omega) (by omega) hw2 dL_law_997 ?_
  refine z_aload_n C 5 dL_law_998 rfl ?_
  refine z_iload C 1 dL_law_999 rfl ?_
  refine z_iconst (z := 3) C dL_law_1001 rfl ?_
  refine z_iadd C dL_law_1002 ?_
  refine z_sld C hX hbl hbA (z + 3).toNat (by omega) (by omega) (by omega) hw3 dL_law_1003 ?_
  refine z_cV (As := [.int (zI (w1)), .int (zI (w2)), .int (zI (w3))]) (rest := []) (ci := 12) C (c_X10_matters l D A cs tt N1 ad1 _ 921 (by omega) x (by omega) F r hM1 w1 hw1r w2 hw2r w3 hw3r) (by omega) hay4 hM1.1 rfl rfl mv_yX10_matters q_2019 hd_yX10_matters (by decide) (Nat.le_of_ble_eq_true rfl) ⟨show k + 6 + 0 ≤ 601024 by omega, show n + 60 + 0 ≤ 7293034 by omega⟩ dL_law_1004 rfl (kI0 fun ry gy hy => ?_)
  obtain ⟨hry, ⟨F2, r2, hM2, hF2⟩, hG2⟩ := hy
  refine z_istore (lv' := [(6, .int (zI (ry))), (5, .int (zI (rk))), (4, .int (zI (z))), (3, .ref (ad1 951)), (2, .ref (ad1 921)), (1, .ref (ad1 0)), (0, .ref b)]) C dL_law_1007 (by decide) rfl ?_
  refine z_goto (tgt := 1376) C dL_law_1009 (by decide) ?_
  refine z_lv (lv' := [(4, .int (zI (z))), (3, .ref (ad1 951)), (2, .ref (ad1 921)), (1, .ref (ad1 0)), (0, .ref b)]) [2, 3, 4, 5, 6] rfl ?_
  refine z_widen (k2 := k + 16) (n2 := n + 2150) (show k + 6 + 0 ≤ k + 16 by omega) (show n + 60 + 0 ≤ n + 2150 by omega) ?_
  exact hK _ _ _ _ hN2 ⟨_, _, _, _, _, _, _, _, _, _, _, _, _, _, _, _, _, _, _, _, _, _, _, _, (hR1.o951 (fun j hj => hG2 j (by omega))), hM2, (hJ.keep hF2)⟩ ((hG2 951 (by omega)).trans hq1)

set_option maxRecDepth 100000 in
set_option maxHeartbeats 4000000 in
theorem law_c22 {p : Program} {l : Launch} {e : Env} {s : State} {m : MethodId} {below : List Frame} {meth : Method} {c : Code} {D : va_G} {A : Nat → Prop} {cs : Nat → ClassId} {tt : Nat} {b L : Nat} {xs : Nat → Int32} {N : Nat} {ad : Nat → Nat} {g : Nat → va_E} {k n : Nat} {x z : Int} {q : Nat → Int} {w1 w2 w3 w4 w5 : Int} (hl0 : l.stackTraces = false) (C : zC p s m #[Value.ref b] c cL_law 7 RL D A cs tt) (hr : meth.sig.returnType = ret) (hlk : meth.locks = false) (hA : ∀ q, A q → s.heap.size ≤ q) (hX : va_X b L xs s s.heap) (hbl : b < s.heap.size) (hbA : ¬ A b) (hL : L ≤ 3072) (hN : 952 ≤ N) (hJI : JI cs ad g N x) (hq : g 951 = jA cs 1 q) (hx : 0 ≤ x ∧ x ≤ 511) (hz : z = 6 * x) (hzL : z + 6 ≤ (L : Int)) (hk : k ≤ 590000) (hn : n ≤ 7000000) (hw1r : -2147483648 ≤ w1 ∧ w1 ≤ 2147483647) (hw1 : xs (z + 1).toNat = zI w1) (hw2r : -2147483648 ≤ w2 ∧ w2 ≤ 2147483647) (hw2 : xs (z + 2).toNat = zI w2) (hw3r : -2147483648 ≤ w3 ∧ w3 ≤ 2147483647) (hw3 : xs (z + 3).toNat = zI w3) (hw4r : -2147483648 ≤ w4 ∧ w4 ≤ 2147483647) (hw4 : xs (z + 4).toNat = zI w4) (hw5r : -2147483648 ≤ w5 ∧ w5 ≤ 2147483647) (hw5 : xs (z + 5).toNat = zI w5) (hK : ∀ (N' : Nat) (ad' : Nat → Nat) (g' : Nat → va_E) (q' : Nat → Int), 952 ≤ N' → JI cs ad' g' N' (x + 1) → g' 951 = jA cs 1 q' → zV p l e room_1 s m #[Value.ref b] below meth c (lw_Z below #[Value.ref b] s) D A 7 (N') ad' g' (k + 16) (n + 2150) 1376 [(4, .int (zI (z))), (3, .ref (ad' 951)), (2, .ref (ad' 921)), (1, .ref (ad' 0)), (0, .ref b)] []) : zV p l e room_1 s m #[Value.ref b] below meth c (lw_Z below #[Value.ref b] s) D A 7 (N) ad g (k) (n) 1012 [(4, .int (zI (z))), (3, .ref (ad 951)), (2, .ref (ad 921)), (1, .ref (ad 0)), (0, .ref b)] [] := by
  have hay1 : zAt ad (0) (ad 0) := rfl
  have hay2 : zAt ad (921) (ad 921) := rfl
  have hay3 : zAt ad (951) (ad 951) := rfl
  obtain ⟨t, fp, im, nz, kz, sl, ho, ua, st, op, ai, fa, mu, tb, tp, F, r, sR, oR, aR, fR, mR, bR, pR, hR, hM, hJ⟩ := hJI
  refine z_aload_n C 3 dL_law_1012 rfl ?_
  refine z_aload_n C 4 dL_law_1013 rfl ?_
  refine z_iload C 0 dL_law_1014 rfl ?_
  refine z_iconst (z := 1) C dL_law_1016 rfl ?_
  refine z_iadd C dL_law_1017 ?_
  refine z_sld C hX hbl hbA (z + 1).toNat (by omega) (by omega) (by omega) hw1 dL_law_1018 ?_
  refine z_aload_n C 4 dL_law_1019 rfl ?_
  refine z_iload C 0 dL_law_1020 rfl ?_
  refine z_iconst (z := 2) C dL_law_1022 rfl ?_
  refine z_iadd C dL_law_1023 ?_
  refine z_sld C hX hbl hbA (z + 2).toNat (by omega) (by omega) (by omega) hw2 dL_law_1024 ?_
  refine z_aload_n C 1 dL_law_1025 rfl ?_
  refine z_cSW (As := [.ref (ad 0), .int (zI (w1)), .int (zI (w2)), .ref (ad 951)]) (rest := []) C (c_L_pitOf l D A cs tt N ad _ hN hR hl0 q hq w1 hw1r w2 hw2r) mW_yL_pitOf q_1309 hd_yL_pitOf (by decide) (Nat.le_of_ble_eq_true rfl) ⟨show k + 6 ≤ 601024 by omega, show n + 36 ≤ 7293034 by omega⟩ dL_law_1026 rfl (kI fun rk N1 ad1 g1 h1 => ?_)
  obtain ⟨⟨hN1, hA1, hG1⟩, h1⟩ := h1
  have hM1 : okMr cs ad1 g1 921 x F r sR oR aR fR mR bR pR := hM.grow (fun j a b => hA1 j (by omega)) (fun j a b => hG1 j (by omega) (by omega))
  have hN2 : 952 ≤ N1 := by omega
  rw [← hA1 0 (by omega), ← hA1 921 (by omega), ← hA1 951 (by omega)]
  have hay4 : zAt ad1 (921) (ad1 921) := rfl
  obtain ⟨hR1, q1, hq1⟩ := h1
  refine z_istore (lv' := [(5, .int (zI (rk))), (4, .int (zI (z))), (3, .ref (ad1 951)), (2, .ref (ad1 921)), (1, .ref (ad1 0)), (0, .ref b)]) C dL_law_1029 (by decide) rfl ?_
  refine z_aload_n C 3 dL_law_1031 rfl ?_
  refine z_aload_n C 5 dL_law_1032 rfl ?_
  refine z_iload C 1 dL_law_1033 rfl ?_
  refine z_iconst (z := 1) C dL_law_1035 rfl ?_
  refine z_iadd C dL_law_1036 ?_
  refine z_sld C hX hbl hbA (z + 1).toNat (by omega) (by omega) (by omega) hw1 dL_law_1037 ?_
  refine z_aload_n C 5 dL_law_1038 rfl ?_
  refine z_iload C 1 dL_law_1039 rfl ?_
  refine z_iconst (z := 2) C dL_law_1041 rfl ?_
  refine z_iadd C dL_law_1042 ?_
  refine z_sld C hX hbl hbA (z + 2).toNat (by omega) (by omega) (by omega) hw2 dL_law_1043 ?_
  refine z_cV (As := [.int (zI (w1)), .int (zI (w2))]) (rest := []) (ci := 12) C (c_X10_pitOf l D A cs tt N1 ad1 _ 921 (by omega) x (by omega) F r hM1 w1 hw1r w2 hw2r) (by omega) hay4 hM1.1 rfl rfl mv_yX10_pitOf q_2027 hd_yX10_pitOf (by decide) (Nat.le_of_ble_eq_true rfl) ⟨show k + 6 + 0 ≤ 601024 by omega, show n + 36 + 0 ≤ 7293034 by omega⟩ dL_law_1044 rfl (kI0 fun ry gy hy => ?_)
  obtain ⟨hry, ⟨F2, r2, hM2, hF2⟩, hG2⟩ := hy
  refine z_istore (lv' := [(6, .int (zI (ry))), (5, .int (zI (rk))), (4, .int (zI (z))), (3, .ref (ad1 951)), (2, .ref (ad1 921)), (1, .ref (ad1 0)), (0, .ref b)]) C dL_law_1047 (by decide) rfl ?_
  refine z_goto (tgt := 1376) C dL_law_1049 (by decide) ?_
  refine z_lv (lv' := [(4, .int (zI (z))), (3, .ref (ad1 951)), (2, .ref (ad1 921)), (1, .ref (ad1 0)), (0, .ref b)]) [2, 3, 4, 5, 6] rfl ?_
  refine z_widen (k2 := k + 16) (n2 := n + 2150) (show k + 6 + 0 ≤ k + 16 by omega) (show n + 36 + 0 ≤ n + 2150 by omega) ?_
  exact hK _ _ _ _ hN2 ⟨_, _, _, _, _, _, _, _, _, _, _, _, _, _, _, _, _, _, _, _, _, _, _, _, (hR1.o951 (fun j hj => hG2 j (by omega))), hM2, (hJ.keep hF2)⟩ ((hG2 951 (by omega)).trans hq1)

set_option maxRecDepth 100000 in
set_option maxHeartbeats 4000000 in
theorem law_c23 {p : Program} {l : Launch} {e : Env} {s : State} {m : MethodId} {below : List Frame} {meth : Method} {c : Code} {D : va_G} {A : Nat → Prop} {cs : Nat → ClassId} {tt : Nat} {b L : Nat} {xs : Nat → Int32} {N : Nat} {ad : Nat → Nat} {g : Nat → va_E} {k n : Nat} {x z : Int} {q : Nat → Int} {w1 w2 w3 w4 w5 : Int} (hl0 : l.stackTraces = false) (C : zC p s m #[Value.ref b] c cL_law 7 RL D A cs tt) (hr : meth.sig.returnType = ret) (hlk : meth.locks = false) (hA : ∀ q, A q → s.heap.size ≤ q) (hX : va_X b L xs s s.heap) (hbl : b < s.heap.size) (hbA : ¬ A b) (hL : L ≤ 3072) (hN : 952 ≤ N) (hJI : JI cs ad g N x) (hq : g 951 = jA cs 1 q) (hx : 0 ≤ x ∧ x ≤ 511) (hz : z = 6 * x) (hzL : z + 6 ≤ (L : Int)) (hk : k ≤ 590000) (hn : n ≤ 7000000) (hw1r : -2147483648 ≤ w1 ∧ w1 ≤ 2147483647) (hw1 : xs (z + 1).toNat = zI w1) (hw2r : -2147483648 ≤ w2 ∧ w2 ≤ 2147483647) (hw2 : xs (z + 2).toNat = zI w2) (hw3r : -2147483648 ≤ w3 ∧ w3 ≤ 2147483647) (hw3 : xs (z + 3).toNat = zI w3) (hw4r : -2147483648 ≤ w4 ∧ w4 ≤ 2147483647) (hw4 : xs (z + 4).toNat = zI w4) (hw5r : -2147483648 ≤ w5 ∧ w5 ≤ 2147483647) (hw5 : xs (z + 5).toNat = zI w5) (hK : ∀ (N' : Nat) (ad' : Nat → Nat) (g' : Nat → va_E) (q' : Nat → Int), 952 ≤ N' → JI cs ad' g' N' (x + 1) → g' 951 = jA cs 1 q' → zV p l e room_1 s m #[Value.ref b] below meth c (lw_Z below #[Value.ref b] s) D A 7 (N') ad' g' (k + 16) (n + 2150) 1376 [(4, .int (zI (z))), (3, .ref (ad' 951)), (2, .ref (ad' 921)), (1, .ref (ad' 0)), (0, .ref b)] []) : zV p l e room_1 s m #[Value.ref b] below meth c (lw_Z below #[Value.ref b] s) D A 7 (N) ad g (k) (n) 1052 [(4, .int (zI (z))), (3, .ref (ad 951)), (2, .ref (ad 921)), (1, .ref (ad 0)), (0, .ref b)] [] := by
  have hay1 : zAt ad (0) (ad 0) := rfl
  have hay2 : zAt ad (921) (ad 921) := rfl
  have hay3 : zAt ad (951) (ad 951) := rfl
  obtain ⟨t, fp, im, nz, kz, sl, ho, ua, st, op, ai, fa, mu, tb, tp, F, r, sR, oR, aR, fR, mR, bR, pR, hR, hM, hJ⟩ := hJI
  refine z_aload_n C 3 dL_law_1052 rfl ?_
  refine z_aload_n C 4 dL_law_1053 rfl ?_
  refine z_iload C 0 dL_law_1054 rfl ?_
  refine z_iconst (z := 1) C dL_law_1056 rfl ?_
  refine z_iadd C dL_law_1057 ?_
  refine z_sld C hX hbl hbA (z + 1).toNat (by omega) (by omega) (by omega) hw1 dL_law_1058 ?_
  refine z_aload_n C 4 dL_law_1059 rfl ?_
  refine z_iload C 0 dL_law_1060 rfl ?_
  refine z_iconst (z := 2) C dL_law_1062 rfl ?_
  refine z_iadd C dL_law_1063 ?_
  refine z_sld C hX hbl hbA (z + 2).toNat (by omega) (by omega) (by omega) hw2 dL_law_1064 ?_
  refine z_aload_n C 4 dL_law_1065 rfl ?_
  refine z_iload C 0 dL_law_1066 rfl ?_
  refine z_iconst (z := 3) C dL_law_1068 rfl ?_
  refine z_iadd C dL_law_1069 ?_
  refine z_sld C hX hbl hbA (z + 3).toNat (by omega) (by omega) (by omega) hw3 dL_law_1070 ?_
  refine z_aload_n C 1 dL_law_1071 rfl ?_
  refine z_cSW (As := [.ref (ad 0), .int (zI (w1)), .int (zI (w2)), .int (zI (w3)), .ref (ad 951)]) (rest := []) C (c_L_compare l D A cs tt N ad _ hN hR hl0 q hq w1 hw1r w2 hw2r w3 hw3r) mW_yL_compare q_1322 hd_yL_compare (by decide) (Nat.le_of_ble_eq_true rfl) ⟨show k + 6 ≤ 601024 by omega, show n + 60 ≤ 7293034 by omega⟩ dL_law_1072 rfl (kI fun rk N1 ad1 g1 h1 => ?_)
  obtain ⟨⟨hN1, hA1, hG1⟩, h1⟩ := h1
  have hM1 : okMr cs ad1 g1 921 x F r sR oR aR fR mR bR pR := hM.grow (fun j a b => hA1 j (by omega)) (fun j a b => hG1 j (by omega) (by omega))
  have hN2 : 952 ≤ N1 := by omega
  rw [← hA1 0 (by omega), ← hA1 921 (by omega), ← hA1 951 (by omega)]
  have hay4 : zAt ad1 (921) (ad1 921) := rfl
  obtain ⟨hR1, q1, hq1⟩ := h1
  refine z_istore (lv' := [(5, .int (zI (rk))), (4, .int (zI (z))), (3, .ref (ad1 951)), (2, .ref (ad1 921)), (1, .ref (ad1 0)), (0, .ref b)]) C dL_law_1075 (by decide) rfl ?_
  refine z_aload_n C 3 dL_law_1077 rfl ?_
  refine z_aload_n C 5 dL_law_1078 rfl ?_
  refine z_iload C 1 dL_law_1079 rfl ?_
  refine z_iconst (z := 1) C dL_law_1081 rfl ?_
  refine z_iadd C dL_law_1082 ?_
  refine z_sld C hX hbl hbA (z + 1).toNat (by omega) (by omega) (by omega) hw1 dL_law_1083 ?_
  refine z_aload_n C 5 dL_law_1084 rfl ?_
  refine z_iload C 1 dL_law_1085 rfl ?_
  refine z_iconst (z := 2) C dL_law_1087 rfl ?_
  refine z_iadd C dL_law_1088 ?_
  refine z_sld C hX hbl hbA (z + 2).toNat (by omega) (by omega) (by omega) hw2 dL_law_1089 ?_
  refine z_aload_n C 5 dL_law_1090 rfl ?_
  refine z_iload C 1 dL_law_1091 rfl ?_
  refine z_iconst (z := 3) C dL_law_1093 rfl ?_
  refine z_iadd C dL_law_1094 ?_
  refine z_sld C hX hbl hbA (z + 3).toNat (by omega) (by omega) (by omega) hw3 dL_law_1095 ?_
  refine z_cV (As := [.int (zI (w1)), .int (zI (w2)), .int (zI (w3))]) (rest := []) (ci := 12) C (c_X10_compare l D A cs tt N1 ad1 _ 921 (by omega) x (by omega) F r hM1 w1 hw1r w2 hw2r w3 hw3r) (by omega) hay4 hM1.1 rfl rfl mv_yX10_compare q_2039 hd_yX10_compare (by decide) (Nat.le_of_ble_eq_true rfl) ⟨show k + 6 + 0 ≤ 601024 by omega, show n + 60 + 0 ≤ 7293034 by omega⟩ dL_law_1096 rfl (kI0 fun ry gy hy => ?_)
  obtain ⟨hry, ⟨F2, r2, hM2, hF2⟩, hG2⟩ := hy
  refine z_istore (lv' := [(6, .int (zI (ry))), (5, .int (zI (rk))), (4, .int (zI (z))), (3, .ref (ad1 951)), (2, .ref (ad1 921)), (1, .ref (ad1 0)), (0, .ref b)]) C dL_law_1099 (by decide) rfl ?_
  refine z_goto (tgt := 1376) C dL_law_1101 (by decide) ?_
  refine z_lv (lv' := [(4, .int (zI (z))), (3, .ref (ad1 951)), (2, .ref (ad1 921)), (1, .ref (ad1 0)), (0, .ref b)]) [2, 3, 4, 5, 6] rfl ?_
  refine z_widen (k2 := k + 16) (n2 := n + 2150) (show k + 6 + 0 ≤ k + 16 by omega) (show n + 60 + 0 ≤ n + 2150 by omega) ?_
  exact hK _ _ _ _ hN2 ⟨_, _, _, _, _, _, _, _, _, _, _, _, _, _, _, _, _, _, _, _, _, _, _, _, (hR1.o951 (fun j hj => hG2 j (by omega))), hM2, (hJ.keep hF2)⟩ ((hG2 951 (by omega)).trans hq1)

set_option maxRecDepth 100000 in
set_option maxHeartbeats 4000000 in
theorem law_c24 {p : Program} {l : Launch} {e : Env} {s : State} {m : MethodId} {below : List Frame} {meth : Method} {c : Code} {D : va_G} {A : Nat → Prop} {cs : Nat → ClassId} {tt : Nat} {b L : Nat} {xs : Nat → Int32} {N : Nat} {ad : Nat → Nat} {g : Nat → va_E} {k n : Nat} {x z : Int} {q : Nat → Int} {w1 w2 w3 w4 w5 : Int} (hl0 : l.stackTraces = false) (C : zC p s m #[Value.ref b] c cL_law 7 RL D A cs tt) (hr : meth.sig.returnType = ret) (hlk : meth.locks = false) (hA : ∀ q, A q → s.heap.size ≤ q) (hX : va_X b L xs s s.heap) (hbl : b < s.heap.size) (hbA : ¬ A b) (hL : L ≤ 3072) (hN : 952 ≤ N) (hJI : JI cs ad g N x) (hq : g 951 = jA cs 1 q) (hx : 0 ≤ x ∧ x ≤ 511) (hz : z = 6 * x) (hzL : z + 6 ≤ (L : Int)) (hk : k ≤ 590000) (hn : n ≤ 7000000) (hw1r : -2147483648 ≤ w1 ∧ w1 ≤ 2147483647) (hw1 : xs (z + 1).toNat = zI w1) (hw2r : -2147483648 ≤ w2 ∧ w2 ≤ 2147483647) (hw2 : xs (z + 2).toNat = zI w2) (hw3r : -2147483648 ≤ w3 ∧ w3 ≤ 2147483647) (hw3 : xs (z + 3).toNat = zI w3) (hw4r : -2147483648 ≤ w4 ∧ w4 ≤ 2147483647) (hw4 : xs (z + 4).toNat = zI w4) (hw5r : -2147483648 ≤ w5 ∧ w5 ≤ 2147483647) (hw5 : xs (z + 5).toNat = zI w5) (hK : ∀ (N' : Nat) (ad' : Nat → Nat) (g' : Nat → va_E) (q' : Nat → Int), 952 ≤ N' → JI cs ad' g' N' (x + 1) → g' 951 = jA cs 1 q' → zV p l e room_1 s m #[Value.ref b] below meth c (lw_Z below #[Value.ref b] s) D A 7 (N') ad' g' (k + 16) (n + 2150) 1376 [(4, .int (zI (z))), (3, .ref (ad' 951)), (2, .ref (ad' 921)), (1, .ref (ad' 0)), (0, .ref b)] []) : zV p l e room_1 s m #[Value.ref b] below meth c (lw_Z below #[Value.ref b] s) D A 7 (N) ad g (k) (n) 1104 [(4, .int (zI (z))), (3, .ref (ad 951)), (2, .ref (ad 921)), (1, .ref (ad 0)), (0, .ref b)] [] := by
  have hay1 : zAt ad (0) (ad 0) := rfl
  have hay2 : zAt ad (921) (ad 921) := rfl
  have hay3 : zAt ad (951) (ad 951) := rfl
  obtain ⟨t, fp, im, nz, kz, sl, ho, ua, st, op, ai, fa, mu, tb, tp, F, r, sR, oR, aR, fR, mR, bR, pR, hR, hM, hJ⟩ := hJI
  refine z_aload_n C 3 dL_law_1104 rfl ?_
  refine z_aload_n C 4 dL_law_1105 rfl ?_
  refine z_iload C 0 dL_law_1106 rfl ?_
  refine z_iconst (z := 1) C dL_law_1108 rfl ?_
  refine z_iadd C dL_law_1109 ?_
  refine z_sld C hX hbl hbA (z + 1).toNat (by omega) (by omega) (by omega) hw1 dL_law_1110 ?_
  refine z_aload_n C 1 dL_law_1111 rfl ?_
  refine z_cSW (As := [.ref (ad 0), .int (zI (w1)), .ref (ad 951)]) (rest := []) C (c_L_nearest l D A cs tt N ad _ hN hR hl0 q hq w1 hw1r) mW_yL_nearest q_1349 hd_yL_nearest (by decide) (Nat.le_of_ble_eq_true rfl) ⟨show k + 6 ≤ 601024 by omega, show n + 60 ≤ 7293034 by omega⟩ dL_law_1112 rfl (kI fun rk N1 ad1 g1 h1 => ?_)
  obtain ⟨⟨hN1, hA1, hG1⟩, h1⟩ := h1
  have hM1 : okMr cs ad1 g1 921 x F r sR oR aR fR mR bR pR := hM.grow (fun j a b => hA1 j (by omega)) (fun j a b => hG1 j (by omega) (by omega))
  have hN2 : 952 ≤ N1 := by omega
  rw [← hA1 0 (by omega), ← hA1 921 (by omega), ← hA1 951 (by omega)]
  have hay4 : zAt ad1 (921) (ad1 921) := rfl
  obtain ⟨hR1, q1, hq1⟩ := h1
  refine z_istore (lv' := [(5, .int (zI (rk))), (4, .int (zI (z))), (3, .ref (ad1 951)), (2, .ref (ad1 921)), (1, .ref (ad1 0)), (0, .ref b)]) C dL_law_1115 (by decide) rfl ?_
  refine z_aload_n C 3 dL_law_1117 rfl ?_
  refine z_aload_n C 5 dL_law_1118 rfl ?_
  refine z_iload C 1 dL_law_1119 rfl ?_
  refine z_iconst (z := 1) C dL_law_1121 rfl ?_
  refine z_iadd C dL_law_1122 ?_
  refine z_sld C hX hbl hbA (z + 1).toNat (by omega) (by omega) (by omega) hw1 dL_law_1123 ?_
  refine z_cV (As := [.int (zI (w1))]) (rest := []) (ci := 12) C (c_X10_nearest l D A cs tt N1 ad1 _ 921 (by omega) x (by omega) F r hM1 w1 hw1r) (by omega) hay4 hM1.1 rfl rfl mv_yX10_nearest q_2063 hd_yX10_nearest (by decide) (Nat.le_of_ble_eq_true rfl) ⟨show k + 6 + 0 ≤ 601024 by omega, show n + 60 + 0 ≤ 7293034 by omega⟩ dL_law_1124 rfl (kI0 fun ry gy hy => ?_)
  obtain ⟨hry, ⟨F2, r2, hM2, hF2⟩, hG2⟩ := hy
  refine z_istore (lv' := [(6, .int (zI (ry))), (5, .int (zI (rk))), (4, .int (zI (z))), (3, .ref (ad1 951)), (2, .ref (ad1 921)), (1, .ref (ad1 0)), (0, .ref b)]) C dL_law_1127 (by decide) rfl ?_
  refine z_goto (tgt := 1376) C dL_law_1129 (by decide) ?_
  refine z_lv (lv' := [(4, .int (zI (z))), (3, .ref (ad1 951)), (2, .ref (ad1 921)), (1, .ref (ad1 0)), (0, .ref b)]) [2, 3, 4, 5, 6] rfl ?_
  refine z_widen (k2 := k + 16) (n2 := n + 2150) (show k + 6 + 0 ≤ k + 16 by omega) (show n + 60 + 0 ≤ n + 2150 by omega) ?_
  exact hK _ _ _ _ hN2 ⟨_, _, _, _, _, _, _, _, _, _, _, _, _, _, _, _, _, _, _, _, _, _, _, _, (hR1.o951 (fun j hj => hG2 j (by omega))), hM2, (hJ.keep hF2)⟩ ((hG2 951 (by omega)).trans hq1)

set_option maxRecDepth 100000 in
set_option maxHeartbeats 4000000 in
theorem law_c26 {p : Program} {l : Launch} {e : Env} {s : State} {m : MethodId} {below : List Frame} {meth : Method} {c : Code} {D : va_G} {A : Nat → Prop} {cs : Nat → ClassId} {tt : Nat} {b L : Nat} {xs : Nat → Int32} {N : Nat} {ad : Nat → Nat} {g : Nat → va_E} {k n : Nat} {x z : Int} {q : Nat → Int} {w1 w2 w3 w4 w5 : Int} (hl0 : l.stackTraces = false) (C : zC p s m #[Value.ref b] c cL_law 7 RL D A cs tt) (hr : meth.sig.returnType = ret) (hlk : meth.locks = false) (hA : ∀ q, A q → s.heap.size ≤ q) (hX : va_X b L xs s s.heap) (hbl : b < s.heap.size) (hbA : ¬ A b) (hL : L ≤ 3072) (hN : 952 ≤ N) (hJI : JI cs ad g N x) (hq : g 951 = jA cs 1 q) (hx : 0 ≤ x ∧ x ≤ 511) (hz : z = 6 * x) (hzL : z + 6 ≤ (L : Int)) (hk : k ≤ 590000) (hn : n ≤ 7000000) (hw1r : -2147483648 ≤ w1 ∧ w1 ≤ 2147483647) (hw1 : xs (z + 1).toNat = zI w1) (hw2r : -2147483648 ≤ w2 ∧ w2 ≤ 2147483647) (hw2 : xs (z + 2).toNat = zI w2) (hw3r : -2147483648 ≤ w3 ∧ w3 ≤ 2147483647) (hw3 : xs (z + 3).toNat = zI w3) (hw4r : -2147483648 ≤ w4 ∧ w4 ≤ 2147483647) (hw4 : xs (z + 4).toNat = zI w4) (hw5r : -2147483648 ≤ w5 ∧ w5 ≤ 2147483647) (hw5 : xs (z + 5).toNat = zI w5) (hK : ∀ (N' : Nat) (ad' : Nat → Nat) (g' : Nat → va_E) (q' : Nat → Int), 952 ≤ N' → JI cs ad' g' N' (x + 1) → g' 951 = jA cs 1 q' → zV p l e room_1 s m #[Value.ref b] below meth c (lw_Z below #[Value.ref b] s) D A 7 (N') ad' g' (k + 16) (n + 2150) 1376 [(4, .int (zI (z))), (3, .ref (ad' 951)), (2, .ref (ad' 921)), (1, .ref (ad' 0)), (0, .ref b)] []) : zV p l e room_1 s m #[Value.ref b] below meth c (lw_Z below #[Value.ref b] s) D A 7 (N) ad g (k) (n) 1181 [(4, .int (zI (z))), (3, .ref (ad 951)), (2, .ref (ad 921)), (1, .ref (ad 0)), (0, .ref b)] [] := by
  have hay1 : zAt ad (0) (ad 0) := rfl
  have hay2 : zAt ad (921) (ad 921) := rfl
  have hay3 : zAt ad (951) (ad 951) := rfl
  obtain ⟨t, fp, im, nz, kz, sl, ho, ua, st, op, ai, fa, mu, tb, tp, F, r, sR, oR, aR, fR, mR, bR, pR, hR, hM, hJ⟩ := hJI
  refine z_aload_n C 3 dL_law_1181 rfl ?_
  refine z_aload_n C 4 dL_law_1182 rfl ?_
  refine z_iload C 0 dL_law_1183 rfl ?_
  refine z_iconst (z := 1) C dL_law_1185 rfl ?_
  refine z_iadd C dL_law_1186 ?_
  refine z_sld C hX hbl hbA (z + 1).toNat (by omega) (by omega) (by omega) hw1 dL_law_1187 ?_
  refine z_aload_n C 1 dL_law_1188 rfl ?_
  refine z_cSW (As := [.ref (ad 0), .int (zI (w1)), .ref (ad 951)]) (rest := []) C (c_L_falls l D A cs tt N ad _ hN hR hl0 q hq w1 hw1r) mW_yL_falls q_1356 hd_yL_falls (by decide) (Nat.le_of_ble_eq_true rfl) ⟨show k + 6 ≤ 601024 by omega, show n + 60 ≤ 7293034 by omega⟩ dL_law_1189 rfl (kI fun rk N1 ad1 g1 h1 => ?_)
  obtain ⟨⟨hN1, hA1, hG1⟩, h1⟩ := h1
  have hM1 : okMr cs ad1 g1 921 x F r sR oR aR fR mR bR pR := hM.grow (fun j a b => hA1 j (by omega)) (fun j a b => hG1 j (by omega) (by omega))
  have hN2 : 952 ≤ N1 := by omega
  rw [← hA1 0 (by omega), ← hA1 921 (by omega), ← hA1 951 (by omega)]
  have hay4 : zAt ad1 (921) (ad1 921) := rfl
  obtain ⟨hR1, q1, hq1⟩ := h1
  refine z_istore (lv' := [(5, .int (zI (rk))), (4, .int (zI (z))), (3, .ref (ad1 951)), (2, .ref (ad1 921)), (1, .ref (ad1 0)), (0, .ref b)]) C dL_law_1192 (by decide) rfl ?_
  refine z_aload_n C 3 dL_law_1194 rfl ?_
  refine z_aload_n C 5 dL_law_1195 rfl ?_
  refine z_iload C 1 dL_law_1196 rfl ?_
  refine z_iconst (z := 1) C dL_law_1198 rfl ?_
  refine z_iadd C dL_law_1199 ?_
  refine z_sld C hX hbl hbA (z + 1).toNat (by omega) (by omega) (by omega) hw1 dL_law_1200 ?_
  refine z_cV (As := [.int (zI (w1))]) (rest := []) (ci := 12) C (c_X10_falls l D A cs tt N1 ad1 _ 921 (by omega) x (by omega) F r hM1 w1 hw1r) (by omega) hay4 hM1.1 rfl rfl mv_yX10_falls q_2071 hd_yX10_falls (by decide) (Nat.le_of_ble_eq_true rfl) ⟨show k + 6 + 0 ≤ 601024 by omega, show n + 60 + 0 ≤ 7293034 by omega⟩ dL_law_1201 rfl (kI0 fun ry gy hy => ?_)
  obtain ⟨hry, ⟨F2, r2, hM2, hF2⟩, hG2⟩ := hy
  refine z_istore (lv' := [(6, .int (zI (ry))), (5, .int (zI (rk))), (4, .int (zI (z))), (3, .ref (ad1 951)), (2, .ref (ad1 921)), (1, .ref (ad1 0)), (0, .ref b)]) C dL_law_1204 (by decide) rfl ?_
  refine z_goto (tgt := 1376) C dL_law_1206 (by decide) ?_
  refine z_lv (lv' := [(4, .int (zI (z))), (3, .ref (ad1 951)), (2, .ref (ad1 921)), (1, .ref (ad1 0)), (0, .ref b)]) [2, 3, 4, 5, 6] rfl ?_
  refine z_widen (k2 := k + 16) (n2 := n + 2150) (show k + 6 + 0 ≤ k + 16 by omega) (show n + 60 + 0 ≤ n + 2150 by omega) ?_
  exact hK _ _ _ _ hN2 ⟨_, _, _, _, _, _, _, _, _, _, _, _, _, _, _, _, _, _, _, _, _, _, _, _, (hR1.o951 (fun j hj => hG2 j (by omega))), hM2, (hJ.keep hF2)⟩ ((hG2 951 (by omega)).trans hq1)

set_option maxRecDepth 100000 in
set_option maxHeartbeats 4000000 in
theorem law_c27 {p : Program} {l : Launch} {e : Env} {s : State} {m : MethodId} {below : List Frame} {meth : Method} {c : Code} {D : va_G} {A : Nat → Prop} {cs : Nat → ClassId} {tt : Nat} {b L : Nat} {xs : Nat → Int32} {N : Nat} {ad : Nat → Nat} {g : Nat → va_E} {k n : Nat} {x z : Int} {q : Nat → Int} {w1 w2 w3 w4 w5 : Int} (hl0 : l.stackTraces = false) (C : zC p s m #[Value.ref b] c cL_law 7 RL D A cs tt) (hr : meth.sig.returnType = ret) (hlk : meth.locks = false) (hA : ∀ q, A q → s.heap.size ≤ q) (hX : va_X b L xs s s.heap) (hbl : b < s.heap.size) (hbA : ¬ A b) (hL : L ≤ 3072) (hN : 952 ≤ N) (hJI : JI cs ad g N x) (hq : g 951 = jA cs 1 q) (hx : 0 ≤ x ∧ x ≤ 511) (hz : z = 6 * x) (hzL : z + 6 ≤ (L : Int)) (hk : k ≤ 590000) (hn : n ≤ 7000000) (hw1r : -2147483648 ≤ w1 ∧ w1 ≤ 2147483647) (hw1 : xs (z + 1).toNat = zI w1) (hw2r : -2147483648 ≤ w2 ∧ w2 ≤ 2147483647) (hw2 : xs (z + 2).toNat = zI w2) (hw3r : -2147483648 ≤ w3 ∧ w3 ≤ 2147483647) (hw3 : xs (z + 3).toNat = zI w3) (hw4r : -2147483648 ≤ w4 ∧ w4 ≤ 2147483647) (hw4 : xs (z + 4).toNat = zI w4) (hw5r : -2147483648 ≤ w5 ∧ w5 ≤ 2147483647) (hw5 : xs (z + 5).toNat = zI w5) (hK : ∀ (N' : Nat) (ad' : Nat → Nat) (g' : Nat → va_E) (q' : Nat → Int), 952 ≤ N' → JI cs ad' g' N' (x + 1) → g' 951 = jA cs 1 q' → zV p l e room_1 s m #[Value.ref b] below meth c (lw_Z below #[Value.ref b] s) D A 7 (N') ad' g' (k + 16) (n + 2150) 1376 [(4, .int (zI (z))), (3, .ref (ad' 951)), (2, .ref (ad' 921)), (1, .ref (ad' 0)), (0, .ref b)] []) : zV p l e room_1 s m #[Value.ref b] below meth c (lw_Z below #[Value.ref b] s) D A 7 (N) ad g (k) (n) 1209 [(4, .int (zI (z))), (3, .ref (ad 951)), (2, .ref (ad 921)), (1, .ref (ad 0)), (0, .ref b)] [] := by
  have hay1 : zAt ad (0) (ad 0) := rfl
  have hay2 : zAt ad (921) (ad 921) := rfl
  have hay3 : zAt ad (951) (ad 951) := rfl
  obtain ⟨t, fp, im, nz, kz, sl, ho, ua, st, op, ai, fa, mu, tb, tp, F, r, sR, oR, aR, fR, mR, bR, pR, hR, hM, hJ⟩ := hJI
  refine z_aload_n C 3 dL_law_1209 rfl ?_
  refine z_aload_n C 4 dL_law_1210 rfl ?_
  refine z_iload C 0 dL_law_1211 rfl ?_
  refine z_iconst (z := 1) C dL_law_1213 rfl ?_
  refine z_iadd C dL_law_1214 ?_
  refine z_sld C hX hbl hbA (z + 1).toNat (by omega) (by omega) (by omega) hw1 dL_law_1215 ?_
  refine z_aload_n C 1 dL_law_1216 rfl ?_
  refine z_cSW (As := [.ref (ad 0), .int (zI (w1)), .ref (ad 951)]) (rest := []) C (c_L_look l D A cs tt N ad _ hN hR hl0 q hq w1 hw1r) mW_yL_look q_1401 hd_yL_look (by decide) (Nat.le_of_ble_eq_true rfl) ⟨show k + 6 ≤ 601024 by omega, show n + 60 ≤ 7293034 by omega⟩ dL_law_1217 rfl (kI fun rk N1 ad1 g1 h1 => ?_)
  obtain ⟨⟨hN1, hA1, hG1⟩, h1⟩ := h1
  have hM1 : okMr cs ad1 g1 921 x F r sR oR aR fR mR bR pR := hM.grow (fun j a b => hA1 j (by omega)) (fun j a b => hG1 j (by omega) (by omega))
  have hN2 : 952 ≤ N1 := by omega
  rw [← hA1 0 (by omega), ← hA1 921 (by omega), ← hA1 951 (by omega)]
  have hay4 : zAt ad1 (921) (ad1 921) := rfl
  obtain ⟨hR1, q1, hq1⟩ := h1
  refine z_istore (lv' := [(5, .int (zI (rk))), (4, .int (zI (z))), (3, .ref (ad1 951)), (2, .ref (ad1 921)), (1, .ref (ad1 0)), (0, .ref b)]) C dL_law_1220 (by decide) rfl ?_
  refine z_aload_n C 3 dL_law_1222 rfl ?_
  refine z_aload_n C 5 dL_law_1223 rfl ?_
  refine z_iload C 1 dL_law_1224 rfl ?_
  refine z_iconst (z := 1) C dL_law_1226 rfl ?_
  refine z_iadd C dL_law_1227 ?_
  refine z_sld C hX hbl hbA (z + 1).toNat (by omega) (by omega) (by omega) hw1 dL_law_1228 ?_
  refine z_cV (As := [.int (zI (w1))]) (rest := []) (ci := 12) C (c_X10_look l D A cs tt N1 ad1 _ 921 (by omega) x (by omega) F r hM1 w1 hw1r) (by omega) hay4 hM1.1 rfl rfl mv_yX10_look q_2083 hd_yX10_look (by decide) (Nat.le_of_ble_eq_true rfl) ⟨show k + 6 + 0 ≤ 601024 by omega, show n + 60 + 0 ≤ 7293034 by omega⟩ dL_law_1229 rfl (kI0 fun ry gy hy => ?_)
  obtain ⟨hry, ⟨F2, r2, hM2, hF2⟩, hG2⟩ := hy
  refine z_istore (lv' := [(6, .int (zI (ry))), (5, .int (zI (rk))), (4, .int (zI (z))), (3, .ref (ad1 951)), (2, .ref (ad1 921)), (1, .ref (ad1 0)), (0, .ref b)]) C dL_law_1232 (by decide) rfl ?_
  refine z_goto (tgt := 1376) C dL_law_1234 (by decide) ?_
  refine z_lv (lv' := [(4, .int (zI (z))), (3, .ref (ad1 951)), (2, .ref (ad1 921)), (1, .ref (ad1 0)), (0, .ref b)]) [2, 3, 4, 5, 6] rfl ?_
  refine z_widen (k2 := k + 16) (n2 := n + 2150) (show k + 6 + 0 ≤ k + 16 by omega) (show n + 60 + 0 ≤ n + 2150 by omega) ?_
  exact hK _ _ _ _ hN2 ⟨_, _, _, _, _, _, _, _, _, _, _, _, _, _, _, _, _, _, _, _, _, _, _, _, (hR1.o951 (fun j hj => hG2 j (by omega))), hM2, (hJ.keep hF2)⟩ ((hG2 951 (by omega)).trans hq1)

set_option maxRecDepth 100000 in
set_option maxHeartbeats 4000000 in
theorem law_c29 {p : Program} {l : Launch} {e : Env} {s : State} {m : MethodId} {below : List Frame} {meth : Method} {c : Code} {D : va_G} {A : Nat → Prop} {cs : Nat → ClassId} {tt : Nat} {b L : Nat} {xs : Nat → Int32} {N : Nat} {ad : Nat → Nat} {g : Nat → va_E} {k n : Nat} {x z : Int} {q : Nat → Int} {w1 w2 w3 w4 w5 : Int} (hl0 : l.stackTraces = false) (C : zC p s m #[Value.ref b] c cL_law 7 RL D A cs tt) (hr : meth.sig.returnType = ret) (hlk : meth.locks = false) (hA : ∀ q, A q → s.heap.size ≤ q) (hX : va_X b L xs s s.heap) (hbl : b < s.heap.size) (hbA : ¬ A b) (hL : L ≤ 3072) (hN : 952 ≤ N) (hJI : JI cs ad g N x) (hq : g 951 = jA cs 1 q) (hx : 0 ≤ x ∧ x ≤ 511) (hz : z = 6 * x) (hzL : z + 6 ≤ (L : Int)) (hk : k ≤ 590000) (hn : n ≤ 7000000) (hw1r : -2147483648 ≤ w1 ∧ w1 ≤ 2147483647) (hw1 : xs (z + 1).toNat = zI w1) (hw2r : -2147483648 ≤ w2 ∧ w2 ≤ 2147483647) (hw2 : xs (z + 2).toNat = zI w2) (hw3r : -2147483648 ≤ w3 ∧ w3 ≤ 2147483647) (hw3 : xs (z + 3).toNat = zI w3) (hw4r : -2147483648 ≤ w4 ∧ w4 ≤ 2147483647) (hw4 : xs (z + 4).toNat = zI w4) (hw5r : -2147483648 ≤ w5 ∧ w5 ≤ 2147483647) (hw5 : xs (z + 5).toNat = zI w5) (hK : ∀ (N' : Nat) (ad' : Nat → Nat) (g' : Nat → va_E) (q' : Nat → Int), 952 ≤ N' → JI cs ad' g' N' (x + 1) → g' 951 = jA cs 1 q' → zV p l e room_1 s m #[Value.ref b] below meth c (lw_Z below #[Value.ref b] s) D A 7 (N') ad' g' (k + 16) (n + 2150) 1376 [(4, .int (zI (z))), (3, .ref (ad' 951)), (2, .ref (ad' 921)), (1, .ref (ad' 0)), (0, .ref b)] []) : zV p l e room_1 s m #[Value.ref b] below meth c (lw_Z below #[Value.ref b] s) D A 7 (N) ad g (k) (n) 1248 [(4, .int (zI (z))), (3, .ref (ad 951)), (2, .ref (ad 921)), (1, .ref (ad 0)), (0, .ref b)] [] := by
  have hay1 : zAt ad (0) (ad 0) := rfl
  have hay2 : zAt ad (921) (ad 921) := rfl
  have hay3 : zAt ad (951) (ad 951) := rfl
  obtain ⟨t, fp, im, nz, kz, sl, ho, ua, st, op, ai, fa, mu, tb, tp, F, r, sR, oR, aR, fR, mR, bR, pR, hR, hM, hJ⟩ := hJI
  refine z_aload_n C 3 dL_law_1248 rfl ?_
  refine z_aload_n C 4 dL_law_1249 rfl ?_
  refine z_iload C 0 dL_law_1250 rfl ?_
  refine z_iconst (z := 1) C dL_law_1252 rfl ?_
  refine z_iadd C dL_law_1253 ?_
  refine z_sld C hX hbl hbA (z + 1).toNat (by omega) (by omega) (by omega) hw1 dL_law_1254 ?_
  refine z_aload_n C 4 dL_law_1255 rfl ?_
  refine z_iload C 0 dL_law_1256 rfl ?_
  refine z_iconst (z := 2) C dL_law_1258 rfl ?_
  refine z_iadd C dL_law_1259 ?_
  refine z_sld C hX hbl hbA (z + 2).toNat (by omega) (by omega) (by omega) hw2 dL_law_1260 ?_
  refine z_aload_n C 4 dL_law_1261 rfl ?_
  refine z_iload C 0 dL_law_1262 rfl ?_
  refine z_iconst (z := 3) C dL_law_1264 rfl ?_
  refine z_iadd C dL_law_1265 ?_
  refine z_sld C hX hbl hbA (z + 3).toNat (by omega) (by omega) (by omega) hw3 dL_law_1266 ?_
  refine z_aload_n C 1 dL_law_1267 rfl ?_
  refine z_cSW (As := [.ref (ad 0), .int (zI (w1)), .int (zI (w2)), .int (zI (w3)), .ref (ad 951)]) (rest := []) C (c_L_odds l D A cs tt N ad _ hN hR hl0 q hq w1 hw1r w2 hw2r w3 hw3r) mW_yL_odds q_1408 hd_yL_odds (by decide) (Nat.le_of_ble_eq_true rfl) ⟨show k + 6 ≤ 601024 by omega, show n + 60 ≤ 7293034 by omega⟩ dL_law_1268 rfl (kI fun rk N1 ad1 g1 h1 => ?_)
  obtain ⟨⟨hN1, hA1, hG1⟩, h1⟩ := h1
  have hM1 : okMr cs ad1 g1 921 x F r sR oR aR fR mR bR pR := hM.grow (fun j a b => hA1 j (by omega)) (fun j a b => hG1 j (by omega) (by omega))
  have hN2 : 952 ≤ N1 := by omega
  rw [← hA1 0 (by omega), ← hA1 921 (by omega), ← hA1 951 (by omega)]
  have hay4 : zAt ad1 (921) (ad1 921) := rfl
  obtain ⟨hR1, q1, hq1⟩ := h1
  refine z_istore (lv' := [(5, .int (zI (rk))), (4, .int (zI (z))), (3, .ref (ad1 951)), (2, .ref (ad1 921)), (1, .ref (ad1 0)), (0, .ref b)]) C dL_law_1271 (by decide) rfl ?_
  refine z_aload_n C 3 dL_law_1273 rfl ?_
  refine z_aload_n C 5 dL_law_1274 rfl ?_
  refine z_iload C 1 dL_law_1275 rfl ?_
  refine z_iconst (z := 1) C dL_law_1277 rfl ?_
  refine z_iadd C dL_law_1278 ?_
  refine z_sld C hX hbl hbA (z + 1).toNat (by omega) (by omega) (by omega) hw1 dL_law_1279 ?_
  refine z_aload_n C 5 dL_law_1280 rfl ?_
  refine z_iload C 1 dL_law_1281 rfl ?_
  refine z_iconst (z := 2) C dL_law_1283 rfl ?_
  refine z_iadd C dL_law_1284 ?_
  refine z_sld C hX hbl hbA (z + 2).toNat (by omega) (by omega) (by omega) hw2 dL_law_1285 ?_
  refine z_aload_n C 5 dL_law_1286 rfl ?_
  refine z_iload C 1 dL_law_1287 rfl ?_
  refine z_iconst (z := 3) C dL_law_1289 rfl ?_
  refine z_iadd C dL_law_1290 ?_
  refine z_sld C hX hbl hbA (z + 3).toNat (by omega) (by omega) (by omega) hw3 dL_law_1291 ?_
  refine z_cV (As := [.int (zI (w1)), .int (zI (w2)), .int (zI (w3))]) (rest := []) (ci := 12) C (c_X10_odds l D A cs tt N1 ad1 _ 921 (by omega) x (by omega) F r hM1 w1 hw1r w2 hw2r w3 hw3r) (by omega) hay4 hM1.1 rfl rfl mv_yX10_odds q_2095 hd_yX10_odds (by decide) (Nat.le_of_ble_eq_true rfl) ⟨show k + 6 + 0 ≤ 601024 by omega, show n + 60 + 0 ≤ 7293034 by omega⟩ dL_law_1292 rfl (kI0 fun ry gy hy => ?_)
  obtain ⟨hry, ⟨F2, r2, hM2, hF2⟩, hG2⟩ := hy
  refine z_istore (lv' := [(6, .int (zI (ry))), (5, .int (zI (rk))), (4, .int (zI (z))), (3, .ref (ad1 951)), (2, .ref (ad1 921)), (1, .ref (ad1 0)), (0, .ref b)]) C dL_law_1295 (by decide) rfl ?_
  refine z_goto (tgt := 1376) C dL_law_1297 (by decide) ?_
  refine z_lv (lv' := [(4, .int (zI (z))), (3, .ref (ad1 951)), (2, .ref (ad1 921)), (1, .ref (ad1 0)), (0, .ref b)]) [2, 3, 4, 5, 6] rfl ?_
  refine z_widen (k2 := k + 16) (n2 := n + 2150) (show k + 6 + 0 ≤ k + 16 by omega) (show n + 60 + 0 ≤ n + 2150 by omega) ?_
  exact hK _ _ _ _ hN2 ⟨_, _, _, _, _, _, _, _, _, _, _, _, _, _, _, _, _, _, _, _, _, _, _, _, (hR1.o951 (fun j hj => hG2 j (by omega))), hM2, (hJ.keep hF2)⟩ ((hG2 951 (by omega)).trans hq1)

set_option maxRecDepth 100000 in
set_option maxHeartbeats 4000000 in
theorem law_c30 {p : Program} {l : Launch} {e : Env} {s : State} {m : MethodId} {below : List Frame} {meth : Method} {c : Code} {D : va_G} {A : Nat → Prop} {cs : Nat → ClassId} {tt : Nat} {b L : Nat} {xs : Nat → Int32} {N : Nat} {ad : Nat → Nat} {g : Nat → va_E} {k n : Nat} {x z : Int} {q : Nat → Int} {w1 w2 w3 w4 w5 : Int} (hl0 : l.stackTraces = false) (C : zC p s m #[Value.ref b] c cL_law 7 RL D A cs tt) (hr : meth.sig.returnType = ret) (hlk : meth.locks = false) (hA : ∀ q, A q → s.heap.size ≤ q) (hX : va_X b L xs s s.heap) (hbl : b < s.heap.size) (hbA : ¬ A b) (hL : L ≤ 3072) (hN : 952 ≤ N) (hJI : JI cs ad g N x) (hq : g 951 = jA cs 1 q) (hx : 0 ≤ x ∧ x ≤ 511) (hz : z = 6 * x) (hzL : z + 6 ≤ (L : Int)) (hk : k ≤ 590000) (hn : n ≤ 7000000) (hw1r : -2147483648 ≤ w1 ∧ w1 ≤ 2147483647) (hw1 : xs (z + 1).toNat = zI w1) (hw2r : -2147483648 ≤ w2 ∧ w2 ≤ 2147483647) (hw2 : xs (z + 2).toNat = zI w2) (hw3r : -2147483648 ≤ w3 ∧ w3 ≤ 2147483647) (hw3 : xs (z + 3).toNat = zI w3) (hw4r : -2147483648 ≤ w4 ∧ w4 ≤ 2147483647) (hw4 : xs (z + 4).toNat = zI w4) (hw5r : -2147483648 ≤ w5 ∧ w5 ≤ 2147483647) (hw5 : xs (z + 5).toNat = zI w5) (hK : ∀ (N' : Nat) (ad' : Nat → Nat) (g' : Nat → va_E) (q' : Nat → Int), 952 ≤ N' → JI cs ad' g' N' (x + 1) → g' 951 = jA cs 1 q' → zV p l e room_1 s m #[Value.ref b] below meth c (lw_Z below #[Value.ref b] s) D A 7 (N') ad' g' (k + 16) (n + 2150) 1376 [(4, .int (zI (z))), (3, .ref (ad' 951)), (2, .ref (ad' 921)), (1, .ref (ad' 0)), (0, .ref b)] []) : zV p l e room_1 s m #[Value.ref b] below meth c (lw_Z below #[Value.ref b] s) D A 7 (N) ad g (k) (n) 1300 [(4, .int (zI (z))), (3, .ref (ad 951)), (2, .ref (ad 921)), (1, .ref (ad 0)), (0, .ref b)] [] := by
  have hay1 : zAt ad (0) (ad 0) := rfl
  have hay2 : zAt ad (921) (ad 921) := rfl
  have hay3 : zAt ad (951) (ad 951) := rfl
  obtain ⟨t, fp, im, nz, kz, sl, ho, ua, st, op, ai, fa, mu, tb, tp, F, r, sR, oR, aR, fR, mR, bR, pR, hR, hM, hJ⟩ := hJI
  refine z_aload_n C 3 dL_law_1300 rfl ?_
  refine z_aload_n C 4 dL_law_1301 rfl ?_
  refine z_iload C 0 dL_law_1302 rfl ?_
  refine z_iconst (z := 1) C dL_law_1304 rfl ?_
  refine z_iadd C dL_law_1305 ?_
  refine z_sld C hX hbl hbA (z + 1).toNat (by omega) (by omega) (by omega) hw1 dL_law_1306 ?_
  refine z_aload_n C 4 dL_law_1307 rfl ?_
  refine z_iload C 0 dL_law_1308 rfl ?_
  refine z_iconst (z := 2) C dL_law_1310 rfl ?_
  refine z_iadd C dL_law_1311 ?_
  refine z_sld C hX hbl hbA (z + 2).toNat (by omega) (by omega) (by omega) hw2 dL_law_1312 ?_
  refine z_aload_n C 4 dL_law_1313 rfl ?_
  refine z_iload C 0 dL_law_1314 rfl ?_
  refine z_iconst (z := 3) C dL_law_1316 rfl ?_
  refine z_iadd C dL_law_1317 ?_
  refine z_sld C hX hbl hbA (z + 3).toNat (by omega) (by omega) (by omega) hw3 dL_law_1318 ?_
  refine z_aload_n C 1 dL_law_1319 rfl ?_
  refine z_cSW (As := [.ref (ad 0), .int (zI (w1)), .int (zI (w2)), .int (zI (w3)), .ref (ad 951)]) (rest := []) C (c_L_years l D A cs tt N ad _ hN hR hl0 q hq w1 hw1r w2 hw2r w3 hw3r) mW_yL_years q_1425 hd_yL_years (by decide) (Nat.le_of_ble_eq_true rfl) ⟨show k + 6 ≤ 601024 by omega, show n + 60 ≤ 7293034 by omega⟩ dL_law_1320 rfl (kI fun rk N1 ad1 g1 h1 => ?_)
  obtain ⟨⟨hN1, hA1, hG1⟩, h1⟩ := h1
  have hM1 : okMr cs ad1 g1 921 x F r sR oR aR fR mR bR pR := hM.grow (fun j a b => hA1 j (by omega)) (fun j a b => hG1 j (by omega) (by omega))
  have hN2 : 952 ≤ N1 := by omega
  rw [← hA1 0 (by omega), ← hA1 921 (by omega), ← hA1 951 (by omega)]
  have hay4 : zAt ad1 (921) (ad1 921) := rfl
  obtain ⟨hR1, q1, hq1⟩ := h1
  refine z_istore (lv' := [(5, .int (zI (rk))), (4, .int (zI (z))), (3, .ref (ad1 951)), (2, .ref (ad1 921)), (1, .ref (ad1 0)), (0, .ref b)]) C dL_law_1323 (by decide) rfl ?_
  refine z_aload_n C 3 dL_law_1325 rfl ?_
  refine z_aload_n C 5 dL_law_1326 rfl ?_
  refine z_iload C 1 dL_law_1327 rfl ?_
  refine z_iconst (z := 1) C dL_law_1329 rfl ?_
  refine z_iadd C dL_law_1330 ?_
  refine z_sld C hX hbl hbA (z + 1).toNat (by omega) (by omega) (by omega) hw1 dL_law_1331 ?_
  refine z_aload_n C 5 dL_law_1332 rfl ?_
  refine z_iload C 1 dL_law_1333 rfl ?_
  refine z_iconst (z := 2) C dL_law_1335 rfl ?_
  refine z_iadd C dL_law_1336 ?_
  refine z_sld C hX hbl hbA (z + 2).toNat (by omega) (by omega) (by omega) hw2 dL_law_1337 ?_
  refine z_aload_n C 5 dL_law_1338 rfl ?_
  refine z_iload C 1 dL_law_1339 rfl ?_
  refine z_iconst (z := 3) C dL_law_1341 rfl ?_
  refine z_iadd C dL_law_1342 ?_
  refine z_sld C hX hbl hbA (z + 3).toNat (by omega) (by omega) (by omega) hw3 dL_law_1343 ?_
  refine z_cV (As := [.int (zI (w1)), .int (zI (w2)), .int (zI (w3))]) (rest := []) (ci := 12) C (c_X10_years l D A cs tt N1 ad1 _ 921 (by omega) x (by omega) F r hM1 w1 hw1r w2 hw2r w3 hw3r) (by omega) hay4 hM1.1 rfl rfl mv_yX10_years q_2099 hd_yX10_years (by decide) (Nat.le_of_ble_eq_true rfl) ⟨show k + 6 + 0 ≤ 601024 by omega, show n + 60 + 0 ≤ 7293034 by omega⟩ dL_law_1344 rfl (kI0 fun ry gy hy => ?_)
  obtain ⟨hry, ⟨F2, r2, hM2, hF2⟩, hG2⟩ := hy
  refine z_istore (lv' := [(6, .int (zI (ry))), (5, .int (zI (rk))), (4, .int (zI (z))), (3, .ref (ad1 951)), (2, .ref (ad1 921)), (1, .ref (ad1 0)), (0, .ref b)]) C dL_law_1347 (by decide) rfl ?_
  refine z_goto (tgt := 1376) C dL_law_1349 (by decide) ?_
  refine z_lv (lv' := [(4, .int (zI (z))), (3, .ref (ad1 951)), (2, .ref (ad1 921)), (1, .ref (ad1 0)), (0, .ref b)]) [2, 3, 4, 5, 6] rfl ?_
  refine z_widen (k2 := k + 16) (n2 := n + 2150) (show k + 6 + 0 ≤ k + 16 by omega) (show n + 60 + 0 ≤ n + 2150 by omega) ?_
  exact hK _ _ _ _ hN2 ⟨_, _, _, _, _, _, _, _, _, _, _, _, _, _, _, _, _, _, _, _, _, _, _, _, (hR1.o951 (fun j hj => hG2 j (by omega))), hM2, (hJ.keep hF2)⟩ ((hG2 951 (by omega)).trans hq1)

