set_option maxRecDepth 100000 in
set_option maxHeartbeats 4000000 in
theorem law_end {p : Program} {l : Launch} {e : Env} {s : State} {m : MethodId} {below : List Frame} {meth : Method} {c : Code} {D : va_G} {A : Nat → Prop} {cs : Nat → ClassId} {tt : Nat} {b : Nat} {xs : Nat → Int32} {N : Nat} {ad : Nat → Nat} {g : Nat → va_E} {k n : Nat} {L : Nat} {z : Int} (hz : 0 ≤ z ∧ z ≤ 100 ∧ (L : Int) - 6 < z) (hL : L ≤ 6) (C : zC p s m #[Value.ref b] c cL_law 7 RL D A cs tt) (hr : meth.sig.returnType = ret) (hlk : meth.locks = false) (hA : ∀ q, A q → s.heap.size ≤ q) (hX : va_X b L xs s s.heap) (hbl : b < s.heap.size) (hbA : ¬ A b) (hk : k ≤ 600002) (hn : n ≤ 7302232) : zV p l e room_1 s m #[Value.ref b] below meth c (lw_Z below #[Value.ref b] s) D A 7 (N) ad g (k) (n) 23 [(4, .int (zI z)), (0, .ref b)] [] := by
  refine z_iload C 0 dL_law_23 rfl ?_
  refine z_aload_n C 1 dL_law_25 rfl ?_
  refine z_slen C hX hbl hbA dL_law_26 ?_
  refine z_bipush (z := 6) C dL_law_27 (by decide) ?_
  refine z_isub C dL_law_29 ?_
  refine z_icmp_gt (tgt := 1942) C dL_law_30 (by decide) (by omega) (by omega) (fun _ => ?_) (fun h => absurd h (by omega))
  refine z_iconst (z := 1) C dL_law_1942 rfl ?_
  exact z_lend C hr hlk hA dL_law_1943 hk hn

set_option maxRecDepth 100000 in
set_option maxHeartbeats 4000000 in
theorem law_tail {p : Program} {l : Launch} {e : Env} {s : State} {m : MethodId} {below : List Frame} {meth : Method} {c : Code} {D : va_G} {A : Nat → Prop} {cs : Nat → ClassId} {tt : Nat} {b : Nat} {xs : Nat → Int32} {N : Nat} {ad : Nat → Nat} {g : Nat → va_E} {k n : Nat} (C : zC p s m #[Value.ref b] c cL_law 7 RL D A cs tt) (hr : meth.sig.returnType = ret) (hlk : meth.locks = false) (hA : ∀ q, A q → s.heap.size ≤ q) (hX : va_X b 6 xs s s.heap) (hbl : b < s.heap.size) (hbA : ¬ A b) (hk : k ≤ 600002) (hn : n ≤ 7302232) : zV p l e room_1 s m #[Value.ref b] below meth c (lw_Z below #[Value.ref b] s) D A 7 (N) ad g (k) (n) 1936 [(4, .int (zI 0)), (0, .ref b)] [] := by
  refine z_iinc (z := 6) (lv' := [(4, .int (zI (6))), (0, .ref b)]) (j := 0) C dL_law_1936 rfl (congrArg zI (by omega)) (by decide) rfl ?_
  refine z_goto (tgt := 23) C dL_law_1939 (by decide) ?_
  exact law_end (L := 6) (by omega) (by omega) C hr hlk hA hX hbl hbA hk hn

set_option maxRecDepth 100000 in
set_option maxHeartbeats 4000000 in
theorem law_c0 {p : Program} {l : Launch} {e : Env} {s : State} {m : MethodId} {below : List Frame} {meth : Method} {c : Code} {D : va_G} {A : Nat → Prop} {cs : Nat → ClassId} {tt : Nat} {b : Nat} {xs : Nat → Int32} {ad : Nat → Nat} {g : Nat → va_E} (hl0 : l.stackTraces = false) (C : zC p s m #[Value.ref b] c cL_law 7 RL D A cs tt) (hr : meth.sig.returnType = ret) (hlk : meth.locks = false) (hA : ∀ q, A q → s.heap.size ≤ q) (hX : va_X b 6 xs s s.heap) (hbl : b < s.heap.size) (hbA : ¬ A b) (hR : isRec cs ad g 0) (hM : isM0 cs ad g 921) (hO : g 951 = jA cs 1 (fun _ => 0)) (w1 w2 w3 w4 w5 : Int) (hw1r : -2147483648 ≤ w1 ∧ w1 ≤ 2147483647) (hw1 : xs 1 = zI w1) (hw2r : -2147483648 ≤ w2 ∧ w2 ≤ 2147483647) (hw2 : xs 2 = zI w2) (hw3r : -2147483648 ≤ w3 ∧ w3 ≤ 2147483647) (hw3 : xs 3 = zI w3) (hw4r : -2147483648 ≤ w4 ∧ w4 ≤ 2147483647) (hw4 : xs 4 = zI w4) (hw5r : -2147483648 ≤ w5 ∧ w5 ≤ 2147483647) (hw5 : xs 5 = zI w5) : zV p l e room_1 s m #[Value.ref b] below meth c (lw_Z below #[Value.ref b] s) D A 7 (952) ad g (952) (74291) 188 [(4, .int (zI (0))), (3, .ref (ad 951)), (2, .ref (ad 921)), (1, .ref (ad 0)), (0, .ref b)] [] := by
  have hay1 : zAt ad (0) (ad 0) := rfl
  have hay2 : zAt ad (921) (ad 921) := rfl
  have hay3 : zAt ad (951) (ad 951) := rfl
  refine z_aload_n C 3 dL_law_188 rfl ?_
  refine z_aload_n C 4 dL_law_189 rfl ?_
  refine z_iload C 0 dL_law_190 rfl ?_
  refine z_iconst (z := 1) C dL_law_192 rfl ?_
  refine z_iadd C dL_law_193 ?_
  refine z_sld C hX hbl hbA 1 (by decide) (by decide) (by decide) hw1 dL_law_194 ?_
  refine z_aload_n C 4 dL_law_195 rfl ?_
  refine z_iload C 0 dL_law_196 rfl ?_
  refine z_iconst (z := 2) C dL_law_198 rfl ?_
  refine z_iadd C dL_law_199 ?_
  refine z_sld C hX hbl hbA 2 (by decide) (by decide) (by decide) hw2 dL_law_200 ?_
  refine z_aload_n C 4 dL_law_201 rfl ?_
  refine z_iload C 0 dL_law_202 rfl ?_
  refine z_iconst (z := 3) C dL_law_204 rfl ?_
  refine z_iadd C dL_law_205 ?_
  refine z_sld C hX hbl hbA 3 (by decide) (by decide) (by decide) hw3 dL_law_206 ?_
  refine z_aload_n C 4 dL_law_207 rfl ?_
  refine z_iload C 0 dL_law_208 rfl ?_
  refine z_iconst (z := 4) C dL_law_210 rfl ?_
  refine z_iadd C dL_law_211 ?_
  refine z_sld C hX hbl hbA 4 (by decide) (by decide) (by decide) hw4 dL_law_212 ?_
  refine z_aload_n C 4 dL_law_213 rfl ?_
  refine z_iload C 0 dL_law_214 rfl ?_
  refine z_iconst (z := 5) C dL_law_216 rfl ?_
  refine z_iadd C dL_law_217 ?_
  refine z_sld C hX hbl hbA 5 (by decide) (by decide) (by decide) hw5 dL_law_218 ?_
  refine z_cV (As := [.int (zI (w1)), .int (zI (w2)), .int (zI (w3)), .int (zI (w4)), .int (zI (w5))]) (rest := []) (ci := 11) C (c_X9_feed l D A cs tt 952 ad _ 0 (by decide) hR w1 w2 w3 w4 w5 ) (by decide) hay1 hR.1 rfl rfl mv_yX9_feed q_392 hd_yX9_feed (by decide) (Nat.le_of_ble_eq_true rfl) (by decide) dL_law_219 rfl (kI0 fun rx gx hx => ?_)
  obtain ⟨ex, fx⟩ := hx
  have hM9 : isM0 cs ad gx 921 := hM.mv (fun j _ _ => rfl) (fun j j1 j2 => fx j (by omega))
  refine z_aload_n C 2 dL_law_222 rfl ?_
  refine z_aload_n C 4 dL_law_223 rfl ?_
  refine z_iload C 0 dL_law_224 rfl ?_
  refine z_iconst (z := 1) C dL_law_226 rfl ?_
  refine z_iadd C dL_law_227 ?_
  refine z_sld C hX hbl hbA 1 (by decide) (by decide) (by decide) hw1 dL_law_228 ?_
  refine z_aload_n C 4 dL_law_229 rfl ?_
  refine z_iload C 0 dL_law_230 rfl ?_
  refine z_iconst (z := 2) C dL_law_232 rfl ?_
  refine z_iadd C dL_law_233 ?_
  refine z_sld C hX hbl hbA 2 (by decide) (by decide) (by decide) hw2 dL_law_234 ?_
  refine z_aload_n C 4 dL_law_235 rfl ?_
  refine z_iload C 0 dL_law_236 rfl ?_
  refine z_iconst (z := 3) C dL_law_238 rfl ?_
  refine z_iadd C dL_law_239 ?_
  refine z_sld C hX hbl hbA 3 (by decide) (by decide) (by decide) hw3 dL_law_240 ?_
  refine z_aload_n C 4 dL_law_241 rfl ?_
  refine z_iload C 0 dL_law_242 rfl ?_
  refine z_iconst (z := 4) C dL_law_244 rfl ?_
  refine z_iadd C dL_law_245 ?_
  refine z_sld C hX hbl hbA 4 (by decide) (by decide) (by decide) hw4 dL_law_246 ?_
  refine z_aload_n C 4 dL_law_247 rfl ?_
  refine z_iload C 0 dL_law_248 rfl ?_
  refine z_iconst (z := 5) C dL_law_250 rfl ?_
  refine z_iadd C dL_law_251 ?_
  refine z_sld C hX hbl hbA 5 (by decide) (by decide) (by decide) hw5 dL_law_252 ?_
  refine z_cV (As := [.int (zI (w1)), .int (zI (w2)), .int (zI (w3)), .int (zI (w4)), .int (zI (w5))]) (rest := [.int (zI (rx))]) (ci := 12) C (c_X10_feed l D A cs tt 952 ad _ 921 (by decide) hM9 w1 w2 w3 w4 w5 ) (by decide) hay2 hM9.cell rfl rfl mv_yX10_feed q_1644 hd_yX10_feed (by decide) (Nat.le_of_ble_eq_true rfl) (by decide) dL_law_253 rfl (kI0 fun ry gy hy => ?_)
  obtain ⟨ey, -⟩ := hy
  have hrr : -2147483648 ≤ rx ∧ rx ≤ 2147483647 := by subst ex; first | omega | (split <;> omega)
  rw [show ry = rx by rw [ex, ey]]
  refine z_icmp_eq (tgt := 1936) C dL_law_256 (by decide) (by omega) (by omega) (fun _ => ?_) (fun h => absurd h (by omega))
  refine z_lv (lv' := [(4, .int (zI 0)), (0, .ref b)]) [0, 4] rfl ?_
  exact law_tail C hr hlk hA hX hbl hbA (Nat.le_of_ble_eq_true rfl) (Nat.le_of_ble_eq_true rfl)

set_option maxRecDepth 100000 in
set_option maxHeartbeats 4000000 in
theorem law_c2 {p : Program} {l : Launch} {e : Env} {s : State} {m : MethodId} {below : List Frame} {meth : Method} {c : Code} {D : va_G} {A : Nat → Prop} {cs : Nat → ClassId} {tt : Nat} {b : Nat} {xs : Nat → Int32} {ad : Nat → Nat} {g : Nat → va_E} (hl0 : l.stackTraces = false) (C : zC p s m #[Value.ref b] c cL_law 7 RL D A cs tt) (hr : meth.sig.returnType = ret) (hlk : meth.locks = false) (hA : ∀ q, A q → s.heap.size ≤ q) (hX : va_X b 6 xs s s.heap) (hbl : b < s.heap.size) (hbA : ¬ A b) (hR : isRec cs ad g 0) (hM : isM0 cs ad g 921) (hO : g 951 = jA cs 1 (fun _ => 0)) (w1 w2 w3 w4 w5 : Int) (hw1r : -2147483648 ≤ w1 ∧ w1 ≤ 2147483647) (hw1 : xs 1 = zI w1) (hw2r : -2147483648 ≤ w2 ∧ w2 ≤ 2147483647) (hw2 : xs 2 = zI w2) (hw3r : -2147483648 ≤ w3 ∧ w3 ≤ 2147483647) (hw3 : xs 3 = zI w3) (hw4r : -2147483648 ≤ w4 ∧ w4 ≤ 2147483647) (hw4 : xs 4 = zI w4) (hw5r : -2147483648 ≤ w5 ∧ w5 ≤ 2147483647) (hw5 : xs 5 = zI w5) : zV p l e room_1 s m #[Value.ref b] below meth c (lw_Z below #[Value.ref b] s) D A 7 (952) ad g (952) (74291) 317 [(4, .int (zI (0))), (3, .ref (ad 951)), (2, .ref (ad 921)), (1, .ref (ad 0)), (0, .ref b)] [] := by
  have hay1 : zAt ad (0) (ad 0) := rfl
  have hay2 : zAt ad (921) (ad 921) := rfl
  have hay3 : zAt ad (951) (ad 951) := rfl
  refine z_aload_n C 3 dL_law_317 rfl ?_
  refine z_cV (As := []) (rest := []) (ci := 11) C (c_X9_fault l D A cs tt 952 ad _ 0 (by decide) hR  ) (by decide) hay1 hR.1 rfl rfl mv_yX9_fault q_400 hd_yX9_fault (by decide) (Nat.le_of_ble_eq_true rfl) (by decide) dL_law_318 rfl (kI0 fun rx gx hx => ?_)
  obtain ⟨ex, fx⟩ := hx
  have hM9 : isM0 cs ad gx 921 := hM.mv (fun j _ _ => rfl) (fun j j1 j2 => fx j (by omega))
  refine z_aload_n C 2 dL_law_321 rfl ?_
  refine z_cV (As := []) (rest := [.int (zI (rx))]) (ci := 12) C (c_X10_fault l D A cs tt 952 ad _ 921 (by decide) hM9  ) (by decide) hay2 hM9.cell rfl rfl mv_yX10_fault q_1725 hd_yX10_fault (by decide) (Nat.le_of_ble_eq_true rfl) (by decide) dL_law_322 rfl (kI0 fun ry gy hy => ?_)
  obtain ⟨ey, -⟩ := hy
  have hrr : -2147483648 ≤ rx ∧ rx ≤ 2147483647 := by subst ex; first | omega | (split <;> omega)
  rw [show ry = rx by rw [ex, ey]]
  refine z_icmp_eq (tgt := 1936) C dL_law_325 (by decide) (by omega) (by omega) (fun _ => ?_) (fun h => absurd h (by omega))
  refine z_lv (lv' := [(4, .int (zI 0)), (0, .ref b)]) [0, 4] rfl ?_
  exact law_tail C hr hlk hA hX hbl hbA (Nat.le_of_ble_eq_true rfl) (Nat.le_of_ble_eq_true rfl)

set_option maxRecDepth 100000 in
set_option maxHeartbeats 4000000 in
theorem law_c8 {p : Program} {l : Launch} {e : Env} {s : State} {m : MethodId} {below : List Frame} {meth : Method} {c : Code} {D : va_G} {A : Nat → Prop} {cs : Nat → ClassId} {tt : Nat} {b : Nat} {xs : Nat → Int32} {ad : Nat → Nat} {g : Nat → va_E} (hl0 : l.stackTraces = false) (C : zC p s m #[Value.ref b] c cL_law 7 RL D A cs tt) (hr : meth.sig.returnType = ret) (hlk : meth.locks = false) (hA : ∀ q, A q → s.heap.size ≤ q) (hX : va_X b 6 xs s s.heap) (hbl : b < s.heap.size) (hbA : ¬ A b) (hR : isRec cs ad g 0) (hM : isM0 cs ad g 921) (hO : g 951 = jA cs 1 (fun _ => 0)) (w1 w2 w3 w4 w5 : Int) (hw1r : -2147483648 ≤ w1 ∧ w1 ≤ 2147483647) (hw1 : xs 1 = zI w1) (hw2r : -2147483648 ≤ w2 ∧ w2 ≤ 2147483647) (hw2 : xs 2 = zI w2) (hw3r : -2147483648 ≤ w3 ∧ w3 ≤ 2147483647) (hw3 : xs 3 = zI w3) (hw4r : -2147483648 ≤ w4 ∧ w4 ≤ 2147483647) (hw4 : xs 4 = zI w4) (hw5r : -2147483648 ≤ w5 ∧ w5 ≤ 2147483647) (hw5 : xs 5 = zI w5) : zV p l e room_1 s m #[Value.ref b] below meth c (lw_Z below #[Value.ref b] s) D A 7 (952) ad g (952) (74291) 682 [(4, .int (zI (0))), (3, .ref (ad 951)), (2, .ref (ad 921)), (1, .ref (ad 0)), (0, .ref b)] [] := by
  have hay1 : zAt ad (0) (ad 0) := rfl
  have hay2 : zAt ad (921) (ad 921) := rfl
  have hay3 : zAt ad (951) (ad 951) := rfl
  refine z_aload_n C 3 dL_law_682 rfl ?_
  refine z_aload_n C 4 dL_law_683 rfl ?_
  refine z_iload C 0 dL_law_684 rfl ?_
  refine z_iconst (z := 1) C dL_law_686 rfl ?_
  refine z_iadd C dL_law_687 ?_
  refine z_sld C hX hbl hbA 1 (by decide) (by decide) (by decide) hw1 dL_law_688 ?_
  refine z_cV (As := [.int (zI (w1))]) (rest := []) (ci := 11) C (c_X9_hours l D A cs tt 952 ad _ 0 (by decide) hR w1 hw1r) (by decide) hay1 hR.1 rfl rfl mv_yX9_hours q_404 hd_yX9_hours (by decide) (Nat.le_of_ble_eq_true rfl) (by decide) dL_law_689 rfl (kI0 fun rx gx hx => ?_)
  obtain ⟨ex, fx⟩ := hx
  have hM9 : isM0 cs ad gx 921 := hM.mv (fun j _ _ => rfl) (fun j j1 j2 => fx j (by omega))
  refine z_aload_n C 2 dL_law_692 rfl ?_
  refine z_aload_n C 4 dL_law_693 rfl ?_
  refine z_iload C 0 dL_law_694 rfl ?_
  refine z_iconst (z := 1) C dL_law_696 rfl ?_
  refine z_iadd C dL_law_697 ?_
  refine z_sld C hX hbl hbA 1 (by decide) (by decide) (by decide) hw1 dL_law_698 ?_
  refine z_cV (As := [.int (zI (w1))]) (rest := [.int (zI (rx))]) (ci := 12) C (c_X10_hours l D A cs tt 952 ad _ 921 (by decide) hM9 w1 hw1r) (by decide) hay2 hM9.cell rfl rfl mv_yX10_hours q_1866 hd_yX10_hours (by decide) (Nat.le_of_ble_eq_true rfl) (by decide) dL_law_699 rfl (kI0 fun ry gy hy => ?_)
  obtain ⟨ey, -⟩ := hy
  have hrr : -2147483648 ≤ rx ∧ rx ≤ 2147483647 := by subst ex; first | omega | (split <;> omega)
  rw [show ry = rx by rw [ex, ey]]
  refine z_icmp_eq (tgt := 1936) C dL_law_702 (by decide) (by omega) (by omega) (fun _ => ?_) (fun h => absurd h (by omega))
  refine z_lv (lv' := [(4, .int (zI 0)), (0, .ref b)]) [0, 4] rfl ?_
  exact law_tail C hr hlk hA hX hbl hbA (Nat.le_of_ble_eq_true rfl) (Nat.le_of_ble_eq_true rfl)

set_option maxRecDepth 100000 in
set_option maxHeartbeats 4000000 in
theorem law_c9 {p : Program} {l : Launch} {e : Env} {s : State} {m : MethodId} {below : List Frame} {meth : Method} {c : Code} {D : va_G} {A : Nat → Prop} {cs : Nat → ClassId} {tt : Nat} {b : Nat} {xs : Nat → Int32} {ad : Nat → Nat} {g : Nat → va_E} (hl0 : l.stackTraces = false) (C : zC p s m #[Value.ref b] c cL_law 7 RL D A cs tt) (hr : meth.sig.returnType = ret) (hlk : meth.locks = false) (hA : ∀ q, A q → s.heap.size ≤ q) (hX : va_X b 6 xs s s.heap) (hbl : b < s.heap.size) (hbA : ¬ A b) (hR : isRec cs ad g 0) (hM : isM0 cs ad g 921) (hO : g 951 = jA cs 1 (fun _ => 0)) (w1 w2 w3 w4 w5 : Int) (hw1r : -2147483648 ≤ w1 ∧ w1 ≤ 2147483647) (hw1 : xs 1 = zI w1) (hw2r : -2147483648 ≤ w2 ∧ w2 ≤ 2147483647) (hw2 : xs 2 = zI w2) (hw3r : -2147483648 ≤ w3 ∧ w3 ≤ 2147483647) (hw3 : xs 3 = zI w3) (hw4r : -2147483648 ≤ w4 ∧ w4 ≤ 2147483647) (hw4 : xs 4 = zI w4) (hw5r : -2147483648 ≤ w5 ∧ w5 ≤ 2147483647) (hw5 : xs 5 = zI w5) : zV p l e room_1 s m #[Value.ref b] below meth c (lw_Z below #[Value.ref b] s) D A 7 (952) ad g (952) (74291) 707 [(4, .int (zI (0))), (3, .ref (ad 951)), (2, .ref (ad 921)), (1, .ref (ad 0)), (0, .ref b)] [] := by
  have hay1 : zAt ad (0) (ad 0) := rfl
  have hay2 : zAt ad (921) (ad 921) := rfl
  have hay3 : zAt ad (951) (ad 951) := rfl
  refine z_aload_n C 3 dL_law_707 rfl ?_
  refine z_aload_n C 4 dL_law_708 rfl ?_
  refine z_iload C 0 dL_law_709 rfl ?_
  refine z_iconst (z := 1) C dL_law_711 rfl ?_
  refine z_iadd C dL_law_712 ?_
  refine z_sld C hX hbl hbA 1 (by decide) (by decide) (by decide) hw1 dL_law_713 ?_
  refine z_aload_n C 4 dL_law_714 rfl ?_
  refine z_iload C 0 dL_law_715 rfl ?_
  refine z_iconst (z := 2) C dL_law_717 rfl ?_
  refine z_iadd C dL_law_718 ?_
  refine z_sld C hX hbl hbA 2 (by decide) (by decide) (by decide) hw2 dL_law_719 ?_
  refine z_aload_n C 4 dL_law_720 rfl ?_
  refine z_iload C 0 dL_law_721 rfl ?_
  refine z_iconst (z := 3) C dL_law_723 rfl ?_
  refine z_iadd C dL_law_724 ?_
  refine z_sld C hX hbl hbA 3 (by decide) (by decide) (by decide) hw3 dL_law_725 ?_
  refine z_cV (As := [.int (zI (w1)), .int (zI (w2)), .int (zI (w3))]) (rest := []) (ci := 11) C (c_X9_fall l D A cs tt 952 ad _ 0 (by decide) hR w1 w2 w3 hw1r hw2r hw3r) (by decide) hay1 hR.1 rfl rfl mv_yX9_fall q_533 hd_yX9_fall (by decide) (Nat.le_of_ble_eq_true rfl) (by decide) dL_law_726 rfl (kI0 fun rx gx hx => ?_)
  obtain ⟨ex, fx⟩ := hx
  have hM9 : isM0 cs ad gx 921 := hM.mv (fun j _ _ => rfl) (fun j j1 j2 => fx j (by omega))
  refine z_aload_n C 2 dL_law_729 rfl ?_
  refine z_aload_n C 4 dL_law_730 rfl ?_
  refine z_iload C 0 dL_law_731 rfl ?_
  refine z_iconst (z := 1) C dL_law_733 rfl ?_
  refine z_iadd C dL_law_734 ?_
  refine z_sld C hX hbl hbA 1 (by decide) (by decide) (by decide) hw1 dL_law_735 ?_
  refine z_aload_n C 4 dL_law_736 rfl ?_
  refine z_iload C 0 dL_law_737 rfl ?_
  refine z_iconst (z := 2) C dL_law_739 rfl ?_
  refine z_iadd C dL_law_740 ?_
  refine z_sld C hX hbl hbA 2 (by decide) (by decide) (by decide) hw2 dL_law_741 ?_
  refine z_aload_n C 4 dL_law_742 rfl ?_
  refine z_iload C 0 dL_law_743 rfl ?_
  refine z_iconst (z := 3) C dL_law_745 rfl ?_
  refine z_iadd C dL_law_746 ?_
  refine z_sld C hX hbl hbA 3 (by decide) (by decide) (by decide) hw3 dL_law_747 ?_
  refine z_cV (As := [.int (zI (w1)), .int (zI (w2)), .int (zI (w3))]) (rest := [.int (zI (rx))]) (ci := 12) C (c_X10_fall l D A cs tt 952 ad _ 921 (by decide) hM9 w1 w2 w3 hw1r hw2r hw3r) (by decide) hay2 hM9.cell rfl rfl mv_yX10_fall q_1952 hd_yX10_fall (by decide) (Nat.le_of_ble_eq_true rfl) (by decide) dL_law_748 rfl (kI0 fun ry gy hy => ?_)
  obtain ⟨ey, -⟩ := hy
  have hrr : -2147483648 ≤ rx ∧ rx ≤ 2147483647 := by subst ex; first | omega | (split <;> omega)
  rw [show ry = rx by rw [ex, ey]]
  refine z_icmp_eq (tgt := 1936) C dL_law_751 (by decide) (by omega) (by omega) (fun _ => ?_) (fun h => absurd h (by omega))
  refine z_lv (lv' := [(4, .int (zI 0)), (0, .ref b)]) [0, 4] rfl ?_
  exact law_tail C hr hlk hA hX hbl hbA (Nat.le_of_ble_eq_true rfl) (Nat.le_of_ble_eq_true rfl)

set_option maxRecDepth 100000 in
set_option maxHeartbeats 4000000 in
theorem law_c10 {p : Program} {l : Launch} {e : Env} {s : State} {m : MethodId} {below : List Frame} {meth : Method} {c : Code} {D : va_G} {A : Nat → Prop} {cs : Nat → ClassId} {tt : Nat} {b : Nat} {xs : Nat → Int32} {ad : Nat → Nat} {g : Nat → va_E} (hl0 : l.stackTraces = false) (C : zC p s m #[Value.ref b] c cL_law 7 RL D A cs tt) (hr : meth.sig.returnType = ret) (hlk : meth.locks = false) (hA : ∀ q, A q → s.heap.size ≤ q) (hX : va_X b 6 xs s s.heap) (hbl : b < s.heap.size) (hbA : ¬ A b) (hR : isRec cs ad g 0) (hM : isM0 cs ad g 921) (hO : g 951 = jA cs 1 (fun _ => 0)) (w1 w2 w3 w4 w5 : Int) (hw1r : -2147483648 ≤ w1 ∧ w1 ≤ 2147483647) (hw1 : xs 1 = zI w1) (hw2r : -2147483648 ≤ w2 ∧ w2 ≤ 2147483647) (hw2 : xs 2 = zI w2) (hw3r : -2147483648 ≤ w3 ∧ w3 ≤ 2147483647) (hw3 : xs 3 = zI w3) (hw4r : -2147483648 ≤ w4 ∧ w4 ≤ 2147483647) (hw4 : xs 4 = zI w4) (hw5r : -2147483648 ≤ w5 ∧ w5 ≤ 2147483647) (hw5 : xs 5 = zI w5) : zV p l e room_1 s m #[Value.ref b] below meth c (lw_Z below #[Value.ref b] s) D A 7 (952) ad g (952) (74291) 756 [(4, .int (zI (0))), (3, .ref (ad 951)), (2, .ref (ad 921)), (1, .ref (ad 0)), (0, .ref b)] [] := by
  have hay1 : zAt ad (0) (ad 0) := rfl
  have hay2 : zAt ad (921) (ad 921) := rfl
  have hay3 : zAt ad (951) (ad 951) := rfl
  refine z_aload_n C 3 dL_law_756 rfl ?_
  refine z_aload_n C 4 dL_law_757 rfl ?_
  refine z_iload C 0 dL_law_758 rfl ?_
  refine z_iconst (z := 1) C dL_law_760 rfl ?_
  refine z_iadd C dL_law_761 ?_
  refine z_sld C hX hbl hbA 1 (by decide) (by decide) (by decide) hw1 dL_law_762 ?_
  refine z_cV (As := [.int (zI (w1))]) (rest := []) (ci := 11) C (c_X9_dig l D A cs tt 952 ad _ 0 (by decide) hR w1 hw1r) (by decide) hay1 hR.1 rfl rfl mv_yX9_dig q_547 hd_yX9_dig (by decide) (Nat.le_of_ble_eq_true rfl) (by decide) dL_law_763 rfl (kI0 fun rx gx hx => ?_)
  obtain ⟨ex, fx⟩ := hx
  have hM9 : isM0 cs ad gx 921 := hM.mv (fun j _ _ => rfl) (fun j j1 j2 => fx j (by omega))
  refine z_aload_n C 2 dL_law_766 rfl ?_
  refine z_aload_n C 4 dL_law_767 rfl ?_
  refine z_iload C 0 dL_law_768 rfl ?_
  refine z_iconst (z := 1) C dL_law_770 rfl ?_
  refine z_iadd C dL_law_771 ?_
  refine z_sld C hX hbl hbA 1 (by decide) (by decide) (by decide) hw1 dL_law_772 ?_
  refine z_cV (As := [.int (zI (w1))]) (rest := [.int (zI (rx))]) (ci := 12) C (c_X10_dig l D A cs tt 952 ad _ 921 (by decide) hM9 w1 hw1r) (by decide) hay2 hM9.cell rfl rfl mv_yX10_dig q_1956 hd_yX10_dig (by decide) (Nat.le_of_ble_eq_true rfl) (by decide) dL_law_773 rfl (kI0 fun ry gy hy => ?_)
  obtain ⟨ey, -⟩ := hy
  have hrr : -2147483648 ≤ rx ∧ rx ≤ 2147483647 := by subst ex; first | omega | (split <;> omega)
  rw [show ry = rx by rw [ex, ey]]
  refine z_icmp_eq (tgt := 1936) C dL_law_776 (by decide) (by omega) (by omega) (fun _ => ?_) (fun h => absurd h (by omega))
  refine z_lv (lv' := [(4, .int (zI 0)), (0, .ref b)]) [0, 4] rfl ?_
  exact law_tail C hr hlk hA hX hbl hbA (Nat.le_of_ble_eq_true rfl) (Nat.le_of_ble_eq_true rfl)

set_option maxRecDepth 100000 in
set_option maxHeartbeats 4000000 in
theorem law_c11 {p : Program} {l : Launch} {e : Env} {s : State} {m : MethodId} {below : List Frame} {meth : Method} {c : Code} {D : va_G} {A : Nat → Prop} {cs : Nat → ClassId} {tt : Nat} {b : Nat} {xs : Nat → Int32} {ad : Nat → Nat} {g : Nat → va_E} (hl0 : l.stackTraces = false) (C : zC p s m #[Value.ref b] c cL_law 7 RL D A cs tt) (hr : meth.sig.returnType = ret) (hlk : meth.locks = false) (hA : ∀ q, A q → s.heap.size ≤ q) (hX : va_X b 6 xs s s.heap) (hbl : b < s.heap.size) (hbA : ¬ A b) (hR : isRec cs ad g 0) (hM : isM0 cs ad g 921) (hO : g 951 = jA cs 1 (fun _ => 0)) (w1 w2 w3 w4 w5 : Int) (hw1r : -2147483648 ≤ w1 ∧ w1 ≤ 2147483647) (hw1 : xs 1 = zI w1) (hw2r : -2147483648 ≤ w2 ∧ w2 ≤ 2147483647) (hw2 : xs 2 = zI w2) (hw3r : -2147483648 ≤ w3 ∧ w3 ≤ 2147483647) (hw3 : xs 3 = zI w3) (hw4r : -2147483648 ≤ w4 ∧ w4 ≤ 2147483647) (hw4 : xs 4 = zI w4) (hw5r : -2147483648 ≤ w5 ∧ w5 ≤ 2147483647) (hw5 : xs 5 = zI w5) : zV p l e room_1 s m #[Value.ref b] below meth c (lw_Z below #[Value.ref b] s) D A 7 (952) ad g (952) (74291) 781 [(4, .int (zI (0))), (3, .ref (ad 951)), (2, .ref (ad 921)), (1, .ref (ad 0)), (0, .ref b)] [] := by
  have hay1 : zAt ad (0) (ad 0) := rfl
  have hay2 : zAt ad (921) (ad 921) := rfl
  have hay3 : zAt ad (951) (ad 951) := rfl
  refine z_aload_n C 3 dL_law_781 rfl ?_
  refine z_aload_n C 4 dL_law_782 rfl ?_
  refine z_iload C 0 dL_law_783 rfl ?_
  refine z_iconst (z := 1) C dL_law_785 rfl ?_
  refine z_iadd C dL_law_786 ?_
  refine z_sld C hX hbl hbA 1 (by decide) (by decide) (by decide) hw1 dL_law_787 ?_
  refine z_cV (As := [.int (zI (w1))]) (rest := []) (ci := 11) C (c_X9_slide l D A cs tt 952 ad _ 0 (by decide) hR w1 hw1r) (by decide) hay1 hR.1 rfl rfl mv_yX9_slide q_556 hd_yX9_slide (by decide) (Nat.le_of_ble_eq_true rfl) (by decide) dL_law_788 rfl (kI0 fun rx gx hx => ?_)
  obtain ⟨ex, fx⟩ := hx
  have hM9 : isM0 cs ad gx 921 := hM.mv (fun j _ _ => rfl) (fun j j1 j2 => fx j (by omega))
  refine z_aload_n C 2 dL_law_791 rfl ?_
  refine z_aload_n C 4 dL_law_792 rfl ?_
  refine z_iload C 0 dL_law_793 rfl ?_
  refine z_iconst (z := 1) C dL_law_795 rfl ?_
  refine z_iadd C dL_law_796 ?_
  refine z_sld C hX hbl hbA 1 (by decide) (by decide) (by decide) hw1 dL_law_797 ?_
  refine z_cV (As := [.int (zI (w1))]) (rest := [.int (zI (rx))]) (ci := 12) C (c_X10_slide l D A cs tt 952 ad _ 921 (by decide) hM9 w1 hw1r) (by decide) hay2 hM9.cell rfl rfl mv_yX10_slide q_1964 hd_yX10_slide (by decide) (Nat.le_of_ble_eq_true rfl) (by decide) dL_law_798 rfl (kI0 fun ry gy hy => ?_)
  obtain ⟨ey, -⟩ := hy
  have hrr : -2147483648 ≤ rx ∧ rx ≤ 2147483647 := by subst ex; first | omega | (split <;> omega)
  rw [show ry = rx by rw [ex, ey]]
  refine z_icmp_eq (tgt := 1936) C dL_law_801 (by decide) (by omega) (by omega) (fun _ => ?_) (fun h => absurd h (by omega))
  refine z_lv (lv' := [(4, .int (zI 0)), (0, .ref b)]) [0, 4] rfl ?_
  exact law_tail C hr hlk hA hX hbl hbA (Nat.le_of_ble_eq_true rfl) (Nat.le_of_ble_eq_true rfl)

set_option maxRecDepth 100000 in
set_option maxHeartbeats 4000000 in
theorem law_c12 {p : Program} {l : Launch} {e : Env} {s : State} {m : MethodId} {below : List Frame} {meth : Method} {c : Code} {D : va_G} {A : Nat → Prop} {cs : Nat → ClassId} {tt : Nat} {b : Nat} {xs : Nat → Int32} {ad : Nat → Nat} {g : Nat → va_E} (hl0 : l.stackTraces = false) (C : zC p s m #[Value.ref b] c cL_law 7 RL D A cs tt) (hr : meth.sig.returnType = ret) (hlk : meth.locks = false) (hA : ∀ q, A q → s.heap.size ≤ q) (hX : va_X b 6 xs s s.heap) (hbl : b < s.heap.size) (hbA : ¬ A b) (hR : isRec cs ad g 0) (hM : isM0 cs ad g 921) (hO : g 951 = jA cs 1 (fun _ => 0)) (w1 w2 w3 w4 w5 : Int) (hw1r : -2147483648 ≤ w1 ∧ w1 ≤ 2147483647) (hw1 : xs 1 = zI w1) (hw2r : -2147483648 ≤ w2 ∧ w2 ≤ 2147483647) (hw2 : xs 2 = zI w2) (hw3r : -2147483648 ≤ w3 ∧ w3 ≤ 2147483647) (hw3 : xs 3 = zI w3) (hw4r : -2147483648 ≤ w4 ∧ w4 ≤ 2147483647) (hw4 : xs 4 = zI w4) (hw5r : -2147483648 ≤ w5 ∧ w5 ≤ 2147483647) (hw5 : xs 5 = zI w5) : zV p l e room_1 s m #[Value.ref b] below meth c (lw_Z below #[Value.ref b] s) D A 7 (952) ad g (952) (74291) 806 [(4, .int (zI (0))), (3, .ref (ad 951)), (2, .ref (ad 921)), (1, .ref (ad 0)), (0, .ref b)] [] := by
  have hay1 : zAt ad (0) (ad 0) := rfl
  have hay2 : zAt ad (921) (ad 921) := rfl
  have hay3 : zAt ad (951) (ad 951) := rfl
  refine z_aload_n C 3 dL_law_806 rfl ?_
  refine z_aload_n C 4 dL_law_807 rfl ?_
  refine z_iload C 0 dL_law_808 rfl ?_
  refine z_iconst (z := 1) C dL_law_810 rfl ?_
  refine z_iadd C dL_law_811 ?_
  refine z_sld C hX hbl hbA 1 (by decide) (by decide) (by decide) hw1 dL_law_812 ?_
  refine z_cV (As := [.int (zI (w1))]) (rest := []) (ci := 11) C (c_X9_pit l D A cs tt 952 ad _ 0 (by decide) hR w1 hw1r) (by decide) hay1 hR.1 rfl rfl mv_yX9_pit q_598 hd_yX9_pit (by decide) (Nat.le_of_ble_eq_true rfl) (by decide) dL_law_813 rfl (kI0 fun rx gx hx => ?_)
  obtain ⟨ex, fx⟩ := hx
  have hM9 : isM0 cs ad gx 921 := hM.mv (fun j _ _ => rfl) (fun j j1 j2 => fx j (by omega))
  refine z_aload_n C 2 dL_law_816 rfl ?_
  refine z_aload_n C 4 dL_law_817 rfl ?_
  refine z_iload C 0 dL_law_818 rfl ?_
  refine z_iconst (z := 1) C dL_law_820 rfl ?_
  refine z_iadd C dL_law_821 ?_
  refine z_sld C hX hbl hbA 1 (by decide) (by decide) (by decide) hw1 dL_law_822 ?_
  refine z_cV (As := [.int (zI (w1))]) (rest := [.int (zI (rx))]) (ci := 12) C (c_X10_pit l D A cs tt 952 ad _ 921 (by decide) hM9 w1 hw1r) (by decide) hay2 hM9.cell rfl rfl mv_yX10_pit q_1972 hd_yX10_pit (by decide) (Nat.le_of_ble_eq_true rfl) (by decide) dL_law_823 rfl (kI0 fun ry gy hy => ?_)
  obtain ⟨ey, -⟩ := hy
  have hrr : -2147483648 ≤ rx ∧ rx ≤ 2147483647 := by subst ex; first | omega | (split <;> omega)
  rw [show ry = rx by rw [ex, ey]]
  refine z_icmp_eq (tgt := 1936) C dL_law_826 (by decide) (by omega) (by omega) (fun _ => ?_) (fun h => absurd h (by omega))
  refine z_lv (lv' := [(4, .int (zI 0)), (0, .ref b)]) [0, 4] rfl ?_
  exact law_tail C hr hlk hA hX hbl hbA (Nat.le_of_ble_eq_true rfl) (Nat.le_of_ble_eq_true rfl)

set_option maxRecDepth 100000 in
set_option maxHeartbeats 4000000 in
theorem law_c13 {p : Program} {l : Launch} {e : Env} {s : State} {m : MethodId} {below : List Frame} {meth : Method} {c : Code} {D : va_G} {A : Nat → Prop} {cs : Nat → ClassId} {tt : Nat} {b : Nat} {xs : Nat → Int32} {ad : Nat → Nat} {g : Nat → va_E} (hl0 : l.stackTraces = false) (C : zC p s m #[Value.ref b] c cL_law 7 RL D A cs tt) (hr : meth.sig.returnType = ret) (hlk : meth.locks = false) (hA : ∀ q, A q → s.heap.size ≤ q) (hX : va_X b 6 xs s s.heap) (hbl : b < s.heap.size) (hbA : ¬ A b) (hR : isRec cs ad g 0) (hM : isM0 cs ad g 921) (hO : g 951 = jA cs 1 (fun _ => 0)) (w1 w2 w3 w4 w5 : Int) (hw1r : -2147483648 ≤ w1 ∧ w1 ≤ 2147483647) (hw1 : xs 1 = zI w1) (hw2r : -2147483648 ≤ w2 ∧ w2 ≤ 2147483647) (hw2 : xs 2 = zI w2) (hw3r : -2147483648 ≤ w3 ∧ w3 ≤ 2147483647) (hw3 : xs 3 = zI w3) (hw4r : -2147483648 ≤ w4 ∧ w4 ≤ 2147483647) (hw4 : xs 4 = zI w4) (hw5r : -2147483648 ≤ w5 ∧ w5 ≤ 2147483647) (hw5 : xs 5 = zI w5) : zV p l e room_1 s m #[Value.ref b] below meth c (lw_Z below #[Value.ref b] s) D A 7 (952) ad g (952) (74291) 831 [(4, .int (zI (0))), (3, .ref (ad 951)), (2, .ref (ad 921)), (1, .ref (ad 0)), (0, .ref b)] [] := by
  have hay1 : zAt ad (0) (ad 0) := rfl
  have hay2 : zAt ad (921) (ad 921) := rfl
  have hay3 : zAt ad (951) (ad 951) := rfl
  refine z_aload_n C 3 dL_law_831 rfl ?_
  refine z_cV (As := []) (rest := []) (ci := 11) C (c_X9_undo l D A cs tt 952 ad _ 0 (by decide) hR  ) (by decide) hay1 hR.1 rfl rfl mv_yX9_undo q_607 hd_yX9_undo (by decide) (Nat.le_of_ble_eq_true rfl) (by decide) dL_law_832 rfl (kI0 fun rx gx hx => ?_)
  obtain ⟨ex, fx⟩ := hx
  have hM9 : isM0 cs ad gx 921 := hM.mv (fun j _ _ => rfl) (fun j j1 j2 => fx j (by omega))
  refine z_aload_n C 2 dL_law_835 rfl ?_
  refine z_cV (As := []) (rest := [.int (zI (rx))]) (ci := 12) C (c_X10_undo l D A cs tt 952 ad _ 921 (by decide) hM9  ) (by decide) hay2 hM9.cell rfl rfl mv_yX10_undo q_1976 hd_yX10_undo (by decide) (Nat.le_of_ble_eq_true rfl) (by decide) dL_law_836 rfl (kI0 fun ry gy hy => ?_)
  obtain ⟨ey, -⟩ := hy
  have hrr : -2147483648 ≤ rx ∧ rx ≤ 2147483647 := by subst ex; first | omega | (split <;> omega)
  rw [show ry = rx by rw [ex, ey]]
  refine z_icmp_eq (tgt := 1936) C dL_law_839 (by decide) (by omega) (by omega) (fun _ => ?_) (fun h => absurd h (by omega))
  refine z_lv (lv' := [(4, .int (zI 0)), (0, .ref b)]) [0, 4] rfl ?_
  exact law_tail C hr hlk hA hX hbl hbA (Nat.le_of_ble_eq_true rfl) (Nat.le_of_ble_eq_true rfl)

set_option maxRecDepth 100000 in
set_option maxHeartbeats 4000000 in
theorem law_c25 {p : Program} {l : Launch} {e : Env} {s : State} {m : MethodId} {below : List Frame} {meth : Method} {c : Code} {D : va_G} {A : Nat → Prop} {cs : Nat → ClassId} {tt : Nat} {b : Nat} {xs : Nat → Int32} {ad : Nat → Nat} {g : Nat → va_E} (hl0 : l.stackTraces = false) (C : zC p s m #[Value.ref b] c cL_law 7 RL D A cs tt) (hr : meth.sig.returnType = ret) (hlk : meth.locks = false) (hA : ∀ q, A q → s.heap.size ≤ q) (hX : va_X b 6 xs s s.heap) (hbl : b < s.heap.size) (hbA : ¬ A b) (hR : isRec cs ad g 0) (hM : isM0 cs ad g 921) (hO : g 951 = jA cs 1 (fun _ => 0)) (w1 w2 w3 w4 w5 : Int) (hw1r : -2147483648 ≤ w1 ∧ w1 ≤ 2147483647) (hw1 : xs 1 = zI w1) (hw2r : -2147483648 ≤ w2 ∧ w2 ≤ 2147483647) (hw2 : xs 2 = zI w2) (hw3r : -2147483648 ≤ w3 ∧ w3 ≤ 2147483647) (hw3 : xs 3 = zI w3) (hw4r : -2147483648 ≤ w4 ∧ w4 ≤ 2147483647) (hw4 : xs 4 = zI w4) (hw5r : -2147483648 ≤ w5 ∧ w5 ≤ 2147483647) (hw5 : xs 5 = zI w5) : zV p l e room_1 s m #[Value.ref b] below meth c (lw_Z below #[Value.ref b] s) D A 7 (952) ad g (952) (74291) 1580 [(4, .int (zI (0))), (3, .ref (ad 951)), (2, .ref (ad 921)), (1, .ref (ad 0)), (0, .ref b)] [] := by
  have hay1 : zAt ad (0) (ad 0) := rfl
  have hay2 : zAt ad (921) (ad 921) := rfl
  have hay3 : zAt ad (951) (ad 951) := rfl
  refine z_aload_n C 3 dL_law_1580 rfl ?_
  refine z_aload_n C 4 dL_law_1581 rfl ?_
  refine z_iload C 0 dL_law_1582 rfl ?_
  refine z_iconst (z := 1) C dL_law_1584 rfl ?_
  refine z_iadd C dL_law_1585 ?_
  refine z_sld C hX hbl hbA 1 (by decide) (by decide) (by decide) hw1 dL_law_1586 ?_
  refine z_aload_n C 4 dL_law_1587 rfl ?_
  refine z_iload C 0 dL_law_1588 rfl ?_
  refine z_iconst (z := 2) C dL_law_1590 rfl ?_
  refine z_iadd C dL_law_1591 ?_
  refine z_sld C hX hbl hbA 2 (by decide) (by decide) (by decide) hw2 dL_law_1592 ?_
  refine z_aload_n C 4 dL_law_1593 rfl ?_
  refine z_iload C 0 dL_law_1594 rfl ?_
  refine z_iconst (z := 3) C dL_law_1596 rfl ?_
  refine z_iadd C dL_law_1597 ?_
  refine z_sld C hX hbl hbA 3 (by decide) (by decide) (by decide) hw3 dL_law_1598 ?_
  refine z_cV (As := [.int (zI (w1)), .int (zI (w2)), .int (zI (w3))]) (rest := []) (ci := 11) C (c_X9_note l D A cs tt 952 ad _ 0 (by decide) hR w1 w2 w3 hw1r hw2r hw3r) (by decide) hay1 hR.1 rfl rfl mv_yX9_note q_615 hd_yX9_note (by decide) (Nat.le_of_ble_eq_true rfl) (by decide) dL_law_1599 rfl (kI0 fun rx gx hx => ?_)
  obtain ⟨ex, fx⟩ := hx
  have hM9 : isM0 cs ad gx 921 := hM.mv (fun j _ _ => rfl) (fun j j1 j2 => fx j (by omega))
  refine z_aload_n C 2 dL_law_1602 rfl ?_
  refine z_aload_n C 4 dL_law_1603 rfl ?_
  refine z_iload C 0 dL_law_1604 rfl ?_
  refine z_iconst (z := 1) C dL_law_1606 rfl ?_
  refine z_iadd C dL_law_1607 ?_
  refine z_sld C hX hbl hbA 1 (by decide) (by decide) (by decide) hw1 dL_law_1608 ?_
  refine z_aload_n C 4 dL_law_1609 rfl ?_
  refine z_iload C 0 dL_law_1610 rfl ?_
  refine z_iconst (z := 2) C dL_law_1612 rfl ?_
  refine z_iadd C dL_law_1613 ?_
  refine z_sld C hX hbl hbA 2 (by decide) (by decide) (by decide) hw2 dL_law_1614 ?_
  refine z_aload_n C 4 dL_law_1615 rfl ?_
  refine z_iload C 0 dL_law_1616 rfl ?_
  refine z_iconst (z := 3) C dL_law_1618 rfl ?_
  refine z_iadd C dL_law_1619 ?_
  refine z_sld C hX hbl hbA 3 (by decide) (by decide) (by decide) hw3 dL_law_1620 ?_
  refine z_cV (As := [.int (zI (w1)), .int (zI (w2)), .int (zI (w3))]) (rest := [.int (zI (rx))]) (ci := 12) C (c_X10_note l D A cs tt 952 ad _ 921 (by decide) hM9 w1 w2 w3 hw1r hw2r hw3r) (by decide) hay2 hM9.cell rfl rfl mv_yX10_note q_2067 hd_yX10_note (by decide) (Nat.le_of_ble_eq_true rfl) (by decide) dL_law_1621 rfl (kI0 fun ry gy hy => ?_)
  obtain ⟨ey, -⟩ := hy
  have hrr : -2147483648 ≤ rx ∧ rx ≤ 2147483647 := by subst ex; first | omega | (split <;> omega)
  rw [show ry = rx by rw [ex, ey]]
  refine z_icmp_eq (tgt := 1936) C dL_law_1624 (by decide) (by omega) (by omega) (fun _ => ?_) (fun h => absurd h (by omega))
  refine z_lv (lv' := [(4, .int (zI 0)), (0, .ref b)]) [0, 4] rfl ?_
  exact law_tail C hr hlk hA hX hbl hbA (Nat.le_of_ble_eq_true rfl) (Nat.le_of_ble_eq_true rfl)

set_option maxRecDepth 100000 in
set_option maxHeartbeats 4000000 in
theorem law_c32 {p : Program} {l : Launch} {e : Env} {s : State} {m : MethodId} {below : List Frame} {meth : Method} {c : Code} {D : va_G} {A : Nat → Prop} {cs : Nat → ClassId} {tt : Nat} {b : Nat} {xs : Nat → Int32} {ad : Nat → Nat} {g : Nat → va_E} (hl0 : l.stackTraces = false) (C : zC p s m #[Value.ref b] c cL_law 7 RL D A cs tt) (hr : meth.sig.returnType = ret) (hlk : meth.locks = false) (hA : ∀ q, A q → s.heap.size ≤ q) (hX : va_X b 6 xs s s.heap) (hbl : b < s.heap.size) (hbA : ¬ A b) (hR : isRec cs ad g 0) (hM : isM0 cs ad g 921) (hO : g 951 = jA cs 1 (fun _ => 0)) (w1 w2 w3 w4 w5 : Int) (hw1r : -2147483648 ≤ w1 ∧ w1 ≤ 2147483647) (hw1 : xs 1 = zI w1) (hw2r : -2147483648 ≤ w2 ∧ w2 ≤ 2147483647) (hw2 : xs 2 = zI w2) (hw3r : -2147483648 ≤ w3 ∧ w3 ≤ 2147483647) (hw3 : xs 3 = zI w3) (hw4r : -2147483648 ≤ w4 ∧ w4 ≤ 2147483647) (hw4 : xs 4 = zI w4) (hw5r : -2147483648 ≤ w5 ∧ w5 ≤ 2147483647) (hw5 : xs 5 = zI w5) : zV p l e room_1 s m #[Value.ref b] below meth c (lw_Z below #[Value.ref b] s) D A 7 (952) ad g (952) (74291) 1923 [(4, .int (zI (0))), (3, .ref (ad 951)), (2, .ref (ad 921)), (1, .ref (ad 0)), (0, .ref b)] [] := by
  have hay1 : zAt ad (0) (ad 0) := rfl
  have hay2 : zAt ad (921) (ad 921) := rfl
  have hay3 : zAt ad (951) (ad 951) := rfl
  refine z_aload_n C 3 dL_law_1923 rfl ?_
  refine z_cV (As := []) (rest := []) (ci := 11) C (c_X9_restore l D A cs tt 952 ad _ 0 (by decide) hR  ) (by decide) hay1 hR.1 rfl rfl mv_yX9_restore q_646 hd_yX9_restore (by decide) (Nat.le_of_ble_eq_true rfl) (by decide) dL_law_1924 rfl (kI0 fun rx gx hx => ?_)
  obtain ⟨ex, fx⟩ := hx
  have hM9 : isM0 cs ad gx 921 := hM.mv (fun j _ _ => rfl) (fun j j1 j2 => fx j (by omega))
  refine z_aload_n C 2 dL_law_1927 rfl ?_
  refine z_cV (As := []) (rest := [.int (zI (rx))]) (ci := 12) C (c_X10_restore l D A cs tt 952 ad _ 921 (by decide) hM9  ) (by decide) hay2 hM9.cell rfl rfl mv_yX10_restore q_2116 hd_yX10_restore (by decide) (Nat.le_of_ble_eq_true rfl) (by decide) dL_law_1928 rfl (kI0 fun ry gy hy => ?_)
  obtain ⟨ey, -⟩ := hy
  have hrr : -2147483648 ≤ rx ∧ rx ≤ 2147483647 := by subst ex; first | omega | (split <;> omega)
  rw [show ry = rx by rw [ex, ey]]
  refine z_icmp_eq (tgt := 1936) C dL_law_1931 (by decide) (by omega) (by omega) (fun _ => ?_) (fun h => absurd h (by omega))
  refine z_lv (lv' := [(4, .int (zI 0)), (0, .ref b)]) [0, 4] rfl ?_
  exact law_tail C hr hlk hA hX hbl hbA (Nat.le_of_ble_eq_true rfl) (Nat.le_of_ble_eq_true rfl)

set_option maxRecDepth 100000 in
set_option maxHeartbeats 4000000 in
theorem law_c28 {p : Program} {l : Launch} {e : Env} {s : State} {m : MethodId} {below : List Frame} {meth : Method} {c : Code} {D : va_G} {A : Nat → Prop} {cs : Nat → ClassId} {tt : Nat} {b : Nat} {xs : Nat → Int32} {ad : Nat → Nat} {g : Nat → va_E} (hl0 : l.stackTraces = false) (C : zC p s m #[Value.ref b] c cL_law 7 RL D A cs tt) (hr : meth.sig.returnType = ret) (hlk : meth.locks = false) (hA : ∀ q, A q → s.heap.size ≤ q) (hX : va_X b 6 xs s s.heap) (hbl : b < s.heap.size) (hbA : ¬ A b) (hR : isRec cs ad g 0) (hM : isM0 cs ad g 921) (hO : g 951 = jA cs 1 (fun _ => 0)) (w1 w2 w3 w4 w5 : Int) (hw1r : -2147483648 ≤ w1 ∧ w1 ≤ 2147483647) (hw1 : xs 1 = zI w1) (hw2r : -2147483648 ≤ w2 ∧ w2 ≤ 2147483647) (hw2 : xs 2 = zI w2) (hw3r : -2147483648 ≤ w3 ∧ w3 ≤ 2147483647) (hw3 : xs 3 = zI w3) (hw4r : -2147483648 ≤ w4 ∧ w4 ≤ 2147483647) (hw4 : xs 4 = zI w4) (hw5r : -2147483648 ≤ w5 ∧ w5 ≤ 2147483647) (hw5 : xs 5 = zI w5) : zV p l e room_1 s m #[Value.ref b] below meth c (lw_Z below #[Value.ref b] s) D A 7 (952) ad g (952) (74291) 1741 [(4, .int (zI (0))), (3, .ref (ad 951)), (2, .ref (ad 921)), (1, .ref (ad 0)), (0, .ref b)] [] := by
  have hay1 : zAt ad (0) (ad 0) := rfl
  have hay2 : zAt ad (921) (ad 921) := rfl
  have hay3 : zAt ad (951) (ad 951) := rfl
  refine z_aload_n C 3 dL_law_1741 rfl ?_
  refine z_cV (As := []) (rest := []) (ci := 11) C (c_X9_forget l D A cs tt 952 ad _ 0 (by decide) hR) (by decide) hay1 hR.1 rfl rfl mv_yX9_forget q_623 hd_yX9_forget (by decide) (Nat.le_of_ble_eq_true rfl) (by decide) dL_law_1742 rfl (kV0 fun gx fx => ?_)
  have hM9 : isM0 cs ad gx 921 := hM.mv (fun j _ _ => rfl) (fun j j1 j2 => fx j (by omega))
  refine z_aload_n C 2 dL_law_1745 rfl ?_
  refine z_cV (As := []) (rest := []) (ci := 12) C (c_X10_forget l D A cs tt 952 ad _ 921 (by decide) hM9) (by decide) hay2 hM9.cell rfl rfl mv_yX10_forget q_2091 hd_yX10_forget (by decide) (Nat.le_of_ble_eq_true rfl) (by decide) dL_law_1746 rfl (kV0 fun gy hy => ?_)
  refine z_goto (tgt := 1936) C dL_law_1749 (by decide) ?_
  refine z_lv (lv' := [(4, .int (zI 0)), (0, .ref b)]) [0, 4] rfl ?_
  exact law_tail C hr hlk hA hX hbl hbA (Nat.le_of_ble_eq_true rfl) (Nat.le_of_ble_eq_true rfl)

set_option maxRecDepth 100000 in
set_option maxHeartbeats 4000000 in
theorem law_c31 {p : Program} {l : Launch} {e : Env} {s : State} {m : MethodId} {below : List Frame} {meth : Method} {c : Code} {D : va_G} {A : Nat → Prop} {cs : Nat → ClassId} {tt : Nat} {b : Nat} {xs : Nat → Int32} {ad : Nat → Nat} {g : Nat → va_E} (hl0 : l.stackTraces = false) (C : zC p s m #[Value.ref b] c cL_law 7 RL D A cs tt) (hr : meth.sig.returnType = ret) (hlk : meth.locks = false) (hA : ∀ q, A q → s.heap.size ≤ q) (hX : va_X b 6 xs s s.heap) (hbl : b < s.heap.size) (hbA : ¬ A b) (hR : isRec cs ad g 0) (hM : isM0 cs ad g 921) (hO : g 951 = jA cs 1 (fun _ => 0)) (w1 w2 w3 w4 w5 : Int) (hw1r : -2147483648 ≤ w1 ∧ w1 ≤ 2147483647) (hw1 : xs 1 = zI w1) (hw2r : -2147483648 ≤ w2 ∧ w2 ≤ 2147483647) (hw2 : xs 2 = zI w2) (hw3r : -2147483648 ≤ w3 ∧ w3 ≤ 2147483647) (hw3 : xs 3 = zI w3) (hw4r : -2147483648 ≤ w4 ∧ w4 ≤ 2147483647) (hw4 : xs 4 = zI w4) (hw5r : -2147483648 ≤ w5 ∧ w5 ≤ 2147483647) (hw5 : xs 5 = zI w5) : zV p l e room_1 s m #[Value.ref b] below meth c (lw_Z below #[Value.ref b] s) D A 7 (952) ad g (952) (74291) 1912 [(4, .int (zI (0))), (3, .ref (ad 951)), (2, .ref (ad 921)), (1, .ref (ad 0)), (0, .ref b)] [] := by
  have hay1 : zAt ad (0) (ad 0) := rfl
  have hay2 : zAt ad (921) (ad 921) := rfl
  have hay3 : zAt ad (951) (ad 951) := rfl
  refine z_aload_n C 3 dL_law_1912 rfl ?_
  refine z_cV (As := []) (rest := []) (ci := 11) C (c_X9_image l D A cs tt 952 ad _ 0 (by decide) hR) (by decide) hay1 hR.1 rfl rfl mv_yX9_image q_627 hd_yX9_image (by decide) (Nat.le_of_ble_eq_true rfl) (by decide) dL_law_1913 rfl (kV0 fun gx fx => ?_)
  have hM9 : isM0 cs ad gx 921 := hM.mv (fun j _ _ => rfl) (fun j j1 j2 => fx j (by omega))
  refine z_aload_n C 2 dL_law_1916 rfl ?_
  refine z_cV (As := []) (rest := []) (ci := 12) C (c_X10_image l D A cs tt 952 ad _ 921 (by decide) hM9) (by decide) hay2 hM9.cell rfl rfl mv_yX10_image q_2112 hd_yX10_image (by decide) (Nat.le_of_ble_eq_true rfl) (by decide) dL_law_1917 rfl (kV0 fun gy hy => ?_)
  refine z_goto (tgt := 1936) C dL_law_1920 (by decide) ?_
  refine z_lv (lv' := [(4, .int (zI 0)), (0, .ref b)]) [0, 4] rfl ?_
  exact law_tail C hr hlk hA hX hbl hbA (Nat.le_of_ble_eq_true rfl) (Nat.le_of_ble_eq_true rfl)

set_option maxRecDepth 100000 in
set_option maxHeartbeats 4000000 in
theorem law_c4 {p : Program} {l : Launch} {e : Env} {s : State} {m : MethodId} {below : List Frame} {meth : Method} {c : Code} {D : va_G} {A : Nat → Prop} {cs : Nat → ClassId} {tt : Nat} {b : Nat} {xs : Nat → Int32} {ad : Nat → Nat} {g : Nat → va_E} (hl0 : l.stackTraces = false) (C : zC p s m #[Value.ref b] c cL_law 7 RL D A cs tt) (hr : meth.sig.returnType = ret) (hlk : meth.locks = false) (hA : ∀ q, A q → s.heap.size ≤ q) (hX : va_X b 6 xs s s.heap) (hbl : b < s.heap.size) (hbA : ¬ A b) (hR : isRec cs ad g 0) (hM : isM0 cs ad g 921) (hO : g 951 = jA cs 1 (fun _ => 0)) (w1 w2 w3 w4 w5 : Int) (hw1r : -2147483648 ≤ w1 ∧ w1 ≤ 2147483647) (hw1 : xs 1 = zI w1) (hw2r : -2147483648 ≤ w2 ∧ w2 ≤ 2147483647) (hw2 : xs 2 = zI w2) (hw3r : -2147483648 ≤ w3 ∧ w3 ≤ 2147483647) (hw3 : xs 3 = zI w3) (hw4r : -2147483648 ≤ w4 ∧ w4 ≤ 2147483647) (hw4 : xs 4 = zI w4) (hw5r : -2147483648 ≤ w5 ∧ w5 ≤ 2147483647) (hw5 : xs 5 = zI w5) : zV p l e room_1 s m #[Value.ref b] below meth c (lw_Z below #[Value.ref b] s) D A 7 (952) ad g (952) (74291) 386 [(4, .int (zI (0))), (3, .ref (ad 951)), (2, .ref (ad 921)), (1, .ref (ad 0)), (0, .ref b)] [] := by
  have hay1 : zAt ad (0) (ad 0) := rfl
  have hay2 : zAt ad (921) (ad 921) := rfl
  have hay3 : zAt ad (951) (ad 951) := rfl
  refine z_aload_n C 3 dL_law_386 rfl ?_
  refine z_aload_n C 4 dL_law_387 rfl ?_
  refine z_iload C 0 dL_law_388 rfl ?_
  refine z_iconst (z := 1) C dL_law_390 rfl ?_
  refine z_iadd C dL_law_391 ?_
  refine z_sld C hX hbl hbA 1 (by decide) (by decide) (by decide) hw1 dL_law_392 ?_
  refine z_aload_n C 4 dL_law_393 rfl ?_
  refine z_iload C 0 dL_law_394 rfl ?_
  refine z_iconst (z := 2) C dL_law_396 rfl ?_
  refine z_iadd C dL_law_397 ?_
  refine z_sld C hX hbl hbA 2 (by decide) (by decide) (by decide) hw2 dL_law_398 ?_
  refine z_aload_n C 1 dL_law_399 rfl ?_
  refine z_cSW (As := [.ref (ad 0), .int (zI (w1)), .int (zI (w2)), .ref (ad 951)]) (rest := []) C (c_L_forecast l D A cs tt 952 ad _ 0 (by decide) hR hl0 951 (by decide) (by decide) _ hO w1 w2 hw1r hw2r) mW_yL_forecast q_920 hd_yL_forecast (by decide) (Nat.le_of_ble_eq_true rfl) (by decide) dL_law_400 rfl (kI0 fun rk gx hx => ?_)
  obtain ⟨rfl, rfl⟩ := hx
  refine z_istore (lv' := [(5, .int (zI (1))), (4, .int (zI (0))), (3, .ref (ad 951)), (2, .ref (ad 921)), (1, .ref (ad 0)), (0, .ref b)]) C dL_law_403 (by decide) rfl ?_
  refine z_aload_n C 3 dL_law_405 rfl ?_
  refine z_aload_n C 5 dL_law_406 rfl ?_
  refine z_iload C 1 dL_law_407 rfl ?_
  refine z_iconst (z := 1) C dL_law_409 rfl ?_
  refine z_iadd C dL_law_410 ?_
  refine z_sld C hX hbl hbA 1 (by decide) (by decide) (by decide) hw1 dL_law_411 ?_
  refine z_aload_n C 5 dL_law_412 rfl ?_
  refine z_iload C 1 dL_law_413 rfl ?_
  refine z_iconst (z := 2) C dL_law_415 rfl ?_
  refine z_iadd C dL_law_416 ?_
  refine z_sld C hX hbl hbA 2 (by decide) (by decide) (by decide) hw2 dL_law_417 ?_
  refine z_cV (As := [.int (zI (w1)), .int (zI (w2))]) (rest := []) (ci := 12) C (c_X10_forecast l D A cs tt 952 ad _ 921 (by decide) hM w1 w2 hw1r hw2r) (by decide) hay2 hM.cell rfl rfl mv_yX10_forecast q_1799 hd_yX10_forecast (by decide) (Nat.le_of_ble_eq_true rfl) (by decide) dL_law_418 rfl (kI0 fun ry gy hy => ?_)
  obtain ⟨⟨FF, hF, hFk⟩, -⟩ := hy
  refine z_istore (lv' := [(6, .int (zI (ry))), (5, .int (zI (1))), (4, .int (zI (0))), (3, .ref (ad 951)), (2, .ref (ad 921)), (1, .ref (ad 0)), (0, .ref b)]) C dL_law_421 (by decide) rfl ?_
  refine z_aload_n C 4 dL_law_423 rfl ?_
  refine z_cV (As := []) (rest := []) (ci := 12) C (c_X10_thrown l D A cs tt 952 ad _ 921 (by decide) _ hF) (by decide) hay2 hF rfl rfl mv_yX10_thrown q_1640 hd_yX10_thrown (by decide) (Nat.le_of_ble_eq_true rfl) (by decide) dL_law_424 rfl (kI0 fun rt gt ht => ?_)
  obtain ⟨et, rfl⟩ := ht
  rw [hFk] at et
  subst et
  refine z_iload C 1 dL_law_427 rfl ?_
  refine z_icmp_eq (tgt := 434) C dL_law_429 (by decide) (by omega) (by omega) (fun _ => ?_) (fun h => absurd h (by omega))
  refine z_iload C 1 dL_law_434 rfl ?_
  refine z_if_ne (tgt := 451) C dL_law_436 (by decide) (by omega) (fun _ => ?_) (fun h => absurd h (by omega))
  refine z_goto (tgt := 1936) C dL_law_451 (by decide) ?_
  refine z_lv (lv' := [(4, .int (zI 0)), (0, .ref b)]) [2, 6] rfl ?_
  exact law_tail C hr hlk hA hX hbl hbA (Nat.le_of_ble_eq_true rfl) (Nat.le_of_ble_eq_true rfl)

set_option maxRecDepth 100000 in
set_option maxHeartbeats 4000000 in
theorem law_c5 {p : Program} {l : Launch} {e : Env} {s : State} {m : MethodId} {below : List Frame} {meth : Method} {c : Code} {D : va_G} {A : Nat → Prop} {cs : Nat → ClassId} {tt : Nat} {b : Nat} {xs : Nat → Int32} {ad : Nat → Nat} {g : Nat → va_E} (hl0 : l.stackTraces = false) (C : zC p s m #[Value.ref b] c cL_law 7 RL D A cs tt) (hr : meth.sig.returnType = ret) (hlk : meth.locks = false) (hA : ∀ q, A q → s.heap.size ≤ q) (hX : va_X b 6 xs s s.heap) (hbl : b < s.heap.size) (hbA : ¬ A b) (hR : isRec cs ad g 0) (hM : isM0 cs ad g 921) (hO : g 951 = jA cs 1 (fun _ => 0)) (w1 w2 w3 w4 w5 : Int) (hw1r : -2147483648 ≤ w1 ∧ w1 ≤ 2147483647) (hw1 : xs 1 = zI w1) (hw2r : -2147483648 ≤ w2 ∧ w2 ≤ 2147483647) (hw2 : xs 2 = zI w2) (hw3r : -2147483648 ≤ w3 ∧ w3 ≤ 2147483647) (hw3 : xs 3 = zI w3) (hw4r : -2147483648 ≤ w4 ∧ w4 ≤ 2147483647) (hw4 : xs 4 = zI w4) (hw5r : -2147483648 ≤ w5 ∧ w5 ≤ 2147483647) (hw5 : xs 5 = zI w5) : zV p l e room_1 s m #[Value.ref b] below meth c (lw_Z below #[Value.ref b] s) D A 7 (952) ad g (952) (74291) 454 [(4, .int (zI (0))), (3, .ref (ad 951)), (2, .ref (ad 921)), (1, .ref (ad 0)), (0, .ref b)] [] := by
  have hay1 : zAt ad (0) (ad 0) := rfl
  have hay2 : zAt ad (921) (ad 921) := rfl
  have hay3 : zAt ad (951) (ad 951) := rfl
  refine z_aload_n C 3 dL_law_454 rfl ?_
  refine z_aload_n C 4 dL_law_455 rfl ?_
  refine z_iload C 0 dL_law_456 rfl ?_
  refine z_iconst (z := 1) C dL_law_458 rfl ?_
  refine z_iadd C dL_law_459 ?_
  refine z_sld C hX hbl hbA 1 (by decide) (by decide) (by decide) hw1 dL_law_460 ?_
  refine z_aload_n C 4 dL_law_461 rfl ?_
  refine z_iload C 0 dL_law_462 rfl ?_
  refine z_iconst (z := 2) C dL_law_464 rfl ?_
  refine z_iadd C dL_law_465 ?_
  refine z_sld C hX hbl hbA 2 (by decide) (by decide) (by decide) hw2 dL_law_466 ?_
  refine z_aload_n C 1 dL_law_467 rfl ?_
  refine z_cSW (As := [.ref (ad 0), .int (zI (w1)), .int (zI (w2)), .ref (ad 951)]) (rest := []) C (c_L_slope l D A cs tt 952 ad _ 0 (by decide) hR hl0 951 (by decide) (by decide) _ hO w1 w2 hw1r hw2r) mW_yL_slope q_929 hd_yL_slope (by decide) (Nat.le_of_ble_eq_true rfl) (by decide) dL_law_468 rfl (kI0 fun rk gx hx => ?_)
  obtain ⟨rfl, rfl⟩ := hx
  refine z_istore (lv' := [(5, .int (zI (1))), (4, .int (zI (0))), (3, .ref (ad 951)), (2, .ref (ad 921)), (1, .ref (ad 0)), (0, .ref b)]) C dL_law_471 (by decide) rfl ?_
  refine z_aload_n C 3 dL_law_473 rfl ?_
  refine z_aload_n C 5 dL_law_474 rfl ?_
  refine z_iload C 1 dL_law_475 rfl ?_
  refine z_iconst (z := 1) C dL_law_477 rfl ?_
  refine z_iadd C dL_law_478 ?_
  refine z_sld C hX hbl hbA 1 (by decide) (by decide) (by decide) hw1 dL_law_479 ?_
  refine z_aload_n C 5 dL_law_480 rfl ?_
  refine z_iload C 1 dL_law_481 rfl ?_
  refine z_iconst (z := 2) C dL_law_483 rfl ?_
  refine z_iadd C dL_law_484 ?_
  refine z_sld C hX hbl hbA 2 (by decide) (by decide) (by decide) hw2 dL_law_485 ?_
  refine z_cV (As := [.int (zI (w1)), .int (zI (w2))]) (rest := []) (ci := 12) C (c_X10_slope l D A cs tt 952 ad _ 921 (by decide) hM w1 w2 hw1r hw2r) (by decide) hay2 hM.cell rfl rfl mv_yX10_slope q_1803 hd_yX10_slope (by decide) (Nat.le_of_ble_eq_true rfl) (by decide) dL_law_486 rfl (kI0 fun ry gy hy => ?_)
  obtain ⟨⟨FF, hF, hFk⟩, -⟩ := hy
  refine z_istore (lv' := [(6, .int (zI (ry))), (5, .int (zI (1))), (4, .int (zI (0))), (3, .ref (ad 951)), (2, .ref (ad 921)), (1, .ref (ad 0)), (0, .ref b)]) C dL_law_489 (by decide) rfl ?_
  refine z_aload_n C 4 dL_law_491 rfl ?_
  refine z_cV (As := []) (rest := []) (ci := 12) C (c_X10_thrown l D A cs tt 952 ad _ 921 (by decide) _ hF) (by decide) hay2 hF rfl rfl mv_yX10_thrown q_1640 hd_yX10_thrown (by decide) (Nat.le_of_ble_eq_true rfl) (by decide) dL_law_492 rfl (kI0 fun rt gt ht => ?_)
  obtain ⟨et, rfl⟩ := ht
  rw [hFk] at et
  subst et
  refine z_iload C 1 dL_law_495 rfl ?_
  refine z_icmp_eq (tgt := 502) C dL_law_497 (by decide) (by omega) (by omega) (fun _ => ?_) (fun h => absurd h (by omega))
  refine z_iload C 1 dL_law_502 rfl ?_
  refine z_if_ne (tgt := 519) C dL_law_504 (by decide) (by omega) (fun _ => ?_) (fun h => absurd h (by omega))
  refine z_goto (tgt := 1936) C dL_law_519 (by decide) ?_
  refine z_lv (lv' := [(4, .int (zI 0)), (0, .ref b)]) [2, 6] rfl ?_
  exact law_tail C hr hlk hA hX hbl hbA (Nat.le_of_ble_eq_true rfl) (Nat.le_of_ble_eq_true rfl)

set_option maxRecDepth 100000 in
set_option maxHeartbeats 4000000 in
theorem law_c6 {p : Program} {l : Launch} {e : Env} {s : State} {m : MethodId} {below : List Frame} {meth : Method} {c : Code} {D : va_G} {A : Nat → Prop} {cs : Nat → ClassId} {tt : Nat} {b : Nat} {xs : Nat → Int32} {ad : Nat → Nat} {g : Nat → va_E} (hl0 : l.stackTraces = false) (C : zC p s m #[Value.ref b] c cL_law 7 RL D A cs tt) (hr : meth.sig.returnType = ret) (hlk : meth.locks = false) (hA : ∀ q, A q → s.heap.size ≤ q) (hX : va_X b 6 xs s s.heap) (hbl : b < s.heap.size) (hbA : ¬ A b) (hR : isRec cs ad g 0) (hM : isM0 cs ad g 921) (hO : g 951 = jA cs 1 (fun _ => 0)) (w1 w2 w3 w4 w5 : Int) (hw1r : -2147483648 ≤ w1 ∧ w1 ≤ 2147483647) (hw1 : xs 1 = zI w1) (hw2r : -2147483648 ≤ w2 ∧ w2 ≤ 2147483647) (hw2 : xs 2 = zI w2) (hw3r : -2147483648 ≤ w3 ∧ w3 ≤ 2147483647) (hw3 : xs 3 = zI w3) (hw4r : -2147483648 ≤ w4 ∧ w4 ≤ 2147483647) (hw4 : xs 4 = zI w4) (hw5r : -2147483648 ≤ w5 ∧ w5 ≤ 2147483647) (hw5 : xs 5 = zI w5) : zV p l e room_1 s m #[Value.ref b] below meth c (lw_Z below #[Value.ref b] s) D A 7 (952) ad g (952) (74291) 522 [(4, .int (zI (0))), (3, .ref (ad 951)), (2, .ref (ad 921)), (1, .ref (ad 0)), (0, .ref b)] [] := by
  have hay1 : zAt ad (0) (ad 0) := rfl
  have hay2 : zAt ad (921) (ad 921) := rfl
  have hay3 : zAt ad (951) (ad 951) := rfl
  refine z_aload_n C 3 dL_law_522 rfl ?_
  refine z_aload_n C 4 dL_law_523 rfl ?_
  refine z_iload C 0 dL_law_524 rfl ?_
  refine z_iconst (z := 1) C dL_law_526 rfl ?_
  refine z_iadd C dL_law_527 ?_
  refine z_sld C hX hbl hbA 1 (by decide) (by decide) (by decide) hw1 dL_law_528 ?_
  refine z_aload_n C 4 dL_law_529 rfl ?_
  refine z_iload C 0 dL_law_530 rfl ?_
  refine z_iconst (z := 2) C dL_law_532 rfl ?_
  refine z_iadd C dL_law_533 ?_
  refine z_sld C hX hbl hbA 2 (by decide) (by decide) (by decide) hw2 dL_law_534 ?_
  refine z_aload_n C 4 dL_law_535 rfl ?_
  refine z_iload C 0 dL_law_536 rfl ?_
  refine z_iconst (z := 3) C dL_law_538 rfl ?_
  refine z_iadd C dL_law_539 ?_
  refine z_sld C hX hbl hbA 3 (by decide) (by decide) (by decide) hw3 dL_law_540 ?_
  refine z_aload_n C 1 dL_law_541 rfl ?_
  refine z_cSW (As := [.ref (ad 0), .int (zI (w1)), .int (zI (w2)), .int (zI (w3)), .ref (ad 951)]) (rest := []) C (c_L_layer l D A cs tt 952 ad _ 0 (by decide) hR hl0 951 (by decide) (by decide) _ hO w1 w2 w3 hw1r hw2r hw3r) mW_yL_layer q_948 hd_yL_layer (by decide) (Nat.le_of_ble_eq_true rfl) (by decide) dL_law_542 rfl (kI0 fun rk gx hx => ?_)
  obtain ⟨rfl, rfl⟩ := hx
  refine z_istore (lv' := [(5, .int (zI (1))), (4, .int (zI (0))), (3, .ref (ad 951)), (2, .ref (ad 921)), (1, .ref (ad 0)), (0, .ref b)]) C dL_law_545 (by decide) rfl ?_
  refine z_aload_n C 3 dL_law_547 rfl ?_
  refine z_aload_n C 5 dL_law_548 rfl ?_
  refine z_iload C 1 dL_law_549 rfl ?_
  refine z_iconst (z := 1) C dL_law_551 rfl ?_
  refine z_iadd C dL_law_552 ?_
  refine z_sld C hX hbl hbA 1 (by decide) (by decide) (by decide) hw1 dL_law_553 ?_
  refine z_aload_n C 5 dL_law_554 rfl ?_
  refine z_iload C 1 dL_law_555 rfl ?_
  refine z_iconst (z := 2) C dL_law_557 rfl ?_
  refine z_iadd C dL_law_558 ?_
  refine z_sld C hX hbl hbA 2 (by decide) (by decide) (by decide) hw2 dL_law_559 ?_
  refine z_aload_n C 5 dL_law_560 rfl ?_
  refine z_iload C 1 dL_law_561 rfl ?_
  refine z_iconst (z := 3) C dL_law_563 rfl ?_
  refine z_iadd C dL_law_564 ?_
  refine z_sld C hX hbl hbA 3 (by decide) (by decide) (by decide) hw3 dL_law_565 ?_
  refine z_cV (As := [.int (zI (w1)), .int (zI (w2)), .int (zI (w3))]) (rest := []) (ci := 12) C (c_X10_layer l D A cs tt 952 ad _ 921 (by decide) hM w1 w2 w3 hw1r hw2r hw3r) (by decide) hay2 hM.cell rfl rfl mv_yX10_layer q_1819 hd_yX10_layer (by decide) (Nat.le_of_ble_eq_true rfl) (by decide) dL_law_566 rfl (kI0 fun ry gy hy => ?_)
  obtain ⟨⟨FF, hF, hFk⟩, -⟩ := hy
  refine z_istore (lv' := [(6, .int (zI (ry))), (5, .int (zI (1))), (4, .int (zI (0))), (3, .ref (ad 951)), (2, .ref (ad 921)), (1, .ref (ad 0)), (0, .ref b)]) C dL_law_569 (by decide) rfl ?_
  refine z_aload_n C 4 dL_law_571 rfl ?_
  refine z_cV (As := []) (rest := []) (ci := 12) C (c_X10_thrown l D A cs tt 952 ad _ 921 (by decide) _ hF) (by decide) hay2 hF rfl rfl mv_yX10_thrown q_1640 hd_yX10_thrown (by decide) (Nat.le_of_ble_eq_true rfl) (by decide) dL_law_572 rfl (kI0 fun rt gt ht => ?_)
  obtain ⟨et, rfl⟩ := ht
  rw [hFk] at et
  subst et
  refine z_iload C 1 dL_law_575 rfl ?_
  refine z_icmp_eq (tgt := 582) C dL_law_577 (by decide) (by omega) (by omega) (fun _ => ?_) (fun h => absurd h (by omega))
  refine z_iload C 1 dL_law_582 rfl ?_
  refine z_if_ne (tgt := 599) C dL_law_584 (by decide) (by omega) (fun _ => ?_) (fun h => absurd h (by omega))
  refine z_goto (tgt := 1936) C dL_law_599 (by decide) ?_
  refine z_lv (lv' := [(4, .int (zI 0)), (0, .ref b)]) [2, 6] rfl ?_
  exact law_tail C hr hlk hA hX hbl hbA (Nat.le_of_ble_eq_true rfl) (Nat.le_of_ble_eq_true rfl)

set_option maxRecDepth 100000 in
set_option maxHeartbeats 4000000 in
theorem law_c7 {p : Program} {l : Launch} {e : Env} {s : State} {m : MethodId} {below : List Frame} {meth : Method} {c : Code} {D : va_G} {A : Nat → Prop} {cs : Nat → ClassId} {tt : Nat} {b : Nat} {xs : Nat → Int32} {ad : Nat → Nat} {g : Nat → va_E} (hl0 : l.stackTraces = false) (C : zC p s m #[Value.ref b] c cL_law 7 RL D A cs tt) (hr : meth.sig.returnType = ret) (hlk : meth.locks = false) (hA : ∀ q, A q → s.heap.size ≤ q) (hX : va_X b 6 xs s s.heap) (hbl : b < s.heap.size) (hbA : ¬ A b) (hR : isRec cs ad g 0) (hM : isM0 cs ad g 921) (hO : g 951 = jA cs 1 (fun _ => 0)) (w1 w2 w3 w4 w5 : Int) (hw1r : -2147483648 ≤ w1 ∧ w1 ≤ 2147483647) (hw1 : xs 1 = zI w1) (hw2r : -2147483648 ≤ w2 ∧ w2 ≤ 2147483647) (hw2 : xs 2 = zI w2) (hw3r : -2147483648 ≤ w3 ∧ w3 ≤ 2147483647) (hw3 : xs 3 = zI w3) (hw4r : -2147483648 ≤ w4 ∧ w4 ≤ 2147483647) (hw4 : xs 4 = zI w4) (hw5r : -2147483648 ≤ w5 ∧ w5 ≤ 2147483647) (hw5 : xs 5 = zI w5) : zV p l e room_1 s m #[Value.ref b] below meth c (lw_Z below #[Value.ref b] s) D A 7 (952) ad g (952) (74291) 602 [(4, .int (zI (0))), (3, .ref (ad 951)), (2, .ref (ad 921)), (1, .ref (ad 0)), (0, .ref b)] [] := by
  have hay1 : zAt ad (0) (ad 0) := rfl
  have hay2 : zAt ad (921) (ad 921) := rfl
  have hay3 : zAt ad (951) (ad 951) := rfl
  refine z_aload_n C 3 dL_law_602 rfl ?_
  refine z_aload_n C 4 dL_law_603 rfl ?_
  refine z_iload C 0 dL_law_604 rfl ?_
  refine z_iconst (z := 1) C dL_law_606 rfl ?_
  refine z_iadd C dL_law_607 ?_
  refine z_sld C hX hbl hbA 1 (by decide) (by decide) (by decide) hw1 dL_law_608 ?_
  refine z_aload_n C 4 dL_law_609 rfl ?_
  refine z_iload C 0 dL_law_610 rfl ?_
  refine z_iconst (z := 2) C dL_law_612 rfl ?_
  refine z_iadd C dL_law_613 ?_
  refine z_sld C hX hbl hbA 2 (by decide) (by decide) (by decide) hw2 dL_law_614 ?_
  refine z_aload_n C 4 dL_law_615 rfl ?_
  refine z_iload C 0 dL_law_616 rfl ?_
  refine z_iconst (z := 3) C dL_law_618 rfl ?_
  refine z_iadd C dL_law_619 ?_
  refine z_sld C hX hbl hbA 3 (by decide) (by decide) (by decide) hw3 dL_law_620 ?_
  refine z_aload_n C 1 dL_law_621 rfl ?_
  refine z_cSW (As := [.ref (ad 0), .int (zI (w1)), .int (zI (w2)), .int (zI (w3)), .ref (ad 951)]) (rest := []) C (c_L_told l D A cs tt 952 ad _ 0 (by decide) hR hl0 951 (by decide) (by decide) _ hO w1 w2 w3 hw1r hw2r hw3r) mW_yL_told q_967 hd_yL_told (by decide) (Nat.le_of_ble_eq_true rfl) (by decide) dL_law_622 rfl (kI0 fun rk gx hx => ?_)
  obtain ⟨rfl, rfl⟩ := hx
  refine z_istore (lv' := [(5, .int (zI (1))), (4, .int (zI (0))), (3, .ref (ad 951)), (2, .ref (ad 921)), (1, .ref (ad 0)), (0, .ref b)]) C dL_law_625 (by decide) rfl ?_
  refine z_aload_n C 3 dL_law_627 rfl ?_
  refine z_aload_n C 5 dL_law_628 rfl ?_
  refine z_iload C 1 dL_law_629 rfl ?_
  refine z_iconst (z := 1) C dL_law_631 rfl ?_
  refine z_iadd C dL_law_632 ?_
  refine z_sld C hX hbl hbA 1 (by decide) (by decide) (by decide) hw1 dL_law_633 ?_
  refine z_aload_n C 5 dL_law_634 rfl ?_
  refine z_iload C 1 dL_law_635 rfl ?_
  refine z_iconst (z := 2) C dL_law_637 rfl ?_
  refine z_iadd C dL_law_638 ?_
  refine z_sld C hX hbl hbA 2 (by decide) (by decide) (by decide) hw2 dL_law_639 ?_
  refine z_aload_n C 5 dL_law_640 rfl ?_
  refine z_iload C 1 dL_law_641 rfl ?_
  refine z_iconst (z := 3) C dL_law_643 rfl ?_
  refine z_iadd C dL_law_644 ?_
  refine z_sld C hX hbl hbA 3 (by decide) (by decide) (by decide) hw3 dL_law_645 ?_
  refine z_cV (As := [.int (zI (w1)), .int (zI (w2)), .int (zI (w3))]) (rest := []) (ci := 12) C (c_X10_told l D A cs tt 952 ad _ 921 (by decide) hM w1 w2 w3 hw1r hw2r hw3r) (by decide) hay2 hM.cell rfl rfl mv_yX10_told q_1846 hd_yX10_told (by decide) (Nat.le_of_ble_eq_true rfl) (by decide) dL_law_646 rfl (kI0 fun ry gy hy => ?_)
  obtain ⟨⟨FF, hF, hFk⟩, -⟩ := hy
  refine z_istore (lv' := [(6, .int (zI (ry))), (5, .int (zI (1))), (4, .int (zI (0))), (3, .ref (ad 951)), (2, .ref (ad 921)), (1, .ref (ad 0)), (0, .ref b)]) C dL_law_649 (by decide) rfl ?_
  refine z_aload_n C 4 dL_law_651 rfl ?_
  refine z_cV (As := []) (rest := []) (ci := 12) C (c_X10_thrown l D A cs tt 952 ad _ 921 (by decide) _ hF) (by decide) hay2 hF rfl rfl mv_yX10_thrown q_1640 hd_yX10_thrown (by decide) (Nat.le_of_ble_eq_true rfl) (by decide) dL_law_652 rfl (kI0 fun rt gt ht => ?_)
  obtain ⟨et, rfl⟩ := ht
  rw [hFk] at et
  subst et
  refine z_iload C 1 dL_law_655 rfl ?_
  refine z_icmp_eq (tgt := 662) C dL_law_657 (by decide) (by omega) (by omega) (fun _ => ?_) (fun h => absurd h (by omega))
  refine z_iload C 1 dL_law_662 rfl ?_
  refine z_if_ne (tgt := 679) C dL_law_664 (by decide) (by omega) (fun _ => ?_) (fun h => absurd h (by omega))
  refine z_goto (tgt := 1936) C dL_law_679 (by decide) ?_
  refine z_lv (lv' := [(4, .int (zI 0)), (0, .ref b)]) [2, 6] rfl ?_
  exact law_tail C hr hlk hA hX hbl hbA (Nat.le_of_ble_eq_true rfl) (Nat.le_of_ble_eq_true rfl)

set_option maxRecDepth 100000 in
set_option maxHeartbeats 4000000 in
theorem law_c14 {p : Program} {l : Launch} {e : Env} {s : State} {m : MethodId} {below : List Frame} {meth : Method} {c : Code} {D : va_G} {A : Nat → Prop} {cs : Nat → ClassId} {tt : Nat} {b : Nat} {xs : Nat → Int32} {ad : Nat → Nat} {g : Nat → va_E} (hl0 : l.stackTraces = false) (C : zC p s m #[Value.ref b] c cL_law 7 RL D A cs tt) (hr : meth.sig.returnType = ret) (hlk : meth.locks = false) (hA : ∀ q, A q → s.heap.size ≤ q) (hX : va_X b 6 xs s s.heap) (hbl : b < s.heap.size) (hbA : ¬ A b) (hR : isRec cs ad g 0) (hM : isM0 cs ad g 921) (hO : g 951 = jA cs 1 (fun _ => 0)) (w1 w2 w3 w4 w5 : Int) (hw1r : -2147483648 ≤ w1 ∧ w1 ≤ 2147483647) (hw1 : xs 1 = zI w1) (hw2r : -2147483648 ≤ w2 ∧ w2 ≤ 2147483647) (hw2 : xs 2 = zI w2) (hw3r : -2147483648 ≤ w3 ∧ w3 ≤ 2147483647) (hw3 : xs 3 = zI w3) (hw4r : -2147483648 ≤ w4 ∧ w4 ≤ 2147483647) (hw4 : xs 4 = zI w4) (hw5r : -2147483648 ≤ w5 ∧ w5 ≤ 2147483647) (hw5 : xs 5 = zI w5) : zV p l e room_1 s m #[Value.ref b] below meth c (lw_Z below #[Value.ref b] s) D A 7 (952) ad g (952) (74291) 844 [(4, .int (zI (0))), (3, .ref (ad 951)), (2, .ref (ad 921)), (1, .ref (ad 0)), (0, .ref b)] [] := by
  have hay1 : zAt ad (0) (ad 0) := rfl
  have hay2 : zAt ad (921) (ad 921) := rfl
  have hay3 : zAt ad (951) (ad 951) := rfl
  refine z_aload_n C 3 dL_law_844 rfl ?_
  refine z_aload_n C 4 dL_law_845 rfl ?_
  refine z_iload C 0 dL_law_846 rfl ?_
  refine z_iconst (z := 1) C dL_law_848 rfl ?_
  refine z_iadd C dL_law_849 ?_
  refine z_sld C hX hbl hbA 1 (by decide) (by decide) (by decide) hw1 dL_law_850 ?_
  refine z_aload_n C 4 dL_law_851 rfl ?_
  refine z_iload C 0 dL_law_852 rfl ?_
  refine z_iconst (z := 2) C dL_law_854 rfl ?_
  refine z_iadd C dL_law_855 ?_
  refine z_sld C hX hbl hbA 2 (by decide) (by decide) (by decide) hw2 dL_law_856 ?_
  refine z_aload_n C 4 dL_law_857 rfl ?_
  refine z_iload C 0 dL_law_858 rfl ?_
  refine z_iconst (z := 3) C dL_law_860 rfl ?_
  refine z_iadd C dL_law_861 ?_
  refine z_sld C hX hbl hbA 3 (by decide) (by decide) (by decide) hw3 dL_law_862 ?_
  refine z_aload_n C 1 dL_law_863 rfl ?_
  refine z_cSW (As := [.ref (ad 0), .int (zI (w1)), .int (zI (w2)), .int (zI (w3)), .ref (ad 951)]) (rest := []) C (c_L_then l D A cs tt 952 ad _ 0 (by decide) hR hl0 951 (by decide) (by decide) _ hO w1 w2 w3 hw1r hw2r hw3r) mW_yL_then q_1213 hd_yL_then (by decide) (Nat.le_of_ble_eq_true rfl) (by decide) dL_law_864 rfl (kI0 fun rk gx hx => ?_)
  obtain ⟨rfl, rfl⟩ := hx
  refine z_istore (lv' := [(5, .int (zI (1))), (4, .int (zI (0))), (3, .ref (ad 951)), (2, .ref (ad 921)), (1, .ref (ad 0)), (0, .ref b)]) C dL_law_867 (by decide) rfl ?_
  refine z_aload_n C 3 dL_law_869 rfl ?_
  refine z_aload_n C 5 dL_law_870 rfl ?_
  refine z_iload C 1 dL_law_871 rfl ?_
  refine z_iconst (z := 1) C dL_law_873 rfl ?_
  refine z_iadd C dL_law_874 ?_
  refine z_sld C hX hbl hbA 1 (by decide) (by decide) (by decide) hw1 dL_law_875 ?_
  refine z_aload_n C 5 dL_law_876 rfl ?_
  refine z_iload C 1 dL_law_877 rfl ?_
  refine z_iconst (z := 2) C dL_law_879 rfl ?_
  refine z_iadd C dL_law_880 ?_
  refine z_sld C hX hbl hbA 2 (by decide) (by decide) (by decide) hw2 dL_law_881 ?_
  refine z_aload_n C 5 dL_law_882 rfl ?_
  refine z_iload C 1 dL_law_883 rfl ?_
  refine z_iconst (z := 3) C dL_law_885 rfl ?_
  refine z_iadd C dL_law_886 ?_
  refine z_sld C hX hbl hbA 3 (by decide) (by decide) (by decide) hw3 dL_law_887 ?_
  refine z_cV (As := [.int (zI (w1)), .int (zI (w2)), .int (zI (w3))]) (rest := []) (ci := 12) C (c_X10_then l D A cs tt 952 ad _ 921 (by decide) hM w1 w2 w3 hw1r hw2r hw3r) (by decide) hay2 hM.cell rfl rfl mv_yX10_then q_1980 hd_yX10_then (by decide) (Nat.le_of_ble_eq_true rfl) (by decide) dL_law_888 rfl (kI0 fun ry gy hy => ?_)
  obtain ⟨⟨FF, hF, hFk⟩, -⟩ := hy
  refine z_istore (lv' := [(6, .int (zI (ry))), (5, .int (zI (1))), (4, .int (zI (0))), (3, .ref (ad 951)), (2, .ref (ad 921)), (1, .ref (ad 0)), (0, .ref b)]) C dL_law_891 (by decide) rfl ?_
  refine z_aload_n C 4 dL_law_893 rfl ?_
  refine z_cV (As := []) (rest := []) (ci := 12) C (c_X10_thrown l D A cs tt 952 ad _ 921 (by decide) _ hF) (by decide) hay2 hF rfl rfl mv_yX10_thrown q_1640 hd_yX10_thrown (by decide) (Nat.le_of_ble_eq_true rfl) (by decide) dL_law_894 rfl (kI0 fun rt gt ht => ?_)
  obtain ⟨et, rfl⟩ := ht
  rw [hFk] at et
  subst et
  refine z_iload C 1 dL_law_897 rfl ?_
  refine z_icmp_eq (tgt := 904) C dL_law_899 (by decide) (by omega) (by omega) (fun _ => ?_) (fun h => absurd h (by omega))
  refine z_iload C 1 dL_law_904 rfl ?_
  refine z_if_ne (tgt := 921) C dL_law_906 (by decide) (by omega) (fun _ => ?_) (fun h => absurd h (by omega))
  refine z_goto (tgt := 1936) C dL_law_921 (by decide) ?_
  refine z_lv (lv' := [(4, .int (zI 0)), (0, .ref b)]) [2, 6] rfl ?_
  exact law_tail C hr hlk hA hX hbl hbA (Nat.le_of_ble_eq_true rfl) (Nat.le_of_ble_eq_true rfl)

set_option maxRecDepth 100000 in
set_option maxHeartbeats 4000000 in
theorem law_c15 {p : Program} {l : Launch} {e : Env} {s : State} {m : MethodId} {below : List Frame} {meth : Method} {c : Code} {D : va_G} {A : Nat → Prop} {cs : Nat → ClassId} {tt : Nat} {b : Nat} {xs : Nat → Int32} {ad : Nat → Nat} {g : Nat → va_E} (hl0 : l.stackTraces = false) (C : zC p s m #[Value.ref b] c cL_law 7 RL D A cs tt) (hr : meth.sig.returnType = ret) (hlk : meth.locks = false) (hA : ∀ q, A q → s.heap.size ≤ q) (hX : va_X b 6 xs s s.heap) (hbl : b < s.heap.size) (hbA : ¬ A b) (hR : isRec cs ad g 0) (hM : isM0 cs ad g 921) (hO : g 951 = jA cs 1 (fun _ => 0)) (w1 w2 w3 w4 w5 : Int) (hw1r : -2147483648 ≤ w1 ∧ w1 ≤ 2147483647) (hw1 : xs 1 = zI w1) (hw2r : -2147483648 ≤ w2 ∧ w2 ≤ 2147483647) (hw2 : xs 2 = zI w2) (hw3r : -2147483648 ≤ w3 ∧ w3 ≤ 2147483647) (hw3 : xs 3 = zI w3) (hw4r : -2147483648 ≤ w4 ∧ w4 ≤ 2147483647) (hw4 : xs 4 = zI w4) (hw5r : -2147483648 ≤ w5 ∧ w5 ≤ 2147483647) (hw5 : xs 5 = zI w5) : zV p l e room_1 s m #[Value.ref b] below meth c (lw_Z below #[Value.ref b] s) D A 7 (952) ad g (952) (74291) 924 [(4, .int (zI (0))), (3, .ref (ad 951)), (2, .ref (ad 921)), (1, .ref (ad 0)), (0, .ref b)] [] := by
  have hay1 : zAt ad (0) (ad 0) := rfl
  have hay2 : zAt ad (921) (ad 921) := rfl
  have hay3 : zAt ad (951) (ad 951) := rfl
  refine z_aload_n C 3 dL_law_924 rfl ?_
  refine z_aload_n C 4 dL_law_925 rfl ?_
  refine z_iload C 0 dL_law_926 rfl ?_
  refine z_iconst (z := 1) C dL_law_928 rfl ?_
  refine z_iadd C dL_law_929 ?_
  refine z_sld C hX hbl hbA 1 (by decide) (by decide) (by decide) hw1 dL_law_930 ?_
  refine z_aload_n C 4 dL_law_931 rfl ?_
  refine z_iload C 0 dL_law_932 rfl ?_
  refine z_iconst (z := 2) C dL_law_934 rfl ?_
  refine z_iadd C dL_law_935 ?_
  refine z_sld C hX hbl hbA 2 (by decide) (by decide) (by decide) hw2 dL_law_936 ?_
  refine z_aload_n C 1 dL_law_937 rfl ?_
  refine z_cSW (As := [.ref (ad 0), .int (zI (w1)), .int (zI (w2)), .ref (ad 951)]) (rest := []) C (c_L_once l D A cs tt 952 ad _ 0 (by decide) hR hl0 951 (by decide) (by decide) _ hO w1 w2 hw1r hw2r) mW_yL_once q_1233 hd_yL_once (by decide) (Nat.le_of_ble_eq_true rfl) (by decide) dL_law_938 rfl (kI0 fun rk gx hx => ?_)
  obtain ⟨rfl, rfl⟩ := hx
  refine z_istore (lv' := [(5, .int (zI (1))), (4, .int (zI (0))), (3, .ref (ad 951)), (2, .ref (ad 921)), (1, .ref (ad 0)), (0, .ref b)]) C dL_law_941 (by decide) rfl ?_
  refine z_aload_n C 3 dL_law_943 rfl ?_
  refine z_aload_n C 5 dL_law_944 rfl ?_
  refine z_iload C 1 dL_law_945 rfl ?_
  refine z_iconst (z := 1) C dL_law_947 rfl ?_
  refine z_iadd C dL_law_948 ?_
  refine z_sld C hX hbl hbA 1 (by decide) (by decide) (by decide) hw1 dL_law_949 ?_
  refine z_aload_n C 5 dL_law_950 rfl ?_
  refine z_iload C 1 dL_law_951 rfl ?_
  refine z_iconst (z := 2) C dL_law_953 rfl ?_
  refine z_iadd C dL_law_954 ?_
  refine z_sld C hX hbl hbA 2 (by decide) (by decide) (by decide) hw2 dL_law_955 ?_
  refine z_cV (As := [.int (zI (w1)), .int (zI (w2))]) (rest := []) (ci := 12) C (c_X10_once l D A cs tt 952 ad _ 921 (by decide) hM w1 w2 hw1r hw2r) (by decide) hay2 hM.cell rfl rfl mv_yX10_once q_1988 hd_yX10_once (by decide) (Nat.le_of_ble_eq_true rfl) (by decide) dL_law_956 rfl (kI0 fun ry gy hy => ?_)
  obtain ⟨⟨FF, hF, hFk⟩, -⟩ := hy
  refine z_istore (lv' := [(6, .int (zI (ry))), (5, .int (zI (1))), (4, .int (zI (0))), (3, .ref (ad 951)), (2, .ref (ad 921)), (1, .ref (ad 0)), (0, .ref b)]) C dL_law_959 (by decide) rfl ?_
  refine z_aload_n C 4 dL_law_961 rfl ?_
  refine z_cV (As := []) (rest := []) (ci := 12) C (c_X10_thrown l D A cs tt 952 ad _ 921 (by decide) _ hF) (by decide) hay2 hF rfl rfl mv_yX10_thrown q_1640 hd_yX10_thrown (by decide) (Nat.le_of_ble_eq_true rfl) (by decide) dL_law_962 rfl (kI0 fun rt gt ht => ?_)
  obtain ⟨et, rfl⟩ := ht
  rw [hFk] at et
  subst et
  refine z_iload C 1 dL_law_965 rfl ?_
  refine z_icmp_eq (tgt := 972) C dL_law_967 (by decide) (by omega) (by omega) (fun _ => ?_) (fun h => absurd h (by omega))
  refine z_iload C 1 dL_law_972 rfl ?_
  refine z_if_ne (tgt := 989) C dL_law_974 (by decide) (by omega) (fun _ => ?_) (fun h => absurd h (by omega))
  refine z_goto (tgt := 1936) C dL_law_989 (by decide) ?_
  refine z_lv (lv' := [(4, .int (zI 0)), (0, .ref b)]) [2, 6] rfl ?_
  exact law_tail C hr hlk hA hX hbl hbA (Nat.le_of_ble_eq_true rfl) (Nat.le_of_ble_eq_true rfl)

set_option maxRecDepth 100000 in
set_option maxHeartbeats 4000000 in
theorem law_c16 {p : Program} {l : Launch} {e : Env} {s : State} {m : MethodId} {below : List Frame} {meth : Method} {c : Code} {D : va_G} {A : Nat → Prop} {cs : Nat → ClassId} {tt : Nat} {b : Nat} {xs : Nat → Int32} {ad : Nat → Nat} {g : Nat → va_E} (hl0 : l.stackTraces = false) (C : zC p s m #[Value.ref b] c cL_law 7 RL D A cs tt) (hr : meth.sig.returnType = ret) (hlk : meth.locks = false) (hA : ∀ q, A q → s.heap.size ≤ q) (hX : va_X b 6 xs s s.heap) (hbl : b < s.heap.size) (hbA : ¬ A b) (hR : isRec cs ad g 0) (hM : isM0 cs ad g 921) (hO : g 951 = jA cs 1 (fun _ => 0)) (w1 w2 w3 w4 w5 : Int) (hw1r : -2147483648 ≤ w1 ∧ w1 ≤ 2147483647) (hw1 : xs 1 = zI w1) (hw2r : -2147483648 ≤ w2 ∧ w2 ≤ 2147483647) (hw2 : xs 2 = zI w2) (hw3r : -2147483648 ≤ w3 ∧ w3 ≤ 2147483647) (hw3 : xs 3 = zI w3) (hw4r : -2147483648 ≤ w4 ∧ w4 ≤ 2147483647) (hw4 : xs 4 = zI w4) (hw5r : -2147483648 ≤ w5 ∧ w5 ≤ 2147483647) (hw5 : xs 5 = zI w5) : zV p l e room_1 s m #[Value.ref b] below meth c (lw_Z below #[Value.ref b] s) D A 7 (952) ad g (952) (74291) 992 [(4, .int (zI (0))), (3, .ref (ad 951)), (2, .ref (ad 921)), (1, .ref (ad 0)), (0, .ref b)] [] := by
  have hay1 : zAt ad (0) (ad 0) := rfl
  have hay2 : zAt ad (921) (ad 921) := rfl
  have hay3 : zAt ad (951) (ad 951) := rfl
  refine z_aload_n C 3 dL_law_992 rfl ?_
  refine z_aload_n C 4 dL_law_993 rfl ?_
  refine z_iload C 0 dL_law_994 rfl ?_
  refine z_iconst (z := 1) C dL_law_996 rfl ?_
  refine z_iadd C dL_law_997 ?_
  refine z_sld C hX hbl hbA 1 (by decide) (by decide) (by decide) hw1 dL_law_998 ?_
  refine z_aload_n C 1 dL_law_999 rfl ?_
  refine z_cSW (As := [.ref (ad 0), .int (zI (w1)), .ref (ad 951)]) (rest := []) C (c_L_gone l D A cs tt 952 ad _ 0 (by decide) hR hl0 951 (by decide) (by decide) _ hO w1 hw1r) mW_yL_gone q_1240 hd_yL_gone (by decide) (Nat.le_of_ble_eq_true rfl) (by decide) dL_law_1000 rfl (kI0 fun rk gx hx => ?_)
  obtain ⟨rfl, rfl⟩ := hx
  refine z_istore (lv' := [(5, .int (zI (1))), (4, .int (zI (0))), (3, .ref (ad 951)), (2, .ref (ad 921)), (1, .ref (ad 0)), (0, .ref b)]) C dL_law_1003 (by decide) rfl ?_
  refine z_aload_n C 3 dL_law_1005 rfl ?_
  refine z_aload_n C 5 dL_law_1006 rfl ?_
  refine z_iload C 1 dL_law_1007 rfl ?_
  refine z_iconst (z := 1) C dL_law_1009 rfl ?_
  refine z_iadd C dL_law_1010 ?_
  refine z_sld C hX hbl hbA 1 (by decide) (by decide) (by decide) hw1 dL_law_1011 ?_
  refine z_cV (As := [.int (zI (w1))]) (rest := []) (ci := 12) C (c_X10_gone l D A cs tt 952 ad _ 921 (by decide) hM w1 hw1r) (by decide) hay2 hM.cell rfl rfl mv_yX10_gone q_1992 hd_yX10_gone (by decide) (Nat.le_of_ble_eq_true rfl) (by decide) dL_law_1012 rfl (kI0 fun ry gy hy => ?_)
  obtain ⟨⟨FF, hF, hFk⟩, -⟩ := hy
  refine z_istore (lv' := [(6, .int (zI (ry))), (5, .int (zI (1))), (4, .int (zI (0))), (3, .ref (ad 951)), (2, .ref (ad 921)), (1, .ref (ad 0)), (0, .ref b)]) C dL_law_1015 (by decide) rfl ?_
  refine z_aload_n C 4 dL_law_1017 rfl ?_
  refine z_cV (As := []) (rest := []) (ci := 12) C (c_X10_thrown l D A cs tt 952 ad _ 921 (by decide) _ hF) (by decide) hay2 hF rfl rfl mv_yX10_thrown q_1640 hd_yX10_thrown (by decide) (Nat.le_of_ble_eq_true rfl) (by decide) dL_law_1018 rfl (kI0 fun rt gt ht => ?_)
  obtain ⟨et, rfl⟩ := ht
  rw [hFk] at et
  subst et
  refine z_iload C 1 dL_law_1021 rfl ?_
  refine z_icmp_eq (tgt := 1028) C dL_law_1023 (by decide) (by omega) (by omega) (fun _ => ?_) (fun h => absurd h (by omega))
  refine z_iload C 1 dL_law_1028 rfl ?_
  refine z_if_ne (tgt := 1045) C dL_law_1030 (by decide) (by omega) (fun _ => ?_) (fun h => absurd h (by omega))
  refine z_goto (tgt := 1936) C dL_law_1045 (by decide) ?_
  refine z_lv (lv' := [(4, .int (zI 0)), (0, .ref b)]) [2, 6] rfl ?_
  exact law_tail C hr hlk hA hX hbl hbA (Nat.le_of_ble_eq_true rfl) (Nat.le_of_ble_eq_true rfl)

set_option maxRecDepth 100000 in
set_option maxHeartbeats 4000000 in
theorem law_c17 {p : Program} {l : Launch} {e : Env} {s : State} {m : MethodId} {below : List Frame} {meth : Method} {c : Code} {D : va_G} {A : Nat → Prop} {cs : Nat → ClassId} {tt : Nat} {b : Nat} {xs : Nat → Int32} {ad : Nat → Nat} {g : Nat → va_E} (hl0 : l.stackTraces = false) (C : zC p s m #[Value.ref b] c cL_law 7 RL D A cs tt) (hr : meth.sig.returnType = ret) (hlk : meth.locks = false) (hA : ∀ q, A q → s.heap.size ≤ q) (hX : va_X b 6 xs s s.heap) (hbl : b < s.heap.size) (hbA : ¬ A b) (hR : isRec cs ad g 0) (hM : isM0 cs ad g 921) (hO : g 951 = jA cs 1 (fun _ => 0)) (w1 w2 w3 w4 w5 : Int) (hw1r : -2147483648 ≤ w1 ∧ w1 ≤ 2147483647) (hw1 : xs 1 = zI w1) (hw2r : -2147483648 ≤ w2 ∧ w2 ≤ 2147483647) (hw2 : xs 2 = zI w2) (hw3r : -2147483648 ≤ w3 ∧ w3 ≤ 2147483647) (hw3 : xs 3 = zI w3) (hw4r : -2147483648 ≤ w4 ∧ w4 ≤ 2147483647) (hw4 : xs 4 = zI w4) (hw5r : -2147483648 ≤ w5 ∧ w5 ≤ 2147483647) (hw5 : xs 5 = zI w5) : zV p l e room_1 s m #[Value.ref b] below meth c (lw_Z below #[Value.ref b] s) D A 7 (952) ad g (952) (74291) 1048 [(4, .int (zI (0))), (3, .ref (ad 951)), (2, .ref (ad 921)), (1, .ref (ad 0)), (0, .ref b)] [] := by
  have hay1 : zAt ad (0) (ad 0) := rfl
  have hay2 : zAt ad (921) (ad 921) := rfl
  have hay3 : zAt ad (951) (ad 951) := rfl
  refine z_aload_n C 3 dL_law_1048 rfl ?_
  refine z_aload_n C 4 dL_law_1049 rfl ?_
  refine z_iload C 0 dL_law_1050 rfl ?_
  refine z_iconst (z := 1) C dL_law_1052 rfl ?_
  refine z_iadd C dL_law_1053 ?_
  refine z_sld C hX hbl hbA 1 (by decide) (by decide) (by decide) hw1 dL_law_1054 ?_
  refine z_aload_n C 4 dL_law_1055 rfl ?_
  refine z_iload C 0 dL_law_1056 rfl ?_
  refine z_iconst (z := 2) C dL_law_1058 rfl ?_
  refine z_iadd C dL_law_1059 ?_
  refine z_sld C hX hbl hbA 2 (by decide) (by decide) (by decide) hw2 dL_law_1060 ?_
  refine z_aload_n C 1 dL_law_1061 rfl ?_
  refine z_cSW (As := [.ref (ad 0), .int (zI (w1)), .int (zI (w2)), .ref (ad 951)]) (rest := []) C (c_L_stands l D A cs tt 952 ad _ 0 (by decide) hR hl0 951 (by decide) (by decide) _ hO w1 w2 hw1r hw2r) mW_yL_stands q_1256 hd_yL_stands (by decide) (Nat.le_of_ble_eq_true rfl) (by decide) dL_law_1062 rfl (kI0 fun rk gx hx => ?_)
  obtain ⟨rfl, rfl⟩ := hx
  refine z_istore (lv' := [(5, .int (zI (1))), (4, .int (zI (0))), (3, .ref (ad 951)), (2, .ref (ad 921)), (1, .ref (ad 0)), (0, .ref b)]) C dL_law_1065 (by decide) rfl ?_
  refine z_aload_n C 3 dL_law_1067 rfl ?_
  refine z_aload_n C 5 dL_law_1068 rfl ?_
  refine z_iload C 1 dL_law_1069 rfl ?_
  refine z_iconst (z := 1) C dL_law_1071 rfl ?_
  refine z_iadd C dL_law_1072 ?_
  refine z_sld C hX hbl hbA 1 (by decide) (by decide) (by decide) hw1 dL_law_1073 ?_
  refine z_aload_n C 5 dL_law_1074 rfl ?_
  refine z_iload C 1 dL_law_1075 rfl ?_
  refine z_iconst (z := 2) C dL_law_1077 rfl ?_
  refine z_iadd C dL_law_1078 ?_
  refine z_sld C hX hbl hbA 2 (by decide) (by decide) (by decide) hw2 dL_law_1079 ?_
  refine z_cV (As := [.int (zI (w1)), .int (zI (w2))]) (rest := []) (ci := 12) C (c_X10_stands l D A cs tt 952 ad _ 921 (by decide) hM w1 w2 hw1r hw2r) (by decide) hay2 hM.cell rfl rfl mv_yX10_stands q_2000 hd_yX10_stands (by decide) (Nat.le_of_ble_eq_true rfl) (by decide) dL_law_1080 rfl (kI0 fun ry gy hy => ?_)
  obtain ⟨⟨FF, hF, hFk⟩, -⟩ := hy
  refine z_istore (lv' := [(6, .int (zI (ry))), (5, .int (zI (1))), (4, .int (zI (0))), (3, .ref (ad 951)), (2, .ref (ad 921)), (1, .ref (ad 0)), (0, .ref b)]) C dL_law_1083 (by decide) rfl ?_
  refine z_aload_n C 4 dL_law_1085 rfl ?_
  refine z_cV (As := []) (rest := []) (ci := 12) C (c_X10_thrown l D A cs tt 952 ad _ 921 (by decide) _ hF) (by decide) hay2 hF rfl rfl mv_yX10_thrown q_1640 hd_yX10_thrown (by decide) (Nat.le_of_ble_eq_true rfl) (by decide) dL_law_1086 rfl (kI0 fun rt gt ht => ?_)
  obtain ⟨et, rfl⟩ := ht
  rw [hFk] at et
  subst et
  refine z_iload C 1 dL_law_1089 rfl ?_
  refine z_icmp_eq (tgt := 1096) C dL_law_1091 (by decide) (by omega) (by omega) (fun _ => ?_) (fun h => absurd h (by omega))
  refine z_iload C 1 dL_law_1096 rfl ?_
  refine z_if_ne (tgt := 1113) C dL_law_1098 (by decide) (by omega) (fun _ => ?_) (fun h => absurd h (by omega))
  refine z_goto (tgt := 1936) C dL_law_1113 (by decide) ?_
  refine z_lv (lv' := [(4, .int (zI 0)), (0, .ref b)]) [2, 6] rfl ?_
  exact law_tail C hr hlk hA hX hbl hbA (Nat.le_of_ble_eq_true rfl) (Nat.le_of_ble_eq_true rfl)

set_option maxRecDepth 100000 in
set_option maxHeartbeats 4000000 in
theorem law_c18 {p : Program} {l : Launch} {e : Env} {s : State} {m : MethodId} {below : List Frame} {meth : Method} {c : Code} {D : va_G} {A : Nat → Prop} {cs : Nat → ClassId} {tt : Nat} {b : Nat} {xs : Nat → Int32} {ad : Nat → Nat} {g : Nat → va_E} (hl0 : l.stackTraces = false) (C : zC p s m #[Value.ref b] c cL_law 7 RL D A cs tt) (hr : meth.sig.returnType = ret) (hlk : meth.locks = false) (hA : ∀ q, A q → s.heap.size ≤ q) (hX : va_X b 6 xs s s.heap) (hbl : b < s.heap.size) (hbA : ¬ A b) (hR : isRec cs ad g 0) (hM : isM0 cs ad g 921) (hO : g 951 = jA cs 1 (fun _ => 0)) (w1 w2 w3 w4 w5 : Int) (hw1r : -2147483648 ≤ w1 ∧ w1 ≤ 2147483647) (hw1 : xs 1 = zI w1) (hw2r : -2147483648 ≤ w2 ∧ w2 ≤ 2147483647) (hw2 : xs 2 = zI w2) (hw3r : -2147483648 ≤ w3 ∧ w3 ≤ 2147483647) (hw3 : xs 3 = zI w3) (hw4r : -2147483648 ≤ w4 ∧ w4 ≤ 2147483647) (hw4 : xs 4 = zI w4) (hw5r : -2147483648 ≤ w5 ∧ w5 ≤ 2147483647) (hw5 : xs 5 = zI w5) : zV p l e room_1 s m #[Value.ref b] below meth c (lw_Z below #[Value.ref b] s) D A 7 (952) ad g (952) (74291) 1116 [(4, .int (zI (0))), (3, .ref (ad 951)), (2, .ref (ad 921)), (1, .ref (ad 0)), (0, .ref b)] [] := by
  have hay1 : zAt ad (0) (ad 0) := rfl
  have hay2 : zAt ad (921) (ad 921) := rfl
  have hay3 : zAt ad (951) (ad 951) := rfl
  refine z_aload_n C 3 dL_law_1116 rfl ?_
  refine z_aload_n C 4 dL_law_1117 rfl ?_
  refine z_iload C 0 dL_law_1118 rfl ?_
  refine z_iconst (z := 1) C dL_law_1120 rfl ?_
  refine z_iadd C dL_law_1121 ?_
  refine z_sld C hX hbl hbA 1 (by decide) (by decide) (by decide) hw1 dL_law_1122 ?_
  refine z_aload_n C 1 dL_law_1123 rfl ?_
  refine z_cSW (As := [.ref (ad 0), .int (zI (w1)), .ref (ad 951)]) (rest := []) C (c_L_toLoad l D A cs tt 952 ad _ 0 (by decide) hR hl0 951 (by decide) (by decide) _ hO w1 hw1r) mW_yL_toLoad q_1267 hd_yL_toLoad (by decide) (Nat.le_of_ble_eq_true rfl) (by decide) dL_law_1124 rfl (kI0 fun rk gx hx => ?_)
  obtain ⟨rfl, rfl⟩ := hx
  refine z_istore (lv' := [(5, .int (zI (1))), (4, .int (zI (0))), (3, .ref (ad 951)), (2, .ref (ad 921)), (1, .ref (ad 0)), (0, .ref b)]) C dL_law_1127 (by decide) rfl ?_
  refine z_aload_n C 3 dL_law_1129 rfl ?_
  refine z_aload_n C 5 dL_law_1130 rfl ?_
  refine z_iload C 1 dL_law_1131 rfl ?_
  refine z_iconst (z := 1) C dL_law_1133 rfl ?_
  refine z_iadd C dL_law_1134 ?_
  refine z_sld C hX hbl hbA 1 (by decide) (by decide) (by decide) hw1 dL_law_1135 ?_
  refine z_cV (As := [.int (zI (w1))]) (rest := []) (ci := 12) C (c_X10_toLoad l D A cs tt 952 ad _ 921 (by decide) hM w1 hw1r) (by decide) hay2 hM.cell rfl rfl mv_yX10_toLoad q_2007 hd_yX10_toLoad (by decide) (Nat.le_of_ble_eq_true rfl) (by decide) dL_law_1136 rfl (kI0 fun ry gy hy => ?_)
  obtain ⟨⟨FF, hF, hFk⟩, -⟩ := hy
  refine z_istore (lv' := [(6, .int (zI (ry))), (5, .int (zI (1))), (4, .int (zI (0))), (3, .ref (ad 951)), (2, .ref (ad 921)), (1, .ref (ad 0)), (0, .ref b)]) C dL_law_1139 (by decide) rfl ?_
  refine z_aload_n C 4 dL_law_1141 rfl ?_
  refine z_cV (As := []) (rest := []) (ci := 12) C (c_X10_thrown l D A cs tt 952 ad _ 921 (by decide) _ hF) (by decide) hay2 hF rfl rfl mv_yX10_thrown q_1640 hd_yX10_thrown (by decide) (Nat.le_of_ble_eq_true rfl) (by decide) dL_law_1142 rfl (kI0 fun rt gt ht => ?_)
  obtain ⟨et, rfl⟩ := ht
  rw [hFk] at et
  subst et
  refine z_iload C 1 dL_law_1145 rfl ?_
  refine z_icmp_eq (tgt := 1152) C dL_law_1147 (by decide) (by omega) (by omega) (fun _ => ?_) (fun h => absurd h (by omega))
  refine z_iload C 1 dL_law_1152 rfl ?_
  refine z_if_ne (tgt := 1169) C dL_law_1154 (by decide) (by omega) (fun _ => ?_) (fun h => absurd h (by omega))
  refine z_goto (tgt := 1936) C dL_law_1169 (by decide) ?_
  refine z_lv (lv' := [(4, .int (zI 0)), (0, .ref b)]) [2, 6] rfl ?_
  exact law_tail C hr hlk hA hX hbl hbA (Nat.le_of_ble_eq_true rfl) (Nat.le_of_ble_eq_true rfl)

set_option maxRecDepth 100000 in
set_option maxHeartbeats 4000000 in
theorem law_c19 {p : Program} {l : Launch} {e : Env} {s : State} {m : MethodId} {below : List Frame} {meth : Method} {c : Code} {D : va_G} {A : Nat → Prop} {cs : Nat → ClassId} {tt : Nat} {b : Nat} {xs : Nat → Int32} {ad : Nat → Nat} {g : Nat → va_E} (hl0 : l.stackTraces = false) (C : zC p s m #[Value.ref b] c cL_law 7 RL D A cs tt) (hr : meth.sig.returnType = ret) (hlk : meth.locks = false) (hA : ∀ q, A q → s.heap.size ≤ q) (hX : va_X b 6 xs s s.heap) (hbl : b < s.heap.size) (hbA : ¬ A b) (hR : isRec cs ad g 0) (hM : isM0 cs ad g 921) (hO : g 951 = jA cs 1 (fun _ => 0)) (w1 w2 w3 w4 w5 : Int) (hw1r : -2147483648 ≤ w1 ∧ w1 ≤ 2147483647) (hw1 : xs 1 = zI w1) (hw2r : -2147483648 ≤ w2 ∧ w2 ≤ 2147483647) (hw2 : xs 2 = zI w2) (hw3r : -2147483648 ≤ w3 ∧ w3 ≤ 2147483647) (hw3 : xs 3 = zI w3) (hw4r : -2147483648 ≤ w4 ∧ w4 ≤ 2147483647) (hw4 : xs 4 = zI w4) (hw5r : -2147483648 ≤ w5 ∧ w5 ≤ 2147483647) (hw5 : xs 5 = zI w5) : zV p l e room_1 s m #[Value.ref b] below meth c (lw_Z below #[Value.ref b] s) D A 7 (952) ad g (952) (74291) 1172 [(4, .int (zI (0))), (3, .ref (ad 951)), (2, .ref (ad 921)), (1, .ref (ad 0)), (0, .ref b)] [] := by
  have hay1 : zAt ad (0) (ad 0) := rfl
  have hay2 : zAt ad (921) (ad 921) := rfl
  have hay3 : zAt ad (951) (ad 951) := rfl
  refine z_aload_n C 3 dL_law_1172 rfl ?_
  refine z_aload_n C 4 dL_law_1173 rfl ?_
  refine z_iload C 0 dL_law_1174 rfl ?_
  refine z_iconst (z := 1) C dL_law_1176 rfl ?_
  refine z_iadd C dL_law_1177 ?_
  refine z_sld C hX hbl hbA 1 (by decide) (by decide) (by decide) hw1 dL_law_1178 ?_
  refine z_aload_n C 1 dL_law_1179 rfl ?_
  refine z_cSW (As := [.ref (ad 0), .int (zI (w1)), .ref (ad 951)]) (rest := []) C (c_L_steepest l D A cs tt 952 ad _ 0 (by decide) hR hl0 951 (by decide) (by decide) _ hO w1 hw1r) mW_yL_steepest q_1274 hd_yL_steepest (by decide) (Nat.le_of_ble_eq_true rfl) (by decide) dL_law_1180 rfl (kI0 fun rk gx hx => ?_)
  obtain ⟨rfl, rfl⟩ := hx
  refine z_istore (lv' := [(5, .int (zI (1))), (4, .int (zI (0))), (3, .ref (ad 951)), (2, .ref (ad 921)), (1, .ref (ad 0)), (0, .ref b)]) C dL_law_1183 (by decide) rfl ?_
  refine z_aload_n C 3 dL_law_1185 rfl ?_
  refine z_aload_n C 5 dL_law_1186 rfl ?_
  refine z_iload C 1 dL_law_1187 rfl ?_
  refine z_iconst (z := 1) C dL_law_1189 rfl ?_
  refine z_iadd C dL_law_1190 ?_
  refine z_sld C hX hbl hbA 1 (by decide) (by decide) (by decide) hw1 dL_law_1191 ?_
  refine z_cV (As := [.int (zI (w1))]) (rest := []) (ci := 12) C (c_X10_steepest l D A cs tt 952 ad _ 921 (by decide) hM w1 hw1r) (by decide) hay2 hM.cell rfl rfl mv_yX10_steepest q_2011 hd_yX10_steepest (by decide) (Nat.le_of_ble_eq_true rfl) (by decide) dL_law_1192 rfl (kI0 fun ry gy hy => ?_)
  obtain ⟨⟨FF, hF, hFk⟩, -⟩ := hy
  refine z_istore (lv' := [(6, .int (zI (ry))), (5, .int (zI (1))), (4, .int (zI (0))), (3, .ref (ad 951)), (2, .ref (ad 921)), (1, .ref (ad 0)), (0, .ref b)]) C dL_law_1195 (by decide) rfl ?_
  refine z_aload_n C 4 dL_law_1197 rfl ?_
  refine z_cV (As := []) (rest := []) (ci := 12) C (c_X10_thrown l D A cs tt 952 ad _ 921 (by decide) _ hF) (by decide) hay2 hF rfl rfl mv_yX10_thrown q_1640 hd_yX10_thrown (by decide) (Nat.le_of_ble_eq_true rfl) (by decide) dL_law_1198 rfl (kI0 fun rt gt ht => ?_)
  obtain ⟨et, rfl⟩ := ht
  rw [hFk] at et
  subst et
  refine z_iload C 1 dL_law_1201 rfl ?_
  refine z_icmp_eq (tgt := 1208) C dL_law_1203 (by decide) (by omega) (by omega) (fun _ => ?_) (fun h => absurd h (by omega))
  refine z_iload C 1 dL_law_1208 rfl ?_
  refine z_if_ne (tgt := 1225) C dL_law_1210 (by decide) (by omega) (fun _ => ?_) (fun h => absurd h (by omega))
  refine z_goto (tgt := 1936) C dL_law_1225 (by decide) ?_
  refine z_lv (lv' := [(4, .int (zI 0)), (0, .ref b)]) [2, 6] rfl ?_
  exact law_tail C hr hlk hA hX hbl hbA (Nat.le_of_ble_eq_true rfl) (Nat.le_of_ble_eq_true rfl)

set_option maxRecDepth 100000 in
set_option maxHeartbeats 4000000 in
theorem law_c20 {p : Program} {l : Launch} {e : Env} {s : State} {m : MethodId} {below : List Frame} {meth : Method} {c : Code} {D : va_G} {A : Nat → Prop} {cs : Nat → ClassId} {tt : Nat} {b : Nat} {xs : Nat → Int32} {ad : Nat → Nat} {g : Nat → va_E} (hl0 : l.stackTraces = false) (C : zC p s m #[Value.ref b] c cL_law 7 RL D A cs tt) (hr : meth.sig.returnType = ret) (hlk : meth.locks = false) (hA : ∀ q, A q → s.heap.size ≤ q) (hX : va_X b 6 xs s s.heap) (hbl : b < s.heap.size) (hbA : ¬ A b) (hR : isRec cs ad g 0) (hM : isM0 cs ad g 921) (hO : g 951 = jA cs 1 (fun _ => 0)) (w1 w2 w3 w4 w5 : Int) (hw1r : -2147483648 ≤ w1 ∧ w1 ≤ 2147483647) (hw1 : xs 1 = zI w1) (hw2r : -2147483648 ≤ w2 ∧ w2 ≤ 2147483647) (hw2 : xs 2 = zI w2) (hw3r : -2147483648 ≤ w3 ∧ w3 ≤ 2147483647) (hw3 : xs 3 = zI w3) (hw4r : -2147483648 ≤ w4 ∧ w4 ≤ 2147483647) (hw4 : xs 4 = zI w4) (hw5r : -2147483648 ≤ w5 ∧ w5 ≤ 2147483647) (hw5 : xs 5 = zI w5) : zV p l e room_1 s m #[Value.ref b] below meth c (lw_Z below #[Value.ref b] s) D A 7 (952) ad g (952) (74291) 1228 [(4, .int (zI (0))), (3, .ref (ad 951)), (2, .ref (ad 921)), (1, .ref (ad 0)), (0, .ref b)] [] := by
  have hay1 : zAt ad (0) (ad 0) := rfl
  have hay2 : zAt ad (921) (ad 921) := rfl
  have hay3 : zAt ad (951) (ad 951) := rfl
  refine z_aload_n C 3 dL_law_1228 rfl ?_
  refine z_aload_n C 4 dL_law_1229 rfl ?_
  refine z_iload C 0 dL_law_1230 rfl ?_
  refine z_iconst (z := 1) C dL_law_1232 rfl ?_
  refine z_iadd C dL_law_1233 ?_
  refine z_sld C hX hbl hbA 1 (by decide) (by decide) (by decide) hw1 dL_law_1234 ?_
  refine z_aload_n C 4 dL_law_1235 rfl ?_
  refine z_iload C 0 dL_law_1236 rfl ?_
  refine z_iconst (z := 2) C dL_law_1238 rfl ?_
  refine z_iadd C dL_law_1239 ?_
  refine z_sld C hX hbl hbA 2 (by decide) (by decide) (by decide) hw2 dL_law_1240 ?_
  refine z_aload_n C 1 dL_law_1241 rfl ?_
  refine z_cSW (As := [.ref (ad 0), .int (zI (w1)), .int (zI (w2)), .ref (ad 951)]) (rest := []) C (c_L_toWarm l D A cs tt 952 ad _ 0 (by decide) hR hl0 951 (by decide) (by decide) _ hO w1 w2 hw1r hw2r) mW_yL_toWarm q_1281 hd_yL_toWarm (by decide) (Nat.le_of_ble_eq_true rfl) (by decide) dL_law_1242 rfl (kI0 fun rk gx hx => ?_)
  obtain ⟨rfl, rfl⟩ := hx
  refine z_istore (lv' := [(5, .int (zI (1))), (4, .int (zI (0))), (3, .ref (ad 951)), (2, .ref (ad 921)), (1, .ref (ad 0)), (0, .ref b)]) C dL_law_1245 (by decide) rfl ?_
  refine z_aload_n C 3 dL_law_1247 rfl ?_
  refine z_aload_n C 5 dL_law_1248 rfl ?_
  refine z_iload C 1 dL_law_1249 rfl ?_
  refine z_iconst (z := 1) C dL_law_1251 rfl ?_
  refine z_iadd C dL_law_1252 ?_
  refine z_sld C hX hbl hbA 1 (by decide) (by decide) (by decide) hw1 dL_law_1253 ?_
  refine z_aload_n C 5 dL_law_1254 rfl ?_
  refine z_iload C 1 dL_law_1255 rfl ?_
  refine z_iconst (z := 2) C dL_law_1257 rfl ?_
  refine z_iadd C dL_law_1258 ?_
  refine z_sld C hX hbl hbA 2 (by decide) (by decide) (by decide) hw2 dL_law_1259 ?_
  refine z_cV (As := [.int (zI (w1)), .int (zI (w2))]) (rest := []) (ci := 12) C (c_X10_toWarm l D A cs tt 952 ad _ 921 (by decide) hM w1 w2 hw1r hw2r) (by decide) hay2 hM.cell rfl rfl mv_yX10_toWarm q_2015 hd_yX10_toWarm (by decide) (Nat.le_of_ble_eq_true rfl) (by decide) dL_law_1260 rfl (kI0 fun ry gy hy => ?_)
  obtain ⟨⟨FF, hF, hFk⟩, -⟩ := hy
  refine z_istore (lv' := [(6, .int (zI (ry))), (5, .int (zI (1))), (4, .int (zI (0))), (3, .ref (ad 951)), (2, .ref (ad 921)), (1, .ref (ad 0)), (0, .ref b)]) C dL_law_1263 (by decide) rfl ?_
  refine z_aload_n C 4 dL_law_1265 rfl ?_
  refine z_cV (As := []) (rest := []) (ci := 12) C (c_X10_thrown l D A cs tt 952 ad _ 921 (by decide) _ hF) (by decide) hay2 hF rfl rfl mv_yX10_thrown q_1640 hd_yX10_thrown (by decide) (Nat.le_of_ble_eq_true rfl) (by decide) dL_law_1266 rfl (kI0 fun rt gt ht => ?_)
  obtain ⟨et, rfl⟩ := ht
  rw [hFk] at et
  subst et
  refine z_iload C 1 dL_law_1269 rfl ?_
  refine z_icmp_eq (tgt := 1276) C dL_law_1271 (by decide) (by omega) (by omega) (fun _ => ?_) (fun h => absurd h (by omega))
  refine z_iload C 1 dL_law_1276 rfl ?_
  refine z_if_ne (tgt := 1293) C dL_law_1278 (by decide) (by omega) (fun _ => ?_) (fun h => absurd h (by omega))
  refine z_goto (tgt := 1936) C dL_law_1293 (by decide) ?_
  refine z_lv (lv' := [(4, .int (zI 0)), (0, .ref b)]) [2, 6] rfl ?_
  exact law_tail C hr hlk hA hX hbl hbA (Nat.le_of_ble_eq_true rfl) (Nat.le_of_ble_eq_true rfl)

set_option maxRecDepth 100000 in
set_option maxHeartbeats 4000000 in
theorem law_c21 {p : Program} {l : Launch} {e : Env} {s : State} {m : MethodId} {below : List Frame} {meth : Method} {c : Code} {D : va_G} {A : Nat → Prop} {cs : Nat → ClassId} {tt : Nat} {b : Nat} {xs : Nat → Int32} {ad : Nat → Nat} {g : Nat → va_E} (hl0 : l.stackTraces = false) (C : zC p s m #[Value.ref b] c cL_law 7 RL D A cs tt) (hr : meth.sig.returnType = ret) (hlk : meth.locks = false) (hA : ∀ q, A q → s.heap.size ≤ q) (hX : va_X b 6 xs s s.heap) (hbl : b < s.heap.size) (hbA : ¬ A b) (hR : isRec cs ad g 0) (hM : isM0 cs ad g 921) (hO : g 951 = jA cs 1 (fun _ => 0)) (w1 w2 w3 w4 w5 : Int) (hw1r : -2147483648 ≤ w1 ∧ w1 ≤ 2147483647) (hw1 : xs 1 = zI w1) (hw2r : -2147483648 ≤ w2 ∧ w2 ≤ 2147483647) (hw2 : xs 2 = zI w2) (hw3r : -2147483648 ≤ w3 ∧ w3 ≤ 2147483647) (hw3 : xs 3 = zI w3) (hw4r : -2147483648 ≤ w4 ∧ w4 ≤ 2147483647) (hw4 : xs 4 = zI w4) (hw5r : -2147483648 ≤ w5 ∧ w5 ≤ 2147483647) (hw5 : xs 5 = zI w5) : zV p l e room_1 s m #[Value.ref b] below meth c (lw_Z below #[Value.ref b] s) D A 7 (952) ad g (952) (74291) 1296 [(4, .int (zI (0))), (3, .ref (ad 951)), (2, .ref (ad 921)), (1, .ref (ad 0)), (0, .ref b)] [] := by
  have hay1 : zAt ad (0) (ad 0) := rfl
  have hay2 : zAt ad (921) (ad 921) := rfl
  have hay3 : zAt ad (951) (ad 951) := rfl
  refine z_aload_n C 3 dL_law_1296 rfl ?_
  refine z_aload_n C 4 dL_law_1297 rfl ?_
  refine z_iload C 0 dL_law_1298 rfl ?_
  refine z_iconst (z := 1) C dL_law_1300 rfl ?_
  refine z_iadd C dL_law_1301 ?_
  refine z_sld C hX hbl hbA 1 (by decide) (by decide) (by decide) hw1 dL_law_1302 ?_
  refine z_aload_n C 4 dL_law_1303 rfl ?_
  refine z_iload C 0 dL_law_1304 rfl ?_
  refine z_iconst (z := 2) C dL_law_1306 rfl ?_
  refine z_iadd C dL_law_1307 ?_
  refine z_sld C hX hbl hbA 2 (by decide) (by decide) (by decide) hw2 dL_law_1308 ?_
  refine z_aload_n C 4 dL_law_1309 rfl ?_
  refine z_iload C 0 dL_law_1310 rfl ?_
  refine z_iconst (z := 3) C dL_law_1312 rfl ?_
  refine z_iadd C dL_law_1313 ?_
  refine z_sld C hX hbl hbA 3 (by decide) (by decide) (by decide) hw3 dL_law_1314 ?_
  refine z_aload_n C 1 dL_law_1315 rfl ?_
  refine z_cSW (As := [.ref (ad 0), .int (zI (w1)), .int (zI (w2)), .int (zI (w3)), .ref (ad 951)]) (rest := []) C (c_L_matters l D A cs tt 952 ad _ 0 (by decide) hR hl0 951 (by decide) (by decide) _ hO w1 w2 w3 hw1r hw2r hw3r) mW_yL_matters q_1297 hd_yL_matters (by decide) (Nat.le_of_ble_eq_true rfl) (by decide) dL_law_1316 rfl (kI0 fun rk gx hx => ?_)
  obtain ⟨rfl, rfl⟩ := hx
  refine z_istore (lv' := [(5, .int (zI (1))), (4, .int (zI (0))), (3, .ref (ad 951)), (2, .ref (ad 921)), (1, .ref (ad 0)), (0, .ref b)]) C dL_law_1319 (by decide) rfl ?_
  refine z_aload_n C 3 dL_law_1321 rfl ?_
  refine z_aload_n C 5 dL_law_1322 rfl ?_
  refine z_iload C 1 dL_law_1323 rfl ?_
  refine z_iconst (z := 1) C dL_law_1325 rfl ?_
  refine z_iadd C dL_law_1326 ?_
  refine z_sld C hX hbl hbA 1 (by decide) (by decide) (by decide) hw1 dL_law_1327 ?_
  refine z_aload_n C 5 dL_law_1328 rfl ?_
  refine z_iload C 1 dL_law_1329 rfl ?_
  refine z_iconst (z := 2) C dL_law_1331 rfl ?_
  refine z_iadd C dL_law_1332 ?_
  refine z_sld C hX hbl hbA 2 (by decide) (by decide) (by decide) hw2 dL_law_1333 ?_
  refine z_aload_n C 5 dL_law_1334 rfl ?_
  refine z_iload C 1 dL_law_1335 rfl ?_
  refine z_iconst (z := 3) C dL_law_1337 rfl ?_
  refine z_iadd C dL_law_1338 ?_
  refine z_sld C hX hbl hbA 3 (by decide) (by decide) (by decide) hw3 dL_law_1339 ?_
  refine z_cV (As := [.int (zI (w1)), .int (zI (w2)), .int (zI (w3))]) (rest := []) (ci := 12) C (c_X10_matters l D A cs tt 952 ad _ 921 (by decide) hM w1 w2 w3 hw1r hw2r hw3r) (by decide) hay2 hM.cell rfl rfl mv_yX10_matters q_2019 hd_yX10_matters (by decide) (Nat.le_of_ble_eq_true rfl) (by decide) dL_law_1340 rfl (kI0 fun ry gy hy => ?_)
  obtain ⟨⟨FF, hF, hFk⟩, -⟩ := hy
  refine z_istore (lv' := [(6, .int (zI (ry))), (5, .int (zI (1))), (4, .int (zI (0))), (3, .ref (ad 951)), (2, .ref (ad 921)), (1, .ref (ad 0)), (0, .ref b)]) C dL_law_1343 (by decide) rfl ?_
  refine z_aload_n C 4 dL_law_1345 rfl ?_
  refine z_cV (As := []) (rest := []) (ci := 12) C (c_X10_thrown l D A cs tt 952 ad _ 921 (by decide) _ hF) (by decide) hay2 hF rfl rfl mv_yX10_thrown q_1640 hd_yX10_thrown (by decide) (Nat.le_of_ble_eq_true rfl) (by decide) dL_law_1346 rfl (kI0 fun rt gt ht => ?_)
  obtain ⟨et, rfl⟩ := ht
  rw [hFk] at et
  subst et
  refine z_iload C 1 dL_law_1349 rfl ?_
  refine z_icmp_eq (tgt := 1356) C dL_law_1351 (by decide) (by omega) (by omega) (fun _ => ?_) (fun h => absurd h (by omega))
  refine z_iload C 1 dL_law_1356 rfl ?_
  refine z_if_ne (tgt := 1373) C dL_law_1358 (by decide) (by omega) (fun _ => ?_) (fun h => absurd h (by omega))
  refine z_goto (tgt := 1936) C dL_law_1373 (by decide) ?_
  refine z_lv (lv' := [(4, .int (zI 0)), (0, .ref b)]) [2, 6] rfl ?_
  exact law_tail C hr hlk hA hX hbl hbA (Nat.le_of_ble_eq_true rfl) (Nat.le_of_ble_eq_true rfl)

set_option maxRecDepth 100000 in
set_option maxHeartbeats 4000000 in
theorem law_c22 {p : Program} {l : Launch} {e : Env} {s : State} {m : MethodId} {below : List Frame} {meth : Method} {c : Code} {D : va_G} {A : Nat → Prop} {cs : Nat → ClassId} {tt : Nat} {b : Nat} {xs : Nat → Int32} {ad : Nat → Nat} {g : Nat → va_E} (hl0 : l.stackTraces = false) (C : zC p s m #[Value.ref b] c cL_law 7 RL D A cs tt) (hr : meth.sig.returnType = ret) (hlk : meth.locks = false) (hA : ∀ q, A q → s.heap.size ≤ q) (hX : va_X b 6 xs s s.heap) (hbl : b < s.heap.size) (hbA : ¬ A b) (hR : isRec cs ad g 0) (hM : isM0 cs ad g 921) (hO : g 951 = jA cs 1 (fun _ => 0)) (w1 w2 w3 w4 w5 : Int) (hw1r : -2147483648 ≤ w1 ∧ w1 ≤ 2147483647) (hw1 : xs 1 = zI w1) (hw2r : -2147483648 ≤ w2 ∧ w2 ≤ 2147483647) (hw2 : xs 2 = zI w2) (hw3r : -2147483648 ≤ w3 ∧ w3 ≤ 2147483647) (hw3 : xs 3 = zI w3) (hw4r : -2147483648 ≤ w4 ∧ w4 ≤ 2147483647) (hw4 : xs 4 = zI w4) (hw5r : -2147483648 ≤ w5 ∧ w5 ≤ 2147483647) (hw5 : xs 5 = zI w5) : zV p l e room_1 s m #[Value.ref b] below meth c (lw_Z below #[Value.ref b] s) D A 7 (952) ad g (952) (74291) 1376 [(4, .int (zI (0))), (3, .ref (ad 951)), (2, .ref (ad 921)), (1, .ref (ad 0)), (0, .ref b)] [] := by
  have hay1 : zAt ad (0) (ad 0) := rfl
  have hay2 : zAt ad (921) (ad 921) := rfl
  have hay3 : zAt ad (951) (ad 951) := rfl
  refine z_aload_n C 3 dL_law_1376 rfl ?_
  refine z_aload_n C 4 dL_law_1377 rfl ?_
  refine z_iload C 0 dL_law_1378 rfl ?_
  refine z_iconst (z := 1) C dL_law_1380 rfl ?_
  refine z_iadd C dL_law_1381 ?_
  refine z_sld C hX hbl hbA 1 (by decide) (by decide) (by decide) hw1 dL_law_1382 ?_
  refine z_aload_n C 4 dL_law_1383 rfl ?_
  refine z_iload C 0 dL_law_1384 rfl ?_
  refine z_iconst (z := 2) C dL_law_1386 rfl ?_
  refine z_iadd C dL_law_1387 ?_
  refine z_sld C hX hbl hbA 2 (by decide) (by decide) (by decide) hw2 dL_law_1388 ?_
  refine z_aload_n C 1 dL_law_1389 rfl ?_
  refine z_cSW (As := [.ref (ad 0), .int (zI (w1)), .int (zI (w2)), .ref (ad 951)]) (rest := []) C (c_L_pitOf l D A cs tt 952 ad _ 0 (by decide) hR hl0 951 (by decide) (by decide) _ hO w1 w2 hw1r hw2r) mW_yL_pitOf q_1309 hd_yL_pitOf (by decide) (Nat.le_of_ble_eq_true rfl) (by decide) dL_law_1390 rfl (kI0 fun rk gx hx => ?_)
  obtain ⟨rfl, rfl⟩ := hx
  refine z_istore (lv' := [(5, .int (zI (1))), (4, .int (zI (0))), (3, .ref (ad 951)), (2, .ref (ad 921)), (1, .ref (ad 0)), (0, .ref b)]) C dL_law_1393 (by decide) rfl ?_
  refine z_aload_n C 3 dL_law_1395 rfl ?_
  refine z_aload_n C 5 dL_law_1396 rfl ?_
  refine z_iload C 1 dL_law_1397 rfl ?_
  refine z_iconst (z := 1) C dL_law_1399 rfl ?_
  refine z_iadd C dL_law_1400 ?_
  refine z_sld C hX hbl hbA 1 (by decide) (by decide) (by decide) hw1 dL_law_1401 ?_
  refine z_aload_n C 5 dL_law_1402 rfl ?_
  refine z_iload C 1 dL_law_1403 rfl ?_
  refine z_iconst (z := 2) C dL_law_1405 rfl ?_
  refine z_iadd C dL_law_1406 ?_
  refine z_sld C hX hbl hbA 2 (by decide) (by decide) (by decide) hw2 dL_law_1407 ?_
  refine z_cV (As := [.int (zI (w1)), .int (zI (w2))]) (rest := []) (ci := 12) C (c_X10_pitOf l D A cs tt 952 ad _ 921 (by decide) hM w1 w2 hw1r hw2r) (by decide) hay2 hM.cell rfl rfl mv_yX10_pitOf q_2027 hd_yX10_pitOf (by decide) (Nat.le_of_ble_eq_true rfl) (by decide) dL_law_1408 rfl (kI0 fun ry gy hy => ?_)
  obtain ⟨⟨FF, hF, hFk⟩, -⟩ := hy
  refine z_istore (lv' := [(6, .int (zI (ry))), (5, .int (zI (1))), (4, .int (zI (0))), (3, .ref (ad 951)), (2, .ref (ad 921)), (1, .ref (ad 0)), (0, .ref b)]) C dL_law_1411 (by decide) rfl ?_
  refine z_aload_n C 4 dL_law_1413 rfl ?_
  refine z_cV (As := []) (rest := []) (ci := 12) C (c_X10_thrown l D A cs tt 952 ad _ 921 (by decide) _ hF) (by decide) hay2 hF rfl rfl mv_yX10_thrown q_1640 hd_yX10_thrown (by decide) (Nat.le_of_ble_eq_true rfl) (by decide) dL_law_1414 rfl (kI0 fun rt gt ht => ?_)
  obtain ⟨et, rfl⟩ := ht
  rw [hFk] at et
  subst et
  refine z_iload C 1 dL_law_1417 rfl ?_
  refine z_icmp_eq (tgt := 1424) C dL_law_1419 (by decide) (by omega) (by omega) (fun _ => ?_) (fun h => absurd h (by omega))
  refine z_iload C 1 dL_law_1424 rfl ?_
  refine z_if_ne (tgt := 1441) C dL_law_1426 (by decide) (by omega) (fun _ => ?_) (fun h => absurd h (by omega))
  refine z_goto (tgt := 1936) C dL_law_1441 (by decide) ?_
  refine z_lv (lv' := [(4, .int (zI 0)), (0, .ref b)]) [2, 6] rfl ?_
  exact law_tail C hr hlk hA hX hbl hbA (Nat.le_of_ble_eq_true rfl) (Nat.le_of_ble_eq_true rfl)

set_option maxRecDepth 100000 in
set_option maxHeartbeats 4000000 in
theorem law_c23 {p : Program} {l : Launch} {e : Env} {s : State} {m : MethodId} {below : List Frame} {meth : Method} {c : Code} {D : va_G} {A : Nat → Prop} {cs : Nat → ClassId} {tt : Nat} {b : Nat} {xs : Nat → Int32} {ad : Nat → Nat} {g : Nat → va_E} (hl0 : l.stackTraces = false) (C : zC p s m #[Value.ref b] c cL_law 7 RL D A cs tt) (hr : meth.sig.returnType = ret) (hlk : meth.locks = false) (hA : ∀ q, A q → s.heap.size ≤ q) (hX : va_X b 6 xs s s.heap) (hbl : b < s.heap.size) (hbA : ¬ A b) (hR : isRec cs ad g 0) (hM : isM0 cs ad g 921) (hO : g 951 = jA cs 1 (fun _ => 0)) (w1 w2 w3 w4 w5 : Int) (hw1r : -2147483648 ≤ w1 ∧ w1 ≤ 2147483647) (hw1 : xs 1 = zI w1) (hw2r : -2147483648 ≤ w2 ∧ w2 ≤ 2147483647) (hw2 : xs 2 = zI w2) (hw3r : -2147483648 ≤ w3 ∧ w3 ≤ 2147483647) (hw3 : xs 3 = zI w3) (hw4r : -2147483648 ≤ w4 ∧ w4 ≤ 2147483647) (hw4 : xs 4 = zI w4) (hw5r : -2147483648 ≤ w5 ∧ w5 ≤ 2147483647) (hw5 : xs 5 = zI w5) : zV p l e room_1 s m #[Value.ref b] below meth c (lw_Z below #[Value.ref b] s) D A 7 (952) ad g (952) (74291) 1444 [(4, .int (zI (0))), (3, .ref (ad 951)), (2, .ref (ad 921)), (1, .ref (ad 0)), (0, .ref b)] [] := by
  have hay1 : zAt ad (0) (ad 0) := rfl
  have hay2 : zAt ad (921) (ad 921) := rfl
  have hay3 : zAt ad (951) (ad 951) := rfl
  refine z_aload_n C 3 dL_law_1444 rfl ?_
  refine z_aload_n C 4 dL_law_1445 rfl ?_
  refine z_iload C 0 dL_law_1446 rfl ?_
  refine z_iconst (z := 1) C dL_law_1448 rfl ?_
  refine z_iadd C dL_law_1449 ?_
  refine z_sld C hX hbl hbA 1 (by decide) (by decide) (by decide) hw1 dL_law_1450 ?_
  refine z_aload_n C 4 dL_law_1451 rfl ?_
  refine z_iload C 0 dL_law_1452 rfl ?_
  refine z_iconst (z := 2) C dL_law_1454 rfl ?_
  refine z_iadd C dL_law_1455 ?_
  refine z_sld C hX hbl hbA 2 (by decide) (by decide) (by decide) hw2 dL_law_1456 ?_
  refine z_aload_n C 4 dL_law_1457 rfl ?_
  refine z_iload C 0 dL_law_1458 rfl ?_
  refine z_iconst (z := 3) C dL_law_1460 rfl ?_
  refine z_iadd C dL_law_1461 ?_
  refine z_sld C hX hbl hbA 3 (by decide) (by decide) (by decide) hw3 dL_law_1462 ?_
  refine z_aload_n C 1 dL_law_1463 rfl ?_
  refine z_cSW (As := [.ref (ad 0), .int (zI (w1)), .int (zI (w2)), .int (zI (w3)), .ref (ad 951)]) (rest := []) C (c_L_compare l D A cs tt 952 ad _ 0 (by decide) hR hl0 951 (by decide) (by decide) _ hO w1 w2 w3 hw1r hw2r hw3r) mW_yL_compare q_1322 hd_yL_compare (by decide) (Nat.le_of_ble_eq_true rfl) (by decide) dL_law_1464 rfl (kI0 fun rk gx hx => ?_)
  obtain ⟨rfl, rfl⟩ := hx
  refine z_istore (lv' := [(5, .int (zI (1))), (4, .int (zI (0))), (3, .ref (ad 951)), (2, .ref (ad 921)), (1, .ref (ad 0)), (0, .ref b)]) C dL_law_1467 (by decide) rfl ?_
  refine z_aload_n C 3 dL_law_1469 rfl ?_
  refine z_aload_n C 5 dL_law_1470 rfl ?_
  refine z_iload C 1 dL_law_1471 rfl ?_
  refine z_iconst (z := 1) C dL_law_1473 rfl ?_
  refine z_iadd C dL_law_1474 ?_
  refine z_sld C hX hbl hbA 1 (by decide) (by decide) (by decide) hw1 dL_law_1475 ?_
  refine z_aload_n C 5 dL_law_1476 rfl ?_
  refine z_iload C 1 dL_law_1477 rfl ?_
  refine z_iconst (z := 2) C dL_law_1479 rfl ?_
  refine z_iadd C dL_law_1480 ?_
  refine z_sld C hX hbl hbA 2 (by decide) (by decide) (by decide) hw2 dL_law_1481 ?_
  refine z_aload_n C 5 dL_law_1482 rfl ?_
  refine z_iload C 1 dL_law_1483 rfl ?_
  refine z_iconst (z := 3) C dL_law_1485 rfl ?_
  refine z_iadd C dL_law_1486 ?_
  refine z_sld C hX hbl hbA 3 (by decide) (by decide) (by decide) hw3 dL_law_1487 ?_
  refine z_cV (As := [.int (zI (w1)), .int (zI (w2)), .int (zI (w3))]) (rest := []) (ci := 12) C (c_X10_compare l D A cs tt 952 ad _ 921 (by decide) hM w1 w2 w3 hw1r hw2r hw3r) (by decide) hay2 hM.cell rfl rfl mv_yX10_compare q_2039 hd_yX10_compare (by decide) (Nat.le_of_ble_eq_true rfl) (by decide) dL_law_1488 rfl (kI0 fun ry gy hy => ?_)
  obtain ⟨⟨FF, hF, hFk⟩, -⟩ := hy
  refine z_istore (lv' := [(6, .int (zI (ry))), (5, .int (zI (1))), (4, .int (zI (0))), (3, .ref (ad 951)), (2, .ref (ad 921)), (1, .ref (ad 0)), (0, .ref b)]) C dL_law_1491 (by decide) rfl ?_
  refine z_aload_n C 4 dL_law_1493 rfl ?_
  refine z_cV (As := []) (rest := []) (ci := 12) C (c_X10_thrown l D A cs tt 952 ad _ 921 (by decide) _ hF) (by decide) hay2 hF rfl rfl mv_yX10_thrown q_1640 hd_yX10_thrown (by decide) (Nat.le_of_ble_eq_true rfl) (by decide) dL_law_1494 rfl (kI0 fun rt gt ht => ?_)
  obtain ⟨et, rfl⟩ := ht
  rw [hFk] at et
  subst et
  refine z_iload C 1 dL_law_1497 rfl ?_
  refine z_icmp_eq (tgt := 1504) C dL_law_1499 (by decide) (by omega) (by omega) (fun _ => ?_) (fun h => absurd h (by omega))
  refine z_iload C 1 dL_law_1504 rfl ?_
  refine z_if_ne (tgt := 1521) C dL_law_1506 (by decide) (by omega) (fun _ => ?_) (fun h => absurd h (by omega))
  refine z_goto (tgt := 1936) C dL_law_1521 (by decide) ?_
  refine z_lv (lv' := [(4, .int (zI 0)), (0, .ref b)]) [2, 6] rfl ?_
  exact law_tail C hr hlk hA hX hbl hbA (Nat.le_of_ble_eq_true rfl) (Nat.le_of_ble_eq_true rfl)

set_option maxRecDepth 100000 in
set_option maxHeartbeats 4000000 in
theorem law_c24 {p : Program} {l : Launch} {e : Env} {s : State} {m : MethodId} {below : List Frame} {meth : Method} {c : Code} {D : va_G} {A : Nat → Prop} {cs : Nat → ClassId} {tt : Nat} {b : Nat} {xs : Nat → Int32} {ad : Nat → Nat} {g : Nat → va_E} (hl0 : l.stackTraces = false) (C : zC p s m #[Value.ref b] c cL_law 7 RL D A cs tt) (hr : meth.sig.returnType = ret) (hlk : meth.locks = false) (hA : ∀ q, A q → s.heap.size ≤ q) (hX : va_X b 6 xs s s.heap) (hbl : b < s.heap.size) (hbA : ¬ A b) (hR : isRec cs ad g 0) (hM : isM0 cs ad g 921) (hO : g 951 = jA cs 1 (fun _ => 0)) (w1 w2 w3 w4 w5 : Int) (hw1r : -2147483648 ≤ w1 ∧ w1 ≤ 2147483647) (hw1 : xs 1 = zI w1) (hw2r : -2147483648 ≤ w2 ∧ w2 ≤ 2147483647) (hw2 : xs 2 = zI w2) (hw3r : -2147483648 ≤ w3 ∧ w3 ≤ 2147483647) (hw3 : xs 3 = zI w3) (hw4r : -2147483648 ≤ w4 ∧ w4 ≤ 2147483647) (hw4 : xs 4 = zI w4) (hw5r : -2147483648 ≤ w5 ∧ w5 ≤ 2147483647) (hw5 : xs 5 = zI w5) : zV p l e room_1 s m #[Value.ref b] below meth c (lw_Z below #[Value.ref b] s) D A 7 (952) ad g (952) (74291) 1524 [(4, .int (zI (0))), (3, .ref (ad 951)), (2, .ref (ad 921)), (1, .ref (ad 0)), (0, .ref b)] [] := by
  have hay1 : zAt ad (0) (ad 0) := rfl
  have hay2 : zAt ad (921) (ad 921) := rfl
  have hay3 : zAt ad (951) (ad 951) := rfl
  refine z_aload_n C 3 dL_law_1524 rfl ?_
  refine z_aload_n C 4 dL_law_1525 rfl ?_
  refine z_iload C 0 dL_law_1526 rfl ?_
  refine z_iconst (z := 1) C dL_law_1528 rfl ?_
  refine z_iadd C dL_law_1529 ?_
  refine z_sld C hX hbl hbA 1 (by decide) (by decide) (by decide) hw1 dL_law_1530 ?_
  refine z_aload_n C 1 dL_law_1531 rfl ?_
  refine z_cSW (As := [.ref (ad 0), .int (zI (w1)), .ref (ad 951)]) (rest := []) C (c_L_nearest l D A cs tt 952 ad _ 0 (by decide) hR hl0 951 (by decide) (by decide) _ hO w1 hw1r) mW_yL_nearest q_1349 hd_yL_nearest (by decide) (Nat.le_of_ble_eq_true rfl) (by decide) dL_law_1532 rfl (kI0 fun rk gx hx => ?_)
  obtain ⟨rfl, rfl⟩ := hx
  refine z_istore (lv' := [(5, .int (zI (1))), (4, .int (zI (0))), (3, .ref (ad 951)), (2, .ref (ad 921)), (1, .ref (ad 0)), (0, .ref b)]) C dL_law_1535 (by decide) rfl ?_
  refine z_aload_n C 3 dL_law_1537 rfl ?_
  refine z_aload_n C 5 dL_law_1538 rfl ?_
  refine z_iload C 1 dL_law_1539 rfl ?_
  refine z_iconst (z := 1) C dL_law_1541 rfl ?_
  refine z_iadd C dL_law_1542 ?_
  refine z_sld C hX hbl hbA 1 (by decide) (by decide) (by decide) hw1 dL_law_1543 ?_
  refine z_cV (As := [.int (zI (w1))]) (rest := []) (ci := 12) C (c_X10_nearest l D A cs tt 952 ad _ 921 (by decide) hM w1 hw1r) (by decide) hay2 hM.cell rfl rfl mv_yX10_nearest q_2063 hd_yX10_nearest (by decide) (Nat.le_of_ble_eq_true rfl) (by decide) dL_law_1544 rfl (kI0 fun ry gy hy => ?_)
  obtain ⟨⟨FF, hF, hFk⟩, -⟩ := hy
  refine z_istore (lv' := [(6, .int (zI (ry))), (5, .int (zI (1))), (4, .int (zI (0))), (3, .ref (ad 951)), (2, .ref (ad 921)), (1, .ref (ad 0)), (0, .ref b)]) C dL_law_1547 (by decide) rfl ?_
  refine z_aload_n C 4 dL_law_1549 rfl ?_
  refine z_cV (As := []) (rest := []) (ci := 12) C (c_X10_thrown l D A cs tt 952 ad _ 921 (by decide) _ hF) (by decide) hay2 hF rfl rfl mv_yX10_thrown q_1640 hd_yX10_thrown (by decide) (Nat.le_of_ble_eq_true rfl) (by decide) dL_law_1550 rfl (kI0 fun rt gt ht => ?_)
  obtain ⟨et, rfl⟩ := ht
  rw [hFk] at et
  subst et
  refine z_iload C 1 dL_law_1553 rfl ?_
  refine z_icmp_eq (tgt := 1560) C dL_law_1555 (by decide) (by omega) (by omega) (fun _ => ?_) (fun h => absurd h (by omega))
  refine z_iload C 1 dL_law_1560 rfl ?_
  refine z_if_ne (tgt := 1577) C dL_law_1562 (by decide) (by omega) (fun _ => ?_) (fun h => absurd h (by omega))
  refine z_goto (tgt := 1936) C dL_law_1577 (by decide) ?_
  refine z_lv (lv' := [(4, .int (zI 0)), (0, .ref b)]) [2, 6] rfl ?_
  exact law_tail C hr hlk hA hX hbl hbA (Nat.le_of_ble_eq_true rfl) (Nat.le_of_ble_eq_true rfl)

set_option maxRecDepth 100000 in
set_option maxHeartbeats 4000000 in
theorem law_c29 {p : Program} {l : Launch} {e : Env} {s : State} {m : MethodId} {below : List Frame} {meth : Method} {c : Code} {D : va_G} {A : Nat → Prop} {cs : Nat → ClassId} {tt : Nat} {b : Nat} {xs : Nat → Int32} {ad : Nat → Nat} {g : Nat → va_E} (hl0 : l.stackTraces = false) (C : zC p s m #[Value.ref b] c cL_law 7 RL D A cs tt) (hr : meth.sig.returnType = ret) (hlk : meth.locks = false) (hA : ∀ q, A q → s.heap.size ≤ q) (hX : va_X b 6 xs s s.heap) (hbl : b < s.heap.size) (hbA : ¬ A b) (hR : isRec cs ad g 0) (hM : isM0 cs ad g 921) (hO : g 951 = jA cs 1 (fun _ => 0)) (w1 w2 w3 w4 w5 : Int) (hw1r : -2147483648 ≤ w1 ∧ w1 ≤ 2147483647) (hw1 : xs 1 = zI w1) (hw2r : -2147483648 ≤ w2 ∧ w2 ≤ 2147483647) (hw2 : xs 2 = zI w2) (hw3r : -2147483648 ≤ w3 ∧ w3 ≤ 2147483647) (hw3 : xs 3 = zI w3) (hw4r : -2147483648 ≤ w4 ∧ w4 ≤ 2147483647) (hw4 : xs 4 = zI w4) (hw5r : -2147483648 ≤ w5 ∧ w5 ≤ 2147483647) (hw5 : xs 5 = zI w5) : zV p l e room_1 s m #[Value.ref b] below meth c (lw_Z below #[Value.ref b] s) D A 7 (952) ad g (952) (74291) 1752 [(4, .int (zI (0))), (3, .ref (ad 951)), (2, .ref (ad 921)), (1, .ref (ad 0)), (0, .ref b)] [] := by
  have hay1 : zAt ad (0) (ad 0) := rfl
  have hay2 : zAt ad (921) (ad 921) := rfl
  have hay3 : zAt ad (951) (ad 951) := rfl
  refine z_aload_n C 3 dL_law_1752 rfl ?_
  refine z_aload_n C 4 dL_law_1753 rfl ?_
  refine z_iload C 0 dL_law_1754 rfl ?_
  refine z_iconst (z := 1) C dL_law_1756 rfl ?_
  refine z_iadd C dL_law_1757 ?_
  refine z_sld C hX hbl hbA 1 (by decide) (by decide) (by decide) hw1 dL_law_1758 ?_
  refine z_aload_n C 4 dL_law_1759 rfl ?_
  refine z_iload C 0 dL_law_1760 rfl ?_
  refine z_iconst (z := 2) C dL_law_1762 rfl ?_
  refine z_iadd C dL_law_1763 ?_
  refine z_sld C hX hbl hbA 2 (by decide) (by decide) (by decide) hw2 dL_law_1764 ?_
  refine z_aload_n C 4 dL_law_1765 rfl ?_
  refine z_iload C 0 dL_law_1766 rfl ?_
  refine z_iconst (z := 3) C dL_law_1768 rfl ?_
  refine z_iadd C dL_law_1769 ?_
  refine z_sld C hX hbl hbA 3 (by decide) (by decide) (by decide) hw3 dL_law_1770 ?_
  refine z_aload_n C 1 dL_law_1771 rfl ?_
  refine z_cSW (As := [.ref (ad 0), .int (zI (w1)), .int (zI (w2)), .int (zI (w3)), .ref (ad 951)]) (rest := []) C (c_L_odds l D A cs tt 952 ad _ 0 (by decide) hR hl0 951 (by decide) (by decide) _ hO w1 w2 w3 hw1r hw2r hw3r) mW_yL_odds q_1408 hd_yL_odds (by decide) (Nat.le_of_ble_eq_true rfl) (by decide) dL_law_1772 rfl (kI0 fun rk gx hx => ?_)
  obtain ⟨rfl, rfl⟩ := hx
  refine z_istore (lv' := [(5, .int (zI (1))), (4, .int (zI (0))), (3, .ref (ad 951)), (2, .ref (ad 921)), (1, .ref (ad 0)), (0, .ref b)]) C dL_law_1775 (by decide) rfl ?_
  refine z_aload_n C 3 dL_law_1777 rfl ?_
  refine z_aload_n C 5 dL_law_1778 rfl ?_
  refine z_iload C 1 dL_law_1779 rfl ?_
  refine z_iconst (z := 1) C dL_law_1781 rfl ?_
  refine z_iadd C dL_law_1782 ?_
  refine z_sld C hX hbl hbA 1 (by decide) (by decide) (by decide) hw1 dL_law_1783 ?_
  refine z_aload_n C 5 dL_law_1784 rfl ?_
  refine z_iload C 1 dL_law_1785 rfl ?_
  refine z_iconst (z := 2) C dL_law_1787 rfl ?_
  refine z_iadd C dL_law_1788 ?_
  refine z_sld C hX hbl hbA 2 (by decide) (by decide) (by decide) hw2 dL_law_1789 ?_
  refine z_aload_n C 5 dL_law_1790 rfl ?_
  refine z_iload C 1 dL_law_1791 rfl ?_
  refine z_iconst (z := 3) C dL_law_1793 rfl ?_
  refine z_iadd C dL_law_1794 ?_
  refine z_sld C hX hbl hbA 3 (by decide) (by decide) (by decide) hw3 dL_law_1795 ?_
  refine z_cV (As := [.int (zI (w1)), .int (zI (w2)), .int (zI (w3))]) (rest := []) (ci := 12) C (c_X10_odds l D A cs tt 952 ad _ 921 (by decide) hM w1 w2 w3 hw1r hw2r hw3r) (by decide) hay2 hM.cell rfl rfl mv_yX10_odds q_2095 hd_yX10_odds (by decide) (Nat.le_of_ble_eq_true rfl) (by decide) dL_law_1796 rfl (kI0 fun ry gy hy => ?_)
  obtain ⟨⟨FF, hF, hFk⟩, -⟩ := hy
  refine z_istore (lv' := [(6, .int (zI (ry))), (5, .int (zI (1))), (4, .int (zI (0))), (3, .ref (ad 951)), (2, .ref (ad 921)), (1, .ref (ad 0)), (0, .ref b)]) C dL_law_1799 (by decide) rfl ?_
  refine z_aload_n C 4 dL_law_1801 rfl ?_
  refine z_cV (As := []) (rest := []) (ci := 12) C (c_X10_thrown l D A cs tt 952 ad _ 921 (by decide) _ hF) (by decide) hay2 hF rfl rfl mv_yX10_thrown q_1640 hd_yX10_thrown (by decide) (Nat.le_of_ble_eq_true rfl) (by decide) dL_law_1802 rfl (kI0 fun rt gt ht => ?_)
  obtain ⟨et, rfl⟩ := ht
  rw [hFk] at et
  subst et
  refine z_iload C 1 dL_law_1805 rfl ?_
  refine z_icmp_eq (tgt := 1812) C dL_law_1807 (by decide) (by omega) (by omega) (fun _ => ?_) (fun h => absurd h (by omega))
  refine z_iload C 1 dL_law_1812 rfl ?_
  refine z_if_ne (tgt := 1829) C dL_law_1814 (by decide) (by omega) (fun _ => ?_) (fun h => absurd h (by omega))
  refine z_goto (tgt := 1936) C dL_law_1829 (by decide) ?_
  refine z_lv (lv' := [(4, .int (zI 0)), (0, .ref b)]) [2, 6] rfl ?_
  exact law_tail C hr hlk hA hX hbl hbA (Nat.le_of_ble_eq_true rfl) (Nat.le_of_ble_eq_true rfl)

set_option maxRecDepth 100000 in
set_option maxHeartbeats 4000000 in
theorem law_c1 {p : Program} {l : Launch} {e : Env} {s : State} {m : MethodId} {below : List Frame} {meth : Method} {c : Code} {D : va_G} {A : Nat → Prop} {cs : Nat → ClassId} {tt : Nat} {b : Nat} {xs : Nat → Int32} {ad : Nat → Nat} {g : Nat → va_E} (hl0 : l.stackTraces = false) (C : zC p s m #[Value.ref b] c cL_law 7 RL D A cs tt) (hr : meth.sig.returnType = ret) (hlk : meth.locks = false) (hA : ∀ q, A q → s.heap.size ≤ q) (hX : va_X b 6 xs s s.heap) (hbl : b < s.heap.size) (hbA : ¬ A b) (hR : isRec cs ad g 0) (hM : isM0 cs ad g 921) (hO : g 951 = jA cs 1 (fun _ => 0)) (w1 w2 w3 w4 w5 : Int) (hw1r : -2147483648 ≤ w1 ∧ w1 ≤ 2147483647) (hw1 : xs 1 = zI w1) (hw2r : -2147483648 ≤ w2 ∧ w2 ≤ 2147483647) (hw2 : xs 2 = zI w2) (hw3r : -2147483648 ≤ w3 ∧ w3 ≤ 2147483647) (hw3 : xs 3 = zI w3) (hw4r : -2147483648 ≤ w4 ∧ w4 ≤ 2147483647) (hw4 : xs 4 = zI w4) (hw5r : -2147483648 ≤ w5 ∧ w5 ≤ 2147483647) (hw5 : xs 5 = zI w5) : zV p l e room_1 s m #[Value.ref b] below meth c (lw_Z below #[Value.ref b] s) D A 7 (952) ad g (952) (74291) 261 [(4, .int (zI (0))), (3, .ref (ad 951)), (2, .ref (ad 921)), (1, .ref (ad 0)), (0, .ref b)] [] := by
  have hay1 : zAt ad (0) (ad 0) := rfl
  have hay2 : zAt ad (921) (ad 921) := rfl
  have hay3 : zAt ad (951) (ad 951) := rfl
  refine z_aload_n C 3 dL_law_261 rfl ?_
  refine z_aload_n C 4 dL_law_262 rfl ?_
  refine z_iload C 0 dL_law_263 rfl ?_
  refine z_iconst (z := 1) C dL_law_265 rfl ?_
  refine z_iadd C dL_law_266 ?_
  refine z_sld C hX hbl hbA 1 (by decide) (by decide) (by decide) hw1 dL_law_267 ?_
  refine z_aload_n C 1 dL_law_268 rfl ?_
  refine z_cSW (As := [.ref (ad 0), .int (zI (w1)), .ref (ad 951)]) (rest := []) C (c_L_snow l D A cs tt 952 ad _ 0 (by decide) hR hl0 951 (by decide) (by decide) _ hO w1 hw1r) mW_yL_snow q_650 hd_yL_snow (by decide) (Nat.le_of_ble_eq_true rfl) (by decide) dL_law_269 rfl (kI0 fun rk gx hx => ?_)
  obtain ⟨hx, fx⟩ := hx
  have hM9 : isM0 cs ad gx 921 := hM.mv (fun j _ _ => rfl) (fun j j1 j2 => fx j (by omega) (by omega))
  rcases hx with ⟨rfl, hc, qq, hq1, hq2⟩ | ⟨rfl, hc⟩
  · refine z_istore (lv' := [(5, .int (zI (0))), (4, .int (zI (0))), (3, .ref (ad 951)), (2, .ref (ad 921)), (1, .ref (ad 0)), (0, .ref b)]) C dL_law_272 (by decide) rfl ?_
    refine z_aload_n C 3 dL_law_274 rfl ?_
    refine z_aload_n C 5 dL_law_275 rfl ?_
    refine z_iload C 1 dL_law_276 rfl ?_
    refine z_iconst (z := 1) C dL_law_278 rfl ?_
    refine z_iadd C dL_law_279 ?_
    refine z_sld C hX hbl hbA 1 (by decide) (by decide) (by decide) hw1 dL_law_280 ?_
    refine z_cV (As := [.int (zI (w1))]) (rest := []) (ci := 12) C (c_X10_snow l D A cs tt 952 ad _ 921 (by decide) hM9 w1 hw1r) (by decide) hay2 hM9.cell rfl rfl mv_yX10_snow q_1648 hd_yX10_snow (by decide) (Nat.le_of_ble_eq_true rfl) (by decide) dL_law_281 rfl (kI0 fun ry gy hy => ?_)
    obtain ⟨ey, ⟨⟨FF, hF, hFk⟩, fy⟩⟩ := hy
    rw [if_pos hc] at hFk
    have ey2 := ey hc
    have hrr : -1 ≤ ry ∧ ry ≤ 1 := by rw [ey2]; first | omega | (split <;> first | omega | (split <;> omega))
    refine z_istore (lv' := [(6, .int (zI (ry))), (5, .int (zI (0))), (4, .int (zI (0))), (3, .ref (ad 951)), (2, .ref (ad 921)), (1, .ref (ad 0)), (0, .ref b)]) C dL_law_284 (by decide) rfl ?_
    refine z_aload_n C 4 dL_law_286 rfl ?_
    refine z_cV (As := []) (rest := []) (ci := 12) C (c_X10_thrown l D A cs tt 952 ad _ 921 (by decide) _ hF) (by decide) hay2 hF rfl rfl mv_yX10_thrown q_1640 hd_yX10_thrown (by decide) (Nat.le_of_ble_eq_true rfl) (by decide) dL_law_287 rfl (kI0 fun rt gt ht => ?_)
    obtain ⟨et, rfl⟩ := ht
    rw [hFk] at et
    subst et
    refine z_iload C 1 dL_law_290 rfl ?_
    refine z_icmp_eq (tgt := 297) C dL_law_292 (by decide) (by omega) (by omega) (fun _ => ?_) (fun h => absurd h (by omega))
    refine z_iload C 1 dL_law_297 rfl ?_
    refine z_if_ne (tgt := 314) C dL_law_299 (by decide) (by omega) (fun h => absurd h (by omega)) (fun _ => ?_)
    refine z_aload_n C 3 dL_law_302 rfl ?_
    refine z_iconst (z := 0) C dL_law_303 rfl ?_
    have hgy4 := (fy (951) (by omega)).trans hq1
    refine z_lald C (by decide) hay3 hgy4 (0) (by decide) (by decide) (by decide) dL_law_304 ?_
    rw [show qq (0) = ry from hq2.trans ey2.symm]
    refine z_iload C 0 dL_law_305 rfl ?_
    refine z_i2l C dL_law_307 (by omega) ?_
    refine z_lcmp0 C dL_law_308 ?_
    refine z_if_eq (tgt := 314) C dL_law_309 (by decide) (by omega) (fun _ => ?_) (fun h => absurd h (by omega))
    refine z_goto (tgt := 1936) C dL_law_314 (by decide) ?_
    refine z_lv (lv' := [(4, .int (zI 0)), (0, .ref b)]) [2, 6] rfl ?_
    exact law_tail C hr hlk hA hX hbl hbA (Nat.le_of_ble_eq_true rfl) (Nat.le_of_ble_eq_true rfl)
  · refine z_istore (lv' := [(5, .int (zI (1))), (4, .int (zI (0))), (3, .ref (ad 951)), (2, .ref (ad 921)), (1, .ref (ad 0)), (0, .ref b)]) C dL_law_272 (by decide) rfl ?_
    refine z_aload_n C 3 dL_law_274 rfl ?_
    refine z_aload_n C 5 dL_law_275 rfl ?_
    refine z_iload C 1 dL_law_276 rfl ?_
    refine z_iconst (z := 1) C dL_law_278 rfl ?_
    refine z_iadd C dL_law_279 ?_
    refine z_sld C hX hbl hbA 1 (by decide) (by decide) (by decide) hw1 dL_law_280 ?_
    refine z_cV (As := [.int (zI (w1))]) (rest := []) (ci := 12) C (c_X10_snow l D A cs tt 952 ad _ 921 (by decide) hM9 w1 hw1r) (by decide) hay2 hM9.cell rfl rfl mv_yX10_snow q_1648 hd_yX10_snow (by decide) (Nat.le_of_ble_eq_true rfl) (by decide) dL_law_281 rfl (kI0 fun ry gy hy => ?_)
    obtain ⟨ey, ⟨⟨FF, hF, hFk⟩, fy⟩⟩ := hy
    rw [if_neg hc] at hFk
    refine z_istore (lv' := [(6, .int (zI (ry))), (5, .int (zI (1))), (4, .int (zI (0))), (3, .ref (ad 951)), (2, .ref (ad 921)), (1, .ref (ad 0)), (0, .ref b)]) C dL_law_284 (by decide) rfl ?_
    refine z_aload_n C 4 dL_law_286 rfl ?_
    refine z_cV (As := []) (rest := []) (ci := 12) C (c_X10_thrown l D A cs tt 952 ad _ 921 (by decide) _ hF) (by decide) hay2 hF rfl rfl mv_yX10_thrown q_1640 hd_yX10_thrown (by decide) (Nat.le_of_ble_eq_true rfl) (by decide) dL_law_287 rfl (kI0 fun rt gt ht => ?_)
    obtain ⟨et, rfl⟩ := ht
    rw [hFk] at et
    subst et
    refine z_iload C 1 dL_law_290 rfl ?_
    refine z_icmp_eq (tgt := 297) C dL_law_292 (by decide) (by omega) (by omega) (fun _ => ?_) (fun h => absurd h (by omega))
    refine z_iload C 1 dL_law_297 rfl ?_
    refine z_if_ne (tgt := 314) C dL_law_299 (by decide) (by omega) (fun _ => ?_) (fun h => absurd h (by omega))
    refine z_goto (tgt := 1936) C dL_law_314 (by decide) ?_
    refine z_lv (lv' := [(4, .int (zI 0)), (0, .ref b)]) [2, 6] rfl ?_
    exact law_tail C hr hlk hA hX hbl hbA (Nat.le_of_ble_eq_true rfl) (Nat.le_of_ble_eq_true rfl)

set_option maxRecDepth 100000 in
set_option maxHeartbeats 4000000 in
theorem law_c3 {p : Program} {l : Launch} {e : Env} {s : State} {m : MethodId} {below : List Frame} {meth : Method} {c : Code} {D : va_G} {A : Nat → Prop} {cs : Nat → ClassId} {tt : Nat} {b : Nat} {xs : Nat → Int32} {ad : Nat → Nat} {g : Nat → va_E} (hl0 : l.stackTraces = false) (C : zC p s m #[Value.ref b] c cL_law 7 RL D A cs tt) (hr : meth.sig.returnType = ret) (hlk : meth.locks = false) (hA : ∀ q, A q → s.heap.size ≤ q) (hX : va_X b 6 xs s s.heap) (hbl : b < s.heap.size) (hbA : ¬ A b) (hR : isRec cs ad g 0) (hM : isM0 cs ad g 921) (hO : g 951 = jA cs 1 (fun _ => 0)) (w1 w2 w3 w4 w5 : Int) (hw1r : -2147483648 ≤ w1 ∧ w1 ≤ 2147483647) (hw1 : xs 1 = zI w1) (hw2r : -2147483648 ≤ w2 ∧ w2 ≤ 2147483647) (hw2 : xs 2 = zI w2) (hw3r : -2147483648 ≤ w3 ∧ w3 ≤ 2147483647) (hw3 : xs 3 = zI w3) (hw4r : -2147483648 ≤ w4 ∧ w4 ≤ 2147483647) (hw4 : xs 4 = zI w4) (hw5r : -2147483648 ≤ w5 ∧ w5 ≤ 2147483647) (hw5 : xs 5 = zI w5) : zV p l e room_1 s m #[Value.ref b] below meth c (lw_Z below #[Value.ref b] s) D A 7 (952) ad g (952) (74291) 330 [(4, .int (zI (0))), (3, .ref (ad 951)), (2, .ref (ad 921)), (1, .ref (ad 0)), (0, .ref b)] [] := by
  have hay1 : zAt ad (0) (ad 0) := rfl
  have hay2 : zAt ad (921) (ad 921) := rfl
  have hay3 : zAt ad (951) (ad 951) := rfl
  refine z_aload_n C 3 dL_law_330 rfl ?_
  refine z_aload_n C 4 dL_law_331 rfl ?_
  refine z_iload C 0 dL_law_332 rfl ?_
  refine z_iconst (z := 1) C dL_law_334 rfl ?_
  refine z_iadd C dL_law_335 ?_
  refine z_sld C hX hbl hbA 1 (by decide) (by decide) (by decide) hw1 dL_law_336 ?_
  refine z_aload_n C 1 dL_law_337 rfl ?_
  refine z_cSW (As := [.ref (ad 0), .int (zI (w1)), .ref (ad 951)]) (rest := []) C (c_L_count l D A cs tt 952 ad _ 0 (by decide) hR hl0 951 (by decide) (by decide) _ hO w1 hw1r) mW_yL_count q_870 hd_yL_count (by decide) (Nat.le_of_ble_eq_true rfl) (by decide) dL_law_338 rfl (kI0 fun rk gx hx => ?_)
  obtain ⟨hx, fx⟩ := hx
  have hM9 : isM0 cs ad gx 921 := hM.mv (fun j _ _ => rfl) (fun j j1 j2 => fx j (by omega) (by omega))
  rcases hx with ⟨rfl, hc, qq, hq1, hq2⟩ | ⟨rfl, hc⟩
  · refine z_istore (lv' := [(5, .int (zI (0))), (4, .int (zI (0))), (3, .ref (ad 951)), (2, .ref (ad 921)), (1, .ref (ad 0)), (0, .ref b)]) C dL_law_341 (by decide) rfl ?_
    refine z_aload_n C 3 dL_law_343 rfl ?_
    refine z_aload_n C 5 dL_law_344 rfl ?_
    refine z_iload C 1 dL_law_345 rfl ?_
    refine z_iconst (z := 1) C dL_law_347 rfl ?_
    refine z_iadd C dL_law_348 ?_
    refine z_sld C hX hbl hbA 1 (by decide) (by decide) (by decide) hw1 dL_law_349 ?_
    refine z_cV (As := [.int (zI (w1))]) (rest := []) (ci := 12) C (c_X10_count l D A cs tt 952 ad _ 921 (by decide) hM9 w1 hw1r) (by decide) hay2 hM9.cell rfl rfl mv_yX10_count q_1729 hd_yX10_count (by decide) (Nat.le_of_ble_eq_true rfl) (by decide) dL_law_350 rfl (kI0 fun ry gy hy => ?_)
    obtain ⟨ey, ⟨⟨FF, hF, hFk⟩, fy⟩⟩ := hy
    rw [if_pos hc] at hFk
    have ey2 := ey hc
    have hrr : -1 ≤ ry ∧ ry ≤ 1 := by rw [ey2]; first | omega | (split <;> first | omega | (split <;> omega))
    refine z_istore (lv' := [(6, .int (zI (ry))), (5, .int (zI (0))), (4, .int (zI (0))), (3, .ref (ad 951)), (2, .ref (ad 921)), (1, .ref (ad 0)), (0, .ref b)]) C dL_law_353 (by decide) rfl ?_
    refine z_aload_n C 4 dL_law_355 rfl ?_
    refine z_cV (As := []) (rest := []) (ci := 12) C (c_X10_thrown l D A cs tt 952 ad _ 921 (by decide) _ hF) (by decide) hay2 hF rfl rfl mv_yX10_thrown q_1640 hd_yX10_thrown (by decide) (Nat.le_of_ble_eq_true rfl) (by decide) dL_law_356 rfl (kI0 fun rt gt ht => ?_)
    obtain ⟨et, rfl⟩ := ht
    rw [hFk] at et
    subst et
    refine z_iload C 1 dL_law_359 rfl ?_
    refine z_icmp_eq (tgt := 366) C dL_law_361 (by decide) (by omega) (by omega) (fun _ => ?_) (fun h => absurd h (by omega))
    refine z_iload C 1 dL_law_366 rfl ?_
    refine z_if_ne (tgt := 383) C dL_law_368 (by decide) (by omega) (fun h => absurd h (by omega)) (fun _ => ?_)
    refine z_aload_n C 3 dL_law_371 rfl ?_
    refine z_iconst (z := 0) C dL_law_372 rfl ?_
    have hgy4 := (fy (951) (by omega)).trans hq1
    refine z_lald C (by decide) hay3 hgy4 (0) (by decide) (by decide) (by decide) dL_law_373 ?_
    rw [show qq (0) = ry from hq2.trans ey2.symm]
    refine z_iload C 0 dL_law_374 rfl ?_
    refine z_i2l C dL_law_376 (by omega) ?_
    refine z_lcmp0 C dL_law_377 ?_
    refine z_if_eq (tgt := 383) C dL_law_378 (by decide) (by omega) (fun _ => ?_) (fun h => absurd h (by omega))
    refine z_goto (tgt := 1936) C dL_law_383 (by decide) ?_
    refine z_lv (lv' := [(4, .int (zI 0)), (0, .ref b)]) [2, 6] rfl ?_
    exact law_tail C hr hlk hA hX hbl hbA (Nat.le_of_ble_eq_true rfl) (Nat.le_of_ble_eq_true rfl)
  · refine z_istore (lv' := [(5, .int (zI (1))), (4, .int (zI (0))), (3, .ref (ad 951)), (2, .ref (ad 921)), (1, .ref (ad 0)), (0, .ref b)]) C dL_law_341 (by decide) rfl ?_
    refine z_aload_n C 3 dL_law_343 rfl ?_
    refine z_aload_n C 5 dL_law_344 rfl ?_
    refine z_iload C 1 dL_law_345 rfl ?_
    refine z_iconst (z := 1) C dL_law_347 rfl ?_
    refine z_iadd C dL_law_348 ?_
    refine z_sld C hX hbl hbA 1 (by decide) (by decide) (by decide) hw1 dL_law_349 ?_
    refine z_cV (As := [.int (zI (w1))]) (rest := []) (ci := 12) C (c_X10_count l D A cs tt 952 ad _ 921 (by decide) hM9 w1 hw1r) (by decide) hay2 hM9.cell rfl rfl mv_yX10_count q_1729 hd_yX10_count (by decide) (Nat.le_of_ble_eq_true rfl) (by decide) dL_law_350 rfl (kI0 fun ry gy hy => ?_)
    obtain ⟨ey, ⟨⟨FF, hF, hFk⟩, fy⟩⟩ := hy
    rw [if_neg hc] at hFk
    refine z_istore (lv' := [(6, .int (zI (ry))), (5, .int (zI (1))), (4, .int (zI (0))), (3, .ref (ad 951)), (2, .ref (ad 921)), (1, .ref (ad 0)), (0, .ref b)]) C dL_law_353 (by decide) rfl ?_
    refine z_aload_n C 4 dL_law_355 rfl ?_
    refine z_cV (As := []) (rest := []) (ci := 12) C (c_X10_thrown l D A cs tt 952 ad _ 921 (by decide) _ hF) (by decide) hay2 hF rfl rfl mv_yX10_thrown q_1640 hd_yX10_thrown (by decide) (Nat.le_of_ble_eq_true rfl) (by decide) dL_law_356 rfl (kI0 fun rt gt ht => ?_)
    obtain ⟨et, rfl⟩ := ht
    rw [hFk] at et
    subst et
    refine z_iload C 1 dL_law_359 rfl ?_
    refine z_icmp_eq (tgt := 366) C dL_law_361 (by decide) (by omega) (by omega) (fun _ => ?_) (fun h => absurd h (by omega))
    refine z_iload C 1 dL_law_366 rfl ?_
    refine z_if_ne (tgt := 383) C dL_law_368 (by decide) (by omega) (fun _ => ?_) (fun h => absurd h (by omega))
    refine z_goto (tgt := 1936) C dL_law_383 (by decide) ?_
    refine z_lv (lv' := [(4, .int (zI 0)), (0, .ref b)]) [2, 6] rfl ?_
    exact law_tail C hr hlk hA hX hbl hbA (Nat.le_of_ble_eq_true rfl) (Nat.le_of_ble_eq_true rfl)

set_option maxRecDepth 100000 in
set_option maxHeartbeats 4000000 in
theorem law_c26 {p : Program} {l : Launch} {e : Env} {s : State} {m : MethodId} {below : List Frame} {meth : Method} {c : Code} {D : va_G} {A : Nat → Prop} {cs : Nat → ClassId} {tt : Nat} {b : Nat} {xs : Nat → Int32} {ad : Nat → Nat} {g : Nat → va_E} (hl0 : l.stackTraces = false) (C : zC p s m #[Value.ref b] c cL_law 7 RL D A cs tt) (hr : meth.sig.returnType = ret) (hlk : meth.locks = false) (hA : ∀ q, A q → s.heap.size ≤ q) (hX : va_X b 6 xs s s.heap) (hbl : b < s.heap.size) (hbA : ¬ A b) (hR : isRec cs ad g 0) (hM : isM0 cs ad g 921) (hO : g 951 = jA cs 1 (fun _ => 0)) (w1 w2 w3 w4 w5 : Int) (hw1r : -2147483648 ≤ w1 ∧ w1 ≤ 2147483647) (hw1 : xs 1 = zI w1) (hw2r : -2147483648 ≤ w2 ∧ w2 ≤ 2147483647) (hw2 : xs 2 = zI w2) (hw3r : -2147483648 ≤ w3 ∧ w3 ≤ 2147483647) (hw3 : xs 3 = zI w3) (hw4r : -2147483648 ≤ w4 ∧ w4 ≤ 2147483647) (hw4 : xs 4 = zI w4) (hw5r : -2147483648 ≤ w5 ∧ w5 ≤ 2147483647) (hw5 : xs 5 = zI w5) : zV p l e room_1 s m #[Value.ref b] below meth c (lw_Z below #[Value.ref b] s) D A 7 (952) ad g (952) (74291) 1629 [(4, .int (zI (0))), (3, .ref (ad 951)), (2, .ref (ad 921)), (1, .ref (ad 0)), (0, .ref b)] [] := by
  have hay1 : zAt ad (0) (ad 0) := rfl
  have hay2 : zAt ad (921) (ad 921) := rfl
  have hay3 : zAt ad (951) (ad 951) := rfl
  refine z_aload_n C 3 dL_law_1629 rfl ?_
  refine z_aload_n C 4 dL_law_1630 rfl ?_
  refine z_iload C 0 dL_law_1631 rfl ?_
  refine z_iconst (z := 1) C dL_law_1633 rfl ?_
  refine z_iadd C dL_law_1634 ?_
  refine z_sld C hX hbl hbA 1 (by decide) (by decide) (by decide) hw1 dL_law_1635 ?_
  refine z_aload_n C 1 dL_law_1636 rfl ?_
  refine z_cSW (As := [.ref (ad 0), .int (zI (w1)), .ref (ad 951)]) (rest := []) C (c_L_falls l D A cs tt 952 ad _ 0 (by decide) hR hl0 951 (by decide) (by decide) _ hO w1 hw1r) mW_yL_falls q_1356 hd_yL_falls (by decide) (Nat.le_of_ble_eq_true rfl) (by decide) dL_law_1637 rfl (kI0 fun rk gx hx => ?_)
  obtain ⟨hx, fx⟩ := hx
  have hM9 : isM0 cs ad gx 921 := hM.mv (fun j _ _ => rfl) (fun j j1 j2 => fx j (by omega) (by omega))
  rcases hx with ⟨rfl, hc, qq, hq1, hq2⟩ | ⟨rfl, hc⟩
  · refine z_istore (lv' := [(5, .int (zI (0))), (4, .int (zI (0))), (3, .ref (ad 951)), (2, .ref (ad 921)), (1, .ref (ad 0)), (0, .ref b)]) C dL_law_1640 (by decide) rfl ?_
    refine z_aload_n C 3 dL_law_1642 rfl ?_
    refine z_aload_n C 5 dL_law_1643 rfl ?_
    refine z_iload C 1 dL_law_1644 rfl ?_
    refine z_iconst (z := 1) C dL_law_1646 rfl ?_
    refine z_iadd C dL_law_1647 ?_
    refine z_sld C hX hbl hbA 1 (by decide) (by decide) (by decide) hw1 dL_law_1648 ?_
    refine z_cV (As := [.int (zI (w1))]) (rest := []) (ci := 12) C (c_X10_falls l D A cs tt 952 ad _ 921 (by decide) hM9 w1 hw1r) (by decide) hay2 hM9.cell rfl rfl mv_yX10_falls q_2071 hd_yX10_falls (by decide) (Nat.le_of_ble_eq_true rfl) (by decide) dL_law_1649 rfl (kI0 fun ry gy hy => ?_)
    obtain ⟨ey, ⟨⟨FF, hF, hFk⟩, fy⟩⟩ := hy
    rw [if_pos hc] at hFk
    have ey2 := ey hc
    have hrr : -1 ≤ ry ∧ ry ≤ 1 := by rw [ey2]; first | omega | (split <;> first | omega | (split <;> omega))
    refine z_istore (lv' := [(6, .int (zI (ry))), (5, .int (zI (0))), (4, .int (zI (0))), (3, .ref (ad 951)), (2, .ref (ad 921)), (1, .ref (ad 0)), (0, .ref b)]) C dL_law_1652 (by decide) rfl ?_
    refine z_aload_n C 4 dL_law_1654 rfl ?_
    refine z_cV (As := []) (rest := []) (ci := 12) C (c_X10_thrown l D A cs tt 952 ad _ 921 (by decide) _ hF) (by decide) hay2 hF rfl rfl mv_yX10_thrown q_1640 hd_yX10_thrown (by decide) (Nat.le_of_ble_eq_true rfl) (by decide) dL_law_1655 rfl (kI0 fun rt gt ht => ?_)
    obtain ⟨et, rfl⟩ := ht
    rw [hFk] at et
    subst et
    refine z_iload C 1 dL_law_1658 rfl ?_
    refine z_icmp_eq (tgt := 1665) C dL_law_1660 (by decide) (by omega) (by omega) (fun _ => ?_) (fun h => absurd h (by omega))
    refine z_iload C 1 dL_law_1665 rfl ?_
    refine z_if_ne (tgt := 1682) C dL_law_1667 (by decide) (by omega) (fun h => absurd h (by omega)) (fun _ => ?_)
    refine z_aload_n C 3 dL_law_1670 rfl ?_
    refine z_iconst (z := 0) C dL_law_1671 rfl ?_
    have hgy4 := (fy (951) (by omega)).trans hq1
    refine z_lald C (by decide) hay3 hgy4 (0) (by decide) (by decide) (by decide) dL_law_1672 ?_
    rw [show qq (0) = ry from hq2.trans ey2.symm]
    refine z_iload C 0 dL_law_1673 rfl ?_
    refine z_i2l C dL_law_1675 (by omega) ?_
    refine z_lcmp0 C dL_law_1676 ?_
    refine z_if_eq (tgt := 1682) C dL_law_1677 (by decide) (by omega) (fun _ => ?_) (fun h => absurd h (by omega))
    refine z_goto (tgt := 1936) C dL_law_1682 (by decide) ?_
    refine z_lv (lv' := [(4, .int (zI 0)), (0, .ref b)]) [2, 6] rfl ?_
    exact law_tail C hr hlk hA hX hbl hbA (Nat.le_of_ble_eq_true rfl) (Nat.le_of_ble_eq_true rfl)
  · refine z_istore (lv' := [(5, .int (zI (1))), (4, .int (zI (0))), (3, .ref (ad 951)), (2, .ref (ad 921)), (1, .ref (ad 0)), (0, .ref b)]) C dL_law_1640 (by decide) rfl ?_
    refine z_aload_n C 3 dL_law_1642 rfl ?_
    refine z_aload_n C 5 dL_law_1643 rfl ?_
    refine z_iload C 1 dL_law_1644 rfl ?_
    refine z_iconst (z := 1) C dL_law_1646 rfl ?_
    refine z_iadd C dL_law_1647 ?_
    refine z_sld C hX hbl hbA 1 (by decide) (by decide) (by decide) hw1 dL_law_1648 ?_
    refine z_cV (As := [.int (zI (w1))]) (rest := []) (ci := 12) C (c_X10_falls l D A cs tt 952 ad _ 921 (by decide) hM9 w1 hw1r) (by decide) hay2 hM9.cell rfl rfl mv_yX10_falls q_2071 hd_yX10_falls (by decide) (Nat.le_of_ble_eq_true rfl) (by decide) dL_law_1649 rfl (kI0 fun ry gy hy => ?_)
    obtain ⟨ey, ⟨⟨FF, hF, hFk⟩, fy⟩⟩ := hy
    rw [if_neg hc] at hFk
    refine z_istore (lv' := [(6, .int (zI (ry))), (5, .int (zI (1))), (4, .int (zI (0))), (3, .ref (ad 951)), (2, .ref (ad 921)), (1, .ref (ad 0)), (0, .ref b)]) C dL_law_1652 (by decide) rfl ?_
    refine z_aload_n C 4 dL_law_1654 rfl ?_
    refine z_cV (As := []) (rest := []) (ci := 12) C (c_X10_thrown l D A cs tt 952 ad _ 921 (by decide) _ hF) (by decide) hay2 hF rfl rfl mv_yX10_thrown q_1640 hd_yX10_thrown (by decide) (Nat.le_of_ble_eq_true rfl) (by decide) dL_law_1655 rfl (kI0 fun rt gt ht => ?_)
    obtain ⟨et, rfl⟩ := ht
    rw [hFk] at et
    subst et
    refine z_iload C 1 dL_law_1658 rfl ?_
    refine z_icmp_eq (tgt := 1665) C dL_law_1660 (by decide) (by omega) (by omega) (fun _ => ?_) (fun h => absurd h (by omega))
    refine z_iload C 1 dL_law_1665 rfl ?_
    refine z_if_ne (tgt := 1682) C dL_law_1667 (by decide) (by omega) (fun _ => ?_) (fun h => absurd h (by omega))
    refine z_goto (tgt := 1936) C dL_law_1682 (by decide) ?_
    refine z_lv (lv' := [(4, .int (zI 0)), (0, .ref b)]) [2, 6] rfl ?_
    exact law_tail C hr hlk hA hX hbl hbA (Nat.le_of_ble_eq_true rfl) (Nat.le_of_ble_eq_true rfl)

set_option maxRecDepth 100000 in
set_option maxHeartbeats 4000000 in
theorem law_c27 {p : Program} {l : Launch} {e : Env} {s : State} {m : MethodId} {below : List Frame} {meth : Method} {c : Code} {D : va_G} {A : Nat → Prop} {cs : Nat → ClassId} {tt : Nat} {b : Nat} {xs : Nat → Int32} {ad : Nat → Nat} {g : Nat → va_E} (hl0 : l.stackTraces = false) (C : zC p s m #[Value.ref b] c cL_law 7 RL D A cs tt) (hr : meth.sig.returnType = ret) (hlk : meth.locks = false) (hA : ∀ q, A q → s.heap.size ≤ q) (hX : va_X b 6 xs s s.heap) (hbl : b < s.heap.size) (hbA : ¬ A b) (hR : isRec cs ad g 0) (hM : isM0 cs ad g 921) (hO : g 951 = jA cs 1 (fun _ => 0)) (w1 w2 w3 w4 w5 : Int) (hw1r : -2147483648 ≤ w1 ∧ w1 ≤ 2147483647) (hw1 : xs 1 = zI w1) (hw2r : -2147483648 ≤ w2 ∧ w2 ≤ 2147483647) (hw2 : xs 2 = zI w2) (hw3r : -2147483648 ≤ w3 ∧ w3 ≤ 2147483647) (hw3 : xs 3 = zI w3) (hw4r : -2147483648 ≤ w4 ∧ w4 ≤ 2147483647) (hw4 : xs 4 = zI w4) (hw5r : -2147483648 ≤ w5 ∧ w5 ≤ 2147483647) (hw5 : xs 5 = zI w5) : zV p l e room_1 s m #[Value.ref b] below meth c (lw_Z below #[Value.ref b] s) D A 7 (952) ad g (952) (74291) 1685 [(4, .int (zI (0))), (3, .ref (ad 951)), (2, .ref (ad 921)), (1, .ref (ad 0)), (0, .ref b)] [] := by
  have hay1 : zAt ad (0) (ad 0) := rfl
  have hay2 : zAt ad (921) (ad 921) := rfl
  have hay3 : zAt ad (951) (ad 951) := rfl
  refine z_aload_n C 3 dL_law_1685 rfl ?_
  refine z_aload_n C 4 dL_law_1686 rfl ?_
  refine z_iload C 0 dL_law_1687 rfl ?_
  refine z_iconst (z := 1) C dL_law_1689 rfl ?_
  refine z_iadd C dL_law_1690 ?_
  refine z_sld C hX hbl hbA 1 (by decide) (by decide) (by decide) hw1 dL_law_1691 ?_
  refine z_aload_n C 1 dL_law_1692 rfl ?_
  refine z_cSW (As := [.ref (ad 0), .int (zI (w1)), .ref (ad 951)]) (rest := []) C (c_L_look l D A cs tt 952 ad _ 0 (by decide) hR hl0 951 (by decide) (by decide) _ hO w1 hw1r) mW_yL_look q_1401 hd_yL_look (by decide) (Nat.le_of_ble_eq_true rfl) (by decide) dL_law_1693 rfl (kI0 fun rk gx hx => ?_)
  obtain ⟨hx, fx⟩ := hx
  have hM9 : isM0 cs ad gx 921 := hM.mv (fun j _ _ => rfl) (fun j j1 j2 => fx j (by omega) (by omega))
  rcases hx with ⟨rfl, hc, qq, hq1, hq2⟩ | ⟨rfl, hc⟩
  · refine z_istore (lv' := [(5, .int (zI (0))), (4, .int (zI (0))), (3, .ref (ad 951)), (2, .ref (ad 921)), (1, .ref (ad 0)), (0, .ref b)]) C dL_law_1696 (by decide) rfl ?_
    refine z_aload_n C 3 dL_law_1698 rfl ?_
    refine z_aload_n C 5 dL_law_1699 rfl ?_
    refine z_iload C 1 dL_law_1700 rfl ?_
    refine z_iconst (z := 1) C dL_law_1702 rfl ?_
    refine z_iadd C dL_law_1703 ?_
    refine z_sld C hX hbl hbA 1 (by decide) (by decide) (by decide) hw1 dL_law_1704 ?_
    refine z_cV (As := [.int (zI (w1))]) (rest := []) (ci := 12) C (c_X10_look l D A cs tt 952 ad _ 921 (by decide) hM9 w1 hw1r) (by decide) hay2 hM9.cell rfl rfl mv_yX10_look q_2083 hd_yX10_look (by decide) (Nat.le_of_ble_eq_true rfl) (by decide) dL_law_1705 rfl (kI0 fun ry gy hy => ?_)
    obtain ⟨ey, ⟨⟨FF, hF, hFk⟩, fy⟩⟩ := hy
    rw [if_pos hc] at hFk
    have ey2 := ey hc
    have hrr : -1 ≤ ry ∧ ry ≤ 1 := by rw [ey2]; first | omega | (split <;> first | omega | (split <;> omega))
    refine z_istore (lv' := [(6, .int (zI (ry))), (5, .int (zI (0))), (4, .int (zI (0))), (3, .ref (ad 951)), (2, .ref (ad 921)), (1, .ref (ad 0)), (0, .ref b)]) C dL_law_1708 (by decide) rfl ?_
    refine z_aload_n C 4 dL_law_1710 rfl ?_
    refine z_cV (As := []) (rest := []) (ci := 12) C (c_X10_thrown l D A cs tt 952 ad _ 921 (by decide) _ hF) (by decide) hay2 hF rfl rfl mv_yX10_thrown q_1640 hd_yX10_thrown (by decide) (Nat.le_of_ble_eq_true rfl) (by decide) dL_law_1711 rfl (kI0 fun rt gt ht => ?_)
    obtain ⟨et, rfl⟩ := ht
    rw [hFk] at et
    subst et
    refine z_iload C 1 dL_law_1714 rfl ?_
    refine z_icmp_eq (tgt := 1721) C dL_law_1716 (by decide) (by omega) (by omega) (fun _ => ?_) (fun h => absurd h (by omega))
    refine z_iload C 1 dL_law_1721 rfl ?_
    refine z_if_ne (tgt := 1738) C dL_law_1723 (by decide) (by omega) (fun h => absurd h (by omega)) (fun _ => ?_)
    refine z_aload_n C 3 dL_law_1726 rfl ?_
    refine z_iconst (z := 0) C dL_law_1727 rfl ?_
    have hgy4 := (fy (951) (by omega)).trans hq1
    refine z_lald C (by decide) hay3 hgy4 (0) (by decide) (by decide) (by decide) dL_law_1728 ?_
    rw [show qq (0) = ry from hq2.trans ey2.symm]
    refine z_iload C 0 dL_law_1729 rfl ?_
    refine z_i2l C dL_law_1731 (by omega) ?_
    refine z_lcmp0 C dL_law_1732 ?_
    refine z_if_eq (tgt := 1738) C dL_law_1733 (by decide) (by omega) (fun _ => ?_) (fun h => absurd h (by omega))
    refine z_goto (tgt := 1936) C dL_law_1738 (by decide) ?_
    refine z_lv (lv' := [(4, .int (zI 0)), (0, .ref b)]) [2, 6] rfl ?_
    exact law_tail C hr hlk hA hX hbl hbA (Nat.le_of_ble_eq_true rfl) (Nat.le_of_ble_eq_true rfl)
  · refine z_istore (lv' := [(5, .int (zI (1))), (4, .int (zI (0))), (3, .ref (ad 951)), (2, .ref (ad 921)), (1, .ref (ad 0)), (0, .ref b)]) C dL_law_1696 (by decide) rfl ?_
    refine z_aload_n C 3 dL_law_1698 rfl ?_
    refine z_aload_n C 5 dL_law_1699 rfl ?_
    refine z_iload C 1 dL_law_1700 rfl ?_
    refine z_iconst (z := 1) C dL_law_1702 rfl ?_
    refine z_iadd C dL_law_1703 ?_
    refine z_sld C hX hbl hbA 1 (by decide) (by decide) (by decide) hw1 dL_law_1704 ?_
    refine z_cV (As := [.int (zI (w1))]) (rest := []) (ci := 12) C (c_X10_look l D A cs tt 952 ad _ 921 (by decide) hM9 w1 hw1r) (by decide) hay2 hM9.cell rfl rfl mv_yX10_look q_2083 hd_yX10_look (by decide) (Nat.le_of_ble_eq_true rfl) (by decide) dL_law_1705 rfl (kI0 fun ry gy hy => ?_)
    obtain ⟨ey, ⟨⟨FF, hF, hFk⟩, fy⟩⟩ := hy
    rw [if_neg hc] at hFk
    refine z_istore (lv' := [(6, .int (zI (ry))), (5, .int (zI (1))), (4, .int (zI (0))), (3, .ref (ad 951)), (2, .ref (ad 921)), (1, .ref (ad 0)), (0, .ref b)]) C dL_law_1708 (by decide) rfl ?_
    refine z_aload_n C 4 dL_law_1710 rfl ?_
    refine z_cV (As := []) (rest := []) (ci := 12) C (c_X10_thrown l D A cs tt 952 ad _ 921 (by decide) _ hF) (by decide) hay2 hF rfl rfl mv_yX10_thrown q_1640 hd_yX10_thrown (by decide) (Nat.le_of_ble_eq_true rfl) (by decide) dL_law_1711 rfl (kI0 fun rt gt ht => ?_)
    obtain ⟨et, rfl⟩ := ht
    rw [hFk] at et
    subst et
    refine z_iload C 1 dL_law_1714 rfl ?_
    refine z_icmp_eq (tgt := 1721) C dL_law_1716 (by decide) (by omega) (by omega) (fun _ => ?_) (fun h => absurd h (by omega))
    refine z_iload C 1 dL_law_1721 rfl ?_
    refine z_if_ne (tgt := 1738) C dL_law_1723 (by decide) (by omega) (fun _ => ?_) (fun h => absurd h (by omega))
    refine z_goto (tgt := 1936) C dL_law_1738 (by decide) ?_
    refine z_lv (lv' := [(4, .int (zI 0)), (0, .ref b)]) [2, 6] rfl ?_
    exact law_tail C hr hlk hA hX hbl hbA (Nat.le_of_ble_eq_true rfl) (Nat.le_of_ble_eq_true rfl)

set_option maxRecDepth 100000 in
set_option maxHeartbeats 4000000 in
theorem law_c30 {p : Program} {l : Launch} {e : Env} {s : State} {m : MethodId} {below : List Frame} {meth : Method} {c : Code} {D : va_G} {A : Nat → Prop} {cs : Nat → ClassId} {tt : Nat} {b : Nat} {xs : Nat → Int32} {ad : Nat → Nat} {g : Nat → va_E} (hl0 : l.stackTraces = false) (C : zC p s m #[Value.ref b] c cL_law 7 RL D A cs tt) (hr : meth.sig.returnType = ret) (hlk : meth.locks = false) (hA : ∀ q, A q → s.heap.size ≤ q) (hX : va_X b 6 xs s s.heap) (hbl : b < s.heap.size) (hbA : ¬ A b) (hR : isRec cs ad g 0) (hM : isM0 cs ad g 921) (hO : g 951 = jA cs 1 (fun _ => 0)) (w1 w2 w3 w4 w5 : Int) (hw1r : -2147483648 ≤ w1 ∧ w1 ≤ 2147483647) (hw1 : xs 1 = zI w1) (hw2r : -2147483648 ≤ w2 ∧ w2 ≤ 2147483647) (hw2 : xs 2 = zI w2) (hw3r : -2147483648 ≤ w3 ∧ w3 ≤ 2147483647) (hw3 : xs 3 = zI w3) (hw4r : -2147483648 ≤ w4 ∧ w4 ≤ 2147483647) (hw4 : xs 4 = zI w4) (hw5r : -2147483648 ≤ w5 ∧ w5 ≤ 2147483647) (hw5 : xs 5 = zI w5) : zV p l e room_1 s m #[Value.ref b] below meth c (lw_Z below #[Value.ref b] s) D A 7 (952) ad g (952) (74291) 1832 [(4, .int (zI (0))), (3, .ref (ad 951)), (2, .ref (ad 921)), (1, .ref (ad 0)), (0, .ref b)] [] := by
  have hay1 : zAt ad (0) (ad 0) := rfl
  have hay2 : zAt ad (921) (ad 921) := rfl
  have hay3 : zAt ad (951) (ad 951) := rfl
  refine z_aload_n C 3 dL_law_1832 rfl ?_
  refine z_aload_n C 4 dL_law_1833 rfl ?_
  refine z_iload C 0 dL_law_1834 rfl ?_
  refine z_iconst (z := 1) C dL_law_1836 rfl ?_
  refine z_iadd C dL_law_1837 ?_
  refine z_sld C hX hbl hbA 1 (by decide) (by decide) (by decide) hw1 dL_law_1838 ?_
  refine z_aload_n C 4 dL_law_1839 rfl ?_
  refine z_iload C 0 dL_law_1840 rfl ?_
  refine z_iconst (z := 2) C dL_law_1842 rfl ?_
  refine z_iadd C dL_law_1843 ?_
  refine z_sld C hX hbl hbA 2 (by decide) (by decide) (by decide) hw2 dL_law_1844 ?_
  refine z_aload_n C 4 dL_law_1845 rfl ?_
  refine z_iload C 0 dL_law_1846 rfl ?_
  refine z_iconst (z := 3) C dL_law_1848 rfl ?_
  refine z_iadd C dL_law_1849 ?_
  refine z_sld C hX hbl hbA 3 (by decide) (by decide) (by decide) hw3 dL_law_1850 ?_
  refine z_aload_n C 1 dL_law_1851 rfl ?_
  refine z_cSW (As := [.ref (ad 0), .int (zI (w1)), .int (zI (w2)), .int (zI (w3)), .ref (ad 951)]) (rest := []) C (c_L_years l D A cs tt 952 ad _ 0 (by decide) hR hl0 951 (by decide) (by decide) _ hO w1 w2 w3 hw1r hw2r hw3r) mW_yL_years q_1425 hd_yL_years (by decide) (Nat.le_of_ble_eq_true rfl) (by decide) dL_law_1852 rfl (kI0 fun rk gx hx => ?_)
  obtain ⟨hx, fx⟩ := hx
  have hM9 : isM0 cs ad gx 921 := hM.mv (fun j _ _ => rfl) (fun j j1 j2 => fx j (by omega) (by omega))
  rcases hx with ⟨rfl, hc, qq, hq1, hq2⟩ | ⟨rfl, hc⟩ | ⟨rfl, hc, hd9⟩
  · refine z_istore (lv' := [(5, .int (zI (0))), (4, .int (zI (0))), (3, .ref (ad 951)), (2, .ref (ad 921)), (1, .ref (ad 0)), (0, .ref b)]) C dL_law_1855 (by decide) rfl ?_
    refine z_aload_n C 3 dL_law_1857 rfl ?_
    refine z_aload_n C 5 dL_law_1858 rfl ?_
    refine z_iload C 1 dL_law_1859 rfl ?_
    refine z_iconst (z := 1) C dL_law_1861 rfl ?_
    refine z_iadd C dL_law_1862 ?_
    refine z_sld C hX hbl hbA 1 (by decide) (by decide) (by decide) hw1 dL_law_1863 ?_
    refine z_aload_n C 5 dL_law_1864 rfl ?_
    refine z_iload C 1 dL_law_1865 rfl ?_
    refine z_iconst (z := 2) C dL_law_1867 rfl ?_
    refine z_iadd C dL_law_1868 ?_
    refine z_sld C hX hbl hbA 2 (by decide) (by decide) (by decide) hw2 dL_law_1869 ?_
    refine z_aload_n C 5 dL_law_1870 rfl ?_
    refine z_iload C 1 dL_law_1871 rfl ?_
    refine z_iconst (z := 3) C dL_law_1873 rfl ?_
    refine z_iadd C dL_law_1874 ?_
    refine z_sld C hX hbl hbA 3 (by decide) (by decide) (by decide) hw3 dL_law_1875 ?_
    refine z_cV (As := [.int (zI (w1)), .int (zI (w2)), .int (zI (w3))]) (rest := []) (ci := 12) C (c_X10_years l D A cs tt 952 ad _ 921 (by decide) hM9 w1 w2 w3 hw1r hw2r hw3r) (by decide) hay2 hM9.cell rfl rfl mv_yX10_years q_2099 hd_yX10_years (by decide) (Nat.le_of_ble_eq_true rfl) (by decide) dL_law_1876 rfl (kI0 fun ry gy hy => ?_)
    obtain ⟨ey, ⟨⟨FF, hF, hFk⟩, fy⟩⟩ := hy
    rw [if_pos hc.1, if_pos hc.2] at hFk
    have ey2 := ey hc
    have hrr : -1 ≤ ry ∧ ry ≤ 1 := by rw [ey2]; first | omega | (split <;> first | omega | (split <;> omega))
    refine z_istore (lv' := [(6, .int (zI (ry))), (5, .int (zI (0))), (4, .int (zI (0))), (3, .ref (ad 951)), (2, .ref (ad 921)), (1, .ref (ad 0)), (0, .ref b)]) C dL_law_1879 (by decide) rfl ?_
    refine z_aload_n C 4 dL_law_1881 rfl ?_
    refine z_cV (As := []) (rest := []) (ci := 12) C (c_X10_thrown l D A cs tt 952 ad _ 921 (by decide) _ hF) (by decide) hay2 hF rfl rfl mv_yX10_thrown q_1640 hd_yX10_thrown (by decide) (Nat.le_of_ble_eq_true rfl) (by decide) dL_law_1882 rfl (kI0 fun rt gt ht => ?_)
    obtain ⟨et, rfl⟩ := ht
    rw [hFk] at et
    subst et
    refine z_iload C 1 dL_law_1885 rfl ?_
    refine z_icmp_eq (tgt := 1892) C dL_law_1887 (by decide) (by omega) (by omega) (fun _ => ?_) (fun h => absurd h (by omega))
    refine z_iload C 1 dL_law_1892 rfl ?_
    refine z_if_ne (tgt := 1909) C dL_law_1894 (by decide) (by omega) (fun h => absurd h (by omega)) (fun _ => ?_)
    refine z_aload_n C 3 dL_law_1897 rfl ?_
    refine z_iconst (z := 0) C dL_law_1898 rfl ?_
    have hgy4 := (fy (951) (by omega)).trans hq1
    refine z_lald C (by decide) hay3 hgy4 (0) (by decide) (by decide) (by decide) dL_law_1899 ?_
    rw [show qq (0) = ry from hq2.trans ey2.symm]
    refine z_iload C 0 dL_law_1900 rfl ?_
    refine z_i2l C dL_law_1902 (by omega) ?_
    refine z_lcmp0 C dL_law_1903 ?_
    refine z_if_eq (tgt := 1909) C dL_law_1904 (by decide) (by omega) (fun _ => ?_) (fun h => absurd h (by omega))
    refine z_goto (tgt := 1936) C dL_law_1909 (by decide) ?_
    refine z_lv (lv' := [(4, .int (zI 0)), (0, .ref b)]) [2, 6] rfl ?_
    exact law_tail C hr hlk hA hX hbl hbA (Nat.le_of_ble_eq_true rfl) (Nat.le_of_ble_eq_true rfl)
  · refine z_istore (lv' := [(5, .int (zI (1))), (4, .int (zI (0))), (3, .ref (ad 951)), (2, .ref (ad 921)), (1, .ref (ad 0)), (0, .ref b)]) C dL_law_1855 (by decide) rfl ?_
    refine z_aload_n C 3 dL_law_1857 rfl ?_
    refine z_aload_n C 5 dL_law_1858 rfl ?_
    refine z_iload C 1 dL_law_1859 rfl ?_
    refine z_iconst (z := 1) C dL_law_1861 rfl ?_
    refine z_iadd C dL_law_1862 ?_
    refine z_sld C hX hbl hbA 1 (by decide) (by decide) (by decide) hw1 dL_law_1863 ?_
    refine z_aload_n C 5 dL_law_1864 rfl ?_
    refine z_iload C 1 dL_law_1865 rfl ?_
    refine z_iconst (z := 2) C dL_law_1867 rfl ?_
    refine z_iadd C dL_law_1868 ?_
    refine z_sld C hX hbl hbA 2 (by decide) (by decide) (by decide) hw2 dL_law_1869 ?_
    refine z_aload_n C 5 dL_law_1870 rfl ?_
    refine z_iload C 1 dL_law_1871 rfl ?_
    refine z_iconst (z := 3) C dL_law_1873 rfl ?_
    refine z_iadd C dL_law_1874 ?_
    refine z_sld C hX hbl hbA 3 (by decide) (by decide) (by decide) hw3 dL_law_1875 ?_
    refine z_cV (As := [.int (zI (w1)), .int (zI (w2)), .int (zI (w3))]) (rest := []) (ci := 12) C (c_X10_years l D A cs tt 952 ad _ 921 (by decide) hM9 w1 w2 w3 hw1r hw2r hw3r) (by decide) hay2 hM9.cell rfl rfl mv_yX10_years q_2099 hd_yX10_years (by decide) (Nat.le_of_ble_eq_true rfl) (by decide) dL_law_1876 rfl (kI0 fun ry gy hy => ?_)
    obtain ⟨ey, ⟨⟨FF, hF, hFk⟩, fy⟩⟩ := hy
    rw [if_neg hc] at hFk
    refine z_istore (lv' := [(6, .int (zI (ry))), (5, .int (zI (1))), (4, .int (zI (0))), (3, .ref (ad 951)), (2, .ref (ad 921)), (1, .ref (ad 0)), (0, .ref b)]) C dL_law_1879 (by decide) rfl ?_
    refine z_aload_n C 4 dL_law_1881 rfl ?_
    refine z_cV (As := []) (rest := []) (ci := 12) C (c_X10_thrown l D A cs tt 952 ad _ 921 (by decide) _ hF) (by decide) hay2 hF rfl rfl mv_yX10_thrown q_1640 hd_yX10_thrown (by decide) (Nat.le_of_ble_eq_true rfl) (by decide) dL_law_1882 rfl (kI0 fun rt gt ht => ?_)
    obtain ⟨et, rfl⟩ := ht
    rw [hFk] at et
    subst et
    refine z_iload C 1 dL_law_1885 rfl ?_
    refine z_icmp_eq (tgt := 1892) C dL_law_1887 (by decide) (by omega) (by omega) (fun _ => ?_) (fun h => absurd h (by omega))
    refine z_iload C 1 dL_law_1892 rfl ?_
    refine z_if_ne (tgt := 1909) C dL_law_1894 (by decide) (by omega) (fun _ => ?_) (fun h => absurd h (by omega))
    refine z_goto (tgt := 1936) C dL_law_1909 (by decide) ?_
    refine z_lv (lv' := [(4, .int (zI 0)), (0, .ref b)]) [2, 6] rfl ?_
    exact law_tail C hr hlk hA hX hbl hbA (Nat.le_of_ble_eq_true rfl) (Nat.le_of_ble_eq_true rfl)
  · refine z_istore (lv' := [(5, .int (zI (2))), (4, .int (zI (0))), (3, .ref (ad 951)), (2, .ref (ad 921)), (1, .ref (ad 0)), (0, .ref b)]) C dL_law_1855 (by decide) rfl ?_
    refine z_aload_n C 3 dL_law_1857 rfl ?_
    refine z_aload_n C 5 dL_law_1858 rfl ?_
    refine z_iload C 1 dL_law_1859 rfl ?_
    refine z_iconst (z := 1) C dL_law_1861 rfl ?_
    refine z_iadd C dL_law_1862 ?_
    refine z_sld C hX hbl hbA 1 (by decide) (by decide) (by decide) hw1 dL_law_1863 ?_
    refine z_aload_n C 5 dL_law_1864 rfl ?_
    refine z_iload C 1 dL_law_1865 rfl ?_
    refine z_iconst (z := 2) C dL_law_1867 rfl ?_
    refine z_iadd C dL_law_1868 ?_
    refine z_sld C hX hbl hbA 2 (by decide) (by decide) (by decide) hw2 dL_law_1869 ?_
    refine z_aload_n C 5 dL_law_1870 rfl ?_
    refine z_iload C 1 dL_law_1871 rfl ?_
    refine z_iconst (z := 3) C dL_law_1873 rfl ?_
    refine z_iadd C dL_law_1874 ?_
    refine z_sld C hX hbl hbA 3 (by decide) (by decide) (by decide) hw3 dL_law_1875 ?_
    refine z_cV (As := [.int (zI (w1)), .int (zI (w2)), .int (zI (w3))]) (rest := []) (ci := 12) C (c_X10_years l D A cs tt 952 ad _ 921 (by decide) hM9 w1 w2 w3 hw1r hw2r hw3r) (by decide) hay2 hM9.cell rfl rfl mv_yX10_years q_2099 hd_yX10_years (by decide) (Nat.le_of_ble_eq_true rfl) (by decide) dL_law_1876 rfl (kI0 fun ry gy hy => ?_)
    obtain ⟨ey, ⟨⟨FF, hF, hFk⟩, fy⟩⟩ := hy
    rw [if_pos hc, if_neg hd9] at hFk
    refine z_istore (lv' := [(6, .int (zI (ry))), (5, .int (zI (2))), (4, .int (zI (0))), (3, .ref (ad 951)), (2, .ref (ad 921)), (1, .ref (ad 0)), (0, .ref b)]) C dL_law_1879 (by decide) rfl ?_
    refine z_aload_n C 4 dL_law_1881 rfl ?_
    refine z_cV (As := []) (rest := []) (ci := 12) C (c_X10_thrown l D A cs tt 952 ad _ 921 (by decide) _ hF) (by decide) hay2 hF rfl rfl mv_yX10_thrown q_1640 hd_yX10_thrown (by decide) (Nat.le_of_ble_eq_true rfl) (by decide) dL_law_1882 rfl (kI0 fun rt gt ht => ?_)
    obtain ⟨et, rfl⟩ := ht
    rw [hFk] at et
    subst et
    refine z_iload C 1 dL_law_1885 rfl ?_
    refine z_icmp_eq (tgt := 1892) C dL_law_1887 (by decide) (by omega) (by omega) (fun _ => ?_) (fun h => absurd h (by omega))
    refine z_iload C 1 dL_law_1892 rfl ?_
    refine z_if_ne (tgt := 1909) C dL_law_1894 (by decide) (by omega) (fun _ => ?_) (fun h => absurd h (by omega))
    refine z_goto (tgt := 1936) C dL_law_1909 (by decide) ?_
    refine z_lv (lv' := [(4, .int (zI 0)), (0, .ref b)]) [2, 6] rfl ?_
    exact law_tail C hr hlk hA hX hbl hbA (Nat.le_of_ble_eq_true rfl) (Nat.le_of_ble_eq_true rfl)

set_option maxRecDepth 100000 in
set_option maxHeartbeats 4000000 in
theorem law_body {p : Program} {l : Launch} {e : Env} {s : State} {m : MethodId} {below : List Frame} {meth : Method} {c : Code} {D : va_G} {A : Nat → Prop} {cs : Nat → ClassId} {tt : Nat} {b : Nat} {xs : Nat → Int32} {ad : Nat → Nat} {g : Nat → va_E} (hl0 : l.stackTraces = false) (C : zC p s m #[Value.ref b] c cL_law 7 RL D A cs tt) (hr : meth.sig.returnType = ret) (hlk : meth.locks = false) (hA : ∀ q, A q → s.heap.size ≤ q) (hX : va_X b 6 xs s s.heap) (hbl : b < s.heap.size) (hbA : ¬ A b) (hR : isRec cs ad g 0) (hM : isM0 cs ad g 921) (hO : g 951 = jA cs 1 (fun _ => 0)) (w1 w2 w3 w4 w5 : Int) (hw1r : -2147483648 ≤ w1 ∧ w1 ≤ 2147483647) (hw1 : xs 1 = zI w1) (hw2r : -2147483648 ≤ w2 ∧ w2 ≤ 2147483647) (hw2 : xs 2 = zI w2) (hw3r : -2147483648 ≤ w3 ∧ w3 ≤ 2147483647) (hw3 : xs 3 = zI w3) (hw4r : -2147483648 ≤ w4 ∧ w4 ≤ 2147483647) (hw4 : xs 4 = zI w4) (hw5r : -2147483648 ≤ w5 ∧ w5 ≤ 2147483647) (hw5 : xs 5 = zI w5) (w0 : Int) (hw0 : xs 0 = zI w0) : zV p l e room_1 s m #[Value.ref b] below meth c (lw_Z below #[Value.ref b] s) D A 7 (952) ad g (952) (74291) 23 [(4, .int (zI (0))), (3, .ref (ad 951)), (2, .ref (ad 921)), (1, .ref (ad 0)), (0, .ref b)] [] := by
  refine z_iload C 0 dL_law_23 rfl ?_
  refine z_aload_n C 4 dL_law_25 rfl ?_
  refine z_slen C hX hbl hbA dL_law_26 ?_
  refine z_bipush (z := 6) C dL_law_27 (by decide) ?_
  refine z_isub C dL_law_29 ?_
  refine z_icmp_gt (tgt := 1942) C dL_law_30 (by decide) (by omega) (by omega) (fun h => absurd h (by omega)) (fun _ => ?_)
  refine z_aload_n C 4 dL_law_33 rfl ?_
  refine z_iload C 0 dL_law_34 rfl ?_
  refine z_sld C hX hbl hbA 0 (by decide) (by decide) (by decide) hw0 dL_law_36 ?_
  refine z_bipush (z := 63) C dL_law_37 (by decide) ?_
  obtain ⟨y, ey, hy⟩ := zI_and (zI w0) (m := zI 63) 6 (by decide)
  refine z_iand (z := y) C dL_law_39 ey ?_
  by_cases hsw : y < 0 ∨ 32 < y
  · refine z_tout (tgt := 1936) C dL_law_40 (by omega) hsw (by decide) ?_
    refine z_lv (lv' := [(4, .int (zI 0)), (0, .ref b)]) [0, 4] rfl ?_
    exact law_tail C hr hlk hA hX hbl hbA (Nat.le_of_ble_eq_true rfl) (Nat.le_of_ble_eq_true rfl)
  · rcases (show y = 0 ∨ y = 1 ∨ y = 2 ∨ y = 3 ∨ y = 4 ∨ y = 5 ∨ y = 6 ∨ y = 7 ∨ y = 8 ∨ y = 9 ∨ y = 10 ∨ y = 11 ∨ y = 12 ∨ y = 13 ∨ y = 14 ∨ y = 15 ∨ y = 16 ∨ y = 17 ∨ y = 18 ∨ y = 19 ∨ y = 20 ∨ y = 21 ∨ y = 22 ∨ y = 23 ∨ y = 24 ∨ y = 25 ∨ y = 26 ∨ y = 27 ∨ y = 28 ∨ y = 29 ∨ y = 30 ∨ y = 31 ∨ y = 32 by omega) with rfl | rfl | rfl | rfl | rfl | rfl | rfl | rfl | rfl | rfl | rfl | rfl | rfl | rfl | rfl | rfl | rfl | rfl | rfl | rfl | rfl | rfl | rfl | rfl | rfl | rfl | rfl | rfl | rfl | rfl | rfl | rfl | rfl
    · refine z_tin (off := 148) (tgt := 188) C dL_law_40 (by omega) (by omega) (by omega) rfl (by decide) ?_
      exact law_c0 hl0 C hr hlk hA hX hbl hbA hR hM hO w1 w2 w3 w4 w5 hw1r hw1 hw2r hw2 hw3r hw3 hw4r hw4 hw5r hw5
    · refine z_tin (off := 221) (tgt := 261) C dL_law_40 (by omega) (by omega) (by omega) rfl (by decide) ?_
      exact law_c1 hl0 C hr hlk hA hX hbl hbA hR hM hO w1 w2 w3 w4 w5 hw1r hw1 hw2r hw2 hw3r hw3 hw4r hw4 hw5r hw5
    · refine z_tin (off := 277) (tgt := 317) C dL_law_40 (by omega) (by omega) (by omega) rfl (by decide) ?_
      exact law_c2 hl0 C hr hlk hA hX hbl hbA hR hM hO w1 w2 w3 w4 w5 hw1r hw1 hw2r hw2 hw3r hw3 hw4r hw4 hw5r hw5
    · refine z_tin (off := 290) (tgt := 330) C dL_law_40 (by omega) (by omega) (by omega) rfl (by decide) ?_
      exact law_c3 hl0 C hr hlk hA hX hbl hbA hR hM hO w1 w2 w3 w4 w5 hw1r hw1 hw2r hw2 hw3r hw3 hw4r hw4 hw5r hw5
    · refine z_tin (off := 346) (tgt := 386) C dL_law_40 (by omega) (by omega) (by omega) rfl (by decide) ?_
      exact law_c4 hl0 C hr hlk hA hX hbl hbA hR hM hO w1 w2 w3 w4 w5 hw1r hw1 hw2r hw2 hw3r hw3 hw4r hw4 hw5r hw5
    · refine z_tin (off := 414) (tgt := 454) C dL_law_40 (by omega) (by omega) (by omega) rfl (by decide) ?_
      exact law_c5 hl0 C hr hlk hA hX hbl hbA hR hM hO w1 w2 w3 w4 w5 hw1r hw1 hw2r hw2 hw3r hw3 hw4r hw4 hw5r hw5
    · refine z_tin (off := 482) (tgt := 522) C dL_law_40 (by omega) (by omega) (by omega) rfl (by decide) ?_
      exact law_c6 hl0 C hr hlk hA hX hbl hbA hR hM hO w1 w2 w3 w4 w5 hw1r hw1 hw2r hw2 hw3r hw3 hw4r hw4 hw5r hw5
    · refine z_tin (off := 562) (tgt := 602) C dL_law_40 (by omega) (by omega) (by omega) rfl (by decide) ?_
      exact law_c7 hl0 C hr hlk hA hX hbl hbA hR hM hO w1 w2 w3 w4 w5 hw1r hw1 hw2r hw2 hw3r hw3 hw4r hw4 hw5r hw5
    · refine z_tin (off := 642) (tgt := 682) C dL_law_40 (by omega) (by omega) (by omega) rfl (by decide) ?_
      exact law_c8 hl0 C hr hlk hA hX hbl hbA hR hM hO w1 w2 w3 w4 w5 hw1r hw1 hw2r hw2 hw3r hw3 hw4r hw4 hw5r hw5
    · refine z_tin (off := 667) (tgt := 707) C dL_law_40 (by omega) (by omega) (by omega) rfl (by decide) ?_
      exact law_c9 hl0 C hr hlk hA hX hbl hbA hR hM hO w1 w2 w3 w4 w5 hw1r hw1 hw2r hw2 hw3r hw3 hw4r hw4 hw5r hw5
    · refine z_tin (off := 716) (tgt := 756) C dL_law_40 (by omega) (by omega) (by omega) rfl (by decide) ?_
      exact law_c10 hl0 C hr hlk hA hX hbl hbA hR hM hO w1 w2 w3 w4 w5 hw1r hw1 hw2r hw2 hw3r hw3 hw4r hw4 hw5r hw5
    · refine z_tin (off := 741) (tgt := 781) C dL_law_40 (by omega) (by omega) (by omega) rfl (by decide) ?_
      exact law_c11 hl0 C hr hlk hA hX hbl hbA hR hM hO w1 w2 w3 w4 w5 hw1r hw1 hw2r hw2 hw3r hw3 hw4r hw4 hw5r hw5
    · refine z_tin (off := 766) (tgt := 806) C dL_law_40 (by omega) (by omega) (by omega) rfl (by decide) ?_
      exact law_c12 hl0 C hr hlk hA hX hbl hbA hR hM hO w1 w2 w3 w4 w5 hw1r hw1 hw2r hw2 hw3r hw3 hw4r hw4 hw5r hw5
    · refine z_tin (off := 791) (tgt := 831) C dL_law_40 (by omega) (by omega) (by omega) rfl (by decide) ?_
      exact law_c13 hl0 C hr hlk hA hX hbl hbA hR hM hO w1 w2 w3 w4 w5 hw1r hw1 hw2r hw2 hw3r hw3 hw4r hw4 hw5r hw5
    · refine z_tin (off := 804) (tgt := 844) C dL_law_40 (by omega) (by omega) (by omega) rfl (by decide) ?_
      exact law_c14 hl0 C hr hlk hA hX hbl hbA hR hM hO w1 w2 w3 w4 w5 hw1r hw1 hw2r hw2 hw3r hw3 hw4r hw4 hw5r hw5
    · refine z_tin (off := 884) (tgt := 924) C dL_law_40 (by omega) (by omega) (by omega) rfl (by decide) ?_
      exact law_c15 hl0 C hr hlk hA hX hbl hbA hR hM hO w1 w2 w3 w4 w5 hw1r hw1 hw2r hw2 hw3r hw3 hw4r hw4 hw5r hw5
    · refine z_tin (off := 952) (tgt := 992) C dL_law_40 (by omega) (by omega) (by omega) rfl (by decide) ?_
      exact law_c16 hl0 C hr hlk hA hX hbl hbA hR hM hO w1 w2 w3 w4 w5 hw1r hw1 hw2r hw2 hw3r hw3 hw4r hw4 hw5r hw5
    · refine z_tin (off := 1008) (tgt := 1048) C dL_law_40 (by omega) (by omega) (by omega) rfl (by decide) ?_
      exact law_c17 hl0 C hr hlk hA hX hbl hbA hR hM hO w1 w2 w3 w4 w5 hw1r hw1 hw2r hw2 hw3r hw3 hw4r hw4 hw5r hw5
    · refine z_tin (off := 1076) (tgt := 1116) C dL_law_40 (by omega) (by omega) (by omega) rfl (by decide) ?_
      exact law_c18 hl0 C hr hlk hA hX hbl hbA hR hM hO w1 w2 w3 w4 w5 hw1r hw1 hw2r hw2 hw3r hw3 hw4r hw4 hw5r hw5
    · refine z_tin (off := 1132) (tgt := 1172) C dL_law_40 (by omega) (by omega) (by omega) rfl (by decide) ?_
      exact law_c19 hl0 C hr hlk hA hX hbl hbA hR hM hO w1 w2 w3 w4 w5 hw1r hw1 hw2r hw2 hw3r hw3 hw4r hw4 hw5r hw5
    · refine z_tin (off := 1188) (tgt := 1228) C dL_law_40 (by omega) (by omega) (by omega) rfl (by decide) ?_
      exact law_c20 hl0 C hr hlk hA hX hbl hbA hR hM hO w1 w2 w3 w4 w5 hw1r hw1 hw2r hw2 hw3r hw3 hw4r hw4 hw5r hw5
    · refine z_tin (off := 1256) (tgt := 1296) C dL_law_40 (by omega) (by omega) (by omega) rfl (by decide) ?_
      exact law_c21 hl0 C hr hlk hA hX hbl hbA hR hM hO w1 w2 w3 w4 w5 hw1r hw1 hw2r hw2 hw3r hw3 hw4r hw4 hw5r hw5
    · refine z_tin (off := 1336) (tgt := 1376) C dL_law_40 (by omega) (by omega) (by omega) rfl (by decide) ?_
      exact law_c22 hl0 C hr hlk hA hX hbl hbA hR hM hO w1 w2 w3 w4 w5 hw1r hw1 hw2r hw2 hw3r hw3 hw4r hw4 hw5r hw5
    · refine z_tin (off := 1404) (tgt := 1444) C dL_law_40 (by omega) (by omega) (by omega) rfl (by decide) ?_
      exact law_c23 hl0 C hr hlk hA hX hbl hbA hR hM hO w1 w2 w3 w4 w5 hw1r hw1 hw2r hw2 hw3r hw3 hw4r hw4 hw5r hw5
    · refine z_tin (off := 1484) (tgt := 1524) C dL_law_40 (by omega) (by omega) (by omega) rfl (by decide) ?_
      exact law_c24 hl0 C hr hlk hA hX hbl hbA hR hM hO w1 w2 w3 w4 w5 hw1r hw1 hw2r hw2 hw3r hw3 hw4r hw4 hw5r hw5
    · refine z_tin (off := 1540) (tgt := 1580) C dL_law_40 (by omega) (by omega) (by omega) rfl (by decide) ?_
      exact law_c25 hl0 C hr hlk hA hX hbl hbA hR hM hO w1 w2 w3 w4 w5 hw1r hw1 hw2r hw2 hw3r hw3 hw4r hw4 hw5r hw5
    · refine z_tin (off := 1589) (tgt := 1629) C dL_law_40 (by omega) (by omega) (by omega) rfl (by decide) ?_
      exact law_c26 hl0 C hr hlk hA hX hbl hbA hR hM hO w1 w2 w3 w4 w5 hw1r hw1 hw2r hw2 hw3r hw3 hw4r hw4 hw5r hw5
    · refine z_tin (off := 1645) (tgt := 1685) C dL_law_40 (by omega) (by omega) (by omega) rfl (by decide) ?_
      exact law_c27 hl0 C hr hlk hA hX hbl hbA hR hM hO w1 w2 w3 w4 w5 hw1r hw1 hw2r hw2 hw3r hw3 hw4r hw4 hw5r hw5
    · refine z_tin (off := 1701) (tgt := 1741) C dL_law_40 (by omega) (by omega) (by omega) rfl (by decide) ?_
      exact law_c28 hl0 C hr hlk hA hX hbl hbA hR hM hO w1 w2 w3 w4 w5 hw1r hw1 hw2r hw2 hw3r hw3 hw4r hw4 hw5r hw5
    · refine z_tin (off := 1712) (tgt := 1752) C dL_law_40 (by omega) (by omega) (by omega) rfl (by decide) ?_
      exact law_c29 hl0 C hr hlk hA hX hbl hbA hR hM hO w1 w2 w3 w4 w5 hw1r hw1 hw2r hw2 hw3r hw3 hw4r hw4 hw5r hw5
    · refine z_tin (off := 1792) (tgt := 1832) C dL_law_40 (by omega) (by omega) (by omega) rfl (by decide) ?_
      exact law_c30 hl0 C hr hlk hA hX hbl hbA hR hM hO w1 w2 w3 w4 w5 hw1r hw1 hw2r hw2 hw3r hw3 hw4r hw4 hw5r hw5
    · refine z_tin (off := 1872) (tgt := 1912) C dL_law_40 (by omega) (by omega) (by omega) rfl (by decide) ?_
      exact law_c31 hl0 C hr hlk hA hX hbl hbA hR hM hO w1 w2 w3 w4 w5 hw1r hw1 hw2r hw2 hw3r hw3 hw4r hw4 hw5r hw5
    · refine z_tin (off := 1883) (tgt := 1923) C dL_law_40 (by omega) (by omega) (by omega) rfl (by decide) ?_
      exact law_c32 hl0 C hr hlk hA hX hbl hbA hR hM hO w1 w2 w3 w4 w5 hw1r hw1 hw2r hw2 hw3r hw3 hw4r hw4 hw5r hw5

