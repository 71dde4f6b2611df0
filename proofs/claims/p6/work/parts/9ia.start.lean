set_option maxRecDepth 100000 in
set_option maxHeartbeats 4000000 in
theorem law_walk {p : Program} {l : Launch} {e : Env} {s : State} {m : MethodId} {below : List Frame} {meth : Method} {c : Code} {D : va_G} {A : Nat → Prop} {cs : Nat → ClassId} {tt : Nat} {b L : Nat} {xs : Nat → Int32} (hl0 : l.stackTraces = false) (C : zC p s m #[Value.ref b] c cL_law 7 RL D A cs tt) (hr : meth.sig.returnType = ret) (hlk : meth.locks = false) (hA : ∀ q, A q → s.heap.size ≤ q) (hX : va_X b L xs s s.heap) (hbl : b < s.heap.size) (hbA : ¬ A b) (hL : L ≤ 3072) : zV p l e room_1 s m #[Value.ref b] below meth c (lw_Z below #[Value.ref b] s) D A 7 (0) (fun _ => 0) (fun _ => iA cs 0 (fun _ => 0)) (0) (0) 0 [(0, .ref b)] [] := by
  refine z_new (fs := [.null, .int (zI (0)), .int (zI (0)), .null, .null, .null, .null, .int (zI (0)), .null, .null, .null, .null, .null, .null]) (ci := 11) C tyX9 tyX9_ok rfl inA_X9 q_29 q_30 q_1 (fun j hj => by rcases (show j = 0 ∨ j = 1 ∨ j = 2 ∨ j = 3 ∨ j = 4 ∨ j = 5 ∨ j = 6 ∨ j = 7 ∨ j = 8 ∨ j = 9 ∨ j = 10 ∨ j = 11 ∨ j = 12 ∨ j = 13 by omega) with rfl | rfl | rfl | rfl | rfl | rfl | rfl | rfl | rfl | rfl | rfl | rfl | rfl | rfl <;> rfl) (by decide) (by decide) dL_law_0 (fun qy1 ady2 gy3 eay4 egy5 => ?_)
  have hay6 : zAt ady2 (0) qy1 := up_s eay4
  have hgy7 := up_s egy5
  refine z_dup C dL_law_3 rfl ?_
  refine z_cI (As := []) (rest := [.ref qy1]) C (c_X9_init l D A cs tt _ _ 0 qy1 hay6 hgy7) mi_yX9_init q_31 rfl (by decide +kernel) (by decide) (Nat.le_of_ble_eq_true rfl) (by decide) dL_law_4 rfl (kV fun My8 ady9 gy10 hqy11 => ?_)
  obtain ⟨rfl, hA1, hG1, hR1⟩ := hqy11
  refine z_astore_n (lv' := [(1, .ref qy1), (0, .ref b)]) C dL_law_7 rfl (by decide) rfl ?_
  refine z_new (fs := [.null, .null, .null, .null, .null, .null, .null, .null, .null, .null, .null, .null, .int (zI (0)), .int (zI (0)), .int (zI (0)), .int (zI (0)), .int (zI (0)), .int (zI (0)), .int (zI (0)), .int (zI (0)), .int (zI (0)), .int (zI (0)), .null, .int (zI (0)), .int (zI (0)), .int (zI (0)), .int (zI (0)), .int (zI (0)), .int (zI (0)), .int (zI (0)), .null, .null, .int (zI (0)), .int (zI (0)), .int (zI (0)), .int (zI (0)), .int (zI (0)), .int (zI (0)), .int (zI (0)), .null, .null, .null, .null, .null, .null, .null, .null, .int (zI (0)), .int (zI (0)), .int (zI (0)), .null, .int (zI (0)), .null, .null, .null, .int (zI (0)), .int (zI (0)), .null, .null, .int (zI (0))]) (ci := 12) C tyX10 tyX10_ok rfl inA_X10 q_1449 q_1450 q_15 (fun j hj => by rcases (show j = 0 ∨ j = 1 ∨ j = 2 ∨ j = 3 ∨ j = 4 ∨ j = 5 ∨ j = 6 ∨ j = 7 ∨ j = 8 ∨ j = 9 ∨ j = 10 ∨ j = 11 ∨ j = 12 ∨ j = 13 ∨ j = 14 ∨ j = 15 ∨ j = 16 ∨ j = 17 ∨ j = 18 ∨ j = 19 ∨ j = 20 ∨ j = 21 ∨ j = 22 ∨ j = 23 ∨ j = 24 ∨ j = 25 ∨ j = 26 ∨ j = 27 ∨ j = 28 ∨ j = 29 ∨ j = 30 ∨ j = 31 ∨ j = 32 ∨ j = 33 ∨ j = 34 ∨ j = 35 ∨ j = 36 ∨ j = 37 ∨ j = 38 ∨ j = 39 ∨ j = 40 ∨ j = 41 ∨ j = 42 ∨ j = 43 ∨ j = 44 ∨ j = 45 ∨ j = 46 ∨ j = 47 ∨ j = 48 ∨ j = 49 ∨ j = 50 ∨ j = 51 ∨ j = 52 ∨ j = 53 ∨ j = 54 ∨ j = 55 ∨ j = 56 ∨ j = 57 ∨ j = 58 ∨ j = 59 by omega) with rfl | rfl | rfl | rfl | rfl | rfl | rfl | rfl | rfl | rfl | rfl | rfl | rfl | rfl | rfl | rfl | rfl | rfl | rfl | rfl | rfl | rfl | rfl | rfl | rfl | rfl | rfl | rfl | rfl | rfl | rfl | rfl | rfl | rfl | rfl | rfl | rfl | rfl | rfl | rfl | rfl | rfl | rfl | rfl | rfl | rfl | rfl | rfl | rfl | rfl | rfl | rfl | rfl | rfl | rfl | rfl | rfl | rfl | rfl | rfl <;> rfl) (by decide) (by decide) dL_law_8 (fun qy12 ady13 gy14 eay15 egy16 => ?_)
  have hay17 : zAt ady13 (921) qy12 := up_s eay15
  have hgy18 := up_s egy16
  refine z_dup C dL_law_11 rfl ?_
  refine z_cI (As := []) (rest := [.ref qy12]) C (c_X10_init l D A cs tt _ _ 921 qy12 hay17 hgy18) mi_yX10_init q_1451 rfl (by decide +kernel) (by decide) (Nat.le_of_ble_eq_true rfl) (by decide) dL_law_12 rfl (kV fun My19 ady20 gy21 hqy22 => ?_)
  obtain ⟨rfl, hA2, hG2, B9, hM1, hM2, hM3⟩ := hqy22
  have hM0 : isM0 cs ady20 gy21 921 := ⟨B9, hM1, hM2, hM3⟩
  refine z_astore_n (lv' := [(2, .ref qy12), (1, .ref qy1), (0, .ref b)]) C dL_law_15 rfl (by decide) rfl ?_
  refine z_iconst (z := 1) C dL_law_16 rfl ?_
  refine z_newJ C 1 rfl q_2120 (by decide) (by decide) (by decide) dL_law_17 (fun qy23 ady24 gy25 eay26 egy27 => ?_)
  have hay28 : zAt ady24 (951) qy23 := up_s eay26
  have hgy29 := up_s egy27
  refine z_astore_n (lv' := [(3, .ref qy23), (2, .ref qy12), (1, .ref qy1), (0, .ref b)]) C dL_law_19 rfl (by decide) rfl ?_
  refine z_iconst (z := 0) C dL_law_20 rfl ?_
  refine z_istore (lv' := [(4, .int (zI (0))), (3, .ref qy23), (2, .ref qy12), (1, .ref qy1), (0, .ref b)]) C dL_law_21 (by decide) rfl ?_
  have hpy30 := isRec.mv (ad' := ady24) (g' := gy25) (fun j h1 h2 => by rw [eay26, va_up_ne _ _ (by omega)]; rw [hA2 _ (by omega)]; rw [eay15, va_up_ne _ _ (by omega)]) (fun j h1 h2 => by rw [egy27, va_up_ne _ _ (by omega)]; rw [hG2 _ (by omega) (by omega)]; rw [egy16, va_up_ne _ _ (by omega)]) hR1
  have hpy31 := isM0.mv (ad' := ady24) (g' := gy25) (fun j h1 h2 => by rw [eay26, va_up_ne _ _ (by omega)]) (fun j h1 h2 => by rw [egy27, va_up_ne _ _ (by omega)]) hM0
  have hay32 : zAt ady9 (0) (qy1) := (hA1 (0) (by decide)).trans hay6
  have hay33 : zAt ady13 (0) (qy1) := up_n eay15 hay32 (by decide)
  have hay34 : zAt ady20 (0) (qy1) := (hA2 (0) (by decide)).trans hay33
  have hay35 : zAt ady24 (0) (qy1) := up_n eay26 hay34 (by decide)
  have hzqy1 : ady24 (0) = qy1 := hay35
  subst hzqy1
  have hay36 : zAt ady20 (921) (qy12) := (hA2 (921) (by decide)).trans hay17
  have hay37 : zAt ady24 (921) (qy12) := up_n eay26 hay36 (by decide)
  have hzqy12 : ady24 (921) = qy12 := hay37
  subst hzqy12
  have hzqy23 : ady24 (951) = qy23 := hay28
  subst hzqy23
  refine z_lv (lv' := [(4, .int (zI (0))), (3, .ref (ady24 951)), (2, .ref (ady24 921)), (1, .ref (ady24 0)), (0, .ref b)]) [0, 1, 2, 3, 4] rfl ?_
  refine z_widen (k2 := 1000) (n2 := 200000) (Nat.le_of_ble_eq_true rfl) (Nat.le_of_ble_eq_true rfl) ?_
  exact law_loop hl0 C hr hlk hA hX hbl hbA hL _ 952 ady24 gy25 1000 200000 0 0 (fun _ => 0) rfl (Nat.le_refl _) (JI.fresh hpy30 hpy31 (Nat.le_refl _)) hgy29 (by decide) (by decide) (by decide) (by decide)

set_option maxHeartbeats 4000000 in
/-- from the entry, for every script of at most 3072 ints, the law comes to its end with true -/
theorem whole_start {p : Program} {e : Env} {s : State} {m : MethodId} {below : List Frame} {meth : Method} {c : Code} (l : Launch) (hflags : l.flags = flags0) {b L : Nat} {xs : Nat → Int32} (hL : L ≤ 3072) (C0 : lw_At p s m meth c b L xs) : W p l e room_1 s m #[Value.ref b] below meth c s.heap [] 0 0 (lw_Z below #[Value.ref b] s) (entryFrame m ([Value.ref b] : List Value).toArray 7) := by
  obtain ⟨hx, hb, hr, hml, hown, hts, hX, hbl, hlocks, hgv⟩ := id C0
  obtain ⟨D, cs, tt, hE⟩ := env_of hts hgv
  have hl0 : l.stackTraces = false := by
    unfold Launch.stackTraces
    rw [hflags]
    decide +kernel
  have hl := lv_entry ([.ref b]) (n := 7) (Nat.le_of_ble_eq_true rfl)
  rw [lg_entry_eq]
  have C : zC p s m #[Value.ref b] c cL_law 7 RL D (fun q => s.heap.size ≤ q) cs tt := ⟨hx, hb, hml, hown, fun w h => hts w (List.mem_filter.mp h).1, hE⟩
  exact law_walk hl0 C hr hlocks (fun q h => h) hX hbl (Nat.not_le.mpr hbl) hL s.heap [] _ (fun k q h => by simp [wl] at h) ⟨fun i j p q h => by simp [wl] at h, fun k q h => by simp [wl] at h⟩ va_S.rf hl

