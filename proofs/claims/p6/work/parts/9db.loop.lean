set_option maxRecDepth 100000 in
set_option maxHeartbeats 4000000 in
theorem law_loop {p : Program} {l : Launch} {e : Env} {s : State} {m : MethodId} {below : List Frame} {meth : Method} {c : Code} {D : va_G} {A : Nat → Prop} {cs : Nat → ClassId} {tt : Nat} {b L : Nat} {xs : Nat → Int32} (hl0 : l.stackTraces = false) (C : zC p s m #[Value.ref b] c cL_law 7 RL D A cs tt) (hr : meth.sig.returnType = ret) (hlk : meth.locks = false) (hA : ∀ q, A q → s.heap.size ≤ q) (hX : va_X b L xs s s.heap) (hbl : b < s.heap.size) (hbA : ¬ A b) (hL : L ≤ 3072) : ∀ (n9 : Nat) (N : Nat) (ad : Nat → Nat) (g : Nat → va_E) (k n : Nat) (x z : Int) (q : Nat → Int), (3072 - z).toNat = n9 → 952 ≤ N → JI cs ad g N x → g 951 = jA cs 1 q → (0 ≤ x ∧ x ≤ 512) → z = 6 * x → (k : Int) ≤ 1000 + 16 * x → (n : Int) ≤ 200000 + 2150 * x → zV p l e room_1 s m #[Value.ref b] below meth c (lw_Z below #[Value.ref b] s) D A 7 (N) ad g (k) (n) 23 [(4, .int (zI (z))), (3, .ref (ad 951)), (2, .ref (ad 921)), (1, .ref (ad 0)), (0, .ref b)] [] := by
  intro n9
  induction n9 using Nat.strongRecOn with
  | ind n9 ih =>
      intro N ad g k n x z q hm9 hN hJI hq hx hz hk hn
      refine z_iload C 0 dL_law_23 rfl ?_
      refine z_aload_n C 4 dL_law_25 rfl ?_
      refine z_slen C hX hbl hbA dL_law_26 ?_
      refine z_bipush (z := 6) C dL_law_27 (by decide) ?_
      refine z_isub C dL_law_29 ?_
      refine z_icmp_gt (tgt := 1382) C dL_law_30 (by decide) (by omega) (by omega) (fun hb => ?_) (fun hb => ?_)
      · refine z_iconst (z := 1) C dL_law_1382 rfl ?_
        exact z_lend C hr hlk hA dL_law_1383 (by omega) (by omega)
      · obtain ⟨w0, hw0, hw0r⟩ := zI_of (xs (z).toNat)
        obtain ⟨w1, hw1, hw1r⟩ := zI_of (xs (z + 1).toNat)
        obtain ⟨w2, hw2, hw2r⟩ := zI_of (xs (z + 2).toNat)
        obtain ⟨w3, hw3, hw3r⟩ := zI_of (xs (z + 3).toNat)
        obtain ⟨w4, hw4, hw4r⟩ := zI_of (xs (z + 4).toNat)
        obtain ⟨w5, hw5, hw5r⟩ := zI_of (xs (z + 5).toNat)
        have hK : ∀ (N' : Nat) (ad' : Nat → Nat) (g' : Nat → va_E) (q' : Nat → Int), 952 ≤ N' → JI cs ad' g' N' (x + 1) → g' 951 = jA cs 1 q' → zV p l e room_1 s m #[Value.ref b] below meth c (lw_Z below #[Value.ref b] s) D A 7 (N') ad' g' (k + 16) (n + 2150) 1376 [(4, .int (zI (z))), (3, .ref (ad' 951)), (2, .ref (ad' 921)), (1, .ref (ad' 0)), (0, .ref b)] [] := by
          intro N' ad' g' q' a1 a2 a5
          refine z_iinc (z := z + 6) (lv' := [(4, .int (zI (z + 6))), (3, .ref (ad' 951)), (2, .ref (ad' 921)), (1, .ref (ad' 0)), (0, .ref b)]) (j := 0) C dL_law_1376 rfl rfl (by decide) rfl ?_
          refine z_goto (tgt := 23) C dL_law_1379 (by decide) ?_
          exact ih _ (by omega) N' ad' g' (k + 16) (n + 2150) (x + 1) (z + 6) q' rfl a1 a2 a5 (by omega) (by omega) (by omega) (by omega)
        refine z_aload_n C 4 dL_law_33 rfl ?_
        refine z_iload C 0 dL_law_34 rfl ?_
        refine z_sld C hX hbl hbA (z).toNat (by omega) (by omega) (by omega) hw0 dL_law_36 ?_
        refine z_bipush (z := 63) C dL_law_37 (by decide) ?_
        obtain ⟨y, ey, hy⟩ := zI_and (zI w0) (m := zI 63) 6 (by decide)
        refine z_iand (z := y) C dL_law_39 ey ?_
        by_cases hsw : y < 0 ∨ 32 < y
        · refine z_tout (tgt := 1376) C dL_law_40 (by omega) hsw (by decide) ?_
          refine z_widen (k2 := k + 16) (n2 := n + 2150) (by omega) (by omega) ?_
          exact hK _ _ _ _ hN (okMr.monoJ hJI (by omega)) hq
        · rcases (show y = 0 ∨ y = 1 ∨ y = 2 ∨ y = 3 ∨ y = 4 ∨ y = 5 ∨ y = 6 ∨ y = 7 ∨ y = 8 ∨ y = 9 ∨ y = 10 ∨ y = 11 ∨ y = 12 ∨ y = 13 ∨ y = 14 ∨ y = 15 ∨ y = 16 ∨ y = 17 ∨ y = 18 ∨ y = 19 ∨ y = 20 ∨ y = 21 ∨ y = 22 ∨ y = 23 ∨ y = 24 ∨ y = 25 ∨ y = 26 ∨ y = 27 ∨ y = 28 ∨ y = 29 ∨ y = 30 ∨ y = 31 ∨ y = 32 by omega) with rfl | rfl | rfl | rfl | rfl | rfl | rfl | rfl | rfl | rfl | rfl | rfl | rfl | rfl | rfl | rfl | rfl | rfl | rfl | rfl | rfl | rfl | rfl | rfl | rfl | rfl | rfl | rfl | rfl | rfl | rfl | rfl | rfl
          · refine z_tin (off := 148) (tgt := 188) C dL_law_40 (by omega) (by omega) (by omega) rfl (by decide) ?_
            exact law_c0 hl0 C hr hlk hA hX hbl hbA hL hN hJI hq (by omega) hz (by omega) (by omega) (by omega) hw1r hw1 hw2r hw2 hw3r hw3 hw4r hw4 hw5r hw5 hK
          · refine z_tin (off := 221) (tgt := 261) C dL_law_40 (by omega) (by omega) (by omega) rfl (by decide) ?_
            exact law_c1 hl0 C hr hlk hA hX hbl hbA hL hN hJI hq (by omega) hz (by omega) (by omega) (by omega) hw1r hw1 hw2r hw2 hw3r hw3 hw4r hw4 hw5r hw5 hK
          · refine z_tin (off := 249) (tgt := 289) C dL_law_40 (by omega) (by omega) (by omega) rfl (by decide) ?_
            exact law_c2 hl0 C hr hlk hA hX hbl hbA hL hN hJI hq (by omega) hz (by omega) (by omega) (by omega) hw1r hw1 hw2r hw2 hw3r hw3 hw4r hw4 hw5r hw5 hK
          · refine z_tin (off := 262) (tgt := 302) C dL_law_40 (by omega) (by omega) (by omega) rfl (by decide) ?_
            exact law_c3 hl0 C hr hlk hA hX hbl hbA hL hN hJI hq (by omega) hz (by omega) (by omega) (by omega) hw1r hw1 hw2r hw2 hw3r hw3 hw4r hw4 hw5r hw5 hK
          · refine z_tin (off := 290) (tgt := 330) C dL_law_40 (by omega) (by omega) (by omega) rfl (by decide) ?_
            exact law_c4 hl0 C hr hlk hA hX hbl hbA hL hN hJI hq (by omega) hz (by omega) (by omega) (by omega) hw1r hw1 hw2r hw2 hw3r hw3 hw4r hw4 hw5r hw5 hK
          · refine z_tin (off := 358) (tgt := 398) C dL_law_40 (by omega) (by omega) (by omega) rfl (by decide) ?_
            exact law_c5 hl0 C hr hlk hA hX hbl hbA hL hN hJI hq (by omega) hz (by omega) (by omega) (by omega) hw1r hw1 hw2r hw2 hw3r hw3 hw4r hw4 hw5r hw5 hK
          · refine z_tin (off := 398) (tgt := 438) C dL_law_40 (by omega) (by omega) (by omega) rfl (by decide) ?_
            exact law_c6 hl0 C hr hlk hA hX hbl hbA hL hN hJI hq (by omega) hz (by omega) (by omega) (by omega) hw1r hw1 hw2r hw2 hw3r hw3 hw4r hw4 hw5r hw5 hK
          · refine z_tin (off := 450) (tgt := 490) C dL_law_40 (by omega) (by omega) (by omega) rfl (by decide) ?_
            exact law_c7 hl0 C hr hlk hA hX hbl hbA hL hN hJI hq (by omega) hz (by omega) (by omega) (by omega) hw1r hw1 hw2r hw2 hw3r hw3 hw4r hw4 hw5r hw5 hK
          · refine z_tin (off := 502) (tgt := 542) C dL_law_40 (by omega) (by omega) (by omega) rfl (by decide) ?_
            exact law_c8 hl0 C hr hlk hA hX hbl hbA hL hN hJI hq (by omega) hz (by omega) (by omega) (by omega) hw1r hw1 hw2r hw2 hw3r hw3 hw4r hw4 hw5r hw5 hK
          · refine z_tin (off := 527) (tgt := 567) C dL_law_40 (by omega) (by omega) (by omega) rfl (by decide) ?_
            exact law_c9 hl0 C hr hlk hA hX hbl hbA hL hN hJI hq (by omega) hz (by omega) (by omega) (by omega) hw1r hw1 hw2r hw2 hw3r hw3 hw4r hw4 hw5r hw5 hK
          · refine z_tin (off := 576) (tgt := 616) C dL_law_40 (by omega) (by omega) (by omega) rfl (by decide) ?_
            exact law_c10 hl0 C hr hlk hA hX hbl hbA hL hN hJI hq (by omega) hz (by omega) (by omega) (by omega) hw1r hw1 hw2r hw2 hw3r hw3 hw4r hw4 hw5r hw5 hK
          · refine z_tin (off := 601) (tgt := 641) C dL_law_40 (by omega) (by omega) (by omega) rfl (by decide) ?_
            exact law_c11 hl0 C hr hlk hA hX hbl hbA hL hN hJI hq (by omega) hz (by omega) (by omega) (by omega) hw1r hw1 hw2r hw2 hw3r hw3 hw4r hw4 hw5r hw5 hK
          · refine z_tin (off := 626) (tgt := 666) C dL_law_40 (by omega) (by omega) (by omega) rfl (by decide) ?_
            exact law_c12 hl0 C hr hlk hA hX hbl hbA hL hN hJI hq (by omega) hz (by omega) (by omega) (by omega) hw1r hw1 hw2r hw2 hw3r hw3 hw4r hw4 hw5r hw5 hK
          · refine z_tin (off := 651) (tgt := 691) C dL_law_40 (by omega) (by omega) (by omega) rfl (by decide) ?_
            exact law_c13 hl0 C hr hlk hA hX hbl hbA hL hN hJI hq (by omega) hz (by omega) (by omega) (by omega) hw1r hw1 hw2r hw2 hw3r hw3 hw4r hw4 hw5r hw5 hK
          · refine z_tin (off := 664) (tgt := 704) C dL_law_40 (by omega) (by omega) (by omega) rfl (by decide) ?_
            exact law_c14 hl0 C hr hlk hA hX hbl hbA hL hN hJI hq (by omega) hz (by omega) (by omega) (by omega) hw1r hw1 hw2r hw2 hw3r hw3 hw4r hw4 hw5r hw5 hK
          · refine z_tin (off := 716) (tgt := 756) C dL_law_40 (by omega) (by omega) (by omega) rfl (by decide) ?_
            exact law_c15 hl0 C hr hlk hA hX hbl hbA hL hN hJI hq (by omega) hz (by omega) (by omega) (by omega) hw1r hw1 hw2r hw2 hw3r hw3 hw4r hw4 hw5r hw5 hK
          · refine z_tin (off := 756) (tgt := 796) C dL_law_40 (by omega) (by omega) (by omega) rfl (by decide) ?_
            exact law_c16 hl0 C hr hlk hA hX hbl hbA hL hN hJI hq (by omega) hz (by omega) (by omega) (by omega) hw1r hw1 hw2r hw2 hw3r hw3 hw4r hw4 hw5r hw5 hK
          · refine z_tin (off := 784) (tgt := 824) C dL_law_40 (by omega) (by omega) (by omega) rfl (by decide) ?_
            exact law_c17 hl0 C hr hlk hA hX hbl hbA hL hN hJI hq (by omega) hz (by omega) (by omega) (by omega) hw1r hw1 hw2r hw2 hw3r hw3 hw4r hw4 hw5r hw5 hK
          · refine z_tin (off := 824) (tgt := 864) C dL_law_40 (by omega) (by omega) (by omega) rfl (by decide) ?_
            exact law_c18 hl0 C hr hlk hA hX hbl hbA hL hN hJI hq (by omega) hz (by omega) (by omega) (by omega) hw1r hw1 hw2r hw2 hw3r hw3 hw4r hw4 hw5r hw5 hK
          · refine z_tin (off := 852) (tgt := 892) C dL_law_40 (by omega) (by omega) (by omega) rfl (by decide) ?_
            exact law_c19 hl0 C hr hlk hA hX hbl hbA hL hN hJI hq (by omega) hz (by omega) (by omega) (by omega) hw1r hw1 hw2r hw2 hw3r hw3 hw4r hw4 hw5r hw5 hK
          · refine z_tin (off := 880) (tgt := 920) C dL_law_40 (by omega) (by omega) (by omega) rfl (by decide) ?_
            exact law_c20 hl0 C hr hlk hA hX hbl hbA hL hN hJI hq (by omega) hz (by omega) (by omega) (by omega) hw1r hw1 hw2r hw2 hw3r hw3 hw4r hw4 hw5r hw5 hK
          · refine z_tin (off := 920) (tgt := 960) C dL_law_40 (by omega) (by omega) (by omega) rfl (by decide) ?_
            exact law_c21 hl0 C hr hlk hA hX hbl hbA hL hN hJI hq (by omega) hz (by omega) (by omega) (by omega) hw1r hw1 hw2r hw2 hw3r hw3 hw4r hw4 hw5r hw5 hK
          · refine z_tin (off := 972) (tgt := 1012) C dL_law_40 (by omega) (by omega) (by omega) rfl (by decide) ?_
            exact law_c22 hl0 C hr hlk hA hX hbl hbA hL hN hJI hq (by omega) hz (by omega) (by omega) (by omega) hw1r hw1 hw2r hw2 hw3r hw3 hw4r hw4 hw5r hw5 hK
          · refine z_tin (off := 1012) (tgt := 1052) C dL_law_40 (by omega) (by omega) (by omega) rfl (by decide) ?_
            exact law_c23 hl0 C hr hlk hA hX hbl hbA hL hN hJI hq (by omega) hz (by omega) (by omega) (by omega) hw1r hw1 hw2r hw2 hw3r hw3 hw4r hw4 hw5r hw5 hK
          · refine z_tin (off := 1064) (tgt := 1104) C dL_law_40 (by omega) (by omega) (by omega) rfl (by decide) ?_
            exact law_c24 hl0 C hr hlk hA hX hbl hbA hL hN hJI hq (by omega) hz (by omega) (by omega) (by omega) hw1r hw1 hw2r hw2 hw3r hw3 hw4r hw4 hw5r hw5 hK
          · refine z_tin (off := 1092) (tgt := 1132) C dL_law_40 (by omega) (by omega) (by omega) rfl (by decide) ?_
            exact law_c25 hl0 C hr hlk hA hX hbl hbA hL hN hJI hq (by omega) hz (by omega) (by omega) (by omega) hw1r hw1 hw2r hw2 hw3r hw3 hw4r hw4 hw5r hw5 hK
          · refine z_tin (off := 1141) (tgt := 1181) C dL_law_40 (by omega) (by omega) (by omega) rfl (by decide) ?_
            exact law_c26 hl0 C hr hlk hA hX hbl hbA hL hN hJI hq (by omega) hz (by omega) (by omega) (by omega) hw1r hw1 hw2r hw2 hw3r hw3 hw4r hw4 hw5r hw5 hK
          · refine z_tin (off := 1169) (tgt := 1209) C dL_law_40 (by omega) (by omega) (by omega) rfl (by decide) ?_
            exact law_c27 hl0 C hr hlk hA hX hbl hbA hL hN hJI hq (by omega) hz (by omega) (by omega) (by omega) hw1r hw1 hw2r hw2 hw3r hw3 hw4r hw4 hw5r hw5 hK
          · refine z_tin (off := 1197) (tgt := 1237) C dL_law_40 (by omega) (by omega) (by omega) rfl (by decide) ?_
            exact law_c28 hl0 C hr hlk hA hX hbl hbA hL hN hJI hq (by omega) hz (by omega) (by omega) (by omega) hw1r hw1 hw2r hw2 hw3r hw3 hw4r hw4 hw5r hw5 hK
          · refine z_tin (off := 1208) (tgt := 1248) C dL_law_40 (by omega) (by omega) (by omega) rfl (by decide) ?_
            exact law_c29 hl0 C hr hlk hA hX hbl hbA hL hN hJI hq (by omega) hz (by omega) (by omega) (by omega) hw1r hw1 hw2r hw2 hw3r hw3 hw4r hw4 hw5r hw5 hK
          · refine z_tin (off := 1260) (tgt := 1300) C dL_law_40 (by omega) (by omega) (by omega) rfl (by decide) ?_
            exact law_c30 hl0 C hr hlk hA hX hbl hbA hL hN hJI hq (by omega) hz (by omega) (by omega) (by omega) hw1r hw1 hw2r hw2 hw3r hw3 hw4r hw4 hw5r hw5 hK
          · refine z_tin (off := 1312) (tgt := 1352) C dL_law_40 (by omega) (by omega) (by omega) rfl (by decide) ?_
            exact law_c31 hl0 C hr hlk hA hX hbl hbA hL hN hJI hq (by omega) hz (by omega) (by omega) (by omega) hw1r hw1 hw2r hw2 hw3r hw3 hw4r hw4 hw5r hw5 hK
          · refine z_tin (off := 1323) (tgt := 1363) C dL_law_40 (by omega) (by omega) (by omega) rfl (by decide) ?_
            exact law_c32 hl0 C hr hlk hA hX hbl hbA hL hN hJI hq (by omega) hz (by omega) (by omega) (by omega) hw1r hw1 hw2r hw2 hw3r hw3 hw4r hw4 hw5r hw5 hK

