section
-- 9l6.uf.lean.txt
set_option maxRecDepth 100000 in
set_option maxHeartbeats 4000000 in
theorem c_uTopped (l : Launch) (D : va_G) (A : Nat → Prop) (cs : Nat → ClassId) (tt : Nat) (N : Nat) (ad : Nat → Nat) (g : Nat → va_E) (i : Nat) (hN : i + 30 ≤ N) (F : Nat → Int) (hg : g i = mC ad i F) (r : Nat → Int) (ha1 : g (i + 1) = iA cs 29200 r) (op : Nat → Int) (ha3 : g (i + 3) = iA cs 4 op) (b s p : Nat) (hp : b + 6 + 86 * s = p) (hb : b + 350 ≤ 29200) (hs : s < 4) (n : Nat) (K : Nat → Int) (hn : r p = (n : Int)) (hC : ∀ q, q < 7 * n → r (p + 2 + q) = K q) (hO : okP K n) (ro : Int) (hro : r (p + 1) = ro) (hop : 0 ≤ op s ∧ op s ≤ 20) (z1 : Int) (hz1 : -300 ≤ z1 ∧ z1 ≤ 100) : zM l yX10_topped cX10_topped 5 none ({ frames := 3, cells := 0, slots := 0, locals := 180 } : Room) D A cs tt N ad g [.ref (ad i), .int (zI ((b : Int))), .int (zI ((s : Int))), .int (zI (z1))] (rV0 N ad fun g' => (∃ r' : Nat → Int, g' (i + 1) = iA cs 29200 r' ∧ isS r' p (htZ z1 (op s) (n, K, ro)) ∧ (∀ j, j < p ∨ p + 86 ≤ j → r' j = r j)) ∧ ∀ j, j ≠ i + 1 → g' j = g j) := by
  have hay1 : zAt ad (i) (ad i) := rfl
  have hay2 : zAt ad (i + 1) (ad (i + 1)) := rfl
  have hay3 : zAt ad (i + 3) (ad (i + 3)) := rfl
  have hn12 := hO.1
  refine z_of (by decide) (Nat.le_of_ble_eq_true rfl) ?_
  intro pY eY sY mY below meth cY C hr hlk hnm
  refine z_lv (lv' := [(0, .ref (ad i)), (1, .int (zI ((b : Int)))), (2, .int (zI ((s : Int)))), (3, .int (zI (z1)))]) [0, 1, 2, 3] rfl ?_
  refine z_iload_n C 3 dX10_topped_0 rfl ?_
  refine z_if_le (tgt := 12) C dX10_topped_1 (by decide) (by omega) (fun hby4 => ?_) (fun hby4 => ?_)
  · refine z_aload_n C 0 dX10_topped_12 rfl ?_
    refine z_iload_n C 1 dX10_topped_13 rfl ?_
    refine z_iload_n C 2 dX10_topped_14 rfl ?_
    refine z_cV (As := [.int (zI ((b : Int))), .int (zI ((s : Int)))]) (rest := []) (ci := 12) C (c_X10_many l D A cs tt N ad _ i hN _ hg _ ha1 b s p hp (by omega) (by omega)) (lt_A0 hN rfl) hay1 hg rfl rfl mv_yX10_many q_1733 hd_yX10_many (by decide) (Nat.le_of_ble_eq_true rfl) (by decide) dX10_topped_15 rfl (kI0 fun vy5 gvy5 hvy5 => ?_)
    obtain ⟨rfl, rfl⟩ := hvy5
    rw [show r (p) = (n : Int) from hn]
    refine z_if_ne (tgt := 22) C dX10_topped_18 (by decide) (by omega) (fun hby6 => ?_) (fun hby6 => ?_)
    · refine z_iload_n C 1 dX10_topped_22 rfl ?_
      refine z_iload_n C 2 dX10_topped_23 rfl ?_
      refine z_aload_n C 0 dX10_topped_24 rfl ?_
      refine z_iload_n C 1 dX10_topped_25 rfl ?_
      refine z_iload_n C 2 dX10_topped_26 rfl ?_
      refine z_cV (As := [.int (zI ((b : Int))), .int (zI ((s : Int)))]) (rest := [.int (zI ((s : Int))), .int (zI ((b : Int)))]) (ci := 12) C (c_X10_many l D A cs tt N ad _ i hN _ hg _ ha1 b s p hp (by omega) (by omega)) (lt_A0 hN rfl) hay1 hg rfl rfl mv_yX10_many q_1733 hd_yX10_many (by decide) (Nat.le_of_ble_eq_true rfl) (by decide) dX10_topped_27 rfl (kI0 fun vy7 gvy7 hvy7 => ?_)
      obtain ⟨rfl, rfl⟩ := hvy7
      rw [show r (p) = (n : Int) from hn]
      refine z_iconst (z := 1) C dX10_topped_30 rfl ?_
      refine z_isub C dX10_topped_31 ?_
      obtain ⟨j, hj9⟩ : ∃ j, n = j + 1 := ⟨n - 1, by omega⟩
      rw [show ((n : Int)) - 1 = (j : Int) by omega]
      have hqy8k : ((j : Int) : Int) = ((j : Nat) : Int) := by omega
      obtain ⟨qy8, hqy8⟩ : ∃ q9 : Nat, p + 2 + 7 * j = q9 := ⟨_, rfl⟩
      refine z_cS (As := [.int (zI ((b : Int))), .int (zI ((s : Int))), .int (zI ((j : Int)))]) (rest := []) C (c_X10_at l D A cs tt N ad _ ((b : Int)) (by omega) ((s : Int)) (by omega) ((j : Int)) (by omega)) ms_yX10_at q_1753 hd_yX10_at (by decide) (Nat.le_of_ble_eq_true rfl) (by decide) dX10_topped_32 rfl (kI0 fun vy9 gvy9 hvy9 => ?_)
      obtain ⟨hvy9, rfl⟩ := hvy9
      rw [show vy9 = (qy8 : Int) by omega]
      refine z_istore (lv' := [(4, .int (zI ((qy8 : Int)))), (0, .ref (ad i)), (1, .int (zI ((b : Int)))), (2, .int (zI ((s : Int)))), (3, .int (zI (z1)))]) C dX10_topped_35 (by decide) rfl ?_
      refine z_aload_n C 1 dX10_topped_37 rfl ?_
      refine z_get (v := .ref (ad (i + 1))) C (lt_A0 hN rfl) hay1 hg rfl inA_X10 0 (by decide) q_1459 rfl rfl dX10_topped_38 ?_
      refine z_iload C 0 dX10_topped_41 rfl ?_
      refine z_iconst (z := 4) C dX10_topped_43 rfl ?_
      refine z_iadd C dX10_topped_44 ?_
      refine z_dup2 C dX10_topped_45 rfl rfl ?_
      refine z_iald C (lt_A (c := 1) hN rfl) hay2 ha1 (qy8 + 4) (by omega) (by omega) (by decide) dX10_topped_46 ?_
      rw [show r (qy8 + 4) = K (7 * j + 4) from (congrArg r (show qy8 + 4 = p + 2 + (7 * j + 4) by omega)).trans (hC (7 * j + 4) (by omega))]
      obtain ⟨⟨qy100, qy101, qy102, qy103, qy104, qy105, qy106⟩, qy109⟩ := hO.ly (l := j) (by omega)
      refine z_iload_n C 4 dX10_topped_47 rfl ?_
      refine z_aload_n C 1 dX10_topped_48 rfl ?_
      refine z_get (v := .ref (ad (i + 1))) C (lt_A0 hN rfl) hay1 hg rfl inA_X10 0 (by decide) q_1459 rfl rfl dX10_topped_49 ?_
      refine z_iload C 0 dX10_topped_52 rfl ?_
      refine z_iconst (z := 4) C dX10_topped_54 rfl ?_
      refine z_iadd C dX10_topped_55 ?_
      refine z_iald C (lt_A (c := 1) hN rfl) hay2 ha1 (qy8 + 4) (by omega) (by omega) (by decide) dX10_topped_56 ?_
      rw [show r (qy8 + 4) = K (7 * j + 4) from (congrArg r (show qy8 + 4 = p + 2 + (7 * j + 4) by omega)).trans (hC (7 * j + 4) (by omega))]
      refine z_isub C dX10_topped_57 ?_
      refine z_iconst (z := 4) C dX10_topped_58 rfl ?_
      refine z_idiv C dX10_topped_59 (by omega) (by omega) (by omega) ?_
      obtain ⟨xy11, exy11, hxy11⟩ : ∃ x9, (z1 - (K (7 * j + 4))).tdiv 4 = x9 ∧ (0 ≤ z1 - (K (7 * j + 4)) → 0 ≤ x9 ∧ 4 * x9 ≤ z1 - (K (7 * j + 4)) ∧ z1 - (K (7 * j + 4)) < 4 * x9 + 4) ∧ (z1 - (K (7 * j + 4)) ≤ 0 → x9 ≤ 0 ∧ z1 - (K (7 * j + 4)) ≤ 4 * x9 ∧ 4 * x9 < z1 - (K (7 * j + 4)) + 4) := tdk 4 (by decide)
      rw [exy11]
      refine z_iadd C dX10_topped_60 ?_
      refine z_iast C (lt_A (c := 1) hN rfl) hay2 ha1 (qy8 + 4) (by omega) (by omega) (by decide) dX10_topped_61 (fun gy12 egy13 => ?_)
      have hgy14 := up_s egy13
      obtain ⟨ry15, hvy16⟩ : ∃ rZ9 : Nat → Int, rZ9 = uZ r (qy8 + 4) ((K (7 * j + 4)) + xy11) := ⟨_, rfl⟩
      rw [← hvy16] at hgy14
      obtain ⟨Ky18, hKy19⟩ : ∃ KZ9 : Nat → Int, KZ9 = uZ K (7 * j + 4) ((K (7 * j + 4)) + xy11) := ⟨_, rfl⟩
      have hCy17 := lay_r hC hvy16 hKy19 (by omega)
      have hfry20 : ∀ j, j ≠ qy8 + 4 → ry15 j = r j := fun j n0 => (congrFun hvy16 _).trans ((uZ_n _ _ n0).trans (rfl))
      have hcl : clK K n z1 = Ky18 := by unfold clK; rw [if_neg (by omega), hj9, show j + 1 - 1 = j from rfl, hKy19, ← exy11]
      rw [show htZ z1 (op s) (n, K, ro) = (n, clK K n z1, ro) from if_neg (by omega), hcl]
      exact z_vret C hr hlk dX10_topped_62 (by decide) (by decide) ⟨rfl, rfl, rfl, ⟨_, hgy14, ⟨(hfry20 p (by omega)).trans hn, (hfry20 (p + 1) (by omega)).trans hro, hCy17⟩, fun j a1 => hfry20 j (by omega)⟩, fun j j1 => by rw [egy13, va_up_ne _ _ (by omega)]⟩
    · exact z_vret C hr hlk dX10_topped_21 (by decide) (by decide) ⟨rfl, rfl, rfl, ⟨_, ha1, (by rw [show htZ z1 (op s) (n, K, ro) = (n, clK K n z1, ro) from if_neg (by omega), show clK K n z1 = K from if_pos (by omega)]; exact ⟨hn, hro, hC⟩), fun j _ => rfl⟩, fun j j1 => by rfl⟩
  · refine z_aload_n C 0 dX10_topped_4 rfl ?_
    refine z_iload_n C 1 dX10_topped_5 rfl ?_
    refine z_iload_n C 2 dX10_topped_6 rfl ?_
    refine z_iload_n C 3 dX10_topped_7 rfl ?_
    refine z_cV (As := [.int (zI ((b : Int))), .int (zI ((s : Int))), .int (zI (z1))]) (rest := []) (ci := 12) C (c_uWarms l D A cs tt N ad _ i hN _ hg _ ha1 _ ha3 b s p hp (by omega) (by omega) n K hn hC hO ro hro hop (z1) (by omega)) (lt_A0 hN rfl) hay1 hg rfl rfl mv_yX10_warms q_1920 hd_yX10_warms (by decide) (Nat.le_of_ble_eq_true rfl) (by decide) dX10_topped_8 rfl (kV0 fun gvy21 hvy21 => ?_)
    obtain ⟨⟨rvy21, hcvy21, hSvy21, hyvy21⟩, hfvy21⟩ := hvy21
    exact z_vret C hr hlk dX10_topped_11 (by decide) (by decide) ⟨rfl, rfl, rfl, ⟨_, hcvy21, (by rw [show htZ z1 (op s) (n, K, ro) = mlZ n K ro (z1 * op s) from if_pos (by omega)]; exact hSvy21), hyvy21⟩, fun j j1 => by rw [hfvy21 _ (by omega)]⟩

set_option maxRecDepth 100000 in
set_option maxHeartbeats 4000000 in
theorem c_uJoins (l : Launch) (D : va_G) (A : Nat → Prop) (cs : Nat → ClassId) (tt : Nat) (N : Nat) (ad : Nat → Nat) (g : Nat → va_E) (i : Nat) (hN : i + 30 ≤ N) (F : Nat → Int) (hg : g i = mC ad i F) (r : Nat → Int) (ha1 : g (i + 1) = iA cs 29200 r) (b s p : Nat) (hp : b + 6 + 86 * s = p) (hb : b + 350 ≤ 29200) (hs : s < 4) (n : Nat) (K : Nat → Int) (hn : r p = (n : Int)) (hC : ∀ q, q < 7 * n → r (p + 2 + q) = K q) (hO : okP K n) (ro : Int) (hro : r (p + 1) = ro) (hn2 : n = 12) : zM l yX10_joins cX10_joins 10 none ({ frames := 3, cells := 0, slots := 0, locals := 180 } : Room) D A cs tt N ad g [.ref (ad i), .int (zI ((b : Int))), .int (zI ((s : Int)))] (rV0 N ad fun g' => (∃ r' : Nat → Int, g' (i + 1) = iA cs 29200 r' ∧ isS r' p ((11, joK K, ro)) ∧ (∀ j, j < p ∨ p + 86 ≤ j → r' j = r j)) ∧ ∀ j, j ≠ i + 1 → g' j = g j) := by
  have hay1 : zAt ad (i) (ad i) := rfl
  have hay2 : zAt ad (i + 1) (ad (i + 1)) := rfl
  have hn12 := hO.1
  obtain ⟨⟨⟨a0, a1, a2, a3, a4, a5, a6⟩, a9⟩, ⟨b0, b1, b2, b3, b4, b5, b6⟩, b9⟩ := hO.l01 (by omega)
  have hjt := joT_b hO (by omega)
  refine z_of (by decide) (Nat.le_of_ble_eq_true rfl) ?_
  intro pY eY sY mY below meth cY C hr hlk hnm
  refine z_lv (lv' := [(0, .ref (ad i)), (1, .int (zI ((b : Int)))), (2, .int (zI ((s : Int))))]) [0, 1, 2] rfl ?_
  have lp : ∀ (n9 : Nat) (ll : Int) (r9 : Nat → Int) (k : Nat) (g1 : Nat → va_E), (12 - ll).toNat = n9 → (g1 (i + 1) = iA cs 29200 r9) → (∀ j, j ≠ i + 1 → g1 j = g j) → (∀ j, j < p ∨ p + 86 ≤ j → r9 j = r j) → (r9 (p + 1) = ro) → (ll = (k : Int)) → (1 ≤ k ∧ k ≤ 11) → (∀ f, f < 7 → r9 (p + 2 + f) = joK K f) → (∀ l f : Nat, 1 ≤ l → l < k → f < 7 → r9 (p + 2 + 7 * l + f) = K (7 * (l + 1) + f)) → (∀ l f : Nat, k ≤ l → l < 12 → f < 7 → r9 (p + 2 + 7 * l + f) = K (7 * l + f)) → zV pY l eY ({ frames := 3, cells := 0, slots := 0, locals := 180 } : Room) sY mY ([.ref (ad i), .int (zI ((b : Int))), .int (zI ((s : Int)))] : List Value).toArray below meth cY (MQ below (zPost D A (rV0 N ad fun g' => (∃ r' : Nat → Int, g' (i + 1) = iA cs 29200 r' ∧ isS r' p ((11, joK K, ro)) ∧ (∀ j, j < p ∨ p + 86 ≤ j → r' j = r j)) ∧ ∀ j, j ≠ i + 1 → g' j = g j)) ([.ref (ad i), .int (zI ((b : Int))), .int (zI ((s : Int)))] : List Value).toArray sY ({ frames := 3, cells := 0, slots := 0, locals := 180 } : Room).cells ({ frames := 3, cells := 0, slots := 0, locals := 180 } : Room).slots A) D A 10 (N) ad g1 (0) (0) 234 [(0, .ref (ad i)), (1, .int (zI ((b : Int)))), (2, .int (zI ((s : Int)))), (7, .int (zI (11))), (8, .int (zI (ll)))] [] := by
    intro n9
    induction n9 using Nat.strongRecOn with
    | ind n9 ih =>
      intro ll r9 k g1 hm9 f2 f3 f5 hr9 hik hk hA9 hB9 hC9
      have hay3 : zAt ad (i) (ad i) := rfl
      have hay4 : zAt ad (i + 1) (ad (i + 1)) := rfl
      subst hik
      refine z_iload C 4 dX10_joins_234 rfl ?_
      refine z_iload C 3 dX10_joins_236 rfl ?_
      refine z_icmp_ge (tgt := 285) C dX10_joins_238 (by decide) (by omega) (by omega) (fun hby5 => ?_) (fun hby5 => ?_)
      · refine z_aload_n C 0 dX10_joins_285 rfl ?_
        refine z_iload_n C 1 dX10_joins_286 rfl ?_
        refine z_iload_n C 2 dX10_joins_287 rfl ?_
        refine z_iload C 3 dX10_joins_288 rfl ?_
        refine z_cV (As := [.int (zI ((b : Int))), .int (zI ((s : Int))), .int (zI (11))]) (rest := []) (ci := 12) C (c_X10_setsMany l D A cs tt N ad _ i hN _ ((f3 _ (by omega)).trans hg) _ f2 b s p hp (by omega) (by omega) (11)) (lt_A0 hN rfl) hay3 ((f3 _ (by omega)).trans hg) rfl rfl mv_yX10_setsMany q_1717 hd_yX10_setsMany (by decide) (Nat.le_of_ble_eq_true rfl) (by decide) dX10_joins_290 rfl (kV0 fun gvy6 hvy6 => ?_)
        obtain ⟨hcvy6, hfvy6⟩ := hvy6
        obtain ⟨ry7, hvy8⟩ : ∃ rZ9 : Nat → Int, rZ9 = uZ r9 (p) (11) := ⟨_, rfl⟩
        rw [← hvy8] at hcvy6
        have hfry9 : ∀ j, j ≠ p → ry7 j = r9 j := fun j n0 => (congrFun hvy8 _).trans ((uZ_n _ _ n0).trans (rfl))
        have hfin : ∀ q9, q9 < 77 → ry7 (p + 2 + q9) = joK K q9 := by
          intro q9 h8
          rw [hfry9 _ (by omega)]
          by_cases e9 : q9 < 7
          · exact hA9 q9 e9
          · rw [joK_o (by omega)]
            exact (congrArg r9 (by omega)).trans ((hB9 (q9 / 7) (q9 % 7) (by omega) (by omega) (by omega)).trans (congrArg K (by omega)))
        exact z_vret C hr hlk dX10_joins_293 (by decide) (by decide) ⟨rfl, rfl, rfl, ⟨_, hcvy6, ⟨(congrFun hvy8 _).trans (uZ_s _ _ _), (hfry9 (p + 1) (by omega)).trans hr9, hfin⟩, fun j a1 => (hfry9 j (by omega)).trans (f5 j a1)⟩, fun j j1 => by rw [hfvy6 _ (by omega)]; exact f3 j j1⟩
      · refine z_iconst (z := 0) C dX10_joins_241 rfl ?_
        refine z_istore (lv' := [(9, .int (zI (0))), (0, .ref (ad i)), (1, .int (zI ((b : Int)))), (2, .int (zI ((s : Int)))), (7, .int (zI (11))), (8, .int (zI ((k : Int))))]) C dX10_joins_242 (by decide) rfl ?_
        refine z_iload C 0 dX10_joins_244 rfl ?_
        refine z_bipush (z := 7) C dX10_joins_246 (by decide) ?_
        refine z_icmp_ge (tgt := 279) C dX10_joins_248 (by decide) (by omega) (by omega) (fun h => absurd h (by omega)) (fun _ => ?_)
        refine z_aload_n C 1 dX10_joins_251 rfl ?_
        refine z_iload_n C 2 dX10_joins_252 rfl ?_
        refine z_iload_n C 3 dX10_joins_253 rfl ?_
        refine z_iload C 5 dX10_joins_254 rfl ?_
        refine z_iload C 0 dX10_joins_256 rfl ?_
        refine z_aload_n C 1 dX10_joins_258 rfl ?_
        refine z_iload_n C 2 dX10_joins_259 rfl ?_
        refine z_iload_n C 3 dX10_joins_260 rfl ?_
        refine z_iload C 5 dX10_joins_261 rfl ?_
        refine z_iconst (z := 1) C dX10_joins_263 rfl ?_
        refine z_iadd C dX10_joins_264 ?_
        refine z_iload C 0 dX10_joins_265 rfl ?_
        have hqy10k : (((k : Int)) + 1 : Int) = (((k + 1) : Nat) : Int) := by omega
        obtain ⟨qy10, hqy10⟩ : ∃ q9 : Nat, p + 2 + 7 * (k + 1) = q9 := ⟨_, rfl⟩
        refine z_cV (As := [.int (zI ((b : Int))), .int (zI ((s : Int))), .int (zI (((k : Int)) + 1)), .int (zI (0))]) (rest := [.int (zI (0)), .int (zI ((k : Int))), .int (zI ((s : Int))), .int (zI ((b : Int))), .ref (ad i)]) (ci := 12) C (c_X10_of l D A cs tt N ad _ i hN _ ((f3 _ (by omega)).trans hg) _ f2 b s p hp (by omega) (by omega) (((k : Int)) + 1) (0) (qy10) (by omega) (by omega) (by omega)) (lt_A0 hN rfl) hay3 ((f3 _ (by omega)).trans hg) rfl rfl mv_yX10_of q_1749 hd_yX10_of (by decide) (Nat.le_of_ble_eq_true rfl) (by decide) dX10_joins_267 rfl (kI0 fun vy11 gvy11 hvy11 => ?_)
        obtain ⟨rfl, rfl⟩ := hvy11
        have hqy12k : ((k : Int) : Int) = ((k : Nat) : Int) := by omega
        obtain ⟨qy12, hqy12⟩ : ∃ q9 : Nat, p + 2 + 7 * k = q9 := ⟨_, rfl⟩
        refine z_cV (As := [.int (zI ((b : Int))), .int (zI ((s : Int))), .int (zI ((k : Int))), .int (zI (0)), .int (zI (r9 (qy10)))]) (rest := []) (ci := 12) C (c_X10_sets l D A cs tt N ad _ i hN _ ((f3 _ (by omega)).trans hg) _ f2 b s p hp (by omega) (by omega) ((k : Int)) (0) (qy12) (by omega) (by omega) (by omega) (r9 (qy10))) (lt_A0 hN rfl) hay3 ((f3 _ (by omega)).trans hg) rfl rfl mv_yX10_sets q_1908 hd_yX10_sets (by decide) (Nat.le_of_ble_eq_true rfl) (by decide) dX10_joins_270 rfl (kV0 fun gvy13 hvy13 => ?_)
        obtain ⟨hcvy13, hfvy13⟩ := hvy13
        obtain ⟨ry14, hvy15⟩ : ∃ rZ9 : Nat → Int, rZ9 = uZ r9 (qy12) (r9 (qy10)) := ⟨_, rfl⟩
        rw [← hvy15] at hcvy13
        refine z_iinc (z := 1) (lv' := [(9, .int (zI (1))), (0, .ref (ad i)), (1, .int (zI ((b : Int)))), (2, .int (zI ((s : Int)))), (7, .int (zI (11))), (8, .int (zI ((k : Int))))]) (j := 0) C dX10_joins_273 rfl (congrArg zI (by omega)) (by decide) rfl ?_
        refine z_goto (tgt := 244) C dX10_joins_276 (by decide) ?_
        refine z_iload C 0 dX10_joins_244 rfl ?_
        refine z_bipush (z := 7) C dX10_joins_246 (by decide) ?_
        refine z_icmp_ge (tgt := 279) C dX10_joins_248 (by decide) (by omega) (by omega) (fun h => absurd h (by omega)) (fun _ => ?_)
        refine z_aload_n C 1 dX10_joins_251 rfl ?_
        refine z_iload_n C 2 dX10_joins_252 rfl ?_
        refine z_iload_n C 3 dX10_joins_253 rfl ?_
        refine z_iload C 5 dX10_joins_254 rfl ?_
        refine z_iload C 0 dX10_joins_256 rfl ?_
        refine z_aload_n C 1 dX10_joins_258 rfl ?_
        refine z_iload_n C 2 dX10_joins_259 rfl ?_
        refine z_iload_n C 3 dX10_joins_260 rfl ?_
        refine z_iload C 5 dX10_joins_261 rfl ?_
        refine z_iconst (z := 1) C dX10_joins_263 rfl ?_
        refine z_iadd C dX10_joins_264 ?_
        refine z_iload C 0 dX10_joins_265 rfl ?_
        have hgy16 := (hfvy13 (i) (ne_o (i := i) (c := 0) (d := 1) rfl)).trans ((f3 _ (by omega)).trans hg)
        refine z_cV (As := [.int (zI ((b : Int))), .int (zI ((s : Int))), .int (zI (((k : Int)) + 1)), .int (zI (1))]) (rest := [.int (zI (1)), .int (zI ((k : Int))), .int (zI ((s : Int))), .int (zI ((b : Int))), .ref (ad i)]) (ci := 12) C (c_X10_of l D A cs tt N ad _ i hN _ hgy16 _ hcvy13 b s p hp (by omega) (by omega) (((k : Int)) + 1) (1) (qy10 + 1) (by omega) (by omega) (by omega)) (lt_A0 hN rfl) hay3 hgy16 rfl rfl mv_yX10_of q_1749 hd_yX10_of (by decide) (Nat.le_of_ble_eq_true rfl) (by decide) dX10_joins_267 rfl (kI0 fun vy17 gvy17 hvy17 => ?_)
        obtain ⟨rfl, rfl⟩ := hvy17
        rw [show ry14 (qy10 + 1) = r9 (qy10 + 1) from (congrFun hvy15 _).trans ((uZ_n _ _ (by omega)).trans (rfl))]
        refine z_cV (As := [.int (zI ((b : Int))), .int (zI ((s : Int))), .int (zI ((k : Int))), .int (zI (1)), .int (zI (r9 (qy10 + 1)))]) (rest := []) (ci := 12) C (c_X10_sets l D A cs tt N ad _ i hN _ hgy16 _ hcvy13 b s p hp (by omega) (by omega) ((k : Int)) (1) (qy12 + 1) (by omega) (by omega) (by omega) (r9 (qy10 + 1))) (lt_A0 hN rfl) hay3 hgy16 rfl rfl mv_yX10_sets q_1908 hd_yX10_sets (by decide) (Nat.le_of_ble_eq_true rfl) (by decide) dX10_joins_270 rfl (kV0 fun gvy18 hvy18 => ?_)
        obtain ⟨hcvy18, hfvy18⟩ := hvy18
        obtain ⟨ry19, hvy20⟩ : ∃ rZ9 : Nat → Int, rZ9 = uZ ry14 (qy12 + 1) (r9 (qy10 + 1)) := ⟨_, rfl⟩
        rw [← hvy20] at hcvy18
        refine z_iinc (z := 2) (lv' := [(9, .int (zI (2))), (0, .ref (ad i)), (1, .int (zI ((b : Int)))), (2, .int (zI ((s : Int)))), (7, .int (zI (11))), (8, .int (zI ((k : Int))))]) (j := 0) C dX10_joins_273 rfl (congrArg zI (by omega)) (by decide) rfl ?_
        refine z_goto (tgt := 244) C dX10_joins_276 (by decide) ?_
        refine z_iload C 0 dX10_joins_244 rfl ?_
        refine z_bipush (z := 7) C dX10_joins_246 (by decide) ?_
        refine z_icmp_ge (tgt := 279) C dX10_joins_248 (by decide) (by omega) (by omega) (fun h => absurd h (by omega)) (fun _ => ?_)
        refine z_aload_n C 1 dX10_joins_251 rfl ?_
        refine z_iload_n C 2 dX10_joins_252 rfl ?_
        refine z_iload_n C 3 dX10_joins_253 rfl ?_
        refine z_iload C 5 dX10_joins_254 rfl ?_
        refine z_iload C 0 dX10_joins_256 rfl ?_
        refine z_aload_n C 1 dX10_joins_258 rfl ?_
        refine z_iload_n C 2 dX10_joins_259 rfl ?_
        refine z_iload_n C 3 dX10_joins_260 rfl ?_
        refine z_iload C 5 dX10_joins_261 rfl ?_
        refine z_iconst (z := 1) C dX10_joins_263 rfl ?_
        refine z_iadd C dX10_joins_264 ?_
        refine z_iload C 0 dX10_joins_265 rfl ?_
        have hgy21 := (hfvy18 (i) (ne_o (i := i) (c := 0) (d := 1) rfl)).trans hgy16
        refine z_cV (As := [.int (zI ((b : Int))), .int (zI ((s : Int))), .int (zI (((k : Int)) + 1)), .int (zI (2))]) (rest := [.int (zI (2)), .int (zI ((k : Int))), .int (zI ((s : Int))), .int (zI ((b : Int))), .ref (ad i)]) (ci := 12) C (c_X10_of l D A cs tt N ad _ i hN _ hgy21 _ hcvy18 b s p hp (by omega) (by omega) (((k : Int)) + 1) (2) (qy10 + 2) (by omega) (by omega) (by omega)) (lt_A0 hN rfl) hay3 hgy21 rfl rfl mv_yX10_of q_1749 hd_yX10_of (by decide) (Nat.le_of_ble_eq_true rfl) (by decide) dX10_joins_267 rfl (kI0 fun vy22 gvy22 hvy22 => ?_)
        obtain ⟨rfl, rfl⟩ := hvy22
        rw [show ry19 (qy10 + 2) = r9 (qy10 + 2) from (congrFun hvy20 _).trans ((uZ_n _ _ (by omega)).trans ((congrFun hvy15 _).trans ((uZ_n _ _ (by omega)).trans (rfl))))]
        refine z_cV (As := [.int (zI ((b : Int))), .int (zI ((s : Int))), .int (zI ((k : Int))), .int (zI (2)), .int (zI (r9 (qy10 + 2)))]) (rest := []) (ci := 12) C (c_X10_sets l D A cs tt N ad _ i hN _ hgy21 _ hcvy18 b s p hp (by omega) (by omega) ((k : Int)) (2) (qy12 + 2) (by omega) (by omega) (by omega) (r9 (qy10 + 2))) (lt_A0 hN rfl) hay3 hgy21 rfl rfl mv_yX10_sets q_1908 hd_yX10_sets (by decide) (Nat.le_of_ble_eq_true rfl) (by decide) dX10_joins_270 rfl (kV0 fun gvy23 hvy23 => ?_)
        obtain ⟨hcvy23, hfvy23⟩ := hvy23
        obtain ⟨ry24, hvy25⟩ : ∃ rZ9 : Nat → Int, rZ9 = uZ ry19 (qy12 + 2) (r9 (qy10 + 2)) := ⟨_, rfl⟩
        rw [← hvy25] at hcvy23
        refine z_iinc (z := 3) (lv' := [(9, .int (zI (3))), (0, .ref (ad i)), (1, .int (zI ((b : Int)))), (2, .int (zI ((s : Int)))), (7, .int (zI (11))), (8, .int (zI ((k : Int))))]) (j := 0) C dX10_joins_273 rfl (congrArg zI (by omega)) (by decide) rfl ?_
        refine z_goto (tgt := 244) C dX10_joins_276 (by decide) ?_
        refine z_iload C 0 dX10_joins_244 rfl ?_
        refine z_bipush (z := 7) C dX10_joins_246 (by decide) ?_
        refine z_icmp_ge (tgt := 279) C dX10_joins_248 (by decide) (by omega) (by omega) (fun h => absurd h (by omega)) (fun _ => ?_)
        refine z_aload_n C 1 dX10_joins_251 rfl ?_
        refine z_iload_n C 2 dX10_joins_252 rfl ?_
        refine z_iload_n C 3 dX10_joins_253 rfl ?_
        refine z_iload C 5 dX10_joins_254 rfl ?_
        refine z_iload C 0 dX10_joins_256 rfl ?_
        refine z_aload_n C 1 dX10_joins_258 rfl ?_
        refine z_iload_n C 2 dX10_joins_259 rfl ?_
        refine z_iload_n C 3 dX10_joins_260 rfl ?_
        refine z_iload C 5 dX10_joins_261 rfl ?_
        refine z_iconst (z := 1) C dX10_joins_263 rfl ?_
        refine z_iadd C dX10_joins_264 ?_
        refine z_iload C 0 dX10_joins_265 rfl ?_
        have hgy26 := (hfvy23 (i) (ne_o (i := i) (c := 0) (d := 1) rfl)).trans hgy21
        refine z_cV (As := [.int (zI ((b : Int))), .int (zI ((s : Int))), .int (zI (((k : Int)) + 1)), .int (zI (3))]) (rest := [.int (zI (3)), .int (zI ((k : Int))), .int (zI ((s : Int))), .int (zI ((b : Int))), .ref (ad i)]) (ci := 12) C (c_X10_of l D A cs tt N ad _ i hN _ hgy26 _ hcvy23 b s p hp (by omega) (by omega) (((k : Int)) + 1) (3) (qy10 + 3) (by omega) (by omega) (by omega)) (lt_A0 hN rfl) hay3 hgy26 rfl rfl mv_yX10_of q_1749 hd_yX10_of (by decide) (Nat.le_of_ble_eq_true rfl) (by decide) dX10_joins_267 rfl (kI0 fun vy27 gvy27 hvy27 => ?_)
        obtain ⟨rfl, rfl⟩ := hvy27
        rw [show ry24 (qy10 + 3) = r9 (qy10 + 3) from (congrFun hvy25 _).trans ((uZ_n _ _ (by omega)).trans ((congrFun hvy20 _).trans ((uZ_n _ _ (by omega)).trans ((congrFun hvy15 _).trans ((uZ_n _ _ (by omega)).trans (rfl))))))]
        refine z_cV (As := [.int (zI ((b : Int))), .int (zI ((s : Int))), .int (zI ((k : Int))), .int (zI (3)), .int (zI (r9 (qy10 + 3)))]) (rest := []) (ci := 12) C (c_X10_sets l D A cs tt N ad _ i hN _ hgy26 _ hcvy23 b s p hp (by omega) (by omega) ((k : Int)) (3) (qy12 + 3) (by omega) (by omega) (by omega) (r9 (qy10 + 3))) (lt_A0 hN rfl) hay3 hgy26 rfl rfl mv_yX10_sets q_1908 hd_yX10_sets (by decide) (Nat.le_of_ble_eq_true rfl) (by decide) dX10_joins_270 rfl (kV0 fun gvy28 hvy28 => ?_)
        obtain ⟨hcvy28, hfvy28⟩ := hvy28
        obtain ⟨ry29, hvy30⟩ : ∃ rZ9 : Nat → Int, rZ9 = uZ ry24 (qy12 + 3) (r9 (qy10 + 3)) := ⟨_, rfl⟩
        rw [← hvy30] at hcvy28
        refine z_iinc (z := 4) (lv' := [(9, .int (zI (4))), (0, .ref (ad i)), (1, .int (zI ((b : Int)))), (2, .int (zI ((s : Int)))), (7, .int (zI (11))), (8, .int (zI ((k : Int))))]) (j := 0) C dX10_joins_273 rfl (congrArg zI (by omega)) (by decide) rfl ?_
        refine z_goto (tgt := 244) C dX10_joins_276 (by decide) ?_
        refine z_iload C 0 dX10_joins_244 rfl ?_
        refine z_bipush (z := 7) C dX10_joins_246 (by decide) ?_
        refine z_icmp_ge (tgt := 279) C dX10_joins_248 (by decide) (by omega) (by omega) (fun h => absurd h (by omega)) (fun _ => ?_)
        refine z_aload_n C 1 dX10_joins_251 rfl ?_
        refine z_iload_n C 2 dX10_joins_252 rfl ?_
        refine z_iload_n C 3 dX10_joins_253 rfl ?_
        refine z_iload C 5 dX10_joins_254 rfl ?_
        refine z_iload C 0 dX10_joins_256 rfl ?_
        refine z_aload_n C 1 dX10_joins_258 rfl ?_
        refine z_iload_n C 2 dX10_joins_259 rfl ?_
        refine z_iload_n C 3 dX10_joins_260 rfl ?_
        refine z_iload C 5 dX10_joins_261 rfl ?_
        refine z_iconst (z := 1) C dX10_joins_263 rfl ?_
        refine z_iadd C dX10_joins_264 ?_
        refine z_iload C 0 dX10_joins_265 rfl ?_
        have hgy31 := (hfvy28 (i) (ne_o (i := i) (c := 0) (d := 1) rfl)).trans hgy26
        refine z_cV (As := [.int (zI ((b : Int))), .int (zI ((s : Int))), .int (zI (((k : Int)) + 1)), .int (zI (4))]) (rest := [.int (zI (4)), .int (zI ((k : Int))), .int (zI ((s : Int))), .int (zI ((b : Int))), .ref (ad i)]) (ci := 12) C (c_X10_of l D A cs tt N ad _ i hN _ hgy31 _ hcvy28 b s p hp (by omega) (by omega) (((k : Int)) + 1) (4) (qy10 + 4) (by omega) (by omega) (by omega)) (lt_A0 hN rfl) hay3 hgy31 rfl rfl mv_yX10_of q_1749 hd_yX10_of (by decide) (Nat.le_of_ble_eq_true rfl) (by decide) dX10_joins_267 rfl (kI0 fun vy32 gvy32 hvy32 => ?_)
        obtain ⟨rfl, rfl⟩ := hvy32
        rw [show ry29 (qy10 + 4) = r9 (qy10 + 4) from (congrFun hvy30 _).trans ((uZ_n _ _ (by omega)).trans ((congrFun hvy25 _).trans ((uZ_n _ _ (by omega)).trans ((congrFun hvy20 _).trans ((uZ_n _ _ (by omega)).trans ((congrFun hvy15 _).trans ((uZ_n _ _ (by omega)).trans (rfl))))))))]
        refine z_cV (As := [.int (zI ((b : Int))), .int (zI ((s : Int))), .int (zI ((k : Int))), .int (zI (4)), .int (zI (r9 (qy10 + 4)))]) (rest := []) (ci := 12) C (c_X10_sets l D A cs tt N ad _ i hN _ hgy31 _ hcvy28 b s p hp (by omega) (by omega) ((k : Int)) (4) (qy12 + 4) (by omega) (by omega) (by omega) (r9 (qy10 + 4))) (lt_A0 hN rfl) hay3 hgy31 rfl rfl mv_yX10_sets q_1908 hd_yX10_sets (by decide) (Nat.le_of_ble_eq_true rfl) (by decide) dX10_joins_270 rfl (kV0 fun gvy33 hvy33 => ?_)
        obtain ⟨hcvy33, hfvy33⟩ := hvy33
        obtain ⟨ry34, hvy35⟩ : ∃ rZ9 : Nat → Int, rZ9 = uZ ry29 (qy12 + 4) (r9 (qy10 + 4)) := ⟨_, rfl⟩
        rw [← hvy35] at hcvy33
        refine z_iinc (z := 5) (lv' := [(9, .int (zI (5))), (0, .ref (ad i)), (1, .int (zI ((b : Int)))), (2, .int (zI ((s : Int)))), (7, .int (zI (11))), (8, .int (zI ((k : Int))))]) (j := 0) C dX10_joins_273 rfl (congrArg zI (by omega)) (by decide) rfl ?_
        refine z_goto (tgt := 244) C dX10_joins_276 (by decide) ?_
        refine z_iload C 0 dX10_joins_244 rfl ?_
        refine z_bipush (z := 7) C dX10_joins_246 (by decide) ?_
        refine z_icmp_ge (tgt := 279) C dX10_joins_248 (by decide) (by omega) (by omega) (fun h => absurd h (by omega)) (fun _ => ?_)
        refine z_aload_n C 1 dX10_joins_251 rfl ?_
        refine z_iload_n C 2 dX10_joins_252 rfl ?_
        refine z_iload_n C 3 dX10_joins_253 rfl ?_
        refine z_iload C 5 dX10_joins_254 rfl ?_
        refine z_iload C 0 dX10_joins_256 rfl ?_
        refine z_aload_n C 1 dX10_joins_258 rfl ?_
        refine z_iload_n C 2 dX10_joins_259 rfl ?_
        refine z_iload_n C 3 dX10_joins_260 rfl ?_
        refine z_iload C 5 dX10_joins_261 rfl ?_
        refine z_iconst (z := 1) C dX10_joins_263 rfl ?_
        refine z_iadd C dX10_joins_264 ?_
        refine z_iload C 0 dX10_joins_265 rfl ?_
        have hgy36 := (hfvy33 (i) (ne_o (i := i) (c := 0) (d := 1) rfl)).trans hgy31
        refine z_cV (As := [.int (zI ((b : Int))), .int (zI ((s : Int))), .int (zI (((k : Int)) + 1)), .int (zI (5))]) (rest := [.int (zI (5)), .int (zI ((k : Int))), .int (zI ((s : Int))), .int (zI ((b : Int))), .ref (ad i)]) (ci := 12) C (c_X10_of l D A cs tt N ad _ i hN _ hgy36 _ hcvy33 b s p hp (by omega) (by omega) (((k : Int)) + 1) (5) (qy10 + 5) (by omega) (by omega) (by omega)) (lt_A0 hN rfl) hay3 hgy36 rfl rfl mv_yX10_of q_1749 hd_yX10_of (by decide) (Nat.le_of_ble_eq_true rfl) (by decide) dX10_joins_267 rfl (kI0 fun vy37 gvy37 hvy37 => ?_)
        obtain ⟨rfl, rfl⟩ := hvy37
        rw [show ry34 (qy10 + 5) = r9 (qy10 + 5) from (congrFun hvy35 _).trans ((uZ_n _ _ (by omega)).trans ((congrFun hvy30 _).trans ((uZ_n _ _ (by omega)).trans ((congrFun hvy25 _).trans ((uZ_n _ _ (by omega)).trans ((congrFun hvy20 _).trans ((uZ_n _ _ (by omega)).trans ((congrFun hvy15 _).trans ((uZ_n _ _ (by omega)).trans (rfl))))))))))]
        refine z_cV (As := [.int (zI ((b : Int))), .int (zI ((s : Int))), .int (zI ((k : Int))), .int (zI (5)), .int (zI (r9 (qy10 + 5)))]) (rest := []) (ci := 12) C (c_X10_sets l D A cs tt N ad _ i hN _ hgy36 _ hcvy33 b s p hp (by omega) (by omega) ((k : Int)) (5) (qy12 + 5) (by omega) (by omega) (by omega) (r9 (qy10 + 5))) (lt_A0 hN rfl) hay3 hgy36 rfl rfl mv_yX10_sets q_1908 hd_yX10_sets (by decide) (Nat.le_of_ble_eq_true rfl) (by decide) dX10_joins_270 rfl (kV0 fun gvy38 hvy38 => ?_)
        obtain ⟨hcvy38, hfvy38⟩ := hvy38
        obtain ⟨ry39, hvy40⟩ : ∃ rZ9 : Nat → Int, rZ9 = uZ ry34 (qy12 + 5) (r9 (qy10 + 5)) := ⟨_, rfl⟩
        rw [← hvy40] at hcvy38
        refine z_iinc (z := 6) (lv' := [(9, .int (zI (6))), (0, .ref (ad i)), (1, .int (zI ((b : Int)))), (2, .int (zI ((s : Int)))), (7, .int (zI (11))), (8, .int (zI ((k : Int))))]) (j := 0) C dX10_joins_273 rfl (congrArg zI (by omega)) (by decide) rfl ?_
        refine z_goto (tgt := 244) C dX10_joins_276 (by decide) ?_
        refine z_iload C 0 dX10_joins_244 rfl ?_
        refine z_bipush (z := 7) C dX10_joins_246 (by decide) ?_
        refine z_icmp_ge (tgt := 279) C dX10_joins_248 (by decide) (by omega) (by omega) (fun h => absurd h (by omega)) (fun _ => ?_)
        refine z_aload_n C 1 dX10_joins_251 rfl ?_
        refine z_iload_n C 2 dX10_joins_252 rfl ?_
        refine z_iload_n C 3 dX10_joins_253 rfl ?_
        refine z_iload C 5 dX10_joins_254 rfl ?_
        refine z_iload C 0 dX10_joins_256 rfl ?_
        refine z_aload_n C 1 dX10_joins_258 rfl ?_
        refine z_iload_n C 2 dX10_joins_259 rfl ?_
        refine z_iload_n C 3 dX10_joins_260 rfl ?_
        refine z_iload C 5 dX10_joins_261 rfl ?_
        refine z_iconst (z := 1) C dX10_joins_263 rfl ?_
        refine z_iadd C dX10_joins_264 ?_
        refine z_iload C 0 dX10_joins_265 rfl ?_
        have hgy41 := (hfvy38 (i) (ne_o (i := i) (c := 0) (d := 1) rfl)).trans hgy36
        refine z_cV (As := [.int (zI ((b : Int))), .int (zI ((s : Int))), .int (zI (((k : Int)) + 1)), .int (zI (6))]) (rest := [.int (zI (6)), .int (zI ((k : Int))), .int (zI ((s : Int))), .int (zI ((b : Int))), .ref (ad i)]) (ci := 12) C (c_X10_of l D A cs tt N ad _ i hN _ hgy41 _ hcvy38 b s p hp (by omega) (by omega) (((k : Int)) + 1) (6) (qy10 + 6) (by omega) (by omega) (by omega)) (lt_A0 hN rfl) hay3 hgy41 rfl rfl mv_yX10_of q_1749 hd_yX10_of (by decide) (Nat.le_of_ble_eq_true rfl) (by decide) dX10_joins_267 rfl (kI0 fun vy42 gvy42 hvy42 => ?_)
        obtain ⟨rfl, rfl⟩ := hvy42
        rw [show ry39 (qy10 + 6) = r9 (qy10 + 6) from (congrFun hvy40 _).trans ((uZ_n _ _ (by omega)).trans ((congrFun hvy35 _).trans ((uZ_n _ _ (by omega)).trans ((congrFun hvy30 _).trans ((uZ_n _ _ (by omega)).trans ((congrFun hvy25 _).trans ((uZ_n _ _ (by omega)).trans ((congrFun hvy20 _).trans ((uZ_n _ _ (by omega)).trans ((congrFun hvy15 _).trans ((uZ_n _ _ (by omega)).trans (rfl))))))))))))]
        refine z_cV (As := [.int (zI ((b : Int))), .int (zI ((s : Int))), .int (zI ((k : Int))), .int (zI (6)), .int (zI (r9 (qy10 + 6)))]) (rest := []) (ci := 12) C (c_X10_sets l D A cs tt N ad _ i hN _ hgy41 _ hcvy38 b s p hp (by omega) (by omega) ((k : Int)) (6) (qy12 + 6) (by omega) (by omega) (by omega) (r9 (qy10 + 6))) (lt_A0 hN rfl) hay3 hgy41 rfl rfl mv_yX10_sets q_1908 hd_yX10_sets (by decide) (Nat.le_of_ble_eq_true rfl) (by decide) dX10_joins_270 rfl (kV0 fun gvy43 hvy43 => ?_)
        obtain ⟨hcvy43, hfvy43⟩ := hvy43
        obtain ⟨ry44, hvy45⟩ : ∃ rZ9 : Nat → Int, rZ9 = uZ ry39 (qy12 + 6) (r9 (qy10 + 6)) := ⟨_, rfl⟩
        rw [← hvy45] at hcvy43
        refine z_iinc (z := 7) (lv' := [(9, .int (zI (7))), (0, .ref (ad i)), (1, .int (zI ((b : Int)))), (2, .int (zI ((s : Int)))), (7, .int (zI (11))), (8, .int (zI ((k : Int))))]) (j := 0) C dX10_joins_273 rfl (congrArg zI (by omega)) (by decide) rfl ?_
        refine z_goto (tgt := 244) C dX10_joins_276 (by decide) ?_
        refine z_iload C 0 dX10_joins_244 rfl ?_
        refine z_bipush (z := 7) C dX10_joins_246 (by decide) ?_
        refine z_icmp_ge (tgt := 279) C dX10_joins_248 (by decide) (by omega) (by omega) (fun _ => ?_) (fun h => absurd h (by omega))
        refine z_iinc (z := (k : Int) + 1) (lv' := [(8, .int (zI ((k : Int) + 1))), (9, .int (zI (7))), (0, .ref (ad i)), (1, .int (zI ((b : Int)))), (2, .int (zI ((s : Int)))), (7, .int (zI (11)))]) (j := 5) C dX10_joins_279 rfl rfl (by decide) rfl ?_
        refine z_goto (tgt := 234) C dX10_joins_282 (by decide) ?_
        have hfry46 : ∀ j, j ≠ qy12 + 6 → j ≠ qy12 + 5 → j ≠ qy12 + 4 → j ≠ qy12 + 3 → j ≠ qy12 + 2 → j ≠ qy12 + 1 → j ≠ qy12 → ry44 j = r9 j := fun j n0 n1 n2 n3 n4 n5 n6 => (congrFun hvy45 _).trans ((uZ_n _ _ n0).trans ((congrFun hvy40 _).trans ((uZ_n _ _ n1).trans ((congrFun hvy35 _).trans ((uZ_n _ _ n2).trans ((congrFun hvy30 _).trans ((uZ_n _ _ n3).trans ((congrFun hvy25 _).trans ((uZ_n _ _ n4).trans ((congrFun hvy20 _).trans ((uZ_n _ _ n5).trans ((congrFun hvy15 _).trans ((uZ_n _ _ n6).trans (rfl))))))))))))))
        have hu0 : ry44 (qy12) = K (7 * (k + 1) + 0) := ((congrFun hvy45 _).trans ((uZ_n _ _ (by omega)).trans ((congrFun hvy40 _).trans ((uZ_n _ _ (by omega)).trans ((congrFun hvy35 _).trans ((uZ_n _ _ (by omega)).trans ((congrFun hvy30 _).trans ((uZ_n _ _ (by omega)).trans ((congrFun hvy25 _).trans ((uZ_n _ _ (by omega)).trans ((congrFun hvy20 _).trans ((uZ_n _ _ (by omega)).trans ((congrFun hvy15 _).trans (uZ_s _ _ _)))))))))))))).trans ((congrArg r9 (show qy10 = p + 2 + 7 * (k + 1) + 0 by omega)).trans (hC9 (k + 1) 0 (by omega) (by omega) (by omega)))
        have hu1 : ry44 (qy12 + 1) = K (7 * (k + 1) + 1) := ((congrFun hvy45 _).trans ((uZ_n _ _ (by omega)).trans ((congrFun hvy40 _).trans ((uZ_n _ _ (by omega)).trans ((congrFun hvy35 _).trans ((uZ_n _ _ (by omega)).trans ((congrFun hvy30 _).trans ((uZ_n _ _ (by omega)).trans ((congrFun hvy25 _).trans ((uZ_n _ _ (by omega)).trans ((congrFun hvy20 _).trans (uZ_s _ _ _)))))))))))).trans ((congrArg r9 (show qy10 + 1 = p + 2 + 7 * (k + 1) + 1 by omega)).trans (hC9 (k + 1) 1 (by omega) (by omega) (by omega)))
        have hu2 : ry44 (qy12 + 2) = K (7 * (k + 1) + 2) := ((congrFun hvy45 _).trans ((uZ_n _ _ (by omega)).trans ((congrFun hvy40 _).trans ((uZ_n _ _ (by omega)).trans ((congrFun hvy35 _).trans ((uZ_n _ _ (by omega)).trans ((congrFun hvy30 _).trans ((uZ_n _ _ (by omega)).trans ((congrFun hvy25 _).trans (uZ_s _ _ _)))))))))).trans ((congrArg r9 (show qy10 + 2 = p + 2 + 7 * (k + 1) + 2 by omega)).trans (hC9 (k + 1) 2 (by omega) (by omega) (by omega)))
        have hu3 : ry44 (qy12 + 3) = K (7 * (k + 1) + 3) := ((congrFun hvy45 _).trans ((uZ_n _ _ (by omega)).trans ((congrFun hvy40 _).trans ((uZ_n _ _ (by omega)).trans ((congrFun hvy35 _).trans ((uZ_n _ _ (by omega)).trans ((congrFun hvy30 _).trans (uZ_s _ _ _)))))))).trans ((congrArg r9 (show qy10 + 3 = p + 2 + 7 * (k + 1) + 3 by omega)).trans (hC9 (k + 1) 3 (by omega) (by omega) (by omega)))
        have hu4 : ry44 (qy12 + 4) = K (7 * (k + 1) + 4) := ((congrFun hvy45 _).trans ((uZ_n _ _ (by omega)).trans ((congrFun hvy40 _).trans ((uZ_n _ _ (by omega)).trans ((congrFun hvy35 _).trans (uZ_s _ _ _)))))).trans ((congrArg r9 (show qy10 + 4 = p + 2 + 7 * (k + 1) + 4 by omega)).trans (hC9 (k + 1) 4 (by omega) (by omega) (by omega)))
        have hu5 : ry44 (qy12 + 5) = K (7 * (k + 1) + 5) := ((congrFun hvy45 _).trans ((uZ_n _ _ (by omega)).trans ((congrFun hvy40 _).trans (uZ_s _ _ _)))).trans ((congrArg r9 (show qy10 + 5 = p + 2 + 7 * (k + 1) + 5 by omega)).trans (hC9 (k + 1) 5 (by omega) (by omega) (by omega)))
        have hu6 : ry44 (qy12 + 6) = K (7 * (k + 1) + 6) := ((congrFun hvy45 _).trans (uZ_s _ _ _)).trans ((congrArg r9 (show qy10 + 6 = p + 2 + 7 * (k + 1) + 6 by omega)).trans (hC9 (k + 1) 6 (by omega) (by omega) (by omega)))
        have hsh : ∀ l f : Nat, 1 ≤ l → l < k + 1 → f < 7 → ry44 (p + 2 + 7 * l + f) = K (7 * (l + 1) + f) := by
          intro l f a1 a2 a3
          by_cases e : l = k
          · subst e; rw [hqy12]; rcases (show f = 0 ∨ f = 1 ∨ f = 2 ∨ f = 3 ∨ f = 4 ∨ f = 5 ∨ f = 6 by omega) with rfl | rfl | rfl | rfl | rfl | rfl | rfl
            · exact hu0
            · exact hu1
            · exact hu2
            · exact hu3
            · exact hu4
            · exact hu5
            · exact hu6
          · exact (hfry46 _ (by omega) (by omega) (by omega) (by omega) (by omega) (by omega) (by omega)).trans (hB9 l f a1 (by omega) a3)
        refine z_lv (lv' := [(0, .ref (ad i)), (1, .int (zI ((b : Int)))), (2, .int (zI ((s : Int)))), (7, .int (zI (11))), (8, .int (zI ((k : Int) + 1)))]) [2, 3, 4, 5, 0] rfl ?_
        exact ih _ (by omega) ((k : Int) + 1) ry44 (k + 1) gvy43 rfl hcvy43 (fun j j1 => by rw [hfvy43 _ (by omega)]; rw [hfvy38 _ (by omega)]; rw [hfvy33 _ (by omega)]; rw [hfvy28 _ (by omega)]; rw [hfvy23 _ (by omega)]; rw [hfvy18 _ (by omega)]; rw [hfvy13 _ (by omega)]; exact f3 j j1) (fun j a1 => (hfry46 j (by omega) (by omega) (by omega) (by omega) (by omega) (by omega) (by omega)).trans (f5 j a1)) ((hfry46 (p + 1) (by omega) (by omega) (by omega) (by omega) (by omega) (by omega) (by omega)).trans hr9) (by omega) (by omega) (fun f a1 => (hfry46 _ (by omega) (by omega) (by omega) (by omega) (by omega) (by omega) (by omega)).trans (hA9 f a1)) hsh (fun l f a1 a2 a3 => (hfry46 _ (by omega) (by omega) (by omega) (by omega) (by omega) (by omega) (by omega)).trans (hC9 l f (by omega) a2 a3))
  refine z_iload_n C 1 dX10_joins_0 rfl ?_
  refine z_iload_n C 2 dX10_joins_1 rfl ?_
  refine z_iconst (z := 0) C dX10_joins_2 rfl ?_
  have hqy47k : (0 : Int) = ((0 : Nat) : Int) := by omega
  obtain ⟨qy47, hqy47⟩ : ∃ q9 : Nat, p + 2 + 7 * 0 = q9 := ⟨_, rfl⟩
  refine z_cS (As := [.int (zI ((b : Int))), .int (zI ((s : Int))), .int (zI (0))]) (rest := []) C (c_X10_at l D A cs tt N ad _ ((b : Int)) (by omega) ((s : Int)) (by omega) (0) (by omega)) ms_yX10_at q_1753 hd_yX10_at (by decide) (Nat.le_of_ble_eq_true rfl) (by decide) dX10_joins_3 rfl (kI0 fun vy48 gvy48 hvy48 => ?_)
  obtain ⟨hvy48, rfl⟩ := hvy48
  rw [show vy48 = (qy47 : Int) by omega]
  refine z_istore_n (lv' := [(3, .int (zI ((qy47 : Int)))), (0, .ref (ad i)), (1, .int (zI ((b : Int)))), (2, .int (zI ((s : Int))))]) C dX10_joins_6 rfl (by decide) rfl ?_
  refine z_iload_n C 2 dX10_joins_7 rfl ?_
  refine z_iload_n C 3 dX10_joins_8 rfl ?_
  refine z_iconst (z := 1) C dX10_joins_9 rfl ?_
  have hqy49k : (1 : Int) = ((1 : Nat) : Int) := by omega
  obtain ⟨qy49, hqy49⟩ : ∃ q9 : Nat, p + 2 + 7 * 1 = q9 := ⟨_, rfl⟩
  refine z_cS (As := [.int (zI ((b : Int))), .int (zI ((s : Int))), .int (zI (1))]) (rest := []) C (c_X10_at l D A cs tt N ad _ ((b : Int)) (by omega) ((s : Int)) (by omega) (1) (by omega)) ms_yX10_at q_1753 hd_yX10_at (by decide) (Nat.le_of_ble_eq_true rfl) (by decide) dX10_joins_10 rfl (kI0 fun vy50 gvy50 hvy50 => ?_)
  obtain ⟨hvy50, rfl⟩ := hvy50
  rw [show vy50 = (qy49 : Int) by omega]
  refine z_istore (lv' := [(4, .int (zI ((qy49 : Int)))), (3, .int (zI ((qy47 : Int)))), (0, .ref (ad i)), (1, .int (zI ((b : Int)))), (2, .int (zI ((s : Int))))]) C dX10_joins_13 (by decide) rfl ?_
  refine z_aload_n C 2 dX10_joins_15 rfl ?_
  refine z_get (v := .ref (ad (i + 1))) C (lt_A0 hN rfl) hay1 hg rfl inA_X10 0 (by decide) q_1459 rfl rfl dX10_joins_16 ?_
  refine z_iload_n C 1 dX10_joins_19 rfl ?_
  refine z_iconst (z := 1) C dX10_joins_20 rfl ?_
  refine z_iadd C dX10_joins_21 ?_
  refine z_iald C (lt_A (c := 1) hN rfl) hay2 ha1 (qy47 + 1) (by omega) (by omega) (by decide) dX10_joins_22 ?_
  rw [show r (qy47 + 1) = K 1 from (congrArg r (show qy47 + 1 = p + 2 + (7 * 0 + 1) by omega)).trans (hC (7 * 0 + 1) (by omega))]
  refine z_aload_n C 2 dX10_joins_23 rfl ?_
  refine z_get (v := .ref (ad (i + 1))) C (lt_A0 hN rfl) hay1 hg rfl inA_X10 0 (by decide) q_1459 rfl rfl dX10_joins_24 ?_
  refine z_iload C 0 dX10_joins_27 rfl ?_
  refine z_iconst (z := 1) C dX10_joins_29 rfl ?_
  refine z_iadd C dX10_joins_30 ?_
  refine z_iald C (lt_A (c := 1) hN rfl) hay2 ha1 (qy49 + 1) (by omega) (by omega) (by decide) dX10_joins_31 ?_
  rw [show r (qy49 + 1) = K 8 from (congrArg r (show qy49 + 1 = p + 2 + (7 * 1 + 1) by omega)).trans (hC (7 * 1 + 1) (by omega))]
  refine z_iadd C dX10_joins_32 ?_
  refine z_istore (lv' := [(5, .int (zI ((K 1) + (K 8)))), (4, .int (zI ((qy49 : Int)))), (3, .int (zI ((qy47 : Int)))), (0, .ref (ad i)), (1, .int (zI ((b : Int)))), (2, .int (zI ((s : Int))))]) C dX10_joins_33 (by decide) rfl ?_
  refine z_aload_n C 3 dX10_joins_35 rfl ?_
  refine z_get (v := .ref (ad (i + 1))) C (lt_A0 hN rfl) hay1 hg rfl inA_X10 0 (by decide) q_1459 rfl rfl dX10_joins_36 ?_
  refine z_iload_n C 2 dX10_joins_39 rfl ?_
  refine z_iconst (z := 4) C dX10_joins_40 rfl ?_
  refine z_iadd C dX10_joins_41 ?_
  refine z_iald C (lt_A (c := 1) hN rfl) hay2 ha1 (qy47 + 4) (by omega) (by omega) (by decide) dX10_joins_42 ?_
  rw [show r (qy47 + 4) = K 4 from (congrArg r (show qy47 + 4 = p + 2 + (7 * 0 + 4) by omega)).trans (hC (7 * 0 + 4) (by omega))]
  refine z_aload_n C 3 dX10_joins_43 rfl ?_
  refine z_get (v := .ref (ad (i + 1))) C (lt_A0 hN rfl) hay1 hg rfl inA_X10 0 (by decide) q_1459 rfl rfl dX10_joins_44 ?_
  refine z_iload_n C 2 dX10_joins_47 rfl ?_
  refine z_iconst (z := 1) C dX10_joins_48 rfl ?_
  refine z_iadd C dX10_joins_49 ?_
  refine z_iald C (lt_A (c := 1) hN rfl) hay2 ha1 (qy47 + 1) (by omega) (by omega) (by decide) dX10_joins_50 ?_
  rw [show r (qy47 + 1) = K 1 from (congrArg r (show qy47 + 1 = p + 2 + (7 * 0 + 1) by omega)).trans (hC (7 * 0 + 1) (by omega))]
  refine z_imul C dX10_joins_51 ?_
  refine z_aload_n C 3 dX10_joins_52 rfl ?_
  refine z_get (v := .ref (ad (i + 1))) C (lt_A0 hN rfl) hay1 hg rfl inA_X10 0 (by decide) q_1459 rfl rfl dX10_joins_53 ?_
  refine z_iload C 1 dX10_joins_56 rfl ?_
  refine z_iconst (z := 4) C dX10_joins_58 rfl ?_
  refine z_iadd C dX10_joins_59 ?_
  refine z_iald C (lt_A (c := 1) hN rfl) hay2 ha1 (qy49 + 4) (by omega) (by omega) (by decide) dX10_joins_60 ?_
  rw [show r (qy49 + 4) = K 11 from (congrArg r (show qy49 + 4 = p + 2 + (7 * 1 + 4) by omega)).trans (hC (7 * 1 + 4) (by omega))]
  refine z_aload_n C 3 dX10_joins_61 rfl ?_
  refine z_get (v := .ref (ad (i + 1))) C (lt_A0 hN rfl) hay1 hg rfl inA_X10 0 (by decide) q_1459 rfl rfl dX10_joins_62 ?_
  refine z_iload C 1 dX10_joins_65 rfl ?_
  refine z_iconst (z := 1) C dX10_joins_67 rfl ?_
  refine z_iadd C dX10_joins_68 ?_
  refine z_iald C (lt_A (c := 1) hN rfl) hay2 ha1 (qy49 + 1) (by omega) (by omega) (by decide) dX10_joins_69 ?_
  rw [show r (qy49 + 1) = K 8 from (congrArg r (show qy49 + 1 = p + 2 + (7 * 1 + 1) by omega)).trans (hC (7 * 1 + 1) (by omega))]
  refine z_imul C dX10_joins_70 ?_
  refine z_iadd C dX10_joins_71 ?_
  refine z_iload C 0 dX10_joins_72 rfl ?_
  refine z_idiv C dX10_joins_74 (by omega) (by omega) (by omega) ?_
  refine z_istore (lv' := [(6, .int (zI ((((K 4) * (K 1)) + ((K 11) * (K 8))).tdiv ((K 1) + (K 8))))), (5, .int (zI ((K 1) + (K 8)))), (4, .int (zI ((qy49 : Int)))), (3, .int (zI ((qy47 : Int)))), (0, .ref (ad i)), (1, .int (zI ((b : Int)))), (2, .int (zI ((s : Int))))]) C dX10_joins_75 (by decide) rfl ?_
  refine z_aload_n C 4 dX10_joins_77 rfl ?_
  refine z_get (v := .ref (ad (i + 1))) C (lt_A0 hN rfl) hay1 hg rfl inA_X10 0 (by decide) q_1459 rfl rfl dX10_joins_78 ?_
  refine z_iload C 2 dX10_joins_81 rfl ?_
  refine z_iconst (z := 1) C dX10_joins_83 rfl ?_
  refine z_iadd C dX10_joins_84 ?_
  refine z_iald C (lt_A (c := 1) hN rfl) hay2 ha1 (qy49 + 1) (by omega) (by omega) (by decide) dX10_joins_85 ?_
  rw [show r (qy49 + 1) = K 8 from (congrArg r (show qy49 + 1 = p + 2 + (7 * 1 + 1) by omega)).trans (hC (7 * 1 + 1) (by omega))]
  refine z_aload_n C 4 dX10_joins_86 rfl ?_
  refine z_get (v := .ref (ad (i + 1))) C (lt_A0 hN rfl) hay1 hg rfl inA_X10 0 (by decide) q_1459 rfl rfl dX10_joins_87 ?_
  refine z_iload_n C 3 dX10_joins_90 rfl ?_
  refine z_iconst (z := 1) C dX10_joins_91 rfl ?_
  refine z_iadd C dX10_joins_92 ?_
  refine z_iald C (lt_A (c := 1) hN rfl) hay2 ha1 (qy47 + 1) (by omega) (by omega) (by decide) dX10_joins_93 ?_
  rw [show r (qy47 + 1) = K 1 from (congrArg r (show qy47 + 1 = p + 2 + (7 * 0 + 1) by omega)).trans (hC (7 * 0 + 1) (by omega))]
  refine z_icmp_le (tgt := 133) C dX10_joins_94 (by decide) (by omega) (by omega) (fun hby51 => ?_) (fun hby51 => ?_)
  · refine z_aload_n C 4 dX10_joins_133 rfl ?_
    refine z_get (v := .ref (ad (i + 1))) C (lt_A0 hN rfl) hay1 hg rfl inA_X10 0 (by decide) q_1459 rfl rfl dX10_joins_134 ?_
    refine z_iload_n C 3 dX10_joins_137 rfl ?_
    refine z_iconst (z := 1) C dX10_joins_138 rfl ?_
    refine z_iadd C dX10_joins_139 ?_
    refine z_iload C 1 dX10_joins_140 rfl ?_
    refine z_iast C (lt_A (c := 1) hN rfl) hay2 ha1 (qy47 + 1) (by omega) (by omega) (by decide) dX10_joins_142 (fun gy52 egy53 => ?_)
    have hgy54 := up_s egy53
    obtain ⟨ry55, hvy56⟩ : ∃ rZ9 : Nat → Int, rZ9 = uZ r (qy47 + 1) ((K 1) + (K 8)) := ⟨_, rfl⟩
    rw [← hvy56] at hgy54
    obtain ⟨Ky58, hKy59⟩ : ∃ KZ9 : Nat → Int, KZ9 = uZ K 1 ((K 1) + (K 8)) := ⟨_, rfl⟩
    have hCy57 := lay_r hC hvy56 hKy59 (by omega)
    refine z_aload_n C 4 dX10_joins_143 rfl ?_
    have hgy60 := up_n egy53 hg (ne_o (i := i) (c := 0) (d := 1) rfl)
    refine z_get (v := .ref (ad (i + 1))) C (lt_A0 hN rfl) hay1 hgy60 rfl inA_X10 0 (by decide) q_1459 rfl rfl dX10_joins_144 ?_
    refine z_iload_n C 3 dX10_joins_147 rfl ?_
    refine z_iconst (z := 2) C dX10_joins_148 rfl ?_
    refine z_iadd C dX10_joins_149 ?_
    refine z_dup2 C dX10_joins_150 rfl rfl ?_
    refine z_iald C (lt_A (c := 1) hN rfl) hay2 hgy54 (qy47 + 2) (by omega) (by omega) (by decide) dX10_joins_151 ?_
    rw [show ry55 (qy47 + 2) = r (qy47 + 2) from (congrFun hvy56 _).trans ((uZ_n _ _ (by omega)).trans (rfl))]
    rw [show r (qy47 + 2) = K 2 from (congrArg r (show qy47 + 2 = p + 2 + (7 * 0 + 2) by omega)).trans (hC (7 * 0 + 2) (by omega))]
    refine z_aload_n C 4 dX10_joins_152 rfl ?_
    refine z_get (v := .ref (ad (i + 1))) C (lt_A0 hN rfl) hay1 hgy60 rfl inA_X10 0 (by decide) q_1459 rfl rfl dX10_joins_153 ?_
    refine z_iload C 2 dX10_joins_156 rfl ?_
    refine z_iconst (z := 2) C dX10_joins_158 rfl ?_
    refine z_iadd C dX10_joins_159 ?_
    refine z_iald C (lt_A (c := 1) hN rfl) hay2 hgy54 (qy49 + 2) (by omega) (by omega) (by decide) dX10_joins_160 ?_
    rw [show ry55 (qy49 + 2) = r (qy49 + 2) from (congrFun hvy56 _).trans ((uZ_n _ _ (by omega)).trans (rfl))]
    rw [show r (qy49 + 2) = K 9 from (congrArg r (show qy49 + 2 = p + 2 + (7 * 1 + 2) by omega)).trans (hC (7 * 1 + 2) (by omega))]
    refine z_iadd C dX10_joins_161 ?_
    refine z_iast C (lt_A (c := 1) hN rfl) hay2 hgy54 (qy47 + 2) (by omega) (by omega) (by decide) dX10_joins_162 (fun gy61 egy62 => ?_)
    have hgy63 := up_s egy62
    obtain ⟨ry64, hvy65⟩ : ∃ rZ9 : Nat → Int, rZ9 = uZ ry55 (qy47 + 2) ((K 2) + (K 9)) := ⟨_, rfl⟩
    rw [← hvy65] at hgy63
    obtain ⟨Ky67, hKy68⟩ : ∃ KZ9 : Nat → Int, KZ9 = uZ Ky58 2 ((K 2) + (K 9)) := ⟨_, rfl⟩
    have hCy66 := lay_r hCy57 hvy65 hKy68 (by omega)
    refine z_aload_n C 4 dX10_joins_163 rfl ?_
    have hgy69 := up_n egy62 hgy60 (ne_o (i := i) (c := 0) (d := 1) rfl)
    refine z_get (v := .ref (ad (i + 1))) C (lt_A0 hN rfl) hay1 hgy69 rfl inA_X10 0 (by decide) q_1459 rfl rfl dX10_joins_164 ?_
    refine z_iload_n C 3 dX10_joins_167 rfl ?_
    refine z_iconst (z := 3) C dX10_joins_168 rfl ?_
    refine z_iadd C dX10_joins_169 ?_
    refine z_dup2 C dX10_joins_170 rfl rfl ?_
    refine z_iald C (lt_A (c := 1) hN rfl) hay2 hgy63 (qy47 + 3) (by omega) (by omega) (by decide) dX10_joins_171 ?_
    rw [show ry64 (qy47 + 3) = r (qy47 + 3) from (congrFun hvy65 _).trans ((uZ_n _ _ (by omega)).trans ((congrFun hvy56 _).trans ((uZ_n _ _ (by omega)).trans (rfl))))]
    rw [show r (qy47 + 3) = K 3 from (congrArg r (show qy47 + 3 = p + 2 + (7 * 0 + 3) by omega)).trans (hC (7 * 0 + 3) (by omega))]
    refine z_aload_n C 4 dX10_joins_172 rfl ?_
    refine z_get (v := .ref (ad (i + 1))) C (lt_A0 hN rfl) hay1 hgy69 rfl inA_X10 0 (by decide) q_1459 rfl rfl dX10_joins_173 ?_
    refine z_iload C 2 dX10_joins_176 rfl ?_
    refine z_iconst (z := 3) C dX10_joins_178 rfl ?_
    refine z_iadd C dX10_joins_179 ?_
    refine z_iald C (lt_A (c := 1) hN rfl) hay2 hgy63 (qy49 + 3) (by omega) (by omega) (by decide) dX10_joins_180 ?_
    rw [show ry64 (qy49 + 3) = r (qy49 + 3) from (congrFun hvy65 _).trans ((uZ_n _ _ (by omega)).trans ((congrFun hvy56 _).trans ((uZ_n _ _ (by omega)).trans (rfl))))]
    rw [show r (qy49 + 3) = K 10 from (congrArg r (show qy49 + 3 = p + 2 + (7 * 1 + 3) by omega)).trans (hC (7 * 1 + 3) (by omega))]
    refine z_iadd C dX10_joins_181 ?_
    refine z_iast C (lt_A (c := 1) hN rfl) hay2 hgy63 (qy47 + 3) (by omega) (by omega) (by decide) dX10_joins_182 (fun gy70 egy71 => ?_)
    have hgy72 := up_s egy71
    obtain ⟨ry73, hvy74⟩ : ∃ rZ9 : Nat → Int, rZ9 = uZ ry64 (qy47 + 3) ((K 3) + (K 10)) := ⟨_, rfl⟩
    rw [← hvy74] at hgy72
    obtain ⟨Ky76, hKy77⟩ : ∃ KZ9 : Nat → Int, KZ9 = uZ Ky67 3 ((K 3) + (K 10)) := ⟨_, rfl⟩
    have hCy75 := lay_r hCy66 hvy74 hKy77 (by omega)
    refine z_aload_n C 4 dX10_joins_183 rfl ?_
    have hgy78 := up_n egy71 hgy69 (ne_o (i := i) (c := 0) (d := 1) rfl)
    refine z_get (v := .ref (ad (i + 1))) C (lt_A0 hN rfl) hay1 hgy78 rfl inA_X10 0 (by decide) q_1459 rfl rfl dX10_joins_184 ?_
    refine z_iload_n C 3 dX10_joins_187 rfl ?_
    refine z_iconst (z := 4) C dX10_joins_188 rfl ?_
    refine z_iadd C dX10_joins_189 ?_
    refine z_iload C 0 dX10_joins_190 rfl ?_
    refine z_iast C (lt_A (c := 1) hN rfl) hay2 hgy72 (qy47 + 4) (by omega) (by omega) (by decide) dX10_joins_192 (fun gy79 egy80 => ?_)
    have hgy81 := up_s egy80
    obtain ⟨ry82, hvy83⟩ : ∃ rZ9 : Nat → Int, rZ9 = uZ ry73 (qy47 + 4) ((((K 4) * (K 1)) + ((K 11) * (K 8))).tdiv ((K 1) + (K 8))) := ⟨_, rfl⟩
    rw [← hvy83] at hgy81
    obtain ⟨Ky85, hKy86⟩ : ∃ KZ9 : Nat → Int, KZ9 = uZ Ky76 4 ((((K 4) * (K 1)) + ((K 11) * (K 8))).tdiv ((K 1) + (K 8))) := ⟨_, rfl⟩
    have hCy84 := lay_r hCy75 hvy83 hKy86 (by omega)
    refine z_aload_n C 4 dX10_joins_193 rfl ?_
    have hgy87 := up_n egy80 hgy78 (ne_o (i := i) (c := 0) (d := 1) rfl)
    refine z_get (v := .ref (ad (i + 1))) C (lt_A0 hN rfl) hay1 hgy87 rfl inA_X10 0 (by decide) q_1459 rfl rfl dX10_joins_194 ?_
    refine z_iload_n C 3 dX10_joins_197 rfl ?_
    refine z_iconst (z := 5) C dX10_joins_198 rfl ?_
    refine z_iadd C dX10_joins_199 ?_
    refine z_aload_n C 4 dX10_joins_200 rfl ?_
    refine z_get (v := .ref (ad (i + 1))) C (lt_A0 hN rfl) hay1 hgy87 rfl inA_X10 0 (by decide) q_1459 rfl rfl dX10_joins_201 ?_
    refine z_iload_n C 3 dX10_joins_204 rfl ?_
    refine z_iconst (z := 5) C dX10_joins_205 rfl ?_
    refine z_iadd C dX10_joins_206 ?_
    refine z_iald C (lt_A (c := 1) hN rfl) hay2 hgy81 (qy47 + 5) (by omega) (by omega) (by decide) dX10_joins_207 ?_
    rw [show ry82 (qy47 + 5) = r (qy47 + 5) from (congrFun hvy83 _).trans ((uZ_n _ _ (by omega)).trans ((congrFun hvy74 _).trans ((uZ_n _ _ (by omega)).trans ((congrFun hvy65 _).trans ((uZ_n _ _ (by omega)).trans ((congrFun hvy56 _).trans ((uZ_n _ _ (by omega)).trans (rfl))))))))]
    rw [show r (qy47 + 5) = K 5 from (congrArg r (show qy47 + 5 = p + 2 + (7 * 0 + 5) by omega)).trans (hC (7 * 0 + 5) (by omega))]
    refine z_aload_n C 4 dX10_joins_208 rfl ?_
    refine z_get (v := .ref (ad (i + 1))) C (lt_A0 hN rfl) hay1 hgy87 rfl inA_X10 0 (by decide) q_1459 rfl rfl dX10_joins_209 ?_
    refine z_iload C 2 dX10_joins_212 rfl ?_
    refine z_iconst (z := 5) C dX10_joins_214 rfl ?_
    refine z_iadd C dX10_joins_215 ?_
    refine z_iald C (lt_A (c := 1) hN rfl) hay2 hgy81 (qy49 + 5) (by omega) (by omega) (by decide) dX10_joins_216 ?_
    rw [show ry82 (qy49 + 5) = r (qy49 + 5) from (congrFun hvy83 _).trans ((uZ_n _ _ (by omega)).trans ((congrFun hvy74 _).trans ((uZ_n _ _ (by omega)).trans ((congrFun hvy65 _).trans ((uZ_n _ _ (by omega)).trans ((congrFun hvy56 _).trans ((uZ_n _ _ (by omega)).trans (rfl))))))))]
    rw [show r (qy49 + 5) = K 12 from (congrArg r (show qy49 + 5 = p + 2 + (7 * 1 + 5) by omega)).trans (hC (7 * 1 + 5) (by omega))]
    refine z_cS (As := [.int (zI (K 5)), .int (zI (K 12))]) (rest := [.int (zI (((qy47 : Int)) + 5)), .ref (ad (i + 1))]) C (c_X10_greater l D A cs tt N ad _ (K 5) (by omega) (K 12) (by omega)) ms_yX10_greater q_1905 hd_yX10_greater (by decide) (Nat.le_of_ble_eq_true rfl) (by decide) dX10_joins_217 rfl (kI0 fun vy88 gvy88 hvy88 => ?_)
    obtain ⟨hvy88, rfl⟩ := hvy88
    refine z_iast C (lt_A (c := 1) hN rfl) hay2 hgy81 (qy47 + 5) (by omega) (by omega) (by decide) dX10_joins_220 (fun gy89 egy90 => ?_)
    have hgy91 := up_s egy90
    obtain ⟨ry92, hvy93⟩ : ∃ rZ9 : Nat → Int, rZ9 = uZ ry82 (qy47 + 5) (vy88) := ⟨_, rfl⟩
    rw [← hvy93] at hgy91
    obtain ⟨Ky95, hKy96⟩ : ∃ KZ9 : Nat → Int, KZ9 = uZ Ky85 5 (vy88) := ⟨_, rfl⟩
    have hCy94 := lay_r hCy84 hvy93 hKy96 (by omega)
    refine z_aload_n C 4 dX10_joins_221 rfl ?_
    refine z_iload_n C 5 dX10_joins_222 rfl ?_
    refine z_iload_n C 6 dX10_joins_223 rfl ?_
    have hgy97 := up_n egy90 hgy87 (ne_o (i := i) (c := 0) (d := 1) rfl)
    refine z_cV (As := [.int (zI ((b : Int))), .int (zI ((s : Int)))]) (rest := []) (ci := 12) C (c_X10_many l D A cs tt N ad _ i hN _ hgy97 _ hgy91 b s p hp (by omega) (by omega)) (lt_A0 hN rfl) hay1 hgy97 rfl rfl mv_yX10_many q_1733 hd_yX10_many (by decide) (Nat.le_of_ble_eq_true rfl) (by decide) dX10_joins_224 rfl (kI0 fun vy98 gvy98 hvy98 => ?_)
    obtain ⟨rfl, rfl⟩ := hvy98
    rw [show ry92 (p) = r (p) from (congrFun hvy93 _).trans ((uZ_n _ _ (by omega)).trans ((congrFun hvy83 _).trans ((uZ_n _ _ (by omega)).trans ((congrFun hvy74 _).trans ((uZ_n _ _ (by omega)).trans ((congrFun hvy65 _).trans ((uZ_n _ _ (by omega)).trans ((congrFun hvy56 _).trans ((uZ_n _ _ (by omega)).trans (rfl))))))))))]
    rw [show r (p) = (n : Int) from hn]
    refine z_iconst (z := 1) C dX10_joins_227 rfl ?_
    refine z_isub C dX10_joins_228 ?_
    rw [show ((n : Int)) - 1 = 11 by omega]
    refine z_istore (lv' := [(7, .int (zI (11))), (6, .int (zI ((((K 4) * (K 1)) + ((K 11) * (K 8))).tdiv ((K 1) + (K 8))))), (5, .int (zI ((K 1) + (K 8)))), (4, .int (zI ((qy49 : Int)))), (3, .int (zI ((qy47 : Int)))), (0, .ref (ad i)), (1, .int (zI ((b : Int)))), (2, .int (zI ((s : Int))))]) C dX10_joins_229 (by decide) rfl ?_
    refine z_iconst (z := 1) C dX10_joins_231 rfl ?_
    refine z_istore (lv' := [(8, .int (zI (1))), (7, .int (zI (11))), (6, .int (zI ((((K 4) * (K 1)) + ((K 11) * (K 8))).tdiv ((K 1) + (K 8))))), (5, .int (zI ((K 1) + (K 8)))), (4, .int (zI ((qy49 : Int)))), (3, .int (zI ((qy47 : Int)))), (0, .ref (ad i)), (1, .int (zI ((b : Int)))), (2, .int (zI ((s : Int))))]) C dX10_joins_232 (by decide) rfl ?_
    have hfry99 : ∀ j, j ≠ qy47 + 5 → j ≠ qy47 + 4 → j ≠ qy47 + 3 → j ≠ qy47 + 2 → j ≠ qy47 + 1 → ry92 j = r j := fun j n0 n1 n2 n3 n4 => (congrFun hvy93 _).trans ((uZ_n _ _ n0).trans ((congrFun hvy83 _).trans ((uZ_n _ _ n1).trans ((congrFun hvy74 _).trans ((uZ_n _ _ n2).trans ((congrFun hvy65 _).trans ((uZ_n _ _ n3).trans ((congrFun hvy56 _).trans ((uZ_n _ _ n4).trans (rfl))))))))))
    have hA0 : ∀ f, f < 7 → ry92 (p + 2 + f) = joK K f := by
      intro f hf
      rw [hCy94 f (by omega)]
      rcases (show f = 0 ∨ f = 1 ∨ f = 2 ∨ f = 3 ∨ f = 4 ∨ f = 5 ∨ f = 6 by omega) with rfl | rfl | rfl | rfl | rfl | rfl | rfl
      · exact ((congrFun hKy96 _).trans ((uZ_n _ _ (by omega)).trans ((congrFun hKy86 _).trans ((uZ_n _ _ (by omega)).trans ((congrFun hKy77 _).trans ((uZ_n _ _ (by omega)).trans ((congrFun hKy68 _).trans ((uZ_n _ _ (by omega)).trans ((congrFun hKy59 _).trans ((uZ_n _ _ (by omega)).trans (rfl))))))))))).trans (by rw [joK_0]; split <;> omega)
      · exact ((congrFun hKy96 _).trans ((uZ_n _ _ (by omega)).trans ((congrFun hKy86 _).trans ((uZ_n _ _ (by omega)).trans ((congrFun hKy77 _).trans ((uZ_n _ _ (by omega)).trans ((congrFun hKy68 _).trans ((uZ_n _ _ (by omega)).trans ((congrFun hKy59 _).trans (uZ_s _ _ _)))))))))).trans (by rw [joK_1])
      · exact ((congrFun hKy96 _).trans ((uZ_n _ _ (by omega)).trans ((congrFun hKy86 _).trans ((uZ_n _ _ (by omega)).trans ((congrFun hKy77 _).trans ((uZ_n _ _ (by omega)).trans ((congrFun hKy68 _).trans (uZ_s _ _ _)))))))).trans (by rw [joK_2])
      · exact ((congrFun hKy96 _).trans ((uZ_n _ _ (by omega)).trans ((congrFun hKy86 _).trans ((uZ_n _ _ (by omega)).trans ((congrFun hKy77 _).trans (uZ_s _ _ _)))))).trans (by rw [joK_3])
      · exact ((congrFun hKy96 _).trans ((uZ_n _ _ (by omega)).trans ((congrFun hKy86 _).trans (uZ_s _ _ _)))).trans (by rw [joK_4]; rfl)
      · exact ((congrFun hKy96 _).trans (uZ_s _ _ _)).trans (by rw [joK_5]; split <;> omega)
      · exact ((congrFun hKy96 _).trans ((uZ_n _ _ (by omega)).trans ((congrFun hKy86 _).trans ((uZ_n _ _ (by omega)).trans ((congrFun hKy77 _).trans ((uZ_n _ _ (by omega)).trans ((congrFun hKy68 _).trans ((uZ_n _ _ (by omega)).trans ((congrFun hKy59 _).trans ((uZ_n _ _ (by omega)).trans (rfl))))))))))).trans (by rw [joK_6]; split <;> omega)
    refine z_lv (lv' := [(0, .ref (ad i)), (1, .int (zI ((b : Int)))), (2, .int (zI ((s : Int)))), (7, .int (zI (11))), (8, .int (zI (1)))]) [6, 7, 8, 1, 0] rfl ?_
    exact lp _ (1) ry92 1 gy89 rfl hgy91 (fun j j1 => by rw [egy90, va_up_ne _ _ (by omega)]; rw [egy80, va_up_ne _ _ (by omega)]; rw [egy71, va_up_ne _ _ (by omega)]; rw [egy62, va_up_ne _ _ (by omega)]; rw [egy53, va_up_ne _ _ (by omega)]) (fun j a1 => hfry99 j (by omega) (by omega) (by omega) (by omega) (by omega)) ((hfry99 (p + 1) (by omega) (by omega) (by omega) (by omega) (by omega)).trans hro) rfl (by omega) hA0 (fun l f a1 a2 a3 => absurd a2 (by omega)) (fun l f a1 a2 a3 => (hfry99 _ (by omega) (by omega) (by omega) (by omega) (by omega)).trans ((congrArg r (by omega)).trans (hC (7 * l + f) (by omega))))
  · refine z_aload_n C 4 dX10_joins_97 rfl ?_
    refine z_get (v := .ref (ad (i + 1))) C (lt_A0 hN rfl) hay1 hg rfl inA_X10 0 (by decide) q_1459 rfl rfl dX10_joins_98 ?_
    refine z_iload_n C 3 dX10_joins_101 rfl ?_
    refine z_iconst (z := 0) C dX10_joins_102 rfl ?_
    refine z_iadd C dX10_joins_103 ?_
    refine z_aload_n C 4 dX10_joins_104 rfl ?_
    refine z_get (v := .ref (ad (i + 1))) C (lt_A0 hN rfl) hay1 hg rfl inA_X10 0 (by decide) q_1459 rfl rfl dX10_joins_105 ?_
    refine z_iload C 2 dX10_joins_108 rfl ?_
    refine z_iconst (z := 0) C dX10_joins_110 rfl ?_
    refine z_iadd C dX10_joins_111 ?_
    refine z_iald C (lt_A (c := 1) hN rfl) hay2 ha1 (qy49) (by omega) (by omega) (by decide) dX10_joins_112 ?_
    rw [show r (qy49) = K 7 from (congrArg r (show qy49 = p + 2 + (7 * 1 + 0) by omega)).trans (hC (7 * 1 + 0) (by omega))]
    refine z_iast C (lt_A (c := 1) hN rfl) hay2 ha1 (qy47) (by omega) (by omega) (by decide) dX10_joins_113 (fun gy100 egy101 => ?_)
    have hgy102 := up_s egy101
    obtain ⟨ry103, hvy104⟩ : ∃ rZ9 : Nat → Int, rZ9 = uZ r (qy47) (K 7) := ⟨_, rfl⟩
    rw [← hvy104] at hgy102
    obtain ⟨Ky106, hKy107⟩ : ∃ KZ9 : Nat → Int, KZ9 = uZ K 0 (K 7) := ⟨_, rfl⟩
    have hCy105 := lay_r hC hvy104 hKy107 (by omega)
    refine z_aload_n C 4 dX10_joins_114 rfl ?_
    have hgy108 := up_n egy101 hg (ne_o (i := i) (c := 0) (d := 1) rfl)
    refine z_get (v := .ref (ad (i + 1))) C (lt_A0 hN rfl) hay1 hgy108 rfl inA_X10 0 (by decide) q_1459 rfl rfl dX10_joins_115 ?_
    refine z_iload_n C 3 dX10_joins_118 rfl ?_
    refine z_bipush (z := 6) C dX10_joins_119 (by decide) ?_
    refine z_iadd C dX10_joins_121 ?_
    refine z_aload_n C 4 dX10_joins_122 rfl ?_
    refine z_get (v := .ref (ad (i + 1))) C (lt_A0 hN rfl) hay1 hgy108 rfl inA_X10 0 (by decide) q_1459 rfl rfl dX10_joins_123 ?_
    refine z_iload C 2 dX10_joins_126 rfl ?_
    refine z_bipush (z := 6) C dX10_joins_128 (by decide) ?_
    refine z_iadd C dX10_joins_130 ?_
    refine z_iald C (lt_A (c := 1) hN rfl) hay2 hgy102 (qy49 + 6) (by omega) (by omega) (by decide) dX10_joins_131 ?_
    rw [show ry103 (qy49 + 6) = r (qy49 + 6) from (congrFun hvy104 _).trans ((uZ_n _ _ (by omega)).trans (rfl))]
    rw [show r (qy49 + 6) = K 13 from (congrArg r (show qy49 + 6 = p + 2 + (7 * 1 + 6) by omega)).trans (hC (7 * 1 + 6) (by omega))]
    refine z_iast C (lt_A (c := 1) hN rfl) hay2 hgy102 (qy47 + 6) (by omega) (by omega) (by decide) dX10_joins_132 (fun gy109 egy110 => ?_)
    have hgy111 := up_s egy110
    obtain ⟨ry112, hvy113⟩ : ∃ rZ9 : Nat → Int, rZ9 = uZ ry103 (qy47 + 6) (K 13) := ⟨_, rfl⟩
    rw [← hvy113] at hgy111
    obtain ⟨Ky115, hKy116⟩ : ∃ KZ9 : Nat → Int, KZ9 = uZ Ky106 6 (K 13) := ⟨_, rfl⟩
    have hCy114 := lay_r hCy105 hvy113 hKy116 (by omega)
    refine z_aload_n C 4 dX10_joins_133 rfl ?_
    have hgy117 := up_n egy110 hgy108 (ne_o (i := i) (c := 0) (d := 1) rfl)
    refine z_get (v := .ref (ad (i + 1))) C (lt_A0 hN rfl) hay1 hgy117 rfl inA_X10 0 (by decide) q_1459 rfl rfl dX10_joins_134 ?_
    refine z_iload_n C 3 dX10_joins_137 rfl ?_
    refine z_iconst (z := 1) C dX10_joins_138 rfl ?_
    refine z_iadd C dX10_joins_139 ?_
    refine z_iload C 1 dX10_joins_140 rfl ?_
    refine z_iast C (lt_A (c := 1) hN rfl) hay2 hgy111 (qy47 + 1) (by omega) (by omega) (by decide) dX10_joins_142 (fun gy118 egy119 => ?_)
    have hgy120 := up_s egy119
    obtain ⟨ry121, hvy122⟩ : ∃ rZ9 : Nat → Int, rZ9 = uZ ry112 (qy47 + 1) ((K 1) + (K 8)) := ⟨_, rfl⟩
    rw [← hvy122] at hgy120
    obtain ⟨Ky124, hKy125⟩ : ∃ KZ9 : Nat → Int, KZ9 = uZ Ky115 1 ((K 1) + (K 8)) := ⟨_, rfl⟩
    have hCy123 := lay_r hCy114 hvy122 hKy125 (by omega)
    refine z_aload_n C 4 dX10_joins_143 rfl ?_
    have hgy126 := up_n egy119 hgy117 (ne_o (i := i) (c := 0) (d := 1) rfl)
    refine z_get (v := .ref (ad (i + 1))) C (lt_A0 hN rfl) hay1 hgy126 rfl inA_X10 0 (by decide) q_1459 rfl rfl dX10_joins_144 ?_
    refine z_iload_n C 3 dX10_joins_147 rfl ?_
    refine z_iconst (z := 2) C dX10_joins_148 rfl ?_
    refine z_iadd C dX10_joins_149 ?_
    refine z_dup2 C dX10_joins_150 rfl rfl ?_
    refine z_iald C (lt_A (c := 1) hN rfl) hay2 hgy120 (qy47 + 2) (by omega) (by omega) (by decide) dX10_joins_151 ?_
    rw [show ry121 (qy47 + 2) = r (qy47 + 2) from (congrFun hvy122 _).trans ((uZ_n _ _ (by omega)).trans ((congrFun hvy113 _).trans ((uZ_n _ _ (by omega)).trans ((congrFun hvy104 _).trans ((uZ_n _ _ (by omega)).trans (rfl))))))]
    rw [show r (qy47 + 2) = K 2 from (congrArg r (show qy47 + 2 = p + 2 + (7 * 0 + 2) by omega)).trans (hC (7 * 0 + 2) (by omega))]
    refine z_aload_n C 4 dX10_joins_152 rfl ?_
    refine z_get (v := .ref (ad (i + 1))) C (lt_A0 hN rfl) hay1 hgy126 rfl inA_X10 0 (by decide) q_1459 rfl rfl dX10_joins_153 ?_
    refine z_iload C 2 dX10_joins_156 rfl ?_
    refine z_iconst (z := 2) C dX10_joins_158 rfl ?_
    refine z_iadd C dX10_joins_159 ?_
    refine z_iald C (lt_A (c := 1) hN rfl) hay2 hgy120 (qy49 + 2) (by omega) (by omega) (by decide) dX10_joins_160 ?_
    rw [show ry121 (qy49 + 2) = r (qy49 + 2) from (congrFun hvy122 _).trans ((uZ_n _ _ (by omega)).trans ((congrFun hvy113 _).trans ((uZ_n _ _ (by omega)).trans ((congrFun hvy104 _).trans ((uZ_n _ _ (by omega)).trans (rfl))))))]
    rw [show r (qy49 + 2) = K 9 from (congrArg r (show qy49 + 2 = p + 2 + (7 * 1 + 2) by omega)).trans (hC (7 * 1 + 2) (by omega))]
    refine z_iadd C dX10_joins_161 ?_
    refine z_iast C (lt_A (c := 1) hN rfl) hay2 hgy120 (qy47 + 2) (by omega) (by omega) (by decide) dX10_joins_162 (fun gy127 egy128 => ?_)
    have hgy129 := up_s egy128
    obtain ⟨ry130, hvy131⟩ : ∃ rZ9 : Nat → Int, rZ9 = uZ ry121 (qy47 + 2) ((K 2) + (K 9)) := ⟨_, rfl⟩
    rw [← hvy131] at hgy129
    obtain ⟨Ky133, hKy134⟩ : ∃ KZ9 : Nat → Int, KZ9 = uZ Ky124 2 ((K 2) + (K 9)) := ⟨_, rfl⟩
    have hCy132 := lay_r hCy123 hvy131 hKy134 (by omega)
    refine z_aload_n C 4 dX10_joins_163 rfl ?_
    have hgy135 := up_n egy128 hgy126 (ne_o (i := i) (c := 0) (d := 1) rfl)
    refine z_get (v := .ref (ad (i + 1))) C (lt_A0 hN rfl) hay1 hgy135 rfl inA_X10 0 (by decide) q_1459 rfl rfl dX10_joins_164 ?_
    refine z_iload_n C 3 dX10_joins_167 rfl ?_
    refine z_iconst (z := 3) C dX10_joins_168 rfl ?_
    refine z_iadd C dX10_joins_169 ?_
    refine z_dup2 C dX10_joins_170 rfl rfl ?_
    refine z_iald C (lt_A (c := 1) hN rfl) hay2 hgy129 (qy47 + 3) (by omega) (by omega) (by decide) dX10_joins_171 ?_
    rw [show ry130 (qy47 + 3) = r (qy47 + 3) from (congrFun hvy131 _).trans ((uZ_n _ _ (by omega)).trans ((congrFun hvy122 _).trans ((uZ_n _ _ (by omega)).trans ((congrFun hvy113 _).trans ((uZ_n _ _ (by omega)).trans ((congrFun hvy104 _).trans ((uZ_n _ _ (by omega)).trans (rfl))))))))]
    rw [show r (qy47 + 3) = K 3 from (congrArg r (show qy47 + 3 = p + 2 + (7 * 0 + 3) by omega)).trans (hC (7 * 0 + 3) (by omega))]
    refine z_aload_n C 4 dX10_joins_172 rfl ?_
    refine z_get (v := .ref (ad (i + 1))) C (lt_A0 hN rfl) hay1 hgy135 rfl inA_X10 0 (by decide) q_1459 rfl rfl dX10_joins_173 ?_
    refine z_iload C 2 dX10_joins_176 rfl ?_
    refine z_iconst (z := 3) C dX10_joins_178 rfl ?_
    refine z_iadd C dX10_joins_179 ?_
    refine z_iald C (lt_A (c := 1) hN rfl) hay2 hgy129 (qy49 + 3) (by omega) (by omega) (by decide) dX10_joins_180 ?_
    rw [show ry130 (qy49 + 3) = r (qy49 + 3) from (congrFun hvy131 _).trans ((uZ_n _ _ (by omega)).trans ((congrFun hvy122 _).trans ((uZ_n _ _ (by omega)).trans ((congrFun hvy113 _).trans ((uZ_n _ _ (by omega)).trans ((congrFun hvy104 _).trans ((uZ_n _ _ (by omega)).trans (rfl))))))))]
    rw [show r (qy49 + 3) = K 10 from (congrArg r (show qy49 + 3 = p + 2 + (7 * 1 + 3) by omega)).trans (hC (7 * 1 + 3) (by omega))]
    refine z_iadd C dX10_joins_181 ?_
    refine z_iast C (lt_A (c := 1) hN rfl) hay2 hgy129 (qy47 + 3) (by omega) (by omega) (by decide) dX10_joins_182 (fun gy136 egy137 => ?_)
    have hgy138 := up_s egy137
    obtain ⟨ry139, hvy140⟩ : ∃ rZ9 : Nat → Int, rZ9 = uZ ry130 (qy47 + 3) ((K 3) + (K 10)) := ⟨_, rfl⟩
    rw [← hvy140] at hgy138
    obtain ⟨Ky142, hKy143⟩ : ∃ KZ9 : Nat → Int, KZ9 = uZ Ky133 3 ((K 3) + (K 10)) := ⟨_, rfl⟩
    have hCy141 := lay_r hCy132 hvy140 hKy143 (by omega)
    refine z_aload_n C 4 dX10_joins_183 rfl ?_
    have hgy144 := up_n egy137 hgy135 (ne_o (i := i) (c := 0) (d := 1) rfl)
    refine z_get (v := .ref (ad (i + 1))) C (lt_A0 hN rfl) hay1 hgy144 rfl inA_X10 0 (by decide) q_1459 rfl rfl dX10_joins_184 ?_
    refine z_iload_n C 3 dX10_joins_187 rfl ?_
    refine z_iconst (z := 4) C dX10_joins_188 rfl ?_
    refine z_iadd C dX10_joins_189 ?_
    refine z_iload C 0 dX10_joins_190 rfl ?_
    refine z_iast C (lt_A (c := 1) hN rfl) hay2 hgy138 (qy47 + 4) (by omega) (by omega) (by decide) dX10_joins_192 (fun gy145 egy146 => ?_)
    have hgy147 := up_s egy146
    obtain ⟨ry148, hvy149⟩ : ∃ rZ9 : Nat → Int, rZ9 = uZ ry139 (qy47 + 4) ((((K 4) * (K 1)) + ((K 11) * (K 8))).tdiv ((K 1) + (K 8))) := ⟨_, rfl⟩
    rw [← hvy149] at hgy147
    obtain ⟨Ky151, hKy152⟩ : ∃ KZ9 : Nat → Int, KZ9 = uZ Ky142 4 ((((K 4) * (K 1)) + ((K 11) * (K 8))).tdiv ((K 1) + (K 8))) := ⟨_, rfl⟩
    have hCy150 := lay_r hCy141 hvy149 hKy152 (by omega)
    refine z_aload_n C 4 dX10_joins_193 rfl ?_
    have hgy153 := up_n egy146 hgy144 (ne_o (i := i) (c := 0) (d := 1) rfl)
    refine z_get (v := .ref (ad (i + 1))) C (lt_A0 hN rfl) hay1 hgy153 rfl inA_X10 0 (by decide) q_1459 rfl rfl dX10_joins_194 ?_
    refine z_iload_n C 3 dX10_joins_197 rfl ?_
    refine z_iconst (z := 5) C dX10_joins_198 rfl ?_
    refine z_iadd C dX10_joins_199 ?_
    refine z_aload_n C 4 dX10_joins_200 rfl ?_
    refine z_get (v := .ref (ad (i + 1))) C (lt_A0 hN rfl) hay1 hgy153 rfl inA_X10 0 (by decide) q_1459 rfl rfl dX10_joins_201 ?_
    refine z_iload_n C 3 dX10_joins_204 rfl ?_
    refine z_iconst (z := 5) C dX10_joins_205 rfl ?_
    refine z_iadd C dX10_joins_206 ?_
    refine z_iald C (lt_A (c := 1) hN rfl) hay2 hgy147 (qy47 + 5) (by omega) (by omega) (by decide) dX10_joins_207 ?_
    rw [show ry148 (qy47 + 5) = r (qy47 + 5) from (congrFun hvy149 _).trans ((uZ_n _ _ (by omega)).trans ((congrFun hvy140 _).trans ((uZ_n _ _ (by omega)).trans ((congrFun hvy131 _).trans ((uZ_n _ _ (by omega)).trans ((congrFun hvy122 _).trans ((uZ_n _ _ (by omega)).trans ((congrFun hvy113 _).trans ((uZ_n _ _ (by omega)).trans ((congrFun hvy104 _).trans ((uZ_n _ _ (by omega)).trans (rfl))))))))))))]
    rw [show r (qy47 + 5) = K 5 from (congrArg r (show qy47 + 5 = p + 2 + (7 * 0 + 5) by omega)).trans (hC (7 * 0 + 5) (by omega))]
    refine z_aload_n C 4 dX10_joins_208 rfl ?_
    refine z_get (v := .ref (ad (i + 1))) C (lt_A0 hN rfl) hay1 hgy153 rfl inA_X10 0 (by decide) q_1459 rfl rfl dX10_joins_209 ?_
    refine z_iload C 2 dX10_joins_212 rfl ?_
    refine z_iconst (z := 5) C dX10_joins_214 rfl ?_
    refine z_iadd C dX10_joins_215 ?_
    refine z_iald C (lt_A (c := 1) hN rfl) hay2 hgy147 (qy49 + 5) (by omega) (by omega) (by decide) dX10_joins_216 ?_
    rw [show ry148 (qy49 + 5) = r (qy49 + 5) from (congrFun hvy149 _).trans ((uZ_n _ _ (by omega)).trans ((congrFun hvy140 _).trans ((uZ_n _ _ (by omega)).trans ((congrFun hvy131 _).trans ((uZ_n _ _ (by omega)).trans ((congrFun hvy122 _).trans ((uZ_n _ _ (by omega)).trans ((congrFun hvy113 _).trans ((uZ_n _ _ (by omega)).trans ((congrFun hvy104 _).trans ((uZ_n _ _ (by omega)).trans (rfl))))))))))))]
    rw [show r (qy49 + 5) = K 12 from (congrArg r (show qy49 + 5 = p + 2 + (7 * 1 + 5) by omega)).trans (hC (7 * 1 + 5) (by omega))]
    refine z_cS (As := [.int (zI (K 5)), .int (zI (K 12))]) (rest := [.int (zI (((qy47 : Int)) + 5)), .ref (ad (i + 1))]) C (c_X10_greater l D A cs tt N ad _ (K 5) (by omega) (K 12) (by omega)) ms_yX10_greater q_1905 hd_yX10_greater (by decide) (Nat.le_of_ble_eq_true rfl) (by decide) dX10_joins_217 rfl (kI0 fun vy154 gvy154 hvy154 => ?_)
    obtain ⟨hvy154, rfl⟩ := hvy154
    refine z_iast C (lt_A (c := 1) hN rfl) hay2 hgy147 (qy47 + 5) (by omega) (by omega) (by decide) dX10_joins_220 (fun gy155 egy156 => ?_)
    have hgy157 := up_s egy156
    obtain ⟨ry158, hvy159⟩ : ∃ rZ9 : Nat → Int, rZ9 = uZ ry148 (qy47 + 5) (vy154) := ⟨_, rfl⟩
    rw [← hvy159] at hgy157
    obtain ⟨Ky161, hKy162⟩ : ∃ KZ9 : Nat → Int, KZ9 = uZ Ky151 5 (vy154) := ⟨_, rfl⟩
    have hCy160 := lay_r hCy150 hvy159 hKy162 (by omega)
    refine z_aload_n C 4 dX10_joins_221 rfl ?_
    refine z_iload_n C 5 dX10_joins_222 rfl ?_
    refine z_iload_n C 6 dX10_joins_223 rfl ?_
    have hgy163 := up_n egy156 hgy153 (ne_o (i := i) (c := 0) (d := 1) rfl)
    refine z_cV (As := [.int (zI ((b : Int))), .int (zI ((s : Int)))]) (rest := []) (ci := 12) C (c_X10_many l D A cs tt N ad _ i hN _ hgy163 _ hgy157 b s p hp (by omega) (by omega)) (lt_A0 hN rfl) hay1 hgy163 rfl rfl mv_yX10_many q_1733 hd_yX10_many (by decide) (Nat.le_of_ble_eq_true rfl) (by decide) dX10_joins_224 rfl (kI0 fun vy164 gvy164 hvy164 => ?_)
    obtain ⟨rfl, rfl⟩ := hvy164
    rw [show ry158 (p) = r (p) from (congrFun hvy159 _).trans ((uZ_n _ _ (by omega)).trans ((congrFun hvy149 _).trans ((uZ_n _ _ (by omega)).trans ((congrFun hvy140 _).trans ((uZ_n _ _ (by omega)).trans ((congrFun hvy131 _).trans ((uZ_n _ _ (by omega)).trans ((congrFun hvy122 _).trans ((uZ_n _ _ (by omega)).trans ((congrFun hvy113 _).trans ((uZ_n _ _ (by omega)).trans ((congrFun hvy104 _).trans ((uZ_n _ _ (by omega)).trans (rfl))))))))))))))]
    rw [show r (p) = (n : Int) from hn]
    refine z_iconst (z := 1) C dX10_joins_227 rfl ?_
    refine z_isub C dX10_joins_228 ?_
    rw [show ((n : Int)) - 1 = 11 by omega]
    refine z_istore (lv' := [(7, .int (zI (11))), (6, .int (zI ((((K 4) * (K 1)) + ((K 11) * (K 8))).tdiv ((K 1) + (K 8))))), (5, .int (zI ((K 1) + (K 8)))), (4, .int (zI ((qy49 : Int)))), (3, .int (zI ((qy47 : Int)))), (0, .ref (ad i)), (1, .int (zI ((b : Int)))), (2, .int (zI ((s : Int))))]) C dX10_joins_229 (by decide) rfl ?_
    refine z_iconst (z := 1) C dX10_joins_231 rfl ?_
    refine z_istore (lv' := [(8, .int (zI (1))), (7, .int (zI (11))), (6, .int (zI ((((K 4) * (K 1)) + ((K 11) * (K 8))).tdiv ((K 1) + (K 8))))), (5, .int (zI ((K 1) + (K 8)))), (4, .int (zI ((qy49 : Int)))), (3, .int (zI ((qy47 : Int)))), (0, .ref (ad i)), (1, .int (zI ((b : Int)))), (2, .int (zI ((s : Int))))]) C dX10_joins_232 (by decide) rfl ?_
    have hfry165 : ∀ j, j ≠ qy47 + 5 → j ≠ qy47 + 4 → j ≠ qy47 + 3 → j ≠ qy47 + 2 → j ≠ qy47 + 1 → j ≠ qy47 + 6 → j ≠ qy47 → ry158 j = r j := fun j n0 n1 n2 n3 n4 n5 n6 => (congrFun hvy159 _).trans ((uZ_n _ _ n0).trans ((congrFun hvy149 _).trans ((uZ_n _ _ n1).trans ((congrFun hvy140 _).trans ((uZ_n _ _ n2).trans ((congrFun hvy131 _).trans ((uZ_n _ _ n3).trans ((congrFun hvy122 _).trans ((uZ_n _ _ n4).trans ((congrFun hvy113 _).trans ((uZ_n _ _ n5).trans ((congrFun hvy104 _).trans ((uZ_n _ _ n6).trans (rfl))))))))))))))
    have hA0 : ∀ f, f < 7 → ry158 (p + 2 + f) = joK K f := by
      intro f hf
      rw [hCy160 f (by omega)]
      rcases (show f = 0 ∨ f = 1 ∨ f = 2 ∨ f = 3 ∨ f = 4 ∨ f = 5 ∨ f = 6 by omega) with rfl | rfl | rfl | rfl | rfl | rfl | rfl
      · exact ((congrFun hKy162 _).trans ((uZ_n _ _ (by omega)).trans ((congrFun hKy152 _).trans ((uZ_n _ _ (by omega)).trans ((congrFun hKy143 _).trans ((uZ_n _ _ (by omega)).trans ((congrFun hKy134 _).trans ((uZ_n _ _ (by omega)).trans ((congrFun hKy125 _).trans ((uZ_n _ _ (by omega)).trans ((congrFun hKy116 _).trans ((uZ_n _ _ (by omega)).trans ((congrFun hKy107 _).trans (uZ_s _ _ _)))))))))))))).trans (by rw [joK_0]; split <;> omega)
      · exact ((congrFun hKy162 _).trans ((uZ_n _ _ (by omega)).trans ((congrFun hKy152 _).trans ((uZ_n _ _ (by omega)).trans ((congrFun hKy143 _).trans ((uZ_n _ _ (by omega)).trans ((congrFun hKy134 _).trans ((uZ_n _ _ (by omega)).trans ((congrFun hKy125 _).trans (uZ_s _ _ _)))))))))).trans (by rw [joK_1])
      · exact ((congrFun hKy162 _).trans ((uZ_n _ _ (by omega)).trans ((congrFun hKy152 _).trans ((uZ_n _ _ (by omega)).trans ((congrFun hKy143 _).trans ((uZ_n _ _ (by omega)).trans ((congrFun hKy134 _).trans (uZ_s _ _ _)))))))).trans (by rw [joK_2])
      · exact ((congrFun hKy162 _).trans ((uZ_n _ _ (by omega)).trans ((congrFun hKy152 _).trans ((uZ_n _ _ (by omega)).trans ((congrFun hKy143 _).trans (uZ_s _ _ _)))))).trans (by rw [joK_3])
      · exact ((congrFun hKy162 _).trans ((uZ_n _ _ (by omega)).trans ((congrFun hKy152 _).trans (uZ_s _ _ _)))).trans (by rw [joK_4]; rfl)
      · exact ((congrFun hKy162 _).trans (uZ_s _ _ _)).trans (by rw [joK_5]; split <;> omega)
      · exact ((congrFun hKy162 _).trans ((uZ_n _ _ (by omega)).trans ((congrFun hKy152 _).trans ((uZ_n _ _ (by omega)).trans ((congrFun hKy143 _).trans ((uZ_n _ _ (by omega)).trans ((congrFun hKy134 _).trans ((uZ_n _ _ (by omega)).trans ((congrFun hKy125 _).trans ((uZ_n _ _ (by omega)).trans ((congrFun hKy116 _).trans (uZ_s _ _ _)))))))))))).trans (by rw [joK_6]; split <;> omega)
    refine z_lv (lv' := [(0, .ref (ad i)), (1, .int (zI ((b : Int)))), (2, .int (zI ((s : Int)))), (7, .int (zI (11))), (8, .int (zI (1)))]) [6, 7, 8, 1, 0] rfl ?_
    exact lp _ (1) ry158 1 gy155 rfl hgy157 (fun j j1 => by rw [egy156, va_up_ne _ _ (by omega)]; rw [egy146, va_up_ne _ _ (by omega)]; rw [egy137, va_up_ne _ _ (by omega)]; rw [egy128, va_up_ne _ _ (by omega)]; rw [egy119, va_up_ne _ _ (by omega)]; rw [egy110, va_up_ne _ _ (by omega)]; rw [egy101, va_up_ne _ _ (by omega)]) (fun j a1 => hfry165 j (by omega) (by omega) (by omega) (by omega) (by omega) (by omega) (by omega)) ((hfry165 (p + 1) (by omega) (by omega) (by omega) (by omega) (by omega) (by omega) (by omega)).trans hro) rfl (by omega) hA0 (fun l f a1 a2 a3 => absurd a2 (by omega)) (fun l f a1 a2 a3 => (hfry165 _ (by omega) (by omega) (by omega) (by omega) (by omega) (by omega) (by omega)).trans ((congrArg r (by omega)).trans (hC (7 * l + f) (by omega))))

set_option maxRecDepth 100000 in
set_option maxHeartbeats 4000000 in
theorem c_uComes (l : Launch) (D : va_G) (A : Nat → Prop) (cs : Nat → ClassId) (tt : Nat) (N : Nat) (ad : Nat → Nat) (g : Nat → va_E) (i : Nat) (hN : i + 30 ≤ N) (F : Nat → Int) (hg : g i = mC ad i F) (r : Nat → Int) (ha1 : g (i + 1) = iA cs 29200 r) (b s p : Nat) (hp : b + 6 + 86 * s = p) (hb : b + 350 ≤ 29200) (hs : s < 4) (n : Nat) (K : Nat → Int) (hn : r p = (n : Int)) (hC : ∀ q, q < 7 * n → r (p + 2 + q) = K q) (hO : okP K n) (ro : Int) (hro : r (p + 1) = ro) (hnm : 0 ≤ r (b + 1) ∧ r (b + 1) ≤ 20000) (z1 : Int) (hz1 : 0 ≤ z1 ∧ z1 ≤ 4) (z2 : Int) (hz2 : 1 ≤ z2 ∧ z2 ≤ 50) (z3 : Int) (hz3 : z3 = 10 * z2) (z4 : Int) (hz4 : -300 ≤ z4 ∧ z4 ≤ 0) : zM l yX10_comes cX10_comes 8 none ({ frames := 4, cells := 0, slots := 0, locals := 240 } : Room) D A cs tt N ad g [.ref (ad i), .int (zI ((b : Int))), .int (zI ((s : Int))), .int (zI (z1)), .int (zI (z2)), .int (zI (z3)), .int (zI (z4))] (rV0 N ad fun g' => (∃ r' : Nat → Int, g' (i + 1) = iA cs 29200 r' ∧ isS r' p (cmZ z1 z2 z4 (r (b + 1)) (n, K, ro)) ∧ r' (b + 1) = r (b + 1) + 1 ∧ (∀ j, j < p ∨ p + 86 ≤ j → j ≠ b + 1 → r' j = r j)) ∧ ∀ j, j ≠ i + 1 → g' j = g j) := by
  have hay1 : zAt ad (i) (ad i) := rfl
  have hay2 : zAt ad (i + 1) (ad (i + 1)) := rfl
  have hn12 := hO.1
  refine z_of (by decide) (Nat.le_of_ble_eq_true rfl) ?_
  intro pY eY sY mY below meth cY C hr hlk hnm
  refine z_lv (lv' := [(0, .ref (ad i)), (1, .int (zI ((b : Int)))), (2, .int (zI ((s : Int)))), (3, .int (zI (z1))), (4, .int (zI (z2))), (5, .int (zI (z3))), (6, .int (zI (z4)))]) [0, 1, 2, 3, 4, 5, 6] rfl ?_
  refine z_aload_n C 0 dX10_comes_0 rfl ?_
  refine z_iload_n C 1 dX10_comes_1 rfl ?_
  refine z_iload_n C 2 dX10_comes_2 rfl ?_
  refine z_cV (As := [.int (zI ((b : Int))), .int (zI ((s : Int)))]) (rest := []) (ci := 12) C (c_X10_many l D A cs tt N ad _ i hN _ hg _ ha1 b s p hp (by omega) (by omega)) (lt_A0 hN rfl) hay1 hg rfl rfl mv_yX10_many q_1733 hd_yX10_many (by decide) (Nat.le_of_ble_eq_true rfl) (by decide) dX10_comes_3 rfl (kI0 fun vy3 gvy3 hvy3 => ?_)
  obtain ⟨rfl, rfl⟩ := hvy3
  rw [show r (p) = (n : Int) from hn]
  refine z_bipush (z := 12) C dX10_comes_6 (by decide) ?_
  refine z_icmp_ne (tgt := 17) C dX10_comes_8 (by decide) (by omega) (by omega) (fun hby4 => ?_) (fun hby4 => ?_)
  · refine z_aload_n C 0 dX10_comes_17 rfl ?_
    refine z_iload_n C 1 dX10_comes_18 rfl ?_
    refine z_iload_n C 2 dX10_comes_19 rfl ?_
    refine z_cV (As := [.int (zI ((b : Int))), .int (zI ((s : Int)))]) (rest := []) (ci := 12) C (c_X10_many l D A cs tt N ad _ i hN _ hg _ ha1 b s p hp (by omega) (by omega)) (lt_A0 hN rfl) hay1 hg rfl rfl mv_yX10_many q_1733 hd_yX10_many (by decide) (Nat.le_of_ble_eq_true rfl) (by decide) dX10_comes_20 rfl (kI0 fun vy5 gvy5 hvy5 => ?_)
    obtain ⟨rfl, rfl⟩ := hvy5
    rw [show r (p) = (n : Int) from hn]
    refine z_istore (lv' := [(7, .int (zI ((n : Int)))), (0, .ref (ad i)), (1, .int (zI ((b : Int)))), (2, .int (zI ((s : Int)))), (3, .int (zI (z1))), (4, .int (zI (z2))), (5, .int (zI (z3))), (6, .int (zI (z4)))]) C dX10_comes_23 (by decide) rfl ?_
    refine z_aload_n C 1 dX10_comes_25 rfl ?_
    refine z_iload_n C 2 dX10_comes_26 rfl ?_
    refine z_iload_n C 3 dX10_comes_27 rfl ?_
    refine z_iload C 0 dX10_comes_28 rfl ?_
    refine z_iconst (z := 0) C dX10_comes_30 rfl ?_
    refine z_iload_n C 4 dX10_comes_31 rfl ?_
    have hqy6k : ((n : Int) : Int) = ((n : Nat) : Int) := by omega
    obtain ⟨qy6, hqy6⟩ : ∃ q9 : Nat, p + 2 + 7 * n = q9 := ⟨_, rfl⟩
    refine z_cV (As := [.int (zI ((b : Int))), .int (zI ((s : Int))), .int (zI ((n : Int))), .int (zI (0)), .int (zI (z1))]) (rest := []) (ci := 12) C (c_X10_sets l D A cs tt N ad _ i hN _ hg _ ha1 b s p hp (by omega) (by omega) ((n : Int)) (0) (qy6) (by omega) (by omega) (by omega) (z1)) (lt_A0 hN rfl) hay1 hg rfl rfl mv_yX10_sets q_1908 hd_yX10_sets (by decide) (Nat.le_of_ble_eq_true rfl) (by decide) dX10_comes_32 rfl (kV0 fun gvy7 hvy7 => ?_)
    obtain ⟨hcvy7, hfvy7⟩ := hvy7
    obtain ⟨ry8, hvy9⟩ : ∃ rZ9 : Nat → Int, rZ9 = uZ r (qy6) (z1) := ⟨_, rfl⟩
    rw [← hvy9] at hcvy7
    obtain ⟨Ky11, hKy12⟩ : ∃ KZ9 : Nat → Int, KZ9 = uZ K (7 * n + 0) (z1) := ⟨_, rfl⟩
    have hCy10 := lay_r hC hvy9 hKy12 (by omega)
    refine z_aload_n C 1 dX10_comes_35 rfl ?_
    refine z_iload_n C 2 dX10_comes_36 rfl ?_
    refine z_iload_n C 3 dX10_comes_37 rfl ?_
    refine z_iload C 0 dX10_comes_38 rfl ?_
    refine z_iconst (z := 1) C dX10_comes_40 rfl ?_
    refine z_iload C 5 dX10_comes_41 rfl ?_
    have hgy13 := (hfvy7 (i) (ne_o (i := i) (c := 0) (d := 1) rfl)).trans hg
    refine z_cV (As := [.int (zI ((b : Int))), .int (zI ((s : Int))), .int (zI ((n : Int))), .int (zI (1)), .int (zI (z2))]) (rest := []) (ci := 12) C (c_X10_sets l D A cs tt N ad _ i hN _ hgy13 _ hcvy7 b s p hp (by omega) (by omega) ((n : Int)) (1) (qy6 + 1) (by omega) (by omega) (by omega) (z2)) (lt_A0 hN rfl) hay1 hgy13 rfl rfl mv_yX10_sets q_1908 hd_yX10_sets (by decide) (Nat.le_of_ble_eq_true rfl) (by decide) dX10_comes_43 rfl (kV0 fun gvy14 hvy14 => ?_)
    obtain ⟨hcvy14, hfvy14⟩ := hvy14
    obtain ⟨ry15, hvy16⟩ : ∃ rZ9 : Nat → Int, rZ9 = uZ ry8 (qy6 + 1) (z2) := ⟨_, rfl⟩
    rw [← hvy16] at hcvy14
    obtain ⟨Ky18, hKy19⟩ : ∃ KZ9 : Nat → Int, KZ9 = uZ Ky11 (7 * n + 1) (z2) := ⟨_, rfl⟩
    have hCy17 := lay_r hCy10 hvy16 hKy19 (by omega)
    refine z_aload_n C 1 dX10_comes_46 rfl ?_
    refine z_iload_n C 2 dX10_comes_47 rfl ?_
    refine z_iload_n C 3 dX10_comes_48 rfl ?_
    refine z_iload C 0 dX10_comes_49 rfl ?_
    refine z_iconst (z := 2) C dX10_comes_51 rfl ?_
    refine z_iconst (z := 0) C dX10_comes_52 rfl ?_
    have hgy20 := (hfvy14 (i) (ne_o (i := i) (c := 0) (d := 1) rfl)).trans hgy13
    refine z_cV (As := [.int (zI ((b : Int))), .int (zI ((s : Int))), .int (zI ((n : Int))), .int (zI (2)), .int (zI (0))]) (rest := []) (ci := 12) C (c_X10_sets l D A cs tt N ad _ i hN _ hgy20 _ hcvy14 b s p hp (by omega) (by omega) ((n : Int)) (2) (qy6 + 2) (by omega) (by omega) (by omega) (0)) (lt_A0 hN rfl) hay1 hgy20 rfl rfl mv_yX10_sets q_1908 hd_yX10_sets (by decide) (Nat.le_of_ble_eq_true rfl) (by decide) dX10_comes_53 rfl (kV0 fun gvy21 hvy21 => ?_)
    obtain ⟨hcvy21, hfvy21⟩ := hvy21
    obtain ⟨ry22, hvy23⟩ : ∃ rZ9 : Nat → Int, rZ9 = uZ ry15 (qy6 + 2) (0) := ⟨_, rfl⟩
    rw [← hvy23] at hcvy21
    obtain ⟨Ky25, hKy26⟩ : ∃ KZ9 : Nat → Int, KZ9 = uZ Ky18 (7 * n + 2) (0) := ⟨_, rfl⟩
    have hCy24 := lay_r hCy17 hvy23 hKy26 (by omega)
    refine z_aload_n C 1 dX10_comes_56 rfl ?_
    refine z_iload_n C 2 dX10_comes_57 rfl ?_
    refine z_iload_n C 3 dX10_comes_58 rfl ?_
    refine z_iload C 0 dX10_comes_59 rfl ?_
    refine z_iconst (z := 3) C dX10_comes_61 rfl ?_
    refine z_iload C 6 dX10_comes_62 rfl ?_
    have hgy27 := (hfvy21 (i) (ne_o (i := i) (c := 0) (d := 1) rfl)).trans hgy20
    refine z_cV (As := [.int (zI ((b : Int))), .int (zI ((s : Int))), .int (zI ((n : Int))), .int (zI (3)), .int (zI (z3))]) (rest := []) (ci := 12) C (c_X10_sets l D A cs tt N ad _ i hN _ hgy27 _ hcvy21 b s p hp (by omega) (by omega) ((n : Int)) (3) (qy6 + 3) (by omega) (by omega) (by omega) (z3)) (lt_A0 hN rfl) hay1 hgy27 rfl rfl mv_yX10_sets q_1908 hd_yX10_sets (by decide) (Nat.le_of_ble_eq_true rfl) (by decide) dX10_comes_64 rfl (kV0 fun gvy28 hvy28 => ?_)
    obtain ⟨hcvy28, hfvy28⟩ := hvy28
    obtain ⟨ry29, hvy30⟩ : ∃ rZ9 : Nat → Int, rZ9 = uZ ry22 (qy6 + 3) (z3) := ⟨_, rfl⟩
    rw [← hvy30] at hcvy28
    obtain ⟨Ky32, hKy33⟩ : ∃ KZ9 : Nat → Int, KZ9 = uZ Ky25 (7 * n + 3) (z3) := ⟨_, rfl⟩
    have hCy31 := lay_r hCy24 hvy30 hKy33 (by omega)
    refine z_aload_n C 1 dX10_comes_67 rfl ?_
    refine z_iload_n C 2 dX10_comes_68 rfl ?_
    refine z_iload_n C 3 dX10_comes_69 rfl ?_
    refine z_iload C 0 dX10_comes_70 rfl ?_
    refine z_iconst (z := 4) C dX10_comes_72 rfl ?_
    refine z_iload C 7 dX10_comes_73 rfl ?_
    have hgy34 := (hfvy28 (i) (ne_o (i := i) (c := 0) (d := 1) rfl)).trans hgy27
    refine z_cV (As := [.int (zI ((b : Int))), .int (zI ((s : Int))), .int (zI ((n : Int))), .int (zI (4)), .int (zI (z4))]) (rest := []) (ci := 12) C (c_X10_sets l D A cs tt N ad _ i hN _ hgy34 _ hcvy28 b s p hp (by omega) (by omega) ((n : Int)) (4) (qy6 + 4) (by omega) (by omega) (by omega) (z4)) (lt_A0 hN rfl) hay1 hgy34 rfl rfl mv_yX10_sets q_1908 hd_yX10_sets (by decide) (Nat.le_of_ble_eq_true rfl) (by decide) dX10_comes_75 rfl (kV0 fun gvy35 hvy35 => ?_)
    obtain ⟨hcvy35, hfvy35⟩ := hvy35
    obtain ⟨ry36, hvy37⟩ : ∃ rZ9 : Nat → Int, rZ9 = uZ ry29 (qy6 + 4) (z4) := ⟨_, rfl⟩
    rw [← hvy37] at hcvy35
    obtain ⟨Ky39, hKy40⟩ : ∃ KZ9 : Nat → Int, KZ9 = uZ Ky32 (7 * n + 4) (z4) := ⟨_, rfl⟩
    have hCy38 := lay_r hCy31 hvy37 hKy40 (by omega)
    refine z_aload_n C 1 dX10_comes_78 rfl ?_
    refine z_iload_n C 2 dX10_comes_79 rfl ?_
    refine z_iload_n C 3 dX10_comes_80 rfl ?_
    refine z_iload C 0 dX10_comes_81 rfl ?_
    refine z_iconst (z := 5) C dX10_comes_83 rfl ?_
    refine z_iconst (z := 0) C dX10_comes_84 rfl ?_
    have hgy41 := (hfvy35 (i) (ne_o (i := i) (c := 0) (d := 1) rfl)).trans hgy34
    refine z_cV (As := [.int (zI ((b : Int))), .int (zI ((s : Int))), .int (zI ((n : Int))), .int (zI (5)), .int (zI (0))]) (rest := []) (ci := 12) C (c_X10_sets l D A cs tt N ad _ i hN _ hgy41 _ hcvy35 b s p hp (by omega) (by omega) ((n : Int)) (5) (qy6 + 5) (by omega) (by omega) (by omega) (0)) (lt_A0 hN rfl) hay1 hgy41 rfl rfl mv_yX10_sets q_1908 hd_yX10_sets (by decide) (Nat.le_of_ble_eq_true rfl) (by decide) dX10_comes_85 rfl (kV0 fun gvy42 hvy42 => ?_)
    obtain ⟨hcvy42, hfvy42⟩ := hvy42
    obtain ⟨ry43, hvy44⟩ : ∃ rZ9 : Nat → Int, rZ9 = uZ ry36 (qy6 + 5) (0) := ⟨_, rfl⟩
    rw [← hvy44] at hcvy42
    obtain ⟨Ky46, hKy47⟩ : ∃ KZ9 : Nat → Int, KZ9 = uZ Ky39 (7 * n + 5) (0) := ⟨_, rfl⟩
    have hCy45 := lay_r hCy38 hvy44 hKy47 (by omega)
    refine z_aload_n C 1 dX10_comes_88 rfl ?_
    refine z_iload_n C 2 dX10_comes_89 rfl ?_
    refine z_iload_n C 3 dX10_comes_90 rfl ?_
    refine z_iload C 0 dX10_comes_91 rfl ?_
    refine z_bipush (z := 6) C dX10_comes_93 (by decide) ?_
    refine z_aload_n C 1 dX10_comes_95 rfl ?_
    have hgy48 := (hfvy42 (i) (ne_o (i := i) (c := 0) (d := 1) rfl)).trans hgy41
    refine z_get (v := .ref (ad (i + 1))) C (lt_A0 hN rfl) hay1 hgy48 rfl inA_X10 0 (by decide) q_1459 rfl rfl dX10_comes_96 ?_
    refine z_iload_n C 2 dX10_comes_99 rfl ?_
    refine z_iconst (z := 1) C dX10_comes_100 rfl ?_
    refine z_iadd C dX10_comes_101 ?_
    refine z_iald C (lt_A (c := 1) hN rfl) hay2 hcvy42 (b + 1) (by omega) (by omega) (by decide) dX10_comes_102 ?_
    rw [show ry43 (b + 1) = r (b + 1) from (congrFun hvy44 _).trans ((uZ_n _ _ (by omega)).trans ((congrFun hvy37 _).trans ((uZ_n _ _ (by omega)).trans ((congrFun hvy30 _).trans ((uZ_n _ _ (by omega)).trans ((congrFun hvy23 _).trans ((uZ_n _ _ (by omega)).trans ((congrFun hvy16 _).trans ((uZ_n _ _ (by omega)).trans ((congrFun hvy9 _).trans ((uZ_n _ _ (by omega)).trans (rfl))))))))))))]
    refine z_cV (As := [.int (zI ((b : Int))), .int (zI ((s : Int))), .int (zI ((n : Int))), .int (zI (6)), .int (zI (r (b + 1)))]) (rest := []) (ci := 12) C (c_X10_sets l D A cs tt N ad _ i hN _ hgy48 _ hcvy42 b s p hp (by omega) (by omega) ((n : Int)) (6) (qy6 + 6) (by omega) (by omega) (by omega) (r (b + 1))) (lt_A0 hN rfl) hay1 hgy48 rfl rfl mv_yX10_sets q_1908 hd_yX10_sets (by decide) (Nat.le_of_ble_eq_true rfl) (by decide) dX10_comes_103 rfl (kV0 fun gvy49 hvy49 => ?_)
    obtain ⟨hcvy49, hfvy49⟩ := hvy49
    obtain ⟨ry50, hvy51⟩ : ∃ rZ9 : Nat → Int, rZ9 = uZ ry43 (qy6 + 6) (r (b + 1)) := ⟨_, rfl⟩
    rw [← hvy51] at hcvy49
    obtain ⟨Ky53, hKy54⟩ : ∃ KZ9 : Nat → Int, KZ9 = uZ Ky46 (7 * n + 6) (r (b + 1)) := ⟨_, rfl⟩
    have hCy52 := lay_r hCy45 hvy51 hKy54 (by omega)
    refine z_aload_n C 1 dX10_comes_106 rfl ?_
    have hgy55 := (hfvy49 (i) (ne_o (i := i) (c := 0) (d := 1) rfl)).trans hgy48
    refine z_get (v := .ref (ad (i + 1))) C (lt_A0 hN rfl) hay1 hgy55 rfl inA_X10 0 (by decide) q_1459 rfl rfl dX10_comes_107 ?_
    refine z_iload_n C 2 dX10_comes_110 rfl ?_
    refine z_iconst (z := 1) C dX10_comes_111 rfl ?_
    refine z_iadd C dX10_comes_112 ?_
    refine z_dup2 C dX10_comes_113 rfl rfl ?_
    refine z_iald C (lt_A (c := 1) hN rfl) hay2 hcvy49 (b + 1) (by omega) (by omega) (by decide) dX10_comes_114 ?_
    rw [show ry50 (b + 1) = r (b + 1) from (congrFun hvy51 _).trans ((uZ_n _ _ (by omega)).trans ((congrFun hvy44 _).trans ((uZ_n _ _ (by omega)).trans ((congrFun hvy37 _).trans ((uZ_n _ _ (by omega)).trans ((congrFun hvy30 _).trans ((uZ_n _ _ (by omega)).trans ((congrFun hvy23 _).trans ((uZ_n _ _ (by omega)).trans ((congrFun hvy16 _).trans ((uZ_n _ _ (by omega)).trans ((congrFun hvy9 _).trans ((uZ_n _ _ (by omega)).trans (rfl))))))))))))))]
    refine z_iconst (z := 1) C dX10_comes_115 rfl ?_
    refine z_iadd C dX10_comes_116 ?_
    refine z_iast C (lt_A (c := 1) hN rfl) hay2 hcvy49 (b + 1) (by omega) (by omega) (by decide) dX10_comes_117 (fun gy56 egy57 => ?_)
    have hgy58 := up_s egy57
    obtain ⟨ry59, hvy60⟩ : ∃ rZ9 : Nat → Int, rZ9 = uZ ry50 (b + 1) ((r (b + 1)) + 1) := ⟨_, rfl⟩
    rw [← hvy60] at hgy58
    have hCy61 := lay_n hCy52 hvy60 (by omega)
    refine z_aload_n C 1 dX10_comes_118 rfl ?_
    refine z_iload_n C 2 dX10_comes_119 rfl ?_
    refine z_iload_n C 3 dX10_comes_120 rfl ?_
    refine z_iload C 0 dX10_comes_121 rfl ?_
    refine z_iconst (z := 1) C dX10_comes_123 rfl ?_
    refine z_iadd C dX10_comes_124 ?_
    have hgy62 := up_n egy57 hgy55 (ne_o (i := i) (c := 0) (d := 1) rfl)
    refine z_cV (As := [.int (zI ((b : Int))), .int (zI ((s : Int))), .int (zI (((n : Int)) + 1))]) (rest := []) (ci := 12) C (c_X10_setsMany l D A cs tt N ad _ i hN _ hgy62 _ hgy58 b s p hp (by omega) (by omega) (((n : Int)) + 1)) (lt_A0 hN rfl) hay1 hgy62 rfl rfl mv_yX10_setsMany q_1717 hd_yX10_setsMany (by decide) (Nat.le_of_ble_eq_true rfl) (by decide) dX10_comes_125 rfl (kV0 fun gvy63 hvy63 => ?_)
    obtain ⟨hcvy63, hfvy63⟩ := hvy63
    obtain ⟨ry64, hvy65⟩ : ∃ rZ9 : Nat → Int, rZ9 = uZ ry59 (p) (((n : Int)) + 1) := ⟨_, rfl⟩
    rw [← hvy65] at hcvy63
    have hCy66 := lay_n hCy61 hvy65 (by omega)
    have hfry67 : ∀ j, j ≠ p → j ≠ b + 1 → j ≠ qy6 + 6 → j ≠ qy6 + 5 → j ≠ qy6 + 4 → j ≠ qy6 + 3 → j ≠ qy6 + 2 → j ≠ qy6 + 1 → j ≠ qy6 → ry64 j = r j := fun j n0 n1 n2 n3 n4 n5 n6 n7 n8 => (congrFun hvy65 _).trans ((uZ_n _ _ n0).trans ((congrFun hvy60 _).trans ((uZ_n _ _ n1).trans ((congrFun hvy51 _).trans ((uZ_n _ _ n2).trans ((congrFun hvy44 _).trans ((uZ_n _ _ n3).trans ((congrFun hvy37 _).trans ((uZ_n _ _ n4).trans ((congrFun hvy30 _).trans ((uZ_n _ _ n5).trans ((congrFun hvy23 _).trans ((uZ_n _ _ n6).trans ((congrFun hvy16 _).trans ((uZ_n _ _ n7).trans ((congrFun hvy9 _).trans ((uZ_n _ _ n8).trans (rfl))))))))))))))))))
    have hcm : cmZ z1 z2 z4 (r (b + 1)) (n, K, ro) = (n + 1, adK K n z1 z2 0 (10 * z2) z4 (r (b + 1)), ro) := if_neg (by omega)
    have hfin : ∀ q9, q9 < 7 * (n + 1) → ry64 (p + 2 + q9) = adK K n z1 z2 0 (10 * z2) z4 (r (b + 1)) q9 := by
      intro q9 h8
      by_cases e9 : q9 < 7 * n
      · rw [adK_o e9]; exact (hfry67 _ (by omega) (by omega) (by omega) (by omega) (by omega) (by omega) (by omega) (by omega) (by omega)).trans (hC q9 e9)
      · obtain ⟨f9, hf9, hf8⟩ : ∃ f9, q9 = 7 * n + f9 ∧ f9 < 7 := ⟨q9 - 7 * n, by omega, by omega⟩
        rw [hf9, show p + 2 + (7 * n + f9) = qy6 + f9 by omega]
        rcases (show f9 = 0 ∨ f9 = 1 ∨ f9 = 2 ∨ f9 = 3 ∨ f9 = 4 ∨ f9 = 5 ∨ f9 = 6 by omega) with rfl | rfl | rfl | rfl | rfl | rfl | rfl
        · exact ((congrFun hvy65 _).trans ((uZ_n _ _ (by omega)).trans ((congrFun hvy60 _).trans ((uZ_n _ _ (by omega)).trans ((congrFun hvy51 _).trans ((uZ_n _ _ (by omega)).trans ((congrFun hvy44 _).trans ((uZ_n _ _ (by omega)).trans ((congrFun hvy37 _).trans ((uZ_n _ _ (by omega)).trans ((congrFun hvy30 _).trans ((uZ_n _ _ (by omega)).trans ((congrFun hvy23 _).trans ((uZ_n _ _ (by omega)).trans ((congrFun hvy16 _).trans ((uZ_n _ _ (by omega)).trans ((congrFun hvy9 _).trans (uZ_s _ _ _)))))))))))))))))).trans adK_f0.symm
        · exact ((congrFun hvy65 _).trans ((uZ_n _ _ (by omega)).trans ((congrFun hvy60 _).trans ((uZ_n _ _ (by omega)).trans ((congrFun hvy51 _).trans ((uZ_n _ _ (by omega)).trans ((congrFun hvy44 _).trans ((uZ_n _ _ (by omega)).trans ((congrFun hvy37 _).trans ((uZ_n _ _ (by omega)).trans ((congrFun hvy30 _).trans ((uZ_n _ _ (by omega)).trans ((congrFun hvy23 _).trans ((uZ_n _ _ (by omega)).trans ((congrFun hvy16 _).trans (uZ_s _ _ _)))))))))))))))).trans adK_f1.symm
        · exact ((congrFun hvy65 _).trans ((uZ_n _ _ (by omega)).trans ((congrFun hvy60 _).trans ((uZ_n _ _ (by omega)).trans ((congrFun hvy51 _).trans ((uZ_n _ _ (by omega)).trans ((congrFun hvy44 _).trans ((uZ_n _ _ (by omega)).trans ((congrFun hvy37 _).trans ((uZ_n _ _ (by omega)).trans ((congrFun hvy30 _).trans ((uZ_n _ _ (by omega)).trans ((congrFun hvy23 _).trans (uZ_s _ _ _)))))))))))))).trans adK_f2.symm
        · exact ((congrFun hvy65 _).trans ((uZ_n _ _ (by omega)).trans ((congrFun hvy60 _).trans ((uZ_n _ _ (by omega)).trans ((congrFun hvy51 _).trans ((uZ_n _ _ (by omega)).trans ((congrFun hvy44 _).trans ((uZ_n _ _ (by omega)).trans ((congrFun hvy37 _).trans ((uZ_n _ _ (by omega)).trans ((congrFun hvy30 _).trans (uZ_s _ _ _)))))))))))).trans (hz3.trans adK_f3.symm)
        · exact ((congrFun hvy65 _).trans ((uZ_n _ _ (by omega)).trans ((congrFun hvy60 _).trans ((uZ_n _ _ (by omega)).trans ((congrFun hvy51 _).trans ((uZ_n _ _ (by omega)).trans ((congrFun hvy44 _).trans ((uZ_n _ _ (by omega)).trans ((congrFun hvy37 _).trans (uZ_s _ _ _)))))))))).trans adK_f4.symm
        · exact ((congrFun hvy65 _).trans ((uZ_n _ _ (by omega)).trans ((congrFun hvy60 _).trans ((uZ_n _ _ (by omega)).trans ((congrFun hvy51 _).trans ((uZ_n _ _ (by omega)).trans ((congrFun hvy44 _).trans (uZ_s _ _ _)))))))).trans adK_f5.symm
        · exact ((congrFun hvy65 _).trans ((uZ_n _ _ (by omega)).trans ((congrFun hvy60 _).trans ((uZ_n _ _ (by omega)).trans ((congrFun hvy51 _).trans (uZ_s _ _ _)))))).trans adK_f6.symm
    exact z_vret C hr hlk dX10_comes_128 (by decide) (by decide) ⟨rfl, rfl, rfl, ⟨_, hcvy63, (by rw [hcm]; exact ⟨(((congrFun hvy65 _).trans (uZ_s _ _ _)).trans (by omega)), ((((congrFun hvy65 _).trans ((uZ_n _ _ (by omega)).trans ((congrFun hvy60 _).trans ((uZ_n _ _ (by omega)).trans ((congrFun hvy51 _).trans ((uZ_n _ _ (by omega)).trans ((congrFun hvy44 _).trans ((uZ_n _ _ (by omega)).trans ((congrFun hvy37 _).trans ((uZ_n _ _ (by omega)).trans ((congrFun hvy30 _).trans ((uZ_n _ _ (by omega)).trans ((congrFun hvy23 _).trans ((uZ_n _ _ (by omega)).trans ((congrFun hvy16 _).trans ((uZ_n _ _ (by omega)).trans ((congrFun hvy9 _).trans ((uZ_n _ _ (by omega)).trans (rfl)))))))))))))))))))).trans hro), hfin⟩), (congrFun hvy65 _).trans ((uZ_n _ _ (by omega)).trans ((congrFun hvy60 _).trans (uZ_s _ _ _))), fun j a1 a2 => (hfry67 j (by omega) (by omega) (by omega) (by omega) (by omega) (by omega) (by omega) (by omega) (by omega))⟩, fun j j1 => by rw [hfvy63 _ (by omega)]; rw [egy57, va_up_ne _ _ (by omega)]; rw [hfvy49 _ (by omega)]; rw [hfvy42 _ (by omega)]; rw [hfvy35 _ (by omega)]; rw [hfvy28 _ (by omega)]; rw [hfvy21 _ (by omega)]; rw [hfvy14 _ (by omega)]; rw [hfvy7 _ (by omega)]⟩
  · refine z_aload_n C 0 dX10_comes_11 rfl ?_
    refine z_iload_n C 1 dX10_comes_12 rfl ?_
    refine z_iload_n C 2 dX10_comes_13 rfl ?_
    refine z_cV (As := [.int (zI ((b : Int))), .int (zI ((s : Int)))]) (rest := []) (ci := 12) C (c_uJoins l D A cs tt N ad _ i hN _ hg _ ha1  b s p hp (by omega) (by omega) n K hn hC hO ro hro (by omega) ) (lt_A0 hN rfl) hay1 hg rfl rfl mv_yX10_joins q_1901 hd_yX10_joins (by decide) (Nat.le_of_ble_eq_true rfl) (by decide) dX10_comes_14 rfl (kV0 fun gvy68 hvy68 => ?_)
    obtain ⟨⟨rvy68, hcvy68, hSvy68, hyvy68⟩, hfvy68⟩ := hvy68
    obtain ⟨hnj, hrj, hCj⟩ := hSvy68
    have hnj : rvy68 p = 11 := hnj
    have hrj : rvy68 (p + 1) = ro := hrj
    have hCj : ∀ q, q < 77 → rvy68 (p + 2 + q) = joK K q := hCj
    refine z_aload_n C 0 dX10_comes_17 rfl ?_
    refine z_iload_n C 1 dX10_comes_18 rfl ?_
    refine z_iload_n C 2 dX10_comes_19 rfl ?_
    have hgy69 := (hfvy68 (i) (ne_o (i := i) (c := 0) (d := 1) rfl)).trans hg
    refine z_cV (As := [.int (zI ((b : Int))), .int (zI ((s : Int)))]) (rest := []) (ci := 12) C (c_X10_many l D A cs tt N ad _ i hN _ hgy69 _ hcvy68 b s p hp (by omega) (by omega)) (lt_A0 hN rfl) hay1 hgy69 rfl rfl mv_yX10_many q_1733 hd_yX10_many (by decide) (Nat.le_of_ble_eq_true rfl) (by decide) dX10_comes_20 rfl (kI0 fun vy70 gvy70 hvy70 => ?_)
    obtain ⟨rfl, rfl⟩ := hvy70
    rw [show rvy68 (p) = 11 from hnj]
    refine z_istore (lv' := [(7, .int (zI (11))), (0, .ref (ad i)), (1, .int (zI ((b : Int)))), (2, .int (zI ((s : Int)))), (3, .int (zI (z1))), (4, .int (zI (z2))), (5, .int (zI (z3))), (6, .int (zI (z4)))]) C dX10_comes_23 (by decide) rfl ?_
    refine z_aload_n C 1 dX10_comes_25 rfl ?_
    refine z_iload_n C 2 dX10_comes_26 rfl ?_
    refine z_iload_n C 3 dX10_comes_27 rfl ?_
    refine z_iload C 0 dX10_comes_28 rfl ?_
    refine z_iconst (z := 0) C dX10_comes_30 rfl ?_
    refine z_iload_n C 4 dX10_comes_31 rfl ?_
    have hqy71k : (11 : Int) = ((11 : Nat) : Int) := by omega
    obtain ⟨qy71, hqy71⟩ : ∃ q9 : Nat, p + 2 + 7 * 11 = q9 := ⟨_, rfl⟩
    refine z_cV (As := [.int (zI ((b : Int))), .int (zI ((s : Int))), .int (zI (11)), .int (zI (0)), .int (zI (z1))]) (rest := []) (ci := 12) C (c_X10_sets l D A cs tt N ad _ i hN _ hgy69 _ hcvy68 b s p hp (by omega) (by omega) (11) (0) (qy71) (by omega) (by omega) (by omega) (z1)) (lt_A0 hN rfl) hay1 hgy69 rfl rfl mv_yX10_sets q_1908 hd_yX10_sets (by decide) (Nat.le_of_ble_eq_true rfl) (by decide) dX10_comes_32 rfl (kV0 fun gvy72 hvy72 => ?_)
    obtain ⟨hcvy72, hfvy72⟩ := hvy72
    obtain ⟨ry73, hvy74⟩ : ∃ rZ9 : Nat → Int, rZ9 = uZ rvy68 (qy71) (z1) := ⟨_, rfl⟩
    rw [← hvy74] at hcvy72
    obtain ⟨Ky76, hKy77⟩ : ∃ KZ9 : Nat → Int, KZ9 = uZ (joK K) 77 (z1) := ⟨_, rfl⟩
    have hCy75 := lay_r (n := 11) hCj hvy74 hKy77 (by omega)
    refine z_aload_n C 1 dX10_comes_35 rfl ?_
    refine z_iload_n C 2 dX10_comes_36 rfl ?_
    refine z_iload_n C 3 dX10_comes_37 rfl ?_
    refine z_iload C 0 dX10_comes_38 rfl ?_
    refine z_iconst (z := 1) C dX10_comes_40 rfl ?_
    refine z_iload C 5 dX10_comes_41 rfl ?_
    have hgy78 := (hfvy72 (i) (ne_o (i := i) (c := 0) (d := 1) rfl)).trans hgy69
    refine z_cV (As := [.int (zI ((b : Int))), .int (zI ((s : Int))), .int (zI (11)), .int (zI (1)), .int (zI (z2))]) (rest := []) (ci := 12) C (c_X10_sets l D A cs tt N ad _ i hN _ hgy78 _ hcvy72 b s p hp (by omega) (by omega) (11) (1) (qy71 + 1) (by omega) (by omega) (by omega) (z2)) (lt_A0 hN rfl) hay1 hgy78 rfl rfl mv_yX10_sets q_1908 hd_yX10_sets (by decide) (Nat.le_of_ble_eq_true rfl) (by decide) dX10_comes_43 rfl (kV0 fun gvy79 hvy79 => ?_)
    obtain ⟨hcvy79, hfvy79⟩ := hvy79
    obtain ⟨ry80, hvy81⟩ : ∃ rZ9 : Nat → Int, rZ9 = uZ ry73 (qy71 + 1) (z2) := ⟨_, rfl⟩
    rw [← hvy81] at hcvy79
    obtain ⟨Ky83, hKy84⟩ : ∃ KZ9 : Nat → Int, KZ9 = uZ Ky76 78 (z2) := ⟨_, rfl⟩
    have hCy82 := lay_r (n := 11) hCy75 hvy81 hKy84 (by omega)
    refine z_aload_n C 1 dX10_comes_46 rfl ?_
    refine z_iload_n C 2 dX10_comes_47 rfl ?_
    refine z_iload_n C 3 dX10_comes_48 rfl ?_
    refine z_iload C 0 dX10_comes_49 rfl ?_
    refine z_iconst (z := 2) C dX10_comes_51 rfl ?_
    refine z_iconst (z := 0) C dX10_comes_52 rfl ?_
    have hgy85 := (hfvy79 (i) (ne_o (i := i) (c := 0) (d := 1) rfl)).trans hgy78
    refine z_cV (As := [.int (zI ((b : Int))), .int (zI ((s : Int))), .int (zI (11)), .int (zI (2)), .int (zI (0))]) (rest := []) (ci := 12) C (c_X10_sets l D A cs tt N ad _ i hN _ hgy85 _ hcvy79 b s p hp (by omega) (by omega) (11) (2) (qy71 + 2) (by omega) (by omega) (by omega) (0)) (lt_A0 hN rfl) hay1 hgy85 rfl rfl mv_yX10_sets q_1908 hd_yX10_sets (by decide) (Nat.le_of_ble_eq_true rfl) (by decide) dX10_comes_53 rfl (kV0 fun gvy86 hvy86 => ?_)
    obtain ⟨hcvy86, hfvy86⟩ := hvy86
    obtain ⟨ry87, hvy88⟩ : ∃ rZ9 : Nat → Int, rZ9 = uZ ry80 (qy71 + 2) (0) := ⟨_, rfl⟩
    rw [← hvy88] at hcvy86
    obtain ⟨Ky90, hKy91⟩ : ∃ KZ9 : Nat → Int, KZ9 = uZ Ky83 79 (0) := ⟨_, rfl⟩
    have hCy89 := lay_r (n := 11) hCy82 hvy88 hKy91 (by omega)
    refine z_aload_n C 1 dX10_comes_56 rfl ?_
    refine z_iload_n C 2 dX10_comes_57 rfl ?_
    refine z_iload_n C 3 dX10_comes_58 rfl ?_
    refine z_iload C 0 dX10_comes_59 rfl ?_
    refine z_iconst (z := 3) C dX10_comes_61 rfl ?_
    refine z_iload C 6 dX10_comes_62 rfl ?_
    have hgy92 := (hfvy86 (i) (ne_o (i := i) (c := 0) (d := 1) rfl)).trans hgy85
    refine z_cV (As := [.int (zI ((b : Int))), .int (zI ((s : Int))), .int (zI (11)), .int (zI (3)), .int (zI (z3))]) (rest := []) (ci := 12) C (c_X10_sets l D A cs tt N ad _ i hN _ hgy92 _ hcvy86 b s p hp (by omega) (by omega) (11) (3) (qy71 + 3) (by omega) (by omega) (by omega) (z3)) (lt_A0 hN rfl) hay1 hgy92 rfl rfl mv_yX10_sets q_1908 hd_yX10_sets (by decide) (Nat.le_of_ble_eq_true rfl) (by decide) dX10_comes_64 rfl (kV0 fun gvy93 hvy93 => ?_)
    obtain ⟨hcvy93, hfvy93⟩ := hvy93
    obtain ⟨ry94, hvy95⟩ : ∃ rZ9 : Nat → Int, rZ9 = uZ ry87 (qy71 + 3) (z3) := ⟨_, rfl⟩
    rw [← hvy95] at hcvy93
    obtain ⟨Ky97, hKy98⟩ : ∃ KZ9 : Nat → Int, KZ9 = uZ Ky90 80 (z3) := ⟨_, rfl⟩
    have hCy96 := lay_r (n := 11) hCy89 hvy95 hKy98 (by omega)
    refine z_aload_n C 1 dX10_comes_67 rfl ?_
    refine z_iload_n C 2 dX10_comes_68 rfl ?_
    refine z_iload_n C 3 dX10_comes_69 rfl ?_
    refine z_iload C 0 dX10_comes_70 rfl ?_
    refine z_iconst (z := 4) C dX10_comes_72 rfl ?_
    refine z_iload C 7 dX10_comes_73 rfl ?_
    have hgy99 := (hfvy93 (i) (ne_o (i := i) (c := 0) (d := 1) rfl)).trans hgy92
    refine z_cV (As := [.int (zI ((b : Int))), .int (zI ((s : Int))), .int (zI (11)), .int (zI (4)), .int (zI (z4))]) (rest := []) (ci := 12) C (c_X10_sets l D A cs tt N ad _ i hN _ hgy99 _ hcvy93 b s p hp (by omega) (by omega) (11) (4) (qy71 + 4) (by omega) (by omega) (by omega) (z4)) (lt_A0 hN rfl) hay1 hgy99 rfl rfl mv_yX10_sets q_1908 hd_yX10_sets (by decide) (Nat.le_of_ble_eq_true rfl) (by decide) dX10_comes_75 rfl (kV0 fun gvy100 hvy100 => ?_)
    obtain ⟨hcvy100, hfvy100⟩ := hvy100
    obtain ⟨ry101, hvy102⟩ : ∃ rZ9 : Nat → Int, rZ9 = uZ ry94 (qy71 + 4) (z4) := ⟨_, rfl⟩
    rw [← hvy102] at hcvy100
    obtain ⟨Ky104, hKy105⟩ : ∃ KZ9 : Nat → Int, KZ9 = uZ Ky97 81 (z4) := ⟨_, rfl⟩
    have hCy103 := lay_r (n := 11) hCy96 hvy102 hKy105 (by omega)
    refine z_aload_n C 1 dX10_comes_78 rfl ?_
    refine z_iload_n C 2 dX10_comes_79 rfl ?_
    refine z_iload_n C 3 dX10_comes_80 rfl ?_
    refine z_iload C 0 dX10_comes_81 rfl ?_
    refine z_iconst (z := 5) C dX10_comes_83 rfl ?_
    refine z_iconst (z := 0) C dX10_comes_84 rfl ?_
    have hgy106 := (hfvy100 (i) (ne_o (i := i) (c := 0) (d := 1) rfl)).trans hgy99
    refine z_cV (As := [.int (zI ((b : Int))), .int (zI ((s : Int))), .int (zI (11)), .int (zI (5)), .int (zI (0))]) (rest := []) (ci := 12) C (c_X10_sets l D A cs tt N ad _ i hN _ hgy106 _ hcvy100 b s p hp (by omega) (by omega) (11) (5) (qy71 + 5) (by omega) (by omega) (by omega) (0)) (lt_A0 hN rfl) hay1 hgy106 rfl rfl mv_yX10_sets q_1908 hd_yX10_sets (by decide) (Nat.le_of_ble_eq_true rfl) (by decide) dX10_comes_85 rfl (kV0 fun gvy107 hvy107 => ?_)
    obtain ⟨hcvy107, hfvy107⟩ := hvy107
    obtain ⟨ry108, hvy109⟩ : ∃ rZ9 : Nat → Int, rZ9 = uZ ry101 (qy71 + 5) (0) := ⟨_, rfl⟩
    rw [← hvy109] at hcvy107
    obtain ⟨Ky111, hKy112⟩ : ∃ KZ9 : Nat → Int, KZ9 = uZ Ky104 82 (0) := ⟨_, rfl⟩
    have hCy110 := lay_r (n := 11) hCy103 hvy109 hKy112 (by omega)
    refine z_aload_n C 1 dX10_comes_88 rfl ?_
    refine z_iload_n C 2 dX10_comes_89 rfl ?_
    refine z_iload_n C 3 dX10_comes_90 rfl ?_
    refine z_iload C 0 dX10_comes_91 rfl ?_
    refine z_bipush (z := 6) C dX10_comes_93 (by decide) ?_
    refine z_aload_n C 1 dX10_comes_95 rfl ?_
    have hgy113 := (hfvy107 (i) (ne_o (i := i) (c := 0) (d := 1) rfl)).trans hgy106
    refine z_get (v := .ref (ad (i + 1))) C (lt_A0 hN rfl) hay1 hgy113 rfl inA_X10 0 (by decide) q_1459 rfl rfl dX10_comes_96 ?_
    refine z_iload_n C 2 dX10_comes_99 rfl ?_
    refine z_iconst (z := 1) C dX10_comes_100 rfl ?_
    refine z_iadd C dX10_comes_101 ?_
    refine z_iald C (lt_A (c := 1) hN rfl) hay2 hcvy107 (b + 1) (by omega) (by omega) (by decide) dX10_comes_102 ?_
    rw [show ry108 (b + 1) = r (b + 1) from (congrFun hvy109 _).trans ((uZ_n _ _ (by omega)).trans ((congrFun hvy102 _).trans ((uZ_n _ _ (by omega)).trans ((congrFun hvy95 _).trans ((uZ_n _ _ (by omega)).trans ((congrFun hvy88 _).trans ((uZ_n _ _ (by omega)).trans ((congrFun hvy81 _).trans ((uZ_n _ _ (by omega)).trans ((congrFun hvy74 _).trans ((uZ_n _ _ (by omega)).trans ((hyvy68 _ (by omega)).trans (rfl)))))))))))))]
    refine z_cV (As := [.int (zI ((b : Int))), .int (zI ((s : Int))), .int (zI (11)), .int (zI (6)), .int (zI (r (b + 1)))]) (rest := []) (ci := 12) C (c_X10_sets l D A cs tt N ad _ i hN _ hgy113 _ hcvy107 b s p hp (by omega) (by omega) (11) (6) (qy71 + 6) (by omega) (by omega) (by omega) (r (b + 1))) (lt_A0 hN rfl) hay1 hgy113 rfl rfl mv_yX10_sets q_1908 hd_yX10_sets (by decide) (Nat.le_of_ble_eq_true rfl) (by decide) dX10_comes_103 rfl (kV0 fun gvy114 hvy114 => ?_)
    obtain ⟨hcvy114, hfvy114⟩ := hvy114
    obtain ⟨ry115, hvy116⟩ : ∃ rZ9 : Nat → Int, rZ9 = uZ ry108 (qy71 + 6) (r (b + 1)) := ⟨_, rfl⟩
    rw [← hvy116] at hcvy114
    obtain ⟨Ky118, hKy119⟩ : ∃ KZ9 : Nat → Int, KZ9 = uZ Ky111 83 (r (b + 1)) := ⟨_, rfl⟩
    have hCy117 := lay_r (n := 11) hCy110 hvy116 hKy119 (by omega)
    refine z_aload_n C 1 dX10_comes_106 rfl ?_
    have hgy120 := (hfvy114 (i) (ne_o (i := i) (c := 0) (d := 1) rfl)).trans hgy113
    refine z_get (v := .ref (ad (i + 1))) C (lt_A0 hN rfl) hay1 hgy120 rfl inA_X10 0 (by decide) q_1459 rfl rfl dX10_comes_107 ?_
    refine z_iload_n C 2 dX10_comes_110 rfl ?_
    refine z_iconst (z := 1) C dX10_comes_111 rfl ?_
    refine z_iadd C dX10_comes_112 ?_
    refine z_dup2 C dX10_comes_113 rfl rfl ?_
    refine z_iald C (lt_A (c := 1) hN rfl) hay2 hcvy114 (b + 1) (by omega) (by omega) (by decide) dX10_comes_114 ?_
    rw [show ry115 (b + 1) = r (b + 1) from (congrFun hvy116 _).trans ((uZ_n _ _ (by omega)).trans ((congrFun hvy109 _).trans ((uZ_n _ _ (by omega)).trans ((congrFun hvy102 _).trans ((uZ_n _ _ (by omega)).trans ((congrFun hvy95 _).trans ((uZ_n _ _ (by omega)).trans ((congrFun hvy88 _).trans ((uZ_n _ _ (by omega)).trans ((congrFun hvy81 _).trans ((uZ_n _ _ (by omega)).trans ((congrFun hvy74 _).trans ((uZ_n _ _ (by omega)).trans ((hyvy68 _ (by omega)).trans (rfl)))))))))))))))]
    refine z_iconst (z := 1) C dX10_comes_115 rfl ?_
    refine z_iadd C dX10_comes_116 ?_
    refine z_iast C (lt_A (c := 1) hN rfl) hay2 hcvy114 (b + 1) (by omega) (by omega) (by decide) dX10_comes_117 (fun gy121 egy122 => ?_)
    have hgy123 := up_s egy122
    obtain ⟨ry124, hvy125⟩ : ∃ rZ9 : Nat → Int, rZ9 = uZ ry115 (b + 1) ((r (b + 1)) + 1) := ⟨_, rfl⟩
    rw [← hvy125] at hgy123
    have hCy126 := lay_n hCy117 hvy125 (by omega)
    refine z_aload_n C 1 dX10_comes_118 rfl ?_
    refine z_iload_n C 2 dX10_comes_119 rfl ?_
    refine z_iload_n C 3 dX10_comes_120 rfl ?_
    refine z_iload C 0 dX10_comes_121 rfl ?_
    refine z_iconst (z := 1) C dX10_comes_123 rfl ?_
    refine z_iadd C dX10_comes_124 ?_
    have hgy127 := up_n egy122 hgy120 (ne_o (i := i) (c := 0) (d := 1) rfl)
    refine z_cV (As := [.int (zI ((b : Int))), .int (zI ((s : Int))), .int (zI (11 + 1))]) (rest := []) (ci := 12) C (c_X10_setsMany l D A cs tt N ad _ i hN _ hgy127 _ hgy123 b s p hp (by omega) (by omega) (11 + 1)) (lt_A0 hN rfl) hay1 hgy127 rfl rfl mv_yX10_setsMany q_1717 hd_yX10_setsMany (by decide) (Nat.le_of_ble_eq_true rfl) (by decide) dX10_comes_125 rfl (kV0 fun gvy128 hvy128 => ?_)
    obtain ⟨hcvy128, hfvy128⟩ := hvy128
    obtain ⟨ry129, hvy130⟩ : ∃ rZ9 : Nat → Int, rZ9 = uZ ry124 (p) (11 + 1) := ⟨_, rfl⟩
    rw [← hvy130] at hcvy128
    have hCy131 := lay_n hCy126 hvy130 (by omega)
    have hfry132 : ∀ j, j ≠ p → j ≠ b + 1 → j ≠ qy71 + 6 → j ≠ qy71 + 5 → j ≠ qy71 + 4 → j ≠ qy71 + 3 → j ≠ qy71 + 2 → j ≠ qy71 + 1 → j ≠ qy71 → ry129 j = rvy68 j := fun j n0 n1 n2 n3 n4 n5 n6 n7 n8 => (congrFun hvy130 _).trans ((uZ_n _ _ n0).trans ((congrFun hvy125 _).trans ((uZ_n _ _ n1).trans ((congrFun hvy116 _).trans ((uZ_n _ _ n2).trans ((congrFun hvy109 _).trans ((uZ_n _ _ n3).trans ((congrFun hvy102 _).trans ((uZ_n _ _ n4).trans ((congrFun hvy95 _).trans ((uZ_n _ _ n5).trans ((congrFun hvy88 _).trans ((uZ_n _ _ n6).trans ((congrFun hvy81 _).trans ((uZ_n _ _ n7).trans ((congrFun hvy74 _).trans ((uZ_n _ _ n8).trans (rfl))))))))))))))))))
    have hcm : cmZ z1 z2 z4 (r (b + 1)) (n, K, ro) = (12, adK (joK K) 11 z1 z2 0 (10 * z2) z4 (r (b + 1)), ro) := if_pos (by omega)
    have hnb : rvy68 (b + 1) = r (b + 1) := hyvy68 (b + 1) (by omega)
    have hfin : ∀ q9, q9 < 7 * (11 + 1) → ry129 (p + 2 + q9) = adK (joK K) 11 z1 z2 0 (10 * z2) z4 (r (b + 1)) q9 := by
      intro q9 h8
      by_cases e9 : q9 < 7 * 11
      · rw [adK_o e9]; exact (hfry132 _ (by omega) (by omega) (by omega) (by omega) (by omega) (by omega) (by omega) (by omega) (by omega)).trans (hCj q9 e9)
      · obtain ⟨f9, hf9, hf8⟩ : ∃ f9, q9 = 7 * 11 + f9 ∧ f9 < 7 := ⟨q9 - 7 * 11, by omega, by omega⟩
        rw [hf9, show p + 2 + (7 * 11 + f9) = qy71 + f9 by omega]
        rcases (show f9 = 0 ∨ f9 = 1 ∨ f9 = 2 ∨ f9 = 3 ∨ f9 = 4 ∨ f9 = 5 ∨ f9 = 6 by omega) with rfl | rfl | rfl | rfl | rfl | rfl | rfl
        · exact ((congrFun hvy130 _).trans ((uZ_n _ _ (by omega)).trans ((congrFun hvy125 _).trans ((uZ_n _ _ (by omega)).trans ((congrFun hvy116 _).trans ((uZ_n _ _ (by omega)).trans ((congrFun hvy109 _).trans ((uZ_n _ _ (by omega)).trans ((congrFun hvy102 _).trans ((uZ_n _ _ (by omega)).trans ((congrFun hvy95 _).trans ((uZ_n _ _ (by omega)).trans ((congrFun hvy88 _).trans ((uZ_n _ _ (by omega)).trans ((congrFun hvy81 _).trans ((uZ_n _ _ (by omega)).trans ((congrFun hvy74 _).trans (uZ_s _ _ _)))))))))))))))))).trans adK_f0.symm
        · exact ((congrFun hvy130 _).trans ((uZ_n _ _ (by omega)).trans ((congrFun hvy125 _).trans ((uZ_n _ _ (by omega)).trans ((congrFun hvy116 _).trans ((uZ_n _ _ (by omega)).trans ((congrFun hvy109 _).trans ((uZ_n _ _ (by omega)).trans ((congrFun hvy102 _).trans ((uZ_n _ _ (by omega)).trans ((congrFun hvy95 _).trans ((uZ_n _ _ (by omega)).trans ((congrFun hvy88 _).trans ((uZ_n _ _ (by omega)).trans ((congrFun hvy81 _).trans (uZ_s _ _ _)))))))))))))))).trans adK_f1.symm
        · exact ((congrFun hvy130 _).trans ((uZ_n _ _ (by omega)).trans ((congrFun hvy125 _).trans ((uZ_n _ _ (by omega)).trans ((congrFun hvy116 _).trans ((uZ_n _ _ (by omega)).trans ((congrFun hvy109 _).trans ((uZ_n _ _ (by omega)).trans ((congrFun hvy102 _).trans ((uZ_n _ _ (by omega)).trans ((congrFun hvy95 _).trans ((uZ_n _ _ (by omega)).trans ((congrFun hvy88 _).trans (uZ_s _ _ _)))))))))))))).trans adK_f2.symm
        · exact ((congrFun hvy130 _).trans ((uZ_n _ _ (by omega)).trans ((congrFun hvy125 _).trans ((uZ_n _ _ (by omega)).trans ((congrFun hvy116 _).trans ((uZ_n _ _ (by omega)).trans ((congrFun hvy109 _).trans ((uZ_n _ _ (by omega)).trans ((congrFun hvy102 _).trans ((uZ_n _ _ (by omega)).trans ((congrFun hvy95 _).trans (uZ_s _ _ _)))))))))))).trans (hz3.trans adK_f3.symm)
        · exact ((congrFun hvy130 _).trans ((uZ_n _ _ (by omega)).trans ((congrFun hvy125 _).trans ((uZ_n _ _ (by omega)).trans ((congrFun hvy116 _).trans ((uZ_n _ _ (by omega)).trans ((congrFun hvy109 _).trans ((uZ_n _ _ (by omega)).trans ((congrFun hvy102 _).trans (uZ_s _ _ _)))))))))).trans adK_f4.symm
        · exact ((congrFun hvy130 _).trans ((uZ_n _ _ (by omega)).trans ((congrFun hvy125 _).trans ((uZ_n _ _ (by omega)).trans ((congrFun hvy116 _).trans ((uZ_n _ _ (by omega)).trans ((congrFun hvy109 _).trans (uZ_s _ _ _)))))))).trans adK_f5.symm
        · exact ((congrFun hvy130 _).trans ((uZ_n _ _ (by omega)).trans ((congrFun hvy125 _).trans ((uZ_n _ _ (by omega)).trans ((congrFun hvy116 _).trans (uZ_s _ _ _)))))).trans adK_f6.symm
    exact z_vret C hr hlk dX10_comes_128 (by decide) (by decide) ⟨rfl, rfl, rfl, ⟨_, hcvy128, (by rw [hcm]; exact ⟨(((congrFun hvy130 _).trans (uZ_s _ _ _)).trans (by omega)), ((((congrFun hvy130 _).trans ((uZ_n _ _ (by omega)).trans ((congrFun hvy125 _).trans ((uZ_n _ _ (by omega)).trans ((congrFun hvy116 _).trans ((uZ_n _ _ (by omega)).trans ((congrFun hvy109 _).trans ((uZ_n _ _ (by omega)).trans ((congrFun hvy102 _).trans ((uZ_n _ _ (by omega)).trans ((congrFun hvy95 _).trans ((uZ_n _ _ (by omega)).trans ((congrFun hvy88 _).trans ((uZ_n _ _ (by omega)).trans ((congrFun hvy81 _).trans ((uZ_n _ _ (by omega)).trans ((congrFun hvy74 _).trans ((uZ_n _ _ (by omega)).trans (rfl)))))))))))))))))))).trans hrj), hfin⟩), (congrFun hvy130 _).trans ((uZ_n _ _ (by omega)).trans ((congrFun hvy125 _).trans (uZ_s _ _ _))), fun j a1 a2 => (hfry132 j (by omega) (by omega) (by omega) (by omega) (by omega) (by omega) (by omega) (by omega) (by omega)).trans (hyvy68 j a1)⟩, fun j j1 => by rw [hfvy128 _ (by omega)]; rw [egy122, va_up_ne _ _ (by omega)]; rw [hfvy114 _ (by omega)]; rw [hfvy107 _ (by omega)]; rw [hfvy100 _ (by omega)]; rw [hfvy93 _ (by omega)]; rw [hfvy86 _ (by omega)]; rw [hfvy79 _ (by omega)]; rw [hfvy72 _ (by omega)]; rw [hfvy68 _ (by omega)]⟩

set_option maxRecDepth 100000 in
set_option maxHeartbeats 4000000 in
theorem c_uDrops (l : Launch) (D : va_G) (A : Nat → Prop) (cs : Nat → ClassId) (tt : Nat) (N : Nat) (ad : Nat → Nat) (g : Nat → va_E) (i : Nat) (hN : i + 30 ≤ N) (F : Nat → Int) (hg : g i = mC ad i F) (r : Nat → Int) (ha1 : g (i + 1) = iA cs 29200 r) (b s p : Nat) (hp : b + 6 + 86 * s = p) (hb : b + 350 ≤ 29200) (hs : s < 4) (n : Nat) (K : Nat → Int) (hn : r p = (n : Int)) (hC : ∀ q, q < 7 * n → r (p + 2 + q) = K q) (hO : okP K n) (ro : Int) (hro : r (p + 1) = ro) (hnm : 0 ≤ r (b + 1) ∧ r (b + 1) ≤ 20000) (z1 : Int) (hz1 : 0 ≤ z1 ∧ z1 ≤ 3) (z2 : Int) (hz2 : -2147483648 ≤ z2 ∧ z2 ≤ 2147483647) (hzw : z1 = 1 ∨ z1 = 2 → 1 ≤ z2 ∧ z2 ≤ 50) (z3 : Int) (hz3 : -300 ≤ z3 ∧ z3 ≤ 100) : zM l yX10_drops cX10_drops 6 none ({ frames := 5, cells := 0, slots := 0, locals := 300 } : Room) D A cs tt N ad g [.ref (ad i), .int (zI ((b : Int))), .int (zI ((s : Int))), .int (zI (z1)), .int (zI (z2)), .int (zI (z3))] (rV0 N ad fun g' => (∃ r' : Nat → Int, g' (i + 1) = iA cs 29200 r' ∧ isS r' p (foZ z1 z2 z3 (r (b + 1)) (n, K, ro)) ∧ r' (b + 1) = r (b + 1) + foN z1 z3 ∧ (∀ j, j < p ∨ p + 86 ≤ j → j ≠ b + 1 → r' j = r j)) ∧ ∀ j, j ≠ i + 1 → g' j = g j) := by
  have hay1 : zAt ad (i) (ad i) := rfl
  have hay2 : zAt ad (i + 1) (ad (i + 1)) := rfl
  have hn12 := hO.1
  refine z_of (by decide) (Nat.le_of_ble_eq_true rfl) ?_
  intro pY eY sY mY below meth cY C hr hlk hnm
  refine z_lv (lv' := [(0, .ref (ad i)), (1, .int (zI ((b : Int)))), (2, .int (zI ((s : Int)))), (3, .int (zI (z1))), (4, .int (zI (z2))), (5, .int (zI (z3)))]) [0, 1, 2, 3, 4, 5] rfl ?_
  refine z_iload_n C 3 dX10_drops_0 rfl ?_
  refine z_iconst (z := 1) C dX10_drops_1 rfl ?_
  refine z_icmp_ne (tgt := 25) C dX10_drops_2 (by decide) (by omega) (by omega) (fun hby3 => ?_) (fun hby3 => ?_)
  · refine z_iload_n C 3 dX10_drops_25 rfl ?_
    refine z_iconst (z := 3) C dX10_drops_26 rfl ?_
    refine z_icmp_ne (tgt := 47) C dX10_drops_27 (by decide) (by omega) (by omega) (fun hby4 => ?_) (fun hby4 => ?_)
    · refine z_iload_n C 3 dX10_drops_47 rfl ?_
      refine z_iconst (z := 2) C dX10_drops_48 rfl ?_
      refine z_icmp_eq (tgt := 53) C dX10_drops_49 (by decide) (by omega) (by omega) (fun hby5 => ?_) (fun hby5 => ?_)
      · refine z_aload_n C 0 dX10_drops_53 rfl ?_
        refine z_iload_n C 1 dX10_drops_54 rfl ?_
        refine z_iload_n C 2 dX10_drops_55 rfl ?_
        refine z_cV (As := [.int (zI ((b : Int))), .int (zI ((s : Int)))]) (rest := []) (ci := 12) C (c_X10_many l D A cs tt N ad _ i hN _ hg _ ha1 b s p hp (by omega) (by omega)) (lt_A0 hN rfl) hay1 hg rfl rfl mv_yX10_many q_1733 hd_yX10_many (by decide) (Nat.le_of_ble_eq_true rfl) (by decide) dX10_drops_56 rfl (kI0 fun vy6 gvy6 hvy6 => ?_)
        obtain ⟨rfl, rfl⟩ := hvy6
        rw [show r (p) = (n : Int) from hn]
        refine z_if_ne (tgt := 73) C dX10_drops_59 (by decide) (by omega) (fun hby7 => ?_) (fun hby7 => ?_)
        · refine z_aload_n C 0 dX10_drops_73 rfl ?_
          refine z_get (v := .ref (ad (i + 1))) C (lt_A0 hN rfl) hay1 hg rfl inA_X10 0 (by decide) q_1459 rfl rfl dX10_drops_74 ?_
          refine z_iload_n C 1 dX10_drops_77 rfl ?_
          refine z_iload_n C 2 dX10_drops_78 rfl ?_
          refine z_aload_n C 0 dX10_drops_79 rfl ?_
          refine z_iload_n C 1 dX10_drops_80 rfl ?_
          refine z_iload_n C 2 dX10_drops_81 rfl ?_
          refine z_cV (As := [.int (zI ((b : Int))), .int (zI ((s : Int)))]) (rest := [.int (zI ((s : Int))), .int (zI ((b : Int))), .ref (ad (i + 1))]) (ci := 12) C (c_X10_many l D A cs tt N ad _ i hN _ hg _ ha1 b s p hp (by omega) (by omega)) (lt_A0 hN rfl) hay1 hg rfl rfl mv_yX10_many q_1733 hd_yX10_many (by decide) (Nat.le_of_ble_eq_true rfl) (by decide) dX10_drops_82 rfl (kI0 fun vy8 gvy8 hvy8 => ?_)
          obtain ⟨rfl, rfl⟩ := hvy8
          rw [show r (p) = (n : Int) from hn]
          refine z_iconst (z := 1) C dX10_drops_85 rfl ?_
          refine z_isub C dX10_drops_86 ?_
          obtain ⟨j, hj9⟩ : ∃ j, n = j + 1 := ⟨n - 1, by omega⟩
          rw [show ((n : Int)) - 1 = (j : Int) by omega]
          have hqy9k : ((j : Int) : Int) = ((j : Nat) : Int) := by omega
          obtain ⟨qy9, hqy9⟩ : ∃ q9 : Nat, p + 2 + 7 * j = q9 := ⟨_, rfl⟩
          refine z_cS (As := [.int (zI ((b : Int))), .int (zI ((s : Int))), .int (zI ((j : Int)))]) (rest := [.ref (ad (i + 1))]) C (c_X10_at l D A cs tt N ad _ ((b : Int)) (by omega) ((s : Int)) (by omega) ((j : Int)) (by omega)) ms_yX10_at q_1753 hd_yX10_at (by decide) (Nat.le_of_ble_eq_true rfl) (by decide) dX10_drops_87 rfl (kI0 fun vy10 gvy10 hvy10 => ?_)
          obtain ⟨hvy10, rfl⟩ := hvy10
          rw [show vy10 = (qy9 : Int) by omega]
          refine z_iconst (z := 2) C dX10_drops_90 rfl ?_
          refine z_iadd C dX10_drops_91 ?_
          refine z_dup2 C dX10_drops_92 rfl rfl ?_
          refine z_iald C (lt_A (c := 1) hN rfl) hay2 ha1 (qy9 + 2) (by omega) (by omega) (by decide) dX10_drops_93 ?_
          rw [show r (qy9 + 2) = K (7 * j + 2) from (congrArg r (show qy9 + 2 = p + 2 + (7 * j + 2) by omega)).trans (hC (7 * j + 2) (by omega))]
          obtain ⟨⟨qy110, qy111, qy112, qy113, qy114, qy115, qy116⟩, qy119⟩ := hO.ly (l := j) (by omega)
          refine z_iload C 4 dX10_drops_94 rfl ?_
          have hzqy12 := hzw (by omega)
          refine z_iadd C dX10_drops_96 ?_
          refine z_iast C (lt_A (c := 1) hN rfl) hay2 ha1 (qy9 + 2) (by omega) (by omega) (by decide) dX10_drops_97 (fun gy13 egy14 => ?_)
          have hgy15 := up_s egy14
          obtain ⟨ry16, hvy17⟩ : ∃ rZ9 : Nat → Int, rZ9 = uZ r (qy9 + 2) ((K (7 * j + 2)) + z2) := ⟨_, rfl⟩
          rw [← hvy17] at hgy15
          obtain ⟨Ky19, hKy20⟩ : ∃ KZ9 : Nat → Int, KZ9 = uZ K (7 * j + 2) ((K (7 * j + 2)) + z2) := ⟨_, rfl⟩
          have hCy18 := lay_r hC hvy17 hKy20 (by omega)
          have hfry21 : ∀ j, j ≠ qy9 + 2 → ry16 j = r j := fun j n0 => (congrFun hvy17 _).trans ((uZ_n _ _ n0).trans (rfl))
          have hF : foZ z1 z2 z3 (r (b + 1)) (n, K, ro) = (n, wtK K n z2, wtR n ro z2) := by unfold foZ; rw [if_pos (by omega)]
          have hNn : foN z1 z3 = 0 := by unfold foN; rw [if_pos (by omega)]
          rw [hF, hNn, Int.add_zero]
          have hKw : wtK K n z2 = Ky19 := by unfold wtK; rw [if_neg (by omega), hj9, show j + 1 - 1 = j from rfl, hKy20]
          have hRw : ry16 (p + 1) = wtR n ro z2 := by unfold wtR; rw [if_neg (by omega)]; exact ((((congrFun hvy17 _).trans ((uZ_n _ _ (by omega)).trans (rfl)))) : ry16 (p + 1) = r (p + 1)).trans hro
          rw [hKw]
          exact z_vret C hr hlk dX10_drops_98 (by decide) (by decide) ⟨rfl, rfl, rfl, ⟨_, hgy15, ⟨(((congrFun hvy17 _).trans ((uZ_n _ _ (by omega)).trans (rfl))).trans hn), hRw, hCy18⟩, (congrFun hvy17 _).trans ((uZ_n _ _ (by omega)).trans (rfl)), fun j a1 a2 => hfry21 j (by omega)⟩, fun j j1 => by rw [egy14, va_up_ne _ _ (by omega)]⟩
        · refine z_aload_n C 0 dX10_drops_62 rfl ?_
          refine z_iload_n C 1 dX10_drops_63 rfl ?_
          refine z_iload_n C 2 dX10_drops_64 rfl ?_
          refine z_iload C 4 dX10_drops_65 rfl ?_
          have hzqy22 := hzw (by omega)
          refine z_cV (As := [.int (zI ((b : Int))), .int (zI ((s : Int))), .int (zI (z2))]) (rest := []) (ci := 12) C (c_X10_runsOff l D A cs tt N ad _ i hN _ hg _ ha1 b s p hp (by omega) (by omega) (z2)) (lt_A0 hN rfl) hay1 hg rfl rfl mv_yX10_runsOff q_1912 hd_yX10_runsOff (by decide) (Nat.le_of_ble_eq_true rfl) (by decide) dX10_drops_67 rfl (kV0 fun gvy23 hvy23 => ?_)
          obtain ⟨hcvy23, hfvy23⟩ := hvy23
          obtain ⟨ry24, hvy25⟩ : ∃ rZ9 : Nat → Int, rZ9 = uZ r (p + 1) (r (p + 1) + (z2)) := ⟨_, rfl⟩
          rw [← hvy25] at hcvy23
          have hCy26 := lay_n hC hvy25 (by omega)
          refine z_goto (tgt := 98) C dX10_drops_70 (by decide) ?_
          have hfry27 : ∀ j, j ≠ p + 1 → ry24 j = r j := fun j n0 => (congrFun hvy25 _).trans ((uZ_n _ _ n0).trans (rfl))
          have hF : foZ z1 z2 z3 (r (b + 1)) (n, K, ro) = (n, wtK K n z2, wtR n ro z2) := by unfold foZ; rw [if_pos (by omega)]
          have hNn : foN z1 z3 = 0 := by unfold foN; rw [if_pos (by omega)]
          rw [hF, hNn, Int.add_zero]
          have hKw : wtK K n z2 = K := if_pos (by omega)
          have hRw : ry24 (p + 1) = wtR n ro z2 := by unfold wtR; rw [if_pos (by omega), show ry24 (p + 1) = r (p + 1) + (z2) from ((congrFun hvy25 _).trans (uZ_s _ _ _))]; omega
          rw [hKw]
          exact z_vret C hr hlk dX10_drops_98 (by decide) (by decide) ⟨rfl, rfl, rfl, ⟨_, hcvy23, ⟨(((congrFun hvy25 _).trans ((uZ_n _ _ (by omega)).trans (rfl))).trans hn), hRw, hCy26⟩, (congrFun hvy25 _).trans ((uZ_n _ _ (by omega)).trans (rfl)), fun j a1 a2 => hfry27 j (by omega)⟩, fun j j1 => by rw [hfvy23 _ (by omega)]⟩
      · have hF : foZ z1 z2 z3 (r (b + 1)) (n, K, ro) = (n, K, ro) := by unfold foZ; rw [if_neg (by omega), if_neg (by omega), if_neg (by omega)]
        have hNn : foN z1 z3 = 0 := by unfold foN; rw [if_neg (by omega), if_neg (by omega), if_neg (by omega)]
        rw [hF, hNn, Int.add_zero]
        exact z_vret C hr hlk dX10_drops_52 (by decide) (by decide) ⟨rfl, rfl, rfl, ⟨_, ha1, ⟨hn, hro, hC⟩, rfl, fun j _ _ => rfl⟩, fun j j1 => by rfl⟩
    · refine z_iload C 5 dX10_drops_30 rfl ?_
      refine z_if_ge (tgt := 47) C dX10_drops_32 (by decide) (by omega) (fun hby28 => ?_) (fun hby28 => ?_)
      · refine z_iload_n C 3 dX10_drops_47 rfl ?_
        refine z_iconst (z := 2) C dX10_drops_48 rfl ?_
        refine z_icmp_eq (tgt := 53) C dX10_drops_49 (by decide) (by omega) (by omega) (fun hby29 => ?_) (fun hby29 => ?_)
        · refine z_aload_n C 0 dX10_drops_53 rfl ?_
          refine z_iload_n C 1 dX10_drops_54 rfl ?_
          refine z_iload_n C 2 dX10_drops_55 rfl ?_
          refine z_cV (As := [.int (zI ((b : Int))), .int (zI ((s : Int)))]) (rest := []) (ci := 12) C (c_X10_many l D A cs tt N ad _ i hN _ hg _ ha1 b s p hp (by omega) (by omega)) (lt_A0 hN rfl) hay1 hg rfl rfl mv_yX10_many q_1733 hd_yX10_many (by decide) (Nat.le_of_ble_eq_true rfl) (by decide) dX10_drops_56 rfl (kI0 fun vy30 gvy30 hvy30 => ?_)
          obtain ⟨rfl, rfl⟩ := hvy30
          rw [show r (p) = (n : Int) from hn]
          refine z_if_ne (tgt := 73) C dX10_drops_59 (by decide) (by omega) (fun hby31 => ?_) (fun hby31 => ?_)
          · refine z_aload_n C 0 dX10_drops_73 rfl ?_
            refine z_get (v := .ref (ad (i + 1))) C (lt_A0 hN rfl) hay1 hg rfl inA_X10 0 (by decide) q_1459 rfl rfl dX10_drops_74 ?_
            refine z_iload_n C 1 dX10_drops_77 rfl ?_
            refine z_iload_n C 2 dX10_drops_78 rfl ?_
            refine z_aload_n C 0 dX10_drops_79 rfl ?_
            refine z_iload_n C 1 dX10_drops_80 rfl ?_
            refine z_iload_n C 2 dX10_drops_81 rfl ?_
            refine z_cV (As := [.int (zI ((b : Int))), .int (zI ((s : Int)))]) (rest := [.int (zI ((s : Int))), .int (zI ((b : Int))), .ref (ad (i + 1))]) (ci := 12) C (c_X10_many l D A cs tt N ad _ i hN _ hg _ ha1 b s p hp (by omega) (by omega)) (lt_A0 hN rfl) hay1 hg rfl rfl mv_yX10_many q_1733 hd_yX10_many (by decide) (Nat.le_of_ble_eq_true rfl) (by decide) dX10_drops_82 rfl (kI0 fun vy32 gvy32 hvy32 => ?_)
            obtain ⟨rfl, rfl⟩ := hvy32
            rw [show r (p) = (n : Int) from hn]
            refine z_iconst (z := 1) C dX10_drops_85 rfl ?_
            refine z_isub C dX10_drops_86 ?_
            obtain ⟨j, hj9⟩ : ∃ j, n = j + 1 := ⟨n - 1, by omega⟩
            rw [show ((n : Int)) - 1 = (j : Int) by omega]
            have hqy33k : ((j : Int) : Int) = ((j : Nat) : Int) := by omega
            obtain ⟨qy33, hqy33⟩ : ∃ q9 : Nat, p + 2 + 7 * j = q9 := ⟨_, rfl⟩
            refine z_cS (As := [.int (zI ((b : Int))), .int (zI ((s : Int))), .int (zI ((j : Int)))]) (rest := [.ref (ad (i + 1))]) C (c_X10_at l D A cs tt N ad _ ((b : Int)) (by omega) ((s : Int)) (by omega) ((j : Int)) (by omega)) ms_yX10_at q_1753 hd_yX10_at (by decide) (Nat.le_of_ble_eq_true rfl) (by decide) dX10_drops_87 rfl (kI0 fun vy34 gvy34 hvy34 => ?_)
            obtain ⟨hvy34, rfl⟩ := hvy34
            rw [show vy34 = (qy33 : Int) by omega]
            refine z_iconst (z := 2) C dX10_drops_90 rfl ?_
            refine z_iadd C dX10_drops_91 ?_
            refine z_dup2 C dX10_drops_92 rfl rfl ?_
            refine z_iald C (lt_A (c := 1) hN rfl) hay2 ha1 (qy33 + 2) (by omega) (by omega) (by decide) dX10_drops_93 ?_
            rw [show r (qy33 + 2) = K (7 * j + 2) from (congrArg r (show qy33 + 2 = p + 2 + (7 * j + 2) by omega)).trans (hC (7 * j + 2) (by omega))]
            obtain ⟨⟨qy350, qy351, qy352, qy353, qy354, qy355, qy356⟩, qy359⟩ := hO.ly (l := j) (by omega)
            refine z_iload C 4 dX10_drops_94 rfl ?_
            have hzqy36 := hzw (by omega)
            refine z_iadd C dX10_drops_96 ?_
            refine z_iast C (lt_A (c := 1) hN rfl) hay2 ha1 (qy33 + 2) (by omega) (by omega) (by decide) dX10_drops_97 (fun gy37 egy38 => ?_)
            have hgy39 := up_s egy38
            obtain ⟨ry40, hvy41⟩ : ∃ rZ9 : Nat → Int, rZ9 = uZ r (qy33 + 2) ((K (7 * j + 2)) + z2) := ⟨_, rfl⟩
            rw [← hvy41] at hgy39
            obtain ⟨Ky43, hKy44⟩ : ∃ KZ9 : Nat → Int, KZ9 = uZ K (7 * j + 2) ((K (7 * j + 2)) + z2) := ⟨_, rfl⟩
            have hCy42 := lay_r hC hvy41 hKy44 (by omega)
            have hfry45 : ∀ j, j ≠ qy33 + 2 → ry40 j = r j := fun j n0 => (congrFun hvy41 _).trans ((uZ_n _ _ n0).trans (rfl))
            have hF : foZ z1 z2 z3 (r (b + 1)) (n, K, ro) = (n, wtK K n z2, wtR n ro z2) := by unfold foZ; rw [if_pos (by omega)]
            have hNn : foN z1 z3 = 0 := by unfold foN; rw [if_pos (by omega)]
            rw [hF, hNn, Int.add_zero]
            have hKw : wtK K n z2 = Ky43 := by unfold wtK; rw [if_neg (by omega), hj9, show j + 1 - 1 = j from rfl, hKy44]
            have hRw : ry40 (p + 1) = wtR n ro z2 := by unfold wtR; rw [if_neg (by omega)]; exact ((((congrFun hvy41 _).trans ((uZ_n _ _ (by omega)).trans (rfl)))) : ry40 (p + 1) = r (p + 1)).trans hro
            rw [hKw]
            exact z_vret C hr hlk dX10_drops_98 (by decide) (by decide) ⟨rfl, rfl, rfl, ⟨_, hgy39, ⟨(((congrFun hvy41 _).trans ((uZ_n _ _ (by omega)).trans (rfl))).trans hn), hRw, hCy42⟩, (congrFun hvy41 _).trans ((uZ_n _ _ (by omega)).trans (rfl)), fun j a1 a2 => hfry45 j (by omega)⟩, fun j j1 => by rw [egy38, va_up_ne _ _ (by omega)]⟩
          · refine z_aload_n C 0 dX10_drops_62 rfl ?_
            refine z_iload_n C 1 dX10_drops_63 rfl ?_
            refine z_iload_n C 2 dX10_drops_64 rfl ?_
            refine z_iload C 4 dX10_drops_65 rfl ?_
            have hzqy46 := hzw (by omega)
            refine z_cV (As := [.int (zI ((b : Int))), .int (zI ((s : Int))), .int (zI (z2))]) (rest := []) (ci := 12) C (c_X10_runsOff l D A cs tt N ad _ i hN _ hg _ ha1 b s p hp (by omega) (by omega) (z2)) (lt_A0 hN rfl) hay1 hg rfl rfl mv_yX10_runsOff q_1912 hd_yX10_runsOff (by decide) (Nat.le_of_ble_eq_true rfl) (by decide) dX10_drops_67 rfl (kV0 fun gvy47 hvy47 => ?_)
            obtain ⟨hcvy47, hfvy47⟩ := hvy47
            obtain ⟨ry48, hvy49⟩ : ∃ rZ9 : Nat → Int, rZ9 = uZ r (p + 1) (r (p + 1) + (z2)) := ⟨_, rfl⟩
            rw [← hvy49] at hcvy47
            have hCy50 := lay_n hC hvy49 (by omega)
            refine z_goto (tgt := 98) C dX10_drops_70 (by decide) ?_
            have hfry51 : ∀ j, j ≠ p + 1 → ry48 j = r j := fun j n0 => (congrFun hvy49 _).trans ((uZ_n _ _ n0).trans (rfl))
            have hF : foZ z1 z2 z3 (r (b + 1)) (n, K, ro) = (n, wtK K n z2, wtR n ro z2) := by unfold foZ; rw [if_pos (by omega)]
            have hNn : foN z1 z3 = 0 := by unfold foN; rw [if_pos (by omega)]
            rw [hF, hNn, Int.add_zero]
            have hKw : wtK K n z2 = K := if_pos (by omega)
            have hRw : ry48 (p + 1) = wtR n ro z2 := by unfold wtR; rw [if_pos (by omega), show ry48 (p + 1) = r (p + 1) + (z2) from ((congrFun hvy49 _).trans (uZ_s _ _ _))]; omega
            rw [hKw]
            exact z_vret C hr hlk dX10_drops_98 (by decide) (by decide) ⟨rfl, rfl, rfl, ⟨_, hcvy47, ⟨(((congrFun hvy49 _).trans ((uZ_n _ _ (by omega)).trans (rfl))).trans hn), hRw, hCy50⟩, (congrFun hvy49 _).trans ((uZ_n _ _ (by omega)).trans (rfl)), fun j a1 a2 => hfry51 j (by omega)⟩, fun j j1 => by rw [hfvy47 _ (by omega)]⟩
        · have hF : foZ z1 z2 z3 (r (b + 1)) (n, K, ro) = (n, K, ro) := by unfold foZ; rw [if_neg (by omega), if_neg (by omega), if_neg (by omega)]
          have hNn : foN z1 z3 = 0 := by unfold foN; rw [if_neg (by omega), if_neg (by omega), if_neg (by omega)]
          rw [hF, hNn, Int.add_zero]
          exact z_vret C hr hlk dX10_drops_52 (by decide) (by decide) ⟨rfl, rfl, rfl, ⟨_, ha1, ⟨hn, hro, hC⟩, rfl, fun j _ _ => rfl⟩, fun j j1 => by rfl⟩
      · refine z_aload_n C 0 dX10_drops_35 rfl ?_
        refine z_iload_n C 1 dX10_drops_36 rfl ?_
        refine z_iload_n C 2 dX10_drops_37 rfl ?_
        refine z_iconst (z := 4) C dX10_drops_38 rfl ?_
        refine z_iconst (z := 1) C dX10_drops_39 rfl ?_
        refine z_bipush (z := 10) C dX10_drops_40 (by decide) ?_
        refine z_iload C 5 dX10_drops_42 rfl ?_
        refine z_cV (As := [.int (zI ((b : Int))), .int (zI ((s : Int))), .int (zI (4)), .int (zI (1)), .int (zI (10)), .int (zI (z3))]) (rest := []) (ci := 12) C (c_uComes l D A cs tt N ad _ i hN _ hg _ ha1  b s p hp (by omega) (by omega) n K hn hC hO ro hro (by omega) (4) (by omega) (1) (by omega) (10) (by omega) (z3) (by omega)) (lt_A0 hN rfl) hay1 hg rfl rfl mv_yX10_comes q_1897 hd_yX10_comes (by decide) (Nat.le_of_ble_eq_true rfl) (by decide) dX10_drops_44 rfl (kV0 fun gvy52 hvy52 => ?_)
        obtain ⟨⟨rvy52, hcvy52, hSvy52, hnvy52, hyvy52⟩, hfvy52⟩ := hvy52
        refine z_iload_n C 3 dX10_drops_47 rfl ?_
        refine z_iconst (z := 2) C dX10_drops_48 rfl ?_
        refine z_icmp_eq (tgt := 53) C dX10_drops_49 (by decide) (by omega) (by omega) (fun hby53 => ?_) (fun hby53 => ?_)
        · refine z_aload_n C 0 dX10_drops_53 rfl ?_
          refine z_iload_n C 1 dX10_drops_54 rfl ?_
          refine z_iload_n C 2 dX10_drops_55 rfl ?_
          have hgy54 := (hfvy52 (i) (ne_o (i := i) (c := 0) (d := 1) rfl)).trans hg
          refine z_cV (As := [.int (zI ((b : Int))), .int (zI ((s : Int)))]) (rest := []) (ci := 12) C (c_X10_many l D A cs tt N ad _ i hN _ hgy54 _ hcvy52 b s p hp (by omega) (by omega)) (lt_A0 hN rfl) hay1 hgy54 rfl rfl mv_yX10_many q_1733 hd_yX10_many (by decide) (Nat.le_of_ble_eq_true rfl) (by decide) dX10_drops_56 rfl (kI0 fun vy55 gvy55 hvy55 => ?_)
          obtain ⟨rfl, rfl⟩ := hvy55
          obtain ⟨xy56, exy57, hxy58⟩ := zI_of (zI (rvy52 (p)))
          rw [exy57]
          refine z_if_ne (tgt := 73) C dX10_drops_59 (by decide) (by omega) (fun hby59 => ?_) (fun hby59 => ?_)
          · refine z_aload_n C 0 dX10_drops_73 rfl ?_
            refine z_get (v := .ref (ad (i + 1))) C (lt_A0 hN rfl) hay1 hgy54 rfl inA_X10 0 (by decide) q_1459 rfl rfl dX10_drops_74 ?_
            refine z_iload_n C 1 dX10_drops_77 rfl ?_
            refine z_iload_n C 2 dX10_drops_78 rfl ?_
            refine z_aload_n C 0 dX10_drops_79 rfl ?_
            refine z_iload_n C 1 dX10_drops_80 rfl ?_
            refine z_iload_n C 2 dX10_drops_81 rfl ?_
            refine z_cV (As := [.int (zI ((b : Int))), .int (zI ((s : Int)))]) (rest := [.int (zI ((s : Int))), .int (zI ((b : Int))), .ref (ad (i + 1))]) (ci := 12) C (c_X10_many l D A cs tt N ad _ i hN _ hgy54 _ hcvy52 b s p hp (by omega) (by omega)) (lt_A0 hN rfl) hay1 hgy54 rfl rfl mv_yX10_many q_1733 hd_yX10_many (by decide) (Nat.le_of_ble_eq_true rfl) (by decide) dX10_drops_82 rfl (kI0 fun vy60 gvy60 hvy60 => ?_)
            obtain ⟨rfl, rfl⟩ := hvy60
            refine z_iconst (z := 1) C dX10_drops_85 rfl ?_
            refine z_isub C dX10_drops_86 ?_
            obtain ⟨j, hj9⟩ : ∃ j, n = j + 1 := ⟨n - 1, by omega⟩
            rw [show (rvy52 (p)) - 1 = (j : Int) by omega]
            have hqy61k : ((j : Int) : Int) = ((j : Nat) : Int) := by omega
            obtain ⟨qy61, hqy61⟩ : ∃ q9 : Nat, p + 2 + 7 * j = q9 := ⟨_, rfl⟩
            refine z_cS (As := [.int (zI ((b : Int))), .int (zI ((s : Int))), .int (zI ((j : Int)))]) (rest := [.ref (ad (i + 1))]) C (c_X10_at l D A cs tt N ad _ ((b : Int)) (by omega) ((s : Int)) (by omega) ((j : Int)) (by omega)) ms_yX10_at q_1753 hd_yX10_at (by decide) (Nat.le_of_ble_eq_true rfl) (by decide) dX10_drops_87 rfl (kI0 fun vy62 gvy62 hvy62 => ?_)
            obtain ⟨hvy62, rfl⟩ := hvy62
            rw [show vy62 = (qy61 : Int) by omega]
            refine z_iconst (z := 2) C dX10_drops_90 rfl ?_
            refine z_iadd C dX10_drops_91 ?_
            refine z_dup2 C dX10_drops_92 rfl rfl ?_
            refine z_iald C (lt_A (c := 1) hN rfl) hay2 hcvy52 (qy61 + 2) (by omega) (by omega) (by decide) dX10_drops_93 ?_
            refine z_iload C 4 dX10_drops_94 rfl ?_
            have hzqy63 := hzw (by omega)
            refine z_iadd C dX10_drops_96 ?_
            refine z_iast C (lt_A (c := 1) hN rfl) hay2 hcvy52 (qy61 + 2) (by omega) (by omega) (by decide) dX10_drops_97 (fun gy64 egy65 => ?_)
            have hgy66 := up_s egy65
            obtain ⟨ry67, hvy68⟩ : ∃ rZ9 : Nat → Int, rZ9 = uZ rvy52 (qy61 + 2) ((rvy52 (qy61 + 2)) + z2) := ⟨_, rfl⟩
            rw [← hvy68] at hgy66
            omega
          · refine z_aload_n C 0 dX10_drops_62 rfl ?_
            refine z_iload_n C 1 dX10_drops_63 rfl ?_
            refine z_iload_n C 2 dX10_drops_64 rfl ?_
            refine z_iload C 4 dX10_drops_65 rfl ?_
            have hzqy69 := hzw (by omega)
            refine z_cV (As := [.int (zI ((b : Int))), .int (zI ((s : Int))), .int (zI (z2))]) (rest := []) (ci := 12) C (c_X10_runsOff l D A cs tt N ad _ i hN _ hgy54 _ hcvy52 b s p hp (by omega) (by omega) (z2)) (lt_A0 hN rfl) hay1 hgy54 rfl rfl mv_yX10_runsOff q_1912 hd_yX10_runsOff (by decide) (Nat.le_of_ble_eq_true rfl) (by decide) dX10_drops_67 rfl (kV0 fun gvy70 hvy70 => ?_)
            obtain ⟨hcvy70, hfvy70⟩ := hvy70
            obtain ⟨ry71, hvy72⟩ : ∃ rZ9 : Nat → Int, rZ9 = uZ rvy52 (p + 1) (rvy52 (p + 1) + (z2)) := ⟨_, rfl⟩
            rw [← hvy72] at hcvy70
            refine z_goto (tgt := 98) C dX10_drops_70 (by decide) ?_
            omega
        · have hF : foZ z1 z2 z3 (r (b + 1)) (n, K, ro) = cmZ 4 1 (z3) (r (b + 1)) (n, K, ro) := by unfold foZ; rw [if_neg (by omega), if_pos (by omega)]
          have hNn : foN z1 z3 = 1 := by unfold foN; rw [if_neg (by omega), if_pos (by omega)]
          rw [hF, hNn]
          exact z_vret C hr hlk dX10_drops_52 (by decide) (by decide) ⟨rfl, rfl, rfl, ⟨_, hcvy52, hSvy52, hnvy52, hyvy52⟩, fun j j1 => by rw [hfvy52 _ (by omega)]⟩
  · refine z_aload_n C 0 dX10_drops_5 rfl ?_
    refine z_iload_n C 1 dX10_drops_6 rfl ?_
    refine z_iload_n C 2 dX10_drops_7 rfl ?_
    refine z_iconst (z := 0) C dX10_drops_8 rfl ?_
    refine z_iload C 4 dX10_drops_9 rfl ?_
    have hzqy73 := hzw (by omega)
    refine z_bipush (z := 10) C dX10_drops_11 (by decide) ?_
    refine z_iload C 4 dX10_drops_13 rfl ?_
    refine z_imul C dX10_drops_15 ?_
    refine z_iload C 5 dX10_drops_16 rfl ?_
    refine z_iconst (z := 0) C dX10_drops_18 rfl ?_
    refine z_cS (As := [.int (zI (z3)), .int (zI (0))]) (rest := [.int (zI (10 * z2)), .int (zI (z2)), .int (zI (0)), .int (zI ((s : Int))), .int (zI ((b : Int))), .ref (ad i)]) C (c_X10_lesser l D A cs tt N ad _ (z3) (by omega) (0) (by omega)) ms_yX10_lesser q_1792 hd_yX10_lesser (by decide) (Nat.le_of_ble_eq_true rfl) (by decide) dX10_drops_19 rfl (kI0 fun vy74 gvy74 hvy74 => ?_)
    obtain ⟨hvy74, rfl⟩ := hvy74
    refine z_cV (As := [.int (zI ((b : Int))), .int (zI ((s : Int))), .int (zI (0)), .int (zI (z2)), .int (zI (10 * z2)), .int (zI (vy74))]) (rest := []) (ci := 12) C (c_uComes l D A cs tt N ad _ i hN _ hg _ ha1  b s p hp (by omega) (by omega) n K hn hC hO ro hro (by omega) (0) (by omega) (z2) (by omega) (10 * z2) (by omega) (vy74) (by omega)) (lt_A0 hN rfl) hay1 hg rfl rfl mv_yX10_comes q_1897 hd_yX10_comes (by decide) (Nat.le_of_ble_eq_true rfl) (by decide) dX10_drops_22 rfl (kV0 fun gvy75 hvy75 => ?_)
    obtain ⟨⟨rvy75, hcvy75, hSvy75, hnvy75, hyvy75⟩, hfvy75⟩ := hvy75
    refine z_iload_n C 3 dX10_drops_25 rfl ?_
    refine z_iconst (z := 3) C dX10_drops_26 rfl ?_
    refine z_icmp_ne (tgt := 47) C dX10_drops_27 (by decide) (by omega) (by omega) (fun hby76 => ?_) (fun hby76 => ?_)
    · refine z_iload_n C 3 dX10_drops_47 rfl ?_
      refine z_iconst (z := 2) C dX10_drops_48 rfl ?_
      refine z_icmp_eq (tgt := 53) C dX10_drops_49 (by decide) (by omega) (by omega) (fun hby77 => ?_) (fun hby77 => ?_)
      · refine z_aload_n C 0 dX10_drops_53 rfl ?_
        refine z_iload_n C 1 dX10_drops_54 rfl ?_
        refine z_iload_n C 2 dX10_drops_55 rfl ?_
        have hgy78 := (hfvy75 (i) (ne_o (i := i) (c := 0) (d := 1) rfl)).trans hg
        refine z_cV (As := [.int (zI ((b : Int))), .int (zI ((s : Int)))]) (rest := []) (ci := 12) C (c_X10_many l D A cs tt N ad _ i hN _ hgy78 _ hcvy75 b s p hp (by omega) (by omega)) (lt_A0 hN rfl) hay1 hgy78 rfl rfl mv_yX10_many q_1733 hd_yX10_many (by decide) (Nat.le_of_ble_eq_true rfl) (by decide) dX10_drops_56 rfl (kI0 fun vy79 gvy79 hvy79 => ?_)
        obtain ⟨rfl, rfl⟩ := hvy79
        obtain ⟨xy80, exy81, hxy82⟩ := zI_of (zI (rvy75 (p)))
        rw [exy81]
        refine z_if_ne (tgt := 73) C dX10_drops_59 (by decide) (by omega) (fun hby83 => ?_) (fun hby83 => ?_)
        · refine z_aload_n C 0 dX10_drops_73 rfl ?_
          refine z_get (v := .ref (ad (i + 1))) C (lt_A0 hN rfl) hay1 hgy78 rfl inA_X10 0 (by decide) q_1459 rfl rfl dX10_drops_74 ?_
          refine z_iload_n C 1 dX10_drops_77 rfl ?_
          refine z_iload_n C 2 dX10_drops_78 rfl ?_
          refine z_aload_n C 0 dX10_drops_79 rfl ?_
          refine z_iload_n C 1 dX10_drops_80 rfl ?_
          refine z_iload_n C 2 dX10_drops_81 rfl ?_
          refine z_cV (As := [.int (zI ((b : Int))), .int (zI ((s : Int)))]) (rest := [.int (zI ((s : Int))), .int (zI ((b : Int))), .ref (ad (i + 1))]) (ci := 12) C (c_X10_many l D A cs tt N ad _ i hN _ hgy78 _ hcvy75 b s p hp (by omega) (by omega)) (lt_A0 hN rfl) hay1 hgy78 rfl rfl mv_yX10_many q_1733 hd_yX10_many (by decide) (Nat.le_of_ble_eq_true rfl) (by decide) dX10_drops_82 rfl (kI0 fun vy84 gvy84 hvy84 => ?_)
          obtain ⟨rfl, rfl⟩ := hvy84
          refine z_iconst (z := 1) C dX10_drops_85 rfl ?_
          refine z_isub C dX10_drops_86 ?_
          obtain ⟨j, hj9⟩ : ∃ j, n = j + 1 := ⟨n - 1, by omega⟩
          rw [show (rvy75 (p)) - 1 = (j : Int) by omega]
          have hqy85k : ((j : Int) : Int) = ((j : Nat) : Int) := by omega
          obtain ⟨qy85, hqy85⟩ : ∃ q9 : Nat, p + 2 + 7 * j = q9 := ⟨_, rfl⟩
          refine z_cS (As := [.int (zI ((b : Int))), .int (zI ((s : Int))), .int (zI ((j : Int)))]) (rest := [.ref (ad (i + 1))]) C (c_X10_at l D A cs tt N ad _ ((b : Int)) (by omega) ((s : Int)) (by omega) ((j : Int)) (by omega)) ms_yX10_at q_1753 hd_yX10_at (by decide) (Nat.le_of_ble_eq_true rfl) (by decide) dX10_drops_87 rfl (kI0 fun vy86 gvy86 hvy86 => ?_)
          obtain ⟨hvy86, rfl⟩ := hvy86
          rw [show vy86 = (qy85 : Int) by omega]
          refine z_iconst (z := 2) C dX10_drops_90 rfl ?_
          refine z_iadd C dX10_drops_91 ?_
          refine z_dup2 C dX10_drops_92 rfl rfl ?_
          refine z_iald C (lt_A (c := 1) hN rfl) hay2 hcvy75 (qy85 + 2) (by omega) (by omega) (by decide) dX10_drops_93 ?_
          refine z_iload C 4 dX10_drops_94 rfl ?_
          have hzqy87 := hzw (by omega)
          refine z_iadd C dX10_drops_96 ?_
          refine z_iast C (lt_A (c := 1) hN rfl) hay2 hcvy75 (qy85 + 2) (by omega) (by omega) (by decide) dX10_drops_97 (fun gy88 egy89 => ?_)
          have hgy90 := up_s egy89
          obtain ⟨ry91, hvy92⟩ : ∃ rZ9 : Nat → Int, rZ9 = uZ rvy75 (qy85 + 2) ((rvy75 (qy85 + 2)) + z2) := ⟨_, rfl⟩
          rw [← hvy92] at hgy90
          omega
        · refine z_aload_n C 0 dX10_drops_62 rfl ?_
          refine z_iload_n C 1 dX10_drops_63 rfl ?_
          refine z_iload_n C 2 dX10_drops_64 rfl ?_
          refine z_iload C 4 dX10_drops_65 rfl ?_
          have hzqy93 := hzw (by omega)
          refine z_cV (As := [.int (zI ((b : Int))), .int (zI ((s : Int))), .int (zI (z2))]) (rest := []) (ci := 12) C (c_X10_runsOff l D A cs tt N ad _ i hN _ hgy78 _ hcvy75 b s p hp (by omega) (by omega) (z2)) (lt_A0 hN rfl) hay1 hgy78 rfl rfl mv_yX10_runsOff q_1912 hd_yX10_runsOff (by decide) (Nat.le_of_ble_eq_true rfl) (by decide) dX10_drops_67 rfl (kV0 fun gvy94 hvy94 => ?_)
          obtain ⟨hcvy94, hfvy94⟩ := hvy94
          obtain ⟨ry95, hvy96⟩ : ∃ rZ9 : Nat → Int, rZ9 = uZ rvy75 (p + 1) (rvy75 (p + 1) + (z2)) := ⟨_, rfl⟩
          rw [← hvy96] at hcvy94
          refine z_goto (tgt := 98) C dX10_drops_70 (by decide) ?_
          omega
      · have hF : foZ z1 z2 z3 (r (b + 1)) (n, K, ro) = cmZ 0 (z2) (vy74) (r (b + 1)) (n, K, ro) := by unfold foZ; rw [if_neg (by omega), if_neg (by omega), if_pos (by omega), show mnZ z3 0 = vy74 by unfold mnZ; split <;> omega]
        have hNn : foN z1 z3 = 1 := by unfold foN; rw [if_neg (by omega), if_neg (by omega), if_pos (by omega)]
        rw [hF, hNn]
        exact z_vret C hr hlk dX10_drops_52 (by decide) (by decide) ⟨rfl, rfl, rfl, ⟨_, hcvy75, hSvy75, hnvy75, hyvy75⟩, fun j j1 => by rw [hfvy75 _ (by omega)]⟩
    · refine z_iload C 5 dX10_drops_30 rfl ?_
      refine z_if_ge (tgt := 47) C dX10_drops_32 (by decide) (by omega) (fun hby97 => ?_) (fun hby97 => ?_)
      · refine z_iload_n C 3 dX10_drops_47 rfl ?_
        refine z_iconst (z := 2) C dX10_drops_48 rfl ?_
        refine z_icmp_eq (tgt := 53) C dX10_drops_49 (by decide) (by omega) (by omega) (fun hby98 => ?_) (fun hby98 => ?_)
        · refine z_aload_n C 0 dX10_drops_53 rfl ?_
          refine z_iload_n C 1 dX10_drops_54 rfl ?_
          refine z_iload_n C 2 dX10_drops_55 rfl ?_
          have hgy99 := (hfvy75 (i) (ne_o (i := i) (c := 0) (d := 1) rfl)).trans hg
          refine z_cV (As := [.int (zI ((b : Int))), .int (zI ((s : Int)))]) (rest := []) (ci := 12) C (c_X10_many l D A cs tt N ad _ i hN _ hgy99 _ hcvy75 b s p hp (by omega) (by omega)) (lt_A0 hN rfl) hay1 hgy99 rfl rfl mv_yX10_many q_1733 hd_yX10_many (by decide) (Nat.le_of_ble_eq_true rfl) (by decide) dX10_drops_56 rfl (kI0 fun vy100 gvy100 hvy100 => ?_)
          obtain ⟨rfl, rfl⟩ := hvy100
          obtain ⟨xy101, exy102, hxy103⟩ := zI_of (zI (rvy75 (p)))
          rw [exy102]
          refine z_if_ne (tgt := 73) C dX10_drops_59 (by decide) (by omega) (fun hby104 => ?_) (fun hby104 => ?_)
          · refine z_aload_n C 0 dX10_drops_73 rfl ?_
            refine z_get (v := .ref (ad (i + 1))) C (lt_A0 hN rfl) hay1 hgy99 rfl inA_X10 0 (by decide) q_1459 rfl rfl dX10_drops_74 ?_
            refine z_iload_n C 1 dX10_drops_77 rfl ?_
            refine z_iload_n C 2 dX10_drops_78 rfl ?_
            refine z_aload_n C 0 dX10_drops_79 rfl ?_
            refine z_iload_n C 1 dX10_drops_80 rfl ?_
            refine z_iload_n C 2 dX10_drops_81 rfl ?_
            refine z_cV (As := [.int (zI ((b : Int))), .int (zI ((s : Int)))]) (rest := [.int (zI ((s : Int))), .int (zI ((b : Int))), .ref (ad (i + 1))]) (ci := 12) C (c_X10_many l D A cs tt N ad _ i hN _ hgy99 _ hcvy75 b s p hp (by omega) (by omega)) (lt_A0 hN rfl) hay1 hgy99 rfl rfl mv_yX10_many q_1733 hd_yX10_many (by decide) (Nat.le_of_ble_eq_true rfl) (by decide) dX10_drops_82 rfl (kI0 fun vy105 gvy105 hvy105 => ?_)
            obtain ⟨rfl, rfl⟩ := hvy105
            refine z_iconst (z := 1) C dX10_drops_85 rfl ?_
            refine z_isub C dX10_drops_86 ?_
            obtain ⟨j, hj9⟩ : ∃ j, n = j + 1 := ⟨n - 1, by omega⟩
            rw [show (rvy75 (p)) - 1 = (j : Int) by omega]
            have hqy106k : ((j : Int) : Int) = ((j : Nat) : Int) := by omega
            obtain ⟨qy106, hqy106⟩ : ∃ q9 : Nat, p + 2 + 7 * j = q9 := ⟨_, rfl⟩
            refine z_cS (As := [.int (zI ((b : Int))), .int (zI ((s : Int))), .int (zI ((j : Int)))]) (rest := [.ref (ad (i + 1))]) C (c_X10_at l D A cs tt N ad _ ((b : Int)) (by omega) ((s : Int)) (by omega) ((j : Int)) (by omega)) ms_yX10_at q_1753 hd_yX10_at (by decide) (Nat.le_of_ble_eq_true rfl) (by decide) dX10_drops_87 rfl (kI0 fun vy107 gvy107 hvy107 => ?_)
            obtain ⟨hvy107, rfl⟩ := hvy107
            rw [show vy107 = (qy106 : Int) by omega]
            refine z_iconst (z := 2) C dX10_drops_90 rfl ?_
            refine z_iadd C dX10_drops_91 ?_
            refine z_dup2 C dX10_drops_92 rfl rfl ?_
            refine z_iald C (lt_A (c := 1) hN rfl) hay2 hcvy75 (qy106 + 2) (by omega) (by omega) (by decide) dX10_drops_93 ?_
            refine z_iload C 4 dX10_drops_94 rfl ?_
            have hzqy108 := hzw (by omega)
            refine z_iadd C dX10_drops_96 ?_
            refine z_iast C (lt_A (c := 1) hN rfl) hay2 hcvy75 (qy106 + 2) (by omega) (by omega) (by decide) dX10_drops_97 (fun gy109 egy110 => ?_)
            have hgy111 := up_s egy110
            obtain ⟨ry112, hvy113⟩ : ∃ rZ9 : Nat → Int, rZ9 = uZ rvy75 (qy106 + 2) ((rvy75 (qy106 + 2)) + z2) := ⟨_, rfl⟩
            rw [← hvy113] at hgy111
            omega
          · refine z_aload_n C 0 dX10_drops_62 rfl ?_
            refine z_iload_n C 1 dX10_drops_63 rfl ?_
            refine z_iload_n C 2 dX10_drops_64 rfl ?_
            refine z_iload C 4 dX10_drops_65 rfl ?_
            have hzqy114 := hzw (by omega)
            refine z_cV (As := [.int (zI ((b : Int))), .int (zI ((s : Int))), .int (zI (z2))]) (rest := []) (ci := 12) C (c_X10_runsOff l D A cs tt N ad _ i hN _ hgy99 _ hcvy75 b s p hp (by omega) (by omega) (z2)) (lt_A0 hN rfl) hay1 hgy99 rfl rfl mv_yX10_runsOff q_1912 hd_yX10_runsOff (by decide) (Nat.le_of_ble_eq_true rfl) (by decide) dX10_drops_67 rfl (kV0 fun gvy115 hvy115 => ?_)
            obtain ⟨hcvy115, hfvy115⟩ := hvy115
            obtain ⟨ry116, hvy117⟩ : ∃ rZ9 : Nat → Int, rZ9 = uZ rvy75 (p + 1) (rvy75 (p + 1) + (z2)) := ⟨_, rfl⟩
            rw [← hvy117] at hcvy115
            refine z_goto (tgt := 98) C dX10_drops_70 (by decide) ?_
            omega
        · have hF : foZ z1 z2 z3 (r (b + 1)) (n, K, ro) = cmZ 0 (z2) (vy74) (r (b + 1)) (n, K, ro) := by unfold foZ; rw [if_neg (by omega), if_neg (by omega), if_pos (by omega), show mnZ z3 0 = vy74 by unfold mnZ; split <;> omega]
          have hNn : foN z1 z3 = 1 := by unfold foN; rw [if_neg (by omega), if_neg (by omega), if_pos (by omega)]
          rw [hF, hNn]
          exact z_vret C hr hlk dX10_drops_52 (by decide) (by decide) ⟨rfl, rfl, rfl, ⟨_, hcvy75, hSvy75, hnvy75, hyvy75⟩, fun j j1 => by rw [hfvy75 _ (by omega)]⟩
      · refine z_aload_n C 0 dX10_drops_35 rfl ?_
        refine z_iload_n C 1 dX10_drops_36 rfl ?_
        refine z_iload_n C 2 dX10_drops_37 rfl ?_
        refine z_iconst (z := 4) C dX10_drops_38 rfl ?_
        refine z_iconst (z := 1) C dX10_drops_39 rfl ?_
        refine z_bipush (z := 10) C dX10_drops_40 (by decide) ?_
        refine z_iload C 5 dX10_drops_42 rfl ?_
        omega
end
section
-- 9l9.uo.lean.txt
/-- AIR, what falls, how much, in the HOUR that comes: as the reference's fields say (13 slopes, 14 hours, 25 warmer, 26 without, 27 other hour, 28 other much, 29 clear) -/
def rAi (F ai : Nat → Int) (tm : Int) : Int := if F 14 = 0 then 0 else if F 25 = 0 then ai (tm % F 14).toNat else mnZ 100 (ai (tm % F 14).toNat + F 25)
def rWh (F fa : Nat → Int) (tm : Int) : Int := if F 14 = 0 then 0 else if tm % F 14 = F 26 ∨ F 29 ≠ 0 then 0 else fa (tm % F 14).toNat
def rMu (F mu : Nat → Int) (tm : Int) : Int := if F 14 = 0 then 0 else if tm % F 14 = F 27 then F 28 else mu (tm % F 14).toNat
def okFr (F op ai fa mu tb : Nat → Int) : Prop := ((0 ≤ F 13 ∧ F 13 ≤ 4) ∧ (0 ≤ F 14 ∧ F 14 ≤ 24) ∧ (0 ≤ F 25 ∧ F 25 ≤ 50) ∧ ((0 ≤ F 28 ∧ F 28 ≤ 50) ∧ (-1 ≤ F 27 ∧ F 27 ≤ 23) ∧ (F 27 = -1 ∨ 1 ≤ F 28)) ∧ (0 ≤ F 29 ∧ F 29 ≤ 1) ∧ (-1 ≤ F 26 ∧ F 26 ≤ 23)) ∧ (∀ k, k < 4 → 0 ≤ op k ∧ op k ≤ 20) ∧ (∀ k, k < 24 → -300 ≤ ai k ∧ ai k ≤ 100) ∧ (∀ k, k < 24 → (0 ≤ fa k ∧ fa k ≤ 3) ∧ (0 ≤ mu k ∧ mu k ≤ 50) ∧ (fa k = 1 ∨ fa k = 2 → 1 ≤ mu k)) ∧ okTb tb
theorem rAi_b {F op ai fa mu tb : Nat → Int} {tm : Int} (h : okFr F op ai fa mu tb) : -300 ≤ rAi F ai tm ∧ rAi F ai tm ≤ 100 := by
  obtain ⟨⟨h13, h14, h25, -, -⟩, -, hai, -, -⟩ := h
  unfold rAi
  by_cases e : F 14 = 0
  · rw [if_pos e]; omega
  · rw [if_neg e]
    have h1 := hai _ (emd24 (ho := F 14) (tm := tm) (by omega)).2
    by_cases e2 : F 25 = 0
    · rw [if_pos e2]; exact h1
    · rw [if_neg e2]
      unfold mnZ
      split <;> omega
theorem rWM_b {F op ai fa mu tb : Nat → Int} {tm : Int} (h : okFr F op ai fa mu tb) : (0 ≤ rWh F fa tm ∧ rWh F fa tm ≤ 3) ∧ (0 ≤ rMu F mu tm ∧ rMu F mu tm ≤ 50) ∧ (rWh F fa tm = 1 ∨ rWh F fa tm = 2 → 1 ≤ rMu F mu tm ∧ rMu F mu tm ≤ 50) := by
  obtain ⟨⟨h13, h14, h25, h28, -⟩, -, -, hfm, -⟩ := h
  unfold rWh rMu
  by_cases e : F 14 = 0
  · rw [if_pos e, if_pos e]; omega
  · rw [if_neg e, if_neg e]
    have h0 := emd24 (ho := F 14) (tm := tm) (by omega)
    have h1 := hfm _ h0.2
    (repeat' split) <;> omega
theorem isS.ext {r r' : Nat → Int} {p : Nat} {S : SL9} (h : isS r p S) (hn : S.1 ≤ 12) (e : ∀ j, p ≤ j → j < p + 86 → r' j = r j) : isS r' p S := ⟨(e _ (by omega) (by omega)).trans h.1, (e _ (by omega) (by omega)).trans h.2.1, fun q hq => (e _ (by omega) (by omega)).trans (h.2.2 q hq)⟩
/-- the rows from b on are the pure world -/
def isWr (r : Nat → Int) (b : Nat) (W : WL9) : Prop := (∀ k, k < 6 → r (b + k) = W.1 k) ∧ ∀ s, s < 4 → isS r (b + 6 + 86 * s) (W.2 s)
theorem isWr.ext {r r' : Nat → Int} {b : Nat} {W : WL9} (h : isWr r b W) (hn : ∀ s, s < 4 → (W.2 s).1 ≤ 12) (e : ∀ j, b ≤ j → j < b + 350 → r' j = r j) : isWr r' b W := ⟨fun k hk => (e _ (by omega) (by omega)).trans (h.1 k hk), fun s hs => (h.2 s hs).ext (hn s hs) (fun j h1 h2 => e j (by omega) (by omega))⟩
theorem isWr.sl {r r' : Nat → Int} {b k : Nat} {W : WL9} (t : Nat → Int) (S : SL9) (h : isWr r b W) (hk : k < 4) (hn : ∀ s, s < 4 → (W.2 s).1 ≤ 12) (e : ∀ j, j < b ∨ b + 6 ≤ j → j < b + 6 + 86 * k ∨ b + 6 + 86 * k + 86 ≤ j → r' j = r j) (ht : ∀ k, k < 6 → r' (b + k) = t k) (hS : isS r' (b + 6 + 86 * k) S) : isWr r' b (t, uS W.2 k S) := by
  refine ⟨ht, fun s hs => ?_⟩
  by_cases e9 : s = k
  · subst e9
    show isS r' (b + 6 + 86 * s) (uS W.2 s S s)
    rw [uS_s]
    exact hS
  · show isS r' (b + 6 + 86 * s) (uS W.2 k S s)
    rw [uS_n _ _ e9]
    exact (h.2 s hs).ext (hn s hs) (fun j h1 h2 => e j (by omega) (by omega))
theorem isWr.hd {r r' : Nat → Int} {b : Nat} {W : WL9} (t : Nat → Int) (h : isWr r b W) (hn : ∀ s, s < 4 → (W.2 s).1 ≤ 12) (e : ∀ j, j < b ∨ b + 6 ≤ j → r' j = r j) (ht : ∀ k, k < 6 → r' (b + k) = t k) : isWr r' b (t, W.2) := ⟨ht, fun s hs => (h.2 s hs).ext (hn s hs) (fun j h1 h2 => e j (by omega))⟩
theorem b15 {k : Nat} (hk : k < 4) : 15 / 2 ^ k % 2 = 1 := by
  rcases (show k = 0 ∨ k = 1 ∨ k = 2 ∨ k = 3 by omega) with rfl | rfl | rfl | rfl <;> rfl

set_option maxRecDepth 100000 in
set_option maxHeartbeats 4000000 in
theorem c_uHourOf (l : Launch) (D : va_G) (A : Nat → Prop) (cs : Nat → ClassId) (tt : Nat) (N : Nat) (ad : Nat → Nat) (g : Nat → va_E) (i : Nat) (hN : i + 30 ≤ N) (F : Nat → Int) (hg : g i = mC ad i F) (r : Nat → Int) (ha1 : g (i + 1) = iA cs 29200 r) (b : Nat) (hb : b + 350 ≤ 29200) (htm : 0 ≤ r b ∧ r b ≤ 2180) (e14 : 0 ≤ F 14 ∧ F 14 ≤ 24) : zM l yX10_hourOf cX10_hourOf 2 (some .int) ({ frames := 1, cells := 0, slots := 0, locals := 60 } : Room) D A cs tt N ad g [.ref (ad i), .int (zI ((b : Int)))] (rI0 N ad fun z g' => ((F 14 = 0 ∧ z = -1) ∨ (F 14 ≠ 0 ∧ z = r b % F 14 ∧ 0 ≤ z ∧ z < F 14)) ∧ g = g') := by
  have hay1 : zAt ad (i) (ad i) := rfl
  have hay2 : zAt ad (i + 1) (ad (i + 1)) := rfl
  refine z_of (by decide) (Nat.le_of_ble_eq_true rfl) ?_
  intro pY eY sY mY below meth cY C hr hlk hnm
  refine z_lv (lv' := [(0, .ref (ad i)), (1, .int (zI ((b : Int))))]) [0, 1] rfl ?_
  refine z_aload_n C 0 dX10_hourOf_0 rfl ?_
  refine z_get (v := .int (zI (F 14))) C (lt_A0 hN rfl) hay1 hg rfl inA_X10 14 (by decide) q_1473 rfl (fv (F := F) (f := 14) rfl) dX10_hourOf_1 ?_
  refine z_if_ne (tgt := 11) C dX10_hourOf_4 (by decide) (by omega) (fun hby3 => ?_) (fun hby3 => ?_)
  · refine z_aload_n C 0 dX10_hourOf_11 rfl ?_
    refine z_get (v := .ref (ad (i + 1))) C (lt_A0 hN rfl) hay1 hg rfl inA_X10 0 (by decide) q_1459 rfl rfl dX10_hourOf_12 ?_
    refine z_iload_n C 1 dX10_hourOf_15 rfl ?_
    refine z_iconst (z := 0) C dX10_hourOf_16 rfl ?_
    refine z_iadd C dX10_hourOf_17 ?_
    refine z_iald C (lt_A (c := 1) hN rfl) hay2 ha1 (b) (by omega) (by omega) (by decide) dX10_hourOf_18 ?_
    refine z_aload_n C 0 dX10_hourOf_19 rfl ?_
    refine z_get (v := .int (zI (F 14))) C (lt_A0 hN rfl) hay1 hg rfl inA_X10 14 (by decide) q_1473 rfl (fv (F := F) (f := 14) rfl) dX10_hourOf_20 ?_
    refine z_irem C dX10_hourOf_23 (by omega) (by omega) (by omega) ?_
    have hmd := emd24 (ho := F 14) (tm := r b) (by omega)
    rw [show (r (b)).tmod (F 14) = r b % F 14 from Int.tmod_eq_emod_of_nonneg (by omega)]
    exact z_iret C hr hlk dX10_hourOf_24 (by decide) (by decide) ⟨r b % F 14, rfl, rfl, rfl, by omega, rfl⟩
  · refine z_iconst (z := -1) C dX10_hourOf_7 rfl ?_
    refine z_goto (tgt := 24) C dX10_hourOf_8 (by decide) ?_
    exact z_iret C hr hlk dX10_hourOf_24 (by decide) (by decide) ⟨-1, rfl, rfl, rfl, by omega, rfl⟩

set_option maxRecDepth 100000 in
set_option maxHeartbeats 4000000 in
theorem c_uAirOf (l : Launch) (D : va_G) (A : Nat → Prop) (cs : Nat → ClassId) (tt : Nat) (N : Nat) (ad : Nat → Nat) (g : Nat → va_E) (i : Nat) (hN : i + 30 ≤ N) (F : Nat → Int) (hg : g i = mC ad i F) (r : Nat → Int) (ha1 : g (i + 1) = iA cs 29200 r) (ai : Nat → Int) (ha4 : g (i + 4) = iA cs 24 ai) (b : Nat) (hb : b + 350 ≤ 29200) (htm : 0 ≤ r b ∧ r b ≤ 2180) (e14 : 0 ≤ F 14 ∧ F 14 ≤ 24) (e25 : 0 ≤ F 25 ∧ F 25 ≤ 50) (hai : ∀ k, k < 24 → -300 ≤ ai k ∧ ai k ≤ 100) : zM l yX10_airOf cX10_airOf 3 (some .int) ({ frames := 2, cells := 0, slots := 0, locals := 120 } : Room) D A cs tt N ad g [.ref (ad i), .int (zI ((b : Int)))] (rI0 N ad fun z g' => z = rAi F ai (r b) ∧ g = g') := by
  have hay1 : zAt ad (i) (ad i) := rfl
  have hay2 : zAt ad (i + 1) (ad (i + 1)) := rfl
  have hay3 : zAt ad (i + 4) (ad (i + 4)) := rfl
  refine z_of (by decide) (Nat.le_of_ble_eq_true rfl) ?_
  intro pY eY sY mY below meth cY C hr hlk hnm
  refine z_lv (lv' := [(0, .ref (ad i)), (1, .int (zI ((b : Int))))]) [0, 1] rfl ?_
  refine z_aload_n C 0 dX10_airOf_0 rfl ?_
  refine z_iload_n C 1 dX10_airOf_1 rfl ?_
  refine z_cV (As := [.int (zI ((b : Int)))]) (rest := []) (ci := 12) C (c_uHourOf l D A cs tt N ad _ i hN _ hg _ ha1 b (by omega) (by omega) e14) (lt_A0 hN rfl) hay1 hg rfl rfl mv_yX10_hourOf q_1831 hd_yX10_hourOf (by decide) (Nat.le_of_ble_eq_true rfl) (by decide) dX10_airOf_2 rfl (kI0 fun vy4 gvy4 hvy4 => ?_)
  obtain ⟨hvy4, rfl⟩ := hvy4
  refine z_istore_n (lv' := [(2, .int (zI (vy4))), (0, .ref (ad i)), (1, .int (zI ((b : Int))))]) C dX10_airOf_5 rfl (by decide) rfl ?_
  refine z_iload_n C 0 dX10_airOf_6 rfl ?_
  refine z_iconst (z := -1) C dX10_airOf_7 rfl ?_
  refine z_icmp_ne (tgt := 15) C dX10_airOf_8 (by decide) (by omega) (by omega) (fun hby5 => ?_) (fun hby5 => ?_)
  · refine z_aload_n C 1 dX10_airOf_15 rfl ?_
    refine z_get (v := .int (zI (F 25))) C (lt_A0 hN rfl) hay1 hg rfl inA_X10 25 (by decide) q_1484 rfl (fv (F := F) (f := 25) rfl) dX10_airOf_16 ?_
    refine z_if_ne (tgt := 31) C dX10_airOf_19 (by decide) (by omega) (fun hby6 => ?_) (fun hby6 => ?_)
    · refine z_bipush (z := 100) C dX10_airOf_31 (by decide) ?_
      refine z_aload_n C 1 dX10_airOf_33 rfl ?_
      refine z_get (v := .ref (ad (i + 4))) C (lt_A0 hN rfl) hay1 hg rfl inA_X10 3 (by decide) q_1462 rfl rfl dX10_airOf_34 ?_
      refine z_iload_n C 0 dX10_airOf_37 rfl ?_
      refine z_iald C (lt_A (c := 4) hN rfl) hay3 ha4 ((vy4).toNat) (by omega) (by omega) (by decide) dX10_airOf_38 ?_
      have hrfy7 := hai ((vy4).toNat) (by omega)
      refine z_aload_n C 1 dX10_airOf_39 rfl ?_
      refine z_get (v := .int (zI (F 25))) C (lt_A0 hN rfl) hay1 hg rfl inA_X10 25 (by decide) q_1484 rfl (fv (F := F) (f := 25) rfl) dX10_airOf_40 ?_
      refine z_iadd C dX10_airOf_43 ?_
      refine z_cS (As := [.int (zI (100)), .int (zI ((ai ((vy4).toNat)) + (F 25)))]) (rest := []) C (c_X10_lesser l D A cs tt N ad _ (100) (by omega) ((ai ((vy4).toNat)) + (F 25)) (by omega)) ms_yX10_lesser q_1792 hd_yX10_lesser (by decide) (Nat.le_of_ble_eq_true rfl) (by decide) dX10_airOf_44 rfl (kI0 fun vy8 gvy8 hvy8 => ?_)
      obtain ⟨hvy8, rfl⟩ := hvy8
      exact z_iret C hr hlk dX10_airOf_47 (by decide) (by decide) ⟨vy8, rfl, rfl, rfl, (by unfold rAi mnZ; rw [if_neg (by omega), if_neg (by omega), show r b % F 14 = vy4 by omega]; split <;> omega), rfl⟩
    · refine z_aload_n C 1 dX10_airOf_22 rfl ?_
      refine z_get (v := .ref (ad (i + 4))) C (lt_A0 hN rfl) hay1 hg rfl inA_X10 3 (by decide) q_1462 rfl rfl dX10_airOf_23 ?_
      refine z_iload_n C 0 dX10_airOf_26 rfl ?_
      refine z_iald C (lt_A (c := 4) hN rfl) hay3 ha4 ((vy4).toNat) (by omega) (by omega) (by decide) dX10_airOf_27 ?_
      have hrfy9 := hai ((vy4).toNat) (by omega)
      refine z_goto (tgt := 47) C dX10_airOf_28 (by decide) ?_
      exact z_iret C hr hlk dX10_airOf_47 (by decide) (by decide) ⟨ai ((vy4).toNat), rfl, rfl, rfl, (by unfold rAi; rw [if_neg (by omega), if_pos (by omega), show r b % F 14 = vy4 by omega]), rfl⟩
  · refine z_iconst (z := 0) C dX10_airOf_11 rfl ?_
    refine z_goto (tgt := 47) C dX10_airOf_12 (by decide) ?_
    exact z_iret C hr hlk dX10_airOf_47 (by decide) (by decide) ⟨0, rfl, rfl, rfl, (by unfold rAi; rw [if_pos (by omega)]), rfl⟩

set_option maxRecDepth 100000 in
set_option maxHeartbeats 4000000 in
theorem c_uFallsNow (l : Launch) (D : va_G) (A : Nat → Prop) (cs : Nat → ClassId) (tt : Nat) (N : Nat) (ad : Nat → Nat) (g : Nat → va_E) (i : Nat) (hN : i + 30 ≤ N) (F : Nat → Int) (hg : g i = mC ad i F) (r : Nat → Int) (ha1 : g (i + 1) = iA cs 29200 r) (fa : Nat → Int) (ha5 : g (i + 5) = iA cs 24 fa) (mu : Nat → Int) (ha6 : g (i + 6) = iA cs 24 mu) (b s p : Nat) (hp : b + 6 + 86 * s = p) (hb : b + 350 ≤ 29200) (hs : s < 4) (n : Nat) (K : Nat → Int) (hn : r p = (n : Int)) (hC : ∀ q, q < 7 * n → r (p + 2 + q) = K q) (hO : okP K n) (ro : Int) (hro : r (p + 1) = ro) (htm : 0 ≤ r b ∧ r b ≤ 2180) (e14 : 0 ≤ F 14 ∧ F 14 ≤ 24) (e27 : (0 ≤ F 28 ∧ F 28 ≤ 50) ∧ (-1 ≤ F 27 ∧ F 27 ≤ 23) ∧ (F 27 = -1 ∨ 1 ≤ F 28)) (e29 : 0 ≤ F 29 ∧ F 29 ≤ 1) (e26 : -1 ≤ F 26 ∧ F 26 ≤ 23) (hfa : ∀ k, k < 24 → (0 ≤ fa k ∧ fa k ≤ 3) ∧ (0 ≤ mu k ∧ mu k ≤ 50) ∧ (fa k = 1 ∨ fa k = 2 → 1 ≤ mu k)) (wh mc nm : Int) (hwh : wh = rWh F fa (r b)) (hmc : mc = rMu F mu (r b)) (hnmr : r (b + 1) = nm) (hnm2 : 0 ≤ nm ∧ nm ≤ 20000) (z1 : Int) (hz1 : -300 ≤ z1 ∧ z1 ≤ 100) : zM l yX10_fallsNow cX10_fallsNow 5 none ({ frames := 6, cells := 0, slots := 0, locals := 360 } : Room) D A cs tt N ad g [.ref (ad i), .int (zI ((b : Int))), .int (zI ((s : Int))), .int (zI (z1))] (rV0 N ad fun g' => (∃ r' : Nat → Int, g' (i + 1) = iA cs 29200 r' ∧ isS r' p (foZ wh mc z1 nm (n, K, ro)) ∧ r' (b + 1) = nm + foN wh z1 ∧ (∀ j, j < p ∨ p + 86 ≤ j → j ≠ b + 1 → r' j = r j)) ∧ ∀ j, j ≠ i + 1 → g' j = g j) := by
  have hay1 : zAt ad (i) (ad i) := rfl
  have hay2 : zAt ad (i + 1) (ad (i + 1)) := rfl
  have hay3 : zAt ad (i + 5) (ad (i + 5)) := rfl
  have hay4 : zAt ad (i + 6) (ad (i + 6)) := rfl
  have hn12 := hO.1
  refine z_of (by decide) (Nat.le_of_ble_eq_true rfl) ?_
  intro pY eY sY mY below meth cY C hr hlk hnm
  refine z_lv (lv' := [(0, .ref (ad i)), (1, .int (zI ((b : Int)))), (2, .int (zI ((s : Int)))), (3, .int (zI (z1)))]) [0, 1, 2, 3] rfl ?_
  refine z_aload_n C 0 dX10_fallsNow_0 rfl ?_
  refine z_iload_n C 1 dX10_fallsNow_1 rfl ?_
  refine z_cV (As := [.int (zI ((b : Int)))]) (rest := []) (ci := 12) C (c_uHourOf l D A cs tt N ad _ i hN _ hg _ ha1 b (by omega) (by omega) e14) (lt_A0 hN rfl) hay1 hg rfl rfl mv_yX10_hourOf q_1831 hd_yX10_hourOf (by decide) (Nat.le_of_ble_eq_true rfl) (by decide) dX10_fallsNow_2 rfl (kI0 fun vy5 gvy5 hvy5 => ?_)
  obtain ⟨hvy5, rfl⟩ := hvy5
  refine z_istore (lv' := [(4, .int (zI (vy5))), (0, .ref (ad i)), (1, .int (zI ((b : Int)))), (2, .int (zI ((s : Int)))), (3, .int (zI (z1)))]) C dX10_fallsNow_5 (by decide) rfl ?_
  refine z_iload C 0 dX10_fallsNow_7 rfl ?_
  refine z_iconst (z := -1) C dX10_fallsNow_9 rfl ?_
  refine z_icmp_eq (tgt := 29) C dX10_fallsNow_10 (by decide) (by omega) (by omega) (fun hby6 => ?_) (fun hby6 => ?_)
  · have hW9 : wh = 0 := by rw [hwh]; unfold rWh; by_cases e9 : F 14 = 0; (· rw [if_pos e9]); · rw [if_neg e9, if_pos (by omega)]
    have hF : foZ wh mc z1 nm (n, K, ro) = (n, K, ro) := by unfold foZ; rw [if_neg (by omega), if_neg (by omega), if_neg (by omega)]
    have hNn : foN wh z1 = 0 := by unfold foN; rw [if_neg (by omega), if_neg (by omega), if_neg (by omega)]
    rw [hF, hNn, Int.add_zero]
    exact z_vret C hr hlk dX10_fallsNow_29 (by decide) (by decide) ⟨rfl, rfl, rfl, ⟨_, ha1, ⟨hn, hro, hC⟩, hnmr, fun j _ _ => rfl⟩, fun j j1 => by rfl⟩
  · refine z_iload C 0 dX10_fallsNow_13 rfl ?_
    refine z_aload_n C 1 dX10_fallsNow_15 rfl ?_
    refine z_get (v := .int (zI (F 26))) C (lt_A0 hN rfl) hay1 hg rfl inA_X10 26 (by decide) q_1485 rfl (fv (F := F) (f := 26) rfl) dX10_fallsNow_16 ?_
    refine z_icmp_eq (tgt := 29) C dX10_fallsNow_19 (by decide) (by omega) (by omega) (fun hby7 => ?_) (fun hby7 => ?_)
    · have hW9 : wh = 0 := by rw [hwh]; unfold rWh; by_cases e9 : F 14 = 0; (· rw [if_pos e9]); · rw [if_neg e9, if_pos (by omega)]
      have hF : foZ wh mc z1 nm (n, K, ro) = (n, K, ro) := by unfold foZ; rw [if_neg (by omega), if_neg (by omega), if_neg (by omega)]
      have hNn : foN wh z1 = 0 := by unfold foN; rw [if_neg (by omega), if_neg (by omega), if_neg (by omega)]
      rw [hF, hNn, Int.add_zero]
      exact z_vret C hr hlk dX10_fallsNow_29 (by decide) (by decide) ⟨rfl, rfl, rfl, ⟨_, ha1, ⟨hn, hro, hC⟩, hnmr, fun j _ _ => rfl⟩, fun j j1 => by rfl⟩
    · refine z_aload_n C 1 dX10_fallsNow_22 rfl ?_
      refine z_get (v := .int (zI (F 29))) C (lt_A0 hN rfl) hay1 hg rfl inA_X10 29 (by decide) q_1488 rfl (fv (F := F) (f := 29) rfl) dX10_fallsNow_23 ?_
      refine z_if_eq (tgt := 30) C dX10_fallsNow_26 (by decide) (by omega) (fun hby8 => ?_) (fun hby8 => ?_)
      · refine z_aload_n C 1 dX10_fallsNow_30 rfl ?_
        refine z_iload_n C 2 dX10_fallsNow_31 rfl ?_
        refine z_iload_n C 3 dX10_fallsNow_32 rfl ?_
        refine z_aload_n C 1 dX10_fallsNow_33 rfl ?_
        refine z_get (v := .ref (ad (i + 5))) C (lt_A0 hN rfl) hay1 hg rfl inA_X10 4 (by decide) q_1463 rfl rfl dX10_fallsNow_34 ?_
        refine z_iload C 0 dX10_fallsNow_37 rfl ?_
        refine z_iald C (lt_A (c := 5) hN rfl) hay3 ha5 ((vy5).toNat) (by omega) (by omega) (by decide) dX10_fallsNow_39 ?_
        have hfmy9 := hfa ((vy5).toNat) (by omega)
        refine z_iload C 0 dX10_fallsNow_40 rfl ?_
        refine z_aload_n C 1 dX10_fallsNow_42 rfl ?_
        refine z_get (v := .int (zI (F 27))) C (lt_A0 hN rfl) hay1 hg rfl inA_X10 27 (by decide) q_1486 rfl (fv (F := F) (f := 27) rfl) dX10_fallsNow_43 ?_
        refine z_icmp_ne (tgt := 56) C dX10_fallsNow_46 (by decide) (by omega) (by omega) (fun hby10 => ?_) (fun hby10 => ?_)
        · refine z_aload_n C 1 dX10_fallsNow_56 rfl ?_
          refine z_get (v := .ref (ad (i + 6))) C (lt_A0 hN rfl) hay1 hg rfl inA_X10 5 (by decide) q_1464 rfl rfl dX10_fallsNow_57 ?_
          refine z_iload C 0 dX10_fallsNow_60 rfl ?_
          refine z_iald C (lt_A (c := 6) hN rfl) hay4 ha6 ((vy5).toNat) (by omega) (by omega) (by decide) dX10_fallsNow_62 ?_
          have hfmy11 := hfa ((vy5).toNat) (by omega)
          refine z_iload_n C 4 dX10_fallsNow_63 rfl ?_
          have hx9 : r b % F 14 = vy5 := by omega
          have hW9 : wh = fa ((vy5).toNat) := by rw [hwh]; unfold rWh; rw [if_neg (by omega), hx9, if_neg (by omega)]
          have hM9 : mc = mu ((vy5).toNat) := by rw [hmc]; unfold rMu; rw [if_neg (by omega), hx9, if_neg (by omega)]
          refine z_cV (As := [.int (zI ((b : Int))), .int (zI ((s : Int))), .int (zI (fa ((vy5).toNat))), .int (zI (mu ((vy5).toNat))), .int (zI (z1))]) (rest := []) (ci := 12) C (c_uDrops l D A cs tt N ad _ i hN _ hg _ ha1  b s p hp (by omega) (by omega) n K hn hC hO ro hro (by omega) (fa ((vy5).toNat)) (by omega) (mu ((vy5).toNat)) (by omega) (by omega) (z1) (by omega)) (lt_A0 hN rfl) hay1 hg rfl rfl mv_yX10_drops q_1893 hd_yX10_drops (by decide) (Nat.le_of_ble_eq_true rfl) (by decide) dX10_fallsNow_64 rfl (kV0 fun gvy12 hvy12 => ?_)
          obtain ⟨⟨rvy12, hcvy12, hSvy12, hnvy12, hyvy12⟩, hfvy12⟩ := hvy12
          rw [hW9, hM9, ← hnmr]
          exact z_vret C hr hlk dX10_fallsNow_67 (by decide) (by decide) ⟨rfl, rfl, rfl, ⟨_, hcvy12, hSvy12, hnvy12, hyvy12⟩, fun j j1 => by rw [hfvy12 _ (by omega)]⟩
        · refine z_aload_n C 1 dX10_fallsNow_49 rfl ?_
          refine z_get (v := .int (zI (F 28))) C (lt_A0 hN rfl) hay1 hg rfl inA_X10 28 (by decide) q_1487 rfl (fv (F := F) (f := 28) rfl) dX10_fallsNow_50 ?_
          refine z_goto (tgt := 63) C dX10_fallsNow_53 (by decide) ?_
          refine z_iload_n C 4 dX10_fallsNow_63 rfl ?_
          have hx9 : r b % F 14 = vy5 := by omega
          have hW9 : wh = fa ((vy5).toNat) := by rw [hwh]; unfold rWh; rw [if_neg (by omega), hx9, if_neg (by omega)]
          have hM9 : mc = F 28 := by rw [hmc]; unfold rMu; rw [if_neg (by omega), hx9, if_pos (by omega)]
          refine z_cV (As := [.int (zI ((b : Int))), .int (zI ((s : Int))), .int (zI (fa ((vy5).toNat))), .int (zI (F 28)), .int (zI (z1))]) (rest := []) (ci := 12) C (c_uDrops l D A cs tt N ad _ i hN _ hg _ ha1  b s p hp (by omega) (by omega) n K hn hC hO ro hro (by omega) (fa ((vy5).toNat)) (by omega) (F 28) (by omega) (by omega) (z1) (by omega)) (lt_A0 hN rfl) hay1 hg rfl rfl mv_yX10_drops q_1893 hd_yX10_drops (by decide) (Nat.le_of_ble_eq_true rfl) (by decide) dX10_fallsNow_64 rfl (kV0 fun gvy13 hvy13 => ?_)
          obtain ⟨⟨rvy13, hcvy13, hSvy13, hnvy13, hyvy13⟩, hfvy13⟩ := hvy13
          rw [hW9, hM9, ← hnmr]
          exact z_vret C hr hlk dX10_fallsNow_67 (by decide) (by decide) ⟨rfl, rfl, rfl, ⟨_, hcvy13, hSvy13, hnvy13, hyvy13⟩, fun j j1 => by rw [hfvy13 _ (by omega)]⟩
      · have hW9 : wh = 0 := by rw [hwh]; unfold rWh; by_cases e9 : F 14 = 0; (· rw [if_pos e9]); · rw [if_neg e9, if_pos (by omega)]
        have hF : foZ wh mc z1 nm (n, K, ro) = (n, K, ro) := by unfold foZ; rw [if_neg (by omega), if_neg (by omega), if_neg (by omega)]
        have hNn : foN wh z1 = 0 := by unfold foN; rw [if_neg (by omega), if_neg (by omega), if_neg (by omega)]
        rw [hF, hNn, Int.add_zero]
        exact z_vret C hr hlk dX10_fallsNow_29 (by decide) (by decide) ⟨rfl, rfl, rfl, ⟨_, ha1, ⟨hn, hro, hC⟩, hnmr, fun j _ _ => rfl⟩, fun j j1 => by rfl⟩

set_option maxRecDepth 100000 in
set_option maxHeartbeats 4000000 in
theorem c_uHour (l : Launch) (D : va_G) (A : Nat → Prop) (cs : Nat → ClassId) (tt : Nat) (N : Nat) (ad : Nat → Nat) (g : Nat → va_E) (i : Nat) (hN : i + 30 ≤ N) (F : Nat → Int) (hg : g i = mC ad i F) (r : Nat → Int) (ha1 : g (i + 1) = iA cs 29200 r) (op : Nat → Int) (ha3 : g (i + 3) = iA cs 4 op) (ai : Nat → Int) (ha4 : g (i + 4) = iA cs 24 ai) (fa : Nat → Int) (ha5 : g (i + 5) = iA cs 24 fa) (mu : Nat → Int) (ha6 : g (i + 6) = iA cs 24 mu) (tb : Nat → Int) (ha7 : g (i + 7) = iA cs 15 tb) (te : Nat → Int) (ha14 : g (i + 14) = iA cs 14 te) (ki : Nat → Int) (ha15 : g (i + 15) = iA cs 12 ki) (b : Nat) (hb : b + 350 ≤ 29200) (hfr : okFr F op ai fa mu tb) (ns : Nat) (hns : F 13 = (ns : Int)) (W : WL9) (hW : isWr r b W) (x X : Int) (hok : okWl x X W) (hX : 0 ≤ X) (hx : 0 ≤ x) (hT : W.1 0 + x + 1 ≤ 2722) : zM l yX10_hour cX10_hour 4 none ({ frames := 8, cells := 0, slots := 0, locals := 480 } : Room) D A cs tt N ad g [.ref (ad i), .int (zI ((b : Int)))] (rV0 N ad fun g' => (∃ r' : Nat → Int, g' (i + 1) = iA cs 29200 r' ∧ isWr r' b (hoW tb op (rAi F ai (W.1 0)) (rWh F fa (W.1 0)) (rMu F mu (W.1 0)) 15 ns W) ∧ ∀ j, j < b ∨ b + 350 ≤ j → r' j = r j) ∧ (∃ t' : Nat → Int, g' (i + 14) = iA cs 14 t') ∧ (∃ t' : Nat → Int, g' (i + 15) = iA cs 12 t') ∧ ∀ j, j ≠ i + 1 → j ≠ i + 14 → j ≠ i + 15 → g' j = g j) := by
  have hay1 : zAt ad (i) (ad i) := rfl
  have hay2 : zAt ad (i + 1) (ad (i + 1)) := rfl
  have hay3 : zAt ad (i + 3) (ad (i + 3)) := rfl
  have hay4 : zAt ad (i + 4) (ad (i + 4)) := rfl
  have hay5 : zAt ad (i + 5) (ad (i + 5)) := rfl
  have hay6 : zAt ad (i + 6) (ad (i + 6)) := rfl
  have hay7 : zAt ad (i + 7) (ad (i + 7)) := rfl
  have hay8 : zAt ad (i + 14) (ad (i + 14)) := rfl
  have hay9 : zAt ad (i + 15) (ad (i + 15)) := rfl
  obtain ⟨⟨e13, e14, e25, e27, e29, e26⟩, hop, hai, hfa, ht⟩ := id hfr
  have htm0 := hok.2.1
  have hW0 : r b = W.1 0 := hW.1 0 (by decide)
  have hnm0 := hok.2.2.1
  obtain ⟨air, hair⟩ : ∃ x9 : Int, x9 = rAi F ai (W.1 0) := ⟨_, rfl⟩
  obtain ⟨wh, hwh⟩ : ∃ x9 : Int, x9 = rWh F fa (W.1 0) := ⟨_, rfl⟩
  obtain ⟨mc, hmc⟩ : ∃ x9 : Int, x9 = rMu F mu (W.1 0) := ⟨_, rfl⟩
  have hab9 : -300 ≤ air ∧ air ≤ 100 := by rw [hair]; exact rAi_b hfr
  have hwb := rWM_b (tm := W.1 0) hfr
  rw [← hwh, ← hmc] at hwb
  obtain ⟨hwb1, hwb2, hwb3⟩ := hwb
  rw [← hair, ← hwh, ← hmc]
  refine z_of (by decide) (Nat.le_of_ble_eq_true rfl) ?_
  intro pY eY sY mY below meth cY C hr hlk hnm
  refine z_lv (lv' := [(0, .ref (ad i)), (1, .int (zI ((b : Int))))]) [0, 1] rfl ?_
  have lp : ∀ (n9 : Nat) (ss : Int) (k : Nat) (W9 : WL9) (r9 : Nat → Int) (g1 : Nat → va_E), (5 - ss).toNat = n9 → (g1 (i + 1) = iA cs 29200 r9) → (∃ t' : Nat → Int, g1 (i + 14) = iA cs 14 t') → (∃ t' : Nat → Int, g1 (i + 15) = iA cs 12 t') → (∀ j, j ≠ i + 1 → j ≠ i + 14 → j ≠ i + 15 → g1 j = g j) → (ss = (k : Int)) → (k ≤ ns) → (W9 = hoS tb op air wh mc 15 k W) → (isWr r9 b W9) → (∀ j, j < b ∨ b + 350 ≤ j → r9 j = r j) → zV pY l eY ({ frames := 8, cells := 0, slots := 0, locals := 480 } : Room) sY mY ([.ref (ad i), .int (zI ((b : Int)))] : List Value).toArray below meth cY (MQ below (zPost D A (rV0 N ad fun g' => (∃ r' : Nat → Int, g' (i + 1) = iA cs 29200 r' ∧ isWr r' b (hoW tb op air wh mc 15 ns W) ∧ ∀ j, j < b ∨ b + 350 ≤ j → r' j = r j) ∧ (∃ t' : Nat → Int, g' (i + 14) = iA cs 14 t') ∧ (∃ t' : Nat → Int, g' (i + 15) = iA cs 12 t') ∧ ∀ j, j ≠ i + 1 → j ≠ i + 14 → j ≠ i + 15 → g' j = g j)) ([.ref (ad i), .int (zI ((b : Int)))] : List Value).toArray sY ({ frames := 8, cells := 0, slots := 0, locals := 480 } : Room).cells ({ frames := 8, cells := 0, slots := 0, locals := 480 } : Room).slots A) D A 4 (N) ad g1 (0) (0) 8 [(0, .ref (ad i)), (1, .int (zI ((b : Int)))), (2, .int (zI (air))), (3, .int (zI (ss)))] [] := by
    intro n9
    induction n9 using Nat.strongRecOn with
    | ind n9 ih =>
      intro ss k W9 r9 g1 hm9 f2 f9 f10 f3 hik hkn hW9 f4 f8
      obtain ⟨te1, ft1⟩ := f9
      obtain ⟨ki1, ft2⟩ := f10
      subst hik
      have hay10 : zAt ad (i) (ad i) := rfl
      have hay11 : zAt ad (i + 1) (ad (i + 1)) := rfl
      have hay12 : zAt ad (i + 3) (ad (i + 3)) := rfl
      have hay13 : zAt ad (i + 4) (ad (i + 4)) := rfl
      have hay14 : zAt ad (i + 5) (ad (i + 5)) := rfl
      have hay15 : zAt ad (i + 6) (ad (i + 6)) := rfl
      have hay16 : zAt ad (i + 7) (ad (i + 7)) := rfl
      have hay17 : zAt ad (i + 14) (ad (i + 14)) := rfl
      have hay18 : zAt ad (i + 15) (ad (i + 15)) := rfl
      have hh := hoS_h (tb := tb) (op := op) (air := air) (what := wh) (much := mc) (z := 15) (W := W) k
      rw [← hW9] at hh
      obtain ⟨hh1, hh2, hh3⟩ := hh
      have hh0 := hh1 0 (by decide)
      clear hh1
      have hb0 : r9 b = W9.1 0 := f4.1 0 (by decide)
      have hb1 : r9 (b + 1) = W9.1 1 := f4.1 1 (by decide)
      have hn9 : ∀ s, s < 4 → (W9.2 s).1 ≤ 12 := fun s9 h8 => by rw [hW9]; exact (ho_sl (x := x) (X := X) ht hok h8 (show k ≤ 4 by omega) hX hx hT (fun h7 => hwb3 h7) hab9 (fun _ => hop s9 h8)).1.1.1
      refine z_iload_n C 3 dX10_hour_8 rfl ?_
      refine z_aload_n C 0 dX10_hour_9 rfl ?_
      refine z_get (v := .int (zI (F 13))) C (lt_A0 hN rfl) hay10 ((f3 _ (by omega) (by omega) (by omega)).trans hg) rfl inA_X10 13 (by decide) q_1472 rfl (fv (F := F) (f := 13) rfl) dX10_hour_10 ?_
      refine z_icmp_ge (tgt := 61) C dX10_hour_13 (by decide) (by omega) (by omega) (fun hby19 => ?_) (fun hby19 => ?_)
      · refine z_aload_n C 0 dX10_hour_61 rfl ?_
        refine z_get (v := .ref (ad (i + 1))) C (lt_A0 hN rfl) hay10 ((f3 _ (by omega) (by omega) (by omega)).trans hg) rfl inA_X10 0 (by decide) q_1459 rfl rfl dX10_hour_62 ?_
        refine z_iload_n C 1 dX10_hour_65 rfl ?_
        refine z_iconst (z := 0) C dX10_hour_66 rfl ?_
        refine z_iadd C dX10_hour_67 ?_
        refine z_dup2 C dX10_hour_68 rfl rfl ?_
        refine z_iald C (lt_A (c := 1) hN rfl) hay11 f2 (b) (by omega) (by omega) (by decide) dX10_hour_69 ?_
        refine z_iconst (z := 1) C dX10_hour_70 rfl ?_
        refine z_iadd C dX10_hour_71 ?_
        refine z_iast C (lt_A (c := 1) hN rfl) hay11 f2 (b) (by omega) (by omega) (by decide) dX10_hour_72 (fun gy20 egy21 => ?_)
        have hgy22 := up_s egy21
        obtain ⟨ry23, hvy24⟩ : ∃ rZ9 : Nat → Int, rZ9 = uZ r9 (b) ((r9 (b)) + 1) := ⟨_, rfl⟩
        rw [← hvy24] at hgy22
        have hfry25 : ∀ j, j ≠ b → ry23 j = r9 j := fun j n0 => (congrFun hvy24 _).trans ((uZ_n _ _ n0).trans (rfl))
        have hkn : k = ns := by omega
        rw [hkn] at hW9
        have hfin : isWr ry23 b (hoW tb op air wh mc 15 ns W) := by
          unfold hoW
          rw [← hW9]
          refine isWr.hd (uZ W9.1 0 (W9.1 0 + 1)) f4 hn9 (fun j a1 => hfry25 j (by omega)) (fun k9 h9 => ?_)
          by_cases e9 : k9 = 0
          · subst e9; rw [uZ_s]; exact ((congrFun hvy24 _).trans (uZ_s _ _ _)).trans (by rw [show r9 (b) = W9.1 0 from f4.1 0 (by decide)])
          · rw [uZ_n _ _ e9]; exact (hfry25 _ (by omega)).trans (f4.1 k9 h9)
        have hgy26 := up_n egy21 ft1 (ne_o (i := i) (c := 14) (d := 1) rfl)
        have hgy27 := up_n egy21 ft2 (ne_o (i := i) (c := 15) (d := 1) rfl)
        exact z_vret C hr hlk dX10_hour_73 (by decide) (by decide) ⟨rfl, rfl, rfl, ⟨_, hgy22, hfin, fun j a1 => (hfry25 j (by omega)).trans (f8 j a1)⟩, ⟨_, hgy26⟩, ⟨_, hgy27⟩, fun j j1 j2 j3 => by rw [egy21, va_up_ne _ _ (by omega)]; exact f3 j j1 j2 j3⟩
      · refine z_aload_n C 0 dX10_hour_16 rfl ?_
        refine z_iload_n C 1 dX10_hour_17 rfl ?_
        refine z_iload_n C 3 dX10_hour_18 rfl ?_
        refine z_iload_n C 2 dX10_hour_19 rfl ?_
        obtain ⟨py28, hpy28⟩ : ∃ p9 : Nat, b + 6 + 86 * k = p9 := ⟨_, rfl⟩
        have hk4 : k < 4 := by omega
        have hS9 : W9.2 k = W.2 k := hh3 k (Nat.le_refl k)
        have hOk := (hok.1 k hk4).1
        rw [← hS9] at hOk
        have mB1 : mB (W.1 0 + x) = 2400 + 50 * (W.1 0 + x) := rfl
        have eB1 : eB (W.1 0 + x) = 12000 + 139000 * (W.1 0 + x) := rfl
        have hop9 := hop k hk4
        have hF1 := (fo_sl (X := 0) (nm := W9.1 1) hOk (by omega) (by omega) hwb3 hab9 (by omega) (by omega)).1
        have hS0 : isS r9 py28 (W9.2 k) := by rw [← hpy28]; exact f4.2 k hk4
        obtain ⟨⟨ny29, Ky30, roy31⟩, hSy32⟩ : ∃ S9 : SL9, S9 = W9.2 k := ⟨_, rfl⟩
        obtain ⟨hny33, hry34, hCy35⟩ := (show isS r9 py28 (ny29, Ky30, roy31) by rw [hSy32]; exact hS0)
        have hny33 : r9 py28 = (ny29 : Int) := hny33
        have hry34 : r9 (py28 + 1) = roy31 := hry34
        have hCy35 : ∀ q, q < 7 * ny29 → r9 (py28 + 2 + q) = Ky30 q := hCy35
        have hOy369 := hOk
        rw [← hSy32] at hOy369
        obtain ⟨hOy36, hpy37, hmy38, hdy39, hagy40⟩ := id hOy369
        have hpy37 : 0 ≤ roy31 := hpy37
        have hmy38 : roy31 + sZ Ky30 ny29 ≤ _ := hmy38
        have hdy39 : dZ Ky30 ny29 ≤ _ := hdy39
        have hOy36 : okP Ky30 ny29 := hOy36
        have hsy41 := sZ_n hOy36 (k := ny29) (Nat.le_refl _)
        have hsy41n : ny29 ≤ 12 := hOy36.1
        have hagy40 : ∀ l, l < ny29 → Ky30 (7 * l + 5) ≤ _ := hagy40
        refine z_cV (As := [.int (zI ((b : Int))), .int (zI ((k : Int))), .int (zI (air))]) (rest := []) (ci := 12) C (c_uFallsNow l D A cs tt N ad _ i hN _ ((f3 _ (by omega) (by omega) (by omega)).trans hg) _ f2 _ ((f3 _ (by omega) (by omega) (by omega)).trans ha5) _ ((f3 _ (by omega) (by omega) (by omega)).trans ha6) b k py28 hpy28 (by omega) (by omega) ny29 Ky30 hny33 hCy35 hOy36 roy31 hry34 (by omega) e14 e27 e29 e26 hfa wh mc (W9.1 1) (by rw [hwh, hb0, hh0]) (by rw [hmc, hb0, hh0]) hb1 (by omega) (air) (by omega)) (lt_A0 hN rfl) hay10 ((f3 _ (by omega) (by omega) (by omega)).trans hg) rfl rfl mv_yX10_fallsNow q_1889 hd_yX10_fallsNow (by decide) (Nat.le_of_ble_eq_true rfl) (by decide) dX10_hour_20 rfl (kV0 fun gvy42 hvy42 => ?_)
        obtain ⟨⟨rvy42, hcvy42, hSvy42, hnvy42, hyvy42⟩, hfvy42⟩ := hvy42
        obtain ⟨⟨ny43, Ky44, roy45⟩, hSy46⟩ : ∃ S9 : SL9, S9 = foZ wh mc air (W9.1 1) (ny29, Ky30, roy31) := ⟨_, rfl⟩
        obtain ⟨hny47, hry48, hCy49⟩ := (show isS rvy42 py28 (ny43, Ky44, roy45) by rw [hSy46]; exact hSvy42)
        have hny47 : rvy42 py28 = (ny43 : Int) := hny47
        have hry48 : rvy42 (py28 + 1) = roy45 := hry48
        have hCy49 : ∀ q, q < 7 * ny43 → rvy42 (py28 + 2 + q) = Ky44 q := hCy49
        have hOy509 := (show okSl _ _ _ (foZ wh mc air (W9.1 1) (ny29, Ky30, roy31)) by rw [hSy32]; exact hF1)
        rw [← hSy46] at hOy509
        obtain ⟨hOy50, hpy51, hmy52, hdy53, hagy54⟩ := id hOy509
        have hpy51 : 0 ≤ roy45 := hpy51
        have hmy52 : roy45 + sZ Ky44 ny43 ≤ _ := hmy52
        have hdy53 : dZ Ky44 ny43 ≤ _ := hdy53
        have hOy50 : okP Ky44 ny43 := hOy50
        have hsy55 := sZ_n hOy50 (k := ny43) (Nat.le_refl _)
        have hsy55n : ny43 ≤ 12 := hOy50.1
        have hagy54 : ∀ l, l < ny43 → Ky44 (7 * l + 5) ≤ _ := hagy54
        refine z_aload_n C 0 dX10_hour_23 rfl ?_
        refine z_iload_n C 1 dX10_hour_24 rfl ?_
        refine z_iload_n C 3 dX10_hour_25 rfl ?_
        refine z_iload_n C 2 dX10_hour_26 rfl ?_
        have hgy56 := (hfvy42 (i) (ne_o (i := i) (c := 0) (d := 1) rfl)).trans ((f3 _ (by omega) (by omega) (by omega)).trans hg)
        have hgy58 := (hfvy42 (i + 3) (ne_o (i := i) (c := 3) (d := 1) rfl)).trans ((f3 _ (by omega) (by omega) (by omega)).trans ha3)
        refine z_cV (As := [.int (zI ((b : Int))), .int (zI ((k : Int))), .int (zI (air))]) (rest := []) (ci := 12) C (c_uTopped l D A cs tt N ad _ i hN _ hgy56 _ hcvy42 _ hgy58 b k py28 hpy28 (by omega) (by omega) ny43 Ky44 hny47 hCy49 hOy50 roy45 hry48 hop9 (air) (by omega)) (lt_A0 hN rfl) hay10 hgy56 rfl rfl mv_yX10_topped q_1916 hd_yX10_topped (by decide) (Nat.le_of_ble_eq_true rfl) (by decide) dX10_hour_27 rfl (kV0 fun gvy57 hvy57 => ?_)
        obtain ⟨⟨rvy57, hcvy57, hSvy57, hyvy57⟩, hfvy57⟩ := hvy57
        obtain ⟨⟨ny59, Ky60, roy61⟩, hSy62⟩ : ∃ S9 : SL9, S9 = htZ air (op k) (ny43, Ky44, roy45) := ⟨_, rfl⟩
        obtain ⟨hny63, hry64, hCy65⟩ := (show isS rvy57 py28 (ny59, Ky60, roy61) by rw [hSy62]; exact hSvy57)
        have hny63 : rvy57 py28 = (ny59 : Int) := hny63
        have hry64 : rvy57 (py28 + 1) = roy61 := hry64
        have hCy65 : ∀ q, q < 7 * ny59 → rvy57 (py28 + 2 + q) = Ky60 q := hCy65
        have hOy669 := (ht_sl (air := air) (opn := op k) hOy509 hab9 hop9)
        rw [← hSy62] at hOy669
        obtain ⟨hOy66, hpy67, hmy68, hdy69, hagy70⟩ := id hOy669
        have hpy67 : 0 ≤ roy61 := hpy67
        have hmy68 : roy61 + sZ Ky60 ny59 ≤ _ := hmy68
        have hdy69 : dZ Ky60 ny59 ≤ _ := hdy69
        have hOy66 : okP Ky60 ny59 := hOy66
        have hsy71 := sZ_n hOy66 (k := ny59) (Nat.le_refl _)
        have hsy71n : ny59 ≤ 12 := hOy66.1
        have hagy70 : ∀ l, l < ny59 → Ky60 (7 * l + 5) ≤ _ := hagy70
        refine z_aload_n C 0 dX10_hour_30 rfl ?_
        refine z_iload_n C 1 dX10_hour_31 rfl ?_
        refine z_iload_n C 3 dX10_hour_32 rfl ?_
        have hgy72 := (hfvy57 (i) (ne_o (i := i) (c := 0) (d := 1) rfl)).trans hgy56
        have hgy74 := (hfvy42 (i + 14) (ne_o (i := i) (c := 14) (d := 1) rfl)).trans ft1
        have hgy75 := (hfvy57 (i + 14) (ne_o (i := i) (c := 14) (d := 1) rfl)).trans hgy74
        refine z_cV (As := [.int (zI ((b : Int))), .int (zI ((k : Int)))]) (rest := []) (ci := 12) C (c_uEvens l D A cs tt N ad _ i hN _ hgy72 _ hcvy57 _ hgy75 b k py28 hpy28 (by omega) (by omega) ny59 Ky60 hny63 hCy65 hOy66 roy61 hry64  ) (lt_A0 hN rfl) hay10 hgy72 rfl rfl mv_yX10_evens q_1924 hd_yX10_evens (by decide) (Nat.le_of_ble_eq_true rfl) (by decide) dX10_hour_33 rfl (kV0 fun gvy73 hvy73 => ?_)
        obtain ⟨⟨rvy73, hcvy73, hSvy73, hyvy73⟩, ⟨t14vy73, ht14vy73⟩, hfvy73⟩ := hvy73
        obtain ⟨⟨ny76, Ky77, roy78⟩, hSy79⟩ : ∃ S9 : SL9, S9 = evS (ny59, Ky60, roy61) := ⟨_, rfl⟩
        obtain ⟨hny80, hry81, hCy82⟩ := (show isS rvy73 py28 (ny76, Ky77, roy78) by rw [hSy79]; exact hSvy73)
        have hny80 : rvy73 py28 = (ny76 : Int) := hny80
        have hry81 : rvy73 (py28 + 1) = roy78 := hry81
        have hCy82 : ∀ q, q < 7 * ny76 → rvy73 (py28 + 2 + q) = Ky77 q := hCy82
        have hOy839 := (ev_sl hOy669)
        rw [← hSy79] at hOy839
        obtain ⟨hOy83, hpy84, hmy85, hdy86, hagy87⟩ := id hOy839
        have hpy84 : 0 ≤ roy78 := hpy84
        have hmy85 : roy78 + sZ Ky77 ny76 ≤ _ := hmy85
        have hdy86 : dZ Ky77 ny76 ≤ _ := hdy86
        have hOy83 : okP Ky77 ny76 := hOy83
        have hsy88 := sZ_n hOy83 (k := ny76) (Nat.le_refl _)
        have hsy88n : ny76 ≤ 12 := hOy83.1
        have hagy87 : ∀ l, l < ny76 → Ky77 (7 * l + 5) ≤ _ := hagy87
        refine z_aload_n C 0 dX10_hour_36 rfl ?_
        refine z_iload_n C 1 dX10_hour_37 rfl ?_
        refine z_iload_n C 3 dX10_hour_38 rfl ?_
        have hgy89 := (hfvy73 (i) (ne_o (i := i) (c := 0) (d := 1) rfl) (ne_o (i := i) (c := 0) (d := 14) rfl)).trans hgy72
        have hgy91 := (hfvy42 (i + 7) (ne_o (i := i) (c := 7) (d := 1) rfl)).trans ((f3 _ (by omega) (by omega) (by omega)).trans ha7)
        have hgy92 := (hfvy57 (i + 7) (ne_o (i := i) (c := 7) (d := 1) rfl)).trans hgy91
        have hgy93 := (hfvy73 (i + 7) (ne_o (i := i) (c := 7) (d := 1) rfl) (ne_o (i := i) (c := 7) (d := 14) rfl)).trans hgy92
        refine z_cV (As := [.int (zI ((b : Int))), .int (zI ((k : Int)))]) (rest := []) (ci := 12) C (c_uSinks l D A cs tt N ad _ i hN _ hgy89 _ hcvy73 _ hgy93 b k py28 hpy28 (by omega) (by omega) ny76 Ky77 hny80 hCy82 hOy83 roy78 hry81 ht ) (lt_A0 hN rfl) hay10 hgy89 rfl rfl mv_yX10_sinks q_1928 hd_yX10_sinks (by decide) (Nat.le_of_ble_eq_true rfl) (by decide) dX10_hour_39 rfl (kV0 fun gvy90 hvy90 => ?_)
        obtain ⟨⟨rvy90, hcvy90, hSvy90, hyvy90⟩, hfvy90⟩ := hvy90
        obtain ⟨⟨ny94, Ky95, roy96⟩, hSy97⟩ : ∃ S9 : SL9, S9 = skS tb (ny76, Ky77, roy78) := ⟨_, rfl⟩
        obtain ⟨hny98, hry99, hCy100⟩ := (show isS rvy90 py28 (ny94, Ky95, roy96) by rw [hSy97]; exact hSvy90)
        have hny98 : rvy90 py28 = (ny94 : Int) := hny98
        have hry99 : rvy90 (py28 + 1) = roy96 := hry99
        have hCy100 : ∀ q, q < 7 * ny94 → rvy90 (py28 + 2 + q) = Ky95 q := hCy100
        have hOy1019 := (sk_sl ht hOy839)
        rw [← hSy97] at hOy1019
        obtain ⟨hOy101, hpy102, hmy103, hdy104, hagy105⟩ := id hOy1019
        have hpy102 : 0 ≤ roy96 := hpy102
        have hmy103 : roy96 + sZ Ky95 ny94 ≤ _ := hmy103
        have hdy104 : dZ Ky95 ny94 ≤ _ := hdy104
        have hOy101 : okP Ky95 ny94 := hOy101
        have hsy106 := sZ_n hOy101 (k := ny94) (Nat.le_refl _)
        have hsy106n : ny94 ≤ 12 := hOy101.1
        have hagy105 : ∀ l, l < ny94 → Ky95 (7 * l + 5) ≤ _ := hagy105
        refine z_aload_n C 0 dX10_hour_42 rfl ?_
        refine z_iload_n C 1 dX10_hour_43 rfl ?_
        refine z_iload_n C 3 dX10_hour_44 rfl ?_
        have hpr9 := pr_sl ht hOy1019 (by omega)
        have hgy107 := (hfvy90 (i) (ne_o (i := i) (c := 0) (d := 1) rfl)).trans hgy89
        have hgy109 := (hfvy90 (i + 7) (ne_o (i := i) (c := 7) (d := 1) rfl)).trans hgy93
        refine z_cV (As := [.int (zI ((b : Int))), .int (zI ((k : Int)))]) (rest := []) (ci := 12) C (c_uPresses l D A cs tt N ad _ i hN _ hgy107 _ hcvy90 _ hgy109 b k py28 hpy28 (by omega) (by omega) ny94 Ky95 hny98 hCy100 hOy101 roy96 hry99 ht (by omega) ) (lt_A0 hN rfl) hay10 hgy107 rfl rfl mv_yX10_presses q_1936 hd_yX10_presses (by decide) (Nat.le_of_ble_eq_true rfl) (by decide) dX10_hour_45 rfl (kV0 fun gvy108 hvy108 => ?_)
        obtain ⟨⟨rvy108, hcvy108, hSvy108, hyvy108⟩, hfvy108⟩ := hvy108
        obtain ⟨⟨ny110, Ky111, roy112⟩, hSy113⟩ : ∃ S9 : SL9, S9 = prS tb (ny94, Ky95, roy96) := ⟨_, rfl⟩
        obtain ⟨hny114, hry115, hCy116⟩ := (show isS rvy108 py28 (ny110, Ky111, roy112) by rw [hSy113]; exact hSvy108)
        have hny114 : rvy108 py28 = (ny110 : Int) := hny114
        have hry115 : rvy108 (py28 + 1) = roy112 := hry115
        have hCy116 : ∀ q, q < 7 * ny110 → rvy108 (py28 + 2 + q) = Ky111 q := hCy116
        have hOy1179 := hpr9.1
        rw [← hSy113] at hOy1179
        obtain ⟨hOy117, hpy118, hmy119, hdy120, hagy121⟩ := id hOy1179
        have hpy118 : 0 ≤ roy112 := hpy118
        have hmy119 : roy112 + sZ Ky111 ny110 ≤ _ := hmy119
        have hdy120 : dZ Ky111 ny110 ≤ _ := hdy120
        have hOy117 : okP Ky111 ny110 := hOy117
        have hsy122 := sZ_n hOy117 (k := ny110) (Nat.le_refl _)
        have hsy122n : ny110 ≤ 12 := hOy117.1
        have hagy121 : ∀ l, l < ny110 → Ky111 (7 * l + 5) ≤ _ := hagy121
        refine z_aload_n C 0 dX10_hour_48 rfl ?_
        refine z_iload_n C 1 dX10_hour_49 rfl ?_
        refine z_iload_n C 3 dX10_hour_50 rfl ?_
        refine z_iload_n C 2 dX10_hour_51 rfl ?_
        have hgy123 := (hfvy108 (i) (ne_o (i := i) (c := 0) (d := 1) rfl)).trans hgy107
        have hgy125 := (hfvy42 (i + 15) (ne_o (i := i) (c := 15) (d := 1) rfl)).trans ft2
        have hgy126 := (hfvy57 (i + 15) (ne_o (i := i) (c := 15) (d := 1) rfl)).trans hgy125
        have hgy127 := (hfvy73 (i + 15) (ne_o (i := i) (c := 15) (d := 1) rfl) (ne_o (i := i) (c := 15) (d := 14) rfl)).trans hgy126
        have hgy128 := (hfvy90 (i + 15) (ne_o (i := i) (c := 15) (d := 1) rfl)).trans hgy127
        have hgy129 := (hfvy108 (i + 15) (ne_o (i := i) (c := 15) (d := 1) rfl)).trans hgy128
        refine z_cV (As := [.int (zI ((b : Int))), .int (zI ((k : Int))), .int (zI (air))]) (rest := []) (ci := 12) C (c_uAges l D A cs tt N ad _ i hN _ hgy123 _ hcvy108 _ hgy129 b k py28 hpy28 (by omega) (by omega) ny110 Ky111 hny114 hCy116 hOy117 roy112 hry115 (fun l9 h9 => by have := hagy121 l9 h9; omega) (air) (by omega)) (lt_A0 hN rfl) hay10 hgy123 rfl rfl mv_yX10_ages q_1940 hd_yX10_ages (by decide) (Nat.le_of_ble_eq_true rfl) (by decide) dX10_hour_52 rfl (kV0 fun gvy124 hvy124 => ?_)
        obtain ⟨⟨rvy124, hcvy124, hSvy124, hyvy124⟩, ⟨t15vy124, ht15vy124⟩, hfvy124⟩ := hvy124
        obtain ⟨⟨ny130, Ky131, roy132⟩, hSy133⟩ : ∃ S9 : SL9, S9 = taS air (ny110, Ky111, roy112) := ⟨_, rfl⟩
        obtain ⟨hny134, hry135, hCy136⟩ := (show isS rvy124 py28 (ny130, Ky131, roy132) by rw [hSy133]; exact hSvy124)
        have hny134 : rvy124 py28 = (ny130 : Int) := hny134
        have hry135 : rvy124 (py28 + 1) = roy132 := hry135
        have hCy136 : ∀ q, q < 7 * ny130 → rvy124 (py28 + 2 + q) = Ky131 q := hCy136
        refine z_iinc (z := (k : Int) + 1) (lv' := [(3, .int (zI ((k : Int) + 1))), (0, .ref (ad i)), (1, .int (zI ((b : Int)))), (2, .int (zI (air)))]) (j := 3) C dX10_hour_55 rfl rfl (by decide) rfl ?_
        refine z_goto (tgt := 8) C dX10_hour_58 (by decide) ?_
        have hgy137 := (hfvy90 (i + 14) (ne_o (i := i) (c := 14) (d := 1) rfl)).trans ht14vy73
        have hgy138 := (hfvy108 (i + 14) (ne_o (i := i) (c := 14) (d := 1) rfl)).trans hgy137
        have hgy139 := (hfvy124 (i + 14) (ne_o (i := i) (c := 14) (d := 1) rfl) (ne_o (i := i) (c := 14) (d := 15) rfl)).trans hgy138
        have hfr9 : ∀ j, j < py28 ∨ py28 + 86 ≤ j → j ≠ b + 1 → rvy124 j = r9 j := fun j a1 a2 => (hyvy124 j a1).trans ((hyvy108 j a1).trans ((hyvy90 j a1).trans ((hyvy73 j a1).trans ((hyvy57 j a1).trans ((hyvy42 j a1 a2).trans (rfl))))))
        have hnm9 : rvy124 (b + 1) = W9.1 1 + foN wh air := (((hyvy124 (b + 1) (by omega)).trans ((hyvy108 (b + 1) (by omega)).trans ((hyvy90 (b + 1) (by omega)).trans ((hyvy73 (b + 1) (by omega)).trans ((hyvy57 (b + 1) (by omega)).trans (rfl)))))) : rvy124 (b + 1) = rvy42 (b + 1)).trans hnvy42
        have hS6 : (ny130, Ky131, roy132) = hsZ tb air (op k) wh mc (W9.1 1) (W9.2 k) := by rw [hSy133, hSy113, hSy97, hSy79, hSy62, hSy46, hSy32]; rfl
        have hS7 : isS rvy124 (b + 6 + 86 * k) (hsZ tb air (op k) wh mc (W9.1 1) (W9.2 k)) := by rw [← hS6, hpy28]; exact ⟨hny134, hry135, hCy136⟩
        have hw6 : isWr rvy124 b (hoU tb op air wh mc k W9) := isWr.sl (uZ W9.1 1 (W9.1 1 + foN wh air)) _ f4 hk4 hn9 (fun j a1 a2 => hfr9 j (by omega) (by omega)) (fun k9 h9 => by
            by_cases e9 : k9 = 1
            · subst e9; rw [uZ_s]; exact hnm9
            · rw [uZ_n _ _ e9]; exact (hfr9 _ (by omega) (by omega)).trans (f4.1 k9 h9)) hS7
        refine z_lv (lv' := [(0, .ref (ad i)), (1, .int (zI ((b : Int)))), (2, .int (zI (air))), (3, .int (zI ((k : Int) + 1)))]) [1, 2, 3, 0] rfl ?_
        exact ih _ (by omega) ((k : Int) + 1) (k + 1) (hoU tb op air wh mc k W9) rvy124 gvy124 rfl hcvy124 ⟨_, hgy139⟩ ⟨_, ht15vy124⟩ (fun j j1 j2 j3 => by rw [hfvy124 _ (by omega) (by omega)]; rw [hfvy108 _ (by omega)]; rw [hfvy90 _ (by omega)]; rw [hfvy73 _ (by omega) (by omega)]; rw [hfvy57 _ (by omega)]; rw [hfvy42 _ (by omega)]; exact f3 j j1 j2 j3) (by omega) (by omega) (by rw [hW9]; exact (if_pos (b15 hk4)).symm) hw6 (fun j a1 => (hfr9 j (by omega) (by omega)).trans (f8 j a1))
  refine z_aload_n C 0 dX10_hour_0 rfl ?_
  refine z_iload_n C 1 dX10_hour_1 rfl ?_
  refine z_cV (As := [.int (zI ((b : Int)))]) (rest := []) (ci := 12) C (c_uAirOf l D A cs tt N ad _ i hN _ hg _ ha1 _ ha4 b (by omega) (by omega) e14 e25 hai) (lt_A0 hN rfl) hay1 hg rfl rfl mv_yX10_airOf q_1827 hd_yX10_airOf (by decide) (Nat.le_of_ble_eq_true rfl) (by decide) dX10_hour_2 rfl (kI0 fun vy140 gvy140 hvy140 => ?_)
  obtain ⟨rfl, rfl⟩ := hvy140
  rw [show rAi F ai (r b) = air by rw [hair, hW0]]
  refine z_istore_n (lv' := [(2, .int (zI (air))), (0, .ref (ad i)), (1, .int (zI ((b : Int))))]) C dX10_hour_5 rfl (by decide) rfl ?_
  refine z_iconst (z := 0) C dX10_hour_6 rfl ?_
  refine z_istore_n (lv' := [(3, .int (zI (0))), (2, .int (zI (air))), (0, .ref (ad i)), (1, .int (zI ((b : Int))))]) C dX10_hour_7 rfl (by decide) rfl ?_
  refine z_lv (lv' := [(0, .ref (ad i)), (1, .int (zI ((b : Int)))), (2, .int (zI (air))), (3, .int (zI (0)))]) [2, 3, 1, 0] rfl ?_
  exact lp _ (0) 0 W r g rfl ha1 ⟨_, ha14⟩ ⟨_, ha15⟩ (fun j _ _ _ => by rfl) rfl (Nat.zero_le _) rfl hW (fun j _ => rfl)
end
section
-- 9lc.pw2.lean.txt
/-- the topmost layer is taken -/
def dgW (W : WL9) (k : Nat) : WL9 := (uZ W.1 2 (W.1 2 + mZ (W.2 k).2.1 ((W.2 k).1 - 1)), uS W.2 k ((W.2 k).1 - 1, (W.2 k).2.1, (W.2 k).2.2))
/-- what lies on the layer w slides -/
def slW (W : WL9) (k w : Nat) : WL9 := (uZ (uZ W.1 3 (W.1 3 + abZ (W.2 k).2.1 (W.2 k).1 w)) 4 (W.1 4 + 1), uS W.2 k (w + 1, (W.2 k).2.1, (W.2 k).2.2))
theorem copy_wl {cs : Nat → ClassId} {ad : Nat → Nat} {g g' : Nat → va_E} {a b : Nat} {W : WL9} {t z o : Nat → Int} {r : Nat → Nat → Int} (h1 : isWorld cs ad g b t z o r) (h2 : isWorld cs ad g' a t z o r) (h : isWl cs ad g b W) : isWl cs ad g' a W := by
  obtain ⟨a1, a2, a3⟩ := h1
  obtain ⟨b1, b2, b3⟩ := h2
  obtain ⟨w1, w2, w3⟩ := h
  have e1 := a1.symm.trans w1
  simp only [oC, Sum.inr.injEq, Prod.mk.injEq, List.cons.injEq, Value.int.injEq, true_and, and_true] at e1
  obtain ⟨q0, q1, q2, q3, q4, q5⟩ := e1
  refine ⟨by rw [b1, q0, q1, q2, q3, q4, q5], b2, fun k hk => ?_⟩
  obtain ⟨p1, p2⟩ := a3 k hk
  obtain ⟨c1, c2⟩ := b3 k hk
  obtain ⟨r9, ⟨s1, s2⟩, s3⟩ := w3 k hk
  have f1 := p1.symm.trans s1
  simp only [oC, Sum.inr.injEq, Prod.mk.injEq, List.cons.injEq, Value.int.injEq, true_and, and_true] at f1
  obtain ⟨u0, u1⟩ := f1
  have f2 := p2.symm.trans s2
  simp only [iA, Sum.inl.injEq, Prod.mk.injEq, true_and] at f2
  refine ⟨r9, ⟨by rw [c1, u0, u1], by rw [c2]; simp only [iA, f2]⟩, s3⟩

set_option maxRecDepth 100000 in
set_option maxHeartbeats 4000000 in
theorem c_pMassS (l : Launch) (D : va_G) (A : Nat → Prop) (cs : Nat → ClassId) (tt : Nat) (N : Nat) (ad : Nat → Nat) (g : Nat → va_E) (a : Nat) (hN : a + 2 ≤ N) (sz ro : Int) (r : Nat → Int) (ha : isPack cs ad g a sz ro r) (n : Nat) (K : Nat → Int) (hC : ∀ j f, j < n → f < 7 → r (12 * f + j) = K (7 * j + f)) (j : Nat) (hj : j < n) (hn12 : n ≤ 12) : zM l yX3_mass cX3_mass 2 (some .int) ({ frames := 1, cells := 0, slots := 0, locals := 60 } : Room) D A cs tt N ad g [.ref (ad a), .int (zI ((j : Int)))] (rI0 N ad fun q g' => q = mZ K j ∧ g = g') := by
  have hay1 : zAt ad (a) (ad a) := rfl
  have hay2 : zAt ad (a + 1) (ad (a + 1)) := rfl
  refine z_of (by decide) (Nat.le_of_ble_eq_true rfl) ?_
  intro p e s m below meth c C hr hlk hnm
  refine z_lv (lv' := [(0, .ref (ad a)), (1, .int (zI ((j : Int))))]) [0, 1] rfl ?_
  refine z_aload_n C 0 dX3_mass_0 rfl ?_
  refine z_get (v := .ref (ad (a + 1))) C (lt_A0 hN rfl) hay1 ha.1 rfl inA_X3 2 (by decide) q_162 rfl rfl dX3_mass_1 ?_
  refine z_bipush (z := 12) C dX3_mass_4 (by decide) ?_
  refine z_iload_n C 1 dX3_mass_6 rfl ?_
  refine z_iadd C dX3_mass_7 ?_
  refine z_iald C (lt_A (c := 1) hN rfl) hay2 ha.2 (12 + j) (by omega) (by omega) (by decide) dX3_mass_8 ?_
  rw [show r (12 + j) = K (7 * j + 1) from hC j 1 (by omega) (by decide)]
  refine z_aload_n C 0 dX3_mass_9 rfl ?_
  refine z_get (v := .ref (ad (a + 1))) C (lt_A0 hN rfl) hay1 ha.1 rfl inA_X3 2 (by decide) q_162 rfl rfl dX3_mass_10 ?_
  refine z_bipush (z := 24) C dX3_mass_13 (by decide) ?_
  refine z_iload_n C 1 dX3_mass_15 rfl ?_
  refine z_iadd C dX3_mass_16 ?_
  refine z_iald C (lt_A (c := 1) hN rfl) hay2 ha.2 (24 + j) (by omega) (by omega) (by decide) dX3_mass_17 ?_
  rw [show r (24 + j) = K (7 * j + 2) from hC j 2 (by omega) (by decide)]
  refine z_iadd C dX3_mass_18 ?_
  exact z_iret C hr hlk dX3_mass_19 (by decide) (by decide) ⟨_, rfl, rfl, rfl, rfl, rfl⟩

set_option maxRecDepth 100000 in
set_option maxHeartbeats 4000000 in
theorem c_wDig (l : Launch) (D : va_G) (A : Nat → Prop) (cs : Nat → ClassId) (tt : Nat) (N : Nat) (ad : Nat → Nat) (g : Nat → va_E) (a : Nat) (hN : a + 10 ≤ N) (W : WL9) (hw : isWl cs ad g a W) (sx : Nat) (hs : sx < 4) (hO : okP (W.2 sx).2.1 (W.2 sx).1) : zM l yX8_digOn cX8_digOn 3 (some .int) ({ frames := 2, cells := 0, slots := 0, locals := 120 } : Room) D A cs tt N ad g [.ref (ad a), .int (zI ((sx : Int)))] (rI0 N ad fun q g' => (((W.2 sx).1 = 0 ∧ q = -1 ∧ isWl cs ad g' a W) ∨ (0 < (W.2 sx).1 ∧ q = (W.2 sx).2.1 (7 * ((W.2 sx).1 - 1) + 6) ∧ isWl cs ad g' a (dgW W sx))) ∧ ∀ j, j < a ∨ a + 10 ≤ j → g' j = g j) := by
  obtain ⟨u1, ⟨uu, u2, u3⟩, u4⟩ := id hw
  have hay1 : zAt ad (a) (ad a) := rfl
  have hay2 : zAt ad (a + 1) (ad (a + 1)) := rfl
  refine z_of (by decide) (Nat.le_of_ble_eq_true rfl) ?_
  intro p e s m below meth c C hr hlk hnm
  refine z_lv (lv' := [(0, .ref (ad a)), (1, .int (zI ((sx : Int))))]) [0, 1] rfl ?_
  refine z_aload_n C 0 dX8_digOn_0 rfl ?_
  refine z_get (v := .ref (ad (a + 1))) C (lt_A0 hN rfl) hay1 u1 rfl inA_X8 6 (by decide) q_188 rfl rfl dX8_digOn_1 ?_
  refine z_iload_n C 1 dX8_digOn_4 rfl ?_
  refine z_aald C (lt_A (c := 1) hN rfl) hay2 u2 3 rfl (sx) (by omega) (by omega) (by decide) (u3 sx (by omega)) dX8_digOn_5 ?_
  have hay3 : zAt ad (a + 2 + 2 * sx) (ad (a + 2 + 2 * sx)) := rfl
  have hay4 : zAt ad (a + 2 + 2 * sx + 1) (ad (a + 2 + 2 * sx + 1)) := rfl
  obtain ⟨⟨ny5, Ky6, roy7⟩, hSy8⟩ : ∃ S9 : SL9, S9 = W.2 sx := ⟨_, rfl⟩
  obtain ⟨ry9, hpy10, hCy11⟩ := (show isPk cs ad g (a + 2 + 2 * sx) (ny5, Ky6, roy7) by rw [hSy8]; exact (u4 sx (by omega)))
  have hpy10 : isPack cs ad g (a + 2 + 2 * sx) (ny5 : Int) roy7 ry9 := hpy10
  have hCy11 : ∀ j f, j < ny5 → f < 7 → ry9 (12 * f + j) = Ky6 (7 * j + f) := hCy11
  have hay12 : zAt ad (a + 2 + 2 * sx) (ad (a + 2 + 2 * sx)) := rfl
  have hay13 : zAt ad (a + 2 + 2 * sx + 1) (ad (a + 2 + 2 * sx + 1)) := rfl
  have hOd : okP Ky6 ny5 := by have h9 := hO; rw [← hSy8] at h9; exact h9
  have hn12 := hOd.1
  refine z_astore_n (lv' := [(2, .ref (ad (a + 2 + 2 * sx))), (0, .ref (ad a)), (1, .int (zI ((sx : Int))))]) C dX8_digOn_6 rfl (by decide) rfl ?_
  refine z_aload_n C 0 dX8_digOn_7 rfl ?_
  refine z_get (v := .int (zI ((ny5 : Int)))) C (by omega) hay12 hpy10.1 rfl inA_X3 0 (by decide) q_156 rfl rfl dX8_digOn_8 ?_
  refine z_if_ne (tgt := 16) C dX8_digOn_11 (by decide) (by omega) (fun hby14 => ?_) (fun hby14 => ?_)
  · refine z_aload_n C 0 dX8_digOn_16 rfl ?_
    refine z_dup C dX8_digOn_17 rfl ?_
    refine z_get (v := .int (zI ((ny5 : Int)))) C (by omega) hay12 hpy10.1 rfl inA_X3 0 (by decide) q_156 rfl rfl dX8_digOn_18 ?_
    refine z_iconst (z := 1) C dX8_digOn_21 rfl ?_
    refine z_isub C dX8_digOn_22 ?_
    refine z_put (fs' := [.int (zI (((ny5 : Int)) - 1)), .int (zI (roy7)), .ref (ad (a + 2 + 2 * sx + 1))]) C (by omega) hay12 hpy10.1 tyX3 tyX3_ok nmX3 rfl inA_X3 0 (by decide) q_156 rfl rfl rfl rfl (Nat.le_of_ble_eq_true rfl) rfl dX8_digOn_23 (fun gy15 egy16 => ?_)
    have hgy17 := up_s egy16
    refine z_aload_n C 1 dX8_digOn_26 rfl ?_
    refine z_dup C dX8_digOn_27 rfl ?_
    have hgy18 := up_n egy16 u1 (by omega)
    refine z_get (v := .int (zI (W.1 2))) C (lt_A0 hN rfl) hay1 hgy18 rfl inA_X8 2 (by decide) q_179 rfl rfl dX8_digOn_28 ?_
    refine z_aload_n C 0 dX8_digOn_31 rfl ?_
    refine z_aload_n C 0 dX8_digOn_32 rfl ?_
    refine z_get (v := .int (zI (((ny5 : Int)) - 1))) C (by omega) hay12 hgy17 rfl inA_X3 0 (by decide) q_156 rfl rfl dX8_digOn_33 ?_
    obtain ⟨j, hj9⟩ : ∃ j, ny5 = j + 1 := ⟨ny5 - 1, by omega⟩
    rw [show ((ny5 : Int)) - 1 = (j : Int) by omega]
    have hgy20 := up_n egy16 hpy10.2 (ne_o (i := a + 2 + 2 * sx) (c := 1) (d := 0) rfl)
    refine z_cV (As := [.int (zI ((j : Int)))]) (rest := [.int (zI (W.1 2)), .ref (ad a)]) (ci := 5) C (c_pMassS l D A cs tt N ad _ (a + 2 + 2 * sx) (by omega) _ _ _ ⟨hgy17, hgy20⟩ ny5 Ky6 hCy11 j (by omega) (by omega)) (by omega) hay12 hgy17 rfl rfl mv_yX3_mass q_555 hd_yX3_mass (by decide) (Nat.le_of_ble_eq_true rfl) (by decide) dX8_digOn_36 rfl (kI0 fun vy19 gvy19 hvy19 => ?_)
    obtain ⟨rfl, rfl⟩ := hvy19
    refine z_iadd C dX8_digOn_39 ?_
    refine z_put (fs' := [.int (zI (W.1 0)), .int (zI (W.1 1)), .int (zI ((W.1 2) + (mZ Ky6 j))), .int (zI (W.1 3)), .int (zI (W.1 4)), .int (zI (W.1 5)), .ref (ad (a + 1))]) C (lt_A0 hN rfl) hay1 hgy18 tyX8 tyX8_ok nmX8 rfl inA_X8 2 (by decide) q_179 rfl rfl rfl rfl (Nat.le_of_ble_eq_true rfl) rfl dX8_digOn_40 (fun gy21 egy22 => ?_)
    have hgy23 := up_s egy22
    refine z_aload_n C 0 dX8_digOn_43 rfl ?_
    have hgy24 := up_n egy22 hgy17 (by omega)
    refine z_get (v := .ref (ad (a + 2 + 2 * sx + 1))) C (by omega) hay12 hgy24 rfl inA_X3 2 (by decide) q_165 rfl rfl dX8_digOn_44 ?_
    refine z_bipush (z := 72) C dX8_digOn_47 (by decide) ?_
    refine z_aload_n C 0 dX8_digOn_49 rfl ?_
    refine z_get (v := .int (zI (((ny5 : Int)) - 1))) C (by omega) hay12 hgy24 rfl inA_X3 0 (by decide) q_156 rfl rfl dX8_digOn_50 ?_
    refine z_iadd C dX8_digOn_53 ?_
    have hgy25 := up_n egy22 hgy20 (by omega)
    refine z_iald C (by omega) hay13 hgy25 (72 + j) (by omega) (by omega) (by decide) dX8_digOn_54 ?_
    have hS8 : W.2 sx = (j + 1, Ky6, roy7) := by rw [← hSy8, hj9]
    have hv9 : ry9 (72 + j) = Ky6 (7 * j + 6) := hCy11 j 6 (by omega) (by decide)
    have hp9 : isPk cs ad gy21 (a + 2 + 2 * sx) (j, Ky6, roy7) := ⟨_, (by rw [show (((j, Ky6, roy7) : SL9).1 : Nat) = j from rfl, show ((j : Nat) : Int) = (ny5 : Int) - 1 by omega]; exact ⟨hgy24, hgy25⟩), fun y f h1 h2 => hCy11 y f (by have h3 : y < j := h1; omega) h2⟩
    have hfin : isWl cs ad gy21 a (dgW W sx) := by
      unfold dgW
      rw [hS8]
      exact isWl.pk (uZ W.1 2 (W.1 2 + mZ Ky6 j)) (j, Ky6, roy7) hw hs (fun j j1 j2 j3 => by rw [egy22, va_up_ne _ _ (by omega)]; rw [egy16, va_up_ne _ _ (by omega)]) hgy23 ⟨⟨uZ_n _ _ (by decide), uZ_n _ _ (by decide)⟩, ⟨uZ_s _ _ _, uZ_n _ _ (by decide)⟩, uZ_n _ _ (by decide), uZ_n _ _ (by decide)⟩ hp9
    exact z_iret C hr hlk dX8_digOn_55 (by decide) (by decide) ⟨_, rfl, rfl, rfl, Or.inr ⟨by rw [hS8]; exact Nat.succ_pos j, by rw [hS8]; exact hCy11 j 6 (by omega) (by decide), hfin⟩, fun j j1 => by rw [egy22, va_up_ne _ _ (by omega)]; rw [egy16, va_up_ne _ _ (by omega)]⟩
  · refine z_iconst (z := -1) C dX8_digOn_14 rfl ?_
    have hn0 : (W.2 sx).1 = 0 := by have h9 := congrArg (fun S : SL9 => S.1) hSy8; have h8 : ny5 = (W.2 sx).1 := h9; omega
    exact z_iret C hr hlk dX8_digOn_15 (by decide) (by decide) ⟨-1, rfl, rfl, rfl, Or.inl ⟨hn0, rfl, hw⟩, fun j j1 => by rfl⟩

set_option maxRecDepth 100000 in
set_option maxHeartbeats 4000000 in
theorem c_wSlide (l : Launch) (D : va_G) (A : Nat → Prop) (cs : Nat → ClassId) (tt : Nat) (N : Nat) (ad : Nat → Nat) (g : Nat → va_E) (a : Nat) (hN : a + 10 ≤ N) (W : WL9) (hw : isWl cs ad g a W) (b : Nat) (hNb : b + 7 ≤ N) (sl ho ua : Int) (st op ai fa mu tb : Nat → Int) (hb : isPlan cs ad g b sl ho ua st op ai fa mu tb) (hab : b + 7 ≤ a ∨ a + 10 ≤ b) (ht : okTb tb) (sx : Nat) (hs : sx < 4) (hst : 0 ≤ st sx ∧ st sx ≤ 90) (hO : okP (W.2 sx).2.1 (W.2 sx).1) (hX : okX (W.2 sx).2.1 (W.2 sx).1) (wk : Nat) (hwk : isWk tb (W.2 sx).2.1 (W.2 sx).1 0 (st sx) (wk : Int)) : zM l yX8_slideOn cX8_slideOn 6 (some .int) ({ frames := 7, cells := 0, slots := 0, locals := 420 } : Room) D A cs tt N ad g [.ref (ad a), .int (zI ((sx : Int))), .ref (ad b)] (rI0 N ad fun q g' => (q = ((W.2 sx).1 : Int) - 1 - (wk : Int) ∧ isWl cs ad g' a (slW W sx wk)) ∧ ∀ j, j < a ∨ a + 10 ≤ j → g' j = g j) := by
  obtain ⟨u1, ⟨uu, u2, u3⟩, u4⟩ := id hw
  have hay1 : zAt ad (a) (ad a) := rfl
  have hay2 : zAt ad (a + 1) (ad (a + 1)) := rfl
  have hay3 : zAt ad (b) (ad b) := rfl
  have hay4 : zAt ad (b + 1) (ad (b + 1)) := rfl
  have hay5 : zAt ad (b + 2) (ad (b + 2)) := rfl
  have hay6 : zAt ad (b + 3) (ad (b + 3)) := rfl
  have hay7 : zAt ad (b + 4) (ad (b + 4)) := rfl
  have hay8 : zAt ad (b + 5) (ad (b + 5)) := rfl
  have hay9 : zAt ad (b + 6) (ad (b + 6)) := rfl
  refine z_of (by decide) (Nat.le_of_ble_eq_true rfl) ?_
  intro p e s m below meth c C hr hlk hnm
  refine z_lv (lv' := [(0, .ref (ad a)), (1, .int (zI ((sx : Int)))), (2, .ref (ad b))]) [0, 1, 2] rfl ?_
  refine z_aload_n C 0 dX8_slideOn_0 rfl ?_
  refine z_get (v := .ref (ad (a + 1))) C (lt_A0 hN rfl) hay1 u1 rfl inA_X8 6 (by decide) q_188 rfl rfl dX8_slideOn_1 ?_
  refine z_iload_n C 1 dX8_slideOn_4 rfl ?_
  refine z_aald C (lt_A (c := 1) hN rfl) hay2 u2 3 rfl (sx) (by omega) (by omega) (by decide) (u3 sx (by omega)) dX8_slideOn_5 ?_
  have hay10 : zAt ad (a + 2 + 2 * sx) (ad (a + 2 + 2 * sx)) := rfl
  have hay11 : zAt ad (a + 2 + 2 * sx + 1) (ad (a + 2 + 2 * sx + 1)) := rfl
  obtain ⟨⟨ny12, Ky13, roy14⟩, hSy15⟩ : ∃ S9 : SL9, S9 = W.2 sx := ⟨_, rfl⟩
  obtain ⟨ry16, hpy17, hCy18⟩ := (show isPk cs ad g (a + 2 + 2 * sx) (ny12, Ky13, roy14) by rw [hSy15]; exact (u4 sx (by omega)))
  have hpy17 : isPack cs ad g (a + 2 + 2 * sx) (ny12 : Int) roy14 ry16 := hpy17
  have hCy18 : ∀ j f, j < ny12 → f < 7 → ry16 (12 * f + j) = Ky13 (7 * j + f) := hCy18
  have hay19 : zAt ad (a + 2 + 2 * sx) (ad (a + 2 + 2 * sx)) := rfl
  have hay20 : zAt ad (a + 2 + 2 * sx + 1) (ad (a + 2 + 2 * sx + 1)) := rfl
  have hOd : okP Ky13 ny12 := by have h9 := hO; rw [← hSy15] at h9; exact h9
  have hXd : okX Ky13 ny12 := by have h9 := hX; rw [← hSy15] at h9; exact h9
  have hwd : isWk tb Ky13 ny12 0 (st sx) (wk : Int) := by have h9 := hwk; rw [← hSy15] at h9; exact h9
  have hn12 := hOd.1
  have hwn : wk < ny12 := by rcases hwd with ⟨a9, b9⟩ | ⟨k9, a9, b9, -⟩ <;> omega
  refine z_astore_n (lv' := [(3, .ref (ad (a + 2 + 2 * sx))), (0, .ref (ad a)), (1, .int (zI ((sx : Int)))), (2, .ref (ad b))]) C dX8_slideOn_6 rfl (by decide) rfl ?_
  refine z_aload_n C 0 dX8_slideOn_7 rfl ?_
  refine z_aload_n C 3 dX8_slideOn_8 rfl ?_
  refine z_get (v := .ref (ad (b + 1))) C (by omega) hay3 hb.1 rfl inA_X5 3 (by decide) q_99 rfl rfl dX8_slideOn_9 ?_
  refine z_iload_n C 2 dX8_slideOn_12 rfl ?_
  refine z_iald C (by omega) hay4 hb.2.1 (sx) (by omega) (by omega) (by decide) dX8_slideOn_13 ?_
  refine z_aload_n C 3 dX8_slideOn_14 rfl ?_
  refine z_cV (As := [.int (zI (st (sx))), .ref (ad b)]) (rest := []) (ci := 5) C (c_pWeakest l D A cs tt N ad _ (a + 2 + 2 * sx) (by omega) _ _ _ (by omega) ⟨hpy17.1, hpy17.2⟩ ny12 Ky13 rfl hCy18 hOd (b) (by omega) _ _ _ _ _ _ _ _ _ ⟨hb.1, hb.2.1, hb.2.2.1, hb.2.2.2.1, hb.2.2.2.2.1, hb.2.2.2.2.2.1, hb.2.2.2.2.2.2⟩ ht hXd (st (sx)) (by omega)) (by omega) hay19 hpy17.1 rfl rfl mv_yX3_weakest q_590 hd_yX3_weakest (by decide) (Nat.le_of_ble_eq_true rfl) (by decide) dX8_slideOn_15 rfl (kI0 fun vy21 gvy21 hvy21 => ?_)
  obtain ⟨hkvy21, rfl⟩ := hvy21
  obtain rfl := isWk_u hkvy21 hwd
  refine z_istore (lv' := [(4, .int (zI ((wk : Int)))), (3, .ref (ad (a + 2 + 2 * sx))), (0, .ref (ad a)), (1, .int (zI ((sx : Int)))), (2, .ref (ad b))]) C dX8_slideOn_18 (by decide) rfl ?_
  refine z_aload_n C 1 dX8_slideOn_20 rfl ?_
  refine z_get (v := .int (zI ((ny12 : Int)))) C (by omega) hay19 hpy17.1 rfl inA_X3 0 (by decide) q_156 rfl rfl dX8_slideOn_21 ?_
  refine z_iconst (z := 1) C dX8_slideOn_24 rfl ?_
  refine z_isub C dX8_slideOn_25 ?_
  refine z_iload C 0 dX8_slideOn_26 rfl ?_
  refine z_isub C dX8_slideOn_28 ?_
  refine z_istore (lv' := [(5, .int (zI ((((ny12 : Int)) - 1) - ((wk : Int))))), (4, .int (zI ((wk : Int)))), (3, .ref (ad (a + 2 + 2 * sx))), (0, .ref (ad a)), (1, .int (zI ((sx : Int)))), (2, .ref (ad b))]) C dX8_slideOn_29 (by decide) rfl ?_
  refine z_aload_n C 3 dX8_slideOn_31 rfl ?_
  refine z_dup C dX8_slideOn_32 rfl ?_
  refine z_get (v := .int (zI (W.1 3))) C (lt_A0 hN rfl) hay1 u1 rfl inA_X8 3 (by decide) q_181 rfl rfl dX8_slideOn_33 ?_
  refine z_aload_n C 2 dX8_slideOn_36 rfl ?_
  refine z_iload C 1 dX8_slideOn_37 rfl ?_
  refine z_cV (As := [.int (zI ((wk : Int)))]) (rest := [.int (zI (W.1 3)), .ref (ad a)]) (ci := 5) C (c_pAbove l D A cs tt N ad _ (a + 2 + 2 * sx) (by omega) _ _ _ (by omega) ⟨hpy17.1, hpy17.2⟩ ny12 Ky13 rfl hCy18 hOd wk (by omega)) (by omega) hay19 hpy17.1 rfl rfl mv_yX3_massAbove q_594 hd_yX3_massAbove (by decide) (Nat.le_of_ble_eq_true rfl) (by decide) dX8_slideOn_39 rfl (kI0 fun vy22 gvy22 hvy22 => ?_)
  obtain ⟨rfl, rfl⟩ := hvy22
  refine z_iadd C dX8_slideOn_42 ?_
  refine z_put (fs' := [.int (zI (W.1 0)), .int (zI (W.1 1)), .int (zI (W.1 2)), .int (zI ((W.1 3) + (abZ Ky13 ny12 wk))), .int (zI (W.1 4)), .int (zI (W.1 5)), .ref (ad (a + 1))]) C (lt_A0 hN rfl) hay1 u1 tyX8 tyX8_ok nmX8 rfl inA_X8 3 (by decide) q_181 rfl rfl rfl rfl (Nat.le_of_ble_eq_true rfl) rfl dX8_slideOn_43 (fun gy23 egy24 => ?_)
  have hgy25 := up_s egy24
  refine z_aload_n C 3 dX8_slideOn_46 rfl ?_
  refine z_dup C dX8_slideOn_47 rfl ?_
  refine z_get (v := .int (zI (W.1 4))) C (lt_A0 hN rfl) hay1 hgy25 rfl inA_X8 4 (by decide) q_183 rfl rfl dX8_slideOn_48 ?_
  refine z_iconst (z := 1) C dX8_slideOn_51 rfl ?_
  refine z_iadd C dX8_slideOn_52 ?_
  refine z_put (fs' := [.int (zI (W.1 0)), .int (zI (W.1 1)), .int (zI (W.1 2)), .int (zI ((W.1 3) + (abZ Ky13 ny12 wk))), .int (zI ((W.1 4) + 1)), .int (zI (W.1 5)), .ref (ad (a + 1))]) C (lt_A0 hN rfl) hay1 hgy25 tyX8 tyX8_ok nmX8 rfl inA_X8 4 (by decide) q_183 rfl rfl rfl rfl (Nat.le_of_ble_eq_true rfl) rfl dX8_slideOn_53 (fun gy26 egy27 => ?_)
  have hgy28 := up_s egy27
  refine z_aload_n C 2 dX8_slideOn_56 rfl ?_
  refine z_iload C 1 dX8_slideOn_57 rfl ?_
  refine z_iconst (z := 1) C dX8_slideOn_59 rfl ?_
  refine z_iadd C dX8_slideOn_60 ?_
  have hgy29 := up_n egy24 hpy17.1 (by omega)
  have hgy30 := up_n egy27 hgy29 (by omega)
  refine z_put (fs' := [.int (zI (((wk : Int)) + 1)), .int (zI (roy14)), .ref (ad (a + 2 + 2 * sx + 1))]) C (by omega) hay19 hgy30 tyX3 tyX3_ok nmX3 rfl inA_X3 0 (by decide) q_156 rfl rfl rfl rfl (Nat.le_of_ble_eq_true rfl) rfl dX8_slideOn_61 (fun gy31 egy32 => ?_)
  have hgy33 := up_s egy32
  refine z_iload C 0 dX8_slideOn_64 rfl ?_
  have hgy34 := up_n egy32 hgy28 (by omega)
  have hgy35 := up_n egy24 hpy17.2 (by omega)
  have hgy36 := up_n egy27 hgy35 (by omega)
  have hgy37 := up_n egy32 hgy36 (ne_o (i := a + 2 + 2 * sx) (c := 1) (d := 0) rfl)
  have hp9 : isPk cs ad gy31 (a + 2 + 2 * sx) (wk + 1, Ky13, roy14) := ⟨_, (by rw [show (((wk + 1, Ky13, roy14) : SL9).1 : Nat) = wk + 1 from rfl, show ((wk + 1 : Nat) : Int) = (wk : Int) + 1 by omega]; exact ⟨hgy33, hgy37⟩), fun y f h1 h2 => hCy18 y f (by have h3 : y < wk + 1 := h1; omega) h2⟩
  have hfin : isWl cs ad gy31 a (slW W sx wk) := by
    unfold slW
    rw [← hSy15]
    exact isWl.pk (uZ (uZ W.1 3 (W.1 3 + abZ Ky13 ny12 wk)) 4 (W.1 4 + 1)) (wk + 1, Ky13, roy14) hw hs (fun j j1 j2 j3 => by rw [egy32, va_up_ne _ _ (by omega)]; rw [egy27, va_up_ne _ _ (by omega)]; rw [egy24, va_up_ne _ _ (by omega)]) hgy34 ⟨⟨(uZ_n _ _ (by decide)).trans (uZ_n _ _ (by decide)), (uZ_n _ _ (by decide)).trans (uZ_n _ _ (by decide))⟩, ⟨(uZ_n _ _ (by decide)).trans (uZ_n _ _ (by decide)), (uZ_n _ _ (by decide)).trans (uZ_s _ _ _)⟩, uZ_s _ _ _, (uZ_n _ _ (by decide)).trans (uZ_n _ _ (by decide))⟩ hp9
  exact z_iret C hr hlk dX8_slideOn_66 (by decide) (by decide) ⟨_, rfl, rfl, rfl, ⟨by rw [← hSy15], hfin⟩, fun j j1 => by rw [egy32, va_up_ne _ _ (by omega)]; rw [egy27, va_up_ne _ _ (by omega)]; rw [egy24, va_up_ne _ _ (by omega)]⟩
end
section
-- 9lf.pst.lean.txt
/-- a pit: its slope, its TIME, its layers -/
abbrev PT9 : Type := Int × Int × Nat × (Nat → Int)
def isPt (cs : Nat → ClassId) (ad : Nat → Nat) (g : Nat → va_E) (i : Nat) (P : PT9) : Prop := g i = oC 6 [.int (zI P.1), .int (zI P.2.1), .ref (ad (i + 1))] ∧ ∃ ro : Int, isPk cs ad g (i + 1) (P.2.2.1, P.2.2.2, ro)
theorem isPt.mv {cs : Nat → ClassId} {ad : Nat → Nat} {g g' : Nat → va_E} {i : Nat} {P : PT9} (hG : ∀ j, i ≤ j → j < i + 3 → g' j = g j) (h : isPt cs ad g i P) : isPt cs ad g' i P := by
  obtain ⟨h1, ro, h2⟩ := h
  exact ⟨(hG _ (by omega) (by omega)).trans h1, ro, h2.mv (fun j a b => hG j (by omega) (by omega))⟩
/-- the worlds that are kept: the row, where each lies -/
def xBf (cs : Nat → ClassId) (ad : Nat → Nat) (g : Nat → va_E) (i na : Nat) (H : Nat → WL9) : Prop := ∃ (b : Nat → Option Nat) (f : Nat → Nat), (g (i + 11) = rA (cs 4) 40 b ∧ ∀ k, k < 40 → f k < 40 ∧ b k = some (ad (i + 18 + 10 * f k))) ∧ (∀ j k, j < 40 → k < 40 → f j = f k → j = k) ∧ ∀ k, k < na → isWl cs ad g (i + 18 + 10 * f k) (H k)
/-- a State of the class, exactly: ACTS, the worlds kept, the world now, the pits, the notes, what was refused -/
def xKt (cs : Nat → ClassId) (ad : Nat → Nat) (g : Nat → va_E) (i na : Nat) (H : Nat → WL9) (W : WL9) (P : Nat → PT9) (nz : Int) (nu nv nw rf : Nat → Int) : Prop := g i = stC ad i (na : Int) ∧ isWl cs ad g (i + 1) W ∧ xBf cs ad g i na H ∧ (∀ k, k < 6 → isPt cs ad g (i + 418 + 3 * k) (P k)) ∧ isNotes cs ad g (i + 13) nz nu nv nw ∧ g (i + 17) = iA cs 3 rf
def kpN (na : Nat) : Nat := if na = 40 then 40 else na + 1
def kpH (na : Nat) (H : Nat → WL9) (W : WL9) : Nat → WL9 := if na = 40 then (fun k => if k = 39 then W else H (k + 1)) else fun k => if k = na then W else H k
section XST
variable {cs : Nat → ClassId} {ad : Nat → Nat} {g g' : Nat → va_E} {i na : Nat} {H : Nat → WL9} {W : WL9} {P : Nat → PT9} {nz : Int} {nu nv nw rf : Nat → Int}
theorem xBf.mv (hG : ∀ j, i + 11 ≤ j → j < i + 418 → j < i + 12 ∨ i + 18 ≤ j → g' j = g j) (h : xBf cs ad g i na H) (hn : na ≤ 40) : xBf cs ad g' i na H := by
  obtain ⟨b, f, ⟨h1, h2⟩, h3, h4⟩ := h
  exact ⟨b, f, ⟨(hG _ (by omega) (by omega) (by omega)).trans h1, h2⟩, h3, fun k hk => (h4 k hk).mv (fun j a c => hG j (by omega) (by have := (h2 k (by omega)).1; omega) (by omega))⟩
theorem xKt.mv (hG : ∀ j, i ≤ j → j < i + 436 → g' j = g j) (hn : na ≤ 40) (h : xKt cs ad g i na H W P nz nu nv nw rf) : xKt cs ad g' i na H W P nz nu nv nw rf := by
  obtain ⟨h1, h2, h3, h4, h5, h6⟩ := h
  exact ⟨(hG _ (by omega) (by omega)).trans h1, h2.mv (fun j _ _ => hG j (by omega) (by omega)), h3.mv (fun j _ _ _ => hG j (by omega) (by omega)) hn, fun k hk => (h4 k hk).mv (fun j _ _ => hG j (by omega) (by omega)), h5.mv (fun _ _ _ => rfl) (fun j _ _ => hG j (by omega) (by omega)), (hG _ (by omega) (by omega)).trans h6⟩
/-- the world now is another one -/
theorem xKt.now {W' : WL9} (h : xKt cs ad g i na H W P nz nu nv nw rf) (hn : na ≤ 40) (hG : ∀ j, j < i + 1 ∨ i + 11 ≤ j → g' j = g j) (hw : isWl cs ad g' (i + 1) W') : xKt cs ad g' i na H W' P nz nu nv nw rf := by
  obtain ⟨h1, h2, h3, h4, h5, h6⟩ := h
  exact ⟨(hG _ (by omega)).trans h1, hw, h3.mv (fun j _ _ _ => hG j (by omega)) hn, fun k hk => (h4 k hk).mv (fun j _ _ => hG j (by omega)), h5.mv (fun _ _ _ => rfl) (fun j _ _ => hG j (by omega)), (hG _ (by omega)).trans h6⟩
/-- so many ACTS -/
theorem xKt.head {nb : Nat} (h : xKt cs ad g i na H W P nz nu nv nw rf) (hn : na ≤ 40) (hb : nb ≤ na) (hG : ∀ j, j ≠ i → g' j = g j) (hc : g' i = stC ad i (nb : Int)) : xKt cs ad g' i nb H W P nz nu nv nw rf := by
  obtain ⟨h1, h2, h3, h4, h5, h6⟩ := h
  obtain ⟨b, f, a1, a2, a3⟩ := h3.mv (g' := g') (fun j _ _ _ => hG j (by omega)) hn
  exact ⟨hc, h2.mv (fun j _ _ => hG j (by omega)), ⟨b, f, a1, a2, fun k hk => a3 k (by omega)⟩, fun k hk => (h4 k hk).mv (fun j _ _ => hG j (by omega)), h5.mv (fun _ _ _ => rfl) (fun j _ _ => hG j (by omega)), (hG _ (by omega)).trans h6⟩
/-- an ACT is kept: behind a row (b, f) of g, the world k lies anew -/
theorem xKt.keep {gs gc : Nat → va_E} {b : Nat → Option Nat} {f : Nat → Nat} {H9 H' : Nat → WL9} {k : Nat} (h : xKt cs ad g i na H W P nz nu nv nw rf) (hk : k < 40) (hs : ∀ j, j ≠ i → j ≠ i + 11 → gs j = g j) (h1 : gs (i + 11) = rA (cs 4) 40 b ∧ ∀ k, k < 40 → f k < 40 ∧ b k = some (ad (i + 18 + 10 * f k))) (h2 : ∀ j k, j < 40 → k < 40 → f j = f k → j = k) (h3 : ∀ m, m < k → isWl cs ad gs (i + 18 + 10 * f m) (H9 m)) (hf : ∀ j, j < i + 18 + 10 * f k ∨ i + 18 + 10 * f k + 10 ≤ j → gc j = gs j) (hw : isWl cs ad gc (i + 18 + 10 * f k) W) (hg : ∀ j, j ≠ i → g' j = gc j) (hc : g' i = stC ad i ((k + 1 : Nat) : Int)) (hH : ∀ m, m ≤ k → H' m = if m = k then W else H9 m) : xKt cs ad g' i (k + 1) H' W P nz nu nv nw rf := by
  obtain ⟨a1, a2, a3, a4, a5, a6⟩ := h
  have fk := (h1.2 k hk).1
  have hG : ∀ j, j < i + 18 ∨ i + 418 ≤ j → j ≠ i → j ≠ i + 11 → g' j = g j := fun j q1 q2 q3 => (hg j q2).trans ((hf j (by omega)).trans (hs j q2 q3))
  refine ⟨hc, a2.mv (fun j _ _ => hG j (by omega) (by omega) (by omega)), ⟨b, f, ⟨(hg _ (by omega)).trans ((hf _ (by omega)).trans h1.1), h1.2⟩, h2, fun m hm => ?_⟩, fun k9 h9 => (a4 k9 h9).mv (fun j _ _ => hG j (by omega) (by omega) (by omega)), a5.mv (fun _ _ _ => rfl) (fun j _ _ => hG j (by omega) (by omega) (by omega)), (hG _ (by omega) (by omega) (by omega)).trans a6⟩
  have hm2 := hH m (by omega)
  by_cases e : m = k
  · subst e
    rw [if_pos rfl] at hm2
    rw [hm2]
    exact hw.mv (fun j _ _ => hg j (by omega))
  · rw [if_neg e] at hm2
    rw [hm2]
    have fm := (h1.2 m (by omega)).1
    have fne : f m ≠ f k := fun e9 => e (h2 m k (by omega) hk e9)
    exact (h3 m (by omega)).mv (fun j _ _ => (hg j (by omega)).trans (hf j (by omega)))
end XST

set_option maxRecDepth 100000 in
set_option maxHeartbeats 4000000 in
theorem c_qForget (l : Launch) (D : va_G) (A : Nat → Prop) (cs : Nat → ClassId) (tt : Nat) (N : Nat) (ad : Nat → Nat) (g : Nat → va_E) (i : Nat) (hN : i + 436 ≤ N) (nz : Int) (hS : okState cs ad g i 40 nz) (b : Nat → Option Nat) (f : Nat → Nat) (hrow : g (i + 11) = rA (cs 4) 40 b ∧ ∀ k, k < 40 → f k < 40 ∧ b k = some (ad (i + 18 + 10 * f k))) : zM l yX6_forgetOldest cX6_forgetOldest 3 none ({ frames := 1, cells := 0, slots := 0, locals := 60 } : Room) D A cs tt N ad g [.ref (ad i)] (rV0 N ad fun g' => (okState cs ad g' i 39 nz ∧ g' i = stC ad i 39 ∧ ∃ b' : Nat → Option Nat, g' (i + 11) = rA (cs 4) 40 b' ∧ ∀ k, k < 40 → b' k = some (ad (i + 18 + 10 * (if k = 39 then f 0 else f (k + 1))))) ∧ ∀ j, j ≠ i → j ≠ i + 11 → g' j = g j) := by
  obtain ⟨q1, q2, q3, ⟨qb, qf, q4, q5⟩, q6, ⟨qc, q7, q8⟩, q9, q10, qr, q11⟩ := id hS
  have hay1 : zAt ad (i) (ad i) := rfl
  have hay2 : zAt ad (i + 11) (ad (i + 11)) := rfl
  have hay3 : zAt ad (i + 12) (ad (i + 12)) := rfl
  have hay4 : zAt ad (i + 17) (ad (i + 17)) := rfl
  have hay5 : zAt ad (i + 1) (ad (i + 1)) := rfl
  have hay6 : zAt ad (i + 13) (ad (i + 13)) := rfl
  refine z_of (by decide) (Nat.le_of_ble_eq_true rfl) ?_
  intro p e s m below meth c C hr hlk hnm
  refine z_lv (lv' := [(0, .ref (ad i))]) [0] rfl ?_
  refine z_aload_n C 0 dX6_forgetOldest_0 rfl ?_
  refine z_get (v := .ref (ad (i + 11))) C (lt_A0 hN rfl) hay1 q1 rfl inA_X6 1 (by decide) q_259 rfl rfl dX6_forgetOldest_1 ?_
  refine z_iconst (z := 0) C dX6_forgetOldest_4 rfl ?_
  refine z_aald C (lt_A (c := 11) hN rfl) hay2 hrow.1 4 rfl (0) (by omega) (by omega) (by decide) (hrow.2 0 (by decide)).2 dX6_forgetOldest_5 ?_
  have hay7 : zAt ad (i + 18 + 10 * f 0) (ad (i + 18 + 10 * f 0)) := rfl
  refine z_astore_n (lv' := [(1, .ref (ad (i + 18 + 10 * f 0))), (0, .ref (ad i))]) C dX6_forgetOldest_6 rfl (by decide) rfl ?_
  refine z_iconst (z := 1) C dX6_forgetOldest_7 rfl ?_
  refine z_istore_n (lv' := [(2, .int (zI (1))), (1, .ref (ad (i + 18 + 10 * f 0))), (0, .ref (ad i))]) C dX6_forgetOldest_8 rfl (by decide) rfl ?_
  have lp : ∀ (n9 : Nat) (k : Int) (b9 : Nat → Option Nat) (n : Nat) (g1 : Nat → va_E), (40 - k).toNat = n9 → (g1 (i + 11) = rA (cs 4) 40 b9) → (∀ m, m < 40 → b9 m = some (ad (i + 18 + 10 * (if m + 1 < n then f (m + 1) else f m)))) → (∀ j, j ≠ i + 11 → g1 j = g j) → (1 ≤ n ∧ n ≤ 40) → (k = (n : Int)) → zV p l e ({ frames := 1, cells := 0, slots := 0, locals := 60 } : Room) s m ([.ref (ad i)] : List Value).toArray below meth c (MQ below (zPost D A (rV0 N ad fun g' => (okState cs ad g' i 39 nz ∧ g' i = stC ad i 39 ∧ ∃ b' : Nat → Option Nat, g' (i + 11) = rA (cs 4) 40 b' ∧ ∀ k, k < 40 → b' k = some (ad (i + 18 + 10 * (if k = 39 then f 0 else f (k + 1))))) ∧ ∀ j, j ≠ i → j ≠ i + 11 → g' j = g j)) ([.ref (ad i)] : List Value).toArray s ({ frames := 1, cells := 0, slots := 0, locals := 60 } : Room).cells ({ frames := 1, cells := 0, slots := 0, locals := 60 } : Room).slots A) D A 3 (N) ad g1 (0) (0) 9 [(2, .int (zI (k))), (1, .ref (ad (i + 18 + 10 * f 0))), (0, .ref (ad i))] [] := by
    intro n9
    induction n9 using Nat.strongRecOn with
    | ind n9 ih =>
      intro k b9 n g1 hm9 f1 f2 f3 f4 hkn
      subst hkn
      have hay8 : zAt ad (i) (ad i) := rfl
      have hay9 : zAt ad (i + 11) (ad (i + 11)) := rfl
      have hay10 : zAt ad (i + 18 + 10 * f 0) (ad (i + 18 + 10 * f 0)) := rfl
      have f0c := (f3 i (by omega)).trans q1
      refine z_iload_n C 0 dX6_forgetOldest_9 rfl ?_
      refine z_aload_n C 2 dX6_forgetOldest_10 rfl ?_
      refine z_get (v := .ref (ad (i + 11))) C (lt_A0 hN rfl) hay8 f0c rfl inA_X6 1 (by decide) q_259 rfl rfl dX6_forgetOldest_11 ?_
      refine z_alen (z := 40) C (lt_A (c := 11) hN rfl) hay9 f1 4 rfl rfl dX6_forgetOldest_14 ?_
      refine z_icmp_ge (tgt := 38) C dX6_forgetOldest_15 (by decide) (by omega) (by omega) (fun hb1 => ?_) (fun hb1 => ?_)
      · refine z_aload_n C 2 dX6_forgetOldest_38 rfl ?_
        refine z_get (v := .ref (ad (i + 11))) C (lt_A0 hN rfl) hay8 f0c rfl inA_X6 1 (by decide) q_259 rfl rfl dX6_forgetOldest_39 ?_
        refine z_aload_n C 2 dX6_forgetOldest_42 rfl ?_
        refine z_get (v := .ref (ad (i + 11))) C (lt_A0 hN rfl) hay8 f0c rfl inA_X6 1 (by decide) q_259 rfl rfl dX6_forgetOldest_43 ?_
        refine z_alen (z := 40) C (lt_A (c := 11) hN rfl) hay9 f1 4 rfl rfl dX6_forgetOldest_46 ?_
        refine z_iconst (z := 1) C dX6_forgetOldest_47 rfl ?_
        refine z_isub C dX6_forgetOldest_48 ?_
        refine z_aload_n C 1 dX6_forgetOldest_49 rfl ?_
        have hfkhcy11 := (hrow.2 (0) (by omega)).1
        obtain ⟨thcy11, zhcy11, ohcy11, rhcy11, hzhcy11, hthcy11, hwhcy11⟩ := q6 (f (0)) (by omega)
        have hay12 : zAt ad (i + 18 + 10 * f 0) (ad (i + 18 + 10 * f 0)) := rfl
        have hxhcy11 := (f3 (i + 18 + 10 * f 0) (by omega)).trans hwhcy11.1
        refine z_aast (q := (RX8, TX8, 7)) C (lt_A (c := 11) hN rfl) hay9 f1 4 rfl (by omega) hay12 hxhcy11 rfl (39) (by omega) (by omega) (by decide) dX6_forgetOldest_50 (fun gy13 egy14 => ?_)
        have hgy15 := up_s egy14
        refine z_aload_n C 2 dX6_forgetOldest_51 rfl ?_
        refine z_dup C dX6_forgetOldest_52 rfl ?_
        have hgy16 := up_n egy14 f0c (ne_o (i := i) (c := 0) (d := 11) rfl)
        refine z_get (v := .int (zI (40))) C (lt_A0 hN rfl) hay8 hgy16 rfl inA_X6 2 (by decide) q_260 rfl rfl dX6_forgetOldest_53 ?_
        refine z_iconst (z := 1) C dX6_forgetOldest_56 rfl ?_
        refine z_isub C dX6_forgetOldest_57 ?_
        refine z_put (fs' := [.ref (ad (i + 1)), .ref (ad (i + 11)), .int (zI (40 - 1)), .ref (ad (i + 12)), .ref (ad (i + 13)), .ref (ad (i + 17))]) C (lt_A0 hN rfl) hay8 hgy16 tyX6 tyX6_ok nmX6 rfl inA_X6 2 (by decide) q_260 rfl rfl rfl rfl (Nat.le_of_ble_eq_true rfl) rfl dX6_forgetOldest_58 (fun gy17 egy18 => ?_)
        have hgy19 := up_s egy18
        have hgy20 := up_n egy18 hgy15 (ne_o (i := i) (c := 11) (d := 0) rfl)
        have hb8 : ∀ m, m < 40 → (va_up b9 39 (some (ad (i + 18 + 10 * f 0)))) m = some (ad (i + 18 + 10 * (if m = 39 then f 0 else f (m + 1)))) := fun m hm => by
            by_cases e : m = 39
            · subst e; rw [va_up_self, if_pos rfl]
            · rw [va_up_ne _ _ e, if_neg e, f2 m hm, if_pos (by omega)]
        have hrow9 : okState cs ad (va_up gy17 i (g i)) i 40 nz := okState.row (f' := fun m => if m = 39 then f 0 else f (m + 1)) hS (fun j j1 => by
            by_cases e : j = i
            · rw [e, va_up_self]
            · rw [va_up_ne _ _ e]; rw [egy18, va_up_ne _ _ (by omega)]; rw [egy14, va_up_ne _ _ (by omega)]; exact f3 j j1) (by rw [va_up_ne _ _ (by omega)]; exact hgy20) (fun m hm => ⟨by by_cases e : m = 39; (· rw [if_pos e]; exact (hrow.2 0 (by decide)).1); · rw [if_neg e]; exact (hrow.2 (m + 1) (by omega)).1, hb8 m hm⟩)
        have hfin : okState cs ad gy17 i 39 nz := okState.head (by decide) hrow9 (fun j j1 => (va_up_ne _ _ j1).symm) hgy19
        exact z_vret C hr hlk dX6_forgetOldest_61 (by decide) (by decide) ⟨rfl, rfl, rfl, ⟨hfin, hgy19, _, hgy20, hb8⟩, fun j j1 j2 => by rw [egy18, va_up_ne _ _ (by omega)]; rw [egy14, va_up_ne _ _ (by omega)]; exact f3 j j2⟩
      · refine z_aload_n C 2 dX6_forgetOldest_18 rfl ?_
        refine z_get (v := .ref (ad (i + 11))) C (lt_A0 hN rfl) hay8 f0c rfl inA_X6 1 (by decide) q_259 rfl rfl dX6_forgetOldest_19 ?_
        refine z_iload_n C 0 dX6_forgetOldest_22 rfl ?_
        refine z_iconst (z := 1) C dX6_forgetOldest_23 rfl ?_
        refine z_isub C dX6_forgetOldest_24 ?_
        refine z_aload_n C 2 dX6_forgetOldest_25 rfl ?_
        refine z_get (v := .ref (ad (i + 11))) C (lt_A0 hN rfl) hay8 f0c rfl inA_X6 1 (by decide) q_259 rfl rfl dX6_forgetOldest_26 ?_
        refine z_iload_n C 0 dX6_forgetOldest_29 rfl ?_
        refine z_aald C (lt_A (c := 11) hN rfl) hay9 f1 4 rfl (n) (by omega) (by omega) (by decide) (by rw [f2 n (by omega), if_neg (by omega)]) dX6_forgetOldest_30 ?_
        have hay21 : zAt ad (i + 18 + 10 * f n) (ad (i + 18 + 10 * f n)) := rfl
        have hfkhcy22 := (hrow.2 (n) (by omega)).1
        obtain ⟨thcy22, zhcy22, ohcy22, rhcy22, hzhcy22, hthcy22, hwhcy22⟩ := q6 (f (n)) (by omega)
        have hay23 : zAt ad (i + 18 + 10 * f n) (ad (i + 18 + 10 * f n)) := rfl
        have hxhcy22 := (f3 (i + 18 + 10 * f n) (by omega)).trans hwhcy22.1
        refine z_aast (q := (RX8, TX8, 7)) C (lt_A (c := 11) hN rfl) hay9 f1 4 rfl (by omega) hay23 hxhcy22 rfl ((n - 1)) (by omega) (by omega) (by decide) dX6_forgetOldest_31 (fun gy24 egy25 => ?_)
        have hgy26 := up_s egy25
        refine z_iinc (z := (n : Int) + 1) (lv' := [(2, .int (zI ((n : Int) + 1))), (1, .ref (ad (i + 18 + 10 * f 0))), (0, .ref (ad i))]) (j := 0) C dX6_forgetOldest_32 rfl rfl (by decide) rfl ?_
        refine z_goto (tgt := 9) C dX6_forgetOldest_35 (by decide) ?_
        refine z_lv (lv' := [(2, .int (zI ((n : Int) + 1))), (1, .ref (ad (i + 18 + 10 * f 0))), (0, .ref (ad i))]) [0, 1, 2] rfl ?_
        exact ih _ (by omega) ((n : Int) + 1) _ (n + 1) gy24 rfl hgy26 (fun m hm => by
            by_cases e : m = n - 1
            · subst e; rw [va_up_self, if_pos (by omega), show n - 1 + 1 = n by omega]
            · rw [va_up_ne _ _ e, f2 m hm]
              by_cases e9 : m + 1 < n
              · rw [if_pos e9, if_pos (by omega)]
              · rw [if_neg e9, if_neg (by omega)]) (fun j j1 => by rw [egy25, va_up_ne _ _ (by omega)]; exact f3 j j1) (by omega) (by omega)
  refine z_lv (lv' := [(2, .int (zI (1))), (1, .ref (ad (i + 18 + 10 * f 0))), (0, .ref (ad i))]) [0, 1, 2] rfl ?_
  exact lp _ 1 _ 1 g rfl hrow.1 (fun m hm => by rw [if_neg (by omega)]; exact (hrow.2 m hm).2) (fun j _ => rfl) (by omega) rfl

set_option maxRecDepth 100000 in
set_option maxHeartbeats 4000000 in
theorem c_qKeep (l : Launch) (D : va_G) (A : Nat → Prop) (cs : Nat → ClassId) (tt : Nat) (N : Nat) (ad : Nat → Nat) (g : Nat → va_E) (i : Nat) (hN : i + 436 ≤ N) (na : Nat) (nz : Int) (H : Nat → WL9) (W : WL9) (P : Nat → PT9) (nu nv nw rf : Nat → Int) (hS : okState cs ad g i (na : Int) nz) (hX : xKt cs ad g i na H W P nz nu nv nw rf) : zM l yX6_keepAct cX6_keepAct 1 none ({ frames := 3, cells := 0, slots := 0, locals := 180 } : Room) D A cs tt N ad g [.ref (ad i)] (rV0 N ad fun g' => okState cs ad g' i ((kpN na : Nat) : Int) nz ∧ xKt cs ad g' i (kpN na) (kpH na H W) (W) P nz nu nv nw rf ∧ ∀ j, j < i ∨ i + 436 ≤ j → g' j = g j) := by
  obtain ⟨q1, q2, q3, ⟨qb, qf, q4, q5⟩, q6, ⟨qc, q7, q8⟩, q9, q10, qr, q11⟩ := id hS
  have hay1 : zAt ad (i) (ad i) := rfl
  have hay2 : zAt ad (i + 11) (ad (i + 11)) := rfl
  have hay3 : zAt ad (i + 12) (ad (i + 12)) := rfl
  have hay4 : zAt ad (i + 17) (ad (i + 17)) := rfl
  have hay5 : zAt ad (i + 1) (ad (i + 1)) := rfl
  have hay6 : zAt ad (i + 13) (ad (i + 13)) := rfl
  have hna := hS.2.1
  obtain ⟨xb, xf, hxr, hxi, hxw⟩ := id hX.2.2.1
  refine z_of (by decide) (Nat.le_of_ble_eq_true rfl) ?_
  intro p e s m below meth c C hr hlk hnm
  refine z_lv (lv' := [(0, .ref (ad i))]) [0] rfl ?_
  refine z_aload_n C 0 dX6_keepAct_0 rfl ?_
  refine z_get (v := .int (zI ((na : Int)))) C (lt_A0 hN rfl) hay1 q1 rfl inA_X6 2 (by decide) q_260 rfl rfl dX6_keepAct_1 ?_
  refine z_bipush (z := 40) C dX6_keepAct_4 (by decide) ?_
  refine z_icmp_ne (tgt := 13) C dX6_keepAct_6 (by decide) (by omega) (by omega) (fun hb1 => ?_) (fun hb1 => ?_)
  · have hfs : ∀ j, j ≠ i → j ≠ i + 11 → g j = g j := fun _ _ _ => rfl
    have hnn : na < 40 := by omega
    obtain ⟨p1, p2, p3, -, p6, -⟩ := id hS
    refine z_aload_n C 0 dX6_keepAct_13 rfl ?_
    refine z_get (v := .ref (ad (i + 11))) C (lt_A0 hN rfl) hay1 p1 rfl inA_X6 1 (by decide) q_259 rfl rfl dX6_keepAct_14 ?_
    refine z_aload_n C 0 dX6_keepAct_17 rfl ?_
    refine z_get (v := .int (zI ((na : Int)))) C (lt_A0 hN rfl) hay1 p1 rfl inA_X6 2 (by decide) q_260 rfl rfl dX6_keepAct_18 ?_
    refine z_aald C (lt_A (c := 11) hN rfl) hay2 hxr.1 4 rfl (na) (by omega) (by omega) (by decide) (hxr.2 na (by omega)).2 dX6_keepAct_21 ?_
    have hay7 : zAt ad (i + 18 + 10 * xf na) (ad (i + 18 + 10 * xf na)) := rfl
    have pk := (hxr.2 na (by omega)).1
    have pkw := p6 (xf na) pk
    obtain ⟨tk, zk, ok, rk, hzk, htk, hwk⟩ := id pkw
    refine z_aload_n C 0 dX6_keepAct_22 rfl ?_
    refine z_get (v := .ref (ad (i + 1))) C (lt_A0 hN rfl) hay1 p1 rfl inA_X6 0 (by decide) q_257 rfl rfl dX6_keepAct_23 ?_
    refine z_cV (As := [.ref (ad (i + 1))]) (rest := []) (ci := 10) C (c_X8_copyFrom l D A cs tt N ad _ (i + 18 + 10 * xf na) (by omega) pkw (i + 1) (by omega) p3 (by omega)) (by omega) hay7 hwk.1 rfl rfl mv_yX8_copyFrom q_420 hd_yX8_copyFrom (by decide) (Nat.le_of_ble_eq_true rfl) (by decide) dX6_keepAct_26 rfl (kV0 fun gc hc => ?_)
    obtain ⟨⟨t1, z1, o1, r1, hz1, ht1, hn1, hw1⟩, hf1⟩ := hc
    have hs2 : okState cs ad gc i ((na : Int)) nz := okState.bef pk hS hf1 ⟨_, _, _, _, hz1, ht1, hw1⟩
    have hwl : isWl cs ad gc (i + 18 + 10 * xf na) W := copy_wl hn1 hw1 (hX.2.1.mv (fun j j1 j2 => hfs j (by omega) (by omega)))
    refine z_aload_n C 0 dX6_keepAct_29 rfl ?_
    refine z_dup C dX6_keepAct_30 rfl ?_
    refine z_get (v := .int (zI ((na : Int)))) C (lt_A0 hN rfl) hay1 hs2.1 rfl inA_X6 2 (by decide) q_260 rfl rfl dX6_keepAct_31 ?_
    refine z_iconst (z := 1) C dX6_keepAct_34 rfl ?_
    refine z_iadd C dX6_keepAct_35 ?_
    refine z_put (fs' := [.ref (ad (i + 1)), .ref (ad (i + 11)), .int (zI (((na : Int)) + 1)), .ref (ad (i + 12)), .ref (ad (i + 13)), .ref (ad (i + 17))]) C (lt_A0 hN rfl) hay1 hs2.1 tyX6 tyX6_ok nmX6 rfl inA_X6 2 (by decide) q_260 rfl rfl rfl rfl (Nat.le_of_ble_eq_true rfl) rfl dX6_keepAct_36 (fun gy8 egy9 => ?_)
    have hgy10 := up_s egy9
    have hs3 : okState cs ad gy8 i ((na : Int) + 1) nz := okState.head (by omega) hs2 (fun j j1 => by rw [egy9, va_up_ne _ _ (by omega)]) hgy10
    have hci : gy8 i = stC ad i ((na + 1 : Nat) : Int) := by rw [show (((na + 1 : Nat)) : Int) = ((na : Int) : Int) + 1 by omega]; exact hgy10
    have hx3 : xKt cs ad gy8 i (na + 1) (kpH na H W) W P nz nu nv nw rf := xKt.keep (gs := g) (gc := gc) (H9 := H) (k := na) (f := fun k9 => xf k9) hX (by omega) hfs hxr hxi hxw hf1 hwl (fun j j1 => by rw [egy9, va_up_ne _ _ (by omega)]) hci (fun m hm => by unfold kpH; rw [if_neg (by omega)])
    have hkn : kpN na = na + 1 := by unfold kpN; rw [if_neg (by omega)]
    rw [hkn]
    have hs4 : okState cs ad gy8 i (((na + 1 : Nat)) : Int) nz := by rw [show (((na + 1 : Nat)) : Int) = ((na : Int) : Int) + 1 by omega]; exact hs3
    exact z_vret C hr hlk dX6_keepAct_39 (by decide) (by decide) ⟨rfl, rfl, rfl, hs4, hx3, fun j j1 => ((by rw [egy9, va_up_ne _ _ (by omega)] : gy8 j = gc j).trans (hf1 j (by omega))).trans (hfs j (by omega) (by omega))⟩
  · refine z_aload_n C 0 dX6_keepAct_9 rfl ?_
    have hn40 : na = 40 := by omega
    have hS40 : okState cs ad g i 40 nz := by have h9 := hS; rw [hn40] at h9; exact h9
    refine z_cV (As := []) (rest := []) (ci := 8) C (c_qForget l D A cs tt N ad _ i hN nz hS40 xb xf hxr) (lt_A0 hN rfl) hay1 q1 rfl rfl mv_yX6_forgetOldest q_416 hd_yX6_forgetOldest (by decide) (Nat.le_of_ble_eq_true rfl) (by decide) dX6_keepAct_10 rfl (kV0 fun gs hgs => ?_)
    obtain ⟨⟨hSs, hci0, b2, hb2, hb3⟩, hfs0⟩ := hgs
    have hfs : ∀ j, j ≠ i → j ≠ i + 11 → gs j = g j := hfs0
    have hr2 : gs (i + 11) = rA (cs 4) 40 b2 ∧ ∀ k, k < 40 → (fun k9 => if k9 = 39 then xf 0 else xf (k9 + 1)) k < 40 ∧ b2 k = some (ad (i + 18 + 10 * (fun k9 => if k9 = 39 then xf 0 else xf (k9 + 1)) k)) := ⟨hb2, fun k hk => ⟨by show (if k = 39 then xf 0 else xf (k + 1)) < 40; by_cases e : k = 39; (· rw [if_pos e]; exact (hxr.2 0 (by decide)).1); · rw [if_neg e]; exact (hxr.2 (k + 1) (by omega)).1, hb3 k hk⟩⟩
    have hi2 : ∀ j k, j < 40 → k < 40 → (fun k9 => if k9 = 39 then xf 0 else xf (k9 + 1)) j = (fun k9 => if k9 = 39 then xf 0 else xf (k9 + 1)) k → j = k := by
      intro j k a1 a2 a3
      have a4 : (if j = 39 then xf 0 else xf (j + 1)) = (if k = 39 then xf 0 else xf (k + 1)) := a3
      by_cases e : j = 39
      · by_cases e2 : k = 39
        · omega
        · rw [if_pos e, if_neg e2] at a4; have := hxi 0 (k + 1) (by decide) (by omega) a4; omega
      · by_cases e2 : k = 39
        · rw [if_neg e, if_pos e2] at a4; have := hxi (j + 1) 0 (by omega) (by decide) a4; omega
        · rw [if_neg e, if_neg e2] at a4; have := hxi (j + 1) (k + 1) (by omega) (by omega) a4; omega
    have hw2 : ∀ m, m < 39 → isWl cs ad gs (i + 18 + 10 * (fun k9 => if k9 = 39 then xf 0 else xf (k9 + 1)) m) (H (m + 1)) := fun m hm => by
        have h9 := hxw (m + 1) (by omega)
        show isWl cs ad gs (i + 18 + 10 * (if m = 39 then xf 0 else xf (m + 1))) (H (m + 1))
        rw [if_neg (by omega)]
        exact h9.mv (fun j j1 j2 => hfs j (by omega) (by omega))
    obtain ⟨p1, p2, p3, -, p6, -⟩ := id hSs
    refine z_aload_n C 0 dX6_keepAct_13 rfl ?_
    refine z_get (v := .ref (ad (i + 11))) C (lt_A0 hN rfl) hay1 p1 rfl inA_X6 1 (by decide) q_259 rfl rfl dX6_keepAct_14 ?_
    refine z_aload_n C 0 dX6_keepAct_17 rfl ?_
    refine z_get (v := .int (zI (39))) C (lt_A0 hN rfl) hay1 p1 rfl inA_X6 2 (by decide) q_260 rfl rfl dX6_keepAct_18 ?_
    refine z_aald C (lt_A (c := 11) hN rfl) hay2 hr2.1 4 rfl (39) (by omega) (by omega) (by decide) (hr2.2 39 (by omega)).2 dX6_keepAct_21 ?_
    have hay11 : zAt ad (i + 18 + 10 * (fun k9 => if k9 = 39 then xf 0 else xf (k9 + 1)) 39) (ad (i + 18 + 10 * (fun k9 => if k9 = 39 then xf 0 else xf (k9 + 1)) 39)) := rfl
    have pk := (hr2.2 39 (by omega)).1
    have pkw := p6 ((fun k9 => if k9 = 39 then xf 0 else xf (k9 + 1)) 39) pk
    obtain ⟨tk, zk, ok, rk, hzk, htk, hwk⟩ := id pkw
    refine z_aload_n C 0 dX6_keepAct_22 rfl ?_
    refine z_get (v := .ref (ad (i + 1))) C (lt_A0 hN rfl) hay1 p1 rfl inA_X6 0 (by decide) q_257 rfl rfl dX6_keepAct_23 ?_
    refine z_cV (As := [.ref (ad (i + 1))]) (rest := []) (ci := 10) C (c_X8_copyFrom l D A cs tt N ad _ (i + 18 + 10 * (fun k9 => if k9 = 39 then xf 0 else xf (k9 + 1)) 39) (by omega) pkw (i + 1) (by omega) p3 (by omega)) (by omega) hay11 hwk.1 rfl rfl mv_yX8_copyFrom q_420 hd_yX8_copyFrom (by decide) (Nat.le_of_ble_eq_true rfl) (by decide) dX6_keepAct_26 rfl (kV0 fun gc hc => ?_)
    obtain ⟨⟨t1, z1, o1, r1, hz1, ht1, hn1, hw1⟩, hf1⟩ := hc
    have hs2 : okState cs ad gc i (39) nz := okState.bef pk hSs hf1 ⟨_, _, _, _, hz1, ht1, hw1⟩
    have hwl : isWl cs ad gc (i + 18 + 10 * (fun k9 => if k9 = 39 then xf 0 else xf (k9 + 1)) 39) W := copy_wl hn1 hw1 (hX.2.1.mv (fun j j1 j2 => hfs j (by omega) (by omega)))
    refine z_aload_n C 0 dX6_keepAct_29 rfl ?_
    refine z_dup C dX6_keepAct_30 rfl ?_
    refine z_get (v := .int (zI (39))) C (lt_A0 hN rfl) hay1 hs2.1 rfl inA_X6 2 (by decide) q_260 rfl rfl dX6_keepAct_31 ?_
    refine z_iconst (z := 1) C dX6_keepAct_34 rfl ?_
    refine z_iadd C dX6_keepAct_35 ?_
    refine z_put (fs' := [.ref (ad (i + 1)), .ref (ad (i + 11)), .int (zI (39 + 1)), .ref (ad (i + 12)), .ref (ad (i + 13)), .ref (ad (i + 17))]) C (lt_A0 hN rfl) hay1 hs2.1 tyX6 tyX6_ok nmX6 rfl inA_X6 2 (by decide) q_260 rfl rfl rfl rfl (Nat.le_of_ble_eq_true rfl) rfl dX6_keepAct_36 (fun gy12 egy13 => ?_)
    have hgy14 := up_s egy13
    have hs3 : okState cs ad gy12 i (39 + 1) nz := okState.head (by omega) hs2 (fun j j1 => by rw [egy13, va_up_ne _ _ (by omega)]) hgy14
    have hci : gy12 i = stC ad i ((39 + 1 : Nat) : Int) := by rw [show (((39 + 1 : Nat)) : Int) = (39 : Int) + 1 by omega]; exact hgy14
    have hx3 : xKt cs ad gy12 i (39 + 1) (kpH na H W) W P nz nu nv nw rf := xKt.keep (gs := gs) (gc := gc) (H9 := (fun m => H (m + 1))) (k := 39) (f := fun k9 => (fun k9 => if k9 = 39 then xf 0 else xf (k9 + 1)) k9) hX (by omega) hfs hr2 hi2 hw2 hf1 hwl (fun j j1 => by rw [egy13, va_up_ne _ _ (by omega)]) hci (fun m hm => by unfold kpH; rw [if_pos hn40])
    have hkn : kpN na = 39 + 1 := by unfold kpN; rw [if_pos hn40]
    rw [hkn]
    have hs4 : okState cs ad gy12 i (((39 + 1 : Nat)) : Int) nz := by rw [show (((39 + 1 : Nat)) : Int) = (39 : Int) + 1 by omega]; exact hs3
    exact z_vret C hr hlk dX6_keepAct_39 (by decide) (by decide) ⟨rfl, rfl, rfl, hs4, hx3, fun j j1 => ((by rw [egy13, va_up_ne _ _ (by omega)] : gy12 j = gc j).trans (hf1 j (by omega))).trans (hfs j (by omega) (by omega))⟩

set_option maxRecDepth 100000 in
set_option maxHeartbeats 4000000 in
theorem c_qTake (l : Launch) (D : va_G) (A : Nat → Prop) (cs : Nat → ClassId) (tt : Nat) (N : Nat) (ad : Nat → Nat) (g : Nat → va_E) (i : Nat) (hN : i + 436 ≤ N) (na : Nat) (nz : Int) (H : Nat → WL9) (W : WL9) (P : Nat → PT9) (nu nv nw rf : Nat → Int) (hS : okState cs ad g i (na : Int) nz) (hX : xKt cs ad g i na H W P nz nu nv nw rf) (hac : 0 < na) : zM l yX6_takeBack cX6_takeBack 1 none ({ frames := 3, cells := 0, slots := 0, locals := 180 } : Room) D A cs tt N ad g [.ref (ad i)] (rV0 N ad fun g' => okState cs ad g' i ((na - 1 : Nat) : Int) nz ∧ xKt cs ad g' i (na - 1) (H) (H (na - 1)) P nz nu nv nw rf ∧ ∀ j, j < i ∨ i + 436 ≤ j → g' j = g j) := by
  obtain ⟨q1, q2, q3, ⟨qb, qf, q4, q5⟩, q6, ⟨qc, q7, q8⟩, q9, q10, qr, q11⟩ := id hS
  have hay1 : zAt ad (i) (ad i) := rfl
  have hay2 : zAt ad (i + 11) (ad (i + 11)) := rfl
  have hay3 : zAt ad (i + 12) (ad (i + 12)) := rfl
  have hay4 : zAt ad (i + 17) (ad (i + 17)) := rfl
  have hay5 : zAt ad (i + 1) (ad (i + 1)) := rfl
  have hay6 : zAt ad (i + 13) (ad (i + 13)) := rfl
  have hna := hS.2.1
  refine z_of (by decide) (Nat.le_of_ble_eq_true rfl) ?_
  intro p e s m below meth c C hr hlk hnm
  refine z_lv (lv' := [(0, .ref (ad i))]) [0] rfl ?_
  refine z_aload_n C 0 dX6_takeBack_0 rfl ?_
  refine z_get (v := .int (zI ((na : Int)))) C (lt_A0 hN rfl) hay1 q1 rfl inA_X6 2 (by decide) q_260 rfl rfl dX6_takeBack_1 ?_
  refine z_if_le (tgt := 33) C dX6_takeBack_4 (by decide) (by omega) (fun h => absurd h (by omega)) (fun _ => ?_)
  refine z_aload_n C 0 dX6_takeBack_7 rfl ?_
  refine z_dup C dX6_takeBack_8 rfl ?_
  refine z_get (v := .int (zI ((na : Int)))) C (lt_A0 hN rfl) hay1 q1 rfl inA_X6 2 (by decide) q_260 rfl rfl dX6_takeBack_9 ?_
  refine z_iconst (z := 1) C dX6_takeBack_12 rfl ?_
  refine z_isub C dX6_takeBack_13 ?_
  refine z_put (fs' := [.ref (ad (i + 1)), .ref (ad (i + 11)), .int (zI (((na : Int)) - 1)), .ref (ad (i + 12)), .ref (ad (i + 13)), .ref (ad (i + 17))]) C (lt_A0 hN rfl) hay1 q1 tyX6 tyX6_ok nmX6 rfl inA_X6 2 (by decide) q_260 rfl rfl rfl rfl (Nat.le_of_ble_eq_true rfl) rfl dX6_takeBack_14 (fun gy7 egy8 => ?_)
  have hgy9 := up_s egy8
  refine z_aload_n C 0 dX6_takeBack_17 rfl ?_
  refine z_get (v := .ref (ad (i + 1))) C (lt_A0 hN rfl) hay1 hgy9 rfl inA_X6 0 (by decide) q_257 rfl rfl dX6_takeBack_18 ?_
  refine z_aload_n C 0 dX6_takeBack_21 rfl ?_
  refine z_get (v := .ref (ad (i + 11))) C (lt_A0 hN rfl) hay1 hgy9 rfl inA_X6 1 (by decide) q_259 rfl rfl dX6_takeBack_22 ?_
  refine z_aload_n C 0 dX6_takeBack_25 rfl ?_
  refine z_get (v := .int (zI (((na : Int)) - 1))) C (lt_A0 hN rfl) hay1 hgy9 rfl inA_X6 2 (by decide) q_260 rfl rfl dX6_takeBack_26 ?_
  have hs2 : okState cs ad gy7 i ((na : Int) - 1) nz := okState.head (by omega) hS (fun j j1 => by rw [egy8, va_up_ne _ _ (by omega)]) hgy9
  have hcz : ((na - 1 : Nat) : Int) = (na : Int) - 1 := by omega
  have hx2 : xKt cs ad gy7 i (na - 1) H W P nz nu nv nw rf := xKt.head hX (by omega) (by omega) (fun j j1 => by rw [egy8, va_up_ne _ _ (by omega)]) (by rw [hcz]; exact hgy9)
  obtain ⟨p1, p2, p3, -, p6, -⟩ := id hs2
  obtain ⟨xb, xf, hxr, hxi, hxw⟩ := id hX.2.2.1
  have hrb : gy7 (i + 11) = rA (cs 4) 40 xb := (show gy7 (i + 11) = g (i + 11) by rw [egy8, va_up_ne _ _ (by omega)]).trans hxr.1
  refine z_aald C (lt_A (c := 11) hN rfl) hay2 hrb 4 rfl ((na - 1)) (by omega) (by omega) (by decide) (hxr.2 (na - 1) (by omega)).2 dX6_takeBack_29 ?_
  have hay10 : zAt ad (i + 18 + 10 * xf (na - 1)) (ad (i + 18 + 10 * xf (na - 1))) := rfl
  have pk := (hxr.2 (na - 1) (by omega)).1
  obtain ⟨tk, zk, ok, rk, hzk, htk, hwk⟩ := id p3
  refine z_cV (As := [.ref (ad (i + 18 + 10 * xf (na - 1)))]) (rest := []) (ci := 10) C (c_X8_copyFrom l D A cs tt N ad _ (i + 1) (by omega) p3 (i + 18 + 10 * xf (na - 1)) (by omega) (p6 (xf (na - 1)) (by omega)) (by omega)) (lt_A (c := 1) hN rfl) hay5 hwk.1 rfl rfl mv_yX8_copyFrom q_420 hd_yX8_copyFrom (by decide) (Nat.le_of_ble_eq_true rfl) (by decide) dX6_takeBack_30 rfl (kV0 fun gc hc => ?_)
  obtain ⟨⟨t1, z1, o1, r1, hz1, ht1, hn1, hw1⟩, hf1⟩ := hc
  have hs3 : okState cs ad gc i ((na : Int) - 1) nz := okState.now hs2 hf1 ⟨_, _, _, _, hz1, ht1, hw1⟩
  have hx3 := hx2.now (by omega) hf1 (copy_wl hn1 hw1 ((hxw (na - 1) (by omega)).mv (fun j j1 j2 => by rw [egy8, va_up_ne _ _ (by omega)])))
  rw [← hcz] at hs3
  exact z_vret C hr hlk dX6_takeBack_33 (by decide) (by decide) ⟨rfl, rfl, rfl, hs3, hx3, fun j j1 => by rw [hf1 _ (by omega)]; rw [egy8, va_up_ne _ _ (by omega)]⟩
end
