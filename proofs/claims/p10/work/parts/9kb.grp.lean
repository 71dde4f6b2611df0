section
-- 9kb.pq3.lean.txt
set_option maxRecDepth 100000 in
set_option maxHeartbeats 4000000 in
theorem c_pWet (l : Launch) (D : va_G) (A : Nat → Prop) (cs : Nat → ClassId) (tt : Nat) (N : Nat) (ad : Nat → Nat) (g : Nat → va_E) (a : Nat) (hN : a + 2 ≤ N) (sz ro : Int) (r : Nat → Int) (hz : 0 ≤ sz ∧ sz ≤ 12) (ha : isPack cs ad g a sz ro r) (n : Nat) (K : Nat → Int) (hn : sz = (n : Int)) (hC : ∀ j f, j < n → f < 7 → r (12 * f + j) = K (7 * j + f)) (hO : okP K n) (hro : 0 ≤ ro ∧ ro ≤ 1000000000) (z : Int) (lz : Nat) (hzl : z = (lz : Int)) (hlz : lz ≤ n) (z1 : Int) (hz1 : 0 ≤ z1 ∧ z1 ≤ 138500) : zM l yX3_wet cX3_wet 3 none ({ frames := 1, cells := 0, slots := 0, locals := 60 } : Room) D A cs tt N ad g [.ref (ad a), .int (zI (z)), .int (zI (z1))] (rV0 N ad fun g' => (∃ r' : Nat → Int, isPack cs ad g' a (sz) (wtR lz ro z1) r' ∧ ∀ y f, y < n → f < 7 → r' (12 * f + y) = (wtK K lz z1) (7 * y + f)) ∧ ∀ q, q ≠ a → q ≠ a + 1 → g' q = g q) := by
  have hay1 : zAt ad (a) (ad a) := rfl
  have hay2 : zAt ad (a + 1) (ad (a + 1)) := rfl
  have hn12 := hO.1
  refine z_of (by decide) (Nat.le_of_ble_eq_true rfl) ?_
  intro p e s m below meth c C hr hlk hnm
  refine z_lv (lv' := [(0, .ref (ad a)), (1, .int (zI (z))), (2, .int (zI (z1)))]) [0, 1, 2] rfl ?_
  by_cases hl0 : lz = 0
  · subst hl0
    have eK : wtK K 0 z1 = K := rfl
    have eR : wtR 0 ro z1 = ro + z1 := rfl
    refine z_iload_n C 1 dX3_wet_0 rfl ?_
    refine z_if_le (tgt := 22) C dX3_wet_1 (by decide) (by omega) (fun _ => ?_) (fun h => absurd h (by omega))
    refine z_aload_n C 0 dX3_wet_22 rfl ?_
    refine z_dup C dX3_wet_23 rfl ?_
    refine z_get (v := .int (zI (ro))) C (lt_A0 hN rfl) hay1 ha.1 rfl inA_X3 1 (by decide) q_159 rfl rfl dX3_wet_24 ?_
    refine z_iload_n C 2 dX3_wet_27 rfl ?_
    refine z_iadd C dX3_wet_28 ?_
    refine z_put (fs' := [.int (zI (sz)), .int (zI (ro + z1)), .ref (ad (a + 1))]) C (lt_A0 hN rfl) hay1 ha.1 tyX3 tyX3_ok nmX3 rfl inA_X3 1 (by decide) q_159 rfl rfl rfl rfl (Nat.le_of_ble_eq_true rfl) rfl dX3_wet_29 (fun gy3 egy4 => ?_)
    have hgy5 := up_s egy4
    have hgy6 := up_n egy4 ha.2 (ne_o (i := a) (c := 1) (d := 0) rfl)
    exact z_vret C hr hlk dX3_wet_32 (by decide) (by decide) ⟨rfl, rfl, rfl, ⟨_, ⟨hgy5, hgy6⟩, hC⟩, fun j j1 j2 => by rw [egy4, va_up_ne _ _ (by omega)]⟩
  · obtain ⟨j, rfl⟩ : ∃ j, lz = j + 1 := ⟨lz - 1, by omega⟩
    refine z_iload_n C 1 dX3_wet_0 rfl ?_
    refine z_if_le (tgt := 22) C dX3_wet_1 (by decide) (by omega) (fun h => absurd h (by omega)) (fun _ => ?_)
    refine z_aload_n C 0 dX3_wet_4 rfl ?_
    refine z_get (v := .ref (ad (a + 1))) C (lt_A0 hN rfl) hay1 ha.1 rfl inA_X3 2 (by decide) q_162 rfl rfl dX3_wet_5 ?_
    refine z_bipush (z := 24) C dX3_wet_8 (by decide) ?_
    refine z_iload_n C 1 dX3_wet_10 rfl ?_
    refine z_iadd C dX3_wet_11 ?_
    refine z_iconst (z := 1) C dX3_wet_12 rfl ?_
    refine z_isub C dX3_wet_13 ?_
    refine z_dup2 C dX3_wet_14 rfl rfl ?_
    refine z_iald C (lt_A (c := 1) hN rfl) hay2 ha.2 (24 + j) (by omega) (by omega) (by decide) dX3_wet_15 ?_
    obtain ⟨⟨qy70, qy71, qy72, qy73, qy74, qy75, qy76⟩, qy79⟩ := hO.ly (l := j) (by omega)
    rw [show r (24 + j) = K (7 * j + 2) from hC j 2 (by omega) (by decide)]
    refine z_iload_n C 2 dX3_wet_16 rfl ?_
    refine z_iadd C dX3_wet_17 ?_
    refine z_iast C (lt_A (c := 1) hN rfl) hay2 ha.2 (24 + j) (by omega) (by omega) (by decide) dX3_wet_18 (fun gy8 egy9 => ?_)
    have hgy10 := up_s egy9
    obtain ⟨ry11, hvy12⟩ : ∃ rZ9 : Nat → Int, rZ9 = uZ r (24 + j) ((K (7 * j + 2)) + z1) := ⟨_, rfl⟩
    rw [← hvy12] at hgy10
    obtain ⟨Ky13, hKy14⟩ : ∃ KZ9 : Nat → Int, KZ9 = uZ K (7 * j + 2) ((K (7 * j + 2)) + z1) := ⟨_, rfl⟩
    have hCy15 := lay_u hC hvy12 hKy14 (by omega) (by omega) (by omega) (by decide)
    refine z_goto (tgt := 32) C dX3_wet_19 (by decide) ?_
    have hKZ : Ky13 = wtK K (j + 1) z1 := hKy14.trans (by unfold wtK; rw [if_neg (by omega)]; rfl)
    rw [hKZ] at hCy15
    have hgy16 := up_n egy9 ha.1 (ne_o (i := a) (c := 0) (d := 1) rfl)
    exact z_vret C hr hlk dX3_wet_32 (by decide) (by decide) ⟨rfl, rfl, rfl, ⟨_, ⟨hgy16, hgy10⟩, hCy15⟩, fun j j1 j2 => by rw [egy9, va_up_ne _ _ (by omega)]⟩

set_option maxRecDepth 100000 in
set_option maxHeartbeats 4000000 in
theorem c_pFreeze (l : Launch) (D : va_G) (A : Nat → Prop) (cs : Nat → ClassId) (tt : Nat) (N : Nat) (ad : Nat → Nat) (g : Nat → va_E) (a : Nat) (hN : a + 2 ≤ N) (sz ro : Int) (r : Nat → Int) (hz : 0 ≤ sz ∧ sz ≤ 12) (ha : isPack cs ad g a sz ro r) (n : Nat) (K : Nat → Int) (hn : sz = (n : Int)) (hC : ∀ j f, j < n → f < 7 → r (12 * f + j) = K (7 * j + f)) (hO : okP K n) (hro : 0 ≤ ro ∧ ro ≤ 1000000000) (j : Nat) (hj : j < n) : zM l yX3_freeze cX3_freeze 5 none ({ frames := 2, cells := 0, slots := 0, locals := 120 } : Room) D A cs tt N ad g [.ref (ad a), .int (zI ((j : Int)))] (rV0 N ad fun g' => (∃ r' : Nat → Int, isPack cs ad g' a (sz) (ro) r' ∧ ∀ y f, y < n → f < 7 → r' (12 * f + y) = (frZ K j) (7 * y + f)) ∧ ∀ q, q ≠ a → q ≠ a + 1 → g' q = g q) := by
  have hay1 : zAt ad (a) (ad a) := rfl
  have hay2 : zAt ad (a + 1) (ad (a + 1)) := rfl
  have hn12 := hO.1
  refine z_of (by decide) (Nat.le_of_ble_eq_true rfl) ?_
  intro p e s m below meth c C hr hlk hnm
  refine z_lv (lv' := [(0, .ref (ad a)), (1, .int (zI ((j : Int))))]) [0, 1] rfl ?_
  refine z_aload_n C 0 dX3_freeze_0 rfl ?_
  refine z_get (v := .ref (ad (a + 1))) C (lt_A0 hN rfl) hay1 ha.1 rfl inA_X3 2 (by decide) q_162 rfl rfl dX3_freeze_1 ?_
  refine z_bipush (z := 12) C dX3_freeze_4 (by decide) ?_
  refine z_iload_n C 1 dX3_freeze_6 rfl ?_
  refine z_iadd C dX3_freeze_7 ?_
  refine z_iald C (lt_A (c := 1) hN rfl) hay2 ha.2 (12 + j) (by omega) (by omega) (by decide) dX3_freeze_8 ?_
  obtain ⟨⟨qy30, qy31, qy32, qy33, qy34, qy35, qy36⟩, qy39⟩ := hO.ly (l := j) (by omega)
  rw [show r (12 + j) = K (7 * j + 1) from hC j 1 (by omega) (by decide)]
  refine z_istore_n (lv' := [(2, .int (zI (K (7 * j + 1)))), (0, .ref (ad a)), (1, .int (zI ((j : Int))))]) C dX3_freeze_9 rfl (by decide) rfl ?_
  refine z_aload_n C 1 dX3_freeze_10 rfl ?_
  refine z_get (v := .ref (ad (a + 1))) C (lt_A0 hN rfl) hay1 ha.1 rfl inA_X3 2 (by decide) q_162 rfl rfl dX3_freeze_11 ?_
  refine z_bipush (z := 48) C dX3_freeze_14 (by decide) ?_
  refine z_iload_n C 2 dX3_freeze_16 rfl ?_
  refine z_iadd C dX3_freeze_17 ?_
  refine z_iald C (lt_A (c := 1) hN rfl) hay2 ha.2 (48 + j) (by omega) (by omega) (by decide) dX3_freeze_18 ?_
  rw [show r (48 + j) = K (7 * j + 4) from hC j 4 (by omega) (by decide)]
  refine z_ineg C dX3_freeze_19 ?_
  refine z_istore_n (lv' := [(3, .int (zI (-(K (7 * j + 4))))), (2, .int (zI (K (7 * j + 1)))), (0, .ref (ad a)), (1, .int (zI ((j : Int))))]) C dX3_freeze_20 rfl (by decide) rfl ?_
  refine z_iload_n C 1 dX3_freeze_21 rfl ?_
  refine z_i2l C dX3_freeze_22 (by omega) ?_
  refine z_iload_n C 0 dX3_freeze_23 rfl ?_
  refine z_i2l C dX3_freeze_24 (by omega) ?_
  refine z_lmul C dX3_freeze_25 ?_
  have hmb := mulc (a := K (7 * j + 1)) (b := -(K (7 * j + 4))) (A := 138500) (B := 300) (by omega) (by omega)
  refine z_ldc2 (z := 100) C dX3_freeze_26 q_501 (by decide) ?_
  refine z_cSN (As := [.long (zJ ((K (7 * j + 1)) * (-(K (7 * j + 4))))), .long (zJ (100))]) (rest := []) C (c_pPart l D A cs tt N ad _ ((K (7 * j + 1)) * (-(K (7 * j + 4)))) (100) (by omega) (by omega)) ms_yX9_part n_466 hd_yX9_part (by decide) (Nat.le_of_ble_eq_true rfl) (by decide) dX3_freeze_29 rfl (kI0 fun vy4 gvy4 hvy4 => ?_)
  obtain ⟨rfl, rfl⟩ := hvy4
  have htq := tdq (a := K (7 * j + 1) * -(K (7 * j + 4))) (k := 100) (q := 415500) (by decide) (by omega) (by omega)
  refine z_aload_n C 2 dX3_freeze_32 rfl ?_
  refine z_get (v := .ref (ad (a + 1))) C (lt_A0 hN rfl) hay1 ha.1 rfl inA_X3 2 (by decide) q_162 rfl rfl dX3_freeze_33 ?_
  refine z_bipush (z := 24) C dX3_freeze_36 (by decide) ?_
  refine z_iload_n C 3 dX3_freeze_38 rfl ?_
  refine z_iadd C dX3_freeze_39 ?_
  refine z_iald C (lt_A (c := 1) hN rfl) hay2 ha.2 (24 + j) (by omega) (by omega) (by decide) dX3_freeze_40 ?_
  rw [show r (24 + j) = K (7 * j + 2) from hC j 2 (by omega) (by decide)]
  refine z_mmin C q_483 q_473 q_20 q_474 (by omega) (by omega) (by decide) (Nat.le_of_ble_eq_true rfl) (by decide) (by decide) dX3_freeze_41 ?_
  obtain ⟨xy5, exy6, hxy7⟩ := mm_min (((K (7 * j + 1)) * (-(K (7 * j + 4)))).tdiv (100)) (K (7 * j + 2))
  rw [exy6]
  refine z_istore (lv' := [(4, .int (zI (xy5))), (3, .int (zI (-(K (7 * j + 4))))), (2, .int (zI (K (7 * j + 1)))), (0, .ref (ad a)), (1, .int (zI ((j : Int))))]) C dX3_freeze_44 (by decide) rfl ?_
  refine z_aload_n C 3 dX3_freeze_46 rfl ?_
  refine z_get (v := .ref (ad (a + 1))) C (lt_A0 hN rfl) hay1 ha.1 rfl inA_X3 2 (by decide) q_162 rfl rfl dX3_freeze_47 ?_
  refine z_bipush (z := 12) C dX3_freeze_50 (by decide) ?_
  refine z_iload_n C 4 dX3_freeze_52 rfl ?_
  refine z_iadd C dX3_freeze_53 ?_
  refine z_dup2 C dX3_freeze_54 rfl rfl ?_
  refine z_iald C (lt_A (c := 1) hN rfl) hay2 ha.2 (12 + j) (by omega) (by omega) (by decide) dX3_freeze_55 ?_
  rw [show r (12 + j) = K (7 * j + 1) from hC j 1 (by omega) (by decide)]
  refine z_iload C 0 dX3_freeze_56 rfl ?_
  refine z_iadd C dX3_freeze_58 ?_
  refine z_iast C (lt_A (c := 1) hN rfl) hay2 ha.2 (12 + j) (by omega) (by omega) (by decide) dX3_freeze_59 (fun gy8 egy9 => ?_)
  have hgy10 := up_s egy9
  obtain ⟨ry11, hvy12⟩ : ∃ rZ9 : Nat → Int, rZ9 = uZ r (12 + j) ((K (7 * j + 1)) + xy5) := ⟨_, rfl⟩
  rw [← hvy12] at hgy10
  obtain ⟨Ky13, hKy14⟩ : ∃ KZ9 : Nat → Int, KZ9 = uZ K (7 * j + 1) ((K (7 * j + 1)) + xy5) := ⟨_, rfl⟩
  have hCy15 := lay_u hC hvy12 hKy14 (by omega) (by omega) (by omega) (by decide)
  refine z_aload_n C 3 dX3_freeze_60 rfl ?_
  have hgy16 := up_n egy9 ha.1 (ne_o (i := a) (c := 0) (d := 1) rfl)
  refine z_get (v := .ref (ad (a + 1))) C (lt_A0 hN rfl) hay1 hgy16 rfl inA_X3 2 (by decide) q_162 rfl rfl dX3_freeze_61 ?_
  refine z_bipush (z := 24) C dX3_freeze_64 (by decide) ?_
  refine z_iload_n C 4 dX3_freeze_66 rfl ?_
  refine z_iadd C dX3_freeze_67 ?_
  refine z_dup2 C dX3_freeze_68 rfl rfl ?_
  refine z_iald C (lt_A (c := 1) hN rfl) hay2 hgy10 (24 + j) (by omega) (by omega) (by decide) dX3_freeze_69 ?_
  rw [show ry11 (24 + j) = K (7 * j + 2) from ((hCy15 j 2 (by omega) (by decide)).trans ((congrFun hKy14 _).trans (uZ_n _ _ (by omega))))]
  refine z_iload C 0 dX3_freeze_70 rfl ?_
  refine z_isub C dX3_freeze_72 ?_
  refine z_iast C (lt_A (c := 1) hN rfl) hay2 hgy10 (24 + j) (by omega) (by omega) (by decide) dX3_freeze_73 (fun gy17 egy18 => ?_)
  have hgy19 := up_s egy18
  obtain ⟨ry20, hvy21⟩ : ∃ rZ9 : Nat → Int, rZ9 = uZ ry11 (24 + j) ((K (7 * j + 2)) - xy5) := ⟨_, rfl⟩
  rw [← hvy21] at hgy19
  obtain ⟨Ky22, hKy23⟩ : ∃ KZ9 : Nat → Int, KZ9 = uZ Ky13 (7 * j + 2) ((K (7 * j + 2)) - xy5) := ⟨_, rfl⟩
  have hCy24 := lay_u hCy15 hvy21 hKy23 (by omega) (by omega) (by omega) (by decide)
  refine z_aload_n C 3 dX3_freeze_74 rfl ?_
  have hgy25 := up_n egy18 hgy16 (ne_o (i := a) (c := 0) (d := 1) rfl)
  refine z_get (v := .ref (ad (a + 1))) C (lt_A0 hN rfl) hay1 hgy25 rfl inA_X3 2 (by decide) q_162 rfl rfl dX3_freeze_75 ?_
  refine z_bipush (z := 24) C dX3_freeze_78 (by decide) ?_
  refine z_iload_n C 4 dX3_freeze_80 rfl ?_
  refine z_iadd C dX3_freeze_81 ?_
  refine z_iald C (lt_A (c := 1) hN rfl) hay2 hgy19 (24 + j) (by omega) (by omega) (by decide) dX3_freeze_82 ?_
  rw [show ry20 (24 + j) = (K (7 * j + 2)) - xy5 from ((hCy24 j 2 (by omega) (by decide)).trans ((congrFun hKy23 _).trans (uZ_s _ _ _)))]
  refine z_if_le (tgt := 99) C dX3_freeze_83 (by decide) (by omega) (fun hby26 => ?_) (fun hby26 => ?_)
  · refine z_aload_n C 3 dX3_freeze_99 rfl ?_
    refine z_get (v := .ref (ad (a + 1))) C (lt_A0 hN rfl) hay1 hgy25 rfl inA_X3 2 (by decide) q_162 rfl rfl dX3_freeze_100 ?_
    refine z_bipush (z := 48) C dX3_freeze_103 (by decide) ?_
    refine z_iload_n C 4 dX3_freeze_105 rfl ?_
    refine z_iadd C dX3_freeze_106 ?_
    refine z_ldc2 (z := 100) C dX3_freeze_107 q_501 (by decide) ?_
    refine z_iload C 0 dX3_freeze_110 rfl ?_
    refine z_i2l C dX3_freeze_112 (by omega) ?_
    refine z_lmul C dX3_freeze_113 ?_
    refine z_iload_n C 2 dX3_freeze_114 rfl ?_
    refine z_i2l C dX3_freeze_115 (by omega) ?_
    refine z_cSN (As := [.long (zJ (100 * xy5)), .long (zJ (K (7 * j + 1)))]) (rest := [.int (zI (48 + ((j : Int)))), .ref (ad (a + 1))]) C (c_pPart l D A cs tt N ad _ (100 * xy5) (K (7 * j + 1)) (by omega) (by omega)) ms_yX9_part n_466 hd_yX9_part (by decide) (Nat.le_of_ble_eq_true rfl) (by decide) dX3_freeze_116 rfl (kI0 fun vy27 gvy27 hvy27 => ?_)
    obtain ⟨rfl, rfl⟩ := hvy27
    have htr := tdq (a := 100 * xy5) (k := K (7 * j + 1)) (q := 13850000) (by omega) (by omega) (by omega)
    refine z_iload_n C 1 dX3_freeze_119 rfl ?_
    refine z_isub C dX3_freeze_120 ?_
    refine z_iconst (z := 0) C dX3_freeze_121 rfl ?_
    refine z_mmin C q_483 q_473 q_20 q_474 (by omega) (by omega) (by decide) (Nat.le_of_ble_eq_true rfl) (by decide) (by decide) dX3_freeze_122 ?_
    obtain ⟨xy28, exy29, hxy30⟩ := mm_min (((100 * xy5).tdiv (K (7 * j + 1))) - (-(K (7 * j + 4)))) (0)
    rw [exy29]
    refine z_iast C (lt_A (c := 1) hN rfl) hay2 hgy19 (48 + j) (by omega) (by omega) (by decide) dX3_freeze_125 (fun gy31 egy32 => ?_)
    have hgy33 := up_s egy32
    obtain ⟨ry34, hvy35⟩ : ∃ rZ9 : Nat → Int, rZ9 = uZ ry20 (48 + j) (xy28) := ⟨_, rfl⟩
    rw [← hvy35] at hgy33
    obtain ⟨Ky36, hKy37⟩ : ∃ KZ9 : Nat → Int, KZ9 = uZ Ky22 (7 * j + 4) (xy28) := ⟨_, rfl⟩
    have hCy38 := lay_u hCy24 hvy35 hKy37 (by omega) (by omega) (by omega) (by decide)
    refine z_iload C 0 dX3_freeze_126 rfl ?_
    refine z_if_le (tgt := 140) C dX3_freeze_128 (by decide) (by omega) (fun hby39 => ?_) (fun hby39 => ?_)
    · have hfz : fzN K j = xy5 := by unfold fzN mnZ; split <;> omega
      have hKZ : Ky36 = frZ K j := by
        funext q9
        rw [hKy37, hKy23, hKy14]
        unfold frZ fzT mnZ uZ
        rw [hfz]
        (repeat' split) <;> first | rfl | omega
      rw [hKZ] at hCy38
      have hgy40 := up_n egy32 hgy25 (ne_o (i := a) (c := 0) (d := 1) rfl)
      exact z_vret C hr hlk dX3_freeze_140 (by decide) (by decide) ⟨rfl, rfl, rfl, ⟨_, ⟨hgy40, hgy33⟩, hCy38⟩, fun j j1 j2 => by rw [egy32, va_up_ne _ _ (by omega)]; rw [egy18, va_up_ne _ _ (by omega)]; rw [egy9, va_up_ne _ _ (by omega)]⟩
    · refine z_aload_n C 3 dX3_freeze_131 rfl ?_
      have hgy41 := up_n egy32 hgy25 (ne_o (i := a) (c := 0) (d := 1) rfl)
      refine z_get (v := .ref (ad (a + 1))) C (lt_A0 hN rfl) hay1 hgy41 rfl inA_X3 2 (by decide) q_162 rfl rfl dX3_freeze_132 ?_
      refine z_iconst (z := 0) C dX3_freeze_135 rfl ?_
      refine z_iload_n C 4 dX3_freeze_136 rfl ?_
      refine z_iadd C dX3_freeze_137 ?_
      refine z_iconst (z := 3) C dX3_freeze_138 rfl ?_
      refine z_iast C (lt_A (c := 1) hN rfl) hay2 hgy33 (0 + j) (by omega) (by omega) (by decide) dX3_freeze_139 (fun gy42 egy43 => ?_)
      have hgy44 := up_s egy43
      obtain ⟨ry45, hvy46⟩ : ∃ rZ9 : Nat → Int, rZ9 = uZ ry34 (0 + j) (3) := ⟨_, rfl⟩
      rw [← hvy46] at hgy44
      obtain ⟨Ky47, hKy48⟩ : ∃ KZ9 : Nat → Int, KZ9 = uZ Ky36 (7 * j + 0) (3) := ⟨_, rfl⟩
      have hCy49 := lay_u hCy38 hvy46 hKy48 (by omega) (by omega) (by omega) (by decide)
      have hfz : fzN K j = xy5 := by unfold fzN mnZ; split <;> omega
      have hKZ : Ky47 = frZ K j := by
        funext q9
        rw [hKy48, hKy37, hKy23, hKy14]
        unfold frZ fzT mnZ uZ
        rw [hfz]
        (repeat' split) <;> first | rfl | omega
      rw [hKZ] at hCy49
      have hgy50 := up_n egy43 hgy41 (ne_o (i := a) (c := 0) (d := 1) rfl)
      exact z_vret C hr hlk dX3_freeze_140 (by decide) (by decide) ⟨rfl, rfl, rfl, ⟨_, ⟨hgy50, hgy44⟩, hCy49⟩, fun j j1 j2 => by rw [egy43, va_up_ne _ _ (by omega)]; rw [egy32, va_up_ne _ _ (by omega)]; rw [egy18, va_up_ne _ _ (by omega)]; rw [egy9, va_up_ne _ _ (by omega)]⟩
  · refine z_aload_n C 3 dX3_freeze_86 rfl ?_
    refine z_get (v := .ref (ad (a + 1))) C (lt_A0 hN rfl) hay1 hgy25 rfl inA_X3 2 (by decide) q_162 rfl rfl dX3_freeze_87 ?_
    refine z_bipush (z := 48) C dX3_freeze_90 (by decide) ?_
    refine z_iload_n C 4 dX3_freeze_92 rfl ?_
    refine z_iadd C dX3_freeze_93 ?_
    refine z_iconst (z := 0) C dX3_freeze_94 rfl ?_
    refine z_iast C (lt_A (c := 1) hN rfl) hay2 hgy19 (48 + j) (by omega) (by omega) (by decide) dX3_freeze_95 (fun gy51 egy52 => ?_)
    have hgy53 := up_s egy52
    obtain ⟨ry54, hvy55⟩ : ∃ rZ9 : Nat → Int, rZ9 = uZ ry20 (48 + j) (0) := ⟨_, rfl⟩
    rw [← hvy55] at hgy53
    obtain ⟨Ky56, hKy57⟩ : ∃ KZ9 : Nat → Int, KZ9 = uZ Ky22 (7 * j + 4) (0) := ⟨_, rfl⟩
    have hCy58 := lay_u hCy24 hvy55 hKy57 (by omega) (by omega) (by omega) (by decide)
    refine z_goto (tgt := 126) C dX3_freeze_96 (by decide) ?_
    refine z_iload C 0 dX3_freeze_126 rfl ?_
    refine z_if_le (tgt := 140) C dX3_freeze_128 (by decide) (by omega) (fun hby59 => ?_) (fun hby59 => ?_)
    · have hfz : fzN K j = xy5 := by unfold fzN mnZ; split <;> omega
      have hKZ : Ky56 = frZ K j := by
        funext q9
        rw [hKy57, hKy23, hKy14]
        unfold frZ fzT mnZ uZ
        rw [hfz]
        (repeat' split) <;> first | rfl | omega
      rw [hKZ] at hCy58
      have hgy60 := up_n egy52 hgy25 (ne_o (i := a) (c := 0) (d := 1) rfl)
      exact z_vret C hr hlk dX3_freeze_140 (by decide) (by decide) ⟨rfl, rfl, rfl, ⟨_, ⟨hgy60, hgy53⟩, hCy58⟩, fun j j1 j2 => by rw [egy52, va_up_ne _ _ (by omega)]; rw [egy18, va_up_ne _ _ (by omega)]; rw [egy9, va_up_ne _ _ (by omega)]⟩
    · refine z_aload_n C 3 dX3_freeze_131 rfl ?_
      have hgy61 := up_n egy52 hgy25 (ne_o (i := a) (c := 0) (d := 1) rfl)
      refine z_get (v := .ref (ad (a + 1))) C (lt_A0 hN rfl) hay1 hgy61 rfl inA_X3 2 (by decide) q_162 rfl rfl dX3_freeze_132 ?_
      refine z_iconst (z := 0) C dX3_freeze_135 rfl ?_
      refine z_iload_n C 4 dX3_freeze_136 rfl ?_
      refine z_iadd C dX3_freeze_137 ?_
      refine z_iconst (z := 3) C dX3_freeze_138 rfl ?_
      refine z_iast C (lt_A (c := 1) hN rfl) hay2 hgy53 (0 + j) (by omega) (by omega) (by decide) dX3_freeze_139 (fun gy62 egy63 => ?_)
      have hgy64 := up_s egy63
      obtain ⟨ry65, hvy66⟩ : ∃ rZ9 : Nat → Int, rZ9 = uZ ry54 (0 + j) (3) := ⟨_, rfl⟩
      rw [← hvy66] at hgy64
      obtain ⟨Ky67, hKy68⟩ : ∃ KZ9 : Nat → Int, KZ9 = uZ Ky56 (7 * j + 0) (3) := ⟨_, rfl⟩
      have hCy69 := lay_u hCy58 hvy66 hKy68 (by omega) (by omega) (by omega) (by decide)
      have hfz : fzN K j = xy5 := by unfold fzN mnZ; split <;> omega
      have hKZ : Ky67 = frZ K j := by
        funext q9
        rw [hKy68, hKy57, hKy23, hKy14]
        unfold frZ fzT mnZ uZ
        rw [hfz]
        (repeat' split) <;> first | rfl | omega
      rw [hKZ] at hCy69
      have hgy70 := up_n egy63 hgy61 (ne_o (i := a) (c := 0) (d := 1) rfl)
      exact z_vret C hr hlk dX3_freeze_140 (by decide) (by decide) ⟨rfl, rfl, rfl, ⟨_, ⟨hgy70, hgy64⟩, hCy69⟩, fun j j1 j2 => by rw [egy63, va_up_ne _ _ (by omega)]; rw [egy52, va_up_ne _ _ (by omega)]; rw [egy18, va_up_ne _ _ (by omega)]; rw [egy9, va_up_ne _ _ (by omega)]⟩

set_option maxRecDepth 100000 in
set_option maxHeartbeats 4000000 in
theorem c_pCool (l : Launch) (D : va_G) (A : Nat → Prop) (cs : Nat → ClassId) (tt : Nat) (N : Nat) (ad : Nat → Nat) (g : Nat → va_E) (a : Nat) (hN : a + 2 ≤ N) (sz ro : Int) (r : Nat → Int) (hz : 0 ≤ sz ∧ sz ≤ 12) (ha : isPack cs ad g a sz ro r) (n : Nat) (K : Nat → Int) (hn : sz = (n : Int)) (hC : ∀ j f, j < n → f < 7 → r (12 * f + j) = K (7 * j + f)) (hO : okP K n) (hro : 0 ≤ ro ∧ ro ≤ 1000000000) (z : Int) (hz9 : -300 ≤ z ∧ z ≤ 0) : zM l yX3_cool cX3_cool 3 none ({ frames := 1, cells := 0, slots := 0, locals := 60 } : Room) D A cs tt N ad g [.ref (ad a), .int (zI (z))] (rV0 N ad fun g' => (∃ r' : Nat → Int, isPack cs ad g' a (sz) (ro) r' ∧ ∀ y f, y < n → f < 7 → r' (12 * f + y) = (clK K n z) (7 * y + f)) ∧ ∀ q, q ≠ a → q ≠ a + 1 → g' q = g q) := by
  have hay1 : zAt ad (a) (ad a) := rfl
  have hay2 : zAt ad (a + 1) (ad (a + 1)) := rfl
  have hn12 := hO.1
  refine z_of (by decide) (Nat.le_of_ble_eq_true rfl) ?_
  intro p e s m below meth c C hr hlk hnm
  refine z_lv (lv' := [(0, .ref (ad a)), (1, .int (zI (z)))]) [0, 1] rfl ?_
  by_cases hn0 : n = 0
  · subst hn0
    refine z_aload_n C 0 dX3_cool_0 rfl ?_
    refine z_get (v := .int (zI (sz))) C (lt_A0 hN rfl) hay1 ha.1 rfl inA_X3 0 (by decide) q_154 rfl rfl dX3_cool_1 ?_
    refine z_if_le (tgt := 36) C dX3_cool_4 (by decide) (by omega) (fun _ => ?_) (fun h => absurd h (by omega))
    exact z_vret C hr hlk dX3_cool_36 (by decide) (by decide) ⟨rfl, rfl, rfl, ⟨_, ⟨ha.1, ha.2⟩, hC⟩, fun j j1 j2 => by rfl⟩
  · obtain ⟨j, rfl⟩ : ∃ j, n = j + 1 := ⟨n - 1, by omega⟩
    refine z_aload_n C 0 dX3_cool_0 rfl ?_
    refine z_get (v := .int (zI (sz))) C (lt_A0 hN rfl) hay1 ha.1 rfl inA_X3 0 (by decide) q_154 rfl rfl dX3_cool_1 ?_
    refine z_if_le (tgt := 36) C dX3_cool_4 (by decide) (by omega) (fun h => absurd h (by omega)) (fun _ => ?_)
    refine z_bipush (z := 48) C dX3_cool_7 (by decide) ?_
    refine z_aload_n C 0 dX3_cool_9 rfl ?_
    refine z_get (v := .int (zI (sz))) C (lt_A0 hN rfl) hay1 ha.1 rfl inA_X3 0 (by decide) q_154 rfl rfl dX3_cool_10 ?_
    refine z_iadd C dX3_cool_13 ?_
    refine z_iconst (z := 1) C dX3_cool_14 rfl ?_
    refine z_isub C dX3_cool_15 ?_
    refine z_istore_n (lv' := [(2, .int (zI ((48 + sz) - 1))), (0, .ref (ad a)), (1, .int (zI (z)))]) C dX3_cool_16 rfl (by decide) rfl ?_
    refine z_aload_n C 1 dX3_cool_17 rfl ?_
    refine z_get (v := .ref (ad (a + 1))) C (lt_A0 hN rfl) hay1 ha.1 rfl inA_X3 2 (by decide) q_162 rfl rfl dX3_cool_18 ?_
    refine z_iload_n C 0 dX3_cool_21 rfl ?_
    refine z_dup2 C dX3_cool_22 rfl rfl ?_
    refine z_iald C (lt_A (c := 1) hN rfl) hay2 ha.2 (48 + j) (by omega) (by omega) (by decide) dX3_cool_23 ?_
    obtain ⟨⟨qy30, qy31, qy32, qy33, qy34, qy35, qy36⟩, qy39⟩ := hO.ly (l := j) (by omega)
    rw [show r (48 + j) = K (7 * j + 4) from hC j 4 (by omega) (by decide)]
    refine z_iload_n C 2 dX3_cool_24 rfl ?_
    refine z_aload_n C 1 dX3_cool_25 rfl ?_
    refine z_get (v := .ref (ad (a + 1))) C (lt_A0 hN rfl) hay1 ha.1 rfl inA_X3 2 (by decide) q_162 rfl rfl dX3_cool_26 ?_
    refine z_iload_n C 0 dX3_cool_29 rfl ?_
    refine z_iald C (lt_A (c := 1) hN rfl) hay2 ha.2 (48 + j) (by omega) (by omega) (by decide) dX3_cool_30 ?_
    rw [show r (48 + j) = K (7 * j + 4) from hC j 4 (by omega) (by decide)]
    refine z_isub C dX3_cool_31 ?_
    refine z_iconst (z := 4) C dX3_cool_32 rfl ?_
    refine z_idiv C dX3_cool_33 (by omega) (by omega) (by omega) ?_
    have htq := tdb4 (a := z - (K (7 * j + 4))) (by omega)
    refine z_iadd C dX3_cool_34 ?_
    refine z_iast C (lt_A (c := 1) hN rfl) hay2 ha.2 (48 + j) (by omega) (by omega) (by decide) dX3_cool_35 (fun gy4 egy5 => ?_)
    have hgy6 := up_s egy5
    obtain ⟨ry7, hvy8⟩ : ∃ rZ9 : Nat → Int, rZ9 = uZ r (48 + j) ((K (7 * j + 4)) + ((z - (K (7 * j + 4))).tdiv 4)) := ⟨_, rfl⟩
    rw [← hvy8] at hgy6
    obtain ⟨Ky9, hKy10⟩ : ∃ KZ9 : Nat → Int, KZ9 = uZ K (7 * j + 4) ((K (7 * j + 4)) + ((z - (K (7 * j + 4))).tdiv 4)) := ⟨_, rfl⟩
    have hCy11 := lay_u hC hvy8 hKy10 (by omega) (by omega) (by omega) (by decide)
    have hKZ : Ky9 = clK K (j + 1) z := hKy10.trans (by unfold clK; rw [if_neg (by omega)]; rfl)
    rw [hKZ] at hCy11
    have hgy12 := up_n egy5 ha.1 (ne_o (i := a) (c := 0) (d := 1) rfl)
    exact z_vret C hr hlk dX3_cool_36 (by decide) (by decide) ⟨rfl, rfl, rfl, ⟨_, ⟨hgy12, hgy6⟩, hCy11⟩, fun j j1 j2 => by rw [egy5, va_up_ne _ _ (by omega)]⟩

set_option maxRecDepth 100000 in
set_option maxHeartbeats 4000000 in
theorem c_pSink (l : Launch) (D : va_G) (A : Nat → Prop) (cs : Nat → ClassId) (tt : Nat) (N : Nat) (ad : Nat → Nat) (g : Nat → va_E) (a : Nat) (hN : a + 2 ≤ N) (sz ro : Int) (r : Nat → Int) (hz : 0 ≤ sz ∧ sz ≤ 12) (ha : isPack cs ad g a sz ro r) (n : Nat) (K : Nat → Int) (hn : sz = (n : Int)) (hC : ∀ j f, j < n → f < 7 → r (12 * f + j) = K (7 * j + f)) (hO : okP K n) (b : Nat) (hNb : b + 7 ≤ N) (sl ho ua : Int) (st op ai fa mu tb : Nat → Int) (hb : isPlan cs ad g b sl ho ua st op ai fa mu tb) (ht : okTb tb) (hab : b + 7 ≤ a ∨ a + 2 ≤ b) (hro : 0 ≤ ro ∧ ro ≤ 900000000) : zM l yX3_freezeAndSink cX3_freezeAndSink 5 none ({ frames := 3, cells := 0, slots := 0, locals := 180 } : Room) D A cs tt N ad g [.ref (ad a), .ref (ad b)] (rV0 N ad fun g' => (∃ r' : Nat → Int, isPack cs ad g' a (sz) ((skZ tb n K ro).2) r' ∧ ∀ y f, y < n → f < 7 → r' (12 * f + y) = ((skZ tb n K ro).1) (7 * y + f)) ∧ ∀ q, q ≠ a → q ≠ a + 1 → g' q = g q) := by
  have hay1 : zAt ad (a) (ad a) := rfl
  have hay2 : zAt ad (a + 1) (ad (a + 1)) := rfl
  have hay3 : zAt ad (b) (ad b) := rfl
  have hay4 : zAt ad (b + 1) (ad (b + 1)) := rfl
  have hay5 : zAt ad (b + 2) (ad (b + 2)) := rfl
  have hay6 : zAt ad (b + 3) (ad (b + 3)) := rfl
  have hay7 : zAt ad (b + 4) (ad (b + 4)) := rfl
  have hay8 : zAt ad (b + 5) (ad (b + 5)) := rfl
  have hay9 : zAt ad (b + 6) (ad (b + 6)) := rfl
  have hn12 := hO.1
  refine z_of (by decide) (Nat.le_of_ble_eq_true rfl) ?_
  intro p e s m below meth c C hr hlk hnm
  refine z_lv (lv' := [(0, .ref (ad a)), (1, .ref (ad b))]) [0, 1] rfl ?_
  have lp : ∀ (n9 : Nat) (i : Int) (K9 : Nat → Int) (ro9 : Int) (r9 : Nat → Int) (k : Nat) (g1 : Nat → va_E), (i + 1).toNat = n9 → (isPack cs ad g1 a sz ro9 r9) → (∀ q, q ≠ a → q ≠ a + 1 → g1 q = g q) → (i = (k : Int) - 1) → (k ≤ n) → (∀ j f, j < n → f < 7 → r9 (12 * f + j) = K9 (7 * j + f)) → (okP K9 n) → (ro ≤ ro9 ∧ ro9 + sZ K9 n = ro + sZ K n) → (skZ tb k K9 ro9 = skZ tb n K ro) → zV p l e ({ frames := 3, cells := 0, slots := 0, locals := 180 } : Room) s m ([.ref (ad a), .ref (ad b)] : List Value).toArray below meth c (MQ below (zPost D A (rV0 N ad fun g' => (∃ r' : Nat → Int, isPack cs ad g' a (sz) ((skZ tb n K ro).2) r' ∧ ∀ y f, y < n → f < 7 → r' (12 * f + y) = ((skZ tb n K ro).1) (7 * y + f)) ∧ ∀ q, q ≠ a → q ≠ a + 1 → g' q = g q)) ([.ref (ad a), .ref (ad b)] : List Value).toArray s ({ frames := 3, cells := 0, slots := 0, locals := 180 } : Room).cells ({ frames := 3, cells := 0, slots := 0, locals := 180 } : Room).slots A) D A 5 (N) ad g1 (0) (0) 7 [(2, .int (zI (i))), (0, .ref (ad a)), (1, .ref (ad b))] [] := by
    intro n9
    induction n9 using Nat.strongRecOn with
    | ind n9 ih =>
      intro i K9 ro9 r9 k g1 hm9 p9 f3 hik hkn hC9 hO9 hro9 hsk
      have hay10 : zAt ad (a) (ad a) := rfl
      have hay11 : zAt ad (a + 1) (ad (a + 1)) := rfl
      have hay12 : zAt ad (b) (ad b) := rfl
      have hay13 : zAt ad (b + 1) (ad (b + 1)) := rfl
      have hay14 : zAt ad (b + 2) (ad (b + 2)) := rfl
      have hay15 : zAt ad (b + 3) (ad (b + 3)) := rfl
      have hay16 : zAt ad (b + 4) (ad (b + 4)) := rfl
      have hay17 : zAt ad (b + 5) (ad (b + 5)) := rfl
      have hay18 : zAt ad (b + 6) (ad (b + 6)) := rfl
      have hn12 := hO9.1
      have hs9 := sZ_n hO9 (k := 0) (by omega)
      have hs8 := hO.2.2.1
      by_cases hk0 : k = 0
      · subst hk0
        have hi0 : i = -1 := by omega
        refine z_iload_n C 0 dX3_freezeAndSink_7 rfl ?_
        refine z_if_lt (tgt := 113) C dX3_freezeAndSink_8 (by decide) (by omega) (fun _ => ?_) (fun h => absurd h (by omega))
        have hq : (K9, ro9) = skZ tb n K ro := hsk
        rw [← hq]
        exact z_vret C hr hlk dX3_freezeAndSink_113 (by decide) (by decide) ⟨rfl, rfl, rfl, ⟨_, ⟨p9.1, p9.2⟩, hC9⟩, fun j j1 j2 => by exact f3 j j1 j2⟩
      · obtain ⟨j, rfl⟩ : ∃ j, k = j + 1 := ⟨k - 1, by omega⟩
        obtain rfl : i = (j : Int) := by omega
        have hA9 := skA_ok hO9 (i := j) (by omega)
        refine z_iload_n C 0 dX3_freezeAndSink_7 rfl ?_
        refine z_if_lt (tgt := 113) C dX3_freezeAndSink_8 (by decide) (by omega) (fun h => absurd h (by omega)) (fun _ => ?_)
        refine z_aload_n C 1 dX3_freezeAndSink_11 rfl ?_
        refine z_get (v := .ref (ad (a + 1))) C (lt_A0 hN rfl) hay10 p9.1 rfl inA_X3 2 (by decide) q_162 rfl rfl dX3_freezeAndSink_12 ?_
        refine z_bipush (z := 24) C dX3_freezeAndSink_15 (by decide) ?_
        refine z_iload_n C 0 dX3_freezeAndSink_17 rfl ?_
        refine z_iadd C dX3_freezeAndSink_18 ?_
        refine z_iald C (lt_A (c := 1) hN rfl) hay11 p9.2 (24 + j) (by omega) (by omega) (by decide) dX3_freezeAndSink_19 ?_
        obtain ⟨⟨qy190, qy191, qy192, qy193, qy194, qy195, qy196⟩, qy199⟩ := hO9.ly (l := j) (by omega)
        rw [show r9 (24 + j) = K9 (7 * j + 2) from hC9 j 2 (by omega) (by decide)]
        refine z_if_le (tgt := 40) C dX3_freezeAndSink_20 (by decide) (by omega) (fun hby20 => ?_) (fun hby20 => ?_)
        · have hA : skA K9 j = K9 := by unfold skA; rw [if_neg (by omega)]
          rw [hA] at hA9
          have hH := skH_b ht hO9 (i := j) (by omega)
          refine z_aload_n C 1 dX3_freezeAndSink_40 rfl ?_
          refine z_get (v := .ref (ad (a + 1))) C (lt_A0 hN rfl) hay10 p9.1 rfl inA_X3 2 (by decide) q_162 rfl rfl dX3_freezeAndSink_41 ?_
          refine z_bipush (z := 12) C dX3_freezeAndSink_44 (by decide) ?_
          refine z_iload_n C 0 dX3_freezeAndSink_46 rfl ?_
          refine z_iadd C dX3_freezeAndSink_47 ?_
          refine z_iald C (lt_A (c := 1) hN rfl) hay11 p9.2 (12 + j) (by omega) (by omega) (by decide) dX3_freezeAndSink_48 ?_
          rw [show r9 (12 + j) = K9 (7 * j + 1) from hC9 j 1 (by omega) (by decide)]
          refine z_i2l C dX3_freezeAndSink_49 (by omega) ?_
          refine z_aload_n C 2 dX3_freezeAndSink_50 rfl ?_
          refine z_iconst (z := 5) C dX3_freezeAndSink_51 rfl ?_
          refine z_aload_n C 1 dX3_freezeAndSink_52 rfl ?_
          refine z_get (v := .ref (ad (a + 1))) C (lt_A0 hN rfl) hay10 p9.1 rfl inA_X3 2 (by decide) q_162 rfl rfl dX3_freezeAndSink_53 ?_
          refine z_iconst (z := 0) C dX3_freezeAndSink_56 rfl ?_
          refine z_iload_n C 0 dX3_freezeAndSink_57 rfl ?_
          refine z_iadd C dX3_freezeAndSink_58 ?_
          refine z_iald C (lt_A (c := 1) hN rfl) hay11 p9.2 (0 + j) (by omega) (by omega) (by decide) dX3_freezeAndSink_59 ?_
          rw [show r9 (0 + j) = K9 (7 * j) from hC9 j 0 (by omega) (by decide)]
          refine z_cV (As := [.int (zI (5)), .int (zI (K9 (7 * j)))]) (rest := [.long (zJ (K9 (7 * j + 1)))]) (ci := 7) C (c_pOf l D A cs tt N ad _ (b) (by omega) _ _ _ _ _ _ _ _ _ ⟨((f3 _ (by omega) (by omega)).trans hb.1), ((f3 _ (by omega) (by omega)).trans hb.2.1), ((f3 _ (by omega) (by omega)).trans hb.2.2.1), ((f3 _ (by omega) (by omega)).trans hb.2.2.2.1), ((f3 _ (by omega) (by omega)).trans hb.2.2.2.2.1), ((f3 _ (by omega) (by omega)).trans hb.2.2.2.2.2.1), ((f3 _ (by omega) (by omega)).trans hb.2.2.2.2.2.2)⟩ (5) (K9 (7 * j)) ((5 : Int) + K9 (7 * j)).toNat (by omega) (by omega) (by omega) (by omega)) (by omega) hay12 ((f3 _ (by omega) (by omega)).trans hb.1) rfl rfl mv_yX5_of q_502 hd_yX5_of (by decide) (Nat.le_of_ble_eq_true rfl) (by decide) dX3_freezeAndSink_60 rfl (kI0 fun vy21 gvy21 hvy21 => ?_)
          obtain ⟨rfl, rfl⟩ := hvy21
          have hty22 := ht.1 ((5 : Int) + K9 (7 * j)).toNat (by omega)
          refine z_i2l C dX3_freezeAndSink_63 (by omega) ?_
          refine z_lmul C dX3_freezeAndSink_64 ?_
          refine z_ldc2 (z := 100) C dX3_freezeAndSink_65 q_501 (by decide) ?_
          refine z_cSN (As := [.long (zJ ((K9 (7 * j + 1)) * (tb ((5 : Int) + K9 (7 * j)).toNat))), .long (zJ (100))]) (rest := []) C (c_pPart l D A cs tt N ad _ ((K9 (7 * j + 1)) * (tb ((5 : Int) + K9 (7 * j)).toNat)) (100) (by omega) (by omega)) ms_yX9_part n_466 hd_yX9_part (by decide) (Nat.le_of_ble_eq_true rfl) (by decide) dX3_freezeAndSink_68 rfl (kI0 fun vy23 gvy23 hvy23 => ?_)
          obtain ⟨rfl, rfl⟩ := hvy23
          rw [show ((K9 (7 * j + 1)) * (tb ((5 : Int) + K9 (7 * j)).toNat)).tdiv (100) = skH tb K9 j from rfl]
          refine z_istore_n (lv' := [(3, .int (zI (skH tb K9 j))), (2, .int (zI ((j : Int)))), (0, .ref (ad a)), (1, .ref (ad b))]) C dX3_freezeAndSink_71 rfl (by decide) rfl ?_
          refine z_aload_n C 2 dX3_freezeAndSink_72 rfl ?_
          refine z_get (v := .ref (ad (a + 1))) C (lt_A0 hN rfl) hay10 p9.1 rfl inA_X3 2 (by decide) q_162 rfl rfl dX3_freezeAndSink_73 ?_
          refine z_bipush (z := 24) C dX3_freezeAndSink_76 (by decide) ?_
          refine z_iload_n C 1 dX3_freezeAndSink_78 rfl ?_
          refine z_iadd C dX3_freezeAndSink_79 ?_
          refine z_iald C (lt_A (c := 1) hN rfl) hay11 p9.2 (24 + j) (by omega) (by omega) (by decide) dX3_freezeAndSink_80 ?_
          rw [show r9 (24 + j) = K9 (7 * j + 2) from hC9 j 2 (by omega) (by decide)]
          refine z_iload_n C 0 dX3_freezeAndSink_81 rfl ?_
          refine z_isub C dX3_freezeAndSink_82 ?_
          refine z_istore (lv' := [(4, .int (zI ((K9 (7 * j + 2)) - (skH tb K9 j)))), (3, .int (zI (skH tb K9 j))), (2, .int (zI ((j : Int)))), (0, .ref (ad a)), (1, .ref (ad b))]) C dX3_freezeAndSink_83 (by decide) rfl ?_
          refine z_iload C 0 dX3_freezeAndSink_85 rfl ?_
          refine z_if_le (tgt := 107) C dX3_freezeAndSink_87 (by decide) (by omega) (fun hby24 => ?_) (fun hby24 => ?_)
          · refine z_iinc (z := (j : Int) - 1) (lv' := [(2, .int (zI ((j : Int) - 1))), (4, .int (zI ((K9 (7 * j + 2)) - (skH tb K9 j)))), (3, .int (zI (skH tb K9 j))), (0, .ref (ad a)), (1, .ref (ad b))]) (j := 2) C dX3_freezeAndSink_107 rfl (congrArg zI (by omega)) (by decide) rfl ?_
            refine z_goto (tgt := 7) C dX3_freezeAndSink_110 (by decide) ?_
            refine z_lv (lv' := [(2, .int (zI ((j : Int) - 1))), (0, .ref (ad a)), (1, .ref (ad b))]) [0, 3, 4] rfl ?_
            have hB : skB tb K9 j = K9 := by
              unfold skB
              rw [if_neg (by omega)]
            have hR : skR tb K9 j ro9 = ro9 := by
              unfold skR
              rw [if_neg (by omega)]
            have hs2 : skZ tb j K9 ro9 = skZ tb n K ro := by
              rw [← hsk]
              show _ = skZ tb j (skB tb (skA K9 j) j) (skR tb (skA K9 j) j ro9)
              rw [hA, hB, hR]
            exact ih _ (by omega) ((j : Int) - 1) K9 ro9 r9 j g1 rfl ⟨p9.1, p9.2⟩ (fun j j1 j2 => by exact f3 j j1 j2) (by omega) (by omega) hC9 hO9 (by omega) hs2
          · refine z_aload_n C 3 dX3_freezeAndSink_90 rfl ?_
            refine z_get (v := .ref (ad (a + 1))) C (lt_A0 hN rfl) hay10 p9.1 rfl inA_X3 2 (by decide) q_162 rfl rfl dX3_freezeAndSink_91 ?_
            refine z_bipush (z := 24) C dX3_freezeAndSink_94 (by decide) ?_
            refine z_iload_n C 2 dX3_freezeAndSink_96 rfl ?_
            refine z_iadd C dX3_freezeAndSink_97 ?_
            refine z_iload_n C 1 dX3_freezeAndSink_98 rfl ?_
            refine z_iast C (lt_A (c := 1) hN rfl) hay11 p9.2 (24 + j) (by omega) (by omega) (by decide) dX3_freezeAndSink_99 (fun gy25 egy26 => ?_)
            have hgy27 := up_s egy26
            obtain ⟨ry28, hvy29⟩ : ∃ rZ9 : Nat → Int, rZ9 = uZ r9 (24 + j) (skH tb K9 j) := ⟨_, rfl⟩
            rw [← hvy29] at hgy27
            obtain ⟨Ky30, hKy31⟩ : ∃ KZ9 : Nat → Int, KZ9 = uZ K9 (7 * j + 2) (skH tb K9 j) := ⟨_, rfl⟩
            have hCy32 := lay_u hC9 hvy29 hKy31 (by omega) (by omega) (by omega) (by decide)
            refine z_aload_n C 3 dX3_freezeAndSink_100 rfl ?_
            refine z_iload_n C 2 dX3_freezeAndSink_101 rfl ?_
            refine z_iload C 0 dX3_freezeAndSink_102 rfl ?_
            have hOwy33 := okP.wat hO9 (i := j) (v := skH tb K9 j) (by omega) (by omega) (by omega)
            rw [← hKy31] at hOwy33
            have hgy34 := up_n egy26 p9.1 (ne_o (i := a) (c := 0) (d := 1) rfl)
            refine z_cV (As := [.int (zI ((j : Int))), .int (zI ((K9 (7 * j + 2)) - (skH tb K9 j)))]) (rest := []) (ci := 5) C (c_pWet l D A cs tt N ad _ a hN _ _ _ hz ⟨hgy34, hgy27⟩ n Ky30 hn hCy32 hOwy33.1 (by omega) ((j : Int)) j (by omega) (by omega) ((K9 (7 * j + 2)) - (skH tb K9 j)) (by omega)) (lt_A0 hN rfl) hay10 hgy34 rfl rfl mv_yX3_wet q_484 hd_yX3_wet (by decide) (Nat.le_of_ble_eq_true rfl) (by decide) dX3_freezeAndSink_104 rfl (kV0 fun gvy35 hvy35 => ?_)
            obtain ⟨⟨rvy35, hpvy35, hCvy35⟩, hfvy35⟩ := hvy35
            obtain ⟨Ky36, hKy37⟩ : ∃ KZ9 : Nat → Int, KZ9 = wtK Ky30 j ((K9 (7 * j + 2)) - (skH tb K9 j)) := ⟨_, rfl⟩
            rw [← hKy37] at hCvy35
            obtain ⟨rovy35, hrovy35⟩ : ∃ x9 : Int, x9 = wtR j (ro9) ((K9 (7 * j + 2)) - (skH tb K9 j)) := ⟨_, rfl⟩
            rw [← hrovy35] at hpvy35
            have hOvy35 := wtK_ok hOwy33.1 (i := j) (w := (K9 (7 * j + 2)) - (skH tb K9 j)) (ro := ro9) (by omega) (by omega) (by omega)
            rw [← hKy37, ← hrovy35] at hOvy35
            refine z_iinc (z := (j : Int) - 1) (lv' := [(2, .int (zI ((j : Int) - 1))), (4, .int (zI ((K9 (7 * j + 2)) - (skH tb K9 j)))), (3, .int (zI (skH tb K9 j))), (0, .ref (ad a)), (1, .ref (ad b))]) (j := 2) C dX3_freezeAndSink_107 rfl (congrArg zI (by omega)) (by decide) rfl ?_
            refine z_goto (tgt := 7) C dX3_freezeAndSink_110 (by decide) ?_
            refine z_lv (lv' := [(2, .int (zI ((j : Int) - 1))), (0, .ref (ad a)), (1, .ref (ad b))]) [0, 3, 4] rfl ?_
            have hB : skB tb K9 j = Ky36 := by
              unfold skB
              rw [if_pos (by omega), hKy37, hKy31]
            have hR : skR tb K9 j ro9 = rovy35 := by
              unfold skR
              rw [if_pos (by omega), hrovy35]
            have hs2 : skZ tb j Ky36 rovy35 = skZ tb n K ro := by
              rw [← hsk]
              show _ = skZ tb j (skB tb (skA K9 j) j) (skR tb (skA K9 j) j ro9)
              rw [hA, hB, hR]
            exact ih _ (by omega) ((j : Int) - 1) Ky36 rovy35 rvy35 j gvy35 rfl ⟨hpvy35.1, hpvy35.2⟩ (fun j j1 j2 => by rw [hfvy35 _ (by omega) (by omega)]; rw [egy26, va_up_ne _ _ (by omega)]; exact f3 j j1 j2) (by omega) (by omega) hCvy35 hOvy35.1 (by omega) hs2
        · refine z_aload_n C 1 dX3_freezeAndSink_23 rfl ?_
          refine z_get (v := .ref (ad (a + 1))) C (lt_A0 hN rfl) hay10 p9.1 rfl inA_X3 2 (by decide) q_162 rfl rfl dX3_freezeAndSink_24 ?_
          refine z_bipush (z := 48) C dX3_freezeAndSink_27 (by decide) ?_
          refine z_iload_n C 0 dX3_freezeAndSink_29 rfl ?_
          refine z_iadd C dX3_freezeAndSink_30 ?_
          refine z_iald C (lt_A (c := 1) hN rfl) hay11 p9.2 (48 + j) (by omega) (by omega) (by decide) dX3_freezeAndSink_31 ?_
          rw [show r9 (48 + j) = K9 (7 * j + 4) from hC9 j 4 (by omega) (by decide)]
          refine z_if_ge (tgt := 40) C dX3_freezeAndSink_32 (by decide) (by omega) (fun hby38 => ?_) (fun hby38 => ?_)
          · have hA : skA K9 j = K9 := by unfold skA; rw [if_neg (by omega)]
            rw [hA] at hA9
            have hH := skH_b ht hO9 (i := j) (by omega)
            refine z_aload_n C 1 dX3_freezeAndSink_40 rfl ?_
            refine z_get (v := .ref (ad (a + 1))) C (lt_A0 hN rfl) hay10 p9.1 rfl inA_X3 2 (by decide) q_162 rfl rfl dX3_freezeAndSink_41 ?_
            refine z_bipush (z := 12) C dX3_freezeAndSink_44 (by decide) ?_
            refine z_iload_n C 0 dX3_freezeAndSink_46 rfl ?_
            refine z_iadd C dX3_freezeAndSink_47 ?_
            refine z_iald C (lt_A (c := 1) hN rfl) hay11 p9.2 (12 + j) (by omega) (by omega) (by decide) dX3_freezeAndSink_48 ?_
            rw [show r9 (12 + j) = K9 (7 * j + 1) from hC9 j 1 (by omega) (by decide)]
            refine z_i2l C dX3_freezeAndSink_49 (by omega) ?_
            refine z_aload_n C 2 dX3_freezeAndSink_50 rfl ?_
            refine z_iconst (z := 5) C dX3_freezeAndSink_51 rfl ?_
            refine z_aload_n C 1 dX3_freezeAndSink_52 rfl ?_
            refine z_get (v := .ref (ad (a + 1))) C (lt_A0 hN rfl) hay10 p9.1 rfl inA_X3 2 (by decide) q_162 rfl rfl dX3_freezeAndSink_53 ?_
            refine z_iconst (z := 0) C dX3_freezeAndSink_56 rfl ?_
            refine z_iload_n C 0 dX3_freezeAndSink_57 rfl ?_
            refine z_iadd C dX3_freezeAndSink_58 ?_
            refine z_iald C (lt_A (c := 1) hN rfl) hay11 p9.2 (0 + j) (by omega) (by omega) (by decide) dX3_freezeAndSink_59 ?_
            rw [show r9 (0 + j) = K9 (7 * j) from hC9 j 0 (by omega) (by decide)]
            refine z_cV (As := [.int (zI (5)), .int (zI (K9 (7 * j)))]) (rest := [.long (zJ (K9 (7 * j + 1)))]) (ci := 7) C (c_pOf l D A cs tt N ad _ (b) (by omega) _ _ _ _ _ _ _ _ _ ⟨((f3 _ (by omega) (by omega)).trans hb.1), ((f3 _ (by omega) (by omega)).trans hb.2.1), ((f3 _ (by omega) (by omega)).trans hb.2.2.1), ((f3 _ (by omega) (by omega)).trans hb.2.2.2.1), ((f3 _ (by omega) (by omega)).trans hb.2.2.2.2.1), ((f3 _ (by omega) (by omega)).trans hb.2.2.2.2.2.1), ((f3 _ (by omega) (by omega)).trans hb.2.2.2.2.2.2)⟩ (5) (K9 (7 * j)) ((5 : Int) + K9 (7 * j)).toNat (by omega) (by omega) (by omega) (by omega)) (by omega) hay12 ((f3 _ (by omega) (by omega)).trans hb.1) rfl rfl mv_yX5_of q_502 hd_yX5_of (by decide) (Nat.le_of_ble_eq_true rfl) (by decide) dX3_freezeAndSink_60 rfl (kI0 fun vy39 gvy39 hvy39 => ?_)
            obtain ⟨rfl, rfl⟩ := hvy39
            have hty40 := ht.1 ((5 : Int) + K9 (7 * j)).toNat (by omega)
            refine z_i2l C dX3_freezeAndSink_63 (by omega) ?_
            refine z_lmul C dX3_freezeAndSink_64 ?_
            refine z_ldc2 (z := 100) C dX3_freezeAndSink_65 q_501 (by decide) ?_
            refine z_cSN (As := [.long (zJ ((K9 (7 * j + 1)) * (tb ((5 : Int) + K9 (7 * j)).toNat))), .long (zJ (100))]) (rest := []) C (c_pPart l D A cs tt N ad _ ((K9 (7 * j + 1)) * (tb ((5 : Int) + K9 (7 * j)).toNat)) (100) (by omega) (by omega)) ms_yX9_part n_466 hd_yX9_part (by decide) (Nat.le_of_ble_eq_true rfl) (by decide) dX3_freezeAndSink_68 rfl (kI0 fun vy41 gvy41 hvy41 => ?_)
            obtain ⟨rfl, rfl⟩ := hvy41
            rw [show ((K9 (7 * j + 1)) * (tb ((5 : Int) + K9 (7 * j)).toNat)).tdiv (100) = skH tb K9 j from rfl]
            refine z_istore_n (lv' := [(3, .int (zI (skH tb K9 j))), (2, .int (zI ((j : Int)))), (0, .ref (ad a)), (1, .ref (ad b))]) C dX3_freezeAndSink_71 rfl (by decide) rfl ?_
            refine z_aload_n C 2 dX3_freezeAndSink_72 rfl ?_
            refine z_get (v := .ref (ad (a + 1))) C (lt_A0 hN rfl) hay10 p9.1 rfl inA_X3 2 (by decide) q_162 rfl rfl dX3_freezeAndSink_73 ?_
            refine z_bipush (z := 24) C dX3_freezeAndSink_76 (by decide) ?_
            refine z_iload_n C 1 dX3_freezeAndSink_78 rfl ?_
            refine z_iadd C dX3_freezeAndSink_79 ?_
            refine z_iald C (lt_A (c := 1) hN rfl) hay11 p9.2 (24 + j) (by omega) (by omega) (by decide) dX3_freezeAndSink_80 ?_
            rw [show r9 (24 + j) = K9 (7 * j + 2) from hC9 j 2 (by omega) (by decide)]
            refine z_iload_n C 0 dX3_freezeAndSink_81 rfl ?_
            refine z_isub C dX3_freezeAndSink_82 ?_
            refine z_istore (lv' := [(4, .int (zI ((K9 (7 * j + 2)) - (skH tb K9 j)))), (3, .int (zI (skH tb K9 j))), (2, .int (zI ((j : Int)))), (0, .ref (ad a)), (1, .ref (ad b))]) C dX3_freezeAndSink_83 (by decide) rfl ?_
            refine z_iload C 0 dX3_freezeAndSink_85 rfl ?_
            refine z_if_le (tgt := 107) C dX3_freezeAndSink_87 (by decide) (by omega) (fun hby42 => ?_) (fun hby42 => ?_)
            · refine z_iinc (z := (j : Int) - 1) (lv' := [(2, .int (zI ((j : Int) - 1))), (4, .int (zI ((K9 (7 * j + 2)) - (skH tb K9 j)))), (3, .int (zI (skH tb K9 j))), (0, .ref (ad a)), (1, .ref (ad b))]) (j := 2) C dX3_freezeAndSink_107 rfl (congrArg zI (by omega)) (by decide) rfl ?_
              refine z_goto (tgt := 7) C dX3_freezeAndSink_110 (by decide) ?_
              refine z_lv (lv' := [(2, .int (zI ((j : Int) - 1))), (0, .ref (ad a)), (1, .ref (ad b))]) [0, 3, 4] rfl ?_
              have hB : skB tb K9 j = K9 := by
                unfold skB
                rw [if_neg (by omega)]
              have hR : skR tb K9 j ro9 = ro9 := by
                unfold skR
                rw [if_neg (by omega)]
              have hs2 : skZ tb j K9 ro9 = skZ tb n K ro := by
                rw [← hsk]
                show _ = skZ tb j (skB tb (skA K9 j) j) (skR tb (skA K9 j) j ro9)
                rw [hA, hB, hR]
              exact ih _ (by omega) ((j : Int) - 1) K9 ro9 r9 j g1 rfl ⟨p9.1, p9.2⟩ (fun j j1 j2 => by exact f3 j j1 j2) (by omega) (by omega) hC9 hO9 (by omega) hs2
            · refine z_aload_n C 3 dX3_freezeAndSink_90 rfl ?_
              refine z_get (v := .ref (ad (a + 1))) C (lt_A0 hN rfl) hay10 p9.1 rfl inA_X3 2 (by decide) q_162 rfl rfl dX3_freezeAndSink_91 ?_
              refine z_bipush (z := 24) C dX3_freezeAndSink_94 (by decide) ?_
              refine z_iload_n C 2 dX3_freezeAndSink_96 rfl ?_
              refine z_iadd C dX3_freezeAndSink_97 ?_
              refine z_iload_n C 1 dX3_freezeAndSink_98 rfl ?_
              refine z_iast C (lt_A (c := 1) hN rfl) hay11 p9.2 (24 + j) (by omega) (by omega) (by decide) dX3_freezeAndSink_99 (fun gy43 egy44 => ?_)
              have hgy45 := up_s egy44
              obtain ⟨ry46, hvy47⟩ : ∃ rZ9 : Nat → Int, rZ9 = uZ r9 (24 + j) (skH tb K9 j) := ⟨_, rfl⟩
              rw [← hvy47] at hgy45
              obtain ⟨Ky48, hKy49⟩ : ∃ KZ9 : Nat → Int, KZ9 = uZ K9 (7 * j + 2) (skH tb K9 j) := ⟨_, rfl⟩
              have hCy50 := lay_u hC9 hvy47 hKy49 (by omega) (by omega) (by omega) (by decide)
              refine z_aload_n C 3 dX3_freezeAndSink_100 rfl ?_
              refine z_iload_n C 2 dX3_freezeAndSink_101 rfl ?_
              refine z_iload C 0 dX3_freezeAndSink_102 rfl ?_
              have hOwy51 := okP.wat hO9 (i := j) (v := skH tb K9 j) (by omega) (by omega) (by omega)
              rw [← hKy49] at hOwy51
              have hgy52 := up_n egy44 p9.1 (ne_o (i := a) (c := 0) (d := 1) rfl)
              refine z_cV (As := [.int (zI ((j : Int))), .int (zI ((K9 (7 * j + 2)) - (skH tb K9 j)))]) (rest := []) (ci := 5) C (c_pWet l D A cs tt N ad _ a hN _ _ _ hz ⟨hgy52, hgy45⟩ n Ky48 hn hCy50 hOwy51.1 (by omega) ((j : Int)) j (by omega) (by omega) ((K9 (7 * j + 2)) - (skH tb K9 j)) (by omega)) (lt_A0 hN rfl) hay10 hgy52 rfl rfl mv_yX3_wet q_484 hd_yX3_wet (by decide) (Nat.le_of_ble_eq_true rfl) (by decide) dX3_freezeAndSink_104 rfl (kV0 fun gvy53 hvy53 => ?_)
              obtain ⟨⟨rvy53, hpvy53, hCvy53⟩, hfvy53⟩ := hvy53
              obtain ⟨Ky54, hKy55⟩ : ∃ KZ9 : Nat → Int, KZ9 = wtK Ky48 j ((K9 (7 * j + 2)) - (skH tb K9 j)) := ⟨_, rfl⟩
              rw [← hKy55] at hCvy53
              obtain ⟨rovy53, hrovy53⟩ : ∃ x9 : Int, x9 = wtR j (ro9) ((K9 (7 * j + 2)) - (skH tb K9 j)) := ⟨_, rfl⟩
              rw [← hrovy53] at hpvy53
              have hOvy53 := wtK_ok hOwy51.1 (i := j) (w := (K9 (7 * j + 2)) - (skH tb K9 j)) (ro := ro9) (by omega) (by omega) (by omega)
              rw [← hKy55, ← hrovy53] at hOvy53
              refine z_iinc (z := (j : Int) - 1) (lv' := [(2, .int (zI ((j : Int) - 1))), (4, .int (zI ((K9 (7 * j + 2)) - (skH tb K9 j)))), (3, .int (zI (skH tb K9 j))), (0, .ref (ad a)), (1, .ref (ad b))]) (j := 2) C dX3_freezeAndSink_107 rfl (congrArg zI (by omega)) (by decide) rfl ?_
              refine z_goto (tgt := 7) C dX3_freezeAndSink_110 (by decide) ?_
              refine z_lv (lv' := [(2, .int (zI ((j : Int) - 1))), (0, .ref (ad a)), (1, .ref (ad b))]) [0, 3, 4] rfl ?_
              have hB : skB tb K9 j = Ky54 := by
                unfold skB
                rw [if_pos (by omega), hKy55, hKy49]
              have hR : skR tb K9 j ro9 = rovy53 := by
                unfold skR
                rw [if_pos (by omega), hrovy53]
              have hs2 : skZ tb j Ky54 rovy53 = skZ tb n K ro := by
                rw [← hsk]
                show _ = skZ tb j (skB tb (skA K9 j) j) (skR tb (skA K9 j) j ro9)
                rw [hA, hB, hR]
              exact ih _ (by omega) ((j : Int) - 1) Ky54 rovy53 rvy53 j gvy53 rfl ⟨hpvy53.1, hpvy53.2⟩ (fun j j1 j2 => by rw [hfvy53 _ (by omega) (by omega)]; rw [egy44, va_up_ne _ _ (by omega)]; exact f3 j j1 j2) (by omega) (by omega) hCvy53 hOvy53.1 (by omega) hs2
          · refine z_aload_n C 1 dX3_freezeAndSink_35 rfl ?_
            refine z_iload_n C 0 dX3_freezeAndSink_36 rfl ?_
            refine z_cV (As := [.int (zI ((j : Int)))]) (rest := []) (ci := 5) C (c_pFreeze l D A cs tt N ad _ a hN _ _ _ hz ⟨p9.1, p9.2⟩ n K9 hn hC9 hO9 (by omega) j (by omega)) (lt_A0 hN rfl) hay10 p9.1 rfl rfl mv_yX3_freeze q_497 hd_yX3_freeze (by decide) (Nat.le_of_ble_eq_true rfl) (by decide) dX3_freezeAndSink_37 rfl (kV0 fun gvy56 hvy56 => ?_)
            obtain ⟨⟨rvy56, hpvy56, hCvy56⟩, hfvy56⟩ := hvy56
            obtain ⟨Ky57, hKy58⟩ : ∃ KZ9 : Nat → Int, KZ9 = frZ K9 j := ⟨_, rfl⟩
            rw [← hKy58] at hCvy56
            have hOvy56 := okP.frz hO9 (i := j) (by omega)
            rw [← hKy58] at hOvy56
            have hA : skA K9 j = Ky57 := by unfold skA; rw [if_pos ⟨by omega, by omega⟩, hKy58]
            rw [hA] at hA9
            have hH := skH_b ht hOvy56.1 (i := j) (by omega)
            refine z_aload_n C 1 dX3_freezeAndSink_40 rfl ?_
            refine z_get (v := .ref (ad (a + 1))) C (lt_A0 hN rfl) hay10 hpvy56.1 rfl inA_X3 2 (by decide) q_162 rfl rfl dX3_freezeAndSink_41 ?_
            refine z_bipush (z := 12) C dX3_freezeAndSink_44 (by decide) ?_
            refine z_iload_n C 0 dX3_freezeAndSink_46 rfl ?_
            refine z_iadd C dX3_freezeAndSink_47 ?_
            refine z_iald C (lt_A (c := 1) hN rfl) hay11 hpvy56.2 (12 + j) (by omega) (by omega) (by decide) dX3_freezeAndSink_48 ?_
            obtain ⟨⟨qy590, qy591, qy592, qy593, qy594, qy595, qy596⟩, qy599⟩ := hOvy56.1.ly (l := j) (by omega)
            rw [show rvy56 (12 + j) = Ky57 (7 * j + 1) from hCvy56 j 1 (by omega) (by decide)]
            refine z_i2l C dX3_freezeAndSink_49 (by omega) ?_
            refine z_aload_n C 2 dX3_freezeAndSink_50 rfl ?_
            refine z_iconst (z := 5) C dX3_freezeAndSink_51 rfl ?_
            refine z_aload_n C 1 dX3_freezeAndSink_52 rfl ?_
            refine z_get (v := .ref (ad (a + 1))) C (lt_A0 hN rfl) hay10 hpvy56.1 rfl inA_X3 2 (by decide) q_162 rfl rfl dX3_freezeAndSink_53 ?_
            refine z_iconst (z := 0) C dX3_freezeAndSink_56 rfl ?_
            refine z_iload_n C 0 dX3_freezeAndSink_57 rfl ?_
            refine z_iadd C dX3_freezeAndSink_58 ?_
            refine z_iald C (lt_A (c := 1) hN rfl) hay11 hpvy56.2 (0 + j) (by omega) (by omega) (by decide) dX3_freezeAndSink_59 ?_
            rw [show rvy56 (0 + j) = Ky57 (7 * j) from hCvy56 j 0 (by omega) (by decide)]
            have hgy61 := (hfvy56 (b) (by omega) (by omega)).trans ((f3 _ (by omega) (by omega)).trans hb.1)
            have hgy62 := (hfvy56 (b + 1) (by omega) (by omega)).trans ((f3 _ (by omega) (by omega)).trans hb.2.1)
            have hgy63 := (hfvy56 (b + 2) (by omega) (by omega)).trans ((f3 _ (by omega) (by omega)).trans hb.2.2.1)
            have hgy64 := (hfvy56 (b + 3) (by omega) (by omega)).trans ((f3 _ (by omega) (by omega)).trans hb.2.2.2.1)
            have hgy65 := (hfvy56 (b + 4) (by omega) (by omega)).trans ((f3 _ (by omega) (by omega)).trans hb.2.2.2.2.1)
            have hgy66 := (hfvy56 (b + 5) (by omega) (by omega)).trans ((f3 _ (by omega) (by omega)).trans hb.2.2.2.2.2.1)
            have hgy67 := (hfvy56 (b + 6) (by omega) (by omega)).trans ((f3 _ (by omega) (by omega)).trans hb.2.2.2.2.2.2)
            refine z_cV (As := [.int (zI (5)), .int (zI (Ky57 (7 * j)))]) (rest := [.long (zJ (Ky57 (7 * j + 1)))]) (ci := 7) C (c_pOf l D A cs tt N ad _ (b) (by omega) _ _ _ _ _ _ _ _ _ ⟨hgy61, hgy62, hgy63, hgy64, hgy65, hgy66, hgy67⟩ (5) (Ky57 (7 * j)) ((5 : Int) + Ky57 (7 * j)).toNat (by omega) (by omega) (by omega) (by omega)) (by omega) hay12 hgy61 rfl rfl mv_yX5_of q_502 hd_yX5_of (by decide) (Nat.le_of_ble_eq_true rfl) (by decide) dX3_freezeAndSink_60 rfl (kI0 fun vy60 gvy60 hvy60 => ?_)
            obtain ⟨rfl, rfl⟩ := hvy60
            have hty68 := ht.1 ((5 : Int) + Ky57 (7 * j)).toNat (by omega)
            refine z_i2l C dX3_freezeAndSink_63 (by omega) ?_
            refine z_lmul C dX3_freezeAndSink_64 ?_
            refine z_ldc2 (z := 100) C dX3_freezeAndSink_65 q_501 (by decide) ?_
            refine z_cSN (As := [.long (zJ ((Ky57 (7 * j + 1)) * (tb ((5 : Int) + Ky57 (7 * j)).toNat))), .long (zJ (100))]) (rest := []) C (c_pPart l D A cs tt N ad _ ((Ky57 (7 * j + 1)) * (tb ((5 : Int) + Ky57 (7 * j)).toNat)) (100) (by omega) (by omega)) ms_yX9_part n_466 hd_yX9_part (by decide) (Nat.le_of_ble_eq_true rfl) (by decide) dX3_freezeAndSink_68 rfl (kI0 fun vy69 gvy69 hvy69 => ?_)
            obtain ⟨rfl, rfl⟩ := hvy69
            rw [show ((Ky57 (7 * j + 1)) * (tb ((5 : Int) + Ky57 (7 * j)).toNat)).tdiv (100) = skH tb Ky57 j from rfl]
            refine z_istore_n (lv' := [(3, .int (zI (skH tb Ky57 j))), (2, .int (zI ((j : Int)))), (0, .ref (ad a)), (1, .ref (ad b))]) C dX3_freezeAndSink_71 rfl (by decide) rfl ?_
            refine z_aload_n C 2 dX3_freezeAndSink_72 rfl ?_
            refine z_get (v := .ref (ad (a + 1))) C (lt_A0 hN rfl) hay10 hpvy56.1 rfl inA_X3 2 (by decide) q_162 rfl rfl dX3_freezeAndSink_73 ?_
            refine z_bipush (z := 24) C dX3_freezeAndSink_76 (by decide) ?_
            refine z_iload_n C 1 dX3_freezeAndSink_78 rfl ?_
            refine z_iadd C dX3_freezeAndSink_79 ?_
            refine z_iald C (lt_A (c := 1) hN rfl) hay11 hpvy56.2 (24 + j) (by omega) (by omega) (by decide) dX3_freezeAndSink_80 ?_
            rw [show rvy56 (24 + j) = Ky57 (7 * j + 2) from hCvy56 j 2 (by omega) (by decide)]
            refine z_iload_n C 0 dX3_freezeAndSink_81 rfl ?_
            refine z_isub C dX3_freezeAndSink_82 ?_
            refine z_istore (lv' := [(4, .int (zI ((Ky57 (7 * j + 2)) - (skH tb Ky57 j)))), (3, .int (zI (skH tb Ky57 j))), (2, .int (zI ((j : Int)))), (0, .ref (ad a)), (1, .ref (ad b))]) C dX3_freezeAndSink_83 (by decide) rfl ?_
            refine z_iload C 0 dX3_freezeAndSink_85 rfl ?_
            refine z_if_le (tgt := 107) C dX3_freezeAndSink_87 (by decide) (by omega) (fun hby70 => ?_) (fun hby70 => ?_)
            · refine z_iinc (z := (j : Int) - 1) (lv' := [(2, .int (zI ((j : Int) - 1))), (4, .int (zI ((Ky57 (7 * j + 2)) - (skH tb Ky57 j)))), (3, .int (zI (skH tb Ky57 j))), (0, .ref (ad a)), (1, .ref (ad b))]) (j := 2) C dX3_freezeAndSink_107 rfl (congrArg zI (by omega)) (by decide) rfl ?_
              refine z_goto (tgt := 7) C dX3_freezeAndSink_110 (by decide) ?_
              refine z_lv (lv' := [(2, .int (zI ((j : Int) - 1))), (0, .ref (ad a)), (1, .ref (ad b))]) [0, 3, 4] rfl ?_
              have hB : skB tb Ky57 j = Ky57 := by
                unfold skB
                rw [if_neg (by omega)]
              have hR : skR tb Ky57 j ro9 = ro9 := by
                unfold skR
                rw [if_neg (by omega)]
              have hs2 : skZ tb j Ky57 ro9 = skZ tb n K ro := by
                rw [← hsk]
                show _ = skZ tb j (skB tb (skA K9 j) j) (skR tb (skA K9 j) j ro9)
                rw [hA, hB, hR]
              exact ih _ (by omega) ((j : Int) - 1) Ky57 ro9 rvy56 j gvy56 rfl ⟨hpvy56.1, hpvy56.2⟩ (fun j j1 j2 => by rw [hfvy56 _ (by omega) (by omega)]; exact f3 j j1 j2) (by omega) (by omega) hCvy56 hOvy56.1 (by omega) hs2
            · refine z_aload_n C 3 dX3_freezeAndSink_90 rfl ?_
              refine z_get (v := .ref (ad (a + 1))) C (lt_A0 hN rfl) hay10 hpvy56.1 rfl inA_X3 2 (by decide) q_162 rfl rfl dX3_freezeAndSink_91 ?_
              refine z_bipush (z := 24) C dX3_freezeAndSink_94 (by decide) ?_
              refine z_iload_n C 2 dX3_freezeAndSink_96 rfl ?_
              refine z_iadd C dX3_freezeAndSink_97 ?_
              refine z_iload_n C 1 dX3_freezeAndSink_98 rfl ?_
              refine z_iast C (lt_A (c := 1) hN rfl) hay11 hpvy56.2 (24 + j) (by omega) (by omega) (by decide) dX3_freezeAndSink_99 (fun gy71 egy72 => ?_)
              have hgy73 := up_s egy72
              obtain ⟨ry74, hvy75⟩ : ∃ rZ9 : Nat → Int, rZ9 = uZ rvy56 (24 + j) (skH tb Ky57 j) := ⟨_, rfl⟩
              rw [← hvy75] at hgy73
              obtain ⟨Ky76, hKy77⟩ : ∃ KZ9 : Nat → Int, KZ9 = uZ Ky57 (7 * j + 2) (skH tb Ky57 j) := ⟨_, rfl⟩
              have hCy78 := lay_u hCvy56 hvy75 hKy77 (by omega) (by omega) (by omega) (by decide)
              refine z_aload_n C 3 dX3_freezeAndSink_100 rfl ?_
              refine z_iload_n C 2 dX3_freezeAndSink_101 rfl ?_
              refine z_iload C 0 dX3_freezeAndSink_102 rfl ?_
              have hOwy79 := okP.wat hOvy56.1 (i := j) (v := skH tb Ky57 j) (by omega) (by omega) (by omega)
              rw [← hKy77] at hOwy79
              have hgy80 := up_n egy72 hpvy56.1 (ne_o (i := a) (c := 0) (d := 1) rfl)
              refine z_cV (As := [.int (zI ((j : Int))), .int (zI ((Ky57 (7 * j + 2)) - (skH tb Ky57 j)))]) (rest := []) (ci := 5) C (c_pWet l D A cs tt N ad _ a hN _ _ _ hz ⟨hgy80, hgy73⟩ n Ky76 hn hCy78 hOwy79.1 (by omega) ((j : Int)) j (by omega) (by omega) ((Ky57 (7 * j + 2)) - (skH tb Ky57 j)) (by omega)) (lt_A0 hN rfl) hay10 hgy80 rfl rfl mv_yX3_wet q_484 hd_yX3_wet (by decide) (Nat.le_of_ble_eq_true rfl) (by decide) dX3_freezeAndSink_104 rfl (kV0 fun gvy81 hvy81 => ?_)
              obtain ⟨⟨rvy81, hpvy81, hCvy81⟩, hfvy81⟩ := hvy81
              obtain ⟨Ky82, hKy83⟩ : ∃ KZ9 : Nat → Int, KZ9 = wtK Ky76 j ((Ky57 (7 * j + 2)) - (skH tb Ky57 j)) := ⟨_, rfl⟩
              rw [← hKy83] at hCvy81
              obtain ⟨rovy81, hrovy81⟩ : ∃ x9 : Int, x9 = wtR j (ro9) ((Ky57 (7 * j + 2)) - (skH tb Ky57 j)) := ⟨_, rfl⟩
              rw [← hrovy81] at hpvy81
              have hOvy81 := wtK_ok hOwy79.1 (i := j) (w := (Ky57 (7 * j + 2)) - (skH tb Ky57 j)) (ro := ro9) (by omega) (by omega) (by omega)
              rw [← hKy83, ← hrovy81] at hOvy81
              refine z_iinc (z := (j : Int) - 1) (lv' := [(2, .int (zI ((j : Int) - 1))), (4, .int (zI ((Ky57 (7 * j + 2)) - (skH tb Ky57 j)))), (3, .int (zI (skH tb Ky57 j))), (0, .ref (ad a)), (1, .ref (ad b))]) (j := 2) C dX3_freezeAndSink_107 rfl (congrArg zI (by omega)) (by decide) rfl ?_
              refine z_goto (tgt := 7) C dX3_freezeAndSink_110 (by decide) ?_
              refine z_lv (lv' := [(2, .int (zI ((j : Int) - 1))), (0, .ref (ad a)), (1, .ref (ad b))]) [0, 3, 4] rfl ?_
              have hB : skB tb Ky57 j = Ky82 := by
                unfold skB
                rw [if_pos (by omega), hKy83, hKy77]
              have hR : skR tb Ky57 j ro9 = rovy81 := by
                unfold skR
                rw [if_pos (by omega), hrovy81]
              have hs2 : skZ tb j Ky82 rovy81 = skZ tb n K ro := by
                rw [← hsk]
                show _ = skZ tb j (skB tb (skA K9 j) j) (skR tb (skA K9 j) j ro9)
                rw [hA, hB, hR]
              exact ih _ (by omega) ((j : Int) - 1) Ky82 rovy81 rvy81 j gvy81 rfl ⟨hpvy81.1, hpvy81.2⟩ (fun j j1 j2 => by rw [hfvy81 _ (by omega) (by omega)]; rw [egy72, va_up_ne _ _ (by omega)]; rw [hfvy56 _ (by omega) (by omega)]; exact f3 j j1 j2) (by omega) (by omega) hCvy81 hOvy81.1 (by omega) hs2
  refine z_aload_n C 0 dX3_freezeAndSink_0 rfl ?_
  refine z_get (v := .int (zI (sz))) C (lt_A0 hN rfl) hay1 ha.1 rfl inA_X3 0 (by decide) q_154 rfl rfl dX3_freezeAndSink_1 ?_
  refine z_iconst (z := 1) C dX3_freezeAndSink_4 rfl ?_
  refine z_isub C dX3_freezeAndSink_5 ?_
  refine z_istore_n (lv' := [(2, .int (zI (sz - 1))), (0, .ref (ad a)), (1, .ref (ad b))]) C dX3_freezeAndSink_6 rfl (by decide) rfl ?_
  refine z_lv (lv' := [(2, .int (zI (sz - 1))), (0, .ref (ad a)), (1, .ref (ad b))]) [0, 1, 2] rfl ?_
  exact lp _ (sz - 1) K ro r n _ rfl ⟨ha.1, ha.2⟩ (fun j j1 j2 => by rfl) (by omega) (by omega) hC hO (by omega) rfl
end
section
-- 9ke.pq4.lean.txt
set_option maxRecDepth 100000 in
set_option maxHeartbeats 4000000 in
theorem c_pPress (l : Launch) (D : va_G) (A : Nat → Prop) (cs : Nat → ClassId) (tt : Nat) (N : Nat) (ad : Nat → Nat) (g : Nat → va_E) (a : Nat) (hN : a + 2 ≤ N) (sz ro : Int) (r : Nat → Int) (hz : 0 ≤ sz ∧ sz ≤ 12) (ha : isPack cs ad g a sz ro r) (n : Nat) (K : Nat → Int) (hn : sz = (n : Int)) (hC : ∀ j f, j < n → f < 7 → r (12 * f + j) = K (7 * j + f)) (hO : okP K n) (b : Nat) (hNb : b + 7 ≤ N) (sl ho ua : Int) (st op ai fa mu tb : Nat → Int) (hb : isPlan cs ad g b sl ho ua st op ai fa mu tb) (ht : okTb tb) (hab : b + 7 ≤ a ∨ a + 2 ≤ b) (hdz : dZ K n + sZ K n ≤ 400000000) : zM l yX3_press cX3_press 11 none ({ frames := 2, cells := 0, slots := 0, locals := 120 } : Room) D A cs tt N ad g [.ref (ad a), .ref (ad b)] (rV0 N ad fun g' => (∃ r' : Nat → Int, isPack cs ad g' a (sz) (ro) r' ∧ ∀ y f, y < n → f < 7 → r' (12 * f + y) = (stK K n 3 0 (fun l => prZ tb K n l)) (7 * y + f)) ∧ ∀ q, q ≠ a → q ≠ a + 1 → g' q = g q) := by
  have hay1 : zAt ad (a) (ad a) := rfl
  have hay2 : zAt ad (a + 1) (ad (a + 1)) := rfl
  have hay3 : zAt ad (b) (ad b) := rfl
  have hay4 : zAt ad (b + 1) (ad (b + 1)) := rfl
  have hay5 : zAt ad (b + 2) (ad (b + 2)) := rfl
  have hay6 : zAt ad (b + 3) (ad (b + 3)) := rfl
  have hay7 : zAt ad (b + 4) (ad (b + 4)) := rfl
  have hay8 : zAt ad (b + 5) (ad (b + 5)) := rfl
  have hay9 : zAt ad (b + 6) (ad (b + 6)) := rfl
  have hn12 := hO.1
  refine z_of (by decide) (Nat.le_of_ble_eq_true rfl) ?_
  intro p e s m below meth c C hr hlk hnm
  refine z_lv (lv' := [(0, .ref (ad a)), (1, .ref (ad b))]) [0, 1] rfl ?_
  have lp : ∀ (n9 : Nat) (i : Int) (al : Int) (K9 : Nat → Int) (r9 : Nat → Int) (k : Nat) (g1 : Nat → va_E), (i + 1).toNat = n9 → (isPack cs ad g1 a sz ro r9) → (∀ q, q ≠ a → q ≠ a + 1 → g1 q = g q) → (i = (k : Int) - 1) → (k ≤ n) → (∀ j f, j < n → f < 7 → r9 (12 * f + j) = K9 (7 * j + f)) → (K9 = stK K n 3 k (fun l => prZ tb K n l)) → (al = upZ K n k + 0) → zV p l e ({ frames := 2, cells := 0, slots := 0, locals := 120 } : Room) s m ([.ref (ad a), .ref (ad b)] : List Value).toArray below meth c (MQ below (zPost D A (rV0 N ad fun g' => (∃ r' : Nat → Int, isPack cs ad g' a (sz) (ro) r' ∧ ∀ y f, y < n → f < 7 → r' (12 * f + y) = (stK K n 3 0 (fun l => prZ tb K n l)) (7 * y + f)) ∧ ∀ q, q ≠ a → q ≠ a + 1 → g' q = g q)) ([.ref (ad a), .ref (ad b)] : List Value).toArray s ({ frames := 2, cells := 0, slots := 0, locals := 120 } : Room).cells ({ frames := 2, cells := 0, slots := 0, locals := 120 } : Room).slots A) D A 11 (N) ad g1 (0) (0) 9 [(3, .int (zI (i))), (2, .int (zI (al))), (0, .ref (ad a)), (1, .ref (ad b))] [] := by
    intro n9
    induction n9 using Nat.strongRecOn with
    | ind n9 ih =>
      intro i al K9 r9 k g1 hm9 p9 f3 hik hkn hC9 hK9 hal
      have hay10 : zAt ad (a) (ad a) := rfl
      have hay11 : zAt ad (a + 1) (ad (a + 1)) := rfl
      have hay12 : zAt ad (b) (ad b) := rfl
      have hay13 : zAt ad (b + 1) (ad (b + 1)) := rfl
      have hay14 : zAt ad (b + 2) (ad (b + 2)) := rfl
      have hay15 : zAt ad (b + 3) (ad (b + 3)) := rfl
      have hay16 : zAt ad (b + 4) (ad (b + 4)) := rfl
      have hay17 : zAt ad (b + 5) (ad (b + 5)) := rfl
      have hay18 : zAt ad (b + 6) (ad (b + 6)) := rfl
      have hup := sZ_n hO (k := k) (by omega)
      have hal0 : 0 ≤ al ∧ al ≤ 138500 := by unfold upZ at hal; omega
      obtain ⟨hO9, hM9⟩ := prs_ok (k := k) ht hO hdz
      rw [← hK9] at hO9 hM9
      by_cases hk0 : k = 0
      · subst hk0
        have hi0 : i = -1 := by omega
        refine z_iload_n C 0 dX3_press_9 rfl ?_
        refine z_if_lt (tgt := 100) C dX3_press_10 (by decide) (by omega) (fun _ => ?_) (fun h => absurd h (by omega))
        rw [hK9] at hC9
        exact z_vret C hr hlk dX3_press_100 (by decide) (by decide) ⟨rfl, rfl, rfl, ⟨_, ⟨p9.1, p9.2⟩, hC9⟩, fun j j1 j2 => by exact f3 j j1 j2⟩
      · obtain ⟨j, rfl⟩ : ∃ j, k = j + 1 := ⟨k - 1, by omega⟩
        obtain rfl : i = (j : Int) := by omega
        obtain ⟨hab, has⟩ := upZ_s hal
        have hab2 : al = abZ K n j := by omega
        have e3 : K9 (7 * j + 3) = K (7 * j + 3) := by rw [hK9]; exact stK_o (by omega)
        have e0 : K9 (7 * j) = K (7 * j) := by rw [hK9]; exact stK_o (by omega)
        have eM := hM9 j (by omega)
        obtain ⟨hd1, hd2, hd3⟩ := prD_b ht hO (l := j) (by omega)
        rw [← hab2] at hd2 hd3
        refine z_iload_n C 0 dX3_press_9 rfl ?_
        refine z_if_lt (tgt := 100) C dX3_press_10 (by decide) (by omega) (fun h => absurd h (by omega)) (fun _ => ?_)
        refine z_aload_n C 2 dX3_press_13 rfl ?_
        refine z_iload_n C 0 dX3_press_14 rfl ?_
        refine z_cV (As := [.int (zI ((j : Int)))]) (rest := []) (ci := 5) C (c_pMass l D A cs tt N ad _ a hN _ _ _ hz ⟨p9.1, p9.2⟩ n K9 hn hC9 hO9 j (by omega)) (lt_A0 hN rfl) hay10 p9.1 rfl rfl mv_yX3_mass q_510 hd_yX3_mass (by decide) (Nat.le_of_ble_eq_true rfl) (by decide) dX3_press_15 rfl (kI0 fun vy19 gvy19 hvy19 => ?_)
        obtain ⟨rfl, rfl⟩ := hvy19
        have hmy20 := hO9.mz (l := j) (by omega)
        rw [eM]
        have hmK := hO.mz (l := j) (by omega)
        refine z_istore (lv' := [(4, .int (zI (mZ K j))), (3, .int (zI ((j : Int)))), (2, .int (zI (al))), (0, .ref (ad a)), (1, .ref (ad b))]) C dX3_press_18 (by decide) rfl ?_
        refine z_aload_n C 3 dX3_press_20 rfl ?_
        refine z_get (v := .ref (ad (a + 1))) C (lt_A0 hN rfl) hay10 p9.1 rfl inA_X3 2 (by decide) q_162 rfl rfl dX3_press_21 ?_
        refine z_bipush (z := 36) C dX3_press_24 (by decide) ?_
        refine z_iload_n C 1 dX3_press_26 rfl ?_
        refine z_iadd C dX3_press_27 ?_
        refine z_iald C (lt_A (c := 1) hN rfl) hay11 p9.2 (36 + j) (by omega) (by omega) (by decide) dX3_press_28 ?_
        obtain ⟨⟨qy210, qy211, qy212, qy213, qy214, qy215, qy216⟩, qy219⟩ := hO9.ly (l := j) (by omega)
        rw [show r9 (36 + j) = K9 (7 * j + 3) from hC9 j 3 (by omega) (by decide)]
        rw [e3]
        refine z_i2l C dX3_press_29 (by omega) ?_
        refine z_lstore (lv' := [(5, .long (zJ (K (7 * j + 3)))), (4, .int (zI (mZ K j))), (3, .int (zI ((j : Int)))), (2, .int (zI (al))), (0, .ref (ad a)), (1, .ref (ad b))]) C dX3_press_30 (by decide) rfl ?_
        refine z_iload_n C 3 dX3_press_32 rfl ?_
        refine z_iload C 1 dX3_press_33 rfl ?_
        refine z_iconst (z := 2) C dX3_press_35 rfl ?_
        refine z_idiv C dX3_press_36 (by omega) (by omega) (by omega) ?_
        refine z_iadd C dX3_press_37 ?_
        refine z_i2l C dX3_press_38 (by omega) ?_
        refine z_lstore (lv' := [(7, .long (zJ (al + ((mZ K j).tdiv 2)))), (5, .long (zJ (K (7 * j + 3)))), (4, .int (zI (mZ K j))), (3, .int (zI ((j : Int)))), (2, .int (zI (al))), (0, .ref (ad a)), (1, .ref (ad b))]) C dX3_press_39 (by decide) rfl ?_
        refine z_aload_n C 6 dX3_press_41 rfl ?_
        refine z_bipush (z := 10) C dX3_press_42 (by decide) ?_
        refine z_aload_n C 5 dX3_press_44 rfl ?_
        refine z_get (v := .ref (ad (a + 1))) C (lt_A0 hN rfl) hay10 p9.1 rfl inA_X3 2 (by decide) q_162 rfl rfl dX3_press_45 ?_
        refine z_iconst (z := 0) C dX3_press_48 rfl ?_
        refine z_iload_n C 3 dX3_press_49 rfl ?_
        refine z_iadd C dX3_press_50 ?_
        refine z_iald C (lt_A (c := 1) hN rfl) hay11 p9.2 (0 + j) (by omega) (by omega) (by decide) dX3_press_51 ?_
        rw [show r9 (0 + j) = K9 (7 * j) from hC9 j 0 (by omega) (by decide)]
        rw [e0]
        refine z_cV (As := [.int (zI (10)), .int (zI (K (7 * j)))]) (rest := []) (ci := 7) C (c_pOf l D A cs tt N ad _ (b) (by omega) _ _ _ _ _ _ _ _ _ ⟨((f3 _ (by omega) (by omega)).trans hb.1), ((f3 _ (by omega) (by omega)).trans hb.2.1), ((f3 _ (by omega) (by omega)).trans hb.2.2.1), ((f3 _ (by omega) (by omega)).trans hb.2.2.2.1), ((f3 _ (by omega) (by omega)).trans hb.2.2.2.2.1), ((f3 _ (by omega) (by omega)).trans hb.2.2.2.2.2.1), ((f3 _ (by omega) (by omega)).trans hb.2.2.2.2.2.2)⟩ (10) (K (7 * j)) ((10 : Int) + K (7 * j)).toNat (by omega) (by omega) (by omega) (by omega)) (by omega) hay12 ((f3 _ (by omega) (by omega)).trans hb.1) rfl rfl mv_yX5_of q_502 hd_yX5_of (by decide) (Nat.le_of_ble_eq_true rfl) (by decide) dX3_press_52 rfl (kI0 fun vy22 gvy22 hvy22 => ?_)
        obtain ⟨rfl, rfl⟩ := hvy22
        have hty23 := ht.2 ((10 : Int) + K (7 * j)).toNat (by omega) (by omega)
        refine z_iconst (z := 1) C dX3_press_55 rfl ?_
        refine z_mmax C q_469 q_470 q_20 q_471 (by omega) (by omega) (by decide) (Nat.le_of_ble_eq_true rfl) (by decide) (by decide) dX3_press_56 ?_
        obtain ⟨xy24, exy25, hxy26⟩ := mm_max (tb ((10 : Int) + K (7 * j)).toNat) (1)
        rw [exy25]
        obtain rfl : xy24 = tb ((10 : Int) + K (7 * j)).toNat := by omega
        refine z_i2l C dX3_press_59 (by omega) ?_
        refine z_lstore (lv' := [(9, .long (zJ (tb ((10 : Int) + K (7 * j)).toNat))), (7, .long (zJ (al + ((mZ K j).tdiv 2)))), (5, .long (zJ (K (7 * j + 3)))), (4, .int (zI (mZ K j))), (3, .int (zI ((j : Int)))), (2, .int (zI (al))), (0, .ref (ad a)), (1, .ref (ad b))]) C dX3_press_60 (by decide) rfl ?_
        refine z_aload_n C 6 dX3_press_62 rfl ?_
        refine z_get (v := .ref (ad (a + 1))) C (lt_A0 hN rfl) hay10 p9.1 rfl inA_X3 2 (by decide) q_162 rfl rfl dX3_press_63 ?_
        refine z_bipush (z := 36) C dX3_press_66 (by decide) ?_
        refine z_iload_n C 4 dX3_press_68 rfl ?_
        refine z_iadd C dX3_press_69 ?_
        refine z_lload C 2 dX3_press_70 rfl ?_
        refine z_lload C 2 dX3_press_72 rfl ?_
        refine z_lload C 1 dX3_press_74 rfl ?_
        refine z_lmul C dX3_press_76 ?_
        refine z_lload C 0 dX3_press_77 rfl ?_
        refine z_ldiv C dX3_press_79 (by omega) (by omega) (by omega) ?_
        refine z_lsub C dX3_press_80 ?_
        refine z_iload C 3 dX3_press_81 rfl ?_
        refine z_i2l C dX3_press_83 (by omega) ?_
        refine z_lmaxx C q_514 q_515 q_20 q_516 (by omega) (by omega) (by decide) (Nat.le_of_ble_eq_true rfl) (by decide) (by decide) dX3_press_84 ?_
        obtain ⟨xy27, exy28, hxy29⟩ := mm_maxl ((K (7 * j + 3)) - (((K (7 * j + 3)) * (al + ((mZ K j).tdiv 2))).tdiv (tb ((10 : Int) + K (7 * j)).toNat))) (mZ K j)
        rw [exy28]
        refine z_l2i C dX3_press_87 ?_
        refine z_iast C (lt_A (c := 1) hN rfl) hay11 p9.2 (36 + j) (by omega) (by omega) (by decide) dX3_press_88 (fun gy30 egy31 => ?_)
        have hgy32 := up_s egy31
        obtain ⟨ry33, hvy34⟩ : ∃ rZ9 : Nat → Int, rZ9 = uZ r9 (36 + j) (xy27) := ⟨_, rfl⟩
        rw [← hvy34] at hgy32
        obtain ⟨Ky35, hKy36⟩ : ∃ KZ9 : Nat → Int, KZ9 = uZ K9 (7 * j + 3) (xy27) := ⟨_, rfl⟩
        have hCy37 := lay_u hC9 hvy34 hKy36 (by omega) (by omega) (by omega) (by decide)
        refine z_iload_n C 5 dX3_press_89 rfl ?_
        refine z_iload C 3 dX3_press_90 rfl ?_
        refine z_iadd C dX3_press_92 ?_
        refine z_istore_n (lv' := [(2, .int (zI (al + (mZ K j)))), (9, .long (zJ (tb ((10 : Int) + K (7 * j)).toNat))), (7, .long (zJ (al + ((mZ K j).tdiv 2)))), (5, .long (zJ (K (7 * j + 3)))), (4, .int (zI (mZ K j))), (3, .int (zI ((j : Int)))), (0, .ref (ad a)), (1, .ref (ad b))]) C dX3_press_93 rfl (by decide) rfl ?_
        refine z_iinc (z := (j : Int) - 1) (lv' := [(3, .int (zI ((j : Int) - 1))), (2, .int (zI (al + (mZ K j)))), (9, .long (zJ (tb ((10 : Int) + K (7 * j)).toNat))), (7, .long (zJ (al + ((mZ K j).tdiv 2)))), (5, .long (zJ (K (7 * j + 3)))), (4, .int (zI (mZ K j))), (0, .ref (ad a)), (1, .ref (ad b))]) (j := 5) C dX3_press_94 rfl (congrArg zI (by omega)) (by decide) rfl ?_
        refine z_goto (tgt := 9) C dX3_press_97 (by decide) ?_
        refine z_lv (lv' := [(3, .int (zI ((j : Int) - 1))), (2, .int (zI (al + (mZ K j)))), (0, .ref (ad a)), (1, .ref (ad b))]) [0, 1, 6, 7] rfl ?_
        have hx : xy27 = prZ tb K n j := by unfold prZ prD; rw [← hab2]; split <;> omega
        have hKn : Ky35 = stK K n 3 j (fun l => prZ tb K n l) := by rw [hKy36, hx, hK9]; exact stK_step (v := (fun l => prZ tb K n l)) (by decide) (by omega)
        have hgy38 := up_n egy31 p9.1 (ne_o (i := a) (c := 0) (d := 1) rfl)
        exact ih _ (by omega) ((j : Int) - 1) (al + (mZ K j)) Ky35 ry33 j gy30 rfl ⟨hgy38, hgy32⟩ (fun j j1 j2 => by rw [egy31, va_up_ne _ _ (by omega)]; exact f3 j j1 j2) (by omega) (by omega) hCy37 hKn (by omega)
  refine z_iconst (z := 0) C dX3_press_0 rfl ?_
  refine z_istore_n (lv' := [(2, .int (zI (0))), (0, .ref (ad a)), (1, .ref (ad b))]) C dX3_press_1 rfl (by decide) rfl ?_
  refine z_aload_n C 1 dX3_press_2 rfl ?_
  refine z_get (v := .int (zI (sz))) C (lt_A0 hN rfl) hay1 ha.1 rfl inA_X3 0 (by decide) q_154 rfl rfl dX3_press_3 ?_
  refine z_iconst (z := 1) C dX3_press_6 rfl ?_
  refine z_isub C dX3_press_7 ?_
  refine z_istore_n (lv' := [(3, .int (zI (sz - 1))), (2, .int (zI (0))), (0, .ref (ad a)), (1, .ref (ad b))]) C dX3_press_8 rfl (by decide) rfl ?_
  refine z_lv (lv' := [(3, .int (zI (sz - 1))), (2, .int (zI (0))), (0, .ref (ad a)), (1, .ref (ad b))]) [0, 1, 2, 3] rfl ?_
  exact lp _ (sz - 1) (0) K r n _ rfl ⟨ha.1, ha.2⟩ (fun j j1 j2 => by rfl) (by omega) (by omega) hC (stK_n K n 3 _).symm (by rw [upZ_n]; omega)

set_option maxRecDepth 100000 in
set_option maxHeartbeats 4000000 in
theorem c_pEven (l : Launch) (D : va_G) (A : Nat → Prop) (cs : Nat → ClassId) (tt : Nat) (N : Nat) (ad : Nat → Nat) (g : Nat → va_E) (a : Nat) (hN : a + 2 ≤ N) (sz ro : Int) (r : Nat → Int) (hz : 0 ≤ sz ∧ sz ≤ 12) (ha : isPack cs ad g a sz ro r) (n : Nat) (K : Nat → Int) (hn : sz = (n : Int)) (hC : ∀ j f, j < n → f < 7 → r (12 * f + j) = K (7 * j + f)) (hO : okP K n) : zM l yX3_evenTemps cX3_evenTemps 5 none ({ frames := 2, cells := 0, slots := 0, locals := 120 } : Room) D A cs tt N ad g [.ref (ad a)] (rV0 N ad fun g' => (∃ r' : Nat → Int, isPack cs ad g' a (sz) (ro) r' ∧ ∀ y f, y < n → f < 7 → r' (12 * f + y) = (stK K n 4 0 (fun l => evZ K n l)) (7 * y + f)) ∧ ∀ q, q ≠ a → q ≠ a + 1 → g' q = g q) := by
  have hay1 : zAt ad (a) (ad a) := rfl
  have hay2 : zAt ad (a + 1) (ad (a + 1)) := rfl
  have hn12 := hO.1
  refine z_of (by decide) (Nat.le_of_ble_eq_true rfl) ?_
  intro p e s m below meth c C hr hlk hnm
  refine z_lv (lv' := [(0, .ref (ad a))]) [0] rfl ?_
  have lp : ∀ (n9 : Nat) (i : Int) (dn : Int) (K9 : Nat → Int) (r9 : Nat → Int) (k : Nat) (g1 : Nat → va_E), (13 - i).toNat = n9 → (isPack cs ad g1 a sz ro r9) → (∀ q, q ≠ a → q ≠ a + 1 → g1 q = g q) → (i = (k : Int)) → (k ≤ n) → (∀ j f, j < n → f < 7 → r9 (12 * f + j) = K9 (7 * j + f)) → (K9 = stK K k 4 0 (fun l => evZ K n l)) → (k < n → dn = dnE K k) → (-38 ≤ dn ∧ dn ≤ 38) → zV p l e ({ frames := 2, cells := 0, slots := 0, locals := 120 } : Room) s m ([.ref (ad a)] : List Value).toArray below meth c (MQ below (zPost D A (rV0 N ad fun g' => (∃ r' : Nat → Int, isPack cs ad g' a (sz) (ro) r' ∧ ∀ y f, y < n → f < 7 → r' (12 * f + y) = (stK K n 4 0 (fun l => evZ K n l)) (7 * y + f)) ∧ ∀ q, q ≠ a → q ≠ a + 1 → g' q = g q)) ([.ref (ad a)] : List Value).toArray s ({ frames := 2, cells := 0, slots := 0, locals := 120 } : Room).cells ({ frames := 2, cells := 0, slots := 0, locals := 120 } : Room).slots A) D A 5 (N) ad g1 (0) (0) 24 [(2, .int (zI (i))), (1, .int (zI (dn))), (0, .ref (ad a))] [] := by
    intro n9
    induction n9 using Nat.strongRecOn with
    | ind n9 ih =>
      intro i dn K9 r9 k g1 hm9 p9 f3 hik hkn hC9 hK9 hdn hdb
      have hay3 : zAt ad (a) (ad a) := rfl
      have hay4 : zAt ad (a + 1) (ad (a + 1)) := rfl
      subst hik
      refine z_iload_n C 0 dX3_evenTemps_24 rfl ?_
      refine z_aload_n C 2 dX3_evenTemps_25 rfl ?_
      refine z_get (v := .int (zI (sz))) C (lt_A0 hN rfl) hay3 p9.1 rfl inA_X3 0 (by decide) q_154 rfl rfl dX3_evenTemps_26 ?_
      refine z_icmp_ge (tgt := 102) C dX3_evenTemps_29 (by decide) (by omega) (by omega) (fun hby5 => ?_) (fun hby5 => ?_)
      · obtain rfl : k = n := by omega
        rw [hK9] at hC9
        exact z_vret C hr hlk dX3_evenTemps_102 (by decide) (by decide) ⟨rfl, rfl, rfl, ⟨_, ⟨p9.1, p9.2⟩, hC9⟩, fun j j1 j2 => by exact f3 j j1 j2⟩
      · refine z_aload_n C 2 dX3_evenTemps_32 rfl ?_
        refine z_get (v := .ref (ad (a + 1))) C (lt_A0 hN rfl) hay3 p9.1 rfl inA_X3 2 (by decide) q_162 rfl rfl dX3_evenTemps_33 ?_
        refine z_bipush (z := 48) C dX3_evenTemps_36 (by decide) ?_
        refine z_iload_n C 0 dX3_evenTemps_38 rfl ?_
        refine z_iadd C dX3_evenTemps_39 ?_
        refine z_iald C (lt_A (c := 1) hN rfl) hay4 p9.2 (48 + k) (by omega) (by omega) (by decide) dX3_evenTemps_40 ?_
        obtain ⟨⟨qy60, qy61, qy62, qy63, qy64, qy65, qy66⟩, qy69⟩ := hO.ly (l := k) (by omega)
        rw [show r9 (48 + k) = K9 (7 * k + 4) from hC9 k 4 (by omega) (by decide)]
        rw [show K9 (7 * k + 4) = K (7 * k + 4) from (congrFun hK9 _).trans (stK_o (by omega))]
        refine z_istore_n (lv' := [(3, .int (zI (K (7 * k + 4)))), (2, .int (zI ((k : Int)))), (1, .int (zI (dn))), (0, .ref (ad a))]) C dX3_evenTemps_41 rfl (by decide) rfl ?_
        refine z_iload_n C 1 dX3_evenTemps_42 rfl ?_
        refine z_iconst (z := 1) C dX3_evenTemps_43 rfl ?_
        refine z_iadd C dX3_evenTemps_44 ?_
        refine z_aload_n C 3 dX3_evenTemps_45 rfl ?_
        refine z_get (v := .int (zI (sz))) C (lt_A0 hN rfl) hay3 p9.1 rfl inA_X3 0 (by decide) q_154 rfl rfl dX3_evenTemps_46 ?_
        refine z_icmp_ge (tgt := 71) C dX3_evenTemps_49 (by decide) (by omega) (by omega) (fun hby7 => ?_) (fun hby7 => ?_)
        · refine z_iconst (z := 0) C dX3_evenTemps_71 rfl ?_
          refine z_istore (lv' := [(4, .int (zI (0))), (3, .int (zI (K (7 * k + 4)))), (2, .int (zI ((k : Int)))), (1, .int (zI (dn))), (0, .ref (ad a))]) C dX3_evenTemps_72 (by decide) rfl ?_
          refine z_aload_n C 4 dX3_evenTemps_74 rfl ?_
          refine z_get (v := .ref (ad (a + 1))) C (lt_A0 hN rfl) hay3 p9.1 rfl inA_X3 2 (by decide) q_162 rfl rfl dX3_evenTemps_75 ?_
          refine z_bipush (z := 48) C dX3_evenTemps_78 (by decide) ?_
          refine z_iload_n C 2 dX3_evenTemps_80 rfl ?_
          refine z_iadd C dX3_evenTemps_81 ?_
          refine z_iload_n C 1 dX3_evenTemps_82 rfl ?_
          refine z_iload_n C 3 dX3_evenTemps_83 rfl ?_
          refine z_isub C dX3_evenTemps_84 ?_
          refine z_iload C 0 dX3_evenTemps_85 rfl ?_
          refine z_iadd C dX3_evenTemps_87 ?_
          refine z_iconst (z := 0) C dX3_evenTemps_88 rfl ?_
          refine z_mmin C q_483 q_473 q_20 q_474 (by omega) (by omega) (by decide) (Nat.le_of_ble_eq_true rfl) (by decide) (by decide) dX3_evenTemps_89 ?_
          obtain ⟨xy8, exy9, hxy10⟩ := mm_min (((K (7 * k + 4)) - dn) + 0) (0)
          rw [exy9]
          refine z_iast C (lt_A (c := 1) hN rfl) hay4 p9.2 (48 + k) (by omega) (by omega) (by decide) dX3_evenTemps_92 (fun gy11 egy12 => ?_)
          have hgy13 := up_s egy12
          obtain ⟨ry14, hvy15⟩ : ∃ rZ9 : Nat → Int, rZ9 = uZ r9 (48 + k) (xy8) := ⟨_, rfl⟩
          rw [← hvy15] at hgy13
          obtain ⟨Ky16, hKy17⟩ : ∃ KZ9 : Nat → Int, KZ9 = uZ K9 (7 * k + 4) (xy8) := ⟨_, rfl⟩
          have hCy18 := lay_u hC9 hvy15 hKy17 (by omega) (by omega) (by omega) (by decide)
          refine z_iload C 0 dX3_evenTemps_93 rfl ?_
          refine z_istore_n (lv' := [(1, .int (zI (0))), (4, .int (zI (0))), (3, .int (zI (K (7 * k + 4)))), (2, .int (zI ((k : Int)))), (0, .ref (ad a))]) C dX3_evenTemps_95 rfl (by decide) rfl ?_
          refine z_iinc (z := (k : Int) + 1) (lv' := [(2, .int (zI ((k : Int) + 1))), (1, .int (zI (0))), (4, .int (zI (0))), (3, .int (zI (K (7 * k + 4)))), (0, .ref (ad a))]) (j := 3) C dX3_evenTemps_96 rfl rfl (by decide) rfl ?_
          refine z_goto (tgt := 24) C dX3_evenTemps_99 (by decide) ?_
          refine z_lv (lv' := [(2, .int (zI ((k : Int) + 1))), (1, .int (zI (0))), (0, .ref (ad a))]) [0, 1, 4] rfl ?_
          have hdn2 := hdn (by omega)
          have hup2 : (0 : Int) = upE K n k := by unfold upE; rw [if_neg (by omega)]
          have hx : xy8 = evZ K n k := by unfold evZ mnZ; rw [← hdn2, ← hup2]; split <;> omega
          have hKn : Ky16 = stK K (k + 1) 4 0 (fun l => evZ K n l) := by rw [hKy17, hx, hK9]; exact stK_up (v := (fun l => evZ K n l)) (by decide)
          have hgy19 := up_n egy12 p9.1 (ne_o (i := a) (c := 0) (d := 1) rfl)
          exact ih _ (by omega) ((k : Int) + 1) (0) Ky16 ry14 (k + 1) gy11 rfl ⟨hgy19, hgy13⟩ (fun j j1 j2 => by rw [egy12, va_up_ne _ _ (by omega)]; exact f3 j j1 j2) (by omega) (by omega) hCy18 hKn (fun h9 => absurd h9 (by omega)) (by omega)
        · refine z_aload_n C 3 dX3_evenTemps_52 rfl ?_
          refine z_get (v := .ref (ad (a + 1))) C (lt_A0 hN rfl) hay3 p9.1 rfl inA_X3 2 (by decide) q_162 rfl rfl dX3_evenTemps_53 ?_
          refine z_bipush (z := 48) C dX3_evenTemps_56 (by decide) ?_
          refine z_iload_n C 1 dX3_evenTemps_58 rfl ?_
          refine z_iadd C dX3_evenTemps_59 ?_
          refine z_iconst (z := 1) C dX3_evenTemps_60 rfl ?_
          refine z_iadd C dX3_evenTemps_61 ?_
          refine z_iald C (lt_A (c := 1) hN rfl) hay4 p9.2 (48 + (k + 1)) (by omega) (by omega) (by decide) dX3_evenTemps_62 ?_
          obtain ⟨⟨qy200, qy201, qy202, qy203, qy204, qy205, qy206⟩, qy209⟩ := hO.ly (l := (k + 1)) (by omega)
          rw [show r9 (48 + (k + 1)) = K9 (7 * (k + 1) + 4) from hC9 (k + 1) 4 (by omega) (by decide)]
          rw [show K9 (7 * (k + 1) + 4) = K (7 * (k + 1) + 4) from (congrFun hK9 _).trans (stK_o (by omega))]
          refine z_iload_n C 0 dX3_evenTemps_63 rfl ?_
          refine z_isub C dX3_evenTemps_64 ?_
          refine z_bipush (z := 8) C dX3_evenTemps_65 (by decide) ?_
          refine z_idiv C dX3_evenTemps_67 (by omega) (by omega) (by omega) ?_
          have htdy21 := tdb8 (a := (K (7 * (k + 1) + 4)) - (K (7 * k + 4))) (by omega)
          refine z_goto (tgt := 72) C dX3_evenTemps_68 (by decide) ?_
          refine z_istore (lv' := [(4, .int (zI (((K (7 * (k + 1) + 4)) - (K (7 * k + 4))).tdiv 8))), (3, .int (zI (K (7 * k + 4)))), (2, .int (zI ((k : Int)))), (1, .int (zI (dn))), (0, .ref (ad a))]) C dX3_evenTemps_72 (by decide) rfl ?_
          refine z_aload_n C 4 dX3_evenTemps_74 rfl ?_
          refine z_get (v := .ref (ad (a + 1))) C (lt_A0 hN rfl) hay3 p9.1 rfl inA_X3 2 (by decide) q_162 rfl rfl dX3_evenTemps_75 ?_
          refine z_bipush (z := 48) C dX3_evenTemps_78 (by decide) ?_
          refine z_iload_n C 2 dX3_evenTemps_80 rfl ?_
          refine z_iadd C dX3_evenTemps_81 ?_
          refine z_iload_n C 1 dX3_evenTemps_82 rfl ?_
          refine z_iload_n C 3 dX3_evenTemps_83 rfl ?_
          refine z_isub C dX3_evenTemps_84 ?_
          refine z_iload C 0 dX3_evenTemps_85 rfl ?_
          refine z_iadd C dX3_evenTemps_87 ?_
          refine z_iconst (z := 0) C dX3_evenTemps_88 rfl ?_
          refine z_mmin C q_483 q_473 q_20 q_474 (by omega) (by omega) (by decide) (Nat.le_of_ble_eq_true rfl) (by decide) (by decide) dX3_evenTemps_89 ?_
          obtain ⟨xy22, exy23, hxy24⟩ := mm_min (((K (7 * k + 4)) - dn) + (((K (7 * (k + 1) + 4)) - (K (7 * k + 4))).tdiv 8)) (0)
          rw [exy23]
          refine z_iast C (lt_A (c := 1) hN rfl) hay4 p9.2 (48 + k) (by omega) (by omega) (by decide) dX3_evenTemps_92 (fun gy25 egy26 => ?_)
          have hgy27 := up_s egy26
          obtain ⟨ry28, hvy29⟩ : ∃ rZ9 : Nat → Int, rZ9 = uZ r9 (48 + k) (xy22) := ⟨_, rfl⟩
          rw [← hvy29] at hgy27
          obtain ⟨Ky30, hKy31⟩ : ∃ KZ9 : Nat → Int, KZ9 = uZ K9 (7 * k + 4) (xy22) := ⟨_, rfl⟩
          have hCy32 := lay_u hC9 hvy29 hKy31 (by omega) (by omega) (by omega) (by decide)
          refine z_iload C 0 dX3_evenTemps_93 rfl ?_
          refine z_istore_n (lv' := [(1, .int (zI (((K (7 * (k + 1) + 4)) - (K (7 * k + 4))).tdiv 8))), (4, .int (zI (((K (7 * (k + 1) + 4)) - (K (7 * k + 4))).tdiv 8))), (3, .int (zI (K (7 * k + 4)))), (2, .int (zI ((k : Int)))), (0, .ref (ad a))]) C dX3_evenTemps_95 rfl (by decide) rfl ?_
          refine z_iinc (z := (k : Int) + 1) (lv' := [(2, .int (zI ((k : Int) + 1))), (1, .int (zI (((K (7 * (k + 1) + 4)) - (K (7 * k + 4))).tdiv 8))), (4, .int (zI (((K (7 * (k + 1) + 4)) - (K (7 * k + 4))).tdiv 8))), (3, .int (zI (K (7 * k + 4)))), (0, .ref (ad a))]) (j := 3) C dX3_evenTemps_96 rfl rfl (by decide) rfl ?_
          refine z_goto (tgt := 24) C dX3_evenTemps_99 (by decide) ?_
          refine z_lv (lv' := [(2, .int (zI ((k : Int) + 1))), (1, .int (zI (((K (7 * (k + 1) + 4)) - (K (7 * k + 4))).tdiv 8))), (0, .ref (ad a))]) [0, 1, 4] rfl ?_
          have hdn2 := hdn (by omega)
          have hup2 : ((K (7 * (k + 1) + 4)) - (K (7 * k + 4))).tdiv 8 = upE K n k := by unfold upE; rw [if_pos (by omega)]
          have hx : xy22 = evZ K n k := by unfold evZ mnZ; rw [← hdn2, ← hup2]; split <;> omega
          have hKn : Ky30 = stK K (k + 1) 4 0 (fun l => evZ K n l) := by rw [hKy31, hx, hK9]; exact stK_up (v := (fun l => evZ K n l)) (by decide)
          have hgy33 := up_n egy26 p9.1 (ne_o (i := a) (c := 0) (d := 1) rfl)
          exact ih _ (by omega) ((k : Int) + 1) (((K (7 * (k + 1) + 4)) - (K (7 * k + 4))).tdiv 8) Ky30 ry28 (k + 1) gy25 rfl ⟨hgy33, hgy27⟩ (fun j j1 j2 => by rw [egy26, va_up_ne _ _ (by omega)]; exact f3 j j1 j2) (by omega) (by omega) hCy32 hKn (fun h9 => by unfold dnE; rw [if_neg (by omega)]; rfl) (by omega)
  refine z_aload_n C 0 dX3_evenTemps_0 rfl ?_
  refine z_get (v := .int (zI (sz))) C (lt_A0 hN rfl) hay1 ha.1 rfl inA_X3 0 (by decide) q_154 rfl rfl dX3_evenTemps_1 ?_
  refine z_if_le (tgt := 20) C dX3_evenTemps_4 (by decide) (by omega) (fun hby34 => ?_) (fun hby34 => ?_)
  · refine z_iconst (z := 0) C dX3_evenTemps_20 rfl ?_
    refine z_istore_n (lv' := [(1, .int (zI (0))), (0, .ref (ad a))]) C dX3_evenTemps_21 rfl (by decide) rfl ?_
    refine z_iconst (z := 0) C dX3_evenTemps_22 rfl ?_
    refine z_istore_n (lv' := [(2, .int (zI (0))), (1, .int (zI (0))), (0, .ref (ad a))]) C dX3_evenTemps_23 rfl (by decide) rfl ?_
    refine z_lv (lv' := [(2, .int (zI (0))), (1, .int (zI (0))), (0, .ref (ad a))]) [0, 1, 2] rfl ?_
    have hS0 : K = stK K 0 4 0 (fun l => evZ K n l) := by funext q9; exact (stK_o (by omega)).symm
    exact lp _ (0) (0) K r 0 _ rfl ⟨ha.1, ha.2⟩ (fun j j1 j2 => by rfl) (by omega) (by omega) hC hS0 (fun h9 => absurd h9 (by omega)) (by omega)
  · refine z_aload_n C 0 dX3_evenTemps_7 rfl ?_
    refine z_get (v := .ref (ad (a + 1))) C (lt_A0 hN rfl) hay1 ha.1 rfl inA_X3 2 (by decide) q_162 rfl rfl dX3_evenTemps_8 ?_
    refine z_bipush (z := 48) C dX3_evenTemps_11 (by decide) ?_
    refine z_iald C (lt_A (c := 1) hN rfl) hay2 ha.2 (48 + 0) (by omega) (by omega) (by decide) dX3_evenTemps_13 ?_
    obtain ⟨⟨qy350, qy351, qy352, qy353, qy354, qy355, qy356⟩, qy359⟩ := hO.ly (l := 0) (by omega)
    rw [show r (48 + 0) = K (7 * 0 + 4) from hC 0 4 (by omega) (by decide)]
    refine z_bipush (z := 8) C dX3_evenTemps_14 (by decide) ?_
    refine z_idiv C dX3_evenTemps_16 (by omega) (by omega) (by omega) ?_
    have htdy36 := tdb8 (a := K (7 * 0 + 4)) (by omega)
    refine z_goto (tgt := 21) C dX3_evenTemps_17 (by decide) ?_
    refine z_istore_n (lv' := [(1, .int (zI ((K (7 * 0 + 4)).tdiv 8))), (0, .ref (ad a))]) C dX3_evenTemps_21 rfl (by decide) rfl ?_
    refine z_iconst (z := 0) C dX3_evenTemps_22 rfl ?_
    refine z_istore_n (lv' := [(2, .int (zI (0))), (1, .int (zI ((K (7 * 0 + 4)).tdiv 8))), (0, .ref (ad a))]) C dX3_evenTemps_23 rfl (by decide) rfl ?_
    refine z_lv (lv' := [(2, .int (zI (0))), (1, .int (zI ((K (7 * 0 + 4)).tdiv 8))), (0, .ref (ad a))]) [0, 1, 2] rfl ?_
    have hS0 : K = stK K 0 4 0 (fun l => evZ K n l) := by funext q9; exact (stK_o (by omega)).symm
    exact lp _ (0) ((K (7 * 0 + 4)).tdiv 8) K r 0 _ rfl ⟨ha.1, ha.2⟩ (fun j j1 j2 => by rfl) (by omega) (by omega) hC hS0 (fun h9 => by unfold dnE; rw [if_pos rfl]) (by omega)

set_option maxRecDepth 100000 in
set_option maxHeartbeats 4000000 in
theorem c_pTurn (l : Launch) (D : va_G) (A : Nat → Prop) (cs : Nat → ClassId) (tt : Nat) (N : Nat) (ad : Nat → Nat) (g : Nat → va_E) (a : Nat) (hN : a + 2 ≤ N) (sz ro : Int) (r : Nat → Int) (hz : 0 ≤ sz ∧ sz ≤ 12) (ha : isPack cs ad g a sz ro r) (n : Nat) (K : Nat → Int) (hn : sz = (n : Int)) (hC : ∀ j f, j < n → f < 7 → r (12 * f + j) = K (7 * j + f)) (hO : okP K n) (hag : ∀ l, l < n → K (7 * l + 5) ≤ 99999) (z : Int) (hz9 : -300 ≤ z ∧ z ≤ 100) : zM l yX3_turnAndAge cX3_turnAndAge 3 none ({ frames := 4, cells := 0, slots := 0, locals := 240 } : Room) D A cs tt N ad g [.ref (ad a), .int (zI (z))] (rV0 N ad fun g' => (∃ r' : Nat → Int, isPack cs ad g' a (sz) (ro) r' ∧ ∀ y f, y < n → f < 7 → r' (12 * f + y) = (taK K n (taV K n z) (taA K)) (7 * y + f)) ∧ ∀ q, q ≠ a → q ≠ a + 1 → g' q = g q) := by
  have hay1 : zAt ad (a) (ad a) := rfl
  have hay2 : zAt ad (a + 1) (ad (a + 1)) := rfl
  have hn12 := hO.1
  refine z_of (by decide) (Nat.le_of_ble_eq_true rfl) ?_
  intro p e s m below meth c C hr hlk hnm
  refine z_lv (lv' := [(0, .ref (ad a)), (1, .int (zI (z)))]) [0, 1] rfl ?_
  have lp : ∀ (n9 : Nat) (i : Int) (K9 : Nat → Int) (r9 : Nat → Int) (k : Nat) (g1 : Nat → va_E), (13 - i).toNat = n9 → (isPack cs ad g1 a sz ro r9) → (∀ q, q ≠ a → q ≠ a + 1 → g1 q = g q) → (i = (k : Int)) → (k ≤ n) → (∀ j f, j < n → f < 7 → r9 (12 * f + j) = K9 (7 * j + f)) → (K9 = taK K k (taV K n z) (taA K)) → zV p l e ({ frames := 4, cells := 0, slots := 0, locals := 240 } : Room) s m ([.ref (ad a), .int (zI (z))] : List Value).toArray below meth c (MQ below (zPost D A (rV0 N ad fun g' => (∃ r' : Nat → Int, isPack cs ad g' a (sz) (ro) r' ∧ ∀ y f, y < n → f < 7 → r' (12 * f + y) = (taK K n (taV K n z) (taA K)) (7 * y + f)) ∧ ∀ q, q ≠ a → q ≠ a + 1 → g' q = g q)) ([.ref (ad a), .int (zI (z))] : List Value).toArray s ({ frames := 4, cells := 0, slots := 0, locals := 240 } : Room).cells ({ frames := 4, cells := 0, slots := 0, locals := 240 } : Room).slots A) D A 3 (N) ad g1 (0) (0) 2 [(2, .int (zI (i))), (0, .ref (ad a)), (1, .int (zI (z)))] [] := by
    intro n9
    induction n9 using Nat.strongRecOn with
    | ind n9 ih =>
      intro i K9 r9 k g1 hm9 p9 f3 hik hkn hC9 hK9
      have hay3 : zAt ad (a) (ad a) := rfl
      have hay4 : zAt ad (a + 1) (ad (a + 1)) := rfl
      subst hik
      have hO9 := ta_ok (k := k) (air := z) hO hag hkn
      rw [← hK9] at hO9
      refine z_iload_n C 0 dX3_turnAndAge_2 rfl ?_
      refine z_aload_n C 1 dX3_turnAndAge_3 rfl ?_
      refine z_get (v := .int (zI (sz))) C (lt_A0 hN rfl) hay3 p9.1 rfl inA_X3 0 (by decide) q_154 rfl rfl dX3_turnAndAge_4 ?_
      refine z_icmp_ge (tgt := 48) C dX3_turnAndAge_7 (by decide) (by omega) (by omega) (fun hby5 => ?_) (fun hby5 => ?_)
      · obtain rfl : k = n := by omega
        rw [hK9] at hC9
        exact z_vret C hr hlk dX3_turnAndAge_48 (by decide) (by decide) ⟨rfl, rfl, rfl, ⟨_, ⟨p9.1, p9.2⟩, hC9⟩, fun j j1 j2 => by exact f3 j j1 j2⟩
      · refine z_aload_n C 1 dX3_turnAndAge_10 rfl ?_
        refine z_get (v := .ref (ad (a + 1))) C (lt_A0 hN rfl) hay3 p9.1 rfl inA_X3 2 (by decide) q_162 rfl rfl dX3_turnAndAge_11 ?_
        refine z_iconst (z := 0) C dX3_turnAndAge_14 rfl ?_
        refine z_iload_n C 0 dX3_turnAndAge_15 rfl ?_
        refine z_iadd C dX3_turnAndAge_16 ?_
        refine z_aload_n C 1 dX3_turnAndAge_17 rfl ?_
        refine z_iload_n C 0 dX3_turnAndAge_18 rfl ?_
        refine z_aload_n C 1 dX3_turnAndAge_19 rfl ?_
        refine z_iload_n C 0 dX3_turnAndAge_20 rfl ?_
        refine z_iload_n C 2 dX3_turnAndAge_21 rfl ?_
        refine z_cV (As := [.int (zI ((k : Int))), .int (zI (z))]) (rest := [.int (zI ((k : Int))), .ref (ad a), .int (zI (0 + ((k : Int)))), .ref (ad (a + 1))]) (ci := 5) C (c_pGrade l D A cs tt N ad _ a hN _ _ _ hz ⟨p9.1, p9.2⟩ n K9 hn hC9 hO9 k (by omega) (z) (by omega)) (lt_A0 hN rfl) hay3 p9.1 rfl rfl mv_yX3_grade q_521 hd_yX3_grade (by decide) (Nat.le_of_ble_eq_true rfl) (by decide) dX3_turnAndAge_22 rfl (kI0 fun vy6 gvy6 hvy6 => ?_)
        obtain ⟨⟨hvvy6, hwvy6⟩, rfl⟩ := hvy6
        have hgr : vy6 = grZ K9 n k z := hvvy6
        refine z_cV (As := [.int (zI ((k : Int))), .int (zI (vy6))]) (rest := [.int (zI (0 + ((k : Int)))), .ref (ad (a + 1))]) (ci := 5) C (c_pNext l D A cs tt N ad _ a hN _ _ _ hz ⟨p9.1, p9.2⟩ n K9 hn hC9 hO9 k (by omega) (vy6) (by omega)) (lt_A0 hN rfl) hay3 p9.1 rfl rfl mv_yX3_nextKind q_529 hd_yX3_nextKind (by decide) (Nat.le_of_ble_eq_true rfl) (by decide) dX3_turnAndAge_25 rfl (kI0 fun vy7 gvy7 hvy7 => ?_)
        obtain ⟨rfl, rfl⟩ := hvy7
        have hnky8 := nkZ_b hO9 (l := k) (by omega) (vy6)
        refine z_iast C (lt_A (c := 1) hN rfl) hay4 p9.2 (0 + k) (by omega) (by omega) (by decide) dX3_turnAndAge_28 (fun gy9 egy10 => ?_)
        have hgy11 := up_s egy10
        obtain ⟨ry12, hvy13⟩ : ∃ rZ9 : Nat → Int, rZ9 = uZ r9 (0 + k) (nkZ K9 k (vy6)) := ⟨_, rfl⟩
        rw [← hvy13] at hgy11
        obtain ⟨Ky14, hKy15⟩ : ∃ KZ9 : Nat → Int, KZ9 = uZ K9 (7 * k + 0) (nkZ K9 k (vy6)) := ⟨_, rfl⟩
        have hCy16 := lay_u hC9 hvy13 hKy15 (by omega) (by omega) (by omega) (by decide)
        refine z_aload_n C 1 dX3_turnAndAge_29 rfl ?_
        have hgy17 := up_n egy10 p9.1 (ne_o (i := a) (c := 0) (d := 1) rfl)
        refine z_get (v := .ref (ad (a + 1))) C (lt_A0 hN rfl) hay3 hgy17 rfl inA_X3 2 (by decide) q_162 rfl rfl dX3_turnAndAge_30 ?_
        refine z_bipush (z := 60) C dX3_turnAndAge_33 (by decide) ?_
        refine z_iload_n C 0 dX3_turnAndAge_35 rfl ?_
        refine z_iadd C dX3_turnAndAge_36 ?_
        refine z_dup2 C dX3_turnAndAge_37 rfl rfl ?_
        refine z_iald C (lt_A (c := 1) hN rfl) hay4 hgy11 (60 + k) (by omega) (by omega) (by decide) dX3_turnAndAge_38 ?_
        obtain ⟨⟨qy180, qy181, qy182, qy183, qy184, qy185, qy186⟩, qy189⟩ := hO9.ly (l := k) (by omega)
        rw [show ry12 (60 + k) = K9 (7 * k + 5) from ((hCy16 k 5 (by omega) (by decide)).trans ((congrFun hKy15 _).trans (uZ_n _ _ (by omega))))]
        refine z_iconst (z := 1) C dX3_turnAndAge_39 rfl ?_
        refine z_iadd C dX3_turnAndAge_40 ?_
        refine z_iast C (lt_A (c := 1) hN rfl) hay4 hgy11 (60 + k) (by omega) (by omega) (by decide) dX3_turnAndAge_41 (fun gy19 egy20 => ?_)
        have hgy21 := up_s egy20
        obtain ⟨ry22, hvy23⟩ : ∃ rZ9 : Nat → Int, rZ9 = uZ ry12 (60 + k) ((K9 (7 * k + 5)) + 1) := ⟨_, rfl⟩
        rw [← hvy23] at hgy21
        obtain ⟨Ky24, hKy25⟩ : ∃ KZ9 : Nat → Int, KZ9 = uZ Ky14 (7 * k + 5) ((K9 (7 * k + 5)) + 1) := ⟨_, rfl⟩
        have hCy26 := lay_u hCy16 hvy23 hKy25 (by omega) (by omega) (by omega) (by decide)
        refine z_iinc (z := (k : Int) + 1) (lv' := [(2, .int (zI ((k : Int) + 1))), (0, .ref (ad a)), (1, .int (zI (z)))]) (j := 0) C dX3_turnAndAge_42 rfl rfl (by decide) rfl ?_
        refine z_goto (tgt := 2) C dX3_turnAndAge_45 (by decide) ?_
        refine z_lv (lv' := [(2, .int (zI ((k : Int) + 1))), (0, .ref (ad a)), (1, .int (zI (z)))]) [0, 1, 2] rfl ?_
        have hx0 : nkZ K9 k (vy6) = taV K n z k := by rw [hgr, hK9, ta_gr, ta_nk]; rfl
        have hx5 : (K9 (7 * k + 5)) + 1 = taA K k := by rw [hK9, taK_o (Or.inr (by omega))]; rfl
        have hKn : Ky24 = taK K (k + 1) (taV K n z) (taA K) := by rw [hKy25, hKy15]; refine Eq.trans ?_ (ta_step hx0 hx5); rw [hK9]
        have hgy27 := up_n egy20 hgy17 (ne_o (i := a) (c := 0) (d := 1) rfl)
        exact ih _ (by omega) ((k : Int) + 1) Ky24 ry22 (k + 1) gy19 rfl ⟨hgy27, hgy21⟩ (fun j j1 j2 => by rw [egy20, va_up_ne _ _ (by omega)]; rw [egy10, va_up_ne _ _ (by omega)]; exact f3 j j1 j2) (by omega) (by omega) hCy26 hKn
  refine z_iconst (z := 0) C dX3_turnAndAge_0 rfl ?_
  refine z_istore_n (lv' := [(2, .int (zI (0))), (0, .ref (ad a)), (1, .int (zI (z)))]) C dX3_turnAndAge_1 rfl (by decide) rfl ?_
  refine z_lv (lv' := [(2, .int (zI (0))), (0, .ref (ad a)), (1, .int (zI (z)))]) [0, 1, 2] rfl ?_
  exact lp _ (0) K r 0 _ rfl ⟨ha.1, ha.2⟩ (fun j j1 j2 => by rfl) (by omega) (by omega) hC (taK_0 K _ _).symm
end
section
-- 9kf.phys2.lean.txt
theorem okP_c {C C' : Nat → Int} {n : Nat} (h : okP C n) (e : ∀ q, q < 7 * n → C' q = C q) : okP C' n ∧ sZ C' n = sZ C n := by
  have hm : ∀ l, l < n → mZ C' l = mZ C l := by
    intro l hl
    unfold mZ
    rw [e _ (by omega), e _ (by omega)]
  have hs := sZ_e hm n (Nat.le_refl _)
  have hd := dZ_c (C := C) (C' := C') (n := n) (fun l a => e _ (by omega)) n (Nat.le_refl _)
  exact ⟨⟨h.1, fun l hl => lyP_c (h.2.1 l hl) (fun f hf => e _ (by omega)), by have := h.2.2.1; omega, by have := h.2.2.2; omega⟩, hs⟩
theorem okP.cut {C : Nat → Int} {n k : Nat} (h : okP C n) (hk : k ≤ n) : okP C k := by
  have a := (sZ_b h.2.1 k hk).2
  have b := (dZ_b h.2.1 k hk).2
  exact ⟨by have := h.1; omega, fun l hl => h.2.1 l (by omega), by have := h.2.2.1; omega, by have := h.2.2.2; omega⟩
/-- (b) with AIR above 0: one layer -/
def meW (C : Nat → Int) (k : Nat) (le : Int) : Int := mnZ (le.tdiv (C (7 * k + 1))) (-C (7 * k + 4))
def meL (C : Nat → Int) (k : Nat) (le : Int) : Int := le - meW C k le * C (7 * k + 1)
def meM (C : Nat → Int) (k : Nat) (le : Int) : Int := if C (7 * k + 4) + meW C k le = 0 then mnZ ((meL C k le).tdiv 100) (C (7 * k + 1)) else 0
def meK (C : Nat → Int) (k : Nat) (le : Int) : Nat → Int := uZ (uZ (uZ C (7 * k + 4) (C (7 * k + 4) + meW C k le)) (7 * k + 1) (C (7 * k + 1) - meM C k le)) (7 * k + 2) (C (7 * k + 2) + meM C k le)
def mlZ : Nat → (Nat → Int) → Int → Int → Nat × (Nat → Int) × Int
  | 0, C, ro, _ => (0, C, ro)
  | k + 1, C, ro, le => if le ≤ 0 then (k + 1, C, ro) else if 0 < C (7 * k + 1) - meM C k le then (k + 1, meK C k le, ro) else mlZ k (wtK (meK C k le) k (C (7 * k + 2) + meM C k le)) (wtR k ro (C (7 * k + 2) + meM C k le)) (meL C k le - 100 * meM C k le)
theorem tdmu {a k : Int} (hk : 1 ≤ k) (h1 : 0 ≤ a) : 0 ≤ a.tdiv k ∧ a.tdiv k * k ≤ a ∧ a.tdiv k ≤ a := by
  rw [Int.tdiv_eq_ediv_of_nonneg h1]
  exact ⟨Int.ediv_nonneg h1 (by omega), Int.ediv_mul_le a (by omega), Int.ediv_le_self _ h1⟩
theorem meW_b {C : Nat → Int} {n k : Nat} {le : Int} (h : okP C n) (hk : k < n) (hl : 0 < le) : (0 ≤ meW C k le ∧ meW C k le ≤ -C (7 * k + 4)) ∧ (0 ≤ meW C k le * C (7 * k + 1) ∧ meW C k le * C (7 * k + 1) ≤ le) := by
  have h0 := h.ly hk
  obtain ⟨h1, h2, h3⟩ := tdmu (a := le) (k := C (7 * k + 1)) (by omega) (by omega)
  have h4 : 0 ≤ meW C k le ∧ meW C k le ≤ -C (7 * k + 4) ∧ meW C k le ≤ le.tdiv (C (7 * k + 1)) := by
    unfold meW mnZ
    split <;> omega
  refine ⟨⟨h4.1, h4.2.1⟩, Int.mul_nonneg h4.1 (by omega), ?_⟩
  exact Int.le_trans (Int.mul_le_mul_of_nonneg_right h4.2.2 (by omega)) h2
/-- a new layer on top -/
def adK (C : Nat → Int) (n : Nat) (v0 v1 v2 v3 v4 v6 : Int) : Nat → Int := fun q => if q = 7 * n then v0 else if q = 7 * n + 1 then v1 else if q = 7 * n + 2 then v2 else if q = 7 * n + 3 then v3 else if q = 7 * n + 4 then v4 else if q = 7 * n + 5 then 0 else if q = 7 * n + 6 then v6 else C q
theorem adK_o {C : Nat → Int} {n q : Nat} {v0 v1 v2 v3 v4 v6 : Int} (h : q < 7 * n) : adK C n v0 v1 v2 v3 v4 v6 q = C q := by
  unfold adK
  rw [if_neg (by omega), if_neg (by omega), if_neg (by omega), if_neg (by omega), if_neg (by omega), if_neg (by omega), if_neg (by omega)]
theorem uZ_e {r : Nat → Int} {k j : Nat} {v : Int} (h : j = k) : uZ r k v j = v := if_pos h
theorem adK_f0 {C : Nat → Int} {n : Nat} {v0 v1 v2 v3 v4 v6 : Int} : adK C n v0 v1 v2 v3 v4 v6 (7 * n) = v0 := by unfold adK; rw [if_pos rfl]
theorem adK_f1 {C : Nat → Int} {n : Nat} {v0 v1 v2 v3 v4 v6 : Int} : adK C n v0 v1 v2 v3 v4 v6 (7 * n + 1) = v1 := by unfold adK; rw [if_neg (by omega), if_pos rfl]
theorem adK_f2 {C : Nat → Int} {n : Nat} {v0 v1 v2 v3 v4 v6 : Int} : adK C n v0 v1 v2 v3 v4 v6 (7 * n + 2) = v2 := by unfold adK; rw [if_neg (by omega), if_neg (by omega), if_pos rfl]
theorem adK_f3 {C : Nat → Int} {n : Nat} {v0 v1 v2 v3 v4 v6 : Int} : adK C n v0 v1 v2 v3 v4 v6 (7 * n + 3) = v3 := by unfold adK; rw [if_neg (by omega), if_neg (by omega), if_neg (by omega), if_pos rfl]
theorem adK_f4 {C : Nat → Int} {n : Nat} {v0 v1 v2 v3 v4 v6 : Int} : adK C n v0 v1 v2 v3 v4 v6 (7 * n + 4) = v4 := by unfold adK; rw [if_neg (by omega), if_neg (by omega), if_neg (by omega), if_neg (by omega), if_pos rfl]
theorem adK_f5 {C : Nat → Int} {n : Nat} {v0 v1 v2 v3 v4 v6 : Int} : adK C n v0 v1 v2 v3 v4 v6 (7 * n + 5) = 0 := by unfold adK; rw [if_neg (by omega), if_neg (by omega), if_neg (by omega), if_neg (by omega), if_neg (by omega), if_pos rfl]
theorem adK_f6 {C : Nat → Int} {n : Nat} {v0 v1 v2 v3 v4 v6 : Int} : adK C n v0 v1 v2 v3 v4 v6 (7 * n + 6) = v6 := by unfold adK; rw [if_neg (by omega), if_neg (by omega), if_neg (by omega), if_neg (by omega), if_neg (by omega), if_neg (by omega), if_pos rfl]
theorem lay_a {n : Nat} {C r : Nat → Int} {v0 v1 v2 v3 v4 v6 : Int} (h : ∀ j f, j < n → f < 7 → r (12 * f + j) = C (7 * j + f)) (hn : n < 12) : ∀ y f, y < n + 1 → f < 7 → uZ (uZ (uZ (uZ (uZ (uZ (uZ r (0 + n) v0) (12 + n) v1) (24 + n) v2) (36 + n) v3) (48 + n) v4) (60 + n) 0) (72 + n) v6 (12 * f + y) = adK C n v0 v1 v2 v3 v4 v6 (7 * y + f) := by
  intro y f hy hf
  by_cases e : y = n
  · subst e
    rcases (show f = 0 ∨ f = 1 ∨ f = 2 ∨ f = 3 ∨ f = 4 ∨ f = 5 ∨ f = 6 by omega) with rfl | rfl | rfl | rfl | rfl | rfl | rfl
    · exact ((uZ_n _ _ (by omega)).trans ((uZ_n _ _ (by omega)).trans ((uZ_n _ _ (by omega)).trans ((uZ_n _ _ (by omega)).trans ((uZ_n _ _ (by omega)).trans ((uZ_n _ _ (by omega)).trans (uZ_e (by omega)))))))).trans (adK_f0).symm
    · exact ((uZ_n _ _ (by omega)).trans ((uZ_n _ _ (by omega)).trans ((uZ_n _ _ (by omega)).trans ((uZ_n _ _ (by omega)).trans ((uZ_n _ _ (by omega)).trans (uZ_e (by omega))))))).trans (adK_f1).symm
    · exact ((uZ_n _ _ (by omega)).trans ((uZ_n _ _ (by omega)).trans ((uZ_n _ _ (by omega)).trans ((uZ_n _ _ (by omega)).trans (uZ_e (by omega)))))).trans (adK_f2).symm
    · exact ((uZ_n _ _ (by omega)).trans ((uZ_n _ _ (by omega)).trans ((uZ_n _ _ (by omega)).trans (uZ_e (by omega))))).trans (adK_f3).symm
    · exact ((uZ_n _ _ (by omega)).trans ((uZ_n _ _ (by omega)).trans (uZ_e (by omega)))).trans (adK_f4).symm
    · exact ((uZ_n _ _ (by omega)).trans (uZ_e (by omega))).trans (adK_f5).symm
    · exact (uZ_e (by omega)).trans (adK_f6).symm
  · rw [adK_o (by omega)]
    rw [uZ_n _ _ (by omega), uZ_n _ _ (by omega), uZ_n _ _ (by omega), uZ_n _ _ (by omega), uZ_n _ _ (by omega), uZ_n _ _ (by omega), uZ_n _ _ (by omega)]
    exact h y f (by omega) hf
theorem okP.add {C : Nat → Int} {n : Nat} {v0 v1 v2 v3 v4 v6 : Int} (h : okP C n) (hn : n < 12) (h0 : 0 ≤ v0 ∧ v0 ≤ 4) (h1 : 1 ≤ v1) (h2 : 0 ≤ v2) (h3 : 1 ≤ v3) (h4 : -300 ≤ v4 ∧ v4 ≤ 0) (h6 : 0 ≤ v6 ∧ v6 ≤ 20000) (hm : sZ C n + (v1 + v2) ≤ 138500) (hd : dZ C n + v3 ≤ 400000000) : okP (adK C n v0 v1 v2 v3 v4 v6) (n + 1) ∧ sZ (adK C n v0 v1 v2 v3 v4 v6) (n + 1) = sZ C n + (v1 + v2) ∧ dZ (adK C n v0 v1 v2 v3 v4 v6) (n + 1) = dZ C n + v3 := by
  obtain ⟨a, b⟩ := okP_c (C' := adK C n v0 v1 v2 v3 v4 v6) h (fun q hq => adK_o hq)
  have d := dZ_c (C := C) (C' := adK C n v0 v1 v2 v3 v4 v6) (n := n) (fun l hl => adK_o (by omega)) n (Nat.le_refl _)
  have e0 : adK C n v0 v1 v2 v3 v4 v6 (7 * n) = v0 := by unfold adK; rw [if_pos rfl]
  have e1 : adK C n v0 v1 v2 v3 v4 v6 (7 * n + 1) = v1 := by unfold adK; rw [if_neg (by omega), if_pos rfl]
  have e2 : adK C n v0 v1 v2 v3 v4 v6 (7 * n + 2) = v2 := by unfold adK; rw [if_neg (by omega), if_neg (by omega), if_pos rfl]
  have e3 : adK C n v0 v1 v2 v3 v4 v6 (7 * n + 3) = v3 := by unfold adK; rw [if_neg (by omega), if_neg (by omega), if_neg (by omega), if_pos rfl]
  have e4 : adK C n v0 v1 v2 v3 v4 v6 (7 * n + 4) = v4 := by unfold adK; rw [if_neg (by omega), if_neg (by omega), if_neg (by omega), if_neg (by omega), if_pos rfl]
  have e5 : adK C n v0 v1 v2 v3 v4 v6 (7 * n + 5) = 0 := by unfold adK; rw [if_neg (by omega), if_neg (by omega), if_neg (by omega), if_neg (by omega), if_neg (by omega), if_pos rfl]
  have e6 : adK C n v0 v1 v2 v3 v4 v6 (7 * n + 6) = v6 := by unfold adK; rw [if_neg (by omega), if_neg (by omega), if_neg (by omega), if_neg (by omega), if_neg (by omega), if_neg (by omega), if_pos rfl]
  have hs : sZ (adK C n v0 v1 v2 v3 v4 v6) (n + 1) = sZ C n + (v1 + v2) := by
    show sZ _ n + (adK C n v0 v1 v2 v3 v4 v6 (7 * n + 1) + adK C n v0 v1 v2 v3 v4 v6 (7 * n + 2)) = _
    rw [e1, e2, b]
  have hdd : dZ (adK C n v0 v1 v2 v3 v4 v6) (n + 1) = dZ C n + v3 := by
    show dZ _ n + adK C n v0 v1 v2 v3 v4 v6 (7 * n + 3) = _
    rw [e3, d]
  refine ⟨⟨by omega, fun l hl => ?_, by omega, by omega⟩, hs, hdd⟩
  by_cases e : l = n
  · subst e
    unfold lyP
    rw [e0, e1, e2, e3, e4, e5, e6]
    omega
  · exact a.2.1 l (by omega)
theorem td8 (a : Int) : (0 ≤ a → 0 ≤ a.tdiv 8 ∧ 8 * a.tdiv 8 ≤ a) ∧ (a < 0 → a ≤ 8 * a.tdiv 8 ∧ a.tdiv 8 ≤ 0) := by
  refine ⟨fun e => ?_, fun e => ?_⟩
  · rw [Int.tdiv_eq_ediv_of_nonneg e]; omega
  · rw [show a.tdiv 8 = -((-a) / 8) by rw [← Int.tdiv_eq_ediv_of_nonneg (by omega : 0 ≤ -a), Int.neg_tdiv, Int.neg_neg]]; omega
theorem evZ_b {C : Nat → Int} {n l : Nat} (h : okP C n) (hl : l < n) : -300 ≤ evZ C n l ∧ evZ C n l ≤ 0 := by
  have h0 := (h.ly hl).1.2.2.2.2.1
  have hu : (upE C n l = 0) ∨ ∃ t : Int, (-300 ≤ t ∧ t ≤ 0) ∧ upE C n l = (t - C (7 * l + 4)).tdiv 8 := by
    unfold upE
    by_cases e : l + 1 < n
    · rw [if_pos e]
      exact Or.inr ⟨_, (h.ly e).1.2.2.2.2.1, rfl⟩
    · rw [if_neg e]; exact Or.inl rfl
  have hd : ∃ t : Int, (-300 ≤ t ∧ t ≤ 0) ∧ dnE C l = (C (7 * l + 4) - t).tdiv 8 := by
    unfold dnE
    by_cases e : l = 0
    · rw [if_pos e]; exact ⟨0, by omega, by rw [Int.sub_zero]⟩
    · rw [if_neg e]
      exact ⟨_, (h.ly (l := l - 1) (by omega)).1.2.2.2.2.1, rfl⟩
  obtain ⟨t, ht, hdn⟩ := hd
  have h1 := td8 (C (7 * l + 4) - t)
  rw [← hdn] at h1
  unfold evZ mnZ
  rcases hu with hu | ⟨u, hu1, hu2⟩
  · rw [hu]
    split <;> omega
  · have h2 := td8 (u - C (7 * l + 4))
    rw [← hu2] at h2
    split <;> omega
theorem evs_ok {C : Nat → Int} {n : Nat} (h : okP C n) : okP (stK C n 4 0 (fun l => evZ C n l)) n ∧ sZ (stK C n 4 0 (fun l => evZ C n l)) n = sZ C n ∧ dZ (stK C n 4 0 (fun l => evZ C n l)) n = dZ C n := by
  have hm : ∀ l, l < n → mZ (stK C n 4 0 (fun l => evZ C n l)) l = mZ C l := by
    intro l hl
    unfold mZ
    rw [stK_o (Or.inl (by omega)), stK_o (Or.inl (by omega))]
  have hs := sZ_e hm n (Nat.le_refl _)
  have hd := dZ_c (C := C) (C' := stK C n 4 0 (fun l => evZ C n l)) (n := n) (fun l a => stK_o (Or.inl (by omega))) n (Nat.le_refl _)
  refine ⟨⟨h.1, fun l hl => ?_, by have := h.2.2.1; omega, by have := h.2.2.2; omega⟩, hs, hd⟩
  have h9 := h.2.1 l hl
  have h8 := evZ_b h hl
  unfold lyP at *
  rw [stK_o (q := 7 * l) (Or.inl (by omega)), stK_o (q := 7 * l + 1) (Or.inl (by omega)), stK_o (q := 7 * l + 2) (Or.inl (by omega)), stK_o (q := 7 * l + 3) (Or.inl (by omega)), stK_o (q := 7 * l + 5) (Or.inl (by omega)), stK_o (q := 7 * l + 6) (Or.inl (by omega)), stK_s (by decide) (Nat.zero_le _) hl]
  omega
theorem frZ_o {C : Nat → Int} {i q : Nat} (h : q % 7 = 3 ∨ q % 7 = 5 ∨ q % 7 = 6) : frZ C i q = C q := by
  unfold frZ
  rw [if_neg (by omega), if_neg (by omega), if_neg (by omega), if_neg (by omega)]
theorem wtK_o {C : Nat → Int} {i q : Nat} {w : Int} (h : q % 7 ≠ 2) : wtK C i w q = C q := by
  unfold wtK
  split
  · rfl
  · exact uZ_n _ _ (by omega)
theorem skB_ok {tb C : Nat → Int} {n i : Nat} {ro : Int} (ht : okTb tb) (h : okP C n) (hi : i < n) : okP (skB tb C i) n ∧ skR tb C i ro + sZ (skB tb C i) n = ro + sZ C n ∧ ro ≤ skR tb C i ro := by
  have hH := (skH_b ht h hi).2
  have h9 := h.2.2.1
  unfold skB skR
  by_cases e : 0 < C (7 * i + 2) - skH tb C i
  · rw [if_pos e, if_pos e]
    have h1 := h.wat (v := skH tb C i) hi hH.1 (by omega)
    have h2 := wtK_ok (i := i) (w := C (7 * i + 2) - skH tb C i) (ro := ro) h1.1 (by omega) (by omega) (by omega)
    exact ⟨h2.1, by omega, h2.2.2⟩
  · rw [if_neg e, if_neg e]
    exact ⟨h, rfl, Int.le_refl _⟩
theorem skZ_o {tb : Nat → Int} {q : Nat} (h : q % 7 = 3 ∨ q % 7 = 5 ∨ q % 7 = 6) : ∀ (k : Nat) (C : Nat → Int) (ro : Int), (skZ tb k C ro).1 q = C q := by
  intro k
  induction k with
  | zero => intro C ro; rfl
  | succ k ih =>
    intro C ro
    show (skZ tb k (skB tb (skA C k) k) (skR tb (skA C k) k ro)).1 q = C q
    rw [ih]
    have e1 : skA C k q = C q := by
      unfold skA
      split
      · exact frZ_o h
      · rfl
    rw [← e1]
    unfold skB
    split
    · rw [wtK_o (by omega), uZ_n _ _ (by omega)]
    · rfl
theorem sk_ok {tb : Nat → Int} {n : Nat} (ht : okTb tb) : ∀ (k : Nat) (C : Nat → Int) (ro : Int), okP C n → k ≤ n → okP (skZ tb k C ro).1 n ∧ (skZ tb k C ro).2 + sZ (skZ tb k C ro).1 n = ro + sZ C n ∧ ro ≤ (skZ tb k C ro).2 := by
  intro k
  induction k with
  | zero => intro C ro h _; exact ⟨h, rfl, Int.le_refl _⟩
  | succ k ih =>
    intro C ro h hk
    have h1 := skA_ok (i := k) h (by omega)
    have h2 := skB_ok (ro := ro) ht h1.1 (i := k) (by omega)
    have h3 := ih (skB tb (skA C k) k) (skR tb (skA C k) k ro) h2.1 (by omega)
    show okP (skZ tb k (skB tb (skA C k) k) (skR tb (skA C k) k ro)).1 n ∧ _
    refine ⟨h3.1, ?_, ?_⟩
    · show (skZ tb k (skB tb (skA C k) k) (skR tb (skA C k) k ro)).2 + sZ (skZ tb k (skB tb (skA C k) k) (skR tb (skA C k) k ro)).1 n = _
      omega
    · show ro ≤ (skZ tb k (skB tb (skA C k) k) (skR tb (skA C k) k ro)).2
      omega
theorem clK_ok {C : Nat → Int} {n : Nat} {air : Int} (h : okP C n) (ha : -300 ≤ air ∧ air ≤ 0) : okP (clK C n air) n ∧ sZ (clK C n air) n = sZ C n := by
  unfold clK
  by_cases e : n = 0
  · rw [if_pos e]; exact ⟨h, rfl⟩
  · rw [if_neg e]
    have h0 := (h.ly (l := n - 1) (by omega)).1.2.2.2.2.1
    have h9 := h.2.2.1
    generalize hv : C (7 * (n - 1) + 4) + (air - C (7 * (n - 1) + 4)).tdiv 4 = v
    have hvb : -300 ≤ v ∧ v ≤ 0 := by
      by_cases e2 : 0 ≤ air - C (7 * (n - 1) + 4)
      · rw [Int.tdiv_eq_ediv_of_nonneg e2] at hv; omega
      · rw [show (air - C (7 * (n - 1) + 4)).tdiv 4 = -((-(air - C (7 * (n - 1) + 4))) / 4) by rw [← Int.tdiv_eq_ediv_of_nonneg (by omega : 0 ≤ -(air - C (7 * (n - 1) + 4))), Int.neg_tdiv, Int.neg_neg]] at hv; omega
    have eo : ∀ q, q ≠ 7 * (n - 1) + 4 → uZ C (7 * (n - 1) + 4) v q = C q := fun q hq => uZ_n _ _ hq
    have hM : mZ (uZ C (7 * (n - 1) + 4) v) (n - 1) - mZ C (n - 1) = 0 := by
      unfold mZ
      rw [eo _ (by omega), eo _ (by omega)]
      omega
    have hl : lyP (uZ C (7 * (n - 1) + 4) v) (n - 1) := by
      have h7 := h.2.1 (n - 1) (by omega)
      unfold lyP at *
      rw [eo (7 * (n - 1)) (by omega), eo (7 * (n - 1) + 1) (by omega), eo (7 * (n - 1) + 2) (by omega), eo (7 * (n - 1) + 3) (by omega), uZ_s, eo (7 * (n - 1) + 5) (by omega), eo (7 * (n - 1) + 6) (by omega)]
      omega
    have := okP.chg h (i := n - 1) (by omega) hl (fun l a b f hf => eo _ (by omega)) (eo _ (by omega)) (by omega)
    rw [hM, Int.add_zero] at this
    exact this
theorem meM_b {C : Nat → Int} {n k : Nat} {le : Int} (h : okP C n) (hk : k < n) (hl : 0 < le) : (0 ≤ meM C k le ∧ meM C k le ≤ C (7 * k + 1)) ∧ 0 ≤ meL C k le - 100 * meM C k le := by
  have h0 := h.ly hk
  have hW := (meW_b h hk hl).2
  have hL : 0 ≤ meL C k le := by unfold meL; omega
  have ht := tdmu (a := meL C k le) (k := 100) (by decide) hL
  unfold meM mnZ
  (repeat' split) <;> omega
theorem me_ok {C : Nat → Int} {n k : Nat} {le : Int} (h : okP C n) (hk : k < n) (hl : 0 < le) (hi : 0 < C (7 * k + 1) - meM C k le) : okP (meK C k le) n ∧ sZ (meK C k le) n = sZ C n := by
  have h0 := h.ly hk
  have hW := (meW_b h hk hl).1
  have hM := (meM_b h hk hl).1
  have h9 := h.2.2.1
  have e4 : meK C k le (7 * k + 4) = C (7 * k + 4) + meW C k le := by unfold meK; rw [uZ_n _ _ (by omega), uZ_n _ _ (by omega), uZ_s]
  have e1 : meK C k le (7 * k + 1) = C (7 * k + 1) - meM C k le := by unfold meK; rw [uZ_n _ _ (by omega), uZ_s]
  have e2 : meK C k le (7 * k + 2) = C (7 * k + 2) + meM C k le := by unfold meK; rw [uZ_s]
  have eo : ∀ q, q ≠ 7 * k + 4 → q ≠ 7 * k + 1 → q ≠ 7 * k + 2 → meK C k le q = C q := fun q a b c => by unfold meK; rw [uZ_n _ _ c, uZ_n _ _ b, uZ_n _ _ a]
  have hmm : mZ (meK C k le) k - mZ C k = 0 := by
    unfold mZ
    rw [e1, e2]
    omega
  have hly : lyP (meK C k le) k := by
    have h7 := h.2.1 k hk
    unfold lyP at *
    rw [e1, e2, e4, eo (7 * k) (by omega) (by omega) (by omega), eo (7 * k + 3) (by omega) (by omega) (by omega), eo (7 * k + 5) (by omega) (by omega) (by omega), eo (7 * k + 6) (by omega) (by omega) (by omega)]
    omega
  have := okP.chg h hk hly (fun l a b f hf => eo _ (by omega) (by omega) (by omega)) (eo _ (by omega) (by omega) (by omega)) (by omega)
  rw [hmm, Int.add_zero] at this
  exact this
theorem ml_ok : ∀ (k : Nat) (C : Nat → Int) (ro le : Int), okP C k → (mlZ k C ro le).1 ≤ k ∧ okP (mlZ k C ro le).2.1 (mlZ k C ro le).1 ∧ (mlZ k C ro le).2.2 + sZ (mlZ k C ro le).2.1 (mlZ k C ro le).1 = ro + sZ C k ∧ ro ≤ (mlZ k C ro le).2.2 := by
  intro k
  induction k with
  | zero => intro C ro le h; exact ⟨Nat.le_refl _, h, rfl, Int.le_refl _⟩
  | succ k ih =>
    intro C ro le h
    by_cases e : le ≤ 0
    · have e2 : mlZ (k + 1) C ro le = (k + 1, C, ro) := if_pos e
      rw [e2]
      exact ⟨Nat.le_refl _, h, rfl, Int.le_refl _⟩
    · by_cases e3 : 0 < C (7 * k + 1) - meM C k le
      · have e2 : mlZ (k + 1) C ro le = (k + 1, meK C k le, ro) := (if_neg e).trans (if_pos e3)
        have h1 := me_ok h (k := k) (by omega) (by omega) e3
        rw [e2]
        exact ⟨Nat.le_refl _, h1.1, by show ro + sZ (meK C k le) (k + 1) = _; rw [h1.2], Int.le_refl _⟩
      · have e2 : mlZ (k + 1) C ro le = mlZ k (wtK (meK C k le) k (C (7 * k + 2) + meM C k le)) (wtR k ro (C (7 * k + 2) + meM C k le)) (meL C k le - 100 * meM C k le) := (if_neg e).trans (if_neg e3)
        have hM := (meM_b (le := le) h (k := k) (Nat.lt_succ_self k) (by omega)).1
        have h0 := h.ly (l := k) (by omega)
        have h9 := h.2.2.1
        have hs : sZ C (k + 1) = sZ C k + (C (7 * k + 1) + C (7 * k + 2)) := rfl
        have hc := okP_c (C' := meK C k le) (h.cut (k := k) (by omega)) (fun q hq => by unfold meK; rw [uZ_n _ _ (by omega), uZ_n _ _ (by omega), uZ_n _ _ (by omega)])
        have hw := wtK_ok (i := k) (w := C (7 * k + 2) + meM C k le) (ro := ro) hc.1 (Nat.le_refl _) (by omega) (by omega)
        have h5 := ih (wtK (meK C k le) k (C (7 * k + 2) + meM C k le)) (wtR k ro (C (7 * k + 2) + meM C k le)) (meL C k le - 100 * meM C k le) hw.1
        rw [e2]
        refine ⟨by omega, h5.2.1, by omega, by omega⟩
end
section
-- 9ki.pq5.lean.txt
set_option maxRecDepth 100000 in
set_option maxHeartbeats 4000000 in
theorem c_pMelt (l : Launch) (D : va_G) (A : Nat → Prop) (cs : Nat → ClassId) (tt : Nat) (N : Nat) (ad : Nat → Nat) (g : Nat → va_E) (a : Nat) (hN : a + 2 ≤ N) (sz ro : Int) (r : Nat → Int) (hz : 0 ≤ sz ∧ sz ≤ 12) (ha : isPack cs ad g a sz ro r) (n : Nat) (K : Nat → Int) (hn : sz = (n : Int)) (hC : ∀ j f, j < n → f < 7 → r (12 * f + j) = K (7 * j + f)) (hO : okP K n) (hro : 0 ≤ ro ∧ ro ≤ 900000000) (z : Int) (hz9 : 0 ≤ z ∧ z ≤ 1000000) : zM l yX3_melt cX3_melt 7 none ({ frames := 2, cells := 0, slots := 0, locals := 120 } : Room) D A cs tt N ad g [.ref (ad a), .int (zI (z))] (rV0 N ad fun g' => (∃ r' : Nat → Int, isPack cs ad g' a (((mlZ n K ro z).1 : Int)) ((mlZ n K ro z).2.2) r' ∧ ∀ y f, y < (mlZ n K ro z).1 → f < 7 → r' (12 * f + y) = ((mlZ n K ro z).2.1) (7 * y + f)) ∧ ∀ q, q ≠ a → q ≠ a + 1 → g' q = g q) := by
  have hay1 : zAt ad (a) (ad a) := rfl
  have hay2 : zAt ad (a + 1) (ad (a + 1)) := rfl
  have hn12 := hO.1
  refine z_of (by decide) (Nat.le_of_ble_eq_true rfl) ?_
  intro p e s m below meth c C hr hlk hnm
  refine z_lv (lv' := [(0, .ref (ad a)), (1, .int (zI (z)))]) [0, 1] rfl ?_
  have lp : ∀ (n9 : Nat) (i : Int) (le : Int) (K9 : Nat → Int) (ro9 : Int) (r9 : Nat → Int) (k : Nat) (g1 : Nat → va_E), (i + 1).toNat = n9 → (isPack cs ad g1 a (k : Int) ro9 r9) → (∀ q, q ≠ a → q ≠ a + 1 → g1 q = g q) → (i = (k : Int) - 1) → (k ≤ n) → (∀ j f, j < k → f < 7 → r9 (12 * f + j) = K9 (7 * j + f)) → (okP K9 k) → (ro ≤ ro9 ∧ ro9 + sZ K9 k ≤ ro + sZ K n) → (0 ≤ le ∧ le ≤ 1000000) → (mlZ k K9 ro9 le = mlZ n K ro z) → zV p l e ({ frames := 2, cells := 0, slots := 0, locals := 120 } : Room) s m ([.ref (ad a), .int (zI (z))] : List Value).toArray below meth c (MQ below (zPost D A (rV0 N ad fun g' => (∃ r' : Nat → Int, isPack cs ad g' a (((mlZ n K ro z).1 : Int)) ((mlZ n K ro z).2.2) r' ∧ ∀ y f, y < (mlZ n K ro z).1 → f < 7 → r' (12 * f + y) = ((mlZ n K ro z).2.1) (7 * y + f)) ∧ ∀ q, q ≠ a → q ≠ a + 1 → g' q = g q)) ([.ref (ad a), .int (zI (z))] : List Value).toArray s ({ frames := 2, cells := 0, slots := 0, locals := 120 } : Room).cells ({ frames := 2, cells := 0, slots := 0, locals := 120 } : Room).slots A) D A 7 (N) ad g1 (0) (0) 9 [(3, .int (zI (i))), (2, .int (zI (le))), (0, .ref (ad a)), (1, .int (zI (z)))] [] := by
    intro n9
    induction n9 using Nat.strongRecOn with
    | ind n9 ih =>
      intro i le K9 ro9 r9 k g1 hm9 p9 f3 hik hkn hC9 hO9 hro9 hle hml
      have hay3 : zAt ad (a) (ad a) := rfl
      have hay4 : zAt ad (a + 1) (ad (a + 1)) := rfl
      have hn12 := hO9.1
      have hs9 := sZ_n hO9 (k := 0) (by omega)
      have hs8 := hO.2.2.1
      by_cases hk0 : k = 0
      · subst hk0
        have hi0 : i = -1 := by omega
        refine z_iload_n C 0 dX3_melt_9 rfl ?_
        refine z_if_lt (tgt := 173) C dX3_melt_10 (by decide) (by omega) (fun _ => ?_) (fun h => absurd h (by omega))
        rw [← hml]
        exact z_vret C hr hlk dX3_melt_173 (by decide) (by decide) ⟨rfl, rfl, rfl, ⟨_, ⟨p9.1, p9.2⟩, hC9⟩, fun j j1 j2 => by exact f3 j j1 j2⟩
      · obtain ⟨j, rfl⟩ : ∃ j, k = j + 1 := ⟨k - 1, by omega⟩
        obtain rfl : i = (j : Int) := by omega
        refine z_iload_n C 0 dX3_melt_9 rfl ?_
        refine z_if_lt (tgt := 173) C dX3_melt_10 (by decide) (by omega) (fun h => absurd h (by omega)) (fun _ => ?_)
        refine z_iload_n C 1 dX3_melt_13 rfl ?_
        refine z_if_le (tgt := 173) C dX3_melt_14 (by decide) (by omega) (fun hby5 => ?_) (fun hby5 => ?_)
        · have hq2 : (j + 1, K9, ro9) = mlZ n K ro z := by rw [← hml]; exact (if_pos (by omega)).symm
          rw [← hq2]
          exact z_vret C hr hlk dX3_melt_173 (by decide) (by decide) ⟨rfl, rfl, rfl, ⟨_, ⟨p9.1, p9.2⟩, hC9⟩, fun j j1 j2 => by exact f3 j j1 j2⟩
        · refine z_aload_n C 2 dX3_melt_17 rfl ?_
          refine z_get (v := .ref (ad (a + 1))) C (lt_A0 hN rfl) hay3 p9.1 rfl inA_X3 2 (by decide) q_162 rfl rfl dX3_melt_18 ?_
          refine z_bipush (z := 12) C dX3_melt_21 (by decide) ?_
          refine z_iload_n C 0 dX3_melt_23 rfl ?_
          refine z_iadd C dX3_melt_24 ?_
          refine z_iald C (lt_A (c := 1) hN rfl) hay4 p9.2 (12 + j) (by omega) (by omega) (by decide) dX3_melt_25 ?_
          obtain ⟨⟨qy60, qy61, qy62, qy63, qy64, qy65, qy66⟩, qy69⟩ := hO9.ly (l := j) (by omega)
          rw [show r9 (12 + j) = K9 (7 * j + 1) from hC9 j 1 (by omega) (by decide)]
          refine z_istore (lv' := [(4, .int (zI (K9 (7 * j + 1)))), (3, .int (zI ((j : Int)))), (2, .int (zI (le))), (0, .ref (ad a)), (1, .int (zI (z)))]) C dX3_melt_26 (by decide) rfl ?_
          refine z_iload_n C 2 dX3_melt_28 rfl ?_
          refine z_i2l C dX3_melt_29 (by omega) ?_
          refine z_iload C 0 dX3_melt_30 rfl ?_
          refine z_i2l C dX3_melt_32 (by omega) ?_
          refine z_cSN (As := [.long (zJ (le)), .long (zJ (K9 (7 * j + 1)))]) (rest := []) C (c_pPart l D A cs tt N ad _ (le) (K9 (7 * j + 1)) (by omega) (by omega)) ms_yX9_part n_466 hd_yX9_part (by decide) (Nat.le_of_ble_eq_true rfl) (by decide) dX3_melt_33 rfl (kI0 fun vy7 gvy7 hvy7 => ?_)
          obtain ⟨rfl, rfl⟩ := hvy7
          have htm := tdmu (a := le) (k := K9 (7 * j + 1)) (by omega) (by omega)
          refine z_aload_n C 3 dX3_melt_36 rfl ?_
          refine z_get (v := .ref (ad (a + 1))) C (lt_A0 hN rfl) hay3 p9.1 rfl inA_X3 2 (by decide) q_162 rfl rfl dX3_melt_37 ?_
          refine z_bipush (z := 48) C dX3_melt_40 (by decide) ?_
          refine z_iload_n C 1 dX3_melt_42 rfl ?_
          refine z_iadd C dX3_melt_43 ?_
          refine z_iald C (lt_A (c := 1) hN rfl) hay4 p9.2 (48 + j) (by omega) (by omega) (by decide) dX3_melt_44 ?_
          rw [show r9 (48 + j) = K9 (7 * j + 4) from hC9 j 4 (by omega) (by decide)]
          refine z_ineg C dX3_melt_45 ?_
          refine z_mmin C q_483 q_473 q_20 q_474 (by omega) (by omega) (by decide) (Nat.le_of_ble_eq_true rfl) (by decide) (by decide) dX3_melt_46 ?_
          obtain ⟨xy8, exy9, hxy10⟩ := mm_min ((le).tdiv (K9 (7 * j + 1))) (-(K9 (7 * j + 4)))
          rw [exy9]
          have hW9 : meW K9 j le = xy8 := by unfold meW mnZ; split <;> omega
          have hWb := meW_b hO9 (k := j) (le := le) (by omega) (by omega)
          rw [hW9] at hWb
          refine z_istore (lv' := [(5, .int (zI (xy8))), (4, .int (zI (K9 (7 * j + 1)))), (3, .int (zI ((j : Int)))), (2, .int (zI (le))), (0, .ref (ad a)), (1, .int (zI (z)))]) C dX3_melt_49 (by decide) rfl ?_
          refine z_aload_n C 4 dX3_melt_51 rfl ?_
          refine z_get (v := .ref (ad (a + 1))) C (lt_A0 hN rfl) hay3 p9.1 rfl inA_X3 2 (by decide) q_162 rfl rfl dX3_melt_52 ?_
          refine z_bipush (z := 48) C dX3_melt_55 (by decide) ?_
          refine z_iload_n C 2 dX3_melt_57 rfl ?_
          refine z_iadd C dX3_melt_58 ?_
          refine z_dup2 C dX3_melt_59 rfl rfl ?_
          refine z_iald C (lt_A (c := 1) hN rfl) hay4 p9.2 (48 + j) (by omega) (by omega) (by decide) dX3_melt_60 ?_
          rw [show r9 (48 + j) = K9 (7 * j + 4) from hC9 j 4 (by omega) (by decide)]
          refine z_iload C 0 dX3_melt_61 rfl ?_
          refine z_iadd C dX3_melt_63 ?_
          refine z_iast C (lt_A (c := 1) hN rfl) hay4 p9.2 (48 + j) (by omega) (by omega) (by decide) dX3_melt_64 (fun gy11 egy12 => ?_)
          have hgy13 := up_s egy12
          obtain ⟨ry14, hvy15⟩ : ∃ rZ9 : Nat → Int, rZ9 = uZ r9 (48 + j) ((K9 (7 * j + 4)) + xy8) := ⟨_, rfl⟩
          rw [← hvy15] at hgy13
          obtain ⟨Ky16, hKy17⟩ : ∃ KZ9 : Nat → Int, KZ9 = uZ K9 (7 * j + 4) ((K9 (7 * j + 4)) + xy8) := ⟨_, rfl⟩
          have hCy18 := lay_u hC9 hvy15 hKy17 (by omega) (by omega) (by omega) (by decide)
          refine z_iload_n C 3 dX3_melt_65 rfl ?_
          refine z_iload C 0 dX3_melt_66 rfl ?_
          refine z_iload C 1 dX3_melt_68 rfl ?_
          refine z_imul C dX3_melt_70 ?_
          refine z_isub C dX3_melt_71 ?_
          have hL8 : meL K9 j le = le - (xy8 * (K9 (7 * j + 1))) := by unfold meL; rw [hW9]
          refine z_istore_n (lv' := [(2, .int (zI (le - (xy8 * (K9 (7 * j + 1)))))), (5, .int (zI (xy8))), (4, .int (zI (K9 (7 * j + 1)))), (3, .int (zI ((j : Int)))), (0, .ref (ad a)), (1, .int (zI (z)))]) C dX3_melt_72 rfl (by decide) rfl ?_
          refine z_aload_n C 4 dX3_melt_73 rfl ?_
          have hgy19 := up_n egy12 p9.1 (ne_o (i := a) (c := 0) (d := 1) rfl)
          refine z_get (v := .ref (ad (a + 1))) C (lt_A0 hN rfl) hay3 hgy19 rfl inA_X3 2 (by decide) q_162 rfl rfl dX3_melt_74 ?_
          refine z_bipush (z := 48) C dX3_melt_77 (by decide) ?_
          refine z_iload_n C 3 dX3_melt_79 rfl ?_
          refine z_iadd C dX3_melt_80 ?_
          refine z_iald C (lt_A (c := 1) hN rfl) hay4 hgy13 (48 + j) (by omega) (by omega) (by decide) dX3_melt_81 ?_
          rw [show ry14 (48 + j) = (K9 (7 * j + 4)) + xy8 from ((hCy18 j 4 (by omega) (by decide)).trans ((congrFun hKy17 _).trans (uZ_s _ _ _)))]
          refine z_if_ne (tgt := 132) C dX3_melt_82 (by decide) (by omega) (fun hby20 => ?_) (fun hby20 => ?_)
          · refine z_aload_n C 4 dX3_melt_132 rfl ?_
            refine z_get (v := .ref (ad (a + 1))) C (lt_A0 hN rfl) hay3 hgy19 rfl inA_X3 2 (by decide) q_162 rfl rfl dX3_melt_133 ?_
            refine z_bipush (z := 12) C dX3_melt_136 (by decide) ?_
            refine z_iload_n C 3 dX3_melt_138 rfl ?_
            refine z_iadd C dX3_melt_139 ?_
            refine z_iald C (lt_A (c := 1) hN rfl) hay4 hgy13 (12 + j) (by omega) (by omega) (by decide) dX3_melt_140 ?_
            rw [show ry14 (12 + j) = K9 (7 * j + 1) from ((hCy18 j 1 (by omega) (by decide)).trans ((congrFun hKy17 _).trans (uZ_n _ _ (by omega))))]
            refine z_if_le (tgt := 145) C dX3_melt_141 (by decide) (by omega) (fun hby21 => ?_) (fun hby21 => ?_)
            · refine z_aload_n C 4 dX3_melt_145 rfl ?_
              refine z_iload_n C 3 dX3_melt_146 rfl ?_
              refine z_put (fs' := [.int (zI ((j : Int))), .int (zI (ro9)), .ref (ad (a + 1))]) C (lt_A0 hN rfl) hay3 hgy19 tyX3 tyX3_ok nmX3 rfl inA_X3 0 (by decide) q_154 rfl rfl rfl rfl (Nat.le_of_ble_eq_true rfl) rfl dX3_melt_147 (fun gy22 egy23 => ?_)
              have hgy24 := up_s egy23
              refine z_aload_n C 4 dX3_melt_150 rfl ?_
              refine z_aload_n C 4 dX3_melt_151 rfl ?_
              refine z_get (v := .int (zI ((j : Int)))) C (lt_A0 hN rfl) hay3 hgy24 rfl inA_X3 0 (by decide) q_154 rfl rfl dX3_melt_152 ?_
              refine z_aload_n C 4 dX3_melt_155 rfl ?_
              refine z_get (v := .ref (ad (a + 1))) C (lt_A0 hN rfl) hay3 hgy24 rfl inA_X3 2 (by decide) q_162 rfl rfl dX3_melt_156 ?_
              refine z_bipush (z := 24) C dX3_melt_159 (by decide) ?_
              refine z_iload_n C 3 dX3_melt_161 rfl ?_
              refine z_iadd C dX3_melt_162 ?_
              have hgy25 := up_n egy23 hgy13 (ne_o (i := a) (c := 1) (d := 0) rfl)
              refine z_iald C (lt_A (c := 1) hN rfl) hay4 hgy25 (24 + j) (by omega) (by omega) (by decide) dX3_melt_163 ?_
              rw [show ry14 (24 + j) = K9 (7 * j + 2) from ((hCy18 j 2 (by omega) (by decide)).trans ((congrFun hKy17 _).trans (uZ_n _ _ (by omega))))]
              have hM9 : meM K9 j le = 0 := by unfold meM; rw [hW9, hL8]; rw [if_neg (by omega)]
              have hKm : Ky16 = meK K9 j le := by
                unfold meK
                rw [hM9, hW9, hKy17]
                funext q9
                unfold uZ
                (repeat' split) <;> first | rfl | omega | (subst_vars; omega)
              have hL9 : meL K9 j le - 100 * meM K9 j le = le - (xy8 * (K9 (7 * j + 1))) := by rw [hL8, hM9] <;> omega
              rw [hKm] at hCy18
              have hCj : ∀ y f, y < j → f < 7 → ry14 (12 * f + y) = (meK K9 j le) (7 * y + f) := fun y f h1 h2 => hCy18 y f (by omega) h2
              have hOm := okP_c (C' := meK K9 j le) (hO9.cut (k := j) (by omega)) (fun q9 a9 => by unfold meK; rw [uZ_n _ _ (by omega), uZ_n _ _ (by omega), uZ_n _ _ (by omega)])
              have hs7 : sZ K9 (j + 1) = sZ K9 j + (K9 (7 * j + 1) + K9 (7 * j + 2)) := rfl
              refine z_cV (As := [.int (zI ((j : Int))), .int (zI (K9 (7 * j + 2)))]) (rest := []) (ci := 5) C (c_pWet l D A cs tt N ad _ a hN _ _ _ (by omega) ⟨hgy24, hgy25⟩ j (meK K9 j le) rfl hCj hOm.1 (by omega) ((j : Int)) j (by omega) (by omega) (K9 (7 * j + 2)) (by omega)) (lt_A0 hN rfl) hay3 hgy24 rfl rfl mv_yX3_wet q_484 hd_yX3_wet (by decide) (Nat.le_of_ble_eq_true rfl) (by decide) dX3_melt_164 rfl (kV0 fun gvy26 hvy26 => ?_)
              obtain ⟨⟨rvy26, hpvy26, hCvy26⟩, hfvy26⟩ := hvy26
              obtain ⟨Ky27, hKy28⟩ : ∃ KZ9 : Nat → Int, KZ9 = wtK (meK K9 j le) j (K9 (7 * j + 2)) := ⟨_, rfl⟩
              rw [← hKy28] at hCvy26
              obtain ⟨rovy26, hrovy26⟩ : ∃ x9 : Int, x9 = wtR j (ro9) (K9 (7 * j + 2)) := ⟨_, rfl⟩
              rw [← hrovy26] at hpvy26
              have hOvy26 := wtK_ok hOm.1 (i := j) (w := K9 (7 * j + 2)) (ro := ro9) (by omega) (by omega) (by omega)
              rw [← hKy28, ← hrovy26] at hOvy26
              refine z_iinc (z := (j : Int) - 1) (lv' := [(3, .int (zI ((j : Int) - 1))), (2, .int (zI (le - (xy8 * (K9 (7 * j + 1)))))), (5, .int (zI (xy8))), (4, .int (zI (K9 (7 * j + 1)))), (0, .ref (ad a)), (1, .int (zI (z)))]) (j := 3) C dX3_melt_167 rfl (congrArg zI (by omega)) (by decide) rfl ?_
              refine z_goto (tgt := 9) C dX3_melt_170 (by decide) ?_
              refine z_lv (lv' := [(3, .int (zI ((j : Int) - 1))), (2, .int (zI (le - (xy8 * (K9 (7 * j + 1)))))), (0, .ref (ad a)), (1, .int (zI (z)))]) [0, 1, 4, 5] rfl ?_
              have hq3 : mlZ j Ky27 rovy26 (le - (xy8 * (K9 (7 * j + 1)))) = mlZ n K ro z := by rw [← hml]; show _ = (if le ≤ 0 then _ else if 0 < K9 (7 * j + 1) - meM K9 j le then _ else _); rw [if_neg (by omega), if_neg (by omega), hKy28, hrovy26, hL9, hM9, Int.add_zero]
              exact ih _ (by omega) ((j : Int) - 1) (le - (xy8 * (K9 (7 * j + 1)))) Ky27 rovy26 rvy26 j gvy26 rfl ⟨hpvy26.1, hpvy26.2⟩ (fun j j1 j2 => by rw [hfvy26 _ (by omega) (by omega)]; rw [egy23, va_up_ne _ _ (by omega)]; rw [egy12, va_up_ne _ _ (by omega)]; exact f3 j j1 j2) (by omega) (by omega) hCvy26 hOvy26.1 (by omega) (by omega) hq3
            · have hM9 : meM K9 j le = 0 := by unfold meM; rw [hW9, hL8]; rw [if_neg (by omega)]
              have hKm : Ky16 = meK K9 j le := by
                unfold meK
                rw [hM9, hW9, hKy17]
                funext q9
                unfold uZ
                (repeat' split) <;> first | rfl | omega | (subst_vars; omega)
              have hq2 : (j + 1, meK K9 j le, ro9) = mlZ n K ro z := by rw [← hml]; exact ((if_neg (by omega)).trans (if_pos (by omega))).symm
              rw [← hq2]
              rw [hKm] at hCy18
              exact z_vret C hr hlk dX3_melt_144 (by decide) (by decide) ⟨rfl, rfl, rfl, ⟨_, ⟨hgy19, hgy13⟩, hCy18⟩, fun j j1 j2 => by rw [egy12, va_up_ne _ _ (by omega)]; exact f3 j j1 j2⟩
          · refine z_iload_n C 0 dX3_melt_85 rfl ?_
            refine z_bipush (z := 100) C dX3_melt_86 (by decide) ?_
            refine z_idiv C dX3_melt_88 (by omega) (by omega) (by omega) ?_
            have htq := tdmu (a := le - (xy8 * (K9 (7 * j + 1)))) (k := 100) (by decide) (by omega)
            refine z_iload C 2 dX3_melt_89 rfl ?_
            refine z_mmin C q_483 q_473 q_20 q_474 (by omega) (by omega) (by decide) (Nat.le_of_ble_eq_true rfl) (by decide) (by decide) dX3_melt_91 ?_
            obtain ⟨xy29, exy30, hxy31⟩ := mm_min ((le - (xy8 * (K9 (7 * j + 1)))).tdiv 100) (K9 (7 * j + 1))
            rw [exy30]
            refine z_istore (lv' := [(6, .int (zI (xy29))), (2, .int (zI (le - (xy8 * (K9 (7 * j + 1)))))), (5, .int (zI (xy8))), (4, .int (zI (K9 (7 * j + 1)))), (3, .int (zI ((j : Int)))), (0, .ref (ad a)), (1, .int (zI (z)))]) C dX3_melt_94 (by decide) rfl ?_
            refine z_aload_n C 5 dX3_melt_96 rfl ?_
            refine z_get (v := .ref (ad (a + 1))) C (lt_A0 hN rfl) hay3 hgy19 rfl inA_X3 2 (by decide) q_162 rfl rfl dX3_melt_97 ?_
            refine z_bipush (z := 12) C dX3_melt_100 (by decide) ?_
            refine z_iload_n C 4 dX3_melt_102 rfl ?_
            refine z_iadd C dX3_melt_103 ?_
            refine z_dup2 C dX3_melt_104 rfl rfl ?_
            refine z_iald C (lt_A (c := 1) hN rfl) hay4 hgy13 (12 + j) (by omega) (by omega) (by decide) dX3_melt_105 ?_
            rw [show ry14 (12 + j) = K9 (7 * j + 1) from ((hCy18 j 1 (by omega) (by decide)).trans ((congrFun hKy17 _).trans (uZ_n _ _ (by omega))))]
            refine z_iload C 0 dX3_melt_106 rfl ?_
            refine z_isub C dX3_melt_108 ?_
            refine z_iast C (lt_A (c := 1) hN rfl) hay4 hgy13 (12 + j) (by omega) (by omega) (by decide) dX3_melt_109 (fun gy32 egy33 => ?_)
            have hgy34 := up_s egy33
            obtain ⟨ry35, hvy36⟩ : ∃ rZ9 : Nat → Int, rZ9 = uZ ry14 (12 + j) ((K9 (7 * j + 1)) - xy29) := ⟨_, rfl⟩
            rw [← hvy36] at hgy34
            obtain ⟨Ky37, hKy38⟩ : ∃ KZ9 : Nat → Int, KZ9 = uZ Ky16 (7 * j + 1) ((K9 (7 * j + 1)) - xy29) := ⟨_, rfl⟩
            have hCy39 := lay_u hCy18 hvy36 hKy38 (by omega) (by omega) (by omega) (by decide)
            refine z_aload_n C 5 dX3_melt_110 rfl ?_
            have hgy40 := up_n egy33 hgy19 (ne_o (i := a) (c := 0) (d := 1) rfl)
            refine z_get (v := .ref (ad (a + 1))) C (lt_A0 hN rfl) hay3 hgy40 rfl inA_X3 2 (by decide) q_162 rfl rfl dX3_melt_111 ?_
            refine z_bipush (z := 24) C dX3_melt_114 (by decide) ?_
            refine z_iload_n C 4 dX3_melt_116 rfl ?_
            refine z_iadd C dX3_melt_117 ?_
            refine z_dup2 C dX3_melt_118 rfl rfl ?_
            refine z_iald C (lt_A (c := 1) hN rfl) hay4 hgy34 (24 + j) (by omega) (by omega) (by decide) dX3_melt_119 ?_
            rw [show ry35 (24 + j) = K9 (7 * j + 2) from ((((hCy39 j 2 (by omega) (by decide)).trans ((congrFun hKy38 _).trans (uZ_n _ _ (by omega))))).trans ((congrFun hKy17 _).trans (uZ_n _ _ (by omega))))]
            refine z_iload C 0 dX3_melt_120 rfl ?_
            refine z_iadd C dX3_melt_122 ?_
            refine z_iast C (lt_A (c := 1) hN rfl) hay4 hgy34 (24 + j) (by omega) (by omega) (by decide) dX3_melt_123 (fun gy41 egy42 => ?_)
            have hgy43 := up_s egy42
            obtain ⟨ry44, hvy45⟩ : ∃ rZ9 : Nat → Int, rZ9 = uZ ry35 (24 + j) ((K9 (7 * j + 2)) + xy29) := ⟨_, rfl⟩
            rw [← hvy45] at hgy43
            obtain ⟨Ky46, hKy47⟩ : ∃ KZ9 : Nat → Int, KZ9 = uZ Ky37 (7 * j + 2) ((K9 (7 * j + 2)) + xy29) := ⟨_, rfl⟩
            have hCy48 := lay_u hCy39 hvy45 hKy47 (by omega) (by omega) (by omega) (by decide)
            refine z_iload_n C 1 dX3_melt_124 rfl ?_
            refine z_bipush (z := 100) C dX3_melt_125 (by decide) ?_
            refine z_iload C 0 dX3_melt_127 rfl ?_
            refine z_imul C dX3_melt_129 ?_
            refine z_isub C dX3_melt_130 ?_
            refine z_istore_n (lv' := [(2, .int (zI ((le - (xy8 * (K9 (7 * j + 1)))) - (100 * xy29)))), (6, .int (zI (xy29))), (5, .int (zI (xy8))), (4, .int (zI (K9 (7 * j + 1)))), (3, .int (zI ((j : Int)))), (0, .ref (ad a)), (1, .int (zI (z)))]) C dX3_melt_131 rfl (by decide) rfl ?_
            refine z_aload_n C 5 dX3_melt_132 rfl ?_
            have hgy49 := up_n egy42 hgy40 (ne_o (i := a) (c := 0) (d := 1) rfl)
            refine z_get (v := .ref (ad (a + 1))) C (lt_A0 hN rfl) hay3 hgy49 rfl inA_X3 2 (by decide) q_162 rfl rfl dX3_melt_133 ?_
            refine z_bipush (z := 12) C dX3_melt_136 (by decide) ?_
            refine z_iload_n C 4 dX3_melt_138 rfl ?_
            refine z_iadd C dX3_melt_139 ?_
            refine z_iald C (lt_A (c := 1) hN rfl) hay4 hgy43 (12 + j) (by omega) (by omega) (by decide) dX3_melt_140 ?_
            rw [show ry44 (12 + j) = (K9 (7 * j + 1)) - xy29 from ((((hCy48 j 1 (by omega) (by decide)).trans ((congrFun hKy47 _).trans (uZ_n _ _ (by omega))))).trans ((congrFun hKy38 _).trans (uZ_s _ _ _)))]
            refine z_if_le (tgt := 145) C dX3_melt_141 (by decide) (by omega) (fun hby50 => ?_) (fun hby50 => ?_)
            · refine z_aload_n C 5 dX3_melt_145 rfl ?_
              refine z_iload_n C 4 dX3_melt_146 rfl ?_
              refine z_put (fs' := [.int (zI ((j : Int))), .int (zI (ro9)), .ref (ad (a + 1))]) C (lt_A0 hN rfl) hay3 hgy49 tyX3 tyX3_ok nmX3 rfl inA_X3 0 (by decide) q_154 rfl rfl rfl rfl (Nat.le_of_ble_eq_true rfl) rfl dX3_melt_147 (fun gy51 egy52 => ?_)
              have hgy53 := up_s egy52
              refine z_aload_n C 5 dX3_melt_150 rfl ?_
              refine z_aload_n C 5 dX3_melt_151 rfl ?_
              refine z_get (v := .int (zI ((j : Int)))) C (lt_A0 hN rfl) hay3 hgy53 rfl inA_X3 0 (by decide) q_154 rfl rfl dX3_melt_152 ?_
              refine z_aload_n C 5 dX3_melt_155 rfl ?_
              refine z_get (v := .ref (ad (a + 1))) C (lt_A0 hN rfl) hay3 hgy53 rfl inA_X3 2 (by decide) q_162 rfl rfl dX3_melt_156 ?_
              refine z_bipush (z := 24) C dX3_melt_159 (by decide) ?_
              refine z_iload_n C 4 dX3_melt_161 rfl ?_
              refine z_iadd C dX3_melt_162 ?_
              have hgy54 := up_n egy52 hgy43 (ne_o (i := a) (c := 1) (d := 0) rfl)
              refine z_iald C (lt_A (c := 1) hN rfl) hay4 hgy54 (24 + j) (by omega) (by omega) (by decide) dX3_melt_163 ?_
              rw [show ry44 (24 + j) = (K9 (7 * j + 2)) + xy29 from ((hCy48 j 2 (by omega) (by decide)).trans ((congrFun hKy47 _).trans (uZ_s _ _ _)))]
              have hM9 : meM K9 j le = xy29 := by unfold meM; rw [hW9, hL8]; rw [if_pos (by omega)]; unfold mnZ; split <;> omega
              have hKm : Ky46 = meK K9 j le := by
                unfold meK
                rw [hM9, hW9, hKy47, hKy38, hKy17]
              have hL9 : meL K9 j le - 100 * meM K9 j le = (le - (xy8 * (K9 (7 * j + 1)))) - (100 * xy29) := by rw [hL8, hM9] <;> omega
              rw [hKm] at hCy48
              have hCj : ∀ y f, y < j → f < 7 → ry44 (12 * f + y) = (meK K9 j le) (7 * y + f) := fun y f h1 h2 => hCy48 y f (by omega) h2
              have hOm := okP_c (C' := meK K9 j le) (hO9.cut (k := j) (by omega)) (fun q9 a9 => by unfold meK; rw [uZ_n _ _ (by omega), uZ_n _ _ (by omega), uZ_n _ _ (by omega)])
              have hs7 : sZ K9 (j + 1) = sZ K9 j + (K9 (7 * j + 1) + K9 (7 * j + 2)) := rfl
              refine z_cV (As := [.int (zI ((j : Int))), .int (zI ((K9 (7 * j + 2)) + xy29))]) (rest := []) (ci := 5) C (c_pWet l D A cs tt N ad _ a hN _ _ _ (by omega) ⟨hgy53, hgy54⟩ j (meK K9 j le) rfl hCj hOm.1 (by omega) ((j : Int)) j (by omega) (by omega) ((K9 (7 * j + 2)) + xy29) (by omega)) (lt_A0 hN rfl) hay3 hgy53 rfl rfl mv_yX3_wet q_484 hd_yX3_wet (by decide) (Nat.le_of_ble_eq_true rfl) (by decide) dX3_melt_164 rfl (kV0 fun gvy55 hvy55 => ?_)
              obtain ⟨⟨rvy55, hpvy55, hCvy55⟩, hfvy55⟩ := hvy55
              obtain ⟨Ky56, hKy57⟩ : ∃ KZ9 : Nat → Int, KZ9 = wtK (meK K9 j le) j ((K9 (7 * j + 2)) + xy29) := ⟨_, rfl⟩
              rw [← hKy57] at hCvy55
              obtain ⟨rovy55, hrovy55⟩ : ∃ x9 : Int, x9 = wtR j (ro9) ((K9 (7 * j + 2)) + xy29) := ⟨_, rfl⟩
              rw [← hrovy55] at hpvy55
              have hOvy55 := wtK_ok hOm.1 (i := j) (w := (K9 (7 * j + 2)) + xy29) (ro := ro9) (by omega) (by omega) (by omega)
              rw [← hKy57, ← hrovy55] at hOvy55
              refine z_iinc (z := (j : Int) - 1) (lv' := [(3, .int (zI ((j : Int) - 1))), (2, .int (zI ((le - (xy8 * (K9 (7 * j + 1)))) - (100 * xy29)))), (6, .int (zI (xy29))), (5, .int (zI (xy8))), (4, .int (zI (K9 (7 * j + 1)))), (0, .ref (ad a)), (1, .int (zI (z)))]) (j := 4) C dX3_melt_167 rfl (congrArg zI (by omega)) (by decide) rfl ?_
              refine z_goto (tgt := 9) C dX3_melt_170 (by decide) ?_
              refine z_lv (lv' := [(3, .int (zI ((j : Int) - 1))), (2, .int (zI ((le - (xy8 * (K9 (7 * j + 1)))) - (100 * xy29)))), (0, .ref (ad a)), (1, .int (zI (z)))]) [0, 1, 5, 6] rfl ?_
              have hq3 : mlZ j Ky56 rovy55 ((le - (xy8 * (K9 (7 * j + 1)))) - (100 * xy29)) = mlZ n K ro z := by rw [← hml]; show _ = (if le ≤ 0 then _ else if 0 < K9 (7 * j + 1) - meM K9 j le then _ else _); rw [if_neg (by omega), if_neg (by omega), hKy57, hrovy55, hL9, hM9]
              exact ih _ (by omega) ((j : Int) - 1) ((le - (xy8 * (K9 (7 * j + 1)))) - (100 * xy29)) Ky56 rovy55 rvy55 j gvy55 rfl ⟨hpvy55.1, hpvy55.2⟩ (fun j j1 j2 => by rw [hfvy55 _ (by omega) (by omega)]; rw [egy52, va_up_ne _ _ (by omega)]; rw [egy42, va_up_ne _ _ (by omega)]; rw [egy33, va_up_ne _ _ (by omega)]; rw [egy12, va_up_ne _ _ (by omega)]; exact f3 j j1 j2) (by omega) (by omega) hCvy55 hOvy55.1 (by omega) (by omega) hq3
            · have hM9 : meM K9 j le = xy29 := by unfold meM; rw [hW9, hL8]; rw [if_pos (by omega)]; unfold mnZ; split <;> omega
              have hKm : Ky46 = meK K9 j le := by
                unfold meK
                rw [hM9, hW9, hKy47, hKy38, hKy17]
              have hq2 : (j + 1, meK K9 j le, ro9) = mlZ n K ro z := by rw [← hml]; exact ((if_neg (by omega)).trans (if_pos (by omega))).symm
              rw [← hq2]
              rw [hKm] at hCy48
              exact z_vret C hr hlk dX3_melt_144 (by decide) (by decide) ⟨rfl, rfl, rfl, ⟨_, ⟨hgy49, hgy43⟩, hCy48⟩, fun j j1 j2 => by rw [egy42, va_up_ne _ _ (by omega)]; rw [egy33, va_up_ne _ _ (by omega)]; rw [egy12, va_up_ne _ _ (by omega)]; exact f3 j j1 j2⟩
  refine z_iload_n C 1 dX3_melt_0 rfl ?_
  refine z_istore_n (lv' := [(2, .int (zI (z))), (0, .ref (ad a)), (1, .int (zI (z)))]) C dX3_melt_1 rfl (by decide) rfl ?_
  refine z_aload_n C 1 dX3_melt_2 rfl ?_
  refine z_get (v := .int (zI (sz))) C (lt_A0 hN rfl) hay1 ha.1 rfl inA_X3 0 (by decide) q_154 rfl rfl dX3_melt_3 ?_
  refine z_iconst (z := 1) C dX3_melt_6 rfl ?_
  refine z_isub C dX3_melt_7 ?_
  refine z_istore_n (lv' := [(3, .int (zI (sz - 1))), (2, .int (zI (z))), (0, .ref (ad a)), (1, .int (zI (z)))]) C dX3_melt_8 rfl (by decide) rfl ?_
  refine z_lv (lv' := [(3, .int (zI (sz - 1))), (2, .int (zI (z))), (0, .ref (ad a)), (1, .int (zI (z)))]) [0, 1, 2, 3] rfl ?_
  subst hn
  exact lp _ ((n : Int) - 1) (z) K ro r n _ rfl ⟨ha.1, ha.2⟩ (fun j j1 j2 => by rfl) (by omega) (by omega) hC hO (by omega) (by omega) rfl

set_option maxRecDepth 100000 in
set_option maxHeartbeats 4000000 in
theorem c_pAdd (l : Launch) (D : va_G) (A : Nat → Prop) (cs : Nat → ClassId) (tt : Nat) (N : Nat) (ad : Nat → Nat) (g : Nat → va_E) (a : Nat) (hN : a + 2 ≤ N) (sz ro : Int) (r : Nat → Int) (hz : 0 ≤ sz ∧ sz ≤ 12) (ha : isPack cs ad g a sz ro r) (n : Nat) (K : Nat → Int) (hn : sz = (n : Int)) (hC : ∀ j f, j < n → f < 7 → r (12 * f + j) = K (7 * j + f)) (hO : okP K n) (hn11 : n < 12) (z : Int) (hz9 : -2147483648 ≤ z ∧ z ≤ 2147483647) (z1 : Int) (hz19 : -2147483648 ≤ z1 ∧ z1 ≤ 2147483647) (z2 : Int) (hz29 : -2147483648 ≤ z2 ∧ z2 ≤ 2147483647) (z3 : Int) (hz39 : -2147483648 ≤ z3 ∧ z3 ≤ 2147483647) (z4 : Int) (hz49 : -2147483648 ≤ z4 ∧ z4 ≤ 2147483647) (z5 : Int) (hz59 : -2147483648 ≤ z5 ∧ z5 ≤ 2147483647) : zM l yX3_add cX3_add 7 none ({ frames := 1, cells := 0, slots := 0, locals := 60 } : Room) D A cs tt N ad g [.ref (ad a), .int (zI (z)), .int (zI (z1)), .int (zI (z2)), .int (zI (z3)), .int (zI (z4)), .int (zI (z5))] (rV0 N ad fun g' => (∃ r' : Nat → Int, isPack cs ad g' a (sz + 1) (ro) r' ∧ ∀ y f, y < (n + 1) → f < 7 → r' (12 * f + y) = (adK K n z z1 z2 z3 z4 z5) (7 * y + f)) ∧ ∀ q, q ≠ a → q ≠ a + 1 → g' q = g q) := by
  have hay1 : zAt ad (a) (ad a) := rfl
  have hay2 : zAt ad (a + 1) (ad (a + 1)) := rfl
  refine z_of (by decide) (Nat.le_of_ble_eq_true rfl) ?_
  intro p e s m below meth c C hr hlk hnm
  refine z_lv (lv' := [(0, .ref (ad a)), (1, .int (zI (z))), (2, .int (zI (z1))), (3, .int (zI (z2))), (4, .int (zI (z3))), (5, .int (zI (z4))), (6, .int (zI (z5)))]) [0, 1, 2, 3, 4, 5, 6] rfl ?_
  refine z_aload_n C 0 dX3_add_0 rfl ?_
  refine z_get (v := .int (zI (sz))) C (lt_A0 hN rfl) hay1 ha.1 rfl inA_X3 0 (by decide) q_154 rfl rfl dX3_add_1 ?_
  refine z_bipush (z := 12) C dX3_add_4 (by decide) ?_
  refine z_icmp_ge (tgt := 112) C dX3_add_6 (by decide) (by omega) (by omega) (fun h => absurd h (by omega)) (fun _ => ?_)
  refine z_aload_n C 0 dX3_add_9 rfl ?_
  refine z_get (v := .ref (ad (a + 1))) C (lt_A0 hN rfl) hay1 ha.1 rfl inA_X3 2 (by decide) q_162 rfl rfl dX3_add_10 ?_
  refine z_iconst (z := 0) C dX3_add_13 rfl ?_
  refine z_aload_n C 0 dX3_add_14 rfl ?_
  refine z_get (v := .int (zI (sz))) C (lt_A0 hN rfl) hay1 ha.1 rfl inA_X3 0 (by decide) q_154 rfl rfl dX3_add_15 ?_
  refine z_iadd C dX3_add_18 ?_
  refine z_iload_n C 1 dX3_add_19 rfl ?_
  refine z_iast C (lt_A (c := 1) hN rfl) hay2 ha.2 (0 + n) (by omega) (by omega) (by decide) dX3_add_20 (fun gy3 egy4 => ?_)
  have hgy5 := up_s egy4
  refine z_aload_n C 0 dX3_add_21 rfl ?_
  have hgy6 := up_n egy4 ha.1 (ne_o (i := a) (c := 0) (d := 1) rfl)
  refine z_get (v := .ref (ad (a + 1))) C (lt_A0 hN rfl) hay1 hgy6 rfl inA_X3 2 (by decide) q_162 rfl rfl dX3_add_22 ?_
  refine z_bipush (z := 12) C dX3_add_25 (by decide) ?_
  refine z_aload_n C 0 dX3_add_27 rfl ?_
  refine z_get (v := .int (zI (sz))) C (lt_A0 hN rfl) hay1 hgy6 rfl inA_X3 0 (by decide) q_154 rfl rfl dX3_add_28 ?_
  refine z_iadd C dX3_add_31 ?_
  refine z_iload_n C 2 dX3_add_32 rfl ?_
  refine z_iast C (lt_A (c := 1) hN rfl) hay2 hgy5 (12 + n) (by omega) (by omega) (by decide) dX3_add_33 (fun gy7 egy8 => ?_)
  have hgy9 := up_s egy8
  refine z_aload_n C 0 dX3_add_34 rfl ?_
  have hgy10 := up_n egy8 hgy6 (ne_o (i := a) (c := 0) (d := 1) rfl)
  refine z_get (v := .ref (ad (a + 1))) C (lt_A0 hN rfl) hay1 hgy10 rfl inA_X3 2 (by decide) q_162 rfl rfl dX3_add_35 ?_
  refine z_bipush (z := 24) C dX3_add_38 (by decide) ?_
  refine z_aload_n C 0 dX3_add_40 rfl ?_
  refine z_get (v := .int (zI (sz))) C (lt_A0 hN rfl) hay1 hgy10 rfl inA_X3 0 (by decide) q_154 rfl rfl dX3_add_41 ?_
  refine z_iadd C dX3_add_44 ?_
  refine z_iload_n C 3 dX3_add_45 rfl ?_
  refine z_iast C (lt_A (c := 1) hN rfl) hay2 hgy9 (24 + n) (by omega) (by omega) (by decide) dX3_add_46 (fun gy11 egy12 => ?_)
  have hgy13 := up_s egy12
  refine z_aload_n C 0 dX3_add_47 rfl ?_
  have hgy14 := up_n egy12 hgy10 (ne_o (i := a) (c := 0) (d := 1) rfl)
  refine z_get (v := .ref (ad (a + 1))) C (lt_A0 hN rfl) hay1 hgy14 rfl inA_X3 2 (by decide) q_162 rfl rfl dX3_add_48 ?_
  refine z_bipush (z := 36) C dX3_add_51 (by decide) ?_
  refine z_aload_n C 0 dX3_add_53 rfl ?_
  refine z_get (v := .int (zI (sz))) C (lt_A0 hN rfl) hay1 hgy14 rfl inA_X3 0 (by decide) q_154 rfl rfl dX3_add_54 ?_
  refine z_iadd C dX3_add_57 ?_
  refine z_iload C 4 dX3_add_58 rfl ?_
  refine z_iast C (lt_A (c := 1) hN rfl) hay2 hgy13 (36 + n) (by omega) (by omega) (by decide) dX3_add_60 (fun gy15 egy16 => ?_)
  have hgy17 := up_s egy16
  refine z_aload_n C 0 dX3_add_61 rfl ?_
  have hgy18 := up_n egy16 hgy14 (ne_o (i := a) (c := 0) (d := 1) rfl)
  refine z_get (v := .ref (ad (a + 1))) C (lt_A0 hN rfl) hay1 hgy18 rfl inA_X3 2 (by decide) q_162 rfl rfl dX3_add_62 ?_
  refine z_bipush (z := 48) C dX3_add_65 (by decide) ?_
  refine z_aload_n C 0 dX3_add_67 rfl ?_
  refine z_get (v := .int (zI (sz))) C (lt_A0 hN rfl) hay1 hgy18 rfl inA_X3 0 (by decide) q_154 rfl rfl dX3_add_68 ?_
  refine z_iadd C dX3_add_71 ?_
  refine z_iload C 5 dX3_add_72 rfl ?_
  refine z_iast C (lt_A (c := 1) hN rfl) hay2 hgy17 (48 + n) (by omega) (by omega) (by decide) dX3_add_74 (fun gy19 egy20 => ?_)
  have hgy21 := up_s egy20
  refine z_aload_n C 0 dX3_add_75 rfl ?_
  have hgy22 := up_n egy20 hgy18 (ne_o (i := a) (c := 0) (d := 1) rfl)
  refine z_get (v := .ref (ad (a + 1))) C (lt_A0 hN rfl) hay1 hgy22 rfl inA_X3 2 (by decide) q_162 rfl rfl dX3_add_76 ?_
  refine z_bipush (z := 60) C dX3_add_79 (by decide) ?_
  refine z_aload_n C 0 dX3_add_81 rfl ?_
  refine z_get (v := .int (zI (sz))) C (lt_A0 hN rfl) hay1 hgy22 rfl inA_X3 0 (by decide) q_154 rfl rfl dX3_add_82 ?_
  refine z_iadd C dX3_add_85 ?_
  refine z_iconst (z := 0) C dX3_add_86 rfl ?_
  refine z_iast C (lt_A (c := 1) hN rfl) hay2 hgy21 (60 + n) (by omega) (by omega) (by decide) dX3_add_87 (fun gy23 egy24 => ?_)
  have hgy25 := up_s egy24
  refine z_aload_n C 0 dX3_add_88 rfl ?_
  have hgy26 := up_n egy24 hgy22 (ne_o (i := a) (c := 0) (d := 1) rfl)
  refine z_get (v := .ref (ad (a + 1))) C (lt_A0 hN rfl) hay1 hgy26 rfl inA_X3 2 (by decide) q_162 rfl rfl dX3_add_89 ?_
  refine z_bipush (z := 72) C dX3_add_92 (by decide) ?_
  refine z_aload_n C 0 dX3_add_94 rfl ?_
  refine z_get (v := .int (zI (sz))) C (lt_A0 hN rfl) hay1 hgy26 rfl inA_X3 0 (by decide) q_154 rfl rfl dX3_add_95 ?_
  refine z_iadd C dX3_add_98 ?_
  refine z_iload C 6 dX3_add_99 rfl ?_
  refine z_iast C (lt_A (c := 1) hN rfl) hay2 hgy25 (72 + n) (by omega) (by omega) (by decide) dX3_add_101 (fun gy27 egy28 => ?_)
  have hgy29 := up_s egy28
  refine z_aload_n C 0 dX3_add_102 rfl ?_
  refine z_dup C dX3_add_103 rfl ?_
  have hgy30 := up_n egy28 hgy26 (ne_o (i := a) (c := 0) (d := 1) rfl)
  refine z_get (v := .int (zI (sz))) C (lt_A0 hN rfl) hay1 hgy30 rfl inA_X3 0 (by decide) q_154 rfl rfl dX3_add_104 ?_
  refine z_iconst (z := 1) C dX3_add_107 rfl ?_
  refine z_iadd C dX3_add_108 ?_
  refine z_put (fs' := [.int (zI (sz + 1)), .int (zI (ro)), .ref (ad (a + 1))]) C (lt_A0 hN rfl) hay1 hgy30 tyX3 tyX3_ok nmX3 rfl inA_X3 0 (by decide) q_154 rfl rfl rfl rfl (Nat.le_of_ble_eq_true rfl) rfl dX3_add_109 (fun gy31 egy32 => ?_)
  have hgy33 := up_s egy32
  have hgy34 := up_n egy32 hgy29 (ne_o (i := a) (c := 1) (d := 0) rfl)
  exact z_vret C hr hlk dX3_add_112 (by decide) (by decide) ⟨rfl, rfl, rfl, ⟨_, ⟨hgy33, hgy34⟩, lay_a hC hn11⟩, fun j j1 j2 => by rw [egy32, va_up_ne _ _ (by omega)]; rw [egy28, va_up_ne _ _ (by omega)]; rw [egy24, va_up_ne _ _ (by omega)]; rw [egy20, va_up_ne _ _ (by omega)]; rw [egy16, va_up_ne _ _ (by omega)]; rw [egy12, va_up_ne _ _ (by omega)]; rw [egy8, va_up_ne _ _ (by omega)]; rw [egy4, va_up_ne _ _ (by omega)]⟩
end
section
-- 9kj.phys3.lean.txt
/-- layers 0 and 1 joined -/
def joT (C : Nat → Int) : Int := (C 4 * C 1 + C 11 * C 8).tdiv (C 1 + C 8)
def joK (C : Nat → Int) : Nat → Int := fun q => if q = 0 then (if C 1 < C 8 then C 7 else C 0) else if q = 1 then C 1 + C 8 else if q = 2 then C 2 + C 9 else if q = 3 then C 3 + C 10 else if q = 4 then joT C else if q = 5 then (if C 5 < C 12 then C 12 else C 5) else if q = 6 then (if C 1 < C 8 then C 13 else C 6) else C (q + 7)
theorem joK_o {C : Nat → Int} {q : Nat} (h : 7 ≤ q) : joK C q = C (q + 7) := by
  unfold joK
  rw [if_neg (by omega), if_neg (by omega), if_neg (by omega), if_neg (by omega), if_neg (by omega), if_neg (by omega), if_neg (by omega)]
theorem joK_0 {C : Nat → Int} : joK C 0 = (if C 1 < C 8 then C 7 else C 0) := by unfold joK; rw [if_pos rfl]
theorem joK_1 {C : Nat → Int} : joK C 1 = C 1 + C 8 := by unfold joK; rw [if_neg (by decide), if_pos rfl]
theorem joK_2 {C : Nat → Int} : joK C 2 = C 2 + C 9 := by unfold joK; rw [if_neg (by decide), if_neg (by decide), if_pos rfl]
theorem joK_3 {C : Nat → Int} : joK C 3 = C 3 + C 10 := by unfold joK; rw [if_neg (by decide), if_neg (by decide), if_neg (by decide), if_pos rfl]
theorem joK_4 {C : Nat → Int} : joK C 4 = joT C := by unfold joK; rw [if_neg (by decide), if_neg (by decide), if_neg (by decide), if_neg (by decide), if_pos rfl]
theorem joK_5 {C : Nat → Int} : joK C 5 = (if C 5 < C 12 then C 12 else C 5) := by unfold joK; rw [if_neg (by decide), if_neg (by decide), if_neg (by decide), if_neg (by decide), if_neg (by decide), if_pos rfl]
theorem joK_6 {C : Nat → Int} : joK C 6 = (if C 1 < C 8 then C 13 else C 6) := by unfold joK; rw [if_neg (by decide), if_neg (by decide), if_neg (by decide), if_neg (by decide), if_neg (by decide), if_neg (by decide), if_pos rfl]
theorem joK_l {C : Nat → Int} {l f : Nat} (h : 1 ≤ l) : joK C (7 * l + f) = C (7 * (l + 1) + f) := (joK_o (by omega)).trans (congrArg C (by omega))
theorem okP.l01 {C : Nat → Int} {n : Nat} (h : okP C n) (hn : 2 ≤ n) : (((0 ≤ C 0 ∧ C 0 ≤ 4) ∧ (1 ≤ C 1 ∧ C 1 ≤ 138500) ∧ (0 ≤ C 2 ∧ C 2 ≤ 138500) ∧ (1 ≤ C 3 ∧ C 3 ≤ 400000000) ∧ (-300 ≤ C 4 ∧ C 4 ≤ 0) ∧ (0 ≤ C 5 ∧ C 5 ≤ 100000) ∧ (0 ≤ C 6 ∧ C 6 ≤ 20000)) ∧ C 1 + C 2 ≤ 138500) ∧ (((0 ≤ C 7 ∧ C 7 ≤ 4) ∧ (1 ≤ C 8 ∧ C 8 ≤ 138500) ∧ (0 ≤ C 9 ∧ C 9 ≤ 138500) ∧ (1 ≤ C 10 ∧ C 10 ≤ 400000000) ∧ (-300 ≤ C 11 ∧ C 11 ≤ 0) ∧ (0 ≤ C 12 ∧ C 12 ≤ 100000) ∧ (0 ≤ C 13 ∧ C 13 ≤ 20000)) ∧ C 8 + C 9 ≤ 138500) := ⟨h.ly (l := 0) (by omega), h.ly (l := 1) (by omega)⟩
theorem joT_b {C : Nat → Int} {n : Nat} (h : okP C n) (hn : 2 ≤ n) : (-83100000 ≤ C 4 * C 1 + C 11 * C 8 ∧ C 4 * C 1 + C 11 * C 8 ≤ 0) ∧ -300 ≤ joT C ∧ joT C ≤ 0 := by
  obtain ⟨⟨⟨a0, a1, a2, a3, a4, a5, a6⟩, a9⟩, ⟨b0, b1, b2, b3, b4, b5, b6⟩, b9⟩ := h.l01 hn
  have e1 : -C 4 * C 1 ≤ 300 * C 1 := Int.mul_le_mul_of_nonneg_right (by omega) (by omega)
  have e2 : -C 11 * C 8 ≤ 300 * C 8 := Int.mul_le_mul_of_nonneg_right (by omega) (by omega)
  have e3 : 0 ≤ -C 4 * C 1 := Int.mul_nonneg (by omega) (by omega)
  have e4 : 0 ≤ -C 11 * C 8 := Int.mul_nonneg (by omega) (by omega)
  rw [Int.neg_mul] at e1 e2 e3 e4
  have e5 := tdq (a := -(C 4 * C 1 + C 11 * C 8)) (k := C 1 + C 8) (q := 300) (by omega) (by omega) (by omega)
  rw [Int.neg_tdiv] at e5
  unfold joT
  omega
theorem jo_s {C : Nat → Int} : ∀ k, sZ (joK C) (k + 1) = sZ C (k + 2) ∧ dZ (joK C) (k + 1) = dZ C (k + 2) := by
  intro k
  induction k with
  | zero =>
    have e1 : sZ (joK C) 1 = 0 + (joK C 1 + joK C 2) := rfl
    have e2 : sZ C 2 = 0 + (C 1 + C 2) + (C 8 + C 9) := rfl
    have e3 : dZ (joK C) 1 = 0 + joK C 3 := rfl
    have e4 : dZ C 2 = 0 + C 3 + C 10 := rfl
    rw [joK_1, joK_2] at e1
    rw [joK_3] at e3
    show sZ (joK C) 1 = sZ C 2 ∧ dZ (joK C) 1 = dZ C 2
    omega
  | succ k ih =>
    have e1 : sZ (joK C) (k + 1 + 1) = sZ (joK C) (k + 1) + (joK C (7 * (k + 1) + 1) + joK C (7 * (k + 1) + 2)) := rfl
    have e2 : sZ C (k + 1 + 2) = sZ C (k + 2) + (C (7 * (k + 1 + 1) + 1) + C (7 * (k + 1 + 1) + 2)) := rfl
    have e3 : dZ (joK C) (k + 1 + 1) = dZ (joK C) (k + 1) + joK C (7 * (k + 1) + 3) := rfl
    have e4 : dZ C (k + 1 + 2) = dZ C (k + 2) + C (7 * (k + 1 + 1) + 3) := rfl
    rw [joK_l (by omega), joK_l (by omega)] at e1
    rw [joK_l (by omega)] at e3
    omega
theorem jo_ok {C : Nat → Int} {m : Nat} (h : okP C (m + 2)) : okP (joK C) (m + 1) ∧ sZ (joK C) (m + 1) = sZ C (m + 2) ∧ dZ (joK C) (m + 1) = dZ C (m + 2) := by
  obtain ⟨e1, e2⟩ := jo_s (C := C) m
  refine ⟨⟨by have := h.1; omega, fun l hl => ?_, by have := h.2.2.1; omega, by have := h.2.2.2; omega⟩, e1, e2⟩
  by_cases e : l = 0
  · subst e
    obtain ⟨⟨⟨a0, a1, a2, a3, a4, a5, a6⟩, a9⟩, ⟨b0, b1, b2, b3, b4, b5, b6⟩, b9⟩ := h.l01 (by omega)
    have ht := (joT_b h (by omega)).2
    show (0 ≤ joK C 0 ∧ joK C 0 ≤ 4) ∧ 1 ≤ joK C 1 ∧ 0 ≤ joK C 2 ∧ 1 ≤ joK C 3 ∧ (-300 ≤ joK C 4 ∧ joK C 4 ≤ 0) ∧ (0 ≤ joK C 5 ∧ joK C 5 ≤ 100000) ∧ 0 ≤ joK C 6 ∧ joK C 6 ≤ 20000
    rw [joK_0, joK_1, joK_2, joK_3, joK_4, joK_5, joK_6]
    refine ⟨?_, by omega, by omega, by omega, ht, ?_, ?_⟩
    · split <;> omega
    · split <;> omega
    · split <;> omega
  · have h9 := h.2.1 (l + 1) (by omega)
    unfold lyP at *
    rw [show joK C (7 * l) = C (7 * (l + 1)) from joK_l (f := 0) (by omega), joK_l (by omega), joK_l (by omega), joK_l (by omega), joK_l (by omega), joK_l (by omega), joK_l (by omega)]
    exact h9
/-- how much more ICE and WATER than DEPTH -/
def exL (C : Nat → Int) (l : Nat) : Int := if C (7 * l + 3) < mZ C l then mZ C l - C (7 * l + 3) else 0
def xZ (C : Nat → Int) : Nat → Int
  | 0 => 0
  | k + 1 => xZ C k + exL C k
theorem exL_b (C : Nat → Int) (l : Nat) : 0 ≤ exL C l ∧ mZ C l ≤ C (7 * l + 3) + exL C l := by
  unfold exL
  split <;> omega
theorem xZ_m {C : Nat → Int} : ∀ n k, k ≤ n → 0 ≤ xZ C k ∧ xZ C k ≤ xZ C n := by
  intro n
  induction n with
  | zero => intro k hk; rw [show k = 0 by omega]; exact ⟨Int.le_refl _, Int.le_refl _⟩
  | succ n ih =>
    intro k hk
    have h1 := (exL_b C n).1
    have h2 : xZ C (n + 1) = xZ C n + exL C n := rfl
    by_cases e : k = n + 1
    · have := (ih n (Nat.le_refl _)).1
      rw [e]
      omega
    · have := ih k (by omega)
      omega
theorem xZ_l {C : Nat → Int} {n l : Nat} (h : l < n) : exL C l ≤ xZ C n := by
  have h1 := xZ_m (C := C) n (l + 1) (by omega)
  have h2 := (xZ_m (C := C) n l (by omega)).1
  have h3 : xZ C (l + 1) = xZ C l + exL C l := rfl
  omega
theorem xZ_e {C C' : Nat → Int} {n : Nat} (h : ∀ l, l < n → C' (7 * l + 1) = C (7 * l + 1) ∧ C' (7 * l + 2) = C (7 * l + 2) ∧ C' (7 * l + 3) = C (7 * l + 3)) : ∀ k, k ≤ n → xZ C' k = xZ C k := by
  intro k
  induction k with
  | zero => intro _; rfl
  | succ k ih =>
    intro hk
    obtain ⟨e1, e2, e3⟩ := h k (by omega)
    show xZ C' k + exL C' k = xZ C k + exL C k
    rw [ih (by omega)]
    unfold exL mZ
    rw [e1, e2, e3]
theorem jo_x {C : Nat → Int} (h : okP C 2) : ∀ k, xZ (joK C) (k + 1) ≤ xZ C (k + 2) := by
  intro k
  induction k with
  | zero =>
    have e1 : xZ (joK C) 1 = 0 + (if joK C 3 < joK C 1 + joK C 2 then joK C 1 + joK C 2 - joK C 3 else 0) := rfl
    have e2 : xZ C 2 = 0 + (if C 3 < C 1 + C 2 then C 1 + C 2 - C 3 else 0) + (if C 10 < C 8 + C 9 then C 8 + C 9 - C 10 else 0) := rfl
    rw [joK_1, joK_2, joK_3] at e1
    show xZ (joK C) 1 ≤ xZ C 2
    rw [e1, e2]
    (repeat' split) <;> omega
  | succ k ih =>
    have e1 : xZ (joK C) (k + 1 + 1) = xZ (joK C) (k + 1) + exL (joK C) (k + 1) := rfl
    have e2 : xZ C (k + 1 + 2) = xZ C (k + 2) + exL C (k + 2) := rfl
    have e3 : exL (joK C) (k + 1) = exL C (k + 2) := by
      unfold exL mZ
      rw [joK_l (by omega), joK_l (by omega), joK_l (by omega)]
    omega
/-- a slope: n layers, their cells, the RUNOFF -/
abbrev SL9 : Type := Nat × (Nat → Int) × Int
/-- a slope as it must be: mass with RUNOFF at most M, DEPTH at most E, AGE at most G -/
def okSl (M E G : Int) (S : SL9) : Prop := okP S.2.1 S.1 ∧ 0 ≤ S.2.2 ∧ S.2.2 + sZ S.2.1 S.1 ≤ M ∧ dZ S.2.1 S.1 ≤ E ∧ ∀ l, l < S.1 → S.2.1 (7 * l + 5) ≤ G
/-- and between HOURS -/
def okSx (X : Int) (S : SL9) : Prop := (∀ l, l < S.1 → S.2.1 (7 * l + 1) ≤ S.2.1 (7 * l + 3)) ∧ xZ S.2.1 S.1 ≤ X
theorem okSl.mono {M E G M' E' G' : Int} {S : SL9} (h : okSl M E G S) (hM : M ≤ M') (hE : E ≤ E') (hG : G ≤ G') : okSl M' E' G' S := ⟨h.1, h.2.1, by have := h.2.2.1; omega, by have := h.2.2.2.1; omega, fun l hl => by have := h.2.2.2.2 l hl; omega⟩
theorem okSx.mono {X X' : Int} {S : SL9} (h : okSx X S) (hX : X ≤ X') : okSx X' S := ⟨h.1, by have := h.2; omega⟩
theorem okSx.x {X : Int} {S : SL9} (h : okSx X S) (hX : X ≤ 26300) : okX S.2.1 S.1 := fun l hl => by
  have h1 := (exL_b S.2.1 l).2
  have h2 := xZ_l (C := S.2.1) hl
  have h3 := h.2
  have h4 : mZ S.2.1 l = S.2.1 (7 * l + 1) + S.2.1 (7 * l + 2) := rfl
  exact ⟨h.1 l hl, by omega⟩
/-- something comes on top: a slope of twelve layers is joined first -/
def cmZ (kind ice temp nm : Int) (S : SL9) : SL9 := if S.1 = 12 then (12, adK (joK S.2.1) 11 kind ice 0 (10 * ice) temp nm, S.2.2) else (S.1 + 1, adK S.2.1 S.1 kind ice 0 (10 * ice) temp nm, S.2.2)
/-- what falls: 1 SNOW, 2 RAIN, 3 HOAR -/
def foZ (what much air nm : Int) (S : SL9) : SL9 := if what = 2 then (S.1, wtK S.2.1 S.1 much, wtR S.1 S.2.2 much) else if what = 3 ∧ air < 0 then cmZ 4 1 air nm S else if what = 1 then cmZ 0 much (mnZ air 0) nm S else S
def foN (what air : Int) : Int := if what = 2 then 0 else if what = 3 ∧ air < 0 then 1 else if what = 1 then 1 else 0
theorem adK_x {C : Nat → Int} {n : Nat} {v0 v1 v2 v3 v4 v6 : Int} : ∀ k, k ≤ n → xZ (adK C n v0 v1 v2 v3 v4 v6) k = xZ C k := fun k hk => xZ_e (n := n) (fun l hl => ⟨adK_o (by omega), adK_o (by omega), adK_o (by omega)⟩) k hk
theorem add_sl {M E G X kind ice temp nm : Int} {n : Nat} {C : Nat → Int} {ro : Int} (h : okSl M E G (n, C, ro)) (hn : n < 12) (hM : M + 50 ≤ 138500) (hE : E + 500 ≤ 400000000) (hk : 0 ≤ kind ∧ kind ≤ 4) (hi : 1 ≤ ice ∧ ice ≤ 50) (ht : -300 ≤ temp ∧ temp ≤ 0) (hm : 0 ≤ nm ∧ nm ≤ 20000) (hG : 0 ≤ G) : okSl (M + 50) (E + 500) G (n + 1, adK C n kind ice 0 (10 * ice) temp nm, ro) ∧ (okSx X (n, C, ro) → okSx X (n + 1, adK C n kind ice 0 (10 * ice) temp nm, ro)) := by
  obtain ⟨h1, h2, h3, h4, h5⟩ := h
  have h1 : okP C n := h1
  have hs0 := (sZ_n h1 (k := 0) (by omega)).1
  have hs1 := sZ_n h1 (k := n) (Nat.le_refl _)
  have h3' : ro + sZ C n ≤ M := h3
  have h2' : 0 ≤ ro := h2
  have h4' : dZ C n ≤ E := h4
  have a := h1.add hn hk hi.1 (Int.le_refl 0) (show 1 ≤ 10 * ice by omega) ht hm (show sZ C n + (ice + 0) ≤ 138500 by omega) (show dZ C n + 10 * ice ≤ 400000000 by omega)
  refine ⟨⟨a.1, h2, ?_, ?_, fun l hl => ?_⟩, fun hx => ⟨fun l hl => ?_, ?_⟩⟩
  · show ro + sZ (adK C n kind ice 0 (10 * ice) temp nm) (n + 1) ≤ M + 50
    rw [a.2.1]; omega
  · show dZ (adK C n kind ice 0 (10 * ice) temp nm) (n + 1) ≤ E + 500
    rw [a.2.2]; omega
  · show adK C n kind ice 0 (10 * ice) temp nm (7 * l + 5) ≤ G
    by_cases e : l = n
    · rw [e, adK_f5]; exact hG
    · have hl' : l < n + 1 := hl
      rw [adK_o (by omega)]; exact h5 l (show l < n by omega)
  · show adK C n kind ice 0 (10 * ice) temp nm (7 * l + 1) ≤ adK C n kind ice 0 (10 * ice) temp nm (7 * l + 3)
    by_cases e : l = n
    · rw [e, adK_f1, adK_f3]; omega
    · have hl' : l < n + 1 := hl
      rw [adK_o (by omega), adK_o (by omega)]; exact hx.1 l (show l < n by omega)
  · show xZ (adK C n kind ice 0 (10 * ice) temp nm) n + exL (adK C n kind ice 0 (10 * ice) temp nm) n ≤ X
    rw [adK_x n (Nat.le_refl _)]
    have e1 : exL (adK C n kind ice 0 (10 * ice) temp nm) n = 0 := by
      unfold exL mZ
      rw [adK_f1, adK_f2, adK_f3, if_neg (by omega)]
    have := hx.2
    have e2 : xZ C n ≤ X := this
    omega
theorem jo_sl {M E G X : Int} {C : Nat → Int} {ro : Int} (h : okSl M E G (12, C, ro)) : okSl M E G (11, joK C, ro) ∧ (okSx X (12, C, ro) → okSx X (11, joK C, ro)) := by
  obtain ⟨h1, h2, h3, h4, h5⟩ := h
  have h1 : okP C 12 := h1
  obtain ⟨a, b, c⟩ := jo_ok (m := 10) h1
  refine ⟨⟨a, h2, ?_, ?_, fun l hl => ?_⟩, fun hx => ⟨fun l hl => ?_, ?_⟩⟩
  · show ro + sZ (joK C) 11 ≤ M
    rw [b]; exact h3
  · show dZ (joK C) 11 ≤ E
    rw [c]; exact h4
  · show joK C (7 * l + 5) ≤ G
    have hl' : l < 11 := hl
    by_cases e : l = 0
    · subst e
      have q0 : C 5 ≤ G := h5 0 (show 0 < 12 by decide)
      have q1 : C 12 ≤ G := h5 1 (show 1 < 12 by decide)
      show joK C 5 ≤ G
      rw [joK_5]
      split <;> omega
    · rw [joK_l (by omega)]; exact h5 (l + 1) (show l + 1 < 12 by omega)
  · show joK C (7 * l + 1) ≤ joK C (7 * l + 3)
    have hl' : l < 11 := hl
    by_cases e : l = 0
    · subst e
      have q0 : C 1 ≤ C 3 := hx.1 0 (show 0 < 12 by decide)
      have q1 : C 8 ≤ C 10 := hx.1 1 (show 1 < 12 by decide)
      show joK C 1 ≤ joK C 3
      rw [joK_1, joK_3]
      omega
    · rw [joK_l (by omega), joK_l (by omega)]; exact hx.1 (l + 1) (show l + 1 < 12 by omega)
  · have q := jo_x (h1.cut (k := 2) (by decide)) 10
    have q2 : xZ C 12 ≤ X := hx.2
    show xZ (joK C) 11 ≤ X
    exact Int.le_trans q q2
theorem cm_sl {M E G X kind ice temp nm : Int} {S : SL9} (h : okSl M E G S) (hM : M + 50 ≤ 138500) (hE : E + 500 ≤ 400000000) (hk : 0 ≤ kind ∧ kind ≤ 4) (hi : 1 ≤ ice ∧ ice ≤ 50) (ht : -300 ≤ temp ∧ temp ≤ 0) (hm : 0 ≤ nm ∧ nm ≤ 20000) (hG : 0 ≤ G) : okSl (M + 50) (E + 500) G (cmZ kind ice temp nm S) ∧ (okSx X S → okSx X (cmZ kind ice temp nm S)) := by
  obtain ⟨n, C, ro⟩ := S
  have hn : n ≤ 12 := h.1.1
  unfold cmZ
  by_cases e : n = 12
  · subst e
    rw [if_pos rfl]
    have a := jo_sl (X := X) h
    have b := add_sl (X := X) a.1 (by decide) hM hE hk hi ht hm hG
    exact ⟨b.1, fun hx => b.2 (a.2 hx)⟩
  · have e2 : ¬ ((n, C, ro) : SL9).1 = 12 := e
    rw [if_neg e2]
    exact add_sl (X := X) h (by omega) hM hE hk hi ht hm hG
theorem fo_sl {M E G X what much air nm : Int} {S : SL9} (h : okSl M E G S) (hM : M + 50 ≤ 138500) (hE : E + 500 ≤ 400000000) (hw : what = 1 ∨ what = 2 → 1 ≤ much ∧ much ≤ 50) (ha : -300 ≤ air ∧ air ≤ 100) (hm : 0 ≤ nm ∧ nm ≤ 20000) (hG : 0 ≤ G) : okSl (M + 50) (E + 500) G (foZ what much air nm S) ∧ (okSx X S → okSx (X + 50) (foZ what much air nm S)) := by
  unfold foZ
  by_cases e2 : what = 2
  · rw [if_pos e2]
    have hw2 := hw (Or.inr e2)
    obtain ⟨n, C, ro⟩ := S
    obtain ⟨h1, h2, h3, h4, h5⟩ := h
    have h1 : okP C n := h1
    have h3' : ro + sZ C n ≤ M := h3
    have h2' : 0 ≤ ro := h2
    have h4' : dZ C n ≤ E := h4
    have hs1 := sZ_n h1 (k := n) (Nat.le_refl _)
    have a := wtK_ok (ro := ro) h1 (i := n) (w := much) (Nat.le_refl _) (by omega) (show sZ C n + much ≤ 138500 by omega)
    have d := dZ_c (C := C) (C' := wtK C n much) (n := n) (fun l hl => wtK_o (by omega)) n (Nat.le_refl _)
    have a2 : wtR n ro much + sZ (wtK C n much) n = ro + sZ C n + much := a.2.1
    have a3 : ro ≤ wtR n ro much := a.2.2
    refine ⟨⟨a.1, ?_, ?_, ?_, fun l hl => ?_⟩, fun hx => ⟨fun l hl => ?_, ?_⟩⟩
    · show 0 ≤ wtR n ro much
      omega
    · show wtR n ro much + sZ (wtK C n much) n ≤ M + 50
      omega
    · show dZ (wtK C n much) n ≤ E + 500
      omega
    · show wtK C n much (7 * l + 5) ≤ G
      rw [wtK_o (by omega)]; exact h5 l hl
    · show wtK C n much (7 * l + 1) ≤ wtK C n much (7 * l + 3)
      rw [wtK_o (by omega), wtK_o (by omega)]; exact hx.1 l hl
    · show xZ (wtK C n much) n ≤ X + 50
      have hx2 : xZ C n ≤ X := hx.2
      by_cases e0 : n = 0
      · subst e0
        have : xZ (wtK C 0 much) 0 = xZ C 0 := rfl
        omega
      · obtain ⟨j, rfl⟩ : ∃ j, n = j + 1 := ⟨n - 1, by omega⟩
        have ew : wtK C (j + 1) much = uZ C (7 * j + 2) (C (7 * j + 2) + much) := if_neg (by omega)
        have eo : ∀ q, q ≠ 7 * j + 2 → wtK C (j + 1) much q = C q := fun q hq => by rw [ew]; exact uZ_n _ _ hq
        have es : wtK C (j + 1) much (7 * j + 2) = C (7 * j + 2) + much := by rw [ew]; exact uZ_s _ _ _
        have e9 := xZ_e (C := C) (C' := wtK C (j + 1) much) (n := j) (fun l hl => ⟨eo _ (by omega), eo _ (by omega), eo _ (by omega)⟩) j (Nat.le_refl _)
        have e8 : exL (wtK C (j + 1) much) j ≤ exL C j + much := by
          unfold exL mZ
          rw [eo _ (by omega), es, eo _ (by omega)]
          (repeat' split) <;> omega
        have e7 : xZ (wtK C (j + 1) much) (j + 1) = xZ (wtK C (j + 1) much) j + exL (wtK C (j + 1) much) j := rfl
        have e6 : xZ C (j + 1) = xZ C j + exL C j := rfl
        omega
  · rw [if_neg e2]
    by_cases e3 : what = 3 ∧ air < 0
    · rw [if_pos e3]
      have a := cm_sl (X := X) h hM hE (kind := 4) (ice := 1) (temp := air) (nm := nm) (by decide) (by decide) (by omega) hm hG
      exact ⟨a.1, fun hx => (a.2 hx).mono (by omega)⟩
    · rw [if_neg e3]
      by_cases e1 : what = 1
      · rw [if_pos e1]
        have hmn : -300 ≤ mnZ air 0 ∧ mnZ air 0 ≤ 0 := by unfold mnZ; split <;> omega
        have a := cm_sl (X := X) h hM hE (kind := 0) (ice := much) (temp := mnZ air 0) (nm := nm) (by decide) (hw (Or.inl e1)) hmn hm hG
        exact ⟨a.1, fun hx => (a.2 hx).mono (by omega)⟩
      · rw [if_neg e1]
        exact ⟨h.mono (by omega) (by omega) (Int.le_refl _), fun hx => hx.mono (by omega)⟩
/-- (b) -/
def htZ (air opn : Int) (S : SL9) : SL9 := if 0 < air then mlZ S.1 S.2.1 S.2.2 (air * opn) else (S.1, clK S.2.1 S.1 air, S.2.2)
def evS (S : SL9) : SL9 := (S.1, stK S.2.1 S.1 4 0 (fun l => evZ S.2.1 S.1 l), S.2.2)
def skS (tb : Nat → Int) (S : SL9) : SL9 := (S.1, (skZ tb S.1 S.2.1 S.2.2).1, (skZ tb S.1 S.2.1 S.2.2).2)
def prS (tb : Nat → Int) (S : SL9) : SL9 := (S.1, stK S.2.1 S.1 3 0 (fun l => prZ tb S.2.1 S.1 l), S.2.2)
def taS (air : Int) (S : SL9) : SL9 := (S.1, taK S.2.1 S.1 (taV S.2.1 S.1 air) (taA S.2.1), S.2.2)
/-- an HOUR of a slope -/
def hsZ (tb : Nat → Int) (air opn what much nm : Int) (S : SL9) : SL9 := taS air (prS tb (skS tb (evS (htZ air opn (foZ what much air nm S)))))
theorem ml_o {q : Nat} (h : q % 7 ≠ 1 ∧ q % 7 ≠ 2 ∧ q % 7 ≠ 4) : ∀ (k : Nat) (C : Nat → Int) (ro le : Int), (mlZ k C ro le).2.1 q = C q := by
  intro k
  induction k with
  | zero => intro C ro le; rfl
  | succ k ih =>
    intro C ro le
    have em : meK C k le q = C q := by unfold meK; rw [uZ_n _ _ (by omega), uZ_n _ _ (by omega), uZ_n _ _ (by omega)]
    by_cases e : le ≤ 0
    · have e2 : mlZ (k + 1) C ro le = (k + 1, C, ro) := if_pos e
      rw [e2]
    · by_cases e3 : 0 < C (7 * k + 1) - meM C k le
      · have e2 : mlZ (k + 1) C ro le = (k + 1, meK C k le, ro) := (if_neg e).trans (if_pos e3)
        rw [e2]; exact em
      · have e2 : mlZ (k + 1) C ro le = mlZ k (wtK (meK C k le) k (C (7 * k + 2) + meM C k le)) (wtR k ro (C (7 * k + 2) + meM C k le)) (meL C k le - 100 * meM C k le) := (if_neg e).trans (if_neg e3)
        rw [e2, ih, wtK_o (by omega), em]
theorem ht_sl {M E G air opn : Int} {S : SL9} (h : okSl M E G S) (ha : -300 ≤ air ∧ air ≤ 100) (ho : 0 ≤ opn ∧ opn ≤ 20) : okSl M E G (htZ air opn S) := by
  obtain ⟨n, C, ro⟩ := S
  obtain ⟨h1, h2, h3, h4, h5⟩ := h
  have h1 : okP C n := h1
  have h3' : ro + sZ C n ≤ M := h3
  have h2' : 0 ≤ ro := h2
  have h4' : dZ C n ≤ E := h4
  unfold htZ
  by_cases e : 0 < air
  · rw [if_pos e]
    obtain ⟨a1, a2, a3, a4⟩ := ml_ok n C ro (air * opn) h1
    have d := dZ_c (C := C) (C' := (mlZ n C ro (air * opn)).2.1) (n := n) (fun l hl => ml_o (by omega) n C ro (air * opn)) (mlZ n C ro (air * opn)).1 a1
    have d2 := (dZ_b h1.2.1 (mlZ n C ro (air * opn)).1 a1).2
    refine ⟨a2, ?_, ?_, ?_, fun l hl => ?_⟩
    · show 0 ≤ (mlZ n C ro (air * opn)).2.2
      omega
    · show (mlZ n C ro (air * opn)).2.2 + sZ (mlZ n C ro (air * opn)).2.1 (mlZ n C ro (air * opn)).1 ≤ M
      omega
    · show dZ (mlZ n C ro (air * opn)).2.1 (mlZ n C ro (air * opn)).1 ≤ E
      omega
    · show (mlZ n C ro (air * opn)).2.1 (7 * l + 5) ≤ G
      rw [ml_o (by omega)]
      exact h5 l (by have : l < (mlZ n C ro (air * opn)).1 := hl; show l < n; omega)
  · rw [if_neg e]
    have a := clK_ok (air := air) h1 (by omega)
    have eo : ∀ q, q % 7 ≠ 4 → clK C n air q = C q := by
      intro q hq
      unfold clK
      split
      · rfl
      · exact uZ_n _ _ (by omega)
    have d := dZ_c (C := C) (C' := clK C n air) (n := n) (fun l hl => eo _ (by omega)) n (Nat.le_refl _)
    refine ⟨a.1, h2, ?_, ?_, fun l hl => ?_⟩
    · show ro + sZ (clK C n air) n ≤ M
      rw [a.2]; exact h3'
    · show dZ (clK C n air) n ≤ E
      rw [d]; exact h4'
    · show clK C n air (7 * l + 5) ≤ G
      rw [eo _ (by omega)]; exact h5 l hl
theorem ev_sl {M E G : Int} {S : SL9} (h : okSl M E G S) : okSl M E G (evS S) := by
  obtain ⟨n, C, ro⟩ := S
  obtain ⟨h1, h2, h3, h4, h5⟩ := h
  have h1 : okP C n := h1
  obtain ⟨a, b, c⟩ := evs_ok h1
  refine ⟨a, h2, ?_, ?_, fun l hl => ?_⟩
  · show ro + sZ (stK C n 4 0 (fun l => evZ C n l)) n ≤ M
    rw [b]; exact h3
  · show dZ (stK C n 4 0 (fun l => evZ C n l)) n ≤ E
    rw [c]; exact h4
  · show stK C n 4 0 (fun l => evZ C n l) (7 * l + 5) ≤ G
    rw [stK_o (by omega)]; exact h5 l hl
theorem sk_sl {tb : Nat → Int} {M E G : Int} {S : SL9} (ht : okTb tb) (h : okSl M E G S) : okSl M E G (skS tb S) := by
  obtain ⟨n, C, ro⟩ := S
  obtain ⟨h1, h2, h3, h4, h5⟩ := h
  have h1 : okP C n := h1
  have h3' : ro + sZ C n ≤ M := h3
  have h2' : 0 ≤ ro := h2
  have h4' : dZ C n ≤ E := h4
  obtain ⟨a, b, c⟩ := sk_ok ht n C ro h1 (Nat.le_refl _)
  have d := dZ_c (C := C) (C' := (skZ tb n C ro).1) (n := n) (fun l hl => skZ_o (by omega) n C ro) n (Nat.le_refl _)
  refine ⟨a, ?_, ?_, ?_, fun l hl => ?_⟩
  · show 0 ≤ (skZ tb n C ro).2
    omega
  · show (skZ tb n C ro).2 + sZ (skZ tb n C ro).1 n ≤ M
    omega
  · show dZ (skZ tb n C ro).1 n ≤ E
    omega
  · show (skZ tb n C ro).1 (7 * l + 5) ≤ G
    rw [skZ_o (by omega)]; exact h5 l hl
theorem prs_d {tb C : Nat → Int} {n : Nat} (ht : okTb tb) (h : okP C n) : ∀ m, m ≤ n → dZ (stK C n 3 0 (fun l => prZ tb C n l)) m ≤ dZ C m + sZ C m := by
  intro m
  induction m with
  | zero => intro _; exact Int.le_refl 0
  | succ m ih =>
    intro hk
    have h1 := ih (by omega)
    have h2 := (prZ_b ht h (l := m) (by omega)).2
    show dZ _ m + stK C n 3 0 (fun l => prZ tb C n l) (7 * m + 3) ≤ dZ C m + C (7 * m + 3) + (sZ C m + mZ C m)
    rw [stK_s (by decide) (Nat.zero_le _) (by omega)]
    omega
theorem pr_sl {tb : Nat → Int} {M E G : Int} {S : SL9} (ht : okTb tb) (h : okSl M E G S) (hE : E + M ≤ 400000000) : okSl M (E + M) G (prS tb S) ∧ okSx 0 (prS tb S) := by
  obtain ⟨n, C, ro⟩ := S
  obtain ⟨h1, h2, h3, h4, h5⟩ := h
  have h1 : okP C n := h1
  have h3' : ro + sZ C n ≤ M := h3
  have h2' : 0 ≤ ro := h2
  have h4' : dZ C n ≤ E := h4
  obtain ⟨a, b⟩ := prs_ok (k := 0) ht h1 (by omega)
  have d := prs_d ht h1 n (Nat.le_refl _)
  have s := sZ_e b n (Nat.le_refl _)
  have e3 : ∀ l, l < n → mZ C l ≤ stK C n 3 0 (fun l => prZ tb C n l) (7 * l + 3) := fun l hl => by
    rw [stK_s (by decide) (Nat.zero_le _) hl]
    exact (prZ_b ht h1 hl).1.2
  refine ⟨⟨a, h2, ?_, ?_, fun l hl => ?_⟩, fun l hl => ?_, ?_⟩
  · show ro + sZ (stK C n 3 0 (fun l => prZ tb C n l)) n ≤ M
    rw [s]; exact h3'
  · show dZ (stK C n 3 0 (fun l => prZ tb C n l)) n ≤ E + M
    omega
  · show stK C n 3 0 (fun l => prZ tb C n l) (7 * l + 5) ≤ G
    rw [stK_o (by omega)]; exact h5 l hl
  · show stK C n 3 0 (fun l => prZ tb C n l) (7 * l + 1) ≤ stK C n 3 0 (fun l => prZ tb C n l) (7 * l + 3)
    have hl' : l < n := hl
    have h9 := e3 l hl'
    have h8 := h1.ly hl'
    have h7 : mZ C l = C (7 * l + 1) + C (7 * l + 2) := rfl
    rw [stK_o (q := 7 * l + 1) (by omega)]
    omega
  · show xZ (stK C n 3 0 (fun l => prZ tb C n l)) n ≤ 0
    have hz : ∀ k, k ≤ n → xZ (stK C n 3 0 (fun l => prZ tb C n l)) k = 0 := by
      intro k
      induction k with
      | zero => intro _; rfl
      | succ k ih =>
        intro hk
        have h9 := e3 k (by omega)
        have h8 := b k (by omega)
        show xZ _ k + exL (stK C n 3 0 (fun l => prZ tb C n l)) k = 0
        rw [ih (by omega)]
        unfold exL
        rw [h8, if_neg (by omega)]
        rfl
    rw [hz n (Nat.le_refl _)]
    exact Int.le_refl _
theorem ta_sl {M E G X air : Int} {S : SL9} (h : okSl M E G S) (hG : G ≤ 99999) (hx : okSx X S) : okSl M E (G + 1) (taS air S) ∧ okSx X (taS air S) := by
  obtain ⟨n, C, ro⟩ := S
  obtain ⟨h1, h2, h3, h4, h5⟩ := h
  have h1 : okP C n := h1
  have h5' : ∀ l, l < n → C (7 * l + 5) ≤ G := h5
  have a := ta_ok (k := n) (air := air) h1 (fun l hl => by have := h5' l hl; omega) (Nat.le_refl _)
  have hm : ∀ l, l < n → mZ (taK C n (taV C n air) (taA C)) l = mZ C l := by
    intro l hl
    unfold mZ
    rw [taK_o (Or.inl (by omega)), taK_o (Or.inl (by omega))]
  have hd := dZ_c (C := C) (C' := taK C n (taV C n air) (taA C)) (n := n) (fun l a => taK_o (Or.inl (by omega))) n (Nat.le_refl _)
  have hs := sZ_e hm n (Nat.le_refl _)
  have hX := xZ_e (C := C) (C' := taK C n (taV C n air) (taA C)) (n := n) (fun l hl => ⟨taK_o (Or.inl (by omega)), taK_o (Or.inl (by omega)), taK_o (Or.inl (by omega))⟩) n (Nat.le_refl _)
  refine ⟨⟨a, h2, ?_, ?_, fun l hl => ?_⟩, fun l hl => ?_, ?_⟩
  · show ro + sZ (taK C n (taV C n air) (taA C)) n ≤ M
    rw [hs]; exact h3
  · show dZ (taK C n (taV C n air) (taA C)) n ≤ E
    rw [hd]; exact h4
  · have hl' : l < n := hl
    have h6 := h5' l hl'
    have e5 : taK C n (taV C n air) (taA C) (7 * l + 5) = taA C l := by unfold taK; rw [if_neg (by omega), if_pos (by omega), show (7 * l + 5) / 7 = l by omega]
    show taK C n (taV C n air) (taA C) (7 * l + 5) ≤ G + 1
    rw [e5]
    unfold taA
    omega
  · show taK C n (taV C n air) (taA C) (7 * l + 1) ≤ taK C n (taV C n air) (taA C) (7 * l + 3)
    rw [taK_o (Or.inl (by omega)), taK_o (Or.inl (by omega))]
    exact hx.1 l hl
  · show xZ (taK C n (taV C n air) (taA C)) n ≤ X
    rw [hX]; exact hx.2
theorem hs_sl {tb : Nat → Int} {M E G air opn what much nm : Int} {S : SL9} (ht : okTb tb) (h : okSl M E G S) (hM : M + 50 ≤ 138500) (hE : E + 139000 ≤ 400000000) (hw : what = 1 ∨ what = 2 → 1 ≤ much ∧ much ≤ 50) (ha : -300 ≤ air ∧ air ≤ 100) (ho : 0 ≤ opn ∧ opn ≤ 20) (hm : 0 ≤ nm ∧ nm ≤ 20000) (hG : 0 ≤ G ∧ G ≤ 99999) : okSl (M + 50) (E + 139000) (G + 1) (hsZ tb air opn what much nm S) ∧ okSx 0 (hsZ tb air opn what much nm S) := by
  have h1 := (fo_sl (X := 0) (nm := nm) h hM (by omega) hw ha hm hG.1).1
  have h2 := ht_sl h1 ha ho
  have h3 := sk_sl ht (ev_sl h2)
  have h4 := pr_sl ht h3 (by omega)
  have h5 := ta_sl (air := air) h4.1 hG.2 h4.2
  exact ⟨h5.1.mono (Int.le_refl _) (by omega) (Int.le_refl _), h5.2⟩
/-- a world: its head (0 TIME, 1 NAMES, 2 TAKEN, 3 SLID, 4 SLIDES, 5 PITS), its slopes -/
abbrev WL9 : Type := (Nat → Int) × (Nat → SL9)
def uS (S : Nat → SL9) (k : Nat) (v : SL9) : Nat → SL9 := fun j => if j = k then v else S j
theorem uS_s (S : Nat → SL9) (k : Nat) (v : SL9) : uS S k v k = v := if_pos rfl
theorem uS_n (S : Nat → SL9) {k j : Nat} (v : SL9) (h : j ≠ k) : uS S k v j = S j := if_neg h
/-- what is told of an HOUR -/
def fcZ (ho un : Int) (ai : Nat → Int) (tm : Int) : Int := if ho = 0 then un else ai (tm % ho).toNat
/-- an HOUR of one slope of a world; of the first k; of all -/
def hoU (tb op : Nat → Int) (air what much : Int) (k : Nat) (W : WL9) : WL9 := (uZ W.1 1 (W.1 1 + foN what air), uS W.2 k (hsZ tb air (op k) what much (W.1 1) (W.2 k)))
def hoS (tb op : Nat → Int) (air what much : Int) (z : Nat) : Nat → WL9 → WL9
  | 0, W => W
  | k + 1, W => if z / 2 ^ k % 2 = 1 then hoU tb op air what much k (hoS tb op air what much z k W) else hoS tb op air what much z k W
def hoW (tb op : Nat → Int) (air what much : Int) (z sl : Nat) (W : WL9) : WL9 := (uZ (hoS tb op air what much z sl W).1 0 ((hoS tb op air what much z sl W).1 0 + 1), (hoS tb op air what much z sl W).2)
/-- a world as it must be: x more calls or HOURS may come, so much RAIN by hand at most since the last HOUR -/
def okWl (x X : Int) (W : WL9) : Prop := (∀ s, s < 4 → okSl (mB (W.1 0 + x)) (eB (W.1 0 + x)) (W.1 0) (W.2 s) ∧ okSx X (W.2 s)) ∧ (0 ≤ W.1 0 ∧ W.1 0 ≤ 2180) ∧ (0 ≤ W.1 1 ∧ W.1 1 ≤ 900 + 4 * (W.1 0 + x)) ∧ 0 ≤ W.1 5 ∧ W.1 5 ≤ 6
theorem foN_b (what air : Int) : 0 ≤ foN what air ∧ foN what air ≤ 1 := by
  unfold foN
  (repeat' split) <;> omega
theorem hoS_h {tb op : Nat → Int} {air what much : Int} {z : Nat} {W : WL9} : ∀ k, (∀ j, j ≠ 1 → (hoS tb op air what much z k W).1 j = W.1 j) ∧ (W.1 1 ≤ (hoS tb op air what much z k W).1 1 ∧ (hoS tb op air what much z k W).1 1 ≤ W.1 1 + (k : Int)) ∧ ∀ s, k ≤ s → (hoS tb op air what much z k W).2 s = W.2 s := by
  intro k
  induction k with
  | zero => exact ⟨fun _ _ => rfl, (show W.1 1 ≤ W.1 1 ∧ W.1 1 ≤ W.1 1 + ((0 : Nat) : Int) by omega), fun _ _ => rfl⟩
  | succ k ih =>
    obtain ⟨h1, h2, h3⟩ := ih
    have hf := foN_b what air
    by_cases e : z / 2 ^ k % 2 = 1
    · have e2 : hoS tb op air what much z (k + 1) W = hoU tb op air what much k (hoS tb op air what much z k W) := if_pos e
      rw [e2]
      refine ⟨fun j hj => ?_, ?_, fun s hs => ?_⟩
      · exact (uZ_n _ _ hj).trans (h1 j hj)
      · have e3 : (hoU tb op air what much k (hoS tb op air what much z k W)).1 1 = (hoS tb op air what much z k W).1 1 + foN what air := by
          show uZ (hoS tb op air what much z k W).1 1 ((hoS tb op air what much z k W).1 1 + foN what air) 1 = _
          exact uZ_s _ _ _
        omega
      · exact (uS_n _ _ (by omega)).trans (h3 s (by omega))
    · have e2 : hoS tb op air what much z (k + 1) W = hoS tb op air what much z k W := if_neg e
      rw [e2]
      exact ⟨h1, by omega, fun s hs => h3 s (by omega)⟩
theorem hoS_s {tb op : Nat → Int} {air what much : Int} {z : Nat} {W : WL9} : ∀ k s, s < k → (hoS tb op air what much z k W).2 s = W.2 s ∨ (hoS tb op air what much z k W).2 s = hsZ tb air (op s) what much ((hoS tb op air what much z s W).1 1) (W.2 s) := by
  intro k
  induction k with
  | zero => intro s hs; omega
  | succ k ih =>
    intro s hs
    by_cases e : z / 2 ^ k % 2 = 1
    · have e2 : hoS tb op air what much z (k + 1) W = hoU tb op air what much k (hoS tb op air what much z k W) := if_pos e
      rw [e2]
      by_cases e3 : s = k
      · subst e3
        refine Or.inr ((uS_s _ _ _).trans ?_)
        rw [(hoS_h (tb := tb) (op := op) (air := air) (what := what) (much := much) (z := z) (W := W) s).2.2 s (Nat.le_refl _)]
      · have e4 : (hoU tb op air what much k (hoS tb op air what much z k W)).2 s = (hoS tb op air what much z k W).2 s := uS_n _ _ e3
        rw [e4]
        exact ih s (by omega)
    · have e2 : hoS tb op air what much z (k + 1) W = hoS tb op air what much z k W := if_neg e
      rw [e2]
      by_cases e3 : s = k
      · subst e3
        exact Or.inl ((hoS_h s).2.2 s (Nat.le_refl _))
      · exact ih s (by omega)
/-- one slope behind an HOUR, as it must be -/
theorem ho_sl {tb op : Nat → Int} {air what much : Int} {z s k : Nat} {x X : Int} {W : WL9} (ht : okTb tb) (h : okWl x X W) (hs : s < 4) (hk : k ≤ 4) (hX : 0 ≤ X) (hx : 0 ≤ x) (hT : W.1 0 + x + 1 ≤ 2722) (hw : what = 1 ∨ what = 2 → 1 ≤ much ∧ much ≤ 50) (ha : -300 ≤ air ∧ air ≤ 100) (ho : s < k → 0 ≤ op s ∧ op s ≤ 20) : okSl (mB (W.1 0 + 1 + x)) (eB (W.1 0 + 1 + x)) (W.1 0 + 1) ((hoS tb op air what much z k W).2 s) ∧ okSx X ((hoS tb op air what much z k W).2 s) := by
  obtain ⟨h1, h2, h3, h4⟩ := h
  have e1 : mB (W.1 0 + x) = 2400 + 50 * (W.1 0 + x) := rfl
  have e2 : eB (W.1 0 + x) = 12000 + 139000 * (W.1 0 + x) := rfl
  have e3 : mB (W.1 0 + 1 + x) = 2400 + 50 * (W.1 0 + 1 + x) := rfl
  have e4 : eB (W.1 0 + 1 + x) = 12000 + 139000 * (W.1 0 + 1 + x) := rfl
  obtain ⟨a, b⟩ := h1 s hs
  have keep : okSl (mB (W.1 0 + 1 + x)) (eB (W.1 0 + 1 + x)) (W.1 0 + 1) (W.2 s) ∧ okSx X (W.2 s) := ⟨a.mono (by omega) (by omega) (by omega), b⟩
  by_cases c : s < k
  · rcases hoS_s (tb := tb) (op := op) (air := air) (what := what) (much := much) (z := z) (W := W) k s c with e | e
    · rw [e]; exact keep
    · rw [e]
      have hn := (hoS_h (tb := tb) (op := op) (air := air) (what := what) (much := much) (z := z) (W := W) s).2.1
      have q := hs_sl (nm := (hoS tb op air what much z s W).1 1) ht a (by omega) (by omega) hw ha (ho c) (by omega) (by omega)
      exact ⟨q.1.mono (by omega) (by omega) (Int.le_refl _), q.2.mono hX⟩
  · rw [(hoS_h k).2.2 s (by omega)]; exact keep
theorem ho_wl {tb op : Nat → Int} {air what much : Int} {z sl : Nat} {x X : Int} {W : WL9} (ht : okTb tb) (h : okWl x X W) (hsl : sl ≤ 4) (hX : 0 ≤ X) (hx : 0 ≤ x) (hT : W.1 0 + x + 1 ≤ 2722) (hT2 : W.1 0 ≤ 2179) (hw : what = 1 ∨ what = 2 → 1 ≤ much ∧ much ≤ 50) (ha : -300 ≤ air ∧ air ≤ 100) (ho : ∀ k, k < sl → 0 ≤ op k ∧ op k ≤ 20) : okWl x X (hoW tb op air what much z sl W) := by
  have hh := hoS_h (tb := tb) (op := op) (air := air) (what := what) (much := much) (z := z) (W := W) sl
  have e0 : (hoW tb op air what much z sl W).1 0 = W.1 0 + 1 := by
    show uZ (hoS tb op air what much z sl W).1 0 ((hoS tb op air what much z sl W).1 0 + 1) 0 = _
    rw [uZ_s, hh.1 0 (by decide)]
  have e1 : (hoW tb op air what much z sl W).1 1 = (hoS tb op air what much z sl W).1 1 := by
    show uZ (hoS tb op air what much z sl W).1 0 ((hoS tb op air what much z sl W).1 0 + 1) 1 = _
    exact uZ_n _ _ (by decide)
  have e5 : (hoW tb op air what much z sl W).1 5 = W.1 5 := by
    show uZ (hoS tb op air what much z sl W).1 0 ((hoS tb op air what much z sl W).1 0 + 1) 5 = _
    rw [uZ_n _ _ (by decide)]
    exact hh.1 5 (by decide)
  obtain ⟨h1, h2, h3, h4⟩ := id h
  have hsl' : (sl : Int) ≤ 4 := by omega
  refine ⟨fun s hs => ?_, by omega, by rw [e0, e1]; omega, by rw [e5]; exact h4⟩
  rw [e0]
  exact ho_sl ht h hs hsl hX hx hT hw ha (ho s)
end
