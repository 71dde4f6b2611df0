section
-- 9kz.up.lean.txt
theorem lay_r {n p d d0 : Nat} {C C' r r' : Nat → Int} {v : Int} (h : ∀ q, q < 7 * n → r (p + 2 + q) = C q) (hr : r' = uZ r d v) (hC : C' = uZ C d0 v) (hd : d = p + 2 + d0) : ∀ q, q < 7 * n → r' (p + 2 + q) = C' q := by
  intro q h1
  subst hr hC
  unfold uZ
  by_cases e : q = d0
  · rw [if_pos (by omega), if_pos e]
  · rw [if_neg (by omega), if_neg e]
    exact h q h1
theorem lay_n {n p d : Nat} {C r r' : Nat → Int} {v : Int} (h : ∀ q, q < 7 * n → r (p + 2 + q) = C q) (hr : r' = uZ r d v) (hd : d < p + 2 ∨ p + 2 + 7 * n ≤ d) : ∀ q, q < 7 * n → r' (p + 2 + q) = C q := by
  intro q h1
  subst hr
  rw [uZ_n _ _ (by omega)]
  exact h q h1
/-- the rows say what the slope is -/
def isS (r : Nat → Int) (p : Nat) (S : SL9) : Prop := r p = ((S.1 : Nat) : Int) ∧ r (p + 1) = S.2.2 ∧ ∀ q, q < 7 * S.1 → r (p + 2 + q) = S.2.1 q

set_option maxRecDepth 100000 in
set_option maxHeartbeats 4000000 in
theorem c_uFreezes (l : Launch) (D : va_G) (A : Nat → Prop) (cs : Nat → ClassId) (tt : Nat) (N : Nat) (ad : Nat → Nat) (g : Nat → va_E) (i : Nat) (hN : i + 30 ≤ N) (F : Nat → Int) (hg : g i = mC ad i F) (r : Nat → Int) (ha1 : g (i + 1) = iA cs 29200 r) (p n k q : Nat) (K : Nat → Int) (hC : ∀ q, q < 7 * n → r (p + 2 + q) = K q) (hO : okP K n) (hq : p + 2 + 7 * k = q) (hkn : k < n) (hp9 : p + 86 ≤ 29200) : zM l yX10_freezes cX10_freezes 3 none ({ frames := 2, cells := 0, slots := 0, locals := 120 } : Room) D A cs tt N ad g [.ref (ad i), .int (zI ((q : Int)))] (rV0 N ad fun g' => (∃ r' : Nat → Int, g' (i + 1) = iA cs 29200 r' ∧ (∀ q, q < 7 * n → r' (p + 2 + q) = frZ K k q) ∧ ∀ j, j ≠ q → j ≠ q + 1 → j ≠ q + 2 → j ≠ q + 4 → r' j = r j) ∧ ∀ j, j ≠ i + 1 → g' j = g j) := by
  have hay1 : zAt ad (i) (ad i) := rfl
  have hay2 : zAt ad (i + 1) (ad (i + 1)) := rfl
  have hn12 := hO.1
  obtain ⟨⟨qy30, qy31, qy32, qy33, qy34, qy35, qy36⟩, qy39⟩ := hO.ly (l := k) (by omega)
  refine z_of (by decide) (Nat.le_of_ble_eq_true rfl) ?_
  intro pY eY sY mY below meth cY C hr hlk hnm
  refine z_lv (lv' := [(0, .ref (ad i)), (1, .int (zI ((q : Int))))]) [0, 1] rfl ?_
  refine z_aload_n C 0 dX10_freezes_0 rfl ?_
  refine z_get (v := .ref (ad (i + 1))) C (lt_A0 hN rfl) hay1 hg rfl inA_X10 0 (by decide) q_1459 rfl rfl dX10_freezes_1 ?_
  refine z_iload_n C 1 dX10_freezes_4 rfl ?_
  refine z_iconst (z := 2) C dX10_freezes_5 rfl ?_
  refine z_iadd C dX10_freezes_6 ?_
  refine z_iald C (lt_A (c := 1) hN rfl) hay2 ha1 (q + 2) (by omega) (by omega) (by decide) dX10_freezes_7 ?_
  rw [show r (q + 2) = K (7 * k + 2) from (congrArg r (show q + 2 = p + 2 + (7 * k + 2) by omega)).trans (hC (7 * k + 2) (by omega))]
  refine z_aload_n C 0 dX10_freezes_8 rfl ?_
  refine z_get (v := .ref (ad (i + 1))) C (lt_A0 hN rfl) hay1 hg rfl inA_X10 0 (by decide) q_1459 rfl rfl dX10_freezes_9 ?_
  refine z_iload_n C 1 dX10_freezes_12 rfl ?_
  refine z_iconst (z := 1) C dX10_freezes_13 rfl ?_
  refine z_iadd C dX10_freezes_14 ?_
  refine z_iald C (lt_A (c := 1) hN rfl) hay2 ha1 (q + 1) (by omega) (by omega) (by decide) dX10_freezes_15 ?_
  rw [show r (q + 1) = K (7 * k + 1) from (congrArg r (show q + 1 = p + 2 + (7 * k + 1) by omega)).trans (hC (7 * k + 1) (by omega))]
  refine z_aload_n C 0 dX10_freezes_16 rfl ?_
  refine z_get (v := .ref (ad (i + 1))) C (lt_A0 hN rfl) hay1 hg rfl inA_X10 0 (by decide) q_1459 rfl rfl dX10_freezes_17 ?_
  refine z_iload_n C 1 dX10_freezes_20 rfl ?_
  refine z_iconst (z := 4) C dX10_freezes_21 rfl ?_
  refine z_iadd C dX10_freezes_22 ?_
  refine z_iald C (lt_A (c := 1) hN rfl) hay2 ha1 (q + 4) (by omega) (by omega) (by decide) dX10_freezes_23 ?_
  rw [show r (q + 4) = K (7 * k + 4) from (congrArg r (show q + 4 = p + 2 + (7 * k + 4) by omega)).trans (hC (7 * k + 4) (by omega))]
  refine z_ineg C dX10_freezes_24 ?_
  refine z_imul C dX10_freezes_25 ?_
  have hmb := mulc (a := K (7 * k + 1)) (b := -(K (7 * k + 4))) (A := 138500) (B := 300) (by omega) (by omega)
  refine z_bipush (z := 100) C dX10_freezes_26 (by decide) ?_
  refine z_idiv C dX10_freezes_28 (by omega) (by omega) (by omega) ?_
  obtain ⟨xy4, exy4, hxy4⟩ : ∃ x9, ((K (7 * k + 1)) * (-(K (7 * k + 4)))).tdiv 100 = x9 ∧ (0 ≤ (K (7 * k + 1)) * (-(K (7 * k + 4))) → 0 ≤ x9 ∧ 100 * x9 ≤ (K (7 * k + 1)) * (-(K (7 * k + 4))) ∧ (K (7 * k + 1)) * (-(K (7 * k + 4))) < 100 * x9 + 100) ∧ ((K (7 * k + 1)) * (-(K (7 * k + 4))) ≤ 0 → x9 ≤ 0 ∧ (K (7 * k + 1)) * (-(K (7 * k + 4))) ≤ 100 * x9 ∧ 100 * x9 < (K (7 * k + 1)) * (-(K (7 * k + 4))) + 100) := tdk 100 (by decide)
  rw [exy4]
  refine z_cS (As := [.int (zI (K (7 * k + 2))), .int (zI (xy4))]) (rest := []) C (c_X10_lesser l D A cs tt N ad _ (K (7 * k + 2)) (by omega) (xy4) (by omega)) ms_yX10_lesser q_1792 hd_yX10_lesser (by decide) (Nat.le_of_ble_eq_true rfl) (by decide) dX10_freezes_29 rfl (kI0 fun vy5 gvy5 hvy5 => ?_)
  obtain ⟨hvy5, rfl⟩ := hvy5
  refine z_istore_n (lv' := [(2, .int (zI (vy5))), (0, .ref (ad i)), (1, .int (zI ((q : Int))))]) C dX10_freezes_32 rfl (by decide) rfl ?_
  refine z_aload_n C 1 dX10_freezes_33 rfl ?_
  refine z_get (v := .ref (ad (i + 1))) C (lt_A0 hN rfl) hay1 hg rfl inA_X10 0 (by decide) q_1459 rfl rfl dX10_freezes_34 ?_
  refine z_iload_n C 2 dX10_freezes_37 rfl ?_
  refine z_iconst (z := 4) C dX10_freezes_38 rfl ?_
  refine z_iadd C dX10_freezes_39 ?_
  refine z_aload_n C 1 dX10_freezes_40 rfl ?_
  refine z_get (v := .ref (ad (i + 1))) C (lt_A0 hN rfl) hay1 hg rfl inA_X10 0 (by decide) q_1459 rfl rfl dX10_freezes_41 ?_
  refine z_iload_n C 2 dX10_freezes_44 rfl ?_
  refine z_iconst (z := 2) C dX10_freezes_45 rfl ?_
  refine z_iadd C dX10_freezes_46 ?_
  refine z_iald C (lt_A (c := 1) hN rfl) hay2 ha1 (q + 2) (by omega) (by omega) (by decide) dX10_freezes_47 ?_
  rw [show r (q + 2) = K (7 * k + 2) from (congrArg r (show q + 2 = p + 2 + (7 * k + 2) by omega)).trans (hC (7 * k + 2) (by omega))]
  refine z_iload_n C 0 dX10_freezes_48 rfl ?_
  refine z_icmp_le (tgt := 56) C dX10_freezes_49 (by decide) (by omega) (by omega) (fun hby6 => ?_) (fun hby6 => ?_)
  · refine z_iconst (z := 0) C dX10_freezes_56 rfl ?_
    refine z_aload_n C 1 dX10_freezes_57 rfl ?_
    refine z_get (v := .ref (ad (i + 1))) C (lt_A0 hN rfl) hay1 hg rfl inA_X10 0 (by decide) q_1459 rfl rfl dX10_freezes_58 ?_
    refine z_iload_n C 2 dX10_freezes_61 rfl ?_
    refine z_iconst (z := 4) C dX10_freezes_62 rfl ?_
    refine z_iadd C dX10_freezes_63 ?_
    refine z_iald C (lt_A (c := 1) hN rfl) hay2 ha1 (q + 4) (by omega) (by omega) (by decide) dX10_freezes_64 ?_
    rw [show r (q + 4) = K (7 * k + 4) from (congrArg r (show q + 4 = p + 2 + (7 * k + 4) by omega)).trans (hC (7 * k + 4) (by omega))]
    refine z_bipush (z := 100) C dX10_freezes_65 (by decide) ?_
    refine z_iload_n C 0 dX10_freezes_67 rfl ?_
    refine z_imul C dX10_freezes_68 ?_
    refine z_aload_n C 1 dX10_freezes_69 rfl ?_
    refine z_get (v := .ref (ad (i + 1))) C (lt_A0 hN rfl) hay1 hg rfl inA_X10 0 (by decide) q_1459 rfl rfl dX10_freezes_70 ?_
    refine z_iload_n C 2 dX10_freezes_73 rfl ?_
    refine z_iconst (z := 1) C dX10_freezes_74 rfl ?_
    refine z_iadd C dX10_freezes_75 ?_
    refine z_iald C (lt_A (c := 1) hN rfl) hay2 ha1 (q + 1) (by omega) (by omega) (by decide) dX10_freezes_76 ?_
    rw [show r (q + 1) = K (7 * k + 1) from (congrArg r (show q + 1 = p + 2 + (7 * k + 1) by omega)).trans (hC (7 * k + 1) (by omega))]
    refine z_idiv C dX10_freezes_77 (by omega) (by omega) (by omega) ?_
    have htr := tdq (a := 100 * vy5) (k := K (7 * k + 1)) (q := 13850000) (by omega) (by omega) (by omega)
    refine z_iadd C dX10_freezes_78 ?_
    refine z_cS (As := [.int (zI (0)), .int (zI ((K (7 * k + 4)) + ((100 * vy5).tdiv (K (7 * k + 1)))))]) (rest := [.int (zI (((q : Int)) + 4)), .ref (ad (i + 1))]) C (c_X10_lesser l D A cs tt N ad _ (0) (by omega) ((K (7 * k + 4)) + ((100 * vy5).tdiv (K (7 * k + 1)))) (by omega)) ms_yX10_lesser q_1792 hd_yX10_lesser (by decide) (Nat.le_of_ble_eq_true rfl) (by decide) dX10_freezes_79 rfl (kI0 fun vy7 gvy7 hvy7 => ?_)
    obtain ⟨hvy7, rfl⟩ := hvy7
    refine z_iast C (lt_A (c := 1) hN rfl) hay2 ha1 (q + 4) (by omega) (by omega) (by decide) dX10_freezes_82 (fun gy8 egy9 => ?_)
    have hgy10 := up_s egy9
    obtain ⟨ry11, hvy12⟩ : ∃ rZ9 : Nat → Int, rZ9 = uZ r (q + 4) (vy7) := ⟨_, rfl⟩
    rw [← hvy12] at hgy10
    obtain ⟨Ky14, hKy15⟩ : ∃ KZ9 : Nat → Int, KZ9 = uZ K (7 * k + 4) (vy7) := ⟨_, rfl⟩
    have hCy13 := lay_r hC hvy12 hKy15 (by omega)
    refine z_aload_n C 1 dX10_freezes_83 rfl ?_
    have hgy16 := up_n egy9 hg (ne_o (i := i) (c := 0) (d := 1) rfl)
    refine z_get (v := .ref (ad (i + 1))) C (lt_A0 hN rfl) hay1 hgy16 rfl inA_X10 0 (by decide) q_1459 rfl rfl dX10_freezes_84 ?_
    refine z_iload_n C 2 dX10_freezes_87 rfl ?_
    refine z_iconst (z := 1) C dX10_freezes_88 rfl ?_
    refine z_iadd C dX10_freezes_89 ?_
    refine z_dup2 C dX10_freezes_90 rfl rfl ?_
    refine z_iald C (lt_A (c := 1) hN rfl) hay2 hgy10 (q + 1) (by omega) (by omega) (by decide) dX10_freezes_91 ?_
    rw [show ry11 (q + 1) = r (q + 1) from (congrFun hvy12 _).trans ((uZ_n _ _ (by omega)).trans (rfl))]
    rw [show r (q + 1) = K (7 * k + 1) from (congrArg r (show q + 1 = p + 2 + (7 * k + 1) by omega)).trans (hC (7 * k + 1) (by omega))]
    refine z_iload_n C 0 dX10_freezes_92 rfl ?_
    refine z_iadd C dX10_freezes_93 ?_
    refine z_iast C (lt_A (c := 1) hN rfl) hay2 hgy10 (q + 1) (by omega) (by omega) (by decide) dX10_freezes_94 (fun gy17 egy18 => ?_)
    have hgy19 := up_s egy18
    obtain ⟨ry20, hvy21⟩ : ∃ rZ9 : Nat → Int, rZ9 = uZ ry11 (q + 1) ((K (7 * k + 1)) + vy5) := ⟨_, rfl⟩
    rw [← hvy21] at hgy19
    obtain ⟨Ky23, hKy24⟩ : ∃ KZ9 : Nat → Int, KZ9 = uZ Ky14 (7 * k + 1) ((K (7 * k + 1)) + vy5) := ⟨_, rfl⟩
    have hCy22 := lay_r hCy13 hvy21 hKy24 (by omega)
    refine z_aload_n C 1 dX10_freezes_95 rfl ?_
    have hgy25 := up_n egy18 hgy16 (ne_o (i := i) (c := 0) (d := 1) rfl)
    refine z_get (v := .ref (ad (i + 1))) C (lt_A0 hN rfl) hay1 hgy25 rfl inA_X10 0 (by decide) q_1459 rfl rfl dX10_freezes_96 ?_
    refine z_iload_n C 2 dX10_freezes_99 rfl ?_
    refine z_iconst (z := 2) C dX10_freezes_100 rfl ?_
    refine z_iadd C dX10_freezes_101 ?_
    refine z_dup2 C dX10_freezes_102 rfl rfl ?_
    refine z_iald C (lt_A (c := 1) hN rfl) hay2 hgy19 (q + 2) (by omega) (by omega) (by decide) dX10_freezes_103 ?_
    rw [show ry20 (q + 2) = r (q + 2) from (congrFun hvy21 _).trans ((uZ_n _ _ (by omega)).trans ((congrFun hvy12 _).trans ((uZ_n _ _ (by omega)).trans (rfl))))]
    rw [show r (q + 2) = K (7 * k + 2) from (congrArg r (show q + 2 = p + 2 + (7 * k + 2) by omega)).trans (hC (7 * k + 2) (by omega))]
    refine z_iload_n C 0 dX10_freezes_104 rfl ?_
    refine z_isub C dX10_freezes_105 ?_
    refine z_iast C (lt_A (c := 1) hN rfl) hay2 hgy19 (q + 2) (by omega) (by omega) (by decide) dX10_freezes_106 (fun gy26 egy27 => ?_)
    have hgy28 := up_s egy27
    obtain ⟨ry29, hvy30⟩ : ∃ rZ9 : Nat → Int, rZ9 = uZ ry20 (q + 2) ((K (7 * k + 2)) - vy5) := ⟨_, rfl⟩
    rw [← hvy30] at hgy28
    obtain ⟨Ky32, hKy33⟩ : ∃ KZ9 : Nat → Int, KZ9 = uZ Ky23 (7 * k + 2) ((K (7 * k + 2)) - vy5) := ⟨_, rfl⟩
    have hCy31 := lay_r hCy22 hvy30 hKy33 (by omega)
    refine z_iload_n C 0 dX10_freezes_107 rfl ?_
    refine z_if_le (tgt := 120) C dX10_freezes_108 (by decide) (by omega) (fun hby34 => ?_) (fun hby34 => ?_)
    · have hfz : fzN K k = vy5 := by unfold fzN mnZ; rw [exy4]; split <;> omega
      have hKZ : Ky32 = frZ K k := by
        funext q9
        rw [hKy33, hKy24, hKy15]
        unfold frZ fzT mnZ uZ
        rw [hfz]
        (repeat' split) <;> first | rfl | omega
      rw [hKZ] at hCy31
      have hfry35 : ∀ j, j ≠ q + 2 → j ≠ q + 1 → j ≠ q + 4 → ry29 j = r j := fun j n0 n1 n2 => (congrFun hvy30 _).trans ((uZ_n _ _ n0).trans ((congrFun hvy21 _).trans ((uZ_n _ _ n1).trans ((congrFun hvy12 _).trans ((uZ_n _ _ n2).trans (rfl))))))
      exact z_vret C hr hlk dX10_freezes_120 (by decide) (by decide) ⟨rfl, rfl, rfl, ⟨_, hgy28, hCy31, fun j a1 a2 a3 a4 => hfry35 j (by omega) (by omega) (by omega)⟩, fun j j1 => by rw [egy27, va_up_ne _ _ (by omega)]; rw [egy18, va_up_ne _ _ (by omega)]; rw [egy9, va_up_ne _ _ (by omega)]⟩
    · refine z_aload_n C 1 dX10_freezes_111 rfl ?_
      have hgy36 := up_n egy27 hgy25 (ne_o (i := i) (c := 0) (d := 1) rfl)
      refine z_get (v := .ref (ad (i + 1))) C (lt_A0 hN rfl) hay1 hgy36 rfl inA_X10 0 (by decide) q_1459 rfl rfl dX10_freezes_112 ?_
      refine z_iload_n C 2 dX10_freezes_115 rfl ?_
      refine z_iconst (z := 0) C dX10_freezes_116 rfl ?_
      refine z_iadd C dX10_freezes_117 ?_
      refine z_iconst (z := 3) C dX10_freezes_118 rfl ?_
      refine z_iast C (lt_A (c := 1) hN rfl) hay2 hgy28 (q) (by omega) (by omega) (by decide) dX10_freezes_119 (fun gy37 egy38 => ?_)
      have hgy39 := up_s egy38
      obtain ⟨ry40, hvy41⟩ : ∃ rZ9 : Nat → Int, rZ9 = uZ ry29 (q) (3) := ⟨_, rfl⟩
      rw [← hvy41] at hgy39
      obtain ⟨Ky43, hKy44⟩ : ∃ KZ9 : Nat → Int, KZ9 = uZ Ky32 (7 * k + 0) (3) := ⟨_, rfl⟩
      have hCy42 := lay_r hCy31 hvy41 hKy44 (by omega)
      have hfz : fzN K k = vy5 := by unfold fzN mnZ; rw [exy4]; split <;> omega
      have hKZ : Ky43 = frZ K k := by
        funext q9
        rw [hKy44, hKy33, hKy24, hKy15]
        unfold frZ fzT mnZ uZ
        rw [hfz]
        (repeat' split) <;> first | rfl | omega
      rw [hKZ] at hCy42
      have hfry45 : ∀ j, j ≠ q → j ≠ q + 2 → j ≠ q + 1 → j ≠ q + 4 → ry40 j = r j := fun j n0 n1 n2 n3 => (congrFun hvy41 _).trans ((uZ_n _ _ n0).trans ((congrFun hvy30 _).trans ((uZ_n _ _ n1).trans ((congrFun hvy21 _).trans ((uZ_n _ _ n2).trans ((congrFun hvy12 _).trans ((uZ_n _ _ n3).trans (rfl))))))))
      exact z_vret C hr hlk dX10_freezes_120 (by decide) (by decide) ⟨rfl, rfl, rfl, ⟨_, hgy39, hCy42, fun j a1 a2 a3 a4 => hfry45 j (by omega) (by omega) (by omega) (by omega)⟩, fun j j1 => by rw [egy38, va_up_ne _ _ (by omega)]; rw [egy27, va_up_ne _ _ (by omega)]; rw [egy18, va_up_ne _ _ (by omega)]; rw [egy9, va_up_ne _ _ (by omega)]⟩
  · refine z_iconst (z := 0) C dX10_freezes_52 rfl ?_
    refine z_goto (tgt := 82) C dX10_freezes_53 (by decide) ?_
    refine z_iast C (lt_A (c := 1) hN rfl) hay2 ha1 (q + 4) (by omega) (by omega) (by decide) dX10_freezes_82 (fun gy46 egy47 => ?_)
    have hgy48 := up_s egy47
    obtain ⟨ry49, hvy50⟩ : ∃ rZ9 : Nat → Int, rZ9 = uZ r (q + 4) (0) := ⟨_, rfl⟩
    rw [← hvy50] at hgy48
    obtain ⟨Ky52, hKy53⟩ : ∃ KZ9 : Nat → Int, KZ9 = uZ K (7 * k + 4) (0) := ⟨_, rfl⟩
    have hCy51 := lay_r hC hvy50 hKy53 (by omega)
    refine z_aload_n C 1 dX10_freezes_83 rfl ?_
    have hgy54 := up_n egy47 hg (ne_o (i := i) (c := 0) (d := 1) rfl)
    refine z_get (v := .ref (ad (i + 1))) C (lt_A0 hN rfl) hay1 hgy54 rfl inA_X10 0 (by decide) q_1459 rfl rfl dX10_freezes_84 ?_
    refine z_iload_n C 2 dX10_freezes_87 rfl ?_
    refine z_iconst (z := 1) C dX10_freezes_88 rfl ?_
    refine z_iadd C dX10_freezes_89 ?_
    refine z_dup2 C dX10_freezes_90 rfl rfl ?_
    refine z_iald C (lt_A (c := 1) hN rfl) hay2 hgy48 (q + 1) (by omega) (by omega) (by decide) dX10_freezes_91 ?_
    rw [show ry49 (q + 1) = r (q + 1) from (congrFun hvy50 _).trans ((uZ_n _ _ (by omega)).trans (rfl))]
    rw [show r (q + 1) = K (7 * k + 1) from (congrArg r (show q + 1 = p + 2 + (7 * k + 1) by omega)).trans (hC (7 * k + 1) (by omega))]
    refine z_iload_n C 0 dX10_freezes_92 rfl ?_
    refine z_iadd C dX10_freezes_93 ?_
    refine z_iast C (lt_A (c := 1) hN rfl) hay2 hgy48 (q + 1) (by omega) (by omega) (by decide) dX10_freezes_94 (fun gy55 egy56 => ?_)
    have hgy57 := up_s egy56
    obtain ⟨ry58, hvy59⟩ : ∃ rZ9 : Nat → Int, rZ9 = uZ ry49 (q + 1) ((K (7 * k + 1)) + vy5) := ⟨_, rfl⟩
    rw [← hvy59] at hgy57
    obtain ⟨Ky61, hKy62⟩ : ∃ KZ9 : Nat → Int, KZ9 = uZ Ky52 (7 * k + 1) ((K (7 * k + 1)) + vy5) := ⟨_, rfl⟩
    have hCy60 := lay_r hCy51 hvy59 hKy62 (by omega)
    refine z_aload_n C 1 dX10_freezes_95 rfl ?_
    have hgy63 := up_n egy56 hgy54 (ne_o (i := i) (c := 0) (d := 1) rfl)
    refine z_get (v := .ref (ad (i + 1))) C (lt_A0 hN rfl) hay1 hgy63 rfl inA_X10 0 (by decide) q_1459 rfl rfl dX10_freezes_96 ?_
    refine z_iload_n C 2 dX10_freezes_99 rfl ?_
    refine z_iconst (z := 2) C dX10_freezes_100 rfl ?_
    refine z_iadd C dX10_freezes_101 ?_
    refine z_dup2 C dX10_freezes_102 rfl rfl ?_
    refine z_iald C (lt_A (c := 1) hN rfl) hay2 hgy57 (q + 2) (by omega) (by omega) (by decide) dX10_freezes_103 ?_
    rw [show ry58 (q + 2) = r (q + 2) from (congrFun hvy59 _).trans ((uZ_n _ _ (by omega)).trans ((congrFun hvy50 _).trans ((uZ_n _ _ (by omega)).trans (rfl))))]
    rw [show r (q + 2) = K (7 * k + 2) from (congrArg r (show q + 2 = p + 2 + (7 * k + 2) by omega)).trans (hC (7 * k + 2) (by omega))]
    refine z_iload_n C 0 dX10_freezes_104 rfl ?_
    refine z_isub C dX10_freezes_105 ?_
    refine z_iast C (lt_A (c := 1) hN rfl) hay2 hgy57 (q + 2) (by omega) (by omega) (by decide) dX10_freezes_106 (fun gy64 egy65 => ?_)
    have hgy66 := up_s egy65
    obtain ⟨ry67, hvy68⟩ : ∃ rZ9 : Nat → Int, rZ9 = uZ ry58 (q + 2) ((K (7 * k + 2)) - vy5) := ⟨_, rfl⟩
    rw [← hvy68] at hgy66
    obtain ⟨Ky70, hKy71⟩ : ∃ KZ9 : Nat → Int, KZ9 = uZ Ky61 (7 * k + 2) ((K (7 * k + 2)) - vy5) := ⟨_, rfl⟩
    have hCy69 := lay_r hCy60 hvy68 hKy71 (by omega)
    refine z_iload_n C 0 dX10_freezes_107 rfl ?_
    refine z_if_le (tgt := 120) C dX10_freezes_108 (by decide) (by omega) (fun hby72 => ?_) (fun hby72 => ?_)
    · have hfz : fzN K k = vy5 := by unfold fzN mnZ; rw [exy4]; split <;> omega
      have hKZ : Ky70 = frZ K k := by
        funext q9
        rw [hKy71, hKy62, hKy53]
        unfold frZ fzT mnZ uZ
        rw [hfz]
        (repeat' split) <;> first | rfl | omega
      rw [hKZ] at hCy69
      have hfry73 : ∀ j, j ≠ q + 2 → j ≠ q + 1 → j ≠ q + 4 → ry67 j = r j := fun j n0 n1 n2 => (congrFun hvy68 _).trans ((uZ_n _ _ n0).trans ((congrFun hvy59 _).trans ((uZ_n _ _ n1).trans ((congrFun hvy50 _).trans ((uZ_n _ _ n2).trans (rfl))))))
      exact z_vret C hr hlk dX10_freezes_120 (by decide) (by decide) ⟨rfl, rfl, rfl, ⟨_, hgy66, hCy69, fun j a1 a2 a3 a4 => hfry73 j (by omega) (by omega) (by omega)⟩, fun j j1 => by rw [egy65, va_up_ne _ _ (by omega)]; rw [egy56, va_up_ne _ _ (by omega)]; rw [egy47, va_up_ne _ _ (by omega)]⟩
    · refine z_aload_n C 1 dX10_freezes_111 rfl ?_
      have hgy74 := up_n egy65 hgy63 (ne_o (i := i) (c := 0) (d := 1) rfl)
      refine z_get (v := .ref (ad (i + 1))) C (lt_A0 hN rfl) hay1 hgy74 rfl inA_X10 0 (by decide) q_1459 rfl rfl dX10_freezes_112 ?_
      refine z_iload_n C 2 dX10_freezes_115 rfl ?_
      refine z_iconst (z := 0) C dX10_freezes_116 rfl ?_
      refine z_iadd C dX10_freezes_117 ?_
      refine z_iconst (z := 3) C dX10_freezes_118 rfl ?_
      refine z_iast C (lt_A (c := 1) hN rfl) hay2 hgy66 (q) (by omega) (by omega) (by decide) dX10_freezes_119 (fun gy75 egy76 => ?_)
      have hgy77 := up_s egy76
      obtain ⟨ry78, hvy79⟩ : ∃ rZ9 : Nat → Int, rZ9 = uZ ry67 (q) (3) := ⟨_, rfl⟩
      rw [← hvy79] at hgy77
      obtain ⟨Ky81, hKy82⟩ : ∃ KZ9 : Nat → Int, KZ9 = uZ Ky70 (7 * k + 0) (3) := ⟨_, rfl⟩
      have hCy80 := lay_r hCy69 hvy79 hKy82 (by omega)
      have hfz : fzN K k = vy5 := by unfold fzN mnZ; rw [exy4]; split <;> omega
      have hKZ : Ky81 = frZ K k := by
        funext q9
        rw [hKy82, hKy71, hKy62, hKy53]
        unfold frZ fzT mnZ uZ
        rw [hfz]
        (repeat' split) <;> first | rfl | omega
      rw [hKZ] at hCy80
      have hfry83 : ∀ j, j ≠ q → j ≠ q + 2 → j ≠ q + 1 → j ≠ q + 4 → ry78 j = r j := fun j n0 n1 n2 n3 => (congrFun hvy79 _).trans ((uZ_n _ _ n0).trans ((congrFun hvy68 _).trans ((uZ_n _ _ n1).trans ((congrFun hvy59 _).trans ((uZ_n _ _ n2).trans ((congrFun hvy50 _).trans ((uZ_n _ _ n3).trans (rfl))))))))
      exact z_vret C hr hlk dX10_freezes_120 (by decide) (by decide) ⟨rfl, rfl, rfl, ⟨_, hgy77, hCy80, fun j a1 a2 a3 a4 => hfry83 j (by omega) (by omega) (by omega) (by omega)⟩, fun j j1 => by rw [egy76, va_up_ne _ _ (by omega)]; rw [egy65, va_up_ne _ _ (by omega)]; rw [egy56, va_up_ne _ _ (by omega)]; rw [egy47, va_up_ne _ _ (by omega)]⟩

set_option maxRecDepth 100000 in
set_option maxHeartbeats 4000000 in
theorem c_uSinks (l : Launch) (D : va_G) (A : Nat → Prop) (cs : Nat → ClassId) (tt : Nat) (N : Nat) (ad : Nat → Nat) (g : Nat → va_E) (i : Nat) (hN : i + 30 ≤ N) (F : Nat → Int) (hg : g i = mC ad i F) (r : Nat → Int) (ha1 : g (i + 1) = iA cs 29200 r) (tb : Nat → Int) (ha7 : g (i + 7) = iA cs 15 tb) (b s p : Nat) (hp : b + 6 + 86 * s = p) (hb : b + 350 ≤ 29200) (hs : s < 4) (n : Nat) (K : Nat → Int) (hn : r p = (n : Int)) (hC : ∀ q, q < 7 * n → r (p + 2 + q) = K q) (hO : okP K n) (ro : Int) (hro : r (p + 1) = ro) (ht : okTb tb) : zM l yX10_sinks cX10_sinks 6 none ({ frames := 3, cells := 0, slots := 0, locals := 180 } : Room) D A cs tt N ad g [.ref (ad i), .int (zI ((b : Int))), .int (zI ((s : Int)))] (rV0 N ad fun g' => (∃ r' : Nat → Int, g' (i + 1) = iA cs 29200 r' ∧ isS r' p ((n, (skZ tb n K ro).1, (skZ tb n K ro).2)) ∧ (∀ j, j < p ∨ p + 86 ≤ j → r' j = r j)) ∧ ∀ j, j ≠ i + 1 → g' j = g j) := by
  have hay1 : zAt ad (i) (ad i) := rfl
  have hay2 : zAt ad (i + 1) (ad (i + 1)) := rfl
  have hay3 : zAt ad (i + 7) (ad (i + 7)) := rfl
  have hn12 := hO.1
  refine z_of (by decide) (Nat.le_of_ble_eq_true rfl) ?_
  intro pY eY sY mY below meth cY C hr hlk hnm
  refine z_lv (lv' := [(0, .ref (ad i)), (1, .int (zI ((b : Int)))), (2, .int (zI ((s : Int))))]) [0, 1, 2] rfl ?_
  have lp : ∀ (n9 : Nat) (ll : Int) (K9 : Nat → Int) (ro9 : Int) (r9 : Nat → Int) (k : Nat) (g1 : Nat → va_E), (ll + 1).toNat = n9 → (g1 (i + 1) = iA cs 29200 r9) → (∀ j, j ≠ i + 1 → g1 j = g j) → (∀ j, j < p ∨ p + 86 ≤ j → r9 j = r j) → (r9 p = (n : Int)) → (r9 (p + 1) = ro9) → (∀ q, q < 7 * n → r9 (p + 2 + q) = K9 q) → (okP K9 n) → (ll = (k : Int) - 1) → (k ≤ n) → (skZ tb k K9 ro9 = skZ tb n K ro) → zV pY l eY ({ frames := 3, cells := 0, slots := 0, locals := 180 } : Room) sY mY ([.ref (ad i), .int (zI ((b : Int))), .int (zI ((s : Int)))] : List Value).toArray below meth cY (MQ below (zPost D A (rV0 N ad fun g' => (∃ r' : Nat → Int, g' (i + 1) = iA cs 29200 r' ∧ isS r' p ((n, (skZ tb n K ro).1, (skZ tb n K ro).2)) ∧ (∀ j, j < p ∨ p + 86 ≤ j → r' j = r j)) ∧ ∀ j, j ≠ i + 1 → g' j = g j)) ([.ref (ad i), .int (zI ((b : Int))), .int (zI ((s : Int)))] : List Value).toArray sY ({ frames := 3, cells := 0, slots := 0, locals := 180 } : Room).cells ({ frames := 3, cells := 0, slots := 0, locals := 180 } : Room).slots A) D A 6 (N) ad g1 (0) (0) 9 [(0, .ref (ad i)), (1, .int (zI ((b : Int)))), (2, .int (zI ((s : Int)))), (3, .int (zI (ll)))] [] := by
    intro n9
    induction n9 using Nat.strongRecOn with
    | ind n9 ih =>
      intro ll K9 ro9 r9 k g1 hm9 f2 f3 f5 hn9 hr9 hC9 hO9 hik hkn hsk
      have hay4 : zAt ad (i) (ad i) := rfl
      have hay5 : zAt ad (i + 1) (ad (i + 1)) := rfl
      have hay6 : zAt ad (i + 7) (ad (i + 7)) := rfl
      have hn12 := hO9.1
      by_cases hk0 : k = 0
      · subst hk0
        have hi0 : ll = -1 := by omega
        refine z_iload_n C 3 dX10_sinks_9 rfl ?_
        refine z_if_lt (tgt := 155) C dX10_sinks_10 (by decide) (by omega) (fun _ => ?_) (fun h => absurd h (by omega))
        have hq9 : (K9, ro9) = skZ tb n K ro := hsk
        rw [← hq9]
        exact z_vret C hr hlk dX10_sinks_155 (by decide) (by decide) ⟨rfl, rfl, rfl, ⟨_, f2, ⟨hn9, hr9, hC9⟩, f5⟩, fun j j1 => by exact f3 j j1⟩
      · obtain ⟨j, rfl⟩ : ∃ j, k = j + 1 := ⟨k - 1, by omega⟩
        obtain rfl : ll = (j : Int) := by omega
        have hA9 := skA_ok hO9 (i := j) (by omega)
        refine z_iload_n C 3 dX10_sinks_9 rfl ?_
        refine z_if_lt (tgt := 155) C dX10_sinks_10 (by decide) (by omega) (fun h => absurd h (by omega)) (fun _ => ?_)
        refine z_iload_n C 1 dX10_sinks_13 rfl ?_
        refine z_iload_n C 2 dX10_sinks_14 rfl ?_
        refine z_iload_n C 3 dX10_sinks_15 rfl ?_
        have hqy7k : ((j : Int) : Int) = ((j : Nat) : Int) := by omega
        obtain ⟨qy7, hqy7⟩ : ∃ q9 : Nat, p + 2 + 7 * j = q9 := ⟨_, rfl⟩
        refine z_cS (As := [.int (zI ((b : Int))), .int (zI ((s : Int))), .int (zI ((j : Int)))]) (rest := []) C (c_X10_at l D A cs tt N ad _ ((b : Int)) (by omega) ((s : Int)) (by omega) ((j : Int)) (by omega)) ms_yX10_at q_1753 hd_yX10_at (by decide) (Nat.le_of_ble_eq_true rfl) (by decide) dX10_sinks_16 rfl (kI0 fun vy8 gvy8 hvy8 => ?_)
        obtain ⟨hvy8, rfl⟩ := hvy8
        rw [show vy8 = (qy7 : Int) by omega]
        refine z_istore (lv' := [(4, .int (zI ((qy7 : Int)))), (0, .ref (ad i)), (1, .int (zI ((b : Int)))), (2, .int (zI ((s : Int)))), (3, .int (zI ((j : Int))))]) C dX10_sinks_19 (by decide) rfl ?_
        refine z_aload_n C 1 dX10_sinks_21 rfl ?_
        refine z_get (v := .ref (ad (i + 1))) C (lt_A0 hN rfl) hay4 ((f3 _ (by omega)).trans hg) rfl inA_X10 0 (by decide) q_1459 rfl rfl dX10_sinks_22 ?_
        refine z_iload C 0 dX10_sinks_25 rfl ?_
        refine z_iconst (z := 2) C dX10_sinks_27 rfl ?_
        refine z_iadd C dX10_sinks_28 ?_
        refine z_iald C (lt_A (c := 1) hN rfl) hay5 f2 (qy7 + 2) (by omega) (by omega) (by decide) dX10_sinks_29 ?_
        rw [show r9 (qy7 + 2) = K9 (7 * j + 2) from (congrArg r9 (show qy7 + 2 = p + 2 + (7 * j + 2) by omega)).trans (hC9 (7 * j + 2) (by omega))]
        obtain ⟨⟨qy90, qy91, qy92, qy93, qy94, qy95, qy96⟩, qy99⟩ := hO9.ly (l := j) (by omega)
        refine z_if_le (tgt := 51) C dX10_sinks_30 (by decide) (by omega) (fun hby10 => ?_) (fun hby10 => ?_)
        · have hA : skA K9 j = K9 := by unfold skA; rw [if_neg (by omega)]
          rw [hA] at hA9
          have hHb := skH_b ht hA9.1 (i := j) (by omega)
          refine z_aload_n C 1 dX10_sinks_51 rfl ?_
          refine z_get (v := .ref (ad (i + 1))) C (lt_A0 hN rfl) hay4 ((f3 _ (by omega)).trans hg) rfl inA_X10 0 (by decide) q_1459 rfl rfl dX10_sinks_52 ?_
          refine z_iload C 0 dX10_sinks_55 rfl ?_
          refine z_iconst (z := 2) C dX10_sinks_57 rfl ?_
          refine z_iadd C dX10_sinks_58 ?_
          refine z_iald C (lt_A (c := 1) hN rfl) hay5 f2 (qy7 + 2) (by omega) (by omega) (by decide) dX10_sinks_59 ?_
          rw [show r9 (qy7 + 2) = K9 (7 * j + 2) from (congrArg r9 (show qy7 + 2 = p + 2 + (7 * j + 2) by omega)).trans (hC9 (7 * j + 2) (by omega))]
          refine z_aload_n C 1 dX10_sinks_60 rfl ?_
          refine z_get (v := .ref (ad (i + 1))) C (lt_A0 hN rfl) hay4 ((f3 _ (by omega)).trans hg) rfl inA_X10 0 (by decide) q_1459 rfl rfl dX10_sinks_61 ?_
          refine z_iload C 0 dX10_sinks_64 rfl ?_
          refine z_iconst (z := 1) C dX10_sinks_66 rfl ?_
          refine z_iadd C dX10_sinks_67 ?_
          refine z_iald C (lt_A (c := 1) hN rfl) hay5 f2 (qy7 + 1) (by omega) (by omega) (by decide) dX10_sinks_68 ?_
          rw [show r9 (qy7 + 1) = K9 (7 * j + 1) from (congrArg r9 (show qy7 + 1 = p + 2 + (7 * j + 1) by omega)).trans (hC9 (7 * j + 1) (by omega))]
          refine z_aload_n C 1 dX10_sinks_69 rfl ?_
          refine z_get (v := .ref (ad (i + 7))) C (lt_A0 hN rfl) hay4 ((f3 _ (by omega)).trans hg) rfl inA_X10 6 (by decide) q_1465 rfl rfl dX10_sinks_70 ?_
          refine z_iconst (z := 5) C dX10_sinks_73 rfl ?_
          refine z_aload_n C 1 dX10_sinks_74 rfl ?_
          refine z_get (v := .ref (ad (i + 1))) C (lt_A0 hN rfl) hay4 ((f3 _ (by omega)).trans hg) rfl inA_X10 0 (by decide) q_1459 rfl rfl dX10_sinks_75 ?_
          refine z_iload C 0 dX10_sinks_78 rfl ?_
          refine z_iconst (z := 0) C dX10_sinks_80 rfl ?_
          refine z_iadd C dX10_sinks_81 ?_
          refine z_iald C (lt_A (c := 1) hN rfl) hay5 f2 (qy7) (by omega) (by omega) (by decide) dX10_sinks_82 ?_
          rw [show r9 (qy7) = K9 (7 * j) from (congrArg r9 (show qy7 = p + 2 + (7 * j + 0) by omega)).trans (hC9 (7 * j + 0) (by omega))]
          refine z_iadd C dX10_sinks_83 ?_
          refine z_iald C (lt_A (c := 7) hN rfl) hay6 ((f3 _ (by omega)).trans ha7) ((5 + (K9 (7 * j))).toNat) (by omega) (by omega) (by decide) dX10_sinks_84 ?_
          have htby11 := ht.1 ((5 + (K9 (7 * j))).toNat) (by omega)
          refine z_imul C dX10_sinks_85 ?_
          refine z_bipush (z := 100) C dX10_sinks_86 (by decide) ?_
          refine z_idiv C dX10_sinks_88 (by omega) (by omega) (by omega) ?_
          obtain ⟨xy12, exy12, hxy12⟩ : ∃ x9, ((K9 (7 * j + 1)) * (tb ((5 + (K9 (7 * j))).toNat))).tdiv 100 = x9 ∧ (0 ≤ (K9 (7 * j + 1)) * (tb ((5 + (K9 (7 * j))).toNat)) → 0 ≤ x9 ∧ 100 * x9 ≤ (K9 (7 * j + 1)) * (tb ((5 + (K9 (7 * j))).toNat)) ∧ (K9 (7 * j + 1)) * (tb ((5 + (K9 (7 * j))).toNat)) < 100 * x9 + 100) ∧ ((K9 (7 * j + 1)) * (tb ((5 + (K9 (7 * j))).toNat)) ≤ 0 → x9 ≤ 0 ∧ (K9 (7 * j + 1)) * (tb ((5 + (K9 (7 * j))).toNat)) ≤ 100 * x9 ∧ 100 * x9 < (K9 (7 * j + 1)) * (tb ((5 + (K9 (7 * j))).toNat)) + 100) := tdk 100 (by decide)
          rw [exy12]
          have hH : skH tb K9 j = xy12 := exy12
          rw [hH] at hHb
          refine z_isub C dX10_sinks_89 ?_
          refine z_istore (lv' := [(5, .int (zI ((K9 (7 * j + 2)) - xy12))), (4, .int (zI ((qy7 : Int)))), (0, .ref (ad i)), (1, .int (zI ((b : Int)))), (2, .int (zI ((s : Int)))), (3, .int (zI ((j : Int))))]) C dX10_sinks_90 (by decide) rfl ?_
          refine z_iload C 0 dX10_sinks_92 rfl ?_
          refine z_if_gt (tgt := 100) C dX10_sinks_94 (by decide) (by omega) (fun hby13 => ?_) (fun hby13 => ?_)
          · refine z_aload_n C 2 dX10_sinks_100 rfl ?_
            refine z_get (v := .ref (ad (i + 1))) C (lt_A0 hN rfl) hay4 ((f3 _ (by omega)).trans hg) rfl inA_X10 0 (by decide) q_1459 rfl rfl dX10_sinks_101 ?_
            refine z_iload C 1 dX10_sinks_104 rfl ?_
            refine z_iconst (z := 2) C dX10_sinks_106 rfl ?_
            refine z_iadd C dX10_sinks_107 ?_
            refine z_dup2 C dX10_sinks_108 rfl rfl ?_
            refine z_iald C (lt_A (c := 1) hN rfl) hay5 f2 (qy7 + 2) (by omega) (by omega) (by decide) dX10_sinks_109 ?_
            rw [show r9 (qy7 + 2) = K9 (7 * j + 2) from (congrArg r9 (show qy7 + 2 = p + 2 + (7 * j + 2) by omega)).trans (hC9 (7 * j + 2) (by omega))]
            refine z_iload C 0 dX10_sinks_110 rfl ?_
            refine z_isub C dX10_sinks_112 ?_
            refine z_iast C (lt_A (c := 1) hN rfl) hay5 f2 (qy7 + 2) (by omega) (by omega) (by decide) dX10_sinks_113 (fun gy14 egy15 => ?_)
            have hgy16 := up_s egy15
            obtain ⟨ry17, hvy18⟩ : ∃ rZ9 : Nat → Int, rZ9 = uZ r9 (qy7 + 2) ((K9 (7 * j + 2)) - ((K9 (7 * j + 2)) - xy12)) := ⟨_, rfl⟩
            rw [← hvy18] at hgy16
            obtain ⟨Ky20, hKy21⟩ : ∃ KZ9 : Nat → Int, KZ9 = uZ K9 (7 * j + 2) ((K9 (7 * j + 2)) - ((K9 (7 * j + 2)) - xy12)) := ⟨_, rfl⟩
            have hCy19 := lay_r hC9 hvy18 hKy21 (by omega)
            refine z_iload_n C 5 dX10_sinks_114 rfl ?_
            refine z_if_ne (tgt := 129) C dX10_sinks_115 (by decide) (by omega) (fun hby22 => ?_) (fun hby22 => ?_)
            · refine z_aload_n C 2 dX10_sinks_129 rfl ?_
              have hgy23 := up_n egy15 ((f3 _ (by omega)).trans hg) (ne_o (i := i) (c := 0) (d := 1) rfl)
              refine z_get (v := .ref (ad (i + 1))) C (lt_A0 hN rfl) hay4 hgy23 rfl inA_X10 0 (by decide) q_1459 rfl rfl dX10_sinks_130 ?_
              refine z_iload_n C 3 dX10_sinks_133 rfl ?_
              refine z_iload_n C 4 dX10_sinks_134 rfl ?_
              refine z_iload_n C 5 dX10_sinks_135 rfl ?_
              refine z_iconst (z := 1) C dX10_sinks_136 rfl ?_
              refine z_isub C dX10_sinks_137 ?_
              have hqy24k : (((j : Int)) - 1 : Int) = (((j - 1) : Nat) : Int) := by omega
              obtain ⟨qy24, hqy24⟩ : ∃ q9 : Nat, p + 2 + 7 * (j - 1) = q9 := ⟨_, rfl⟩
              refine z_cS (As := [.int (zI ((b : Int))), .int (zI ((s : Int))), .int (zI (((j : Int)) - 1))]) (rest := [.ref (ad (i + 1))]) C (c_X10_at l D A cs tt N ad _ ((b : Int)) (by omega) ((s : Int)) (by omega) (((j : Int)) - 1) (by omega)) ms_yX10_at q_1753 hd_yX10_at (by decide) (Nat.le_of_ble_eq_true rfl) (by decide) dX10_sinks_138 rfl (kI0 fun vy25 gvy25 hvy25 => ?_)
              obtain ⟨hvy25, rfl⟩ := hvy25
              rw [show vy25 = (qy24 : Int) by omega]
              refine z_iconst (z := 2) C dX10_sinks_141 rfl ?_
              refine z_iadd C dX10_sinks_142 ?_
              refine z_dup2 C dX10_sinks_143 rfl rfl ?_
              refine z_iald C (lt_A (c := 1) hN rfl) hay5 hgy16 (qy24 + 2) (by omega) (by omega) (by decide) dX10_sinks_144 ?_
              rw [show ry17 (qy24 + 2) = r9 (qy24 + 2) from (congrFun hvy18 _).trans ((uZ_n _ _ (by omega)).trans (rfl))]
              rw [show r9 (qy24 + 2) = K9 (7 * (j - 1) + 2) from (congrArg r9 (show qy24 + 2 = p + 2 + (7 * (j - 1) + 2) by omega)).trans (hC9 (7 * (j - 1) + 2) (by omega))]
              obtain ⟨⟨qy260, qy261, qy262, qy263, qy264, qy265, qy266⟩, qy269⟩ := hO9.ly (l := (j - 1)) (by omega)
              refine z_iload C 0 dX10_sinks_145 rfl ?_
              refine z_iadd C dX10_sinks_147 ?_
              refine z_iast C (lt_A (c := 1) hN rfl) hay5 hgy16 (qy24 + 2) (by omega) (by omega) (by decide) dX10_sinks_148 (fun gy27 egy28 => ?_)
              have hgy29 := up_s egy28
              obtain ⟨ry30, hvy31⟩ : ∃ rZ9 : Nat → Int, rZ9 = uZ ry17 (qy24 + 2) ((K9 (7 * (j - 1) + 2)) + ((K9 (7 * j + 2)) - xy12)) := ⟨_, rfl⟩
              rw [← hvy31] at hgy29
              obtain ⟨Ky33, hKy34⟩ : ∃ KZ9 : Nat → Int, KZ9 = uZ Ky20 (7 * (j - 1) + 2) ((K9 (7 * (j - 1) + 2)) + ((K9 (7 * j + 2)) - xy12)) := ⟨_, rfl⟩
              have hCy32 := lay_r hCy19 hvy31 hKy34 (by omega)
              refine z_iinc (z := (j : Int) - 1) (lv' := [(3, .int (zI ((j : Int) - 1))), (5, .int (zI ((K9 (7 * j + 2)) - xy12))), (4, .int (zI ((qy7 : Int)))), (0, .ref (ad i)), (1, .int (zI ((b : Int)))), (2, .int (zI ((s : Int))))]) (j := 5) C dX10_sinks_149 rfl (congrArg zI (by omega)) (by decide) rfl ?_
              refine z_goto (tgt := 9) C dX10_sinks_152 (by decide) ?_
              refine z_lv (lv' := [(0, .ref (ad i)), (1, .int (zI ((b : Int)))), (2, .int (zI ((s : Int)))), (3, .int (zI ((j : Int) - 1)))]) [3, 4, 5, 0] rfl ?_
              have hfry35 : ∀ j, j ≠ qy24 + 2 → j ≠ qy7 + 2 → ry30 j = r9 j := fun j n0 n1 => (congrFun hvy31 _).trans ((uZ_n _ _ n0).trans ((congrFun hvy18 _).trans ((uZ_n _ _ n1).trans (rfl))))
              have hro2 : ry30 (p + 1) = ro9 := ((((congrFun hvy31 _).trans ((uZ_n _ _ (by omega)).trans ((congrFun hvy18 _).trans ((uZ_n _ _ (by omega)).trans (rfl)))))) : ry30 (p + 1) = r9 (p + 1)).trans hr9
              have hB : skB tb K9 j = Ky33 := by
                unfold skB
                rw [if_pos (by omega), hH]
                unfold wtK
                rw [if_neg (by omega)]
                funext q9
                rw [hKy34, hKy21]
                unfold uZ
                (repeat' split) <;> first | rfl | omega | (subst_vars; omega)
              have hR : skR tb K9 j ro9 = ro9 := by
                unfold skR wtR
                rw [if_pos (by omega), if_neg (by omega)]
              have hO2 := skB_ok (ro := ro9) ht hA9.1 (i := j) (by omega)
              rw [hB, hR] at hO2
              have hs2 : skZ tb j Ky33 (ro9) = skZ tb n K ro := by
                rw [← hsk]
                show _ = skZ tb j (skB tb (skA K9 j) j) (skR tb (skA K9 j) j ro9)
                rw [hA, hB, hR]
              exact ih _ (by omega) ((j : Int) - 1) Ky33 (ro9) ry30 j gy27 rfl hgy29 (fun j j1 => by rw [egy28, va_up_ne _ _ (by omega)]; rw [egy15, va_up_ne _ _ (by omega)]; exact f3 j j1) (fun j a1 => (hfry35 j (by omega) (by omega)).trans (f5 j a1)) (((congrFun hvy31 _).trans ((uZ_n _ _ (by omega)).trans ((congrFun hvy18 _).trans ((uZ_n _ _ (by omega)).trans (rfl))))).trans hn9) hro2 hCy32 hO2.1 (by omega) (by omega) hs2
            · refine z_aload_n C 2 dX10_sinks_118 rfl ?_
              refine z_iload_n C 3 dX10_sinks_119 rfl ?_
              refine z_iload_n C 4 dX10_sinks_120 rfl ?_
              refine z_iload C 0 dX10_sinks_121 rfl ?_
              have hgy36 := up_n egy15 ((f3 _ (by omega)).trans hg) (ne_o (i := i) (c := 0) (d := 1) rfl)
              refine z_cV (As := [.int (zI ((b : Int))), .int (zI ((s : Int))), .int (zI ((K9 (7 * j + 2)) - xy12))]) (rest := []) (ci := 12) C (c_X10_runsOff l D A cs tt N ad _ i hN _ hgy36 _ hgy16 b s p hp (by omega) (by omega) ((K9 (7 * j + 2)) - xy12)) (lt_A0 hN rfl) hay4 hgy36 rfl rfl mv_yX10_runsOff q_1912 hd_yX10_runsOff (by decide) (Nat.le_of_ble_eq_true rfl) (by decide) dX10_sinks_123 rfl (kV0 fun gvy37 hvy37 => ?_)
              obtain ⟨hcvy37, hfvy37⟩ := hvy37
              obtain ⟨ry38, hvy39⟩ : ∃ rZ9 : Nat → Int, rZ9 = uZ ry17 (p + 1) (ry17 (p + 1) + ((K9 (7 * j + 2)) - xy12)) := ⟨_, rfl⟩
              rw [← hvy39] at hcvy37
              have hCy40 := lay_n hCy19 hvy39 (by omega)
              refine z_goto (tgt := 149) C dX10_sinks_126 (by decide) ?_
              refine z_iinc (z := (j : Int) - 1) (lv' := [(3, .int (zI ((j : Int) - 1))), (5, .int (zI ((K9 (7 * j + 2)) - xy12))), (4, .int (zI ((qy7 : Int)))), (0, .ref (ad i)), (1, .int (zI ((b : Int)))), (2, .int (zI ((s : Int))))]) (j := 5) C dX10_sinks_149 rfl (congrArg zI (by omega)) (by decide) rfl ?_
              refine z_goto (tgt := 9) C dX10_sinks_152 (by decide) ?_
              refine z_lv (lv' := [(0, .ref (ad i)), (1, .int (zI ((b : Int)))), (2, .int (zI ((s : Int)))), (3, .int (zI ((j : Int) - 1)))]) [3, 4, 5, 0] rfl ?_
              have hfry41 : ∀ j, j ≠ p + 1 → j ≠ qy7 + 2 → ry38 j = r9 j := fun j n0 n1 => (congrFun hvy39 _).trans ((uZ_n _ _ n0).trans ((congrFun hvy18 _).trans ((uZ_n _ _ n1).trans (rfl))))
              have hb1 : ry17 (p + 1) = ro9 := (((congrFun hvy18 _).trans ((uZ_n _ _ (by omega)).trans (rfl))) : ry17 (p + 1) = r9 (p + 1)).trans hr9
              have hro2 : ry38 (p + 1) = ro9 + ((K9 (7 * j + 2)) - xy12) := by rw [show ry38 (p + 1) = ry17 (p + 1) + ((K9 (7 * j + 2)) - xy12) from ((congrFun hvy39 _).trans (uZ_s _ _ _))]; omega
              have hB : skB tb K9 j = Ky20 := by
                unfold skB
                rw [if_pos (by omega), hH]
                unfold wtK
                rw [if_pos (by omega)]
                funext q9
                rw [hKy21]
                unfold uZ
                (repeat' split) <;> first | rfl | omega | (subst_vars; omega)
              have hR : skR tb K9 j ro9 = ro9 + ((K9 (7 * j + 2)) - xy12) := by
                unfold skR wtR
                rw [if_pos (by omega), if_pos (by omega)]; omega
              have hO2 := skB_ok (ro := ro9) ht hA9.1 (i := j) (by omega)
              rw [hB, hR] at hO2
              have hs2 : skZ tb j Ky20 (ro9 + ((K9 (7 * j + 2)) - xy12)) = skZ tb n K ro := by
                rw [← hsk]
                show _ = skZ tb j (skB tb (skA K9 j) j) (skR tb (skA K9 j) j ro9)
                rw [hA, hB, hR]
              exact ih _ (by omega) ((j : Int) - 1) Ky20 (ro9 + ((K9 (7 * j + 2)) - xy12)) ry38 j gvy37 rfl hcvy37 (fun j j1 => by rw [hfvy37 _ (by omega)]; rw [egy15, va_up_ne _ _ (by omega)]; exact f3 j j1) (fun j a1 => (hfry41 j (by omega) (by omega)).trans (f5 j a1)) (((congrFun hvy39 _).trans ((uZ_n _ _ (by omega)).trans ((congrFun hvy18 _).trans ((uZ_n _ _ (by omega)).trans (rfl))))).trans hn9) hro2 hCy40 hO2.1 (by omega) (by omega) hs2
          · refine z_goto (tgt := 149) C dX10_sinks_97 (by decide) ?_
            refine z_iinc (z := (j : Int) - 1) (lv' := [(3, .int (zI ((j : Int) - 1))), (5, .int (zI ((K9 (7 * j + 2)) - xy12))), (4, .int (zI ((qy7 : Int)))), (0, .ref (ad i)), (1, .int (zI ((b : Int)))), (2, .int (zI ((s : Int))))]) (j := 5) C dX10_sinks_149 rfl (congrArg zI (by omega)) (by decide) rfl ?_
            refine z_goto (tgt := 9) C dX10_sinks_152 (by decide) ?_
            refine z_lv (lv' := [(0, .ref (ad i)), (1, .int (zI ((b : Int)))), (2, .int (zI ((s : Int)))), (3, .int (zI ((j : Int) - 1)))]) [3, 4, 5, 0] rfl ?_
            have hro2 : r9 (p + 1) = ro9 := ((rfl) : r9 (p + 1) = r9 (p + 1)).trans hr9
            have hB : skB tb K9 j = K9 := by unfold skB; rw [if_neg (by omega)]
            have hR : skR tb K9 j ro9 = ro9 := by unfold skR; rw [if_neg (by omega)]
            have hs2 : skZ tb j K9 (ro9) = skZ tb n K ro := by
              rw [← hsk]
              show _ = skZ tb j (skB tb (skA K9 j) j) (skR tb (skA K9 j) j ro9)
              rw [hA, hB, hR]
            exact ih _ (by omega) ((j : Int) - 1) K9 (ro9) r9 j g1 rfl f2 (fun j j1 => by exact f3 j j1) (f5) hn9 hro2 hC9 hA9.1 (by omega) (by omega) hs2
        · refine z_aload_n C 1 dX10_sinks_33 rfl ?_
          refine z_get (v := .ref (ad (i + 1))) C (lt_A0 hN rfl) hay4 ((f3 _ (by omega)).trans hg) rfl inA_X10 0 (by decide) q_1459 rfl rfl dX10_sinks_34 ?_
          refine z_iload C 0 dX10_sinks_37 rfl ?_
          refine z_iconst (z := 4) C dX10_sinks_39 rfl ?_
          refine z_iadd C dX10_sinks_40 ?_
          refine z_iald C (lt_A (c := 1) hN rfl) hay5 f2 (qy7 + 4) (by omega) (by omega) (by decide) dX10_sinks_41 ?_
          rw [show r9 (qy7 + 4) = K9 (7 * j + 4) from (congrArg r9 (show qy7 + 4 = p + 2 + (7 * j + 4) by omega)).trans (hC9 (7 * j + 4) (by omega))]
          refine z_if_ge (tgt := 51) C dX10_sinks_42 (by decide) (by omega) (fun hby42 => ?_) (fun hby42 => ?_)
          · have hA : skA K9 j = K9 := by unfold skA; rw [if_neg (by omega)]
            rw [hA] at hA9
            have hHb := skH_b ht hA9.1 (i := j) (by omega)
            refine z_aload_n C 1 dX10_sinks_51 rfl ?_
            refine z_get (v := .ref (ad (i + 1))) C (lt_A0 hN rfl) hay4 ((f3 _ (by omega)).trans hg) rfl inA_X10 0 (by decide) q_1459 rfl rfl dX10_sinks_52 ?_
            refine z_iload C 0 dX10_sinks_55 rfl ?_
            refine z_iconst (z := 2) C dX10_sinks_57 rfl ?_
            refine z_iadd C dX10_sinks_58 ?_
            refine z_iald C (lt_A (c := 1) hN rfl) hay5 f2 (qy7 + 2) (by omega) (by omega) (by decide) dX10_sinks_59 ?_
            rw [show r9 (qy7 + 2) = K9 (7 * j + 2) from (congrArg r9 (show qy7 + 2 = p + 2 + (7 * j + 2) by omega)).trans (hC9 (7 * j + 2) (by omega))]
            refine z_aload_n C 1 dX10_sinks_60 rfl ?_
            refine z_get (v := .ref (ad (i + 1))) C (lt_A0 hN rfl) hay4 ((f3 _ (by omega)).trans hg) rfl inA_X10 0 (by decide) q_1459 rfl rfl dX10_sinks_61 ?_
            refine z_iload C 0 dX10_sinks_64 rfl ?_
            refine z_iconst (z := 1) C dX10_sinks_66 rfl ?_
            refine z_iadd C dX10_sinks_67 ?_
            refine z_iald C (lt_A (c := 1) hN rfl) hay5 f2 (qy7 + 1) (by omega) (by omega) (by decide) dX10_sinks_68 ?_
            rw [show r9 (qy7 + 1) = K9 (7 * j + 1) from (congrArg r9 (show qy7 + 1 = p + 2 + (7 * j + 1) by omega)).trans (hC9 (7 * j + 1) (by omega))]
            refine z_aload_n C 1 dX10_sinks_69 rfl ?_
            refine z_get (v := .ref (ad (i + 7))) C (lt_A0 hN rfl) hay4 ((f3 _ (by omega)).trans hg) rfl inA_X10 6 (by decide) q_1465 rfl rfl dX10_sinks_70 ?_
            refine z_iconst (z := 5) C dX10_sinks_73 rfl ?_
            refine z_aload_n C 1 dX10_sinks_74 rfl ?_
            refine z_get (v := .ref (ad (i + 1))) C (lt_A0 hN rfl) hay4 ((f3 _ (by omega)).trans hg) rfl inA_X10 0 (by decide) q_1459 rfl rfl dX10_sinks_75 ?_
            refine z_iload C 0 dX10_sinks_78 rfl ?_
            refine z_iconst (z := 0) C dX10_sinks_80 rfl ?_
            refine z_iadd C dX10_sinks_81 ?_
            refine z_iald C (lt_A (c := 1) hN rfl) hay5 f2 (qy7) (by omega) (by omega) (by decide) dX10_sinks_82 ?_
            rw [show r9 (qy7) = K9 (7 * j) from (congrArg r9 (show qy7 = p + 2 + (7 * j + 0) by omega)).trans (hC9 (7 * j + 0) (by omega))]
            refine z_iadd C dX10_sinks_83 ?_
            refine z_iald C (lt_A (c := 7) hN rfl) hay6 ((f3 _ (by omega)).trans ha7) ((5 + (K9 (7 * j))).toNat) (by omega) (by omega) (by decide) dX10_sinks_84 ?_
            have htby43 := ht.1 ((5 + (K9 (7 * j))).toNat) (by omega)
            refine z_imul C dX10_sinks_85 ?_
            refine z_bipush (z := 100) C dX10_sinks_86 (by decide) ?_
            refine z_idiv C dX10_sinks_88 (by omega) (by omega) (by omega) ?_
            obtain ⟨xy44, exy44, hxy44⟩ : ∃ x9, ((K9 (7 * j + 1)) * (tb ((5 + (K9 (7 * j))).toNat))).tdiv 100 = x9 ∧ (0 ≤ (K9 (7 * j + 1)) * (tb ((5 + (K9 (7 * j))).toNat)) → 0 ≤ x9 ∧ 100 * x9 ≤ (K9 (7 * j + 1)) * (tb ((5 + (K9 (7 * j))).toNat)) ∧ (K9 (7 * j + 1)) * (tb ((5 + (K9 (7 * j))).toNat)) < 100 * x9 + 100) ∧ ((K9 (7 * j + 1)) * (tb ((5 + (K9 (7 * j))).toNat)) ≤ 0 → x9 ≤ 0 ∧ (K9 (7 * j + 1)) * (tb ((5 + (K9 (7 * j))).toNat)) ≤ 100 * x9 ∧ 100 * x9 < (K9 (7 * j + 1)) * (tb ((5 + (K9 (7 * j))).toNat)) + 100) := tdk 100 (by decide)
            rw [exy44]
            have hH : skH tb K9 j = xy44 := exy44
            rw [hH] at hHb
            refine z_isub C dX10_sinks_89 ?_
            refine z_istore (lv' := [(5, .int (zI ((K9 (7 * j + 2)) - xy44))), (4, .int (zI ((qy7 : Int)))), (0, .ref (ad i)), (1, .int (zI ((b : Int)))), (2, .int (zI ((s : Int)))), (3, .int (zI ((j : Int))))]) C dX10_sinks_90 (by decide) rfl ?_
            refine z_iload C 0 dX10_sinks_92 rfl ?_
            refine z_if_gt (tgt := 100) C dX10_sinks_94 (by decide) (by omega) (fun hby45 => ?_) (fun hby45 => ?_)
            · refine z_aload_n C 2 dX10_sinks_100 rfl ?_
              refine z_get (v := .ref (ad (i + 1))) C (lt_A0 hN rfl) hay4 ((f3 _ (by omega)).trans hg) rfl inA_X10 0 (by decide) q_1459 rfl rfl dX10_sinks_101 ?_
              refine z_iload C 1 dX10_sinks_104 rfl ?_
              refine z_iconst (z := 2) C dX10_sinks_106 rfl ?_
              refine z_iadd C dX10_sinks_107 ?_
              refine z_dup2 C dX10_sinks_108 rfl rfl ?_
              refine z_iald C (lt_A (c := 1) hN rfl) hay5 f2 (qy7 + 2) (by omega) (by omega) (by decide) dX10_sinks_109 ?_
              rw [show r9 (qy7 + 2) = K9 (7 * j + 2) from (congrArg r9 (show qy7 + 2 = p + 2 + (7 * j + 2) by omega)).trans (hC9 (7 * j + 2) (by omega))]
              refine z_iload C 0 dX10_sinks_110 rfl ?_
              refine z_isub C dX10_sinks_112 ?_
              refine z_iast C (lt_A (c := 1) hN rfl) hay5 f2 (qy7 + 2) (by omega) (by omega) (by decide) dX10_sinks_113 (fun gy46 egy47 => ?_)
              have hgy48 := up_s egy47
              obtain ⟨ry49, hvy50⟩ : ∃ rZ9 : Nat → Int, rZ9 = uZ r9 (qy7 + 2) ((K9 (7 * j + 2)) - ((K9 (7 * j + 2)) - xy44)) := ⟨_, rfl⟩
              rw [← hvy50] at hgy48
              obtain ⟨Ky52, hKy53⟩ : ∃ KZ9 : Nat → Int, KZ9 = uZ K9 (7 * j + 2) ((K9 (7 * j + 2)) - ((K9 (7 * j + 2)) - xy44)) := ⟨_, rfl⟩
              have hCy51 := lay_r hC9 hvy50 hKy53 (by omega)
              refine z_iload_n C 5 dX10_sinks_114 rfl ?_
              refine z_if_ne (tgt := 129) C dX10_sinks_115 (by decide) (by omega) (fun hby54 => ?_) (fun hby54 => ?_)
              · refine z_aload_n C 2 dX10_sinks_129 rfl ?_
                have hgy55 := up_n egy47 ((f3 _ (by omega)).trans hg) (ne_o (i := i) (c := 0) (d := 1) rfl)
                refine z_get (v := .ref (ad (i + 1))) C (lt_A0 hN rfl) hay4 hgy55 rfl inA_X10 0 (by decide) q_1459 rfl rfl dX10_sinks_130 ?_
                refine z_iload_n C 3 dX10_sinks_133 rfl ?_
                refine z_iload_n C 4 dX10_sinks_134 rfl ?_
                refine z_iload_n C 5 dX10_sinks_135 rfl ?_
                refine z_iconst (z := 1) C dX10_sinks_136 rfl ?_
                refine z_isub C dX10_sinks_137 ?_
                have hqy56k : (((j : Int)) - 1 : Int) = (((j - 1) : Nat) : Int) := by omega
                obtain ⟨qy56, hqy56⟩ : ∃ q9 : Nat, p + 2 + 7 * (j - 1) = q9 := ⟨_, rfl⟩
                refine z_cS (As := [.int (zI ((b : Int))), .int (zI ((s : Int))), .int (zI (((j : Int)) - 1))]) (rest := [.ref (ad (i + 1))]) C (c_X10_at l D A cs tt N ad _ ((b : Int)) (by omega) ((s : Int)) (by omega) (((j : Int)) - 1) (by omega)) ms_yX10_at q_1753 hd_yX10_at (by decide) (Nat.le_of_ble_eq_true rfl) (by decide) dX10_sinks_138 rfl (kI0 fun vy57 gvy57 hvy57 => ?_)
                obtain ⟨hvy57, rfl⟩ := hvy57
                rw [show vy57 = (qy56 : Int) by omega]
                refine z_iconst (z := 2) C dX10_sinks_141 rfl ?_
                refine z_iadd C dX10_sinks_142 ?_
                refine z_dup2 C dX10_sinks_143 rfl rfl ?_
                refine z_iald C (lt_A (c := 1) hN rfl) hay5 hgy48 (qy56 + 2) (by omega) (by omega) (by decide) dX10_sinks_144 ?_
                rw [show ry49 (qy56 + 2) = r9 (qy56 + 2) from (congrFun hvy50 _).trans ((uZ_n _ _ (by omega)).trans (rfl))]
                rw [show r9 (qy56 + 2) = K9 (7 * (j - 1) + 2) from (congrArg r9 (show qy56 + 2 = p + 2 + (7 * (j - 1) + 2) by omega)).trans (hC9 (7 * (j - 1) + 2) (by omega))]
                obtain ⟨⟨qy580, qy581, qy582, qy583, qy584, qy585, qy586⟩, qy589⟩ := hO9.ly (l := (j - 1)) (by omega)
                refine z_iload C 0 dX10_sinks_145 rfl ?_
                refine z_iadd C dX10_sinks_147 ?_
                refine z_iast C (lt_A (c := 1) hN rfl) hay5 hgy48 (qy56 + 2) (by omega) (by omega) (by decide) dX10_sinks_148 (fun gy59 egy60 => ?_)
                have hgy61 := up_s egy60
                obtain ⟨ry62, hvy63⟩ : ∃ rZ9 : Nat → Int, rZ9 = uZ ry49 (qy56 + 2) ((K9 (7 * (j - 1) + 2)) + ((K9 (7 * j + 2)) - xy44)) := ⟨_, rfl⟩
                rw [← hvy63] at hgy61
                obtain ⟨Ky65, hKy66⟩ : ∃ KZ9 : Nat → Int, KZ9 = uZ Ky52 (7 * (j - 1) + 2) ((K9 (7 * (j - 1) + 2)) + ((K9 (7 * j + 2)) - xy44)) := ⟨_, rfl⟩
                have hCy64 := lay_r hCy51 hvy63 hKy66 (by omega)
                refine z_iinc (z := (j : Int) - 1) (lv' := [(3, .int (zI ((j : Int) - 1))), (5, .int (zI ((K9 (7 * j + 2)) - xy44))), (4, .int (zI ((qy7 : Int)))), (0, .ref (ad i)), (1, .int (zI ((b : Int)))), (2, .int (zI ((s : Int))))]) (j := 5) C dX10_sinks_149 rfl (congrArg zI (by omega)) (by decide) rfl ?_
                refine z_goto (tgt := 9) C dX10_sinks_152 (by decide) ?_
                refine z_lv (lv' := [(0, .ref (ad i)), (1, .int (zI ((b : Int)))), (2, .int (zI ((s : Int)))), (3, .int (zI ((j : Int) - 1)))]) [3, 4, 5, 0] rfl ?_
                have hfry67 : ∀ j, j ≠ qy56 + 2 → j ≠ qy7 + 2 → ry62 j = r9 j := fun j n0 n1 => (congrFun hvy63 _).trans ((uZ_n _ _ n0).trans ((congrFun hvy50 _).trans ((uZ_n _ _ n1).trans (rfl))))
                have hro2 : ry62 (p + 1) = ro9 := ((((congrFun hvy63 _).trans ((uZ_n _ _ (by omega)).trans ((congrFun hvy50 _).trans ((uZ_n _ _ (by omega)).trans (rfl)))))) : ry62 (p + 1) = r9 (p + 1)).trans hr9
                have hB : skB tb K9 j = Ky65 := by
                  unfold skB
                  rw [if_pos (by omega), hH]
                  unfold wtK
                  rw [if_neg (by omega)]
                  funext q9
                  rw [hKy66, hKy53]
                  unfold uZ
                  (repeat' split) <;> first | rfl | omega | (subst_vars; omega)
                have hR : skR tb K9 j ro9 = ro9 := by
                  unfold skR wtR
                  rw [if_pos (by omega), if_neg (by omega)]
                have hO2 := skB_ok (ro := ro9) ht hA9.1 (i := j) (by omega)
                rw [hB, hR] at hO2
                have hs2 : skZ tb j Ky65 (ro9) = skZ tb n K ro := by
                  rw [← hsk]
                  show _ = skZ tb j (skB tb (skA K9 j) j) (skR tb (skA K9 j) j ro9)
                  rw [hA, hB, hR]
                exact ih _ (by omega) ((j : Int) - 1) Ky65 (ro9) ry62 j gy59 rfl hgy61 (fun j j1 => by rw [egy60, va_up_ne _ _ (by omega)]; rw [egy47, va_up_ne _ _ (by omega)]; exact f3 j j1) (fun j a1 => (hfry67 j (by omega) (by omega)).trans (f5 j a1)) (((congrFun hvy63 _).trans ((uZ_n _ _ (by omega)).trans ((congrFun hvy50 _).trans ((uZ_n _ _ (by omega)).trans (rfl))))).trans hn9) hro2 hCy64 hO2.1 (by omega) (by omega) hs2
              · refine z_aload_n C 2 dX10_sinks_118 rfl ?_
                refine z_iload_n C 3 dX10_sinks_119 rfl ?_
                refine z_iload_n C 4 dX10_sinks_120 rfl ?_
                refine z_iload C 0 dX10_sinks_121 rfl ?_
                have hgy68 := up_n egy47 ((f3 _ (by omega)).trans hg) (ne_o (i := i) (c := 0) (d := 1) rfl)
                refine z_cV (As := [.int (zI ((b : Int))), .int (zI ((s : Int))), .int (zI ((K9 (7 * j + 2)) - xy44))]) (rest := []) (ci := 12) C (c_X10_runsOff l D A cs tt N ad _ i hN _ hgy68 _ hgy48 b s p hp (by omega) (by omega) ((K9 (7 * j + 2)) - xy44)) (lt_A0 hN rfl) hay4 hgy68 rfl rfl mv_yX10_runsOff q_1912 hd_yX10_runsOff (by decide) (Nat.le_of_ble_eq_true rfl) (by decide) dX10_sinks_123 rfl (kV0 fun gvy69 hvy69 => ?_)
                obtain ⟨hcvy69, hfvy69⟩ := hvy69
                obtain ⟨ry70, hvy71⟩ : ∃ rZ9 : Nat → Int, rZ9 = uZ ry49 (p + 1) (ry49 (p + 1) + ((K9 (7 * j + 2)) - xy44)) := ⟨_, rfl⟩
                rw [← hvy71] at hcvy69
                have hCy72 := lay_n hCy51 hvy71 (by omega)
                refine z_goto (tgt := 149) C dX10_sinks_126 (by decide) ?_
                refine z_iinc (z := (j : Int) - 1) (lv' := [(3, .int (zI ((j : Int) - 1))), (5, .int (zI ((K9 (7 * j + 2)) - xy44))), (4, .int (zI ((qy7 : Int)))), (0, .ref (ad i)), (1, .int (zI ((b : Int)))), (2, .int (zI ((s : Int))))]) (j := 5) C dX10_sinks_149 rfl (congrArg zI (by omega)) (by decide) rfl ?_
                refine z_goto (tgt := 9) C dX10_sinks_152 (by decide) ?_
                refine z_lv (lv' := [(0, .ref (ad i)), (1, .int (zI ((b : Int)))), (2, .int (zI ((s : Int)))), (3, .int (zI ((j : Int) - 1)))]) [3, 4, 5, 0] rfl ?_
                have hfry73 : ∀ j, j ≠ p + 1 → j ≠ qy7 + 2 → ry70 j = r9 j := fun j n0 n1 => (congrFun hvy71 _).trans ((uZ_n _ _ n0).trans ((congrFun hvy50 _).trans ((uZ_n _ _ n1).trans (rfl))))
                have hb1 : ry49 (p + 1) = ro9 := (((congrFun hvy50 _).trans ((uZ_n _ _ (by omega)).trans (rfl))) : ry49 (p + 1) = r9 (p + 1)).trans hr9
                have hro2 : ry70 (p + 1) = ro9 + ((K9 (7 * j + 2)) - xy44) := by rw [show ry70 (p + 1) = ry49 (p + 1) + ((K9 (7 * j + 2)) - xy44) from ((congrFun hvy71 _).trans (uZ_s _ _ _))]; omega
                have hB : skB tb K9 j = Ky52 := by
                  unfold skB
                  rw [if_pos (by omega), hH]
                  unfold wtK
                  rw [if_pos (by omega)]
                  funext q9
                  rw [hKy53]
                  unfold uZ
                  (repeat' split) <;> first | rfl | omega | (subst_vars; omega)
                have hR : skR tb K9 j ro9 = ro9 + ((K9 (7 * j + 2)) - xy44) := by
                  unfold skR wtR
                  rw [if_pos (by omega), if_pos (by omega)]; omega
                have hO2 := skB_ok (ro := ro9) ht hA9.1 (i := j) (by omega)
                rw [hB, hR] at hO2
                have hs2 : skZ tb j Ky52 (ro9 + ((K9 (7 * j + 2)) - xy44)) = skZ tb n K ro := by
                  rw [← hsk]
                  show _ = skZ tb j (skB tb (skA K9 j) j) (skR tb (skA K9 j) j ro9)
                  rw [hA, hB, hR]
                exact ih _ (by omega) ((j : Int) - 1) Ky52 (ro9 + ((K9 (7 * j + 2)) - xy44)) ry70 j gvy69 rfl hcvy69 (fun j j1 => by rw [hfvy69 _ (by omega)]; rw [egy47, va_up_ne _ _ (by omega)]; exact f3 j j1) (fun j a1 => (hfry73 j (by omega) (by omega)).trans (f5 j a1)) (((congrFun hvy71 _).trans ((uZ_n _ _ (by omega)).trans ((congrFun hvy50 _).trans ((uZ_n _ _ (by omega)).trans (rfl))))).trans hn9) hro2 hCy72 hO2.1 (by omega) (by omega) hs2
            · refine z_goto (tgt := 149) C dX10_sinks_97 (by decide) ?_
              refine z_iinc (z := (j : Int) - 1) (lv' := [(3, .int (zI ((j : Int) - 1))), (5, .int (zI ((K9 (7 * j + 2)) - xy44))), (4, .int (zI ((qy7 : Int)))), (0, .ref (ad i)), (1, .int (zI ((b : Int)))), (2, .int (zI ((s : Int))))]) (j := 5) C dX10_sinks_149 rfl (congrArg zI (by omega)) (by decide) rfl ?_
              refine z_goto (tgt := 9) C dX10_sinks_152 (by decide) ?_
              refine z_lv (lv' := [(0, .ref (ad i)), (1, .int (zI ((b : Int)))), (2, .int (zI ((s : Int)))), (3, .int (zI ((j : Int) - 1)))]) [3, 4, 5, 0] rfl ?_
              have hro2 : r9 (p + 1) = ro9 := ((rfl) : r9 (p + 1) = r9 (p + 1)).trans hr9
              have hB : skB tb K9 j = K9 := by unfold skB; rw [if_neg (by omega)]
              have hR : skR tb K9 j ro9 = ro9 := by unfold skR; rw [if_neg (by omega)]
              have hs2 : skZ tb j K9 (ro9) = skZ tb n K ro := by
                rw [← hsk]
                show _ = skZ tb j (skB tb (skA K9 j) j) (skR tb (skA K9 j) j ro9)
                rw [hA, hB, hR]
              exact ih _ (by omega) ((j : Int) - 1) K9 (ro9) r9 j g1 rfl f2 (fun j j1 => by exact f3 j j1) (f5) hn9 hro2 hC9 hA9.1 (by omega) (by omega) hs2
          · refine z_aload_n C 1 dX10_sinks_45 rfl ?_
            refine z_iload C 0 dX10_sinks_46 rfl ?_
            refine z_cV (As := [.int (zI ((qy7 : Int)))]) (rest := []) (ci := 12) C (c_uFreezes l D A cs tt N ad _ i hN _ ((f3 _ (by omega)).trans hg) _ f2 p n j qy7 K9 hC9 hO9 (by omega) (by omega) (by omega)) (lt_A0 hN rfl) hay4 ((f3 _ (by omega)).trans hg) rfl rfl mv_yX10_freezes q_1932 hd_yX10_freezes (by decide) (Nat.le_of_ble_eq_true rfl) (by decide) dX10_sinks_48 rfl (kV0 fun gvy74 hvy74 => ?_)
            obtain ⟨⟨rvy74, hcvy74, hxvy74, hyvy74⟩, hfvy74⟩ := hvy74
            obtain ⟨Ky75, hKy76⟩ : ∃ KZ9 : Nat → Int, KZ9 = frZ K9 j := ⟨_, rfl⟩
            rw [← hKy76] at hxvy74
            have hOy77 := okP.frz hO9 (i := j) (by omega)
            rw [← hKy76] at hOy77
            have hA : skA K9 j = Ky75 := by unfold skA; rw [if_pos ⟨by omega, by omega⟩, hKy76]
            rw [hA] at hA9
            have hHb := skH_b ht hA9.1 (i := j) (by omega)
            obtain ⟨⟨qy780, qy781, qy782, qy783, qy784, qy785, qy786⟩, qy789⟩ := hOy77.1.ly (l := j) (by omega)
            refine z_aload_n C 1 dX10_sinks_51 rfl ?_
            have hgy79 := (hfvy74 (i) (ne_o (i := i) (c := 0) (d := 1) rfl)).trans ((f3 _ (by omega)).trans hg)
            refine z_get (v := .ref (ad (i + 1))) C (lt_A0 hN rfl) hay4 hgy79 rfl inA_X10 0 (by decide) q_1459 rfl rfl dX10_sinks_52 ?_
            refine z_iload C 0 dX10_sinks_55 rfl ?_
            refine z_iconst (z := 2) C dX10_sinks_57 rfl ?_
            refine z_iadd C dX10_sinks_58 ?_
            refine z_iald C (lt_A (c := 1) hN rfl) hay5 hcvy74 (qy7 + 2) (by omega) (by omega) (by decide) dX10_sinks_59 ?_
            rw [show rvy74 (qy7 + 2) = Ky75 (7 * j + 2) from (congrArg rvy74 (show qy7 + 2 = p + 2 + (7 * j + 2) by omega)).trans (hxvy74 (7 * j + 2) (by omega))]
            refine z_aload_n C 1 dX10_sinks_60 rfl ?_
            refine z_get (v := .ref (ad (i + 1))) C (lt_A0 hN rfl) hay4 hgy79 rfl inA_X10 0 (by decide) q_1459 rfl rfl dX10_sinks_61 ?_
            refine z_iload C 0 dX10_sinks_64 rfl ?_
            refine z_iconst (z := 1) C dX10_sinks_66 rfl ?_
            refine z_iadd C dX10_sinks_67 ?_
            refine z_iald C (lt_A (c := 1) hN rfl) hay5 hcvy74 (qy7 + 1) (by omega) (by omega) (by decide) dX10_sinks_68 ?_
            rw [show rvy74 (qy7 + 1) = Ky75 (7 * j + 1) from (congrArg rvy74 (show qy7 + 1 = p + 2 + (7 * j + 1) by omega)).trans (hxvy74 (7 * j + 1) (by omega))]
            refine z_aload_n C 1 dX10_sinks_69 rfl ?_
            refine z_get (v := .ref (ad (i + 7))) C (lt_A0 hN rfl) hay4 hgy79 rfl inA_X10 6 (by decide) q_1465 rfl rfl dX10_sinks_70 ?_
            refine z_iconst (z := 5) C dX10_sinks_73 rfl ?_
            refine z_aload_n C 1 dX10_sinks_74 rfl ?_
            refine z_get (v := .ref (ad (i + 1))) C (lt_A0 hN rfl) hay4 hgy79 rfl inA_X10 0 (by decide) q_1459 rfl rfl dX10_sinks_75 ?_
            refine z_iload C 0 dX10_sinks_78 rfl ?_
            refine z_iconst (z := 0) C dX10_sinks_80 rfl ?_
            refine z_iadd C dX10_sinks_81 ?_
            refine z_iald C (lt_A (c := 1) hN rfl) hay5 hcvy74 (qy7) (by omega) (by omega) (by decide) dX10_sinks_82 ?_
            rw [show rvy74 (qy7) = Ky75 (7 * j) from (congrArg rvy74 (show qy7 = p + 2 + (7 * j + 0) by omega)).trans (hxvy74 (7 * j + 0) (by omega))]
            refine z_iadd C dX10_sinks_83 ?_
            have hgy80 := (hfvy74 (i + 7) (ne_o (i := i) (c := 7) (d := 1) rfl)).trans ((f3 _ (by omega)).trans ha7)
            refine z_iald C (lt_A (c := 7) hN rfl) hay6 hgy80 ((5 + (Ky75 (7 * j))).toNat) (by omega) (by omega) (by decide) dX10_sinks_84 ?_
            have htby81 := ht.1 ((5 + (Ky75 (7 * j))).toNat) (by omega)
            refine z_imul C dX10_sinks_85 ?_
            refine z_bipush (z := 100) C dX10_sinks_86 (by decide) ?_
            refine z_idiv C dX10_sinks_88 (by omega) (by omega) (by omega) ?_
            obtain ⟨xy82, exy82, hxy82⟩ : ∃ x9, ((Ky75 (7 * j + 1)) * (tb ((5 + (Ky75 (7 * j))).toNat))).tdiv 100 = x9 ∧ (0 ≤ (Ky75 (7 * j + 1)) * (tb ((5 + (Ky75 (7 * j))).toNat)) → 0 ≤ x9 ∧ 100 * x9 ≤ (Ky75 (7 * j + 1)) * (tb ((5 + (Ky75 (7 * j))).toNat)) ∧ (Ky75 (7 * j + 1)) * (tb ((5 + (Ky75 (7 * j))).toNat)) < 100 * x9 + 100) ∧ ((Ky75 (7 * j + 1)) * (tb ((5 + (Ky75 (7 * j))).toNat)) ≤ 0 → x9 ≤ 0 ∧ (Ky75 (7 * j + 1)) * (tb ((5 + (Ky75 (7 * j))).toNat)) ≤ 100 * x9 ∧ 100 * x9 < (Ky75 (7 * j + 1)) * (tb ((5 + (Ky75 (7 * j))).toNat)) + 100) := tdk 100 (by decide)
            rw [exy82]
            have hH : skH tb Ky75 j = xy82 := exy82
            rw [hH] at hHb
            refine z_isub C dX10_sinks_89 ?_
            refine z_istore (lv' := [(5, .int (zI ((Ky75 (7 * j + 2)) - xy82))), (4, .int (zI ((qy7 : Int)))), (0, .ref (ad i)), (1, .int (zI ((b : Int)))), (2, .int (zI ((s : Int)))), (3, .int (zI ((j : Int))))]) C dX10_sinks_90 (by decide) rfl ?_
            refine z_iload C 0 dX10_sinks_92 rfl ?_
            refine z_if_gt (tgt := 100) C dX10_sinks_94 (by decide) (by omega) (fun hby83 => ?_) (fun hby83 => ?_)
            · refine z_aload_n C 2 dX10_sinks_100 rfl ?_
              refine z_get (v := .ref (ad (i + 1))) C (lt_A0 hN rfl) hay4 hgy79 rfl inA_X10 0 (by decide) q_1459 rfl rfl dX10_sinks_101 ?_
              refine z_iload C 1 dX10_sinks_104 rfl ?_
              refine z_iconst (z := 2) C dX10_sinks_106 rfl ?_
              refine z_iadd C dX10_sinks_107 ?_
              refine z_dup2 C dX10_sinks_108 rfl rfl ?_
              refine z_iald C (lt_A (c := 1) hN rfl) hay5 hcvy74 (qy7 + 2) (by omega) (by omega) (by decide) dX10_sinks_109 ?_
              rw [show rvy74 (qy7 + 2) = Ky75 (7 * j + 2) from (congrArg rvy74 (show qy7 + 2 = p + 2 + (7 * j + 2) by omega)).trans (hxvy74 (7 * j + 2) (by omega))]
              refine z_iload C 0 dX10_sinks_110 rfl ?_
              refine z_isub C dX10_sinks_112 ?_
              refine z_iast C (lt_A (c := 1) hN rfl) hay5 hcvy74 (qy7 + 2) (by omega) (by omega) (by decide) dX10_sinks_113 (fun gy84 egy85 => ?_)
              have hgy86 := up_s egy85
              obtain ⟨ry87, hvy88⟩ : ∃ rZ9 : Nat → Int, rZ9 = uZ rvy74 (qy7 + 2) ((Ky75 (7 * j + 2)) - ((Ky75 (7 * j + 2)) - xy82)) := ⟨_, rfl⟩
              rw [← hvy88] at hgy86
              obtain ⟨Ky90, hKy91⟩ : ∃ KZ9 : Nat → Int, KZ9 = uZ Ky75 (7 * j + 2) ((Ky75 (7 * j + 2)) - ((Ky75 (7 * j + 2)) - xy82)) := ⟨_, rfl⟩
              have hCy89 := lay_r hxvy74 hvy88 hKy91 (by omega)
              refine z_iload_n C 5 dX10_sinks_114 rfl ?_
              refine z_if_ne (tgt := 129) C dX10_sinks_115 (by decide) (by omega) (fun hby92 => ?_) (fun hby92 => ?_)
              · refine z_aload_n C 2 dX10_sinks_129 rfl ?_
                have hgy93 := up_n egy85 hgy79 (ne_o (i := i) (c := 0) (d := 1) rfl)
                refine z_get (v := .ref (ad (i + 1))) C (lt_A0 hN rfl) hay4 hgy93 rfl inA_X10 0 (by decide) q_1459 rfl rfl dX10_sinks_130 ?_
                refine z_iload_n C 3 dX10_sinks_133 rfl ?_
                refine z_iload_n C 4 dX10_sinks_134 rfl ?_
                refine z_iload_n C 5 dX10_sinks_135 rfl ?_
                refine z_iconst (z := 1) C dX10_sinks_136 rfl ?_
                refine z_isub C dX10_sinks_137 ?_
                have hqy94k : (((j : Int)) - 1 : Int) = (((j - 1) : Nat) : Int) := by omega
                obtain ⟨qy94, hqy94⟩ : ∃ q9 : Nat, p + 2 + 7 * (j - 1) = q9 := ⟨_, rfl⟩
                refine z_cS (As := [.int (zI ((b : Int))), .int (zI ((s : Int))), .int (zI (((j : Int)) - 1))]) (rest := [.ref (ad (i + 1))]) C (c_X10_at l D A cs tt N ad _ ((b : Int)) (by omega) ((s : Int)) (by omega) (((j : Int)) - 1) (by omega)) ms_yX10_at q_1753 hd_yX10_at (by decide) (Nat.le_of_ble_eq_true rfl) (by decide) dX10_sinks_138 rfl (kI0 fun vy95 gvy95 hvy95 => ?_)
                obtain ⟨hvy95, rfl⟩ := hvy95
                rw [show vy95 = (qy94 : Int) by omega]
                refine z_iconst (z := 2) C dX10_sinks_141 rfl ?_
                refine z_iadd C dX10_sinks_142 ?_
                refine z_dup2 C dX10_sinks_143 rfl rfl ?_
                refine z_iald C (lt_A (c := 1) hN rfl) hay5 hgy86 (qy94 + 2) (by omega) (by omega) (by decide) dX10_sinks_144 ?_
                rw [show ry87 (qy94 + 2) = r9 (qy94 + 2) from (congrFun hvy88 _).trans ((uZ_n _ _ (by omega)).trans ((hyvy74 _ (by omega) (by omega) (by omega) (by omega)).trans (rfl)))]
                rw [show r9 (qy94 + 2) = K9 (7 * (j - 1) + 2) from (congrArg r9 (show qy94 + 2 = p + 2 + (7 * (j - 1) + 2) by omega)).trans (hC9 (7 * (j - 1) + 2) (by omega))]
                obtain ⟨⟨qy960, qy961, qy962, qy963, qy964, qy965, qy966⟩, qy969⟩ := hO9.ly (l := (j - 1)) (by omega)
                refine z_iload C 0 dX10_sinks_145 rfl ?_
                refine z_iadd C dX10_sinks_147 ?_
                refine z_iast C (lt_A (c := 1) hN rfl) hay5 hgy86 (qy94 + 2) (by omega) (by omega) (by decide) dX10_sinks_148 (fun gy97 egy98 => ?_)
                have hgy99 := up_s egy98
                obtain ⟨ry100, hvy101⟩ : ∃ rZ9 : Nat → Int, rZ9 = uZ ry87 (qy94 + 2) ((K9 (7 * (j - 1) + 2)) + ((Ky75 (7 * j + 2)) - xy82)) := ⟨_, rfl⟩
                rw [← hvy101] at hgy99
                obtain ⟨Ky103, hKy104⟩ : ∃ KZ9 : Nat → Int, KZ9 = uZ Ky90 (7 * (j - 1) + 2) ((K9 (7 * (j - 1) + 2)) + ((Ky75 (7 * j + 2)) - xy82)) := ⟨_, rfl⟩
                have hCy102 := lay_r hCy89 hvy101 hKy104 (by omega)
                refine z_iinc (z := (j : Int) - 1) (lv' := [(3, .int (zI ((j : Int) - 1))), (5, .int (zI ((Ky75 (7 * j + 2)) - xy82))), (4, .int (zI ((qy7 : Int)))), (0, .ref (ad i)), (1, .int (zI ((b : Int)))), (2, .int (zI ((s : Int))))]) (j := 5) C dX10_sinks_149 rfl (congrArg zI (by omega)) (by decide) rfl ?_
                refine z_goto (tgt := 9) C dX10_sinks_152 (by decide) ?_
                refine z_lv (lv' := [(0, .ref (ad i)), (1, .int (zI ((b : Int)))), (2, .int (zI ((s : Int)))), (3, .int (zI ((j : Int) - 1)))]) [3, 4, 5, 0] rfl ?_
                have hfry105 : ∀ j, j ≠ qy94 + 2 → j ≠ qy7 + 2 → j ≠ qy7 → j ≠ qy7 + 1 → j ≠ qy7 + 4 → ry100 j = r9 j := fun j n0 n1 n2 n3 n4 => (congrFun hvy101 _).trans ((uZ_n _ _ n0).trans ((congrFun hvy88 _).trans ((uZ_n _ _ n1).trans ((hyvy74 _ n2 n3 n1 n4).trans (rfl)))))
                have hro2 : ry100 (p + 1) = ro9 := ((((congrFun hvy101 _).trans ((uZ_n _ _ (by omega)).trans ((congrFun hvy88 _).trans ((uZ_n _ _ (by omega)).trans ((hyvy74 _ (by omega) (by omega) (by omega) (by omega)).trans (rfl))))))) : ry100 (p + 1) = r9 (p + 1)).trans hr9
                have hfo : Ky75 (7 * (j - 1) + 2) = K9 (7 * (j - 1) + 2) := by rw [hKy76]; unfold frZ; rw [if_neg (by omega), if_neg (by omega), if_neg (by omega), if_neg (by omega)]
                have hB : skB tb Ky75 j = Ky103 := by
                  unfold skB
                  rw [if_pos (by omega), hH]
                  unfold wtK
                  rw [if_neg (by omega)]
                  funext q9
                  rw [hKy104, hKy91]
                  unfold uZ
                  (repeat' split) <;> first | rfl | omega | (subst_vars; omega)
                have hR : skR tb Ky75 j ro9 = ro9 := by
                  unfold skR wtR
                  rw [if_pos (by omega), if_neg (by omega)]
                have hO2 := skB_ok (ro := ro9) ht hA9.1 (i := j) (by omega)
                rw [hB, hR] at hO2
                have hs2 : skZ tb j Ky103 (ro9) = skZ tb n K ro := by
                  rw [← hsk]
                  show _ = skZ tb j (skB tb (skA K9 j) j) (skR tb (skA K9 j) j ro9)
                  rw [hA, hB, hR]
                exact ih _ (by omega) ((j : Int) - 1) Ky103 (ro9) ry100 j gy97 rfl hgy99 (fun j j1 => by rw [egy98, va_up_ne _ _ (by omega)]; rw [egy85, va_up_ne _ _ (by omega)]; rw [hfvy74 _ (by omega)]; exact f3 j j1) (fun j a1 => (hfry105 j (by omega) (by omega) (by omega) (by omega) (by omega)).trans (f5 j a1)) (((congrFun hvy101 _).trans ((uZ_n _ _ (by omega)).trans ((congrFun hvy88 _).trans ((uZ_n _ _ (by omega)).trans ((hyvy74 _ (by omega) (by omega) (by omega) (by omega)).trans (rfl)))))).trans hn9) hro2 hCy102 hO2.1 (by omega) (by omega) hs2
              · refine z_aload_n C 2 dX10_sinks_118 rfl ?_
                refine z_iload_n C 3 dX10_sinks_119 rfl ?_
                refine z_iload_n C 4 dX10_sinks_120 rfl ?_
                refine z_iload C 0 dX10_sinks_121 rfl ?_
                have hgy106 := up_n egy85 hgy79 (ne_o (i := i) (c := 0) (d := 1) rfl)
                refine z_cV (As := [.int (zI ((b : Int))), .int (zI ((s : Int))), .int (zI ((Ky75 (7 * j + 2)) - xy82))]) (rest := []) (ci := 12) C (c_X10_runsOff l D A cs tt N ad _ i hN _ hgy106 _ hgy86 b s p hp (by omega) (by omega) ((Ky75 (7 * j + 2)) - xy82)) (lt_A0 hN rfl) hay4 hgy106 rfl rfl mv_yX10_runsOff q_1912 hd_yX10_runsOff (by decide) (Nat.le_of_ble_eq_true rfl) (by decide) dX10_sinks_123 rfl (kV0 fun gvy107 hvy107 => ?_)
                obtain ⟨hcvy107, hfvy107⟩ := hvy107
                obtain ⟨ry108, hvy109⟩ : ∃ rZ9 : Nat → Int, rZ9 = uZ ry87 (p + 1) (ry87 (p + 1) + ((Ky75 (7 * j + 2)) - xy82)) := ⟨_, rfl⟩
                rw [← hvy109] at hcvy107
                have hCy110 := lay_n hCy89 hvy109 (by omega)
                refine z_goto (tgt := 149) C dX10_sinks_126 (by decide) ?_
                refine z_iinc (z := (j : Int) - 1) (lv' := [(3, .int (zI ((j : Int) - 1))), (5, .int (zI ((Ky75 (7 * j + 2)) - xy82))), (4, .int (zI ((qy7 : Int)))), (0, .ref (ad i)), (1, .int (zI ((b : Int)))), (2, .int (zI ((s : Int))))]) (j := 5) C dX10_sinks_149 rfl (congrArg zI (by omega)) (by decide) rfl ?_
                refine z_goto (tgt := 9) C dX10_sinks_152 (by decide) ?_
                refine z_lv (lv' := [(0, .ref (ad i)), (1, .int (zI ((b : Int)))), (2, .int (zI ((s : Int)))), (3, .int (zI ((j : Int) - 1)))]) [3, 4, 5, 0] rfl ?_
                have hfry111 : ∀ j, j ≠ p + 1 → j ≠ qy7 + 2 → j ≠ qy7 → j ≠ qy7 + 1 → j ≠ qy7 + 4 → ry108 j = r9 j := fun j n0 n1 n2 n3 n4 => (congrFun hvy109 _).trans ((uZ_n _ _ n0).trans ((congrFun hvy88 _).trans ((uZ_n _ _ n1).trans ((hyvy74 _ n2 n3 n1 n4).trans (rfl)))))
                have hb1 : ry87 (p + 1) = ro9 := (((congrFun hvy88 _).trans ((uZ_n _ _ (by omega)).trans ((hyvy74 _ (by omega) (by omega) (by omega) (by omega)).trans (rfl)))) : ry87 (p + 1) = r9 (p + 1)).trans hr9
                have hro2 : ry108 (p + 1) = ro9 + ((Ky75 (7 * j + 2)) - xy82) := by rw [show ry108 (p + 1) = ry87 (p + 1) + ((Ky75 (7 * j + 2)) - xy82) from ((congrFun hvy109 _).trans (uZ_s _ _ _))]; omega
                have hB : skB tb Ky75 j = Ky90 := by
                  unfold skB
                  rw [if_pos (by omega), hH]
                  unfold wtK
                  rw [if_pos (by omega)]
                  funext q9
                  rw [hKy91]
                  unfold uZ
                  (repeat' split) <;> first | rfl | omega | (subst_vars; omega)
                have hR : skR tb Ky75 j ro9 = ro9 + ((Ky75 (7 * j + 2)) - xy82) := by
                  unfold skR wtR
                  rw [if_pos (by omega), if_pos (by omega)]; omega
                have hO2 := skB_ok (ro := ro9) ht hA9.1 (i := j) (by omega)
                rw [hB, hR] at hO2
                have hs2 : skZ tb j Ky90 (ro9 + ((Ky75 (7 * j + 2)) - xy82)) = skZ tb n K ro := by
                  rw [← hsk]
                  show _ = skZ tb j (skB tb (skA K9 j) j) (skR tb (skA K9 j) j ro9)
                  rw [hA, hB, hR]
                exact ih _ (by omega) ((j : Int) - 1) Ky90 (ro9 + ((Ky75 (7 * j + 2)) - xy82)) ry108 j gvy107 rfl hcvy107 (fun j j1 => by rw [hfvy107 _ (by omega)]; rw [egy85, va_up_ne _ _ (by omega)]; rw [hfvy74 _ (by omega)]; exact f3 j j1) (fun j a1 => (hfry111 j (by omega) (by omega) (by omega) (by omega) (by omega)).trans (f5 j a1)) (((congrFun hvy109 _).trans ((uZ_n _ _ (by omega)).trans ((congrFun hvy88 _).trans ((uZ_n _ _ (by omega)).trans ((hyvy74 _ (by omega) (by omega) (by omega) (by omega)).trans (rfl)))))).trans hn9) hro2 hCy110 hO2.1 (by omega) (by omega) hs2
            · refine z_goto (tgt := 149) C dX10_sinks_97 (by decide) ?_
              refine z_iinc (z := (j : Int) - 1) (lv' := [(3, .int (zI ((j : Int) - 1))), (5, .int (zI ((Ky75 (7 * j + 2)) - xy82))), (4, .int (zI ((qy7 : Int)))), (0, .ref (ad i)), (1, .int (zI ((b : Int)))), (2, .int (zI ((s : Int))))]) (j := 5) C dX10_sinks_149 rfl (congrArg zI (by omega)) (by decide) rfl ?_
              refine z_goto (tgt := 9) C dX10_sinks_152 (by decide) ?_
              refine z_lv (lv' := [(0, .ref (ad i)), (1, .int (zI ((b : Int)))), (2, .int (zI ((s : Int)))), (3, .int (zI ((j : Int) - 1)))]) [3, 4, 5, 0] rfl ?_
              have hfry112 : ∀ j, j ≠ qy7 → j ≠ qy7 + 1 → j ≠ qy7 + 2 → j ≠ qy7 + 4 → rvy74 j = r9 j := fun j n0 n1 n2 n3 => (hyvy74 _ n0 n1 n2 n3).trans (rfl)
              have hro2 : rvy74 (p + 1) = ro9 := ((((hyvy74 _ (by omega) (by omega) (by omega) (by omega)).trans (rfl))) : rvy74 (p + 1) = r9 (p + 1)).trans hr9
              have hB : skB tb Ky75 j = Ky75 := by unfold skB; rw [if_neg (by omega)]
              have hR : skR tb Ky75 j ro9 = ro9 := by unfold skR; rw [if_neg (by omega)]
              have hs2 : skZ tb j Ky75 (ro9) = skZ tb n K ro := by
                rw [← hsk]
                show _ = skZ tb j (skB tb (skA K9 j) j) (skR tb (skA K9 j) j ro9)
                rw [hA, hB, hR]
              exact ih _ (by omega) ((j : Int) - 1) Ky75 (ro9) rvy74 j gvy74 rfl hcvy74 (fun j j1 => by rw [hfvy74 _ (by omega)]; exact f3 j j1) (fun j a1 => (hfry112 j (by omega) (by omega) (by omega) (by omega)).trans (f5 j a1)) (((hyvy74 _ (by omega) (by omega) (by omega) (by omega)).trans (rfl)).trans hn9) hro2 hxvy74 hA9.1 (by omega) (by omega) hs2
  refine z_aload_n C 0 dX10_sinks_0 rfl ?_
  refine z_iload_n C 1 dX10_sinks_1 rfl ?_
  refine z_iload_n C 2 dX10_sinks_2 rfl ?_
  refine z_cV (As := [.int (zI ((b : Int))), .int (zI ((s : Int)))]) (rest := []) (ci := 12) C (c_X10_many l D A cs tt N ad _ i hN _ hg _ ha1 b s p hp (by omega) (by omega)) (lt_A0 hN rfl) hay1 hg rfl rfl mv_yX10_many q_1733 hd_yX10_many (by decide) (Nat.le_of_ble_eq_true rfl) (by decide) dX10_sinks_3 rfl (kI0 fun vy113 gvy113 hvy113 => ?_)
  obtain ⟨rfl, rfl⟩ := hvy113
  rw [show r (p) = (n : Int) from hn]
  refine z_iconst (z := 1) C dX10_sinks_6 rfl ?_
  refine z_isub C dX10_sinks_7 ?_
  refine z_istore_n (lv' := [(3, .int (zI (((n : Int)) - 1))), (0, .ref (ad i)), (1, .int (zI ((b : Int)))), (2, .int (zI ((s : Int))))]) C dX10_sinks_8 rfl (by decide) rfl ?_
  refine z_lv (lv' := [(0, .ref (ad i)), (1, .int (zI ((b : Int)))), (2, .int (zI ((s : Int)))), (3, .int (zI (((n : Int)) - 1)))]) [1, 2, 3, 0] rfl ?_
  exact lp _ (((n : Int)) - 1) K ro r n g rfl ha1 (fun j j1 => by rfl) (fun j _ => rfl) hn hro hC hO (by omega) (Nat.le_refl _) rfl

theorem prs2_ok {tb C : Nat → Int} {n k : Nat} (ht : okTb tb) (h : okP C n) (hd : dZ C n + sZ C n ≤ 400000000) (hk : k ≤ n) : okP (stK C k 3 0 (fun l => prZ tb C n l)) n ∧ (∀ l, l < n → mZ (stK C k 3 0 (fun l => prZ tb C n l)) l = mZ C l) := by
  have hm : ∀ l, l < n → mZ (stK C k 3 0 (fun l => prZ tb C n l)) l = mZ C l := by
    intro l hl
    unfold mZ
    rw [stK_o (Or.inl (by omega)), stK_o (Or.inl (by omega))]
  have h3 : ∀ l, l < n → 1 ≤ stK C k 3 0 (fun l => prZ tb C n l) (7 * l + 3) ∧ stK C k 3 0 (fun l => prZ tb C n l) (7 * l + 3) ≤ C (7 * l + 3) + mZ C l := by
    intro l hl
    have h0 := h.ly hl
    have h9 := h.mz hl
    have h8 := prZ_b ht h hl
    by_cases e : l < k
    · rw [stK_s (by decide) (Nat.zero_le _) e]
      exact ⟨h8.1.1, h8.2⟩
    · rw [stK_o (Or.inr (Or.inr (by omega)))]
      omega
  have hz : ∀ m, m ≤ n → dZ (stK C k 3 0 (fun l => prZ tb C n l)) m ≤ dZ C m + sZ C m := by
    intro m
    induction m with
    | zero => intro _; exact Int.le_refl 0
    | succ m ih =>
      intro hk
      have h1 := ih (by omega)
      have h2 := (h3 m (by omega)).2
      show dZ _ m + stK C k 3 0 (fun l => prZ tb C n l) (7 * m + 3) ≤ dZ C m + C (7 * m + 3) + (sZ C m + mZ C m)
      omega
  have hs := sZ_e hm n (Nat.le_refl _)
  refine ⟨⟨h.1, fun l hl => ?_, by have := h.2.2.1; omega, by have := hz n (Nat.le_refl _); omega⟩, hm⟩
  have h9 := h.2.1 l hl
  have h8 := (h3 l hl).1
  unfold lyP at *
  rw [stK_o (q := 7 * l) (Or.inl (by omega)), stK_o (q := 7 * l + 1) (Or.inl (by omega)), stK_o (q := 7 * l + 2) (Or.inl (by omega)), stK_o (q := 7 * l + 4) (Or.inl (by omega)), stK_o (q := 7 * l + 5) (Or.inl (by omega)), stK_o (q := 7 * l + 6) (Or.inl (by omega))]
  omega

set_option maxRecDepth 100000 in
set_option maxHeartbeats 4000000 in
theorem c_uLoad (l : Launch) (D : va_G) (A : Nat → Prop) (cs : Nat → ClassId) (tt : Nat) (N : Nat) (ad : Nat → Nat) (g : Nat → va_E) (i : Nat) (hN : i + 30 ≤ N) (F : Nat → Int) (hg : g i = mC ad i F) (r : Nat → Int) (ha1 : g (i + 1) = iA cs 29200 r) (b s p : Nat) (hp : b + 6 + 86 * s = p) (hb : b + 350 ≤ 29200) (hs : s < 4) (n : Nat) (K : Nat → Int) (hn : r p = (n : Int)) (hC : ∀ q, q < 7 * n → r (p + 2 + q) = K q) (hO : okP K n) (zl : Int) (k q : Nat) (hk : zl = (k : Int)) (hq : p + 2 + 7 * k = q) (hkn : k < n) : zM l yX10_load cX10_load 4 (some .int) ({ frames := 5, cells := 0, slots := 0, locals := 300 } : Room) D A cs tt N ad g [.ref (ad i), .int (zI ((b : Int))), .int (zI ((s : Int))), .int (zI (zl))] (rI0 N ad fun z g' => z = abZ K n k + (mZ K k).tdiv 2 ∧ g = g') := by
  have hay1 : zAt ad (i) (ad i) := rfl
  have hay2 : zAt ad (i + 1) (ad (i + 1)) := rfl
  have hn12 := hO.1
  refine z_of (by decide) (Nat.le_of_ble_eq_true rfl) ?_
  intro pY eY sY mY below meth cY C hr hlk hnm
  refine z_lv (lv' := [(0, .ref (ad i)), (1, .int (zI ((b : Int)))), (2, .int (zI ((s : Int)))), (3, .int (zI (zl)))]) [0, 1, 2, 3] rfl ?_
  refine z_aload_n C 0 dX10_load_0 rfl ?_
  refine z_iload_n C 1 dX10_load_1 rfl ?_
  refine z_iload_n C 2 dX10_load_2 rfl ?_
  refine z_iload_n C 3 dX10_load_3 rfl ?_
  refine z_cV (As := [.int (zI ((b : Int))), .int (zI ((s : Int))), .int (zI (zl))]) (rest := []) (ci := 12) C (c_uAbove l D A cs tt N ad _ i hN _ hg _ ha1 b s p hp (by omega) (by omega) n K hn hC hO (zl) k q (by omega) hq (by omega)) (lt_A0 hN rfl) hay1 hg rfl rfl mv_yX10_above q_1780 hd_yX10_above (by decide) (Nat.le_of_ble_eq_true rfl) (by decide) dX10_load_4 rfl (kI0 fun vy3 gvy3 hvy3 => ?_)
  obtain ⟨rfl, rfl⟩ := hvy3
  have hmy4 := abZ_b hO (l := k) (by omega)
  refine z_aload_n C 0 dX10_load_7 rfl ?_
  refine z_iload_n C 1 dX10_load_8 rfl ?_
  refine z_iload_n C 2 dX10_load_9 rfl ?_
  refine z_iload_n C 3 dX10_load_10 rfl ?_
  refine z_cV (As := [.int (zI ((b : Int))), .int (zI ((s : Int))), .int (zI (zl))]) (rest := [.int (zI (abZ K n k))]) (ci := 12) C (c_uWeight l D A cs tt N ad _ i hN _ hg _ ha1 b s p hp (by omega) (by omega) n K hn hC hO (zl) k q (by omega) hq (by omega)) (lt_A0 hN rfl) hay1 hg rfl rfl mv_yX10_weight q_1784 hd_yX10_weight (by decide) (Nat.le_of_ble_eq_true rfl) (by decide) dX10_load_11 rfl (kI0 fun vy5 gvy5 hvy5 => ?_)
  obtain ⟨rfl, rfl⟩ := hvy5
  have hmy6 := hO.mz (l := k) (by omega)
  refine z_iconst (z := 2) C dX10_load_14 rfl ?_
  refine z_idiv C dX10_load_15 (by omega) (by omega) (by omega) ?_
  obtain ⟨xy7, exy7, hxy7⟩ : ∃ x9, (mZ K k).tdiv 2 = x9 ∧ (0 ≤ mZ K k → 0 ≤ x9 ∧ 2 * x9 ≤ mZ K k ∧ mZ K k < 2 * x9 + 2) ∧ (mZ K k ≤ 0 → x9 ≤ 0 ∧ mZ K k ≤ 2 * x9 ∧ 2 * x9 < mZ K k + 2) := tdk 2 (by decide)
  rw [exy7]
  rw [← exy7]
  refine z_iadd C dX10_load_16 ?_
  exact z_iret C hr hlk dX10_load_17 (by decide) (by decide) ⟨_, rfl, rfl, rfl, rfl, rfl⟩

set_option maxRecDepth 100000 in
set_option maxHeartbeats 4000000 in
theorem c_uPresses (l : Launch) (D : va_G) (A : Nat → Prop) (cs : Nat → ClassId) (tt : Nat) (N : Nat) (ad : Nat → Nat) (g : Nat → va_E) (i : Nat) (hN : i + 30 ≤ N) (F : Nat → Int) (hg : g i = mC ad i F) (r : Nat → Int) (ha1 : g (i + 1) = iA cs 29200 r) (tb : Nat → Int) (ha7 : g (i + 7) = iA cs 15 tb) (b s p : Nat) (hp : b + 6 + 86 * s = p) (hb : b + 350 ≤ 29200) (hs : s < 4) (n : Nat) (K : Nat → Int) (hn : r p = (n : Int)) (hC : ∀ q, q < 7 * n → r (p + 2 + q) = K q) (hO : okP K n) (ro : Int) (hro : r (p + 1) = ro) (ht : okTb tb) (hdz : dZ K n + sZ K n ≤ 400000000) : zM l yX10_presses cX10_presses 10 none ({ frames := 6, cells := 0, slots := 0, locals := 360 } : Room) D A cs tt N ad g [.ref (ad i), .int (zI ((b : Int))), .int (zI ((s : Int)))] (rV0 N ad fun g' => (∃ r' : Nat → Int, g' (i + 1) = iA cs 29200 r' ∧ isS r' p ((n, stK K n 3 0 (fun l => prZ tb K n l), ro)) ∧ (∀ j, j < p ∨ p + 86 ≤ j → r' j = r j)) ∧ ∀ j, j ≠ i + 1 → g' j = g j) := by
  have hay1 : zAt ad (i) (ad i) := rfl
  have hay2 : zAt ad (i + 1) (ad (i + 1)) := rfl
  have hay3 : zAt ad (i + 7) (ad (i + 7)) := rfl
  have hn12 := hO.1
  refine z_of (by decide) (Nat.le_of_ble_eq_true rfl) ?_
  intro pY eY sY mY below meth cY C hr hlk hnm
  refine z_lv (lv' := [(0, .ref (ad i)), (1, .int (zI ((b : Int)))), (2, .int (zI ((s : Int))))]) [0, 1, 2] rfl ?_
  have lp : ∀ (n9 : Nat) (ll : Int) (K9 : Nat → Int) (r9 : Nat → Int) (k : Nat) (g1 : Nat → va_E), (13 - ll).toNat = n9 → (g1 (i + 1) = iA cs 29200 r9) → (∀ j, j ≠ i + 1 → g1 j = g j) → (∀ j, j < p ∨ p + 86 ≤ j → r9 j = r j) → (r9 p = (n : Int)) → (r9 (p + 1) = ro) → (∀ q, q < 7 * n → r9 (p + 2 + q) = K9 q) → (okP K9 n) → (ll = (k : Int)) → (k ≤ n) → (K9 = stK K k 3 0 (fun l => prZ tb K n l)) → zV pY l eY ({ frames := 6, cells := 0, slots := 0, locals := 360 } : Room) sY mY ([.ref (ad i), .int (zI ((b : Int))), .int (zI ((s : Int)))] : List Value).toArray below meth cY (MQ below (zPost D A (rV0 N ad fun g' => (∃ r' : Nat → Int, g' (i + 1) = iA cs 29200 r' ∧ isS r' p ((n, stK K n 3 0 (fun l => prZ tb K n l), ro)) ∧ (∀ j, j < p ∨ p + 86 ≤ j → r' j = r j)) ∧ ∀ j, j ≠ i + 1 → g' j = g j)) ([.ref (ad i), .int (zI ((b : Int))), .int (zI ((s : Int)))] : List Value).toArray sY ({ frames := 6, cells := 0, slots := 0, locals := 360 } : Room).cells ({ frames := 6, cells := 0, slots := 0, locals := 360 } : Room).slots A) D A 10 (N) ad g1 (0) (0) 2 [(0, .ref (ad i)), (1, .int (zI ((b : Int)))), (2, .int (zI ((s : Int)))), (3, .int (zI (ll)))] [] := by
    intro n9
    induction n9 using Nat.strongRecOn with
    | ind n9 ih =>
      intro ll K9 r9 k g1 hm9 f2 f3 f5 hn9 hr9 hC9 hO9 hik hkn hK9
      have hay4 : zAt ad (i) (ad i) := rfl
      have hay5 : zAt ad (i + 1) (ad (i + 1)) := rfl
      have hay6 : zAt ad (i + 7) (ad (i + 7)) := rfl
      subst hik
      have hn12 := hO.1
      have hM9 := (prs2_ok (k := k) ht hO hdz (by omega)).2
      rw [← hK9] at hM9
      refine z_iload_n C 3 dX10_presses_2 rfl ?_
      refine z_aload_n C 0 dX10_presses_3 rfl ?_
      refine z_iload_n C 1 dX10_presses_4 rfl ?_
      refine z_iload_n C 2 dX10_presses_5 rfl ?_
      refine z_cV (As := [.int (zI ((b : Int))), .int (zI ((s : Int)))]) (rest := [.int (zI ((k : Int)))]) (ci := 12) C (c_X10_many l D A cs tt N ad _ i hN _ ((f3 _ (by omega)).trans hg) _ f2 b s p hp (by omega) (by omega)) (lt_A0 hN rfl) hay4 ((f3 _ (by omega)).trans hg) rfl rfl mv_yX10_many q_1733 hd_yX10_many (by decide) (Nat.le_of_ble_eq_true rfl) (by decide) dX10_presses_6 rfl (kI0 fun vy7 gvy7 hvy7 => ?_)
      obtain ⟨rfl, rfl⟩ := hvy7
      rw [show r9 (p) = (n : Int) from hn9]
      refine z_icmp_ge (tgt := 102) C dX10_presses_9 (by decide) (by omega) (by omega) (fun hby8 => ?_) (fun hby8 => ?_)
      · have hjn9 : k = n := by omega
        rw [hjn9] at hK9
        rw [hK9] at hC9
        exact z_vret C hr hlk dX10_presses_102 (by decide) (by decide) ⟨rfl, rfl, rfl, ⟨_, f2, ⟨hn9, hr9, hC9⟩, f5⟩, fun j j1 => by exact f3 j j1⟩
      · have hkn9 : k < n := by omega
        have e3 : K9 (7 * k + 3) = K (7 * k + 3) := by rw [hK9]; exact stK_o (by omega)
        have e0 : K9 (7 * k) = K (7 * k) := by rw [hK9]; exact stK_o (by omega)
        have eM := hM9 k hkn9
        have eA : abZ K9 n k = abZ K n k := by unfold abZ; rw [sZ_e hM9 n (Nat.le_refl _), sZ_e hM9 (k + 1) (by omega)]
        obtain ⟨hd1, hd2, hd3⟩ := prD_b ht hO (l := k) hkn9
        have hmK := hO.mz (l := k) hkn9
        have haK := abZ_b hO (l := k) hkn9
        obtain ⟨⟨qy90, qy91, qy92, qy93, qy94, qy95, qy96⟩, qy99⟩ := hO.ly (l := k) hkn9
        refine z_aload_n C 0 dX10_presses_12 rfl ?_
        refine z_iload_n C 1 dX10_presses_13 rfl ?_
        refine z_iload_n C 2 dX10_presses_14 rfl ?_
        refine z_iload_n C 3 dX10_presses_15 rfl ?_
        refine z_iconst (z := 3) C dX10_presses_16 rfl ?_
        have hqy10k : ((k : Int) : Int) = ((k : Nat) : Int) := by omega
        obtain ⟨qy10, hqy10⟩ : ∃ q9 : Nat, p + 2 + 7 * k = q9 := ⟨_, rfl⟩
        refine z_cV (As := [.int (zI ((b : Int))), .int (zI ((s : Int))), .int (zI ((k : Int))), .int (zI (3))]) (rest := []) (ci := 12) C (c_X10_of l D A cs tt N ad _ i hN _ ((f3 _ (by omega)).trans hg) _ f2 b s p hp (by omega) (by omega) ((k : Int)) (3) (qy10 + 3) (by omega) (by omega) (by omega)) (lt_A0 hN rfl) hay4 ((f3 _ (by omega)).trans hg) rfl rfl mv_yX10_of q_1749 hd_yX10_of (by decide) (Nat.le_of_ble_eq_true rfl) (by decide) dX10_presses_17 rfl (kI0 fun vy11 gvy11 hvy11 => ?_)
        obtain ⟨rfl, rfl⟩ := hvy11
        rw [show r9 (qy10 + 3) = K9 (7 * k + 3) from (congrArg r9 (show qy10 + 3 = p + 2 + (7 * k + 3) by omega)).trans (hC9 (7 * k + 3) (by omega))]
        obtain ⟨⟨qy120, qy121, qy122, qy123, qy124, qy125, qy126⟩, qy129⟩ := hO9.ly (l := k) (by omega)
        rw [e3]
        refine z_istore (lv' := [(4, .int (zI (K (7 * k + 3)))), (0, .ref (ad i)), (1, .int (zI ((b : Int)))), (2, .int (zI ((s : Int)))), (3, .int (zI ((k : Int))))]) C dX10_presses_20 (by decide) rfl ?_
        refine z_iload C 0 dX10_presses_22 rfl ?_
        refine z_i2l C dX10_presses_24 (by omega) ?_
        refine z_aload_n C 1 dX10_presses_25 rfl ?_
        refine z_iload_n C 2 dX10_presses_26 rfl ?_
        refine z_iload_n C 3 dX10_presses_27 rfl ?_
        refine z_iload_n C 4 dX10_presses_28 rfl ?_
        refine z_cV (As := [.int (zI ((b : Int))), .int (zI ((s : Int))), .int (zI ((k : Int)))]) (rest := [.long (zJ (K (7 * k + 3)))]) (ci := 12) C (c_uLoad l D A cs tt N ad _ i hN _ ((f3 _ (by omega)).trans hg) _ f2 b s p hp (by omega) (by omega) n K9 hn9 hC9 hO9 ((k : Int)) k qy10 (by omega) hqy10 (by omega)) (lt_A0 hN rfl) hay4 ((f3 _ (by omega)).trans hg) rfl rfl mv_yX10_load q_1823 hd_yX10_load (by decide) (Nat.le_of_ble_eq_true rfl) (by decide) dX10_presses_29 rfl (kI0 fun vy13 gvy13 hvy13 => ?_)
        obtain ⟨rfl, rfl⟩ := hvy13
        rw [eA, eM]
        refine z_i2l C dX10_presses_32 (by omega) ?_
        refine z_lmul C dX10_presses_33 ?_
        refine z_aload_n C 1 dX10_presses_34 rfl ?_
        refine z_get (v := .ref (ad (i + 7))) C (lt_A0 hN rfl) hay4 ((f3 _ (by omega)).trans hg) rfl inA_X10 6 (by decide) q_1465 rfl rfl dX10_presses_35 ?_
        refine z_bipush (z := 10) C dX10_presses_38 (by decide) ?_
        refine z_aload_n C 1 dX10_presses_40 rfl ?_
        refine z_iload_n C 2 dX10_presses_41 rfl ?_
        refine z_iload_n C 3 dX10_presses_42 rfl ?_
        refine z_iload_n C 4 dX10_presses_43 rfl ?_
        refine z_iconst (z := 0) C dX10_presses_44 rfl ?_
        refine z_cV (As := [.int (zI ((b : Int))), .int (zI ((s : Int))), .int (zI ((k : Int))), .int (zI (0))]) (rest := [.int (zI (10)), .ref (ad (i + 7)), .long (zJ ((K (7 * k + 3)) * (abZ K n k + (mZ K k).tdiv 2)))]) (ci := 12) C (c_X10_of l D A cs tt N ad _ i hN _ ((f3 _ (by omega)).trans hg) _ f2 b s p hp (by omega) (by omega) ((k : Int)) (0) (qy10) (by omega) (by omega) (by omega)) (lt_A0 hN rfl) hay4 ((f3 _ (by omega)).trans hg) rfl rfl mv_yX10_of q_1749 hd_yX10_of (by decide) (Nat.le_of_ble_eq_true rfl) (by decide) dX10_presses_45 rfl (kI0 fun vy14 gvy14 hvy14 => ?_)
        obtain ⟨rfl, rfl⟩ := hvy14
        rw [show r9 (qy10) = K9 (7 * k) from (congrArg r9 (show qy10 = p + 2 + (7 * k + 0) by omega)).trans (hC9 (7 * k + 0) (by omega))]
        rw [e0]
        refine z_iadd C dX10_presses_48 ?_
        refine z_iald C (lt_A (c := 7) hN rfl) hay6 ((f3 _ (by omega)).trans ha7) ((10 + (K (7 * k))).toNat) (by omega) (by omega) (by decide) dX10_presses_49 ?_
        have ht49 := ht.2 ((10 + (K (7 * k))).toNat) (by omega) (by omega)
        refine z_i2l C dX10_presses_50 (by omega) ?_
        refine z_ldiv C dX10_presses_51 (by omega) (by omega) (by omega) ?_
        have hdq : (K (7 * k + 3) * (abZ K n k + (mZ K k).tdiv 2)).tdiv (tb ((10 : Int) + K (7 * k)).toNat) = ((K (7 * k + 3)) * (abZ K n k + (mZ K k).tdiv 2)).tdiv (tb ((10 + (K (7 * k))).toNat)) := rfl
        refine z_lstore (lv' := [(5, .long (zJ (((K (7 * k + 3)) * (abZ K n k + (mZ K k).tdiv 2)).tdiv (tb ((10 + (K (7 * k))).toNat))))), (4, .int (zI (K (7 * k + 3)))), (0, .ref (ad i)), (1, .int (zI ((b : Int)))), (2, .int (zI ((s : Int)))), (3, .int (zI ((k : Int))))]) C dX10_presses_52 (by decide) rfl ?_
        refine z_iload C 1 dX10_presses_54 rfl ?_
        refine z_i2l C dX10_presses_56 (by omega) ?_
        refine z_lload C 0 dX10_presses_57 rfl ?_
        refine z_lsub C dX10_presses_59 ?_
        refine z_lstore (lv' := [(7, .long (zJ ((K (7 * k + 3)) - (((K (7 * k + 3)) * (abZ K n k + (mZ K k).tdiv 2)).tdiv (tb ((10 + (K (7 * k))).toNat)))))), (5, .long (zJ (((K (7 * k + 3)) * (abZ K n k + (mZ K k).tdiv 2)).tdiv (tb ((10 + (K (7 * k))).toNat))))), (4, .int (zI (K (7 * k + 3)))), (0, .ref (ad i)), (1, .int (zI ((b : Int)))), (2, .int (zI ((s : Int)))), (3, .int (zI ((k : Int))))]) C dX10_presses_60 (by decide) rfl ?_
        refine z_aload_n C 3 dX10_presses_62 rfl ?_
        refine z_iload_n C 4 dX10_presses_63 rfl ?_
        refine z_iload_n C 5 dX10_presses_64 rfl ?_
        refine z_iload_n C 6 dX10_presses_65 rfl ?_
        refine z_cV (As := [.int (zI ((b : Int))), .int (zI ((s : Int))), .int (zI ((k : Int)))]) (rest := []) (ci := 12) C (c_uWeight l D A cs tt N ad _ i hN _ ((f3 _ (by omega)).trans hg) _ f2 b s p hp (by omega) (by omega) n K9 hn9 hC9 hO9 ((k : Int)) k qy10 (by omega) hqy10 (by omega)) (lt_A0 hN rfl) hay4 ((f3 _ (by omega)).trans hg) rfl rfl mv_yX10_weight q_1784 hd_yX10_weight (by decide) (Nat.le_of_ble_eq_true rfl) (by decide) dX10_presses_66 rfl (kI0 fun vy15 gvy15 hvy15 => ?_)
        obtain ⟨rfl, rfl⟩ := hvy15
        have hmy16 := hO9.mz (l := k) (by omega)
        rw [eM]
        refine z_istore (lv' := [(9, .int (zI (mZ K k))), (7, .long (zJ ((K (7 * k + 3)) - (((K (7 * k + 3)) * (abZ K n k + (mZ K k).tdiv 2)).tdiv (tb ((10 + (K (7 * k))).toNat)))))), (5, .long (zJ (((K (7 * k + 3)) * (abZ K n k + (mZ K k).tdiv 2)).tdiv (tb ((10 + (K (7 * k))).toNat))))), (4, .int (zI (K (7 * k + 3)))), (0, .ref (ad i)), (1, .int (zI ((b : Int)))), (2, .int (zI ((s : Int)))), (3, .int (zI ((k : Int))))]) C dX10_presses_69 (by decide) rfl ?_
        refine z_aload_n C 4 dX10_presses_71 rfl ?_
        refine z_iload_n C 5 dX10_presses_72 rfl ?_
        refine z_iload_n C 6 dX10_presses_73 rfl ?_
        refine z_iload_n C 7 dX10_presses_74 rfl ?_
        refine z_iconst (z := 3) C dX10_presses_75 rfl ?_
        refine z_lload C 1 dX10_presses_76 rfl ?_
        refine z_iload C 0 dX10_presses_78 rfl ?_
        refine z_i2l C dX10_presses_80 (by omega) ?_
        refine z_lcmp C dX10_presses_81 (by omega) (by omega) ?_
        have hczr := cmpZ_r (a := (K (7 * k + 3)) - (((K (7 * k + 3)) * (abZ K n k + (mZ K k).tdiv 2)).tdiv (tb ((10 + (K (7 * k))).toNat)))) (b := mZ K k)
        refine z_if_ge (tgt := 90) C dX10_presses_82 (by decide) (by omega) (fun hby17 => ?_) (fun hby17 => ?_)
        · have hcy18 : mZ K k ≤ (K (7 * k + 3)) - (((K (7 * k + 3)) * (abZ K n k + (mZ K k).tdiv 2)).tdiv (tb ((10 + (K (7 * k))).toNat))) := cmpZ_ge.mp hby17
          refine z_lload C 1 dX10_presses_90 rfl ?_
          refine z_l2i C dX10_presses_92 ?_
          refine z_cV (As := [.int (zI ((b : Int))), .int (zI ((s : Int))), .int (zI ((k : Int))), .int (zI (3)), .int (zI ((K (7 * k + 3)) - (((K (7 * k + 3)) * (abZ K n k + (mZ K k).tdiv 2)).tdiv (tb ((10 + (K (7 * k))).toNat)))))]) (rest := []) (ci := 12) C (c_X10_sets l D A cs tt N ad _ i hN _ ((f3 _ (by omega)).trans hg) _ f2 b s p hp (by omega) (by omega) ((k : Int)) (3) (qy10 + 3) (by omega) (by omega) (by omega) ((K (7 * k + 3)) - (((K (7 * k + 3)) * (abZ K n k + (mZ K k).tdiv 2)).tdiv (tb ((10 + (K (7 * k))).toNat))))) (lt_A0 hN rfl) hay4 ((f3 _ (by omega)).trans hg) rfl rfl mv_yX10_sets q_1908 hd_yX10_sets (by decide) (Nat.le_of_ble_eq_true rfl) (by decide) dX10_presses_93 rfl (kV0 fun gvy19 hvy19 => ?_)
          obtain ⟨hcvy19, hfvy19⟩ := hvy19
          obtain ⟨ry20, hvy21⟩ : ∃ rZ9 : Nat → Int, rZ9 = uZ r9 (qy10 + 3) ((K (7 * k + 3)) - (((K (7 * k + 3)) * (abZ K n k + (mZ K k).tdiv 2)).tdiv (tb ((10 + (K (7 * k))).toNat)))) := ⟨_, rfl⟩
          rw [← hvy21] at hcvy19
          obtain ⟨Ky23, hKy24⟩ : ∃ KZ9 : Nat → Int, KZ9 = uZ K9 (7 * k + 3) ((K (7 * k + 3)) - (((K (7 * k + 3)) * (abZ K n k + (mZ K k).tdiv 2)).tdiv (tb ((10 + (K (7 * k))).toNat)))) := ⟨_, rfl⟩
          have hCy22 := lay_r hC9 hvy21 hKy24 (by omega)
          refine z_iinc (z := (k : Int) + 1) (lv' := [(3, .int (zI ((k : Int) + 1))), (9, .int (zI (mZ K k))), (7, .long (zJ ((K (7 * k + 3)) - (((K (7 * k + 3)) * (abZ K n k + (mZ K k).tdiv 2)).tdiv (tb ((10 + (K (7 * k))).toNat)))))), (5, .long (zJ (((K (7 * k + 3)) * (abZ K n k + (mZ K k).tdiv 2)).tdiv (tb ((10 + (K (7 * k))).toNat))))), (4, .int (zI (K (7 * k + 3)))), (0, .ref (ad i)), (1, .int (zI ((b : Int)))), (2, .int (zI ((s : Int))))]) (j := 7) C dX10_presses_96 rfl rfl (by decide) rfl ?_
          refine z_goto (tgt := 2) C dX10_presses_99 (by decide) ?_
          refine z_lv (lv' := [(0, .ref (ad i)), (1, .int (zI ((b : Int)))), (2, .int (zI ((s : Int)))), (3, .int (zI ((k : Int) + 1)))]) [5, 6, 7, 0] rfl ?_
          have hfry25 : ∀ j, j ≠ qy10 + 3 → ry20 j = r9 j := fun j n0 => (congrFun hvy21 _).trans ((uZ_n _ _ n0).trans (rfl))
          have hx : (K (7 * k + 3)) - (((K (7 * k + 3)) * (abZ K n k + (mZ K k).tdiv 2)).tdiv (tb ((10 + (K (7 * k))).toNat))) = prZ tb K n k := by unfold prZ prD; rw [hdq]; split <;> omega
          have hKn : Ky23 = stK K (k + 1) 3 0 (fun l => prZ tb K n l) := by rw [hKy24, hx, hK9]; exact stK_up (v := (fun l => prZ tb K n l)) (by decide)
          have hO2 := prs2_ok (k := k + 1) ht hO hdz (by omega)
          rw [← hKn] at hO2
          exact ih _ (by omega) ((k : Int) + 1) Ky23 ry20 (k + 1) gvy19 rfl hcvy19 (fun j j1 => by rw [hfvy19 _ (by omega)]; exact f3 j j1) (fun j a1 => (hfry25 j (by omega)).trans (f5 j a1)) (((congrFun hvy21 _).trans ((uZ_n _ _ (by omega)).trans (rfl))).trans hn9) ((((congrFun hvy21 _).trans ((uZ_n _ _ (by omega)).trans (rfl))) : ry20 (p + 1) = r9 (p + 1)).trans hr9) hCy22 hO2.1 (by omega) (by omega) hKn
        · have hcy18 : ¬ (mZ K k ≤ (K (7 * k + 3)) - (((K (7 * k + 3)) * (abZ K n k + (mZ K k).tdiv 2)).tdiv (tb ((10 + (K (7 * k))).toNat)))) := fun e9 => hby17 (cmpZ_ge.mpr e9)
          refine z_iload C 0 dX10_presses_85 rfl ?_
          refine z_goto (tgt := 93) C dX10_presses_87 (by decide) ?_
          refine z_cV (As := [.int (zI ((b : Int))), .int (zI ((s : Int))), .int (zI ((k : Int))), .int (zI (3)), .int (zI (mZ K k))]) (rest := []) (ci := 12) C (c_X10_sets l D A cs tt N ad _ i hN _ ((f3 _ (by omega)).trans hg) _ f2 b s p hp (by omega) (by omega) ((k : Int)) (3) (qy10 + 3) (by omega) (by omega) (by omega) (mZ K k)) (lt_A0 hN rfl) hay4 ((f3 _ (by omega)).trans hg) rfl rfl mv_yX10_sets q_1908 hd_yX10_sets (by decide) (Nat.le_of_ble_eq_true rfl) (by decide) dX10_presses_93 rfl (kV0 fun gvy26 hvy26 => ?_)
          obtain ⟨hcvy26, hfvy26⟩ := hvy26
          obtain ⟨ry27, hvy28⟩ : ∃ rZ9 : Nat → Int, rZ9 = uZ r9 (qy10 + 3) (mZ K k) := ⟨_, rfl⟩
          rw [← hvy28] at hcvy26
          obtain ⟨Ky30, hKy31⟩ : ∃ KZ9 : Nat → Int, KZ9 = uZ K9 (7 * k + 3) (mZ K k) := ⟨_, rfl⟩
          have hCy29 := lay_r hC9 hvy28 hKy31 (by omega)
          refine z_iinc (z := (k : Int) + 1) (lv' := [(3, .int (zI ((k : Int) + 1))), (9, .int (zI (mZ K k))), (7, .long (zJ ((K (7 * k + 3)) - (((K (7 * k + 3)) * (abZ K n k + (mZ K k).tdiv 2)).tdiv (tb ((10 + (K (7 * k))).toNat)))))), (5, .long (zJ (((K (7 * k + 3)) * (abZ K n k + (mZ K k).tdiv 2)).tdiv (tb ((10 + (K (7 * k))).toNat))))), (4, .int (zI (K (7 * k + 3)))), (0, .ref (ad i)), (1, .int (zI ((b : Int)))), (2, .int (zI ((s : Int))))]) (j := 7) C dX10_presses_96 rfl rfl (by decide) rfl ?_
          refine z_goto (tgt := 2) C dX10_presses_99 (by decide) ?_
          refine z_lv (lv' := [(0, .ref (ad i)), (1, .int (zI ((b : Int)))), (2, .int (zI ((s : Int)))), (3, .int (zI ((k : Int) + 1)))]) [5, 6, 7, 0] rfl ?_
          have hfry32 : ∀ j, j ≠ qy10 + 3 → ry27 j = r9 j := fun j n0 => (congrFun hvy28 _).trans ((uZ_n _ _ n0).trans (rfl))
          have hx : mZ K k = prZ tb K n k := by unfold prZ prD; rw [hdq]; split <;> omega
          have hKn : Ky30 = stK K (k + 1) 3 0 (fun l => prZ tb K n l) := by rw [hKy31, hx, hK9]; exact stK_up (v := (fun l => prZ tb K n l)) (by decide)
          have hO2 := prs2_ok (k := k + 1) ht hO hdz (by omega)
          rw [← hKn] at hO2
          exact ih _ (by omega) ((k : Int) + 1) Ky30 ry27 (k + 1) gvy26 rfl hcvy26 (fun j j1 => by rw [hfvy26 _ (by omega)]; exact f3 j j1) (fun j a1 => (hfry32 j (by omega)).trans (f5 j a1)) (((congrFun hvy28 _).trans ((uZ_n _ _ (by omega)).trans (rfl))).trans hn9) ((((congrFun hvy28 _).trans ((uZ_n _ _ (by omega)).trans (rfl))) : ry27 (p + 1) = r9 (p + 1)).trans hr9) hCy29 hO2.1 (by omega) (by omega) hKn
  refine z_iconst (z := 0) C dX10_presses_0 rfl ?_
  refine z_istore_n (lv' := [(3, .int (zI (0))), (0, .ref (ad i)), (1, .int (zI ((b : Int)))), (2, .int (zI ((s : Int))))]) C dX10_presses_1 rfl (by decide) rfl ?_
  refine z_lv (lv' := [(0, .ref (ad i)), (1, .int (zI ((b : Int)))), (2, .int (zI ((s : Int)))), (3, .int (zI (0)))]) [1, 2, 3, 0] rfl ?_
  have hK0 : K = stK K 0 3 0 (fun l => prZ tb K n l) := by funext q9; exact (stK_o (by omega)).symm
  exact lp _ (0) K r 0 g rfl ha1 (fun j j1 => by rfl) (fun j _ => rfl) hn hro hC hO rfl (Nat.zero_le _) hK0
end
section
-- 9l3.uh.lean.txt
theorem evs2_ok {C : Nat → Int} {n k : Nat} (h : okP C n) (hk : k ≤ n) : okP (stK C k 4 0 (fun l => evZ C n l)) n := by
  have hm : ∀ l, l < n → mZ (stK C k 4 0 (fun l => evZ C n l)) l = mZ C l := by
    intro l hl
    unfold mZ
    rw [stK_o (Or.inl (by omega)), stK_o (Or.inl (by omega))]
  have hs := sZ_e hm n (Nat.le_refl _)
  have hd := dZ_c (C := C) (C' := stK C k 4 0 (fun l => evZ C n l)) (n := n) (fun l a => stK_o (Or.inl (by omega))) n (Nat.le_refl _)
  refine ⟨h.1, fun l hl => ?_, by have := h.2.2.1; omega, by have := h.2.2.2; omega⟩
  have h9 := h.2.1 l hl
  have h8 := evZ_b h hl
  unfold lyP at *
  by_cases e : l < k
  · rw [stK_o (q := 7 * l) (Or.inl (by omega)), stK_o (q := 7 * l + 1) (Or.inl (by omega)), stK_o (q := 7 * l + 2) (Or.inl (by omega)), stK_o (q := 7 * l + 3) (Or.inl (by omega)), stK_o (q := 7 * l + 5) (Or.inl (by omega)), stK_o (q := 7 * l + 6) (Or.inl (by omega)), stK_s (by decide) (Nat.zero_le _) e]
    omega
  · rw [stK_o (q := 7 * l) (by omega), stK_o (q := 7 * l + 1) (by omega), stK_o (q := 7 * l + 2) (by omega), stK_o (q := 7 * l + 3) (by omega), stK_o (q := 7 * l + 4) (by omega), stK_o (q := 7 * l + 5) (by omega), stK_o (q := 7 * l + 6) (by omega)]
    omega

set_option maxRecDepth 100000 in
set_option maxHeartbeats 4000000 in
theorem c_uEvens (l : Launch) (D : va_G) (A : Nat → Prop) (cs : Nat → ClassId) (tt : Nat) (N : Nat) (ad : Nat → Nat) (g : Nat → va_E) (i : Nat) (hN : i + 30 ≤ N) (F : Nat → Int) (hg : g i = mC ad i F) (r : Nat → Int) (ha1 : g (i + 1) = iA cs 29200 r) (te : Nat → Int) (ha14 : g (i + 14) = iA cs 14 te) (b s p : Nat) (hp : b + 6 + 86 * s = p) (hb : b + 350 ≤ 29200) (hs : s < 4) (n : Nat) (K : Nat → Int) (hn : r p = (n : Int)) (hC : ∀ q, q < 7 * n → r (p + 2 + q) = K q) (hO : okP K n) (ro : Int) (hro : r (p + 1) = ro) : zM l yX10_evens cX10_evens 6 none ({ frames := 3, cells := 0, slots := 0, locals := 180 } : Room) D A cs tt N ad g [.ref (ad i), .int (zI ((b : Int))), .int (zI ((s : Int)))] (rV0 N ad fun g' => (∃ r' : Nat → Int, g' (i + 1) = iA cs 29200 r' ∧ isS r' p ((n, stK K n 4 0 (fun l => evZ K n l), ro)) ∧ (∀ j, j < p ∨ p + 86 ≤ j → r' j = r j)) ∧ (∃ t' : Nat → Int, g' (i + 14) = iA cs 14 t') ∧ ∀ j, j ≠ i + 1 → j ≠ i + 14 → g' j = g j) := by
  have hay1 : zAt ad (i) (ad i) := rfl
  have hay2 : zAt ad (i + 1) (ad (i + 1)) := rfl
  have hay3 : zAt ad (i + 14) (ad (i + 14)) := rfl
  have hn12 := hO.1
  refine z_of (by decide) (Nat.le_of_ble_eq_true rfl) ?_
  intro pY eY sY mY below meth cY C hr hlk hnm
  refine z_lv (lv' := [(0, .ref (ad i)), (1, .int (zI ((b : Int)))), (2, .int (zI ((s : Int))))]) [0, 1, 2] rfl ?_
  have lp2 : ∀ (n9 : Nat) (ll : Int) (K9 : Nat → Int) (r9 : Nat → Int) (t9 : Nat → Int) (k : Nat) (g1 : Nat → va_E), (13 - ll).toNat = n9 → (g1 (i + 1) = iA cs 29200 r9) → (∀ j, j ≠ i + 1 → j ≠ i + 14 → g1 j = g j) → (∀ j, j < p ∨ p + 86 ≤ j → r9 j = r j) → (r9 p = (n : Int)) → (r9 (p + 1) = ro) → (∀ q, q < 7 * n → r9 (p + 2 + q) = K9 q) → (okP K9 n) → (g1 (i + 14) = iA cs 14 t9) → (∀ j, j < n → t9 j = K (7 * j + 4)) → (ll = (k : Int)) → (k ≤ n) → (K9 = stK K k 4 0 (fun l => evZ K n l)) → zV pY l eY ({ frames := 3, cells := 0, slots := 0, locals := 180 } : Room) sY mY ([.ref (ad i), .int (zI ((b : Int))), .int (zI ((s : Int)))] : List Value).toArray below meth cY (MQ below (zPost D A (rV0 N ad fun g' => (∃ r' : Nat → Int, g' (i + 1) = iA cs 29200 r' ∧ isS r' p ((n, stK K n 4 0 (fun l => evZ K n l), ro)) ∧ (∀ j, j < p ∨ p + 86 ≤ j → r' j = r j)) ∧ (∃ t' : Nat → Int, g' (i + 14) = iA cs 14 t') ∧ ∀ j, j ≠ i + 1 → j ≠ i + 14 → g' j = g j)) ([.ref (ad i), .int (zI ((b : Int))), .int (zI ((s : Int)))] : List Value).toArray sY ({ frames := 3, cells := 0, slots := 0, locals := 180 } : Room).cells ({ frames := 3, cells := 0, slots := 0, locals := 180 } : Room).slots A) D A 6 (N) ad g1 (0) (0) 41 [(0, .ref (ad i)), (1, .int (zI ((b : Int)))), (2, .int (zI ((s : Int)))), (3, .int (zI ((n : Int)))), (4, .int (zI (ll)))] [] := by
    intro n9
    induction n9 using Nat.strongRecOn with
    | ind n9 ih_lp2 =>
      intro ll K9 r9 t9 k g1 hm9 f2 f3 f5 hn9 hr9 hC9 hO9 f7 h9 hik hkn hK9
      have hay4 : zAt ad (i) (ad i) := rfl
      have hay5 : zAt ad (i + 1) (ad (i + 1)) := rfl
      have hay6 : zAt ad (i + 14) (ad (i + 14)) := rfl
      have hn12 := hO.1
      subst hik
      refine z_iload C 4 dX10_evens_41 rfl ?_
      refine z_iload_n C 3 dX10_evens_43 rfl ?_
      refine z_icmp_ge (tgt := 159) C dX10_evens_44 (by decide) (by omega) (by omega) (fun hby7 => ?_) (fun hby7 => ?_)
      · have hjn9 : k = n := by omega
        rw [hjn9] at hK9
        rw [hK9] at hC9
        exact z_vret C hr hlk dX10_evens_159 (by decide) (by decide) ⟨rfl, rfl, rfl, ⟨_, f2, ⟨hn9, hr9, hC9⟩, f5⟩, ⟨_, f7⟩, fun j j1 j2 => by exact f3 j j1 j2⟩
      · have hkn9 : k < n := by omega
        have hT9 : ∀ l9, l9 < n → -300 ≤ K (7 * l9 + 4) ∧ K (7 * l9 + 4) ≤ 0 := fun l9 h8 => (hO.ly h8).1.2.2.2.2.1
        have hT0 := hT9 k hkn9
        refine z_aload_n C 0 dX10_evens_47 rfl ?_
        refine z_get (v := .ref (ad (i + 14))) C (lt_A0 hN rfl) hay4 ((f3 _ (by omega) (by omega)).trans hg) rfl inA_X10 30 (by decide) q_1489 rfl rfl dX10_evens_48 ?_
        refine z_iload C 4 dX10_evens_51 rfl ?_
        refine z_iald C (lt_A (c := 14) hN rfl) hay6 f7 (k) (by omega) (by omega) (by decide) dX10_evens_53 ?_
        rw [show t9 (k) = K (7 * k + 4) from h9 k (by omega)]
        refine z_istore (lv' := [(5, .int (zI (K (7 * k + 4)))), (0, .ref (ad i)), (1, .int (zI ((b : Int)))), (2, .int (zI ((s : Int)))), (3, .int (zI ((n : Int)))), (4, .int (zI ((k : Int))))]) C dX10_evens_54 (by decide) rfl ?_
        refine z_iload C 5 dX10_evens_56 rfl ?_
        refine z_iconst (z := 1) C dX10_evens_58 rfl ?_
        refine z_iadd C dX10_evens_59 ?_
        refine z_iload_n C 4 dX10_evens_60 rfl ?_
        refine z_icmp_ge (tgt := 89) C dX10_evens_61 (by decide) (by omega) (by omega) (fun hby8 => ?_) (fun hby8 => ?_)
        · have hup : upE K n k = 0 := by unfold upE; rw [if_neg (by omega)]
          refine z_iload C 5 dX10_evens_89 rfl ?_
          refine z_if_le (tgt := 119) C dX10_evens_91 (by decide) (by omega) (fun hby9 => ?_) (fun hby9 => ?_)
          · refine z_iload C 5 dX10_evens_119 rfl ?_
            refine z_if_ne (tgt := 138) C dX10_evens_121 (by decide) (by omega) (fun hby10 => ?_) (fun hby10 => ?_)
            · refine z_aload_n C 1 dX10_evens_138 rfl ?_
              refine z_iload_n C 2 dX10_evens_139 rfl ?_
              refine z_iload_n C 3 dX10_evens_140 rfl ?_
              refine z_iload C 5 dX10_evens_141 rfl ?_
              refine z_iconst (z := 4) C dX10_evens_143 rfl ?_
              refine z_iload C 0 dX10_evens_144 rfl ?_
              refine z_iconst (z := 0) C dX10_evens_146 rfl ?_
              refine z_cS (As := [.int (zI (K (7 * k + 4))), .int (zI (0))]) (rest := [.int (zI (4)), .int (zI ((k : Int))), .int (zI ((s : Int))), .int (zI ((b : Int))), .ref (ad i)]) C (c_X10_lesser l D A cs tt N ad _ (K (7 * k + 4)) (by omega) (0) (by omega)) ms_yX10_lesser q_1792 hd_yX10_lesser (by decide) (Nat.le_of_ble_eq_true rfl) (by decide) dX10_evens_147 rfl (kI0 fun vy11 gvy11 hvy11 => ?_)
              obtain ⟨hvy11, rfl⟩ := hvy11
              have hqy12k : ((k : Int) : Int) = ((k : Nat) : Int) := by omega
              obtain ⟨qy12, hqy12⟩ : ∃ q9 : Nat, p + 2 + 7 * k = q9 := ⟨_, rfl⟩
              refine z_cV (As := [.int (zI ((b : Int))), .int (zI ((s : Int))), .int (zI ((k : Int))), .int (zI (4)), .int (zI (vy11))]) (rest := []) (ci := 12) C (c_X10_sets l D A cs tt N ad _ i hN _ ((f3 _ (by omega) (by omega)).trans hg) _ f2 b s p hp (by omega) (by omega) ((k : Int)) (4) (qy12 + 4) (by omega) (by omega) (by omega) (vy11)) (lt_A0 hN rfl) hay4 ((f3 _ (by omega) (by omega)).trans hg) rfl rfl mv_yX10_sets q_1908 hd_yX10_sets (by decide) (Nat.le_of_ble_eq_true rfl) (by decide) dX10_evens_150 rfl (kV0 fun gvy13 hvy13 => ?_)
              obtain ⟨hcvy13, hfvy13⟩ := hvy13
              obtain ⟨ry14, hvy15⟩ : ∃ rZ9 : Nat → Int, rZ9 = uZ r9 (qy12 + 4) (vy11) := ⟨_, rfl⟩
              rw [← hvy15] at hcvy13
              obtain ⟨Ky17, hKy18⟩ : ∃ KZ9 : Nat → Int, KZ9 = uZ K9 (7 * k + 4) (vy11) := ⟨_, rfl⟩
              have hCy16 := lay_r hC9 hvy15 hKy18 (by omega)
              refine z_iinc (z := (k : Int) + 1) (lv' := [(4, .int (zI ((k : Int) + 1))), (5, .int (zI (K (7 * k + 4)))), (0, .ref (ad i)), (1, .int (zI ((b : Int)))), (2, .int (zI ((s : Int)))), (3, .int (zI ((n : Int))))]) (j := 5) C dX10_evens_153 rfl rfl (by decide) rfl ?_
              refine z_goto (tgt := 41) C dX10_evens_156 (by decide) ?_
              have hgy19 := (hfvy13 (i + 14) (ne_o (i := i) (c := 14) (d := 1) rfl)).trans f7
              exfalso; omega
            · refine z_iload C 0 dX10_evens_124 rfl ?_
              refine z_aload_n C 1 dX10_evens_126 rfl ?_
              refine z_get (v := .ref (ad (i + 14))) C (lt_A0 hN rfl) hay4 ((f3 _ (by omega) (by omega)).trans hg) rfl inA_X10 30 (by decide) q_1489 rfl rfl dX10_evens_127 ?_
              refine z_iconst (z := 0) C dX10_evens_130 rfl ?_
              refine z_iald C (lt_A (c := 14) hN rfl) hay6 f7 (0) (by omega) (by omega) (by decide) dX10_evens_131 ?_
              rw [show t9 (0) = K (7 * k + 4) from (h9 0 (by omega)).trans (by rw [show k = 0 by omega])]
              refine z_bipush (z := 8) C dX10_evens_132 (by decide) ?_
              refine z_idiv C dX10_evens_134 (by omega) (by omega) (by omega) ?_
              obtain ⟨xy20, exy20, hxy20⟩ : ∃ x9, (K (7 * k + 4)).tdiv 8 = x9 ∧ (0 ≤ K (7 * k + 4) → 0 ≤ x9 ∧ 8 * x9 ≤ K (7 * k + 4) ∧ K (7 * k + 4) < 8 * x9 + 8) ∧ (K (7 * k + 4) ≤ 0 → x9 ≤ 0 ∧ K (7 * k + 4) ≤ 8 * x9 ∧ 8 * x9 < K (7 * k + 4) + 8) := tdk 8 (by decide)
              rw [exy20]
              have hdn : dnE K k = xy20 := by unfold dnE; rw [if_pos (by omega)]; exact exy20
              refine z_isub C dX10_evens_135 ?_
              refine z_istore (lv' := [(5, .int (zI ((K (7 * k + 4)) - xy20))), (0, .ref (ad i)), (1, .int (zI ((b : Int)))), (2, .int (zI ((s : Int)))), (3, .int (zI ((n : Int)))), (4, .int (zI ((k : Int))))]) C dX10_evens_136 (by decide) rfl ?_
              refine z_aload_n C 1 dX10_evens_138 rfl ?_
              refine z_iload_n C 2 dX10_evens_139 rfl ?_
              refine z_iload_n C 3 dX10_evens_140 rfl ?_
              refine z_iload C 5 dX10_evens_141 rfl ?_
              refine z_iconst (z := 4) C dX10_evens_143 rfl ?_
              refine z_iload C 0 dX10_evens_144 rfl ?_
              refine z_iconst (z := 0) C dX10_evens_146 rfl ?_
              refine z_cS (As := [.int (zI ((K (7 * k + 4)) - xy20)), .int (zI (0))]) (rest := [.int (zI (4)), .int (zI ((k : Int))), .int (zI ((s : Int))), .int (zI ((b : Int))), .ref (ad i)]) C (c_X10_lesser l D A cs tt N ad _ ((K (7 * k + 4)) - xy20) (by omega) (0) (by omega)) ms_yX10_lesser q_1792 hd_yX10_lesser (by decide) (Nat.le_of_ble_eq_true rfl) (by decide) dX10_evens_147 rfl (kI0 fun vy21 gvy21 hvy21 => ?_)
              obtain ⟨hvy21, rfl⟩ := hvy21
              have hqy22k : ((k : Int) : Int) = ((k : Nat) : Int) := by omega
              obtain ⟨qy22, hqy22⟩ : ∃ q9 : Nat, p + 2 + 7 * k = q9 := ⟨_, rfl⟩
              refine z_cV (As := [.int (zI ((b : Int))), .int (zI ((s : Int))), .int (zI ((k : Int))), .int (zI (4)), .int (zI (vy21))]) (rest := []) (ci := 12) C (c_X10_sets l D A cs tt N ad _ i hN _ ((f3 _ (by omega) (by omega)).trans hg) _ f2 b s p hp (by omega) (by omega) ((k : Int)) (4) (qy22 + 4) (by omega) (by omega) (by omega) (vy21)) (lt_A0 hN rfl) hay4 ((f3 _ (by omega) (by omega)).trans hg) rfl rfl mv_yX10_sets q_1908 hd_yX10_sets (by decide) (Nat.le_of_ble_eq_true rfl) (by decide) dX10_evens_150 rfl (kV0 fun gvy23 hvy23 => ?_)
              obtain ⟨hcvy23, hfvy23⟩ := hvy23
              obtain ⟨ry24, hvy25⟩ : ∃ rZ9 : Nat → Int, rZ9 = uZ r9 (qy22 + 4) (vy21) := ⟨_, rfl⟩
              rw [← hvy25] at hcvy23
              obtain ⟨Ky27, hKy28⟩ : ∃ KZ9 : Nat → Int, KZ9 = uZ K9 (7 * k + 4) (vy21) := ⟨_, rfl⟩
              have hCy26 := lay_r hC9 hvy25 hKy28 (by omega)
              refine z_iinc (z := (k : Int) + 1) (lv' := [(4, .int (zI ((k : Int) + 1))), (5, .int (zI ((K (7 * k + 4)) - xy20))), (0, .ref (ad i)), (1, .int (zI ((b : Int)))), (2, .int (zI ((s : Int)))), (3, .int (zI ((n : Int))))]) (j := 5) C dX10_evens_153 rfl rfl (by decide) rfl ?_
              refine z_goto (tgt := 41) C dX10_evens_156 (by decide) ?_
              have hgy29 := (hfvy23 (i + 14) (ne_o (i := i) (c := 14) (d := 1) rfl)).trans f7
              have hfry30 : ∀ j, j ≠ qy22 + 4 → ry24 j = r9 j := fun j n0 => (congrFun hvy25 _).trans ((uZ_n _ _ n0).trans (rfl))
              refine z_lv (lv' := [(0, .ref (ad i)), (1, .int (zI ((b : Int)))), (2, .int (zI ((s : Int)))), (3, .int (zI ((n : Int)))), (4, .int (zI ((k : Int) + 1)))]) [2, 3, 4, 5, 0] rfl ?_
              have hx : vy21 = evZ K n k := by unfold evZ mnZ; rw [hdn, hup]; split <;> omega
              have hKn : Ky27 = stK K (k + 1) 4 0 (fun l => evZ K n l) := by rw [hKy28, hx, hK9]; exact stK_up (v := (fun l => evZ K n l)) (by decide)
              have hO2 := evs2_ok (k := k + 1) hO (by omega)
              rw [← hKn] at hO2
              exact ih_lp2 _ (by omega) ((k : Int) + 1) Ky27 ry24 t9 (k + 1) gvy23 rfl hcvy23 (fun j j1 j2 => by rw [hfvy23 _ (by omega)]; exact f3 j j1 j2) (fun j a1 => (hfry30 j (by omega)).trans (f5 j a1)) (((congrFun hvy25 _).trans ((uZ_n _ _ (by omega)).trans (rfl))).trans hn9) ((((congrFun hvy25 _).trans ((uZ_n _ _ (by omega)).trans (rfl))) : ry24 (p + 1) = r9 (p + 1)).trans hr9) hCy26 hO2 hgy29 h9 (by omega) (by omega) hKn
          · refine z_iload C 0 dX10_evens_94 rfl ?_
            refine z_aload_n C 1 dX10_evens_96 rfl ?_
            refine z_get (v := .ref (ad (i + 14))) C (lt_A0 hN rfl) hay4 ((f3 _ (by omega) (by omega)).trans hg) rfl inA_X10 30 (by decide) q_1489 rfl rfl dX10_evens_97 ?_
            refine z_iload C 5 dX10_evens_100 rfl ?_
            refine z_iald C (lt_A (c := 14) hN rfl) hay6 f7 (k) (by omega) (by omega) (by decide) dX10_evens_102 ?_
            rw [show t9 (k) = K (7 * k + 4) from h9 k (by omega)]
            refine z_aload_n C 1 dX10_evens_103 rfl ?_
            refine z_get (v := .ref (ad (i + 14))) C (lt_A0 hN rfl) hay4 ((f3 _ (by omega) (by omega)).trans hg) rfl inA_X10 30 (by decide) q_1489 rfl rfl dX10_evens_104 ?_
            refine z_iload C 5 dX10_evens_107 rfl ?_
            refine z_iconst (z := 1) C dX10_evens_109 rfl ?_
            refine z_isub C dX10_evens_110 ?_
            refine z_iald C (lt_A (c := 14) hN rfl) hay6 f7 (k - 1) (by omega) (by omega) (by decide) dX10_evens_111 ?_
            rw [show t9 (k - 1) = K (7 * (k - 1) + 4) from h9 (k - 1) (by omega)]
            have hT2 := hT9 (k - 1) (by omega)
            refine z_isub C dX10_evens_112 ?_
            refine z_bipush (z := 8) C dX10_evens_113 (by decide) ?_
            refine z_idiv C dX10_evens_115 (by omega) (by omega) (by omega) ?_
            obtain ⟨xy31, exy31, hxy31⟩ : ∃ x9, ((K (7 * k + 4)) - (K (7 * (k - 1) + 4))).tdiv 8 = x9 ∧ (0 ≤ (K (7 * k + 4)) - (K (7 * (k - 1) + 4)) → 0 ≤ x9 ∧ 8 * x9 ≤ (K (7 * k + 4)) - (K (7 * (k - 1) + 4)) ∧ (K (7 * k + 4)) - (K (7 * (k - 1) + 4)) < 8 * x9 + 8) ∧ ((K (7 * k + 4)) - (K (7 * (k - 1) + 4)) ≤ 0 → x9 ≤ 0 ∧ (K (7 * k + 4)) - (K (7 * (k - 1) + 4)) ≤ 8 * x9 ∧ 8 * x9 < (K (7 * k + 4)) - (K (7 * (k - 1) + 4)) + 8) := tdk 8 (by decide)
            rw [exy31]
            have hdn : dnE K k = xy31 := by unfold dnE; rw [if_neg (by omega)]; exact exy31
            refine z_isub C dX10_evens_116 ?_
            refine z_istore (lv' := [(5, .int (zI ((K (7 * k + 4)) - xy31))), (0, .ref (ad i)), (1, .int (zI ((b : Int)))), (2, .int (zI ((s : Int)))), (3, .int (zI ((n : Int)))), (4, .int (zI ((k : Int))))]) C dX10_evens_117 (by decide) rfl ?_
            refine z_iload C 5 dX10_evens_119 rfl ?_
            refine z_if_ne (tgt := 138) C dX10_evens_121 (by decide) (by omega) (fun hby32 => ?_) (fun hby32 => ?_)
            · refine z_aload_n C 1 dX10_evens_138 rfl ?_
              refine z_iload_n C 2 dX10_evens_139 rfl ?_
              refine z_iload_n C 3 dX10_evens_140 rfl ?_
              refine z_iload C 5 dX10_evens_141 rfl ?_
              refine z_iconst (z := 4) C dX10_evens_143 rfl ?_
              refine z_iload C 0 dX10_evens_144 rfl ?_
              refine z_iconst (z := 0) C dX10_evens_146 rfl ?_
              refine z_cS (As := [.int (zI ((K (7 * k + 4)) - xy31)), .int (zI (0))]) (rest := [.int (zI (4)), .int (zI ((k : Int))), .int (zI ((s : Int))), .int (zI ((b : Int))), .ref (ad i)]) C (c_X10_lesser l D A cs tt N ad _ ((K (7 * k + 4)) - xy31) (by omega) (0) (by omega)) ms_yX10_lesser q_1792 hd_yX10_lesser (by decide) (Nat.le_of_ble_eq_true rfl) (by decide) dX10_evens_147 rfl (kI0 fun vy33 gvy33 hvy33 => ?_)
              obtain ⟨hvy33, rfl⟩ := hvy33
              have hqy34k : ((k : Int) : Int) = ((k : Nat) : Int) := by omega
              obtain ⟨qy34, hqy34⟩ : ∃ q9 : Nat, p + 2 + 7 * k = q9 := ⟨_, rfl⟩
              refine z_cV (As := [.int (zI ((b : Int))), .int (zI ((s : Int))), .int (zI ((k : Int))), .int (zI (4)), .int (zI (vy33))]) (rest := []) (ci := 12) C (c_X10_sets l D A cs tt N ad _ i hN _ ((f3 _ (by omega) (by omega)).trans hg) _ f2 b s p hp (by omega) (by omega) ((k : Int)) (4) (qy34 + 4) (by omega) (by omega) (by omega) (vy33)) (lt_A0 hN rfl) hay4 ((f3 _ (by omega) (by omega)).trans hg) rfl rfl mv_yX10_sets q_1908 hd_yX10_sets (by decide) (Nat.le_of_ble_eq_true rfl) (by decide) dX10_evens_150 rfl (kV0 fun gvy35 hvy35 => ?_)
              obtain ⟨hcvy35, hfvy35⟩ := hvy35
              obtain ⟨ry36, hvy37⟩ : ∃ rZ9 : Nat → Int, rZ9 = uZ r9 (qy34 + 4) (vy33) := ⟨_, rfl⟩
              rw [← hvy37] at hcvy35
              obtain ⟨Ky39, hKy40⟩ : ∃ KZ9 : Nat → Int, KZ9 = uZ K9 (7 * k + 4) (vy33) := ⟨_, rfl⟩
              have hCy38 := lay_r hC9 hvy37 hKy40 (by omega)
              refine z_iinc (z := (k : Int) + 1) (lv' := [(4, .int (zI ((k : Int) + 1))), (5, .int (zI ((K (7 * k + 4)) - xy31))), (0, .ref (ad i)), (1, .int (zI ((b : Int)))), (2, .int (zI ((s : Int)))), (3, .int (zI ((n : Int))))]) (j := 5) C dX10_evens_153 rfl rfl (by decide) rfl ?_
              refine z_goto (tgt := 41) C dX10_evens_156 (by decide) ?_
              have hgy41 := (hfvy35 (i + 14) (ne_o (i := i) (c := 14) (d := 1) rfl)).trans f7
              have hfry42 : ∀ j, j ≠ qy34 + 4 → ry36 j = r9 j := fun j n0 => (congrFun hvy37 _).trans ((uZ_n _ _ n0).trans (rfl))
              refine z_lv (lv' := [(0, .ref (ad i)), (1, .int (zI ((b : Int)))), (2, .int (zI ((s : Int)))), (3, .int (zI ((n : Int)))), (4, .int (zI ((k : Int) + 1)))]) [2, 3, 4, 5, 0] rfl ?_
              have hx : vy33 = evZ K n k := by unfold evZ mnZ; rw [hdn, hup]; split <;> omega
              have hKn : Ky39 = stK K (k + 1) 4 0 (fun l => evZ K n l) := by rw [hKy40, hx, hK9]; exact stK_up (v := (fun l => evZ K n l)) (by decide)
              have hO2 := evs2_ok (k := k + 1) hO (by omega)
              rw [← hKn] at hO2
              exact ih_lp2 _ (by omega) ((k : Int) + 1) Ky39 ry36 t9 (k + 1) gvy35 rfl hcvy35 (fun j j1 j2 => by rw [hfvy35 _ (by omega)]; exact f3 j j1 j2) (fun j a1 => (hfry42 j (by omega)).trans (f5 j a1)) (((congrFun hvy37 _).trans ((uZ_n _ _ (by omega)).trans (rfl))).trans hn9) ((((congrFun hvy37 _).trans ((uZ_n _ _ (by omega)).trans (rfl))) : ry36 (p + 1) = r9 (p + 1)).trans hr9) hCy38 hO2 hgy41 h9 (by omega) (by omega) hKn
            · refine z_iload C 0 dX10_evens_124 rfl ?_
              refine z_aload_n C 1 dX10_evens_126 rfl ?_
              refine z_get (v := .ref (ad (i + 14))) C (lt_A0 hN rfl) hay4 ((f3 _ (by omega) (by omega)).trans hg) rfl inA_X10 30 (by decide) q_1489 rfl rfl dX10_evens_127 ?_
              refine z_iconst (z := 0) C dX10_evens_130 rfl ?_
              refine z_iald C (lt_A (c := 14) hN rfl) hay6 f7 (0) (by omega) (by omega) (by decide) dX10_evens_131 ?_
              rw [show t9 (0) = K (7 * k + 4) from (h9 0 (by omega)).trans (by rw [show k = 0 by omega])]
              refine z_bipush (z := 8) C dX10_evens_132 (by decide) ?_
              refine z_idiv C dX10_evens_134 (by omega) (by omega) (by omega) ?_
              obtain ⟨xy43, exy43, hxy43⟩ : ∃ x9, (K (7 * k + 4)).tdiv 8 = x9 ∧ (0 ≤ K (7 * k + 4) → 0 ≤ x9 ∧ 8 * x9 ≤ K (7 * k + 4) ∧ K (7 * k + 4) < 8 * x9 + 8) ∧ (K (7 * k + 4) ≤ 0 → x9 ≤ 0 ∧ K (7 * k + 4) ≤ 8 * x9 ∧ 8 * x9 < K (7 * k + 4) + 8) := tdk 8 (by decide)
              rw [exy43]
              have hdn : dnE K k = xy43 := by unfold dnE; rw [if_pos (by omega)]; exact exy43
              refine z_isub C dX10_evens_135 ?_
              refine z_istore (lv' := [(5, .int (zI (((K (7 * k + 4)) - xy31) - xy43))), (0, .ref (ad i)), (1, .int (zI ((b : Int)))), (2, .int (zI ((s : Int)))), (3, .int (zI ((n : Int)))), (4, .int (zI ((k : Int))))]) C dX10_evens_136 (by decide) rfl ?_
              refine z_aload_n C 1 dX10_evens_138 rfl ?_
              refine z_iload_n C 2 dX10_evens_139 rfl ?_
              refine z_iload_n C 3 dX10_evens_140 rfl ?_
              refine z_iload C 5 dX10_evens_141 rfl ?_
              refine z_iconst (z := 4) C dX10_evens_143 rfl ?_
              refine z_iload C 0 dX10_evens_144 rfl ?_
              refine z_iconst (z := 0) C dX10_evens_146 rfl ?_
              refine z_cS (As := [.int (zI (((K (7 * k + 4)) - xy31) - xy43)), .int (zI (0))]) (rest := [.int (zI (4)), .int (zI ((k : Int))), .int (zI ((s : Int))), .int (zI ((b : Int))), .ref (ad i)]) C (c_X10_lesser l D A cs tt N ad _ (((K (7 * k + 4)) - xy31) - xy43) (by omega) (0) (by omega)) ms_yX10_lesser q_1792 hd_yX10_lesser (by decide) (Nat.le_of_ble_eq_true rfl) (by decide) dX10_evens_147 rfl (kI0 fun vy44 gvy44 hvy44 => ?_)
              obtain ⟨hvy44, rfl⟩ := hvy44
              have hqy45k : ((k : Int) : Int) = ((k : Nat) : Int) := by omega
              obtain ⟨qy45, hqy45⟩ : ∃ q9 : Nat, p + 2 + 7 * k = q9 := ⟨_, rfl⟩
              refine z_cV (As := [.int (zI ((b : Int))), .int (zI ((s : Int))), .int (zI ((k : Int))), .int (zI (4)), .int (zI (vy44))]) (rest := []) (ci := 12) C (c_X10_sets l D A cs tt N ad _ i hN _ ((f3 _ (by omega) (by omega)).trans hg) _ f2 b s p hp (by omega) (by omega) ((k : Int)) (4) (qy45 + 4) (by omega) (by omega) (by omega) (vy44)) (lt_A0 hN rfl) hay4 ((f3 _ (by omega) (by omega)).trans hg) rfl rfl mv_yX10_sets q_1908 hd_yX10_sets (by decide) (Nat.le_of_ble_eq_true rfl) (by decide) dX10_evens_150 rfl (kV0 fun gvy46 hvy46 => ?_)
              obtain ⟨hcvy46, hfvy46⟩ := hvy46
              obtain ⟨ry47, hvy48⟩ : ∃ rZ9 : Nat → Int, rZ9 = uZ r9 (qy45 + 4) (vy44) := ⟨_, rfl⟩
              rw [← hvy48] at hcvy46
              obtain ⟨Ky50, hKy51⟩ : ∃ KZ9 : Nat → Int, KZ9 = uZ K9 (7 * k + 4) (vy44) := ⟨_, rfl⟩
              have hCy49 := lay_r hC9 hvy48 hKy51 (by omega)
              refine z_iinc (z := (k : Int) + 1) (lv' := [(4, .int (zI ((k : Int) + 1))), (5, .int (zI (((K (7 * k + 4)) - xy31) - xy43))), (0, .ref (ad i)), (1, .int (zI ((b : Int)))), (2, .int (zI ((s : Int)))), (3, .int (zI ((n : Int))))]) (j := 5) C dX10_evens_153 rfl rfl (by decide) rfl ?_
              refine z_goto (tgt := 41) C dX10_evens_156 (by decide) ?_
              have hgy52 := (hfvy46 (i + 14) (ne_o (i := i) (c := 14) (d := 1) rfl)).trans f7
              have hfry53 : ∀ j, j ≠ qy45 + 4 → ry47 j = r9 j := fun j n0 => (congrFun hvy48 _).trans ((uZ_n _ _ n0).trans (rfl))
              refine z_lv (lv' := [(0, .ref (ad i)), (1, .int (zI ((b : Int)))), (2, .int (zI ((s : Int)))), (3, .int (zI ((n : Int)))), (4, .int (zI ((k : Int) + 1)))]) [2, 3, 4, 5, 0] rfl ?_
              have hx : vy44 = evZ K n k := by unfold evZ mnZ; rw [hdn, hup]; split <;> omega
              have hKn : Ky50 = stK K (k + 1) 4 0 (fun l => evZ K n l) := by rw [hKy51, hx, hK9]; exact stK_up (v := (fun l => evZ K n l)) (by decide)
              have hO2 := evs2_ok (k := k + 1) hO (by omega)
              rw [← hKn] at hO2
              exact ih_lp2 _ (by omega) ((k : Int) + 1) Ky50 ry47 t9 (k + 1) gvy46 rfl hcvy46 (fun j j1 j2 => by rw [hfvy46 _ (by omega)]; exact f3 j j1 j2) (fun j a1 => (hfry53 j (by omega)).trans (f5 j a1)) (((congrFun hvy48 _).trans ((uZ_n _ _ (by omega)).trans (rfl))).trans hn9) ((((congrFun hvy48 _).trans ((uZ_n _ _ (by omega)).trans (rfl))) : ry47 (p + 1) = r9 (p + 1)).trans hr9) hCy49 hO2 hgy52 h9 (by omega) (by omega) hKn
        · refine z_iload C 0 dX10_evens_64 rfl ?_
          refine z_aload_n C 1 dX10_evens_66 rfl ?_
          refine z_get (v := .ref (ad (i + 14))) C (lt_A0 hN rfl) hay4 ((f3 _ (by omega) (by omega)).trans hg) rfl inA_X10 30 (by decide) q_1489 rfl rfl dX10_evens_67 ?_
          refine z_iload C 5 dX10_evens_70 rfl ?_
          refine z_iconst (z := 1) C dX10_evens_72 rfl ?_
          refine z_iadd C dX10_evens_73 ?_
          refine z_iald C (lt_A (c := 14) hN rfl) hay6 f7 (k + 1) (by omega) (by omega) (by decide) dX10_evens_74 ?_
          rw [show t9 (k + 1) = K (7 * (k + 1) + 4) from h9 (k + 1) (by omega)]
          have hT1 := hT9 (k + 1) (by omega)
          refine z_aload_n C 1 dX10_evens_75 rfl ?_
          refine z_get (v := .ref (ad (i + 14))) C (lt_A0 hN rfl) hay4 ((f3 _ (by omega) (by omega)).trans hg) rfl inA_X10 30 (by decide) q_1489 rfl rfl dX10_evens_76 ?_
          refine z_iload C 5 dX10_evens_79 rfl ?_
          refine z_iald C (lt_A (c := 14) hN rfl) hay6 f7 (k) (by omega) (by omega) (by decide) dX10_evens_81 ?_
          rw [show t9 (k) = K (7 * k + 4) from h9 k (by omega)]
          refine z_isub C dX10_evens_82 ?_
          refine z_bipush (z := 8) C dX10_evens_83 (by decide) ?_
          refine z_idiv C dX10_evens_85 (by omega) (by omega) (by omega) ?_
          obtain ⟨xy54, exy54, hxy54⟩ : ∃ x9, ((K (7 * (k + 1) + 4)) - (K (7 * k + 4))).tdiv 8 = x9 ∧ (0 ≤ (K (7 * (k + 1) + 4)) - (K (7 * k + 4)) → 0 ≤ x9 ∧ 8 * x9 ≤ (K (7 * (k + 1) + 4)) - (K (7 * k + 4)) ∧ (K (7 * (k + 1) + 4)) - (K (7 * k + 4)) < 8 * x9 + 8) ∧ ((K (7 * (k + 1) + 4)) - (K (7 * k + 4)) ≤ 0 → x9 ≤ 0 ∧ (K (7 * (k + 1) + 4)) - (K (7 * k + 4)) ≤ 8 * x9 ∧ 8 * x9 < (K (7 * (k + 1) + 4)) - (K (7 * k + 4)) + 8) := tdk 8 (by decide)
          rw [exy54]
          have hup : upE K n k = xy54 := by unfold upE; rw [if_pos (by omega)]; exact exy54
          refine z_iadd C dX10_evens_86 ?_
          refine z_istore (lv' := [(5, .int (zI ((K (7 * k + 4)) + xy54))), (0, .ref (ad i)), (1, .int (zI ((b : Int)))), (2, .int (zI ((s : Int)))), (3, .int (zI ((n : Int)))), (4, .int (zI ((k : Int))))]) C dX10_evens_87 (by decide) rfl ?_
          refine z_iload C 5 dX10_evens_89 rfl ?_
          refine z_if_le (tgt := 119) C dX10_evens_91 (by decide) (by omega) (fun hby55 => ?_) (fun hby55 => ?_)
          · refine z_iload C 5 dX10_evens_119 rfl ?_
            refine z_if_ne (tgt := 138) C dX10_evens_121 (by decide) (by omega) (fun hby56 => ?_) (fun hby56 => ?_)
            · refine z_aload_n C 1 dX10_evens_138 rfl ?_
              refine z_iload_n C 2 dX10_evens_139 rfl ?_
              refine z_iload_n C 3 dX10_evens_140 rfl ?_
              refine z_iload C 5 dX10_evens_141 rfl ?_
              refine z_iconst (z := 4) C dX10_evens_143 rfl ?_
              refine z_iload C 0 dX10_evens_144 rfl ?_
              refine z_iconst (z := 0) C dX10_evens_146 rfl ?_
              refine z_cS (As := [.int (zI ((K (7 * k + 4)) + xy54)), .int (zI (0))]) (rest := [.int (zI (4)), .int (zI ((k : Int))), .int (zI ((s : Int))), .int (zI ((b : Int))), .ref (ad i)]) C (c_X10_lesser l D A cs tt N ad _ ((K (7 * k + 4)) + xy54) (by omega) (0) (by omega)) ms_yX10_lesser q_1792 hd_yX10_lesser (by decide) (Nat.le_of_ble_eq_true rfl) (by decide) dX10_evens_147 rfl (kI0 fun vy57 gvy57 hvy57 => ?_)
              obtain ⟨hvy57, rfl⟩ := hvy57
              have hqy58k : ((k : Int) : Int) = ((k : Nat) : Int) := by omega
              obtain ⟨qy58, hqy58⟩ : ∃ q9 : Nat, p + 2 + 7 * k = q9 := ⟨_, rfl⟩
              refine z_cV (As := [.int (zI ((b : Int))), .int (zI ((s : Int))), .int (zI ((k : Int))), .int (zI (4)), .int (zI (vy57))]) (rest := []) (ci := 12) C (c_X10_sets l D A cs tt N ad _ i hN _ ((f3 _ (by omega) (by omega)).trans hg) _ f2 b s p hp (by omega) (by omega) ((k : Int)) (4) (qy58 + 4) (by omega) (by omega) (by omega) (vy57)) (lt_A0 hN rfl) hay4 ((f3 _ (by omega) (by omega)).trans hg) rfl rfl mv_yX10_sets q_1908 hd_yX10_sets (by decide) (Nat.le_of_ble_eq_true rfl) (by decide) dX10_evens_150 rfl (kV0 fun gvy59 hvy59 => ?_)
              obtain ⟨hcvy59, hfvy59⟩ := hvy59
              obtain ⟨ry60, hvy61⟩ : ∃ rZ9 : Nat → Int, rZ9 = uZ r9 (qy58 + 4) (vy57) := ⟨_, rfl⟩
              rw [← hvy61] at hcvy59
              obtain ⟨Ky63, hKy64⟩ : ∃ KZ9 : Nat → Int, KZ9 = uZ K9 (7 * k + 4) (vy57) := ⟨_, rfl⟩
              have hCy62 := lay_r hC9 hvy61 hKy64 (by omega)
              refine z_iinc (z := (k : Int) + 1) (lv' := [(4, .int (zI ((k : Int) + 1))), (5, .int (zI ((K (7 * k + 4)) + xy54))), (0, .ref (ad i)), (1, .int (zI ((b : Int)))), (2, .int (zI ((s : Int)))), (3, .int (zI ((n : Int))))]) (j := 5) C dX10_evens_153 rfl rfl (by decide) rfl ?_
              refine z_goto (tgt := 41) C dX10_evens_156 (by decide) ?_
              have hgy65 := (hfvy59 (i + 14) (ne_o (i := i) (c := 14) (d := 1) rfl)).trans f7
              exfalso; omega
            · refine z_iload C 0 dX10_evens_124 rfl ?_
              refine z_aload_n C 1 dX10_evens_126 rfl ?_
              refine z_get (v := .ref (ad (i + 14))) C (lt_A0 hN rfl) hay4 ((f3 _ (by omega) (by omega)).trans hg) rfl inA_X10 30 (by decide) q_1489 rfl rfl dX10_evens_127 ?_
              refine z_iconst (z := 0) C dX10_evens_130 rfl ?_
              refine z_iald C (lt_A (c := 14) hN rfl) hay6 f7 (0) (by omega) (by omega) (by decide) dX10_evens_131 ?_
              rw [show t9 (0) = K (7 * k + 4) from (h9 0 (by omega)).trans (by rw [show k = 0 by omega])]
              refine z_bipush (z := 8) C dX10_evens_132 (by decide) ?_
              refine z_idiv C dX10_evens_134 (by omega) (by omega) (by omega) ?_
              obtain ⟨xy66, exy66, hxy66⟩ : ∃ x9, (K (7 * k + 4)).tdiv 8 = x9 ∧ (0 ≤ K (7 * k + 4) → 0 ≤ x9 ∧ 8 * x9 ≤ K (7 * k + 4) ∧ K (7 * k + 4) < 8 * x9 + 8) ∧ (K (7 * k + 4) ≤ 0 → x9 ≤ 0 ∧ K (7 * k + 4) ≤ 8 * x9 ∧ 8 * x9 < K (7 * k + 4) + 8) := tdk 8 (by decide)
              rw [exy66]
              have hdn : dnE K k = xy66 := by unfold dnE; rw [if_pos (by omega)]; exact exy66
              refine z_isub C dX10_evens_135 ?_
              refine z_istore (lv' := [(5, .int (zI (((K (7 * k + 4)) + xy54) - xy66))), (0, .ref (ad i)), (1, .int (zI ((b : Int)))), (2, .int (zI ((s : Int)))), (3, .int (zI ((n : Int)))), (4, .int (zI ((k : Int))))]) C dX10_evens_136 (by decide) rfl ?_
              refine z_aload_n C 1 dX10_evens_138 rfl ?_
              refine z_iload_n C 2 dX10_evens_139 rfl ?_
              refine z_iload_n C 3 dX10_evens_140 rfl ?_
              refine z_iload C 5 dX10_evens_141 rfl ?_
              refine z_iconst (z := 4) C dX10_evens_143 rfl ?_
              refine z_iload C 0 dX10_evens_144 rfl ?_
              refine z_iconst (z := 0) C dX10_evens_146 rfl ?_
              refine z_cS (As := [.int (zI (((K (7 * k + 4)) + xy54) - xy66)), .int (zI (0))]) (rest := [.int (zI (4)), .int (zI ((k : Int))), .int (zI ((s : Int))), .int (zI ((b : Int))), .ref (ad i)]) C (c_X10_lesser l D A cs tt N ad _ (((K (7 * k + 4)) + xy54) - xy66) (by omega) (0) (by omega)) ms_yX10_lesser q_1792 hd_yX10_lesser (by decide) (Nat.le_of_ble_eq_true rfl) (by decide) dX10_evens_147 rfl (kI0 fun vy67 gvy67 hvy67 => ?_)
              obtain ⟨hvy67, rfl⟩ := hvy67
              have hqy68k : ((k : Int) : Int) = ((k : Nat) : Int) := by omega
              obtain ⟨qy68, hqy68⟩ : ∃ q9 : Nat, p + 2 + 7 * k = q9 := ⟨_, rfl⟩
              refine z_cV (As := [.int (zI ((b : Int))), .int (zI ((s : Int))), .int (zI ((k : Int))), .int (zI (4)), .int (zI (vy67))]) (rest := []) (ci := 12) C (c_X10_sets l D A cs tt N ad _ i hN _ ((f3 _ (by omega) (by omega)).trans hg) _ f2 b s p hp (by omega) (by omega) ((k : Int)) (4) (qy68 + 4) (by omega) (by omega) (by omega) (vy67)) (lt_A0 hN rfl) hay4 ((f3 _ (by omega) (by omega)).trans hg) rfl rfl mv_yX10_sets q_1908 hd_yX10_sets (by decide) (Nat.le_of_ble_eq_true rfl) (by decide) dX10_evens_150 rfl (kV0 fun gvy69 hvy69 => ?_)
              obtain ⟨hcvy69, hfvy69⟩ := hvy69
              obtain ⟨ry70, hvy71⟩ : ∃ rZ9 : Nat → Int, rZ9 = uZ r9 (qy68 + 4) (vy67) := ⟨_, rfl⟩
              rw [← hvy71] at hcvy69
              obtain ⟨Ky73, hKy74⟩ : ∃ KZ9 : Nat → Int, KZ9 = uZ K9 (7 * k + 4) (vy67) := ⟨_, rfl⟩
              have hCy72 := lay_r hC9 hvy71 hKy74 (by omega)
              refine z_iinc (z := (k : Int) + 1) (lv' := [(4, .int (zI ((k : Int) + 1))), (5, .int (zI (((K (7 * k + 4)) + xy54) - xy66))), (0, .ref (ad i)), (1, .int (zI ((b : Int)))), (2, .int (zI ((s : Int)))), (3, .int (zI ((n : Int))))]) (j := 5) C dX10_evens_153 rfl rfl (by decide) rfl ?_
              refine z_goto (tgt := 41) C dX10_evens_156 (by decide) ?_
              have hgy75 := (hfvy69 (i + 14) (ne_o (i := i) (c := 14) (d := 1) rfl)).trans f7
              have hfry76 : ∀ j, j ≠ qy68 + 4 → ry70 j = r9 j := fun j n0 => (congrFun hvy71 _).trans ((uZ_n _ _ n0).trans (rfl))
              refine z_lv (lv' := [(0, .ref (ad i)), (1, .int (zI ((b : Int)))), (2, .int (zI ((s : Int)))), (3, .int (zI ((n : Int)))), (4, .int (zI ((k : Int) + 1)))]) [2, 3, 4, 5, 0] rfl ?_
              have hx : vy67 = evZ K n k := by unfold evZ mnZ; rw [hdn, hup]; split <;> omega
              have hKn : Ky73 = stK K (k + 1) 4 0 (fun l => evZ K n l) := by rw [hKy74, hx, hK9]; exact stK_up (v := (fun l => evZ K n l)) (by decide)
              have hO2 := evs2_ok (k := k + 1) hO (by omega)
              rw [← hKn] at hO2
              exact ih_lp2 _ (by omega) ((k : Int) + 1) Ky73 ry70 t9 (k + 1) gvy69 rfl hcvy69 (fun j j1 j2 => by rw [hfvy69 _ (by omega)]; exact f3 j j1 j2) (fun j a1 => (hfry76 j (by omega)).trans (f5 j a1)) (((congrFun hvy71 _).trans ((uZ_n _ _ (by omega)).trans (rfl))).trans hn9) ((((congrFun hvy71 _).trans ((uZ_n _ _ (by omega)).trans (rfl))) : ry70 (p + 1) = r9 (p + 1)).trans hr9) hCy72 hO2 hgy75 h9 (by omega) (by omega) hKn
          · refine z_iload C 0 dX10_evens_94 rfl ?_
            refine z_aload_n C 1 dX10_evens_96 rfl ?_
            refine z_get (v := .ref (ad (i + 14))) C (lt_A0 hN rfl) hay4 ((f3 _ (by omega) (by omega)).trans hg) rfl inA_X10 30 (by decide) q_1489 rfl rfl dX10_evens_97 ?_
            refine z_iload C 5 dX10_evens_100 rfl ?_
            refine z_iald C (lt_A (c := 14) hN rfl) hay6 f7 (k) (by omega) (by omega) (by decide) dX10_evens_102 ?_
            rw [show t9 (k) = K (7 * k + 4) from h9 k (by omega)]
            refine z_aload_n C 1 dX10_evens_103 rfl ?_
            refine z_get (v := .ref (ad (i + 14))) C (lt_A0 hN rfl) hay4 ((f3 _ (by omega) (by omega)).trans hg) rfl inA_X10 30 (by decide) q_1489 rfl rfl dX10_evens_104 ?_
            refine z_iload C 5 dX10_evens_107 rfl ?_
            refine z_iconst (z := 1) C dX10_evens_109 rfl ?_
            refine z_isub C dX10_evens_110 ?_
            refine z_iald C (lt_A (c := 14) hN rfl) hay6 f7 (k - 1) (by omega) (by omega) (by decide) dX10_evens_111 ?_
            rw [show t9 (k - 1) = K (7 * (k - 1) + 4) from h9 (k - 1) (by omega)]
            have hT2 := hT9 (k - 1) (by omega)
            refine z_isub C dX10_evens_112 ?_
            refine z_bipush (z := 8) C dX10_evens_113 (by decide) ?_
            refine z_idiv C dX10_evens_115 (by omega) (by omega) (by omega) ?_
            obtain ⟨xy77, exy77, hxy77⟩ : ∃ x9, ((K (7 * k + 4)) - (K (7 * (k - 1) + 4))).tdiv 8 = x9 ∧ (0 ≤ (K (7 * k + 4)) - (K (7 * (k - 1) + 4)) → 0 ≤ x9 ∧ 8 * x9 ≤ (K (7 * k + 4)) - (K (7 * (k - 1) + 4)) ∧ (K (7 * k + 4)) - (K (7 * (k - 1) + 4)) < 8 * x9 + 8) ∧ ((K (7 * k + 4)) - (K (7 * (k - 1) + 4)) ≤ 0 → x9 ≤ 0 ∧ (K (7 * k + 4)) - (K (7 * (k - 1) + 4)) ≤ 8 * x9 ∧ 8 * x9 < (K (7 * k + 4)) - (K (7 * (k - 1) + 4)) + 8) := tdk 8 (by decide)
            rw [exy77]
            have hdn : dnE K k = xy77 := by unfold dnE; rw [if_neg (by omega)]; exact exy77
            refine z_isub C dX10_evens_116 ?_
            refine z_istore (lv' := [(5, .int (zI (((K (7 * k + 4)) + xy54) - xy77))), (0, .ref (ad i)), (1, .int (zI ((b : Int)))), (2, .int (zI ((s : Int)))), (3, .int (zI ((n : Int)))), (4, .int (zI ((k : Int))))]) C dX10_evens_117 (by decide) rfl ?_
            refine z_iload C 5 dX10_evens_119 rfl ?_
            refine z_if_ne (tgt := 138) C dX10_evens_121 (by decide) (by omega) (fun hby78 => ?_) (fun hby78 => ?_)
            · refine z_aload_n C 1 dX10_evens_138 rfl ?_
              refine z_iload_n C 2 dX10_evens_139 rfl ?_
              refine z_iload_n C 3 dX10_evens_140 rfl ?_
              refine z_iload C 5 dX10_evens_141 rfl ?_
              refine z_iconst (z := 4) C dX10_evens_143 rfl ?_
              refine z_iload C 0 dX10_evens_144 rfl ?_
              refine z_iconst (z := 0) C dX10_evens_146 rfl ?_
              refine z_cS (As := [.int (zI (((K (7 * k + 4)) + xy54) - xy77)), .int (zI (0))]) (rest := [.int (zI (4)), .int (zI ((k : Int))), .int (zI ((s : Int))), .int (zI ((b : Int))), .ref (ad i)]) C (c_X10_lesser l D A cs tt N ad _ (((K (7 * k + 4)) + xy54) - xy77) (by omega) (0) (by omega)) ms_yX10_lesser q_1792 hd_yX10_lesser (by decide) (Nat.le_of_ble_eq_true rfl) (by decide) dX10_evens_147 rfl (kI0 fun vy79 gvy79 hvy79 => ?_)
              obtain ⟨hvy79, rfl⟩ := hvy79
              have hqy80k : ((k : Int) : Int) = ((k : Nat) : Int) := by omega
              obtain ⟨qy80, hqy80⟩ : ∃ q9 : Nat, p + 2 + 7 * k = q9 := ⟨_, rfl⟩
              refine z_cV (As := [.int (zI ((b : Int))), .int (zI ((s : Int))), .int (zI ((k : Int))), .int (zI (4)), .int (zI (vy79))]) (rest := []) (ci := 12) C (c_X10_sets l D A cs tt N ad _ i hN _ ((f3 _ (by omega) (by omega)).trans hg) _ f2 b s p hp (by omega) (by omega) ((k : Int)) (4) (qy80 + 4) (by omega) (by omega) (by omega) (vy79)) (lt_A0 hN rfl) hay4 ((f3 _ (by omega) (by omega)).trans hg) rfl rfl mv_yX10_sets q_1908 hd_yX10_sets (by decide) (Nat.le_of_ble_eq_true rfl) (by decide) dX10_evens_150 rfl (kV0 fun gvy81 hvy81 => ?_)
              obtain ⟨hcvy81, hfvy81⟩ := hvy81
              obtain ⟨ry82, hvy83⟩ : ∃ rZ9 : Nat → Int, rZ9 = uZ r9 (qy80 + 4) (vy79) := ⟨_, rfl⟩
              rw [← hvy83] at hcvy81
              obtain ⟨Ky85, hKy86⟩ : ∃ KZ9 : Nat → Int, KZ9 = uZ K9 (7 * k + 4) (vy79) := ⟨_, rfl⟩
              have hCy84 := lay_r hC9 hvy83 hKy86 (by omega)
              refine z_iinc (z := (k : Int) + 1) (lv' := [(4, .int (zI ((k : Int) + 1))), (5, .int (zI (((K (7 * k + 4)) + xy54) - xy77))), (0, .ref (ad i)), (1, .int (zI ((b : Int)))), (2, .int (zI ((s : Int)))), (3, .int (zI ((n : Int))))]) (j := 5) C dX10_evens_153 rfl rfl (by decide) rfl ?_
              refine z_goto (tgt := 41) C dX10_evens_156 (by decide) ?_
              have hgy87 := (hfvy81 (i + 14) (ne_o (i := i) (c := 14) (d := 1) rfl)).trans f7
              have hfry88 : ∀ j, j ≠ qy80 + 4 → ry82 j = r9 j := fun j n0 => (congrFun hvy83 _).trans ((uZ_n _ _ n0).trans (rfl))
              refine z_lv (lv' := [(0, .ref (ad i)), (1, .int (zI ((b : Int)))), (2, .int (zI ((s : Int)))), (3, .int (zI ((n : Int)))), (4, .int (zI ((k : Int) + 1)))]) [2, 3, 4, 5, 0] rfl ?_
              have hx : vy79 = evZ K n k := by unfold evZ mnZ; rw [hdn, hup]; split <;> omega
              have hKn : Ky85 = stK K (k + 1) 4 0 (fun l => evZ K n l) := by rw [hKy86, hx, hK9]; exact stK_up (v := (fun l => evZ K n l)) (by decide)
              have hO2 := evs2_ok (k := k + 1) hO (by omega)
              rw [← hKn] at hO2
              exact ih_lp2 _ (by omega) ((k : Int) + 1) Ky85 ry82 t9 (k + 1) gvy81 rfl hcvy81 (fun j j1 j2 => by rw [hfvy81 _ (by omega)]; exact f3 j j1 j2) (fun j a1 => (hfry88 j (by omega)).trans (f5 j a1)) (((congrFun hvy83 _).trans ((uZ_n _ _ (by omega)).trans (rfl))).trans hn9) ((((congrFun hvy83 _).trans ((uZ_n _ _ (by omega)).trans (rfl))) : ry82 (p + 1) = r9 (p + 1)).trans hr9) hCy84 hO2 hgy87 h9 (by omega) (by omega) hKn
            · refine z_iload C 0 dX10_evens_124 rfl ?_
              refine z_aload_n C 1 dX10_evens_126 rfl ?_
              refine z_get (v := .ref (ad (i + 14))) C (lt_A0 hN rfl) hay4 ((f3 _ (by omega) (by omega)).trans hg) rfl inA_X10 30 (by decide) q_1489 rfl rfl dX10_evens_127 ?_
              refine z_iconst (z := 0) C dX10_evens_130 rfl ?_
              refine z_iald C (lt_A (c := 14) hN rfl) hay6 f7 (0) (by omega) (by omega) (by decide) dX10_evens_131 ?_
              rw [show t9 (0) = K (7 * k + 4) from (h9 0 (by omega)).trans (by rw [show k = 0 by omega])]
              refine z_bipush (z := 8) C dX10_evens_132 (by decide) ?_
              refine z_idiv C dX10_evens_134 (by omega) (by omega) (by omega) ?_
              obtain ⟨xy89, exy89, hxy89⟩ : ∃ x9, (K (7 * k + 4)).tdiv 8 = x9 ∧ (0 ≤ K (7 * k + 4) → 0 ≤ x9 ∧ 8 * x9 ≤ K (7 * k + 4) ∧ K (7 * k + 4) < 8 * x9 + 8) ∧ (K (7 * k + 4) ≤ 0 → x9 ≤ 0 ∧ K (7 * k + 4) ≤ 8 * x9 ∧ 8 * x9 < K (7 * k + 4) + 8) := tdk 8 (by decide)
              rw [exy89]
              have hdn : dnE K k = xy89 := by unfold dnE; rw [if_pos (by omega)]; exact exy89
              refine z_isub C dX10_evens_135 ?_
              refine z_istore (lv' := [(5, .int (zI ((((K (7 * k + 4)) + xy54) - xy77) - xy89))), (0, .ref (ad i)), (1, .int (zI ((b : Int)))), (2, .int (zI ((s : Int)))), (3, .int (zI ((n : Int)))), (4, .int (zI ((k : Int))))]) C dX10_evens_136 (by decide) rfl ?_
              refine z_aload_n C 1 dX10_evens_138 rfl ?_
              refine z_iload_n C 2 dX10_evens_139 rfl ?_
              refine z_iload_n C 3 dX10_evens_140 rfl ?_
              refine z_iload C 5 dX10_evens_141 rfl ?_
              refine z_iconst (z := 4) C dX10_evens_143 rfl ?_
              refine z_iload C 0 dX10_evens_144 rfl ?_
              refine z_iconst (z := 0) C dX10_evens_146 rfl ?_
              refine z_cS (As := [.int (zI ((((K (7 * k + 4)) + xy54) - xy77) - xy89)), .int (zI (0))]) (rest := [.int (zI (4)), .int (zI ((k : Int))), .int (zI ((s : Int))), .int (zI ((b : Int))), .ref (ad i)]) C (c_X10_lesser l D A cs tt N ad _ ((((K (7 * k + 4)) + xy54) - xy77) - xy89) (by omega) (0) (by omega)) ms_yX10_lesser q_1792 hd_yX10_lesser (by decide) (Nat.le_of_ble_eq_true rfl) (by decide) dX10_evens_147 rfl (kI0 fun vy90 gvy90 hvy90 => ?_)
              obtain ⟨hvy90, rfl⟩ := hvy90
              have hqy91k : ((k : Int) : Int) = ((k : Nat) : Int) := by omega
              obtain ⟨qy91, hqy91⟩ : ∃ q9 : Nat, p + 2 + 7 * k = q9 := ⟨_, rfl⟩
              refine z_cV (As := [.int (zI ((b : Int))), .int (zI ((s : Int))), .int (zI ((k : Int))), .int (zI (4)), .int (zI (vy90))]) (rest := []) (ci := 12) C (c_X10_sets l D A cs tt N ad _ i hN _ ((f3 _ (by omega) (by omega)).trans hg) _ f2 b s p hp (by omega) (by omega) ((k : Int)) (4) (qy91 + 4) (by omega) (by omega) (by omega) (vy90)) (lt_A0 hN rfl) hay4 ((f3 _ (by omega) (by omega)).trans hg) rfl rfl mv_yX10_sets q_1908 hd_yX10_sets (by decide) (Nat.le_of_ble_eq_true rfl) (by decide) dX10_evens_150 rfl (kV0 fun gvy92 hvy92 => ?_)
              obtain ⟨hcvy92, hfvy92⟩ := hvy92
              obtain ⟨ry93, hvy94⟩ : ∃ rZ9 : Nat → Int, rZ9 = uZ r9 (qy91 + 4) (vy90) := ⟨_, rfl⟩
              rw [← hvy94] at hcvy92
              obtain ⟨Ky96, hKy97⟩ : ∃ KZ9 : Nat → Int, KZ9 = uZ K9 (7 * k + 4) (vy90) := ⟨_, rfl⟩
              have hCy95 := lay_r hC9 hvy94 hKy97 (by omega)
              refine z_iinc (z := (k : Int) + 1) (lv' := [(4, .int (zI ((k : Int) + 1))), (5, .int (zI ((((K (7 * k + 4)) + xy54) - xy77) - xy89))), (0, .ref (ad i)), (1, .int (zI ((b : Int)))), (2, .int (zI ((s : Int)))), (3, .int (zI ((n : Int))))]) (j := 5) C dX10_evens_153 rfl rfl (by decide) rfl ?_
              refine z_goto (tgt := 41) C dX10_evens_156 (by decide) ?_
              have hgy98 := (hfvy92 (i + 14) (ne_o (i := i) (c := 14) (d := 1) rfl)).trans f7
              have hfry99 : ∀ j, j ≠ qy91 + 4 → ry93 j = r9 j := fun j n0 => (congrFun hvy94 _).trans ((uZ_n _ _ n0).trans (rfl))
              refine z_lv (lv' := [(0, .ref (ad i)), (1, .int (zI ((b : Int)))), (2, .int (zI ((s : Int)))), (3, .int (zI ((n : Int)))), (4, .int (zI ((k : Int) + 1)))]) [2, 3, 4, 5, 0] rfl ?_
              have hx : vy90 = evZ K n k := by unfold evZ mnZ; rw [hdn, hup]; split <;> omega
              have hKn : Ky96 = stK K (k + 1) 4 0 (fun l => evZ K n l) := by rw [hKy97, hx, hK9]; exact stK_up (v := (fun l => evZ K n l)) (by decide)
              have hO2 := evs2_ok (k := k + 1) hO (by omega)
              rw [← hKn] at hO2
              exact ih_lp2 _ (by omega) ((k : Int) + 1) Ky96 ry93 t9 (k + 1) gvy92 rfl hcvy92 (fun j j1 j2 => by rw [hfvy92 _ (by omega)]; exact f3 j j1 j2) (fun j a1 => (hfry99 j (by omega)).trans (f5 j a1)) (((congrFun hvy94 _).trans ((uZ_n _ _ (by omega)).trans (rfl))).trans hn9) ((((congrFun hvy94 _).trans ((uZ_n _ _ (by omega)).trans (rfl))) : ry93 (p + 1) = r9 (p + 1)).trans hr9) hCy95 hO2 hgy98 h9 (by omega) (by omega) hKn
  have lp1 : ∀ (n9 : Nat) (ll : Int) (t9 : Nat → Int) (k : Nat) (g1 : Nat → va_E), (13 - ll).toNat = n9 → (g1 (i + 14) = iA cs 14 t9) → (∀ j, j ≠ i + 14 → g1 j = g j) → (ll = (k : Int)) → (k ≤ n) → (∀ j, j < k → t9 j = K (7 * j + 4)) → zV pY l eY ({ frames := 3, cells := 0, slots := 0, locals := 180 } : Room) sY mY ([.ref (ad i), .int (zI ((b : Int))), .int (zI ((s : Int)))] : List Value).toArray below meth cY (MQ below (zPost D A (rV0 N ad fun g' => (∃ r' : Nat → Int, g' (i + 1) = iA cs 29200 r' ∧ isS r' p ((n, stK K n 4 0 (fun l => evZ K n l), ro)) ∧ (∀ j, j < p ∨ p + 86 ≤ j → r' j = r j)) ∧ (∃ t' : Nat → Int, g' (i + 14) = iA cs 14 t') ∧ ∀ j, j ≠ i + 1 → j ≠ i + 14 → g' j = g j)) ([.ref (ad i), .int (zI ((b : Int))), .int (zI ((s : Int)))] : List Value).toArray sY ({ frames := 3, cells := 0, slots := 0, locals := 180 } : Room).cells ({ frames := 3, cells := 0, slots := 0, locals := 180 } : Room).slots A) D A 6 (N) ad g1 (0) (0) 10 [(0, .ref (ad i)), (1, .int (zI ((b : Int)))), (2, .int (zI ((s : Int)))), (3, .int (zI ((n : Int)))), (4, .int (zI (ll)))] [] := by
    intro n9
    induction n9 using Nat.strongRecOn with
    | ind n9 ih_lp1 =>
      intro ll t9 k g1 hm9 f2 f3 hik hkn h9
      have hay100 : zAt ad (i) (ad i) := rfl
      have hay101 : zAt ad (i + 1) (ad (i + 1)) := rfl
      have hay102 : zAt ad (i + 14) (ad (i + 14)) := rfl
      subst hik
      refine z_iload C 4 dX10_evens_10 rfl ?_
      refine z_iload_n C 3 dX10_evens_12 rfl ?_
      refine z_icmp_ge (tgt := 38) C dX10_evens_13 (by decide) (by omega) (by omega) (fun hby103 => ?_) (fun hby103 => ?_)
      · refine z_iconst (z := 0) C dX10_evens_38 rfl ?_
        refine z_istore (lv' := [(4, .int (zI (0))), (0, .ref (ad i)), (1, .int (zI ((b : Int)))), (2, .int (zI ((s : Int)))), (3, .int (zI ((n : Int))))]) C dX10_evens_39 (by decide) rfl ?_
        refine z_lv (lv' := [(0, .ref (ad i)), (1, .int (zI ((b : Int)))), (2, .int (zI ((s : Int)))), (3, .int (zI ((n : Int)))), (4, .int (zI (0)))]) [1, 2, 3, 4, 0] rfl ?_
        have hK0 : K = stK K 0 4 0 (fun l => evZ K n l) := by funext q9; exact (stK_o (by omega)).symm
        exact lp2 _ 0 K r t9 0 g1 rfl ((f3 _ (by omega)).trans ha1) (fun j j1 j2 => f3 j j2) (fun j _ => rfl) hn hro hC hO f2 (fun j hj => h9 j (by omega)) rfl (Nat.zero_le _) hK0
      · refine z_aload_n C 0 dX10_evens_16 rfl ?_
        refine z_get (v := .ref (ad (i + 14))) C (lt_A0 hN rfl) hay100 ((f3 _ (by omega)).trans hg) rfl inA_X10 30 (by decide) q_1489 rfl rfl dX10_evens_17 ?_
        refine z_iload C 4 dX10_evens_20 rfl ?_
        refine z_aload_n C 0 dX10_evens_22 rfl ?_
        refine z_iload_n C 1 dX10_evens_23 rfl ?_
        refine z_iload_n C 2 dX10_evens_24 rfl ?_
        refine z_iload C 4 dX10_evens_25 rfl ?_
        refine z_iconst (z := 4) C dX10_evens_27 rfl ?_
        have hqy104k : ((k : Int) : Int) = ((k : Nat) : Int) := by omega
        obtain ⟨qy104, hqy104⟩ : ∃ q9 : Nat, p + 2 + 7 * k = q9 := ⟨_, rfl⟩
        refine z_cV (As := [.int (zI ((b : Int))), .int (zI ((s : Int))), .int (zI ((k : Int))), .int (zI (4))]) (rest := [.int (zI ((k : Int))), .ref (ad (i + 14))]) (ci := 12) C (c_X10_of l D A cs tt N ad _ i hN _ ((f3 _ (by omega)).trans hg) _ ((f3 _ (by omega)).trans ha1) b s p hp (by omega) (by omega) ((k : Int)) (4) (qy104 + 4) (by omega) (by omega) (by omega)) (lt_A0 hN rfl) hay100 ((f3 _ (by omega)).trans hg) rfl rfl mv_yX10_of q_1749 hd_yX10_of (by decide) (Nat.le_of_ble_eq_true rfl) (by decide) dX10_evens_28 rfl (kI0 fun vy105 gvy105 hvy105 => ?_)
        obtain ⟨rfl, rfl⟩ := hvy105
        rw [show r (qy104 + 4) = K (7 * k + 4) from (congrArg r (show qy104 + 4 = p + 2 + (7 * k + 4) by omega)).trans (hC (7 * k + 4) (by omega))]
        obtain ⟨⟨qy1060, qy1061, qy1062, qy1063, qy1064, qy1065, qy1066⟩, qy1069⟩ := hO.ly (l := k) (by omega)
        refine z_iast C (lt_A (c := 14) hN rfl) hay102 f2 (k) (by omega) (by omega) (by decide) dX10_evens_31 (fun gy107 egy108 => ?_)
        have hgy109 := up_s egy108
        refine z_iinc (z := (k : Int) + 1) (lv' := [(4, .int (zI ((k : Int) + 1))), (0, .ref (ad i)), (1, .int (zI ((b : Int)))), (2, .int (zI ((s : Int)))), (3, .int (zI ((n : Int))))]) (j := 4) C dX10_evens_32 rfl rfl (by decide) rfl ?_
        refine z_goto (tgt := 10) C dX10_evens_35 (by decide) ?_
        refine z_lv (lv' := [(0, .ref (ad i)), (1, .int (zI ((b : Int)))), (2, .int (zI ((s : Int)))), (3, .int (zI ((n : Int)))), (4, .int (zI ((k : Int) + 1)))]) [1, 2, 3, 4, 0] rfl ?_
        exact ih_lp1 _ (by omega) ((k : Int) + 1) _ (k + 1) gy107 rfl hgy109 (fun j j1 => by rw [egy108, va_up_ne _ _ (by omega)]; exact f3 j j1) (by omega) (by omega) (fun j hj => by by_cases e9 : j = k; (· rw [e9, uZ_s]); · rw [uZ_n _ _ e9]; exact h9 j (by omega))
  refine z_aload_n C 0 dX10_evens_0 rfl ?_
  refine z_iload_n C 1 dX10_evens_1 rfl ?_
  refine z_iload_n C 2 dX10_evens_2 rfl ?_
  refine z_cV (As := [.int (zI ((b : Int))), .int (zI ((s : Int)))]) (rest := []) (ci := 12) C (c_X10_many l D A cs tt N ad _ i hN _ hg _ ha1 b s p hp (by omega) (by omega)) (lt_A0 hN rfl) hay1 hg rfl rfl mv_yX10_many q_1733 hd_yX10_many (by decide) (Nat.le_of_ble_eq_true rfl) (by decide) dX10_evens_3 rfl (kI0 fun vy110 gvy110 hvy110 => ?_)
  obtain ⟨rfl, rfl⟩ := hvy110
  rw [show r (p) = (n : Int) from hn]
  refine z_istore_n (lv' := [(3, .int (zI ((n : Int)))), (0, .ref (ad i)), (1, .int (zI ((b : Int)))), (2, .int (zI ((s : Int))))]) C dX10_evens_6 rfl (by decide) rfl ?_
  refine z_iconst (z := 0) C dX10_evens_7 rfl ?_
  refine z_istore (lv' := [(4, .int (zI (0))), (3, .int (zI ((n : Int)))), (0, .ref (ad i)), (1, .int (zI ((b : Int)))), (2, .int (zI ((s : Int))))]) C dX10_evens_8 (by decide) rfl ?_
  refine z_lv (lv' := [(0, .ref (ad i)), (1, .int (zI ((b : Int)))), (2, .int (zI ((s : Int)))), (3, .int (zI ((n : Int)))), (4, .int (zI (0)))]) [2, 3, 4, 1, 0] rfl ?_
  exact lp1 _ 0 _ 0 g rfl ha14 (fun j j1 => by rfl) rfl (Nat.zero_le _) (fun j hj => absurd hj (by omega))

set_option maxRecDepth 100000 in
set_option maxHeartbeats 4000000 in
theorem c_uAges (l : Launch) (D : va_G) (A : Nat → Prop) (cs : Nat → ClassId) (tt : Nat) (N : Nat) (ad : Nat → Nat) (g : Nat → va_E) (i : Nat) (hN : i + 30 ≤ N) (F : Nat → Int) (hg : g i = mC ad i F) (r : Nat → Int) (ha1 : g (i + 1) = iA cs 29200 r) (ki : Nat → Int) (ha15 : g (i + 15) = iA cs 12 ki) (b s p : Nat) (hp : b + 6 + 86 * s = p) (hb : b + 350 ≤ 29200) (hs : s < 4) (n : Nat) (K : Nat → Int) (hn : r p = (n : Int)) (hC : ∀ q, q < 7 * n → r (p + 2 + q) = K q) (hO : okP K n) (ro : Int) (hro : r (p + 1) = ro) (hag : ∀ l, l < n → K (7 * l + 5) ≤ 99999) (z1 : Int) (hz1 : -300 ≤ z1 ∧ z1 ≤ 100) : zM l yX10_ages cX10_ages 5 none ({ frames := 5, cells := 0, slots := 0, locals := 300 } : Room) D A cs tt N ad g [.ref (ad i), .int (zI ((b : Int))), .int (zI ((s : Int))), .int (zI (z1))] (rV0 N ad fun g' => (∃ r' : Nat → Int, g' (i + 1) = iA cs 29200 r' ∧ isS r' p ((n, taK K n (taV K n z1) (taA K), ro)) ∧ (∀ j, j < p ∨ p + 86 ≤ j → r' j = r j)) ∧ (∃ t' : Nat → Int, g' (i + 15) = iA cs 12 t') ∧ ∀ j, j ≠ i + 1 → j ≠ i + 15 → g' j = g j) := by
  have hay1 : zAt ad (i) (ad i) := rfl
  have hay2 : zAt ad (i + 1) (ad (i + 1)) := rfl
  have hay3 : zAt ad (i + 15) (ad (i + 15)) := rfl
  have hn12 := hO.1
  refine z_of (by decide) (Nat.le_of_ble_eq_true rfl) ?_
  intro pY eY sY mY below meth cY C hr hlk hnm
  refine z_lv (lv' := [(0, .ref (ad i)), (1, .int (zI ((b : Int)))), (2, .int (zI ((s : Int)))), (3, .int (zI (z1)))]) [0, 1, 2, 3] rfl ?_
  have lp2 : ∀ (n9 : Nat) (ll : Int) (K9 : Nat → Int) (r9 : Nat → Int) (t9 : Nat → Int) (k : Nat) (g1 : Nat → va_E), (13 - ll).toNat = n9 → (g1 (i + 1) = iA cs 29200 r9) → (∀ j, j ≠ i + 1 → j ≠ i + 15 → g1 j = g j) → (∀ j, j < p ∨ p + 86 ≤ j → r9 j = r j) → (r9 p = (n : Int)) → (r9 (p + 1) = ro) → (∀ q, q < 7 * n → r9 (p + 2 + q) = K9 q) → (okP K9 n) → (g1 (i + 15) = iA cs 12 t9) → (∀ j, j < n → t9 j = taV K n z1 j) → (ll = (k : Int)) → (k ≤ n) → (K9 = taK K k (taV K n z1) (taA K)) → zV pY l eY ({ frames := 5, cells := 0, slots := 0, locals := 300 } : Room) sY mY ([.ref (ad i), .int (zI ((b : Int))), .int (zI ((s : Int))), .int (zI (z1))] : List Value).toArray below meth cY (MQ below (zPost D A (rV0 N ad fun g' => (∃ r' : Nat → Int, g' (i + 1) = iA cs 29200 r' ∧ isS r' p ((n, taK K n (taV K n z1) (taA K), ro)) ∧ (∀ j, j < p ∨ p + 86 ≤ j → r' j = r j)) ∧ (∃ t' : Nat → Int, g' (i + 15) = iA cs 12 t') ∧ ∀ j, j ≠ i + 1 → j ≠ i + 15 → g' j = g j)) ([.ref (ad i), .int (zI ((b : Int))), .int (zI ((s : Int))), .int (zI (z1))] : List Value).toArray sY ({ frames := 5, cells := 0, slots := 0, locals := 300 } : Room).cells ({ frames := 5, cells := 0, slots := 0, locals := 300 } : Room).slots A) D A 5 (N) ad g1 (0) (0) 39 [(0, .ref (ad i)), (1, .int (zI ((b : Int)))), (2, .int (zI ((s : Int)))), (4, .int (zI (ll)))] [] := by
    intro n9
    induction n9 using Nat.strongRecOn with
    | ind n9 ih_lp2 =>
      intro ll K9 r9 t9 k g1 hm9 f2 f3 f5 hn9 hr9 hC9 hO9 f7 h9 hik hkn hK9
      have hay4 : zAt ad (i) (ad i) := rfl
      have hay5 : zAt ad (i + 1) (ad (i + 1)) := rfl
      have hay6 : zAt ad (i + 15) (ad (i + 15)) := rfl
      have hn12 := hO.1
      subst hik
      refine z_iload C 3 dX10_ages_39 rfl ?_
      refine z_aload_n C 0 dX10_ages_41 rfl ?_
      refine z_iload_n C 1 dX10_ages_42 rfl ?_
      refine z_iload_n C 2 dX10_ages_43 rfl ?_
      refine z_cV (As := [.int (zI ((b : Int))), .int (zI ((s : Int)))]) (rest := [.int (zI ((k : Int)))]) (ci := 12) C (c_X10_many l D A cs tt N ad _ i hN _ ((f3 _ (by omega) (by omega)).trans hg) _ f2 b s p hp (by omega) (by omega)) (lt_A0 hN rfl) hay4 ((f3 _ (by omega) (by omega)).trans hg) rfl rfl mv_yX10_many q_1733 hd_yX10_many (by decide) (Nat.le_of_ble_eq_true rfl) (by decide) dX10_ages_44 rfl (kI0 fun vy7 gvy7 hvy7 => ?_)
      obtain ⟨rfl, rfl⟩ := hvy7
      rw [show r9 (p) = (n : Int) from hn9]
      refine z_icmp_ge (tgt := 92) C dX10_ages_47 (by decide) (by omega) (by omega) (fun hby8 => ?_) (fun hby8 => ?_)
      · have hjn9 : k = n := by omega
        rw [hjn9] at hK9
        rw [hK9] at hC9
        exact z_vret C hr hlk dX10_ages_92 (by decide) (by decide) ⟨rfl, rfl, rfl, ⟨_, f2, ⟨hn9, hr9, hC9⟩, f5⟩, ⟨_, f7⟩, fun j j1 j2 => by exact f3 j j1 j2⟩
      · refine z_aload_n C 0 dX10_ages_50 rfl ?_
        refine z_iload_n C 1 dX10_ages_51 rfl ?_
        refine z_iload_n C 2 dX10_ages_52 rfl ?_
        refine z_iload C 3 dX10_ages_53 rfl ?_
        refine z_iconst (z := 0) C dX10_ages_55 rfl ?_
        refine z_aload_n C 0 dX10_ages_56 rfl ?_
        refine z_get (v := .ref (ad (i + 15))) C (lt_A0 hN rfl) hay4 ((f3 _ (by omega) (by omega)).trans hg) rfl inA_X10 31 (by decide) q_1490 rfl rfl dX10_ages_57 ?_
        refine z_iload C 3 dX10_ages_60 rfl ?_
        refine z_iald C (lt_A (c := 15) hN rfl) hay6 f7 (k) (by omega) (by omega) (by decide) dX10_ages_62 ?_
        rw [show t9 (k) = taV K n z1 k from h9 k (by omega)]
        have hqy9k : ((k : Int) : Int) = ((k : Nat) : Int) := by omega
        obtain ⟨qy9, hqy9⟩ : ∃ q9 : Nat, p + 2 + 7 * k = q9 := ⟨_, rfl⟩
        refine z_cV (As := [.int (zI ((b : Int))), .int (zI ((s : Int))), .int (zI ((k : Int))), .int (zI (0)), .int (zI (taV K n z1 k))]) (rest := []) (ci := 12) C (c_X10_sets l D A cs tt N ad _ i hN _ ((f3 _ (by omega) (by omega)).trans hg) _ f2 b s p hp (by omega) (by omega) ((k : Int)) (0) (qy9) (by omega) (by omega) (by omega) (taV K n z1 k)) (lt_A0 hN rfl) hay4 ((f3 _ (by omega) (by omega)).trans hg) rfl rfl mv_yX10_sets q_1908 hd_yX10_sets (by decide) (Nat.le_of_ble_eq_true rfl) (by decide) dX10_ages_63 rfl (kV0 fun gvy10 hvy10 => ?_)
        obtain ⟨hcvy10, hfvy10⟩ := hvy10
        obtain ⟨ry11, hvy12⟩ : ∃ rZ9 : Nat → Int, rZ9 = uZ r9 (qy9) (taV K n z1 k) := ⟨_, rfl⟩
        rw [← hvy12] at hcvy10
        obtain ⟨Ky14, hKy15⟩ : ∃ KZ9 : Nat → Int, KZ9 = uZ K9 (7 * k + 0) (taV K n z1 k) := ⟨_, rfl⟩
        have hCy13 := lay_r hC9 hvy12 hKy15 (by omega)
        refine z_aload_n C 0 dX10_ages_66 rfl ?_
        refine z_iload_n C 1 dX10_ages_67 rfl ?_
        refine z_iload_n C 2 dX10_ages_68 rfl ?_
        refine z_iload C 3 dX10_ages_69 rfl ?_
        refine z_iconst (z := 5) C dX10_ages_71 rfl ?_
        refine z_aload_n C 0 dX10_ages_72 rfl ?_
        refine z_iload_n C 1 dX10_ages_73 rfl ?_
        refine z_iload_n C 2 dX10_ages_74 rfl ?_
        refine z_iload C 3 dX10_ages_75 rfl ?_
        refine z_iconst (z := 5) C dX10_ages_77 rfl ?_
        have hgy16 := (hfvy10 (i) (ne_o (i := i) (c := 0) (d := 1) rfl)).trans ((f3 _ (by omega) (by omega)).trans hg)
        refine z_cV (As := [.int (zI ((b : Int))), .int (zI ((s : Int))), .int (zI ((k : Int))), .int (zI (5))]) (rest := [.int (zI (5)), .int (zI ((k : Int))), .int (zI ((s : Int))), .int (zI ((b : Int))), .ref (ad i)]) (ci := 12) C (c_X10_of l D A cs tt N ad _ i hN _ hgy16 _ hcvy10 b s p hp (by omega) (by omega) ((k : Int)) (5) (qy9 + 5) (by omega) (by omega) (by omega)) (lt_A0 hN rfl) hay4 hgy16 rfl rfl mv_yX10_of q_1749 hd_yX10_of (by decide) (Nat.le_of_ble_eq_true rfl) (by decide) dX10_ages_78 rfl (kI0 fun vy17 gvy17 hvy17 => ?_)
        obtain ⟨rfl, rfl⟩ := hvy17
        rw [show ry11 (qy9 + 5) = r9 (qy9 + 5) from (congrFun hvy12 _).trans ((uZ_n _ _ (by omega)).trans (rfl))]
        rw [show r9 (qy9 + 5) = K9 (7 * k + 5) from (congrArg r9 (show qy9 + 5 = p + 2 + (7 * k + 5) by omega)).trans (hC9 (7 * k + 5) (by omega))]
        obtain ⟨⟨qy180, qy181, qy182, qy183, qy184, qy185, qy186⟩, qy189⟩ := hO9.ly (l := k) (by omega)
        refine z_iconst (z := 1) C dX10_ages_81 rfl ?_
        refine z_iadd C dX10_ages_82 ?_
        refine z_cV (As := [.int (zI ((b : Int))), .int (zI ((s : Int))), .int (zI ((k : Int))), .int (zI (5)), .int (zI ((K9 (7 * k + 5)) + 1))]) (rest := []) (ci := 12) C (c_X10_sets l D A cs tt N ad _ i hN _ hgy16 _ hcvy10 b s p hp (by omega) (by omega) ((k : Int)) (5) (qy9 + 5) (by omega) (by omega) (by omega) ((K9 (7 * k + 5)) + 1)) (lt_A0 hN rfl) hay4 hgy16 rfl rfl mv_yX10_sets q_1908 hd_yX10_sets (by decide) (Nat.le_of_ble_eq_true rfl) (by decide) dX10_ages_83 rfl (kV0 fun gvy19 hvy19 => ?_)
        obtain ⟨hcvy19, hfvy19⟩ := hvy19
        obtain ⟨ry20, hvy21⟩ : ∃ rZ9 : Nat → Int, rZ9 = uZ ry11 (qy9 + 5) ((K9 (7 * k + 5)) + 1) := ⟨_, rfl⟩
        rw [← hvy21] at hcvy19
        obtain ⟨Ky23, hKy24⟩ : ∃ KZ9 : Nat → Int, KZ9 = uZ Ky14 (7 * k + 5) ((K9 (7 * k + 5)) + 1) := ⟨_, rfl⟩
        have hCy22 := lay_r hCy13 hvy21 hKy24 (by omega)
        refine z_iinc (z := (k : Int) + 1) (lv' := [(4, .int (zI ((k : Int) + 1))), (0, .ref (ad i)), (1, .int (zI ((b : Int)))), (2, .int (zI ((s : Int))))]) (j := 3) C dX10_ages_86 rfl rfl (by decide) rfl ?_
        refine z_goto (tgt := 39) C dX10_ages_89 (by decide) ?_
        have hgy25 := (hfvy10 (i + 15) (ne_o (i := i) (c := 15) (d := 1) rfl)).trans f7
        have hgy26 := (hfvy19 (i + 15) (ne_o (i := i) (c := 15) (d := 1) rfl)).trans hgy25
        have hfry27 : ∀ j, j ≠ qy9 + 5 → j ≠ qy9 → ry20 j = r9 j := fun j n0 n1 => (congrFun hvy21 _).trans ((uZ_n _ _ n0).trans ((congrFun hvy12 _).trans ((uZ_n _ _ n1).trans (rfl))))
        refine z_lv (lv' := [(0, .ref (ad i)), (1, .int (zI ((b : Int)))), (2, .int (zI ((s : Int)))), (4, .int (zI ((k : Int) + 1)))]) [1, 2, 3, 0] rfl ?_
        have hx0 : taV K n z1 k = taV K n z1 k := rfl
        have hx5 : (K9 (7 * k + 5)) + 1 = taA K k := by rw [hK9, taK_o (Or.inr (by omega))]; rfl
        have hKn : Ky23 = taK K (k + 1) (taV K n z1) (taA K) := by rw [hKy24, hKy15]; refine Eq.trans ?_ (ta_step hx0 hx5); rw [hK9]
        have hO2 := ta_ok (k := k + 1) (air := z1) hO hag (by omega)
        rw [← hKn] at hO2
        exact ih_lp2 _ (by omega) ((k : Int) + 1) Ky23 ry20 t9 (k + 1) gvy19 rfl hcvy19 (fun j j1 j2 => by rw [hfvy19 _ (by omega)]; rw [hfvy10 _ (by omega)]; exact f3 j j1 j2) (fun j a1 => (hfry27 j (by omega) (by omega)).trans (f5 j a1)) (((congrFun hvy21 _).trans ((uZ_n _ _ (by omega)).trans ((congrFun hvy12 _).trans ((uZ_n _ _ (by omega)).trans (rfl))))).trans hn9) ((((congrFun hvy21 _).trans ((uZ_n _ _ (by omega)).trans ((congrFun hvy12 _).trans ((uZ_n _ _ (by omega)).trans (rfl))))) : ry20 (p + 1) = r9 (p + 1)).trans hr9) hCy22 hO2 hgy26 h9 (by omega) (by omega) hKn
  have lp1 : ∀ (n9 : Nat) (ll : Int) (t9 : Nat → Int) (k : Nat) (g1 : Nat → va_E), (13 - ll).toNat = n9 → (g1 (i + 15) = iA cs 12 t9) → (∀ j, j ≠ i + 15 → g1 j = g j) → (ll = (k : Int)) → (k ≤ n) → (∀ j, j < k → t9 j = taV K n z1 j) → zV pY l eY ({ frames := 5, cells := 0, slots := 0, locals := 300 } : Room) sY mY ([.ref (ad i), .int (zI ((b : Int))), .int (zI ((s : Int))), .int (zI (z1))] : List Value).toArray below meth cY (MQ below (zPost D A (rV0 N ad fun g' => (∃ r' : Nat → Int, g' (i + 1) = iA cs 29200 r' ∧ isS r' p ((n, taK K n (taV K n z1) (taA K), ro)) ∧ (∀ j, j < p ∨ p + 86 ≤ j → r' j = r j)) ∧ (∃ t' : Nat → Int, g' (i + 15) = iA cs 12 t') ∧ ∀ j, j ≠ i + 1 → j ≠ i + 15 → g' j = g j)) ([.ref (ad i), .int (zI ((b : Int))), .int (zI ((s : Int))), .int (zI (z1))] : List Value).toArray sY ({ frames := 5, cells := 0, slots := 0, locals := 300 } : Room).cells ({ frames := 5, cells := 0, slots := 0, locals := 300 } : Room).slots A) D A 5 (N) ad g1 (0) (0) 3 [(0, .ref (ad i)), (1, .int (zI ((b : Int)))), (2, .int (zI ((s : Int)))), (3, .int (zI (z1))), (4, .int (zI (ll)))] [] := by
    intro n9
    induction n9 using Nat.strongRecOn with
    | ind n9 ih_lp1 =>
      intro ll t9 k g1 hm9 f2 f3 hik hkn h9
      have hay28 : zAt ad (i) (ad i) := rfl
      have hay29 : zAt ad (i + 1) (ad (i + 1)) := rfl
      have hay30 : zAt ad (i + 15) (ad (i + 15)) := rfl
      subst hik
      refine z_iload C 4 dX10_ages_3 rfl ?_
      refine z_aload_n C 0 dX10_ages_5 rfl ?_
      refine z_iload_n C 1 dX10_ages_6 rfl ?_
      refine z_iload_n C 2 dX10_ages_7 rfl ?_
      refine z_cV (As := [.int (zI ((b : Int))), .int (zI ((s : Int)))]) (rest := [.int (zI ((k : Int)))]) (ci := 12) C (c_X10_many l D A cs tt N ad _ i hN _ ((f3 _ (by omega)).trans hg) _ ((f3 _ (by omega)).trans ha1) b s p hp (by omega) (by omega)) (lt_A0 hN rfl) hay28 ((f3 _ (by omega)).trans hg) rfl rfl mv_yX10_many q_1733 hd_yX10_many (by decide) (Nat.le_of_ble_eq_true rfl) (by decide) dX10_ages_8 rfl (kI0 fun vy31 gvy31 hvy31 => ?_)
      obtain ⟨rfl, rfl⟩ := hvy31
      rw [show r (p) = (n : Int) from hn]
      refine z_icmp_ge (tgt := 36) C dX10_ages_11 (by decide) (by omega) (by omega) (fun hby32 => ?_) (fun hby32 => ?_)
      · refine z_iconst (z := 0) C dX10_ages_36 rfl ?_
        refine z_istore (lv' := [(4, .int (zI (0))), (0, .ref (ad i)), (1, .int (zI ((b : Int)))), (2, .int (zI ((s : Int)))), (3, .int (zI (z1)))]) C dX10_ages_37 (by decide) rfl ?_
        refine z_lv (lv' := [(0, .ref (ad i)), (1, .int (zI ((b : Int)))), (2, .int (zI ((s : Int)))), (4, .int (zI (0)))]) [1, 2, 3, 0] rfl ?_
        exact lp2 _ 0 K r t9 0 g1 rfl ((f3 _ (by omega)).trans ha1) (fun j j1 j2 => f3 j j2) (fun j _ => rfl) hn hro hC hO f2 (fun j hj => h9 j (by omega)) rfl (Nat.zero_le _) (taK_0 K _ _).symm
      · refine z_aload_n C 0 dX10_ages_14 rfl ?_
        refine z_get (v := .ref (ad (i + 15))) C (lt_A0 hN rfl) hay28 ((f3 _ (by omega)).trans hg) rfl inA_X10 31 (by decide) q_1490 rfl rfl dX10_ages_15 ?_
        refine z_iload C 4 dX10_ages_18 rfl ?_
        refine z_aload_n C 0 dX10_ages_20 rfl ?_
        refine z_iload_n C 1 dX10_ages_21 rfl ?_
        refine z_iload_n C 2 dX10_ages_22 rfl ?_
        refine z_iload C 4 dX10_ages_23 rfl ?_
        refine z_iload_n C 3 dX10_ages_25 rfl ?_
        have hqy34k : ((k : Int) : Int) = ((k : Nat) : Int) := by omega
        obtain ⟨qy34, hqy34⟩ : ∃ q9 : Nat, p + 2 + 7 * k = q9 := ⟨_, rfl⟩
        refine z_cV (As := [.int (zI ((b : Int))), .int (zI ((s : Int))), .int (zI ((k : Int))), .int (zI (z1))]) (rest := [.int (zI ((k : Int))), .ref (ad (i + 15))]) (ci := 12) C (c_uKind l D A cs tt N ad _ i hN _ ((f3 _ (by omega)).trans hg) _ ((f3 _ (by omega)).trans ha1) b s p hp (by omega) (by omega) n K hn hC hO ((k : Int)) k qy34 (by omega) hqy34 (by omega) (z1) (by omega)) (lt_A0 hN rfl) hay28 ((f3 _ (by omega)).trans hg) rfl rfl mv_yX10_kindThen q_1944 hd_yX10_kindThen (by decide) (Nat.le_of_ble_eq_true rfl) (by decide) dX10_ages_26 rfl (kI0 fun vy33 gvy33 hvy33 => ?_)
        obtain ⟨rfl, rfl⟩ := hvy33
        have hnky35 := nkZ_b hO (l := k) (by omega) (grZ K n k (z1))
        refine z_iast C (lt_A (c := 15) hN rfl) hay30 f2 (k) (by omega) (by omega) (by decide) dX10_ages_29 (fun gy36 egy37 => ?_)
        have hgy38 := up_s egy37
        refine z_iinc (z := (k : Int) + 1) (lv' := [(4, .int (zI ((k : Int) + 1))), (0, .ref (ad i)), (1, .int (zI ((b : Int)))), (2, .int (zI ((s : Int)))), (3, .int (zI (z1)))]) (j := 4) C dX10_ages_30 rfl rfl (by decide) rfl ?_
        refine z_goto (tgt := 3) C dX10_ages_33 (by decide) ?_
        refine z_lv (lv' := [(0, .ref (ad i)), (1, .int (zI ((b : Int)))), (2, .int (zI ((s : Int)))), (3, .int (zI (z1))), (4, .int (zI ((k : Int) + 1)))]) [1, 2, 3, 4, 0] rfl ?_
        exact ih_lp1 _ (by omega) ((k : Int) + 1) _ (k + 1) gy36 rfl hgy38 (fun j j1 => by rw [egy37, va_up_ne _ _ (by omega)]; exact f3 j j1) (by omega) (by omega) (fun j hj => by by_cases e9 : j = k; (· rw [e9, uZ_s]; rfl); · rw [uZ_n _ _ e9]; exact h9 j (by omega))
  refine z_iconst (z := 0) C dX10_ages_0 rfl ?_
  refine z_istore (lv' := [(4, .int (zI (0))), (0, .ref (ad i)), (1, .int (zI ((b : Int)))), (2, .int (zI ((s : Int)))), (3, .int (zI (z1)))]) C dX10_ages_1 (by decide) rfl ?_
  refine z_lv (lv' := [(0, .ref (ad i)), (1, .int (zI ((b : Int)))), (2, .int (zI ((s : Int)))), (3, .int (zI (z1))), (4, .int (zI (0)))]) [1, 2, 3, 4, 0] rfl ?_
  exact lp1 _ 0 _ 0 g rfl ha15 (fun j j1 => by rfl) rfl (Nat.zero_le _) (fun j hj => absurd hj (by omega))

set_option maxRecDepth 100000 in
set_option maxHeartbeats 4000000 in
theorem c_uWarms (l : Launch) (D : va_G) (A : Nat → Prop) (cs : Nat → ClassId) (tt : Nat) (N : Nat) (ad : Nat → Nat) (g : Nat → va_E) (i : Nat) (hN : i + 30 ≤ N) (F : Nat → Int) (hg : g i = mC ad i F) (r : Nat → Int) (ha1 : g (i + 1) = iA cs 29200 r) (op : Nat → Int) (ha3 : g (i + 3) = iA cs 4 op) (b s p : Nat) (hp : b + 6 + 86 * s = p) (hb : b + 350 ≤ 29200) (hs : s < 4) (n : Nat) (K : Nat → Int) (hn : r p = (n : Int)) (hC : ∀ q, q < 7 * n → r (p + 2 + q) = K q) (hO : okP K n) (ro : Int) (hro : r (p + 1) = ro) (hop : 0 ≤ op s ∧ op s ≤ 20) (z1 : Int) (hz1 : 0 ≤ z1 ∧ z1 ≤ 100) : zM l yX10_warms cX10_warms 9 none ({ frames := 2, cells := 0, slots := 0, locals := 120 } : Room) D A cs tt N ad g [.ref (ad i), .int (zI ((b : Int))), .int (zI ((s : Int))), .int (zI (z1))] (rV0 N ad fun g' => (∃ r' : Nat → Int, g' (i + 1) = iA cs 29200 r' ∧ isS r' p (mlZ n K ro (z1 * op s)) ∧ (∀ j, j < p ∨ p + 86 ≤ j → r' j = r j)) ∧ ∀ j, j ≠ i + 1 → g' j = g j) := by
  have hay1 : zAt ad (i) (ad i) := rfl
  have hay2 : zAt ad (i + 1) (ad (i + 1)) := rfl
  have hay3 : zAt ad (i + 3) (ad (i + 3)) := rfl
  have hn12 := hO.1
  have hmb := mulc (a := z1) (b := op s) (A := 100) (B := 20) hz1 hop
  refine z_of (by decide) (Nat.le_of_ble_eq_true rfl) ?_
  intro pY eY sY mY below meth cY C hr hlk hnm
  refine z_lv (lv' := [(0, .ref (ad i)), (1, .int (zI ((b : Int)))), (2, .int (zI ((s : Int)))), (3, .int (zI (z1)))]) [0, 1, 2, 3] rfl ?_
  have lp : ∀ (n9 : Nat) (he : Int) (K9 : Nat → Int) (ro9 : Int) (r9 : Nat → Int) (k : Nat) (g1 : Nat → va_E), k = n9 → (g1 (i + 1) = iA cs 29200 r9) → (∀ j, j ≠ i + 1 → g1 j = g j) → (∀ j, j < p ∨ p + 86 ≤ j → r9 j = r j) → (r9 p = (k : Int)) → (r9 (p + 1) = ro9) → (∀ q, q < 7 * k → r9 (p + 2 + q) = K9 q) → (okP K9 k) → (0 ≤ he ∧ he ≤ 2000) → (mlZ k K9 ro9 he = mlZ n K ro (z1 * op s)) → zV pY l eY ({ frames := 2, cells := 0, slots := 0, locals := 120 } : Room) sY mY ([.ref (ad i), .int (zI ((b : Int))), .int (zI ((s : Int))), .int (zI (z1))] : List Value).toArray below meth cY (MQ below (zPost D A (rV0 N ad fun g' => (∃ r' : Nat → Int, g' (i + 1) = iA cs 29200 r' ∧ isS r' p (mlZ n K ro (z1 * op s)) ∧ (∀ j, j < p ∨ p + 86 ≤ j → r' j = r j)) ∧ ∀ j, j ≠ i + 1 → g' j = g j)) ([.ref (ad i), .int (zI ((b : Int))), .int (zI ((s : Int))), .int (zI (z1))] : List Value).toArray sY ({ frames := 2, cells := 0, slots := 0, locals := 120 } : Room).cells ({ frames := 2, cells := 0, slots := 0, locals := 120 } : Room).slots A) D A 9 (N) ad g1 (0) (0) 10 [(0, .ref (ad i)), (1, .int (zI ((b : Int)))), (2, .int (zI ((s : Int)))), (3, .int (zI (z1))), (4, .int (zI (he)))] [] := by
    intro n9
    induction n9 using Nat.strongRecOn with
    | ind n9 ih =>
      intro he K9 ro9 r9 k g1 hm9 f2 f3 f5 hn9 hr9 hC9 hO9 hhe hml
      have hay4 : zAt ad (i) (ad i) := rfl
      have hay5 : zAt ad (i + 1) (ad (i + 1)) := rfl
      have hay6 : zAt ad (i + 3) (ad (i + 3)) := rfl
      have hn12 := hO9.1
      by_cases hk0 : k = 0
      · subst hk0
        refine z_iload C 4 dX10_warms_10 rfl ?_
        refine z_if_le (tgt := 249) C dX10_warms_12 (by decide) (by omega) (fun hby7 => ?_) (fun hby7 => ?_)
        · have hq9 : (0, K9, ro9) = mlZ n K ro (z1 * op s) := by rw [← hml]; rfl
          rw [← hq9]
          exact z_vret C hr hlk dX10_warms_249 (by decide) (by decide) ⟨rfl, rfl, rfl, ⟨_, f2, ⟨hn9, hr9, hC9⟩, f5⟩, fun j j1 => by exact f3 j j1⟩
        · refine z_aload_n C 0 dX10_warms_15 rfl ?_
          refine z_iload_n C 1 dX10_warms_16 rfl ?_
          refine z_iload_n C 2 dX10_warms_17 rfl ?_
          refine z_cV (As := [.int (zI ((b : Int))), .int (zI ((s : Int)))]) (rest := []) (ci := 12) C (c_X10_many l D A cs tt N ad _ i hN _ ((f3 _ (by omega)).trans hg) _ f2 b s p hp (by omega) (by omega)) (lt_A0 hN rfl) hay4 ((f3 _ (by omega)).trans hg) rfl rfl mv_yX10_many q_1733 hd_yX10_many (by decide) (Nat.le_of_ble_eq_true rfl) (by decide) dX10_warms_18 rfl (kI0 fun vy8 gvy8 hvy8 => ?_)
          obtain ⟨rfl, rfl⟩ := hvy8
          rw [show r9 (p) = 0 from hn9]
          refine z_if_le (tgt := 249) C dX10_warms_21 (by decide) (by omega) (fun _ => ?_) (fun h => absurd h (by omega))
          have hq9 : (0, K9, ro9) = mlZ n K ro (z1 * op s) := by rw [← hml]; rfl
          rw [← hq9]
          exact z_vret C hr hlk dX10_warms_249 (by decide) (by decide) ⟨rfl, rfl, rfl, ⟨_, f2, ⟨hn9, hr9, hC9⟩, f5⟩, fun j j1 => by exact f3 j j1⟩
      · obtain ⟨j, rfl⟩ : ∃ j, k = j + 1 := ⟨k - 1, by omega⟩
        have hn8 : r9 p = (j : Int) + 1 := by omega
        refine z_iload C 4 dX10_warms_10 rfl ?_
        refine z_if_le (tgt := 249) C dX10_warms_12 (by decide) (by omega) (fun hby9 => ?_) (fun hby9 => ?_)
        · have hq9 : ((j + 1), K9, ro9) = mlZ n K ro (z1 * op s) := by rw [← hml]; exact (if_pos (by omega)).symm
          rw [← hq9]
          exact z_vret C hr hlk dX10_warms_249 (by decide) (by decide) ⟨rfl, rfl, rfl, ⟨_, f2, ⟨hn9, hr9, hC9⟩, f5⟩, fun j j1 => by exact f3 j j1⟩
        · refine z_aload_n C 0 dX10_warms_15 rfl ?_
          refine z_iload_n C 1 dX10_warms_16 rfl ?_
          refine z_iload_n C 2 dX10_warms_17 rfl ?_
          refine z_cV (As := [.int (zI ((b : Int))), .int (zI ((s : Int)))]) (rest := []) (ci := 12) C (c_X10_many l D A cs tt N ad _ i hN _ ((f3 _ (by omega)).trans hg) _ f2 b s p hp (by omega) (by omega)) (lt_A0 hN rfl) hay4 ((f3 _ (by omega)).trans hg) rfl rfl mv_yX10_many q_1733 hd_yX10_many (by decide) (Nat.le_of_ble_eq_true rfl) (by decide) dX10_warms_18 rfl (kI0 fun vy10 gvy10 hvy10 => ?_)
          obtain ⟨rfl, rfl⟩ := hvy10
          rw [show r9 (p) = (j : Int) + 1 from hn8]
          refine z_if_le (tgt := 249) C dX10_warms_21 (by decide) (by omega) (fun h => absurd h (by omega)) (fun _ => ?_)
          refine z_aload_n C 0 dX10_warms_24 rfl ?_
          refine z_iload_n C 1 dX10_warms_25 rfl ?_
          refine z_iload_n C 2 dX10_warms_26 rfl ?_
          refine z_cV (As := [.int (zI ((b : Int))), .int (zI ((s : Int)))]) (rest := []) (ci := 12) C (c_X10_many l D A cs tt N ad _ i hN _ ((f3 _ (by omega)).trans hg) _ f2 b s p hp (by omega) (by omega)) (lt_A0 hN rfl) hay4 ((f3 _ (by omega)).trans hg) rfl rfl mv_yX10_many q_1733 hd_yX10_many (by decide) (Nat.le_of_ble_eq_true rfl) (by decide) dX10_warms_27 rfl (kI0 fun vy11 gvy11 hvy11 => ?_)
          obtain ⟨rfl, rfl⟩ := hvy11
          rw [show r9 (p) = (j : Int) + 1 from hn8]
          refine z_iconst (z := 1) C dX10_warms_30 rfl ?_
          refine z_isub C dX10_warms_31 ?_
          rw [show ((j : Int) + 1) - 1 = (j : Int) by omega]
          refine z_istore (lv' := [(5, .int (zI ((j : Int)))), (0, .ref (ad i)), (1, .int (zI ((b : Int)))), (2, .int (zI ((s : Int)))), (3, .int (zI (z1))), (4, .int (zI (he)))]) C dX10_warms_32 (by decide) rfl ?_
          refine z_iload_n C 2 dX10_warms_34 rfl ?_
          refine z_iload_n C 3 dX10_warms_35 rfl ?_
          refine z_iload C 0 dX10_warms_36 rfl ?_
          have hqy12k : ((j : Int) : Int) = ((j : Nat) : Int) := by omega
          obtain ⟨qy12, hqy12⟩ : ∃ q9 : Nat, p + 2 + 7 * j = q9 := ⟨_, rfl⟩
          refine z_cS (As := [.int (zI ((b : Int))), .int (zI ((s : Int))), .int (zI ((j : Int)))]) (rest := []) C (c_X10_at l D A cs tt N ad _ ((b : Int)) (by omega) ((s : Int)) (by omega) ((j : Int)) (by omega)) ms_yX10_at q_1753 hd_yX10_at (by decide) (Nat.le_of_ble_eq_true rfl) (by decide) dX10_warms_38 rfl (kI0 fun vy13 gvy13 hvy13 => ?_)
          obtain ⟨hvy13, rfl⟩ := hvy13
          rw [show vy13 = (qy12 : Int) by omega]
          refine z_istore (lv' := [(6, .int (zI ((qy12 : Int)))), (5, .int (zI ((j : Int)))), (0, .ref (ad i)), (1, .int (zI ((b : Int)))), (2, .int (zI ((s : Int)))), (3, .int (zI (z1))), (4, .int (zI (he)))]) C dX10_warms_41 (by decide) rfl ?_
          refine z_iload C 6 dX10_warms_43 rfl ?_
          refine z_aload_n C 2 dX10_warms_45 rfl ?_
          refine z_get (v := .ref (ad (i + 1))) C (lt_A0 hN rfl) hay4 ((f3 _ (by omega)).trans hg) rfl inA_X10 0 (by decide) q_1459 rfl rfl dX10_warms_46 ?_
          refine z_iload C 0 dX10_warms_49 rfl ?_
          refine z_iconst (z := 1) C dX10_warms_51 rfl ?_
          refine z_iadd C dX10_warms_52 ?_
          refine z_iald C (lt_A (c := 1) hN rfl) hay5 f2 (qy12 + 1) (by omega) (by omega) (by decide) dX10_warms_53 ?_
          rw [show r9 (qy12 + 1) = K9 (7 * j + 1) from (congrArg r9 (show qy12 + 1 = p + 2 + (7 * j + 1) by omega)).trans (hC9 (7 * j + 1) (by omega))]
          obtain ⟨⟨qy140, qy141, qy142, qy143, qy144, qy145, qy146⟩, qy149⟩ := hO9.ly (l := j) (by omega)
          refine z_idiv C dX10_warms_54 (by omega) (by omega) (by omega) ?_
          have htm := tdmu (a := he) (k := K9 (7 * j + 1)) (by omega) (by omega)
          refine z_aload_n C 2 dX10_warms_55 rfl ?_
          refine z_get (v := .ref (ad (i + 1))) C (lt_A0 hN rfl) hay4 ((f3 _ (by omega)).trans hg) rfl inA_X10 0 (by decide) q_1459 rfl rfl dX10_warms_56 ?_
          refine z_iload C 0 dX10_warms_59 rfl ?_
          refine z_iconst (z := 4) C dX10_warms_61 rfl ?_
          refine z_iadd C dX10_warms_62 ?_
          refine z_iald C (lt_A (c := 1) hN rfl) hay5 f2 (qy12 + 4) (by omega) (by omega) (by decide) dX10_warms_63 ?_
          rw [show r9 (qy12 + 4) = K9 (7 * j + 4) from (congrArg r9 (show qy12 + 4 = p + 2 + (7 * j + 4) by omega)).trans (hC9 (7 * j + 4) (by omega))]
          refine z_ineg C dX10_warms_64 ?_
          refine z_cS (As := [.int (zI (he.tdiv (K9 (7 * j + 1)))), .int (zI (-(K9 (7 * j + 4))))]) (rest := []) C (c_X10_lesser l D A cs tt N ad _ (he.tdiv (K9 (7 * j + 1))) (by omega) (-(K9 (7 * j + 4))) (by omega)) ms_yX10_lesser q_1792 hd_yX10_lesser (by decide) (Nat.le_of_ble_eq_true rfl) (by decide) dX10_warms_65 rfl (kI0 fun vy15 gvy15 hvy15 => ?_)
          obtain ⟨hvy15, rfl⟩ := hvy15
          have hW9 : meW K9 j he = vy15 := by unfold meW mnZ; split <;> omega
          have hWb := meW_b hO9 (k := j) (le := he) (by omega) (by omega)
          rw [hW9] at hWb
          refine z_istore (lv' := [(7, .int (zI (vy15))), (6, .int (zI ((qy12 : Int)))), (5, .int (zI ((j : Int)))), (0, .ref (ad i)), (1, .int (zI ((b : Int)))), (2, .int (zI ((s : Int)))), (3, .int (zI (z1))), (4, .int (zI (he)))]) C dX10_warms_68 (by decide) rfl ?_
          refine z_aload_n C 3 dX10_warms_70 rfl ?_
          refine z_get (v := .ref (ad (i + 1))) C (lt_A0 hN rfl) hay4 ((f3 _ (by omega)).trans hg) rfl inA_X10 0 (by decide) q_1459 rfl rfl dX10_warms_71 ?_
          refine z_iload C 1 dX10_warms_74 rfl ?_
          refine z_iconst (z := 4) C dX10_warms_76 rfl ?_
          refine z_iadd C dX10_warms_77 ?_
          refine z_dup2 C dX10_warms_78 rfl rfl ?_
          refine z_iald C (lt_A (c := 1) hN rfl) hay5 f2 (qy12 + 4) (by omega) (by omega) (by decide) dX10_warms_79 ?_
          rw [show r9 (qy12 + 4) = K9 (7 * j + 4) from (congrArg r9 (show qy12 + 4 = p + 2 + (7 * j + 4) by omega)).trans (hC9 (7 * j + 4) (by omega))]
          refine z_iload C 0 dX10_warms_80 rfl ?_
          refine z_iadd C dX10_warms_82 ?_
          refine z_iast C (lt_A (c := 1) hN rfl) hay5 f2 (qy12 + 4) (by omega) (by omega) (by decide) dX10_warms_83 (fun gy16 egy17 => ?_)
          have hgy18 := up_s egy17
          obtain ⟨ry19, hvy20⟩ : ∃ rZ9 : Nat → Int, rZ9 = uZ r9 (qy12 + 4) ((K9 (7 * j + 4)) + vy15) := ⟨_, rfl⟩
          rw [← hvy20] at hgy18
          obtain ⟨Ky22, hKy23⟩ : ∃ KZ9 : Nat → Int, KZ9 = uZ K9 (7 * j + 4) ((K9 (7 * j + 4)) + vy15) := ⟨_, rfl⟩
          have hCy21 := lay_r hC9 hvy20 hKy23 (by omega)
          refine z_iload C 7 dX10_warms_84 rfl ?_
          refine z_iload C 0 dX10_warms_86 rfl ?_
          refine z_aload_n C 3 dX10_warms_88 rfl ?_
          have hgy24 := up_n egy17 ((f3 _ (by omega)).trans hg) (ne_o (i := i) (c := 0) (d := 1) rfl)
          refine z_get (v := .ref (ad (i + 1))) C (lt_A0 hN rfl) hay4 hgy24 rfl inA_X10 0 (by decide) q_1459 rfl rfl dX10_warms_89 ?_
          refine z_iload C 1 dX10_warms_92 rfl ?_
          refine z_iconst (z := 1) C dX10_warms_94 rfl ?_
          refine z_iadd C dX10_warms_95 ?_
          refine z_iald C (lt_A (c := 1) hN rfl) hay5 hgy18 (qy12 + 1) (by omega) (by omega) (by decide) dX10_warms_96 ?_
          rw [show ry19 (qy12 + 1) = r9 (qy12 + 1) from (congrFun hvy20 _).trans ((uZ_n _ _ (by omega)).trans (rfl))]
          rw [show r9 (qy12 + 1) = K9 (7 * j + 1) from (congrArg r9 (show qy12 + 1 = p + 2 + (7 * j + 1) by omega)).trans (hC9 (7 * j + 1) (by omega))]
          refine z_imul C dX10_warms_97 ?_
          refine z_isub C dX10_warms_98 ?_
          have hL9 : meL K9 j he = he - (vy15 * (K9 (7 * j + 1))) := by unfold meL; rw [hW9]
          refine z_istore (lv' := [(4, .int (zI (he - (vy15 * (K9 (7 * j + 1)))))), (7, .int (zI (vy15))), (6, .int (zI ((qy12 : Int)))), (5, .int (zI ((j : Int)))), (0, .ref (ad i)), (1, .int (zI ((b : Int)))), (2, .int (zI ((s : Int)))), (3, .int (zI (z1)))]) C dX10_warms_99 (by decide) rfl ?_
          refine z_aload_n C 4 dX10_warms_101 rfl ?_
          refine z_get (v := .ref (ad (i + 1))) C (lt_A0 hN rfl) hay4 hgy24 rfl inA_X10 0 (by decide) q_1459 rfl rfl dX10_warms_102 ?_
          refine z_iload C 2 dX10_warms_105 rfl ?_
          refine z_iconst (z := 4) C dX10_warms_107 rfl ?_
          refine z_iadd C dX10_warms_108 ?_
          refine z_iald C (lt_A (c := 1) hN rfl) hay5 hgy18 (qy12 + 4) (by omega) (by omega) (by decide) dX10_warms_109 ?_
          rw [show ry19 (qy12 + 4) = (K9 (7 * j + 4)) + vy15 from (congrFun hvy20 _).trans (uZ_s _ _ _)]
          refine z_if_ne (tgt := 133) C dX10_warms_110 (by decide) (by omega) (fun hby25 => ?_) (fun hby25 => ?_)
          · refine z_iconst (z := 0) C dX10_warms_133 rfl ?_
            refine z_istore (lv' := [(8, .int (zI (0))), (4, .int (zI (he - (vy15 * (K9 (7 * j + 1)))))), (7, .int (zI (vy15))), (6, .int (zI ((qy12 : Int)))), (5, .int (zI ((j : Int)))), (0, .ref (ad i)), (1, .int (zI ((b : Int)))), (2, .int (zI ((s : Int)))), (3, .int (zI (z1)))]) C dX10_warms_134 (by decide) rfl ?_
            refine z_aload_n C 5 dX10_warms_136 rfl ?_
            refine z_get (v := .ref (ad (i + 1))) C (lt_A0 hN rfl) hay4 hgy24 rfl inA_X10 0 (by decide) q_1459 rfl rfl dX10_warms_137 ?_
            refine z_iload C 3 dX10_warms_140 rfl ?_
            refine z_iconst (z := 1) C dX10_warms_142 rfl ?_
            refine z_iadd C dX10_warms_143 ?_
            refine z_dup2 C dX10_warms_144 rfl rfl ?_
            refine z_iald C (lt_A (c := 1) hN rfl) hay5 hgy18 (qy12 + 1) (by omega) (by omega) (by decide) dX10_warms_145 ?_
            rw [show ry19 (qy12 + 1) = r9 (qy12 + 1) from (congrFun hvy20 _).trans ((uZ_n _ _ (by omega)).trans (rfl))]
            rw [show r9 (qy12 + 1) = K9 (7 * j + 1) from (congrArg r9 (show qy12 + 1 = p + 2 + (7 * j + 1) by omega)).trans (hC9 (7 * j + 1) (by omega))]
            refine z_iload C 0 dX10_warms_146 rfl ?_
            refine z_isub C dX10_warms_148 ?_
            refine z_iast C (lt_A (c := 1) hN rfl) hay5 hgy18 (qy12 + 1) (by omega) (by omega) (by decide) dX10_warms_149 (fun gy26 egy27 => ?_)
            have hgy28 := up_s egy27
            obtain ⟨ry29, hvy30⟩ : ∃ rZ9 : Nat → Int, rZ9 = uZ ry19 (qy12 + 1) ((K9 (7 * j + 1)) - 0) := ⟨_, rfl⟩
            rw [← hvy30] at hgy28
            obtain ⟨Ky32, hKy33⟩ : ∃ KZ9 : Nat → Int, KZ9 = uZ Ky22 (7 * j + 1) ((K9 (7 * j + 1)) - 0) := ⟨_, rfl⟩
            have hCy31 := lay_r hCy21 hvy30 hKy33 (by omega)
            refine z_aload_n C 5 dX10_warms_150 rfl ?_
            have hgy34 := up_n egy27 hgy24 (ne_o (i := i) (c := 0) (d := 1) rfl)
            refine z_get (v := .ref (ad (i + 1))) C (lt_A0 hN rfl) hay4 hgy34 rfl inA_X10 0 (by decide) q_1459 rfl rfl dX10_warms_151 ?_
            refine z_iload C 3 dX10_warms_154 rfl ?_
            refine z_iconst (z := 2) C dX10_warms_156 rfl ?_
            refine z_iadd C dX10_warms_157 ?_
            refine z_dup2 C dX10_warms_158 rfl rfl ?_
            refine z_iald C (lt_A (c := 1) hN rfl) hay5 hgy28 (qy12 + 2) (by omega) (by omega) (by decide) dX10_warms_159 ?_
            rw [show ry29 (qy12 + 2) = r9 (qy12 + 2) from (congrFun hvy30 _).trans ((uZ_n _ _ (by omega)).trans ((congrFun hvy20 _).trans ((uZ_n _ _ (by omega)).trans (rfl))))]
            rw [show r9 (qy12 + 2) = K9 (7 * j + 2) from (congrArg r9 (show qy12 + 2 = p + 2 + (7 * j + 2) by omega)).trans (hC9 (7 * j + 2) (by omega))]
            refine z_iload C 0 dX10_warms_160 rfl ?_
            refine z_iadd C dX10_warms_162 ?_
            refine z_iast C (lt_A (c := 1) hN rfl) hay5 hgy28 (qy12 + 2) (by omega) (by omega) (by decide) dX10_warms_163 (fun gy35 egy36 => ?_)
            have hgy37 := up_s egy36
            obtain ⟨ry38, hvy39⟩ : ∃ rZ9 : Nat → Int, rZ9 = uZ ry29 (qy12 + 2) ((K9 (7 * j + 2)) + 0) := ⟨_, rfl⟩
            rw [← hvy39] at hgy37
            obtain ⟨Ky41, hKy42⟩ : ∃ KZ9 : Nat → Int, KZ9 = uZ Ky32 (7 * j + 2) ((K9 (7 * j + 2)) + 0) := ⟨_, rfl⟩
            have hCy40 := lay_r hCy31 hvy39 hKy42 (by omega)
            refine z_iload C 1 dX10_warms_164 rfl ?_
            refine z_bipush (z := 100) C dX10_warms_166 (by decide) ?_
            refine z_iload C 0 dX10_warms_168 rfl ?_
            refine z_imul C dX10_warms_170 ?_
            refine z_isub C dX10_warms_171 ?_
            refine z_istore (lv' := [(4, .int (zI ((he - (vy15 * (K9 (7 * j + 1)))) - (100 * 0)))), (8, .int (zI (0))), (7, .int (zI (vy15))), (6, .int (zI ((qy12 : Int)))), (5, .int (zI ((j : Int)))), (0, .ref (ad i)), (1, .int (zI ((b : Int)))), (2, .int (zI ((s : Int)))), (3, .int (zI (z1)))]) C dX10_warms_172 (by decide) rfl ?_
            refine z_aload_n C 5 dX10_warms_174 rfl ?_
            have hgy43 := up_n egy36 hgy34 (ne_o (i := i) (c := 0) (d := 1) rfl)
            refine z_get (v := .ref (ad (i + 1))) C (lt_A0 hN rfl) hay4 hgy43 rfl inA_X10 0 (by decide) q_1459 rfl rfl dX10_warms_175 ?_
            refine z_iload C 3 dX10_warms_178 rfl ?_
            refine z_iconst (z := 1) C dX10_warms_180 rfl ?_
            refine z_iadd C dX10_warms_181 ?_
            refine z_iald C (lt_A (c := 1) hN rfl) hay5 hgy37 (qy12 + 1) (by omega) (by omega) (by decide) dX10_warms_182 ?_
            rw [show ry38 (qy12 + 1) = (K9 (7 * j + 1)) - 0 from (congrFun hvy39 _).trans ((uZ_n _ _ (by omega)).trans ((congrFun hvy30 _).trans (uZ_s _ _ _)))]
            refine z_if_le (tgt := 187) C dX10_warms_183 (by decide) (by omega) (fun hby44 => ?_) (fun hby44 => ?_)
            · refine z_aload_n C 5 dX10_warms_187 rfl ?_
              refine z_iload_n C 6 dX10_warms_188 rfl ?_
              refine z_iload_n C 7 dX10_warms_189 rfl ?_
              refine z_iload C 4 dX10_warms_190 rfl ?_
              refine z_cV (As := [.int (zI ((b : Int))), .int (zI ((s : Int))), .int (zI ((j : Int)))]) (rest := []) (ci := 12) C (c_X10_setsMany l D A cs tt N ad _ i hN _ hgy43 _ hgy37 b s p hp (by omega) (by omega) ((j : Int))) (lt_A0 hN rfl) hay4 hgy43 rfl rfl mv_yX10_setsMany q_1717 hd_yX10_setsMany (by decide) (Nat.le_of_ble_eq_true rfl) (by decide) dX10_warms_192 rfl (kV0 fun gvy45 hvy45 => ?_)
              obtain ⟨hcvy45, hfvy45⟩ := hvy45
              obtain ⟨ry46, hvy47⟩ : ∃ rZ9 : Nat → Int, rZ9 = uZ ry38 (p) ((j : Int)) := ⟨_, rfl⟩
              rw [← hvy47] at hcvy45
              have hCy48 := lay_n hCy40 hvy47 (by omega)
              refine z_iload C 4 dX10_warms_195 rfl ?_
              refine z_if_ne (tgt := 218) C dX10_warms_197 (by decide) (by omega) (fun hby49 => ?_) (fun hby49 => ?_)
              · refine z_aload_n C 5 dX10_warms_218 rfl ?_
                have hgy50 := (hfvy45 (i) (ne_o (i := i) (c := 0) (d := 1) rfl)).trans hgy43
                refine z_get (v := .ref (ad (i + 1))) C (lt_A0 hN rfl) hay4 hgy50 rfl inA_X10 0 (by decide) q_1459 rfl rfl dX10_warms_219 ?_
                refine z_iload_n C 6 dX10_warms_222 rfl ?_
                refine z_iload_n C 7 dX10_warms_223 rfl ?_
                refine z_iload C 4 dX10_warms_224 rfl ?_
                refine z_iconst (z := 1) C dX10_warms_226 rfl ?_
                refine z_isub C dX10_warms_227 ?_
                have hqy51k : (((j : Int)) - 1 : Int) = (((j - 1) : Nat) : Int) := by omega
                obtain ⟨qy51, hqy51⟩ : ∃ q9 : Nat, p + 2 + 7 * (j - 1) = q9 := ⟨_, rfl⟩
                refine z_cS (As := [.int (zI ((b : Int))), .int (zI ((s : Int))), .int (zI (((j : Int)) - 1))]) (rest := [.ref (ad (i + 1))]) C (c_X10_at l D A cs tt N ad _ ((b : Int)) (by omega) ((s : Int)) (by omega) (((j : Int)) - 1) (by omega)) ms_yX10_at q_1753 hd_yX10_at (by decide) (Nat.le_of_ble_eq_true rfl) (by decide) dX10_warms_228 rfl (kI0 fun vy52 gvy52 hvy52 => ?_)
                obtain ⟨hvy52, rfl⟩ := hvy52
                rw [show vy52 = (qy51 : Int) by omega]
                refine z_iconst (z := 2) C dX10_warms_231 rfl ?_
                refine z_iadd C dX10_warms_232 ?_
                refine z_dup2 C dX10_warms_233 rfl rfl ?_
                refine z_iald C (lt_A (c := 1) hN rfl) hay5 hcvy45 (qy51 + 2) (by omega) (by omega) (by decide) dX10_warms_234 ?_
                rw [show ry46 (qy51 + 2) = r9 (qy51 + 2) from (congrFun hvy47 _).trans ((uZ_n _ _ (by omega)).trans ((congrFun hvy39 _).trans ((uZ_n _ _ (by omega)).trans ((congrFun hvy30 _).trans ((uZ_n _ _ (by omega)).trans ((congrFun hvy20 _).trans ((uZ_n _ _ (by omega)).trans (rfl))))))))]
                rw [show r9 (qy51 + 2) = K9 (7 * (j - 1) + 2) from (congrArg r9 (show qy51 + 2 = p + 2 + (7 * (j - 1) + 2) by omega)).trans (hC9 (7 * (j - 1) + 2) (by omega))]
                obtain ⟨⟨qy530, qy531, qy532, qy533, qy534, qy535, qy536⟩, qy539⟩ := hO9.ly (l := (j - 1)) (by omega)
                refine z_aload_n C 5 dX10_warms_235 rfl ?_
                refine z_get (v := .ref (ad (i + 1))) C (lt_A0 hN rfl) hay4 hgy50 rfl inA_X10 0 (by decide) q_1459 rfl rfl dX10_warms_236 ?_
                refine z_iload C 3 dX10_warms_239 rfl ?_
                refine z_iconst (z := 2) C dX10_warms_241 rfl ?_
                refine z_iadd C dX10_warms_242 ?_
                refine z_iald C (lt_A (c := 1) hN rfl) hay5 hcvy45 (qy12 + 2) (by omega) (by omega) (by decide) dX10_warms_243 ?_
                rw [show ry46 (qy12 + 2) = (K9 (7 * j + 2)) + 0 from (congrFun hvy47 _).trans ((uZ_n _ _ (by omega)).trans ((congrFun hvy39 _).trans (uZ_s _ _ _)))]
                refine z_iadd C dX10_warms_244 ?_
                refine z_iast C (lt_A (c := 1) hN rfl) hay5 hcvy45 (qy51 + 2) (by omega) (by omega) (by decide) dX10_warms_245 (fun gy54 egy55 => ?_)
                have hgy56 := up_s egy55
                obtain ⟨ry57, hvy58⟩ : ∃ rZ9 : Nat → Int, rZ9 = uZ ry46 (qy51 + 2) ((K9 (7 * (j - 1) + 2)) + ((K9 (7 * j + 2)) + 0)) := ⟨_, rfl⟩
                rw [← hvy58] at hgy56
                obtain ⟨Ky60, hKy61⟩ : ∃ KZ9 : Nat → Int, KZ9 = uZ Ky41 (7 * (j - 1) + 2) ((K9 (7 * (j - 1) + 2)) + ((K9 (7 * j + 2)) + 0)) := ⟨_, rfl⟩
                have hCy59 := lay_r hCy48 hvy58 hKy61 (by omega)
                refine z_goto (tgt := 10) C dX10_warms_246 (by decide) ?_
                refine z_lv (lv' := [(0, .ref (ad i)), (1, .int (zI ((b : Int)))), (2, .int (zI ((s : Int)))), (3, .int (zI (z1))), (4, .int (zI ((he - (vy15 * (K9 (7 * j + 1)))) - (100 * 0))))]) [5, 6, 7, 8, 0] rfl ?_
                have hfry62 : ∀ j, j ≠ qy51 + 2 → j ≠ p → j ≠ qy12 + 2 → j ≠ qy12 + 1 → j ≠ qy12 + 4 → ry57 j = r9 j := fun j n0 n1 n2 n3 n4 => (congrFun hvy58 _).trans ((uZ_n _ _ n0).trans ((congrFun hvy47 _).trans ((uZ_n _ _ n1).trans ((congrFun hvy39 _).trans ((uZ_n _ _ n2).trans ((congrFun hvy30 _).trans ((uZ_n _ _ n3).trans ((congrFun hvy20 _).trans ((uZ_n _ _ n4).trans (rfl))))))))))
                have hM9 : meM K9 j he = 0 := by unfold meM; rw [hW9, hL9]; rw [if_neg (by omega)]
                have hKw : Ky60 = wtK (meK K9 j he) j (K9 (7 * j + 2) + meM K9 j he) := by
                  unfold wtK
                  rw [if_neg (by omega)]
                  funext q9
                  rw [hKy61, hKy42, hKy33, hKy23]
                  unfold meK uZ
                  rw [hM9, hW9]
                  all_goals ((repeat' split) <;> first | rfl | omega | (subst_vars; omega))
                have hro2 : ry57 (p + 1) = wtR j ro9 (K9 (7 * j + 2) + meM K9 j he) := by unfold wtR; rw [if_neg (by omega)]; exact ((((congrFun hvy58 _).trans ((uZ_n _ _ (by omega)).trans ((congrFun hvy47 _).trans ((uZ_n _ _ (by omega)).trans ((congrFun hvy39 _).trans ((uZ_n _ _ (by omega)).trans ((congrFun hvy30 _).trans ((uZ_n _ _ (by omega)).trans ((congrFun hvy20 _).trans ((uZ_n _ _ (by omega)).trans (rfl)))))))))))) : ry57 (p + 1) = r9 (p + 1)).trans hr9
                have hm2 : mlZ j Ky60 (wtR j ro9 (K9 (7 * j + 2) + meM K9 j he)) ((he - (vy15 * (K9 (7 * j + 1)))) - (100 * 0)) = mlZ n K ro (z1 * op s) := by
                  rw [← hml, hKw]
                  show _ = (if he ≤ 0 then _ else if 0 < K9 (7 * j + 1) - meM K9 j he then _ else _)
                  rw [if_neg (by omega), if_neg (by omega)]
                  rw [show meL K9 j he - 100 * meM K9 j he = (he - (vy15 * (K9 (7 * j + 1)))) - (100 * 0) by rw [hL9, hM9]]
                have hOm := okP_c (C' := meK K9 j he) (hO9.cut (k := j) (by omega)) (fun q9 a9 => by unfold meK; rw [uZ_n _ _ (by omega), uZ_n _ _ (by omega), uZ_n _ _ (by omega)])
                have hs7 : sZ K9 (j + 1) = sZ K9 j + (K9 (7 * j + 1) + K9 (7 * j + 2)) := rfl
                have hs6 := hO9.2.2.1
                have hMb := (meM_b (le := he) hO9 (k := j) (Nat.lt_succ_self j) (by omega))
                have hO2 := wtK_ok (i := j) (w := (K9 (7 * j + 2) + meM K9 j he)) (ro := ro9) hOm.1 (Nat.le_refl _) (by omega) (by omega)
                rw [← hKw] at hO2
                exact ih _ (by omega) ((he - (vy15 * (K9 (7 * j + 1)))) - (100 * 0)) Ky60 (wtR j ro9 (K9 (7 * j + 2) + meM K9 j he)) ry57 j gy54 rfl hgy56 (fun j j1 => by rw [egy55, va_up_ne _ _ (by omega)]; rw [hfvy45 _ (by omega)]; rw [egy36, va_up_ne _ _ (by omega)]; rw [egy27, va_up_ne _ _ (by omega)]; rw [egy17, va_up_ne _ _ (by omega)]; exact f3 j j1) (fun j a1 => (hfry62 j (by omega) (by omega) (by omega) (by omega) (by omega)).trans (f5 j a1)) (by rw [show ry57 p = (j : Int) from (congrFun hvy58 _).trans ((uZ_n _ _ (by omega)).trans ((congrFun hvy47 _).trans (uZ_s _ _ _)))]) hro2 (fun q9 h8 => hCy59 q9 (by omega)) hO2.1 (by omega) hm2
              · refine z_aload_n C 5 dX10_warms_200 rfl ?_
                refine z_iload_n C 6 dX10_warms_201 rfl ?_
                refine z_iload_n C 7 dX10_warms_202 rfl ?_
                refine z_aload_n C 5 dX10_warms_203 rfl ?_
                have hgy63 := (hfvy45 (i) (ne_o (i := i) (c := 0) (d := 1) rfl)).trans hgy43
                refine z_get (v := .ref (ad (i + 1))) C (lt_A0 hN rfl) hay4 hgy63 rfl inA_X10 0 (by decide) q_1459 rfl rfl dX10_warms_204 ?_
                refine z_iload C 3 dX10_warms_207 rfl ?_
                refine z_iconst (z := 2) C dX10_warms_209 rfl ?_
                refine z_iadd C dX10_warms_210 ?_
                refine z_iald C (lt_A (c := 1) hN rfl) hay5 hcvy45 (qy12 + 2) (by omega) (by omega) (by decide) dX10_warms_211 ?_
                rw [show ry46 (qy12 + 2) = (K9 (7 * j + 2)) + 0 from (congrFun hvy47 _).trans ((uZ_n _ _ (by omega)).trans ((congrFun hvy39 _).trans (uZ_s _ _ _)))]
                refine z_cV (As := [.int (zI ((b : Int))), .int (zI ((s : Int))), .int (zI ((K9 (7 * j + 2)) + 0))]) (rest := []) (ci := 12) C (c_X10_runsOff l D A cs tt N ad _ i hN _ hgy63 _ hcvy45 b s p hp (by omega) (by omega) ((K9 (7 * j + 2)) + 0)) (lt_A0 hN rfl) hay4 hgy63 rfl rfl mv_yX10_runsOff q_1912 hd_yX10_runsOff (by decide) (Nat.le_of_ble_eq_true rfl) (by decide) dX10_warms_212 rfl (kV0 fun gvy64 hvy64 => ?_)
                obtain ⟨hcvy64, hfvy64⟩ := hvy64
                obtain ⟨ry65, hvy66⟩ : ∃ rZ9 : Nat → Int, rZ9 = uZ ry46 (p + 1) (ry46 (p + 1) + ((K9 (7 * j + 2)) + 0)) := ⟨_, rfl⟩
                rw [← hvy66] at hcvy64
                have hCy67 := lay_n hCy48 hvy66 (by omega)
                refine z_goto (tgt := 246) C dX10_warms_215 (by decide) ?_
                refine z_goto (tgt := 10) C dX10_warms_246 (by decide) ?_
                refine z_lv (lv' := [(0, .ref (ad i)), (1, .int (zI ((b : Int)))), (2, .int (zI ((s : Int)))), (3, .int (zI (z1))), (4, .int (zI ((he - (vy15 * (K9 (7 * j + 1)))) - (100 * 0))))]) [5, 6, 7, 8, 0] rfl ?_
                have hfry68 : ∀ j, j ≠ p + 1 → j ≠ p → j ≠ qy12 + 2 → j ≠ qy12 + 1 → j ≠ qy12 + 4 → ry65 j = r9 j := fun j n0 n1 n2 n3 n4 => (congrFun hvy66 _).trans ((uZ_n _ _ n0).trans ((congrFun hvy47 _).trans ((uZ_n _ _ n1).trans ((congrFun hvy39 _).trans ((uZ_n _ _ n2).trans ((congrFun hvy30 _).trans ((uZ_n _ _ n3).trans ((congrFun hvy20 _).trans ((uZ_n _ _ n4).trans (rfl))))))))))
                have hM9 : meM K9 j he = 0 := by unfold meM; rw [hW9, hL9]; rw [if_neg (by omega)]
                have hKw : Ky41 = wtK (meK K9 j he) j (K9 (7 * j + 2) + meM K9 j he) := by
                  unfold wtK
                  rw [if_pos (by omega)]
                  funext q9
                  rw [hKy42, hKy33, hKy23]
                  unfold meK uZ
                  rw [hM9, hW9]
                  all_goals ((repeat' split) <;> first | rfl | omega | (subst_vars; omega))
                have hb1 : ry46 (p + 1) = ro9 := (((congrFun hvy47 _).trans ((uZ_n _ _ (by omega)).trans ((congrFun hvy39 _).trans ((uZ_n _ _ (by omega)).trans ((congrFun hvy30 _).trans ((uZ_n _ _ (by omega)).trans ((congrFun hvy20 _).trans ((uZ_n _ _ (by omega)).trans (rfl))))))))) : ry46 (p + 1) = r9 (p + 1)).trans hr9
                have hro2 : ry65 (p + 1) = wtR j ro9 (K9 (7 * j + 2) + meM K9 j he) := by unfold wtR; rw [if_pos (by omega), hM9, show ry65 (p + 1) = ry46 (p + 1) + ((K9 (7 * j + 2)) + 0) from ((congrFun hvy66 _).trans (uZ_s _ _ _))]; omega
                have hm2 : mlZ j Ky41 (wtR j ro9 (K9 (7 * j + 2) + meM K9 j he)) ((he - (vy15 * (K9 (7 * j + 1)))) - (100 * 0)) = mlZ n K ro (z1 * op s) := by
                  rw [← hml, hKw]
                  show _ = (if he ≤ 0 then _ else if 0 < K9 (7 * j + 1) - meM K9 j he then _ else _)
                  rw [if_neg (by omega), if_neg (by omega)]
                  rw [show meL K9 j he - 100 * meM K9 j he = (he - (vy15 * (K9 (7 * j + 1)))) - (100 * 0) by rw [hL9, hM9]]
                have hOm := okP_c (C' := meK K9 j he) (hO9.cut (k := j) (by omega)) (fun q9 a9 => by unfold meK; rw [uZ_n _ _ (by omega), uZ_n _ _ (by omega), uZ_n _ _ (by omega)])
                have hs7 : sZ K9 (j + 1) = sZ K9 j + (K9 (7 * j + 1) + K9 (7 * j + 2)) := rfl
                have hs6 := hO9.2.2.1
                have hMb := (meM_b (le := he) hO9 (k := j) (Nat.lt_succ_self j) (by omega))
                have hO2 := wtK_ok (i := j) (w := (K9 (7 * j + 2) + meM K9 j he)) (ro := ro9) hOm.1 (Nat.le_refl _) (by omega) (by omega)
                rw [← hKw] at hO2
                exact ih _ (by omega) ((he - (vy15 * (K9 (7 * j + 1)))) - (100 * 0)) Ky41 (wtR j ro9 (K9 (7 * j + 2) + meM K9 j he)) ry65 j gvy64 rfl hcvy64 (fun j j1 => by rw [hfvy64 _ (by omega)]; rw [hfvy45 _ (by omega)]; rw [egy36, va_up_ne _ _ (by omega)]; rw [egy27, va_up_ne _ _ (by omega)]; rw [egy17, va_up_ne _ _ (by omega)]; exact f3 j j1) (fun j a1 => (hfry68 j (by omega) (by omega) (by omega) (by omega) (by omega)).trans (f5 j a1)) (by rw [show ry65 p = (j : Int) from (congrFun hvy66 _).trans ((uZ_n _ _ (by omega)).trans ((congrFun hvy47 _).trans (uZ_s _ _ _)))]) hro2 (fun q9 h8 => hCy67 q9 (by omega)) hO2.1 (by omega) hm2
            · have hfry69 : ∀ j, j ≠ qy12 + 2 → j ≠ qy12 + 1 → j ≠ qy12 + 4 → ry38 j = r9 j := fun j n0 n1 n2 => (congrFun hvy39 _).trans ((uZ_n _ _ n0).trans ((congrFun hvy30 _).trans ((uZ_n _ _ n1).trans ((congrFun hvy20 _).trans ((uZ_n _ _ n2).trans (rfl))))))
              have hM9 : meM K9 j he = 0 := by unfold meM; rw [hW9, hL9]; rw [if_neg (by omega)]
              have hKm : Ky41 = meK K9 j he := by
                unfold meK
                rw [hM9, hW9, hKy42, hKy33, hKy23]
              have hq9 : (j + 1, Ky41, ro9) = mlZ n K ro (z1 * op s) := by rw [← hml, hKm]; exact ((if_neg (by omega)).trans (if_pos (by omega))).symm
              rw [← hq9]
              exact z_vret C hr hlk dX10_warms_186 (by decide) (by decide) ⟨rfl, rfl, rfl, ⟨_, hgy37, ⟨(((congrFun hvy39 _).trans ((uZ_n _ _ (by omega)).trans ((congrFun hvy30 _).trans ((uZ_n _ _ (by omega)).trans ((congrFun hvy20 _).trans ((uZ_n _ _ (by omega)).trans (rfl))))))).trans hn9), ((((congrFun hvy39 _).trans ((uZ_n _ _ (by omega)).trans ((congrFun hvy30 _).trans ((uZ_n _ _ (by omega)).trans ((congrFun hvy20 _).trans ((uZ_n _ _ (by omega)).trans (rfl))))))) : ry38 (p + 1) = r9 (p + 1)).trans hr9), hCy40⟩, fun j a1 => (hfry69 j (by omega) (by omega) (by omega)).trans (f5 j a1)⟩, fun j j1 => by rw [egy36, va_up_ne _ _ (by omega)]; rw [egy27, va_up_ne _ _ (by omega)]; rw [egy17, va_up_ne _ _ (by omega)]; exact f3 j j1⟩
          · refine z_iload C 0 dX10_warms_113 rfl ?_
            refine z_bipush (z := 100) C dX10_warms_115 (by decide) ?_
            refine z_idiv C dX10_warms_117 (by omega) (by omega) (by omega) ?_
            obtain ⟨xy70, exy70, hxy70⟩ : ∃ x9, (he - (vy15 * (K9 (7 * j + 1)))).tdiv 100 = x9 ∧ (0 ≤ he - (vy15 * (K9 (7 * j + 1))) → 0 ≤ x9 ∧ 100 * x9 ≤ he - (vy15 * (K9 (7 * j + 1))) ∧ he - (vy15 * (K9 (7 * j + 1))) < 100 * x9 + 100) ∧ (he - (vy15 * (K9 (7 * j + 1))) ≤ 0 → x9 ≤ 0 ∧ he - (vy15 * (K9 (7 * j + 1))) ≤ 100 * x9 ∧ 100 * x9 < he - (vy15 * (K9 (7 * j + 1))) + 100) := tdk 100 (by decide)
            rw [exy70]
            refine z_aload_n C 4 dX10_warms_118 rfl ?_
            refine z_get (v := .ref (ad (i + 1))) C (lt_A0 hN rfl) hay4 hgy24 rfl inA_X10 0 (by decide) q_1459 rfl rfl dX10_warms_119 ?_
            refine z_iload C 2 dX10_warms_122 rfl ?_
            refine z_iconst (z := 1) C dX10_warms_124 rfl ?_
            refine z_iadd C dX10_warms_125 ?_
            refine z_iald C (lt_A (c := 1) hN rfl) hay5 hgy18 (qy12 + 1) (by omega) (by omega) (by decide) dX10_warms_126 ?_
            rw [show ry19 (qy12 + 1) = r9 (qy12 + 1) from (congrFun hvy20 _).trans ((uZ_n _ _ (by omega)).trans (rfl))]
            rw [show r9 (qy12 + 1) = K9 (7 * j + 1) from (congrArg r9 (show qy12 + 1 = p + 2 + (7 * j + 1) by omega)).trans (hC9 (7 * j + 1) (by omega))]
            refine z_cS (As := [.int (zI (xy70)), .int (zI (K9 (7 * j + 1)))]) (rest := []) C (c_X10_lesser l D A cs tt N ad _ (xy70) (by omega) (K9 (7 * j + 1)) (by omega)) ms_yX10_lesser q_1792 hd_yX10_lesser (by decide) (Nat.le_of_ble_eq_true rfl) (by decide) dX10_warms_127 rfl (kI0 fun vy71 gvy71 hvy71 => ?_)
            obtain ⟨hvy71, rfl⟩ := hvy71
            refine z_goto (tgt := 134) C dX10_warms_130 (by decide) ?_
            refine z_istore (lv' := [(8, .int (zI (vy71))), (4, .int (zI (he - (vy15 * (K9 (7 * j + 1)))))), (7, .int (zI (vy15))), (6, .int (zI ((qy12 : Int)))), (5, .int (zI ((j : Int)))), (0, .ref (ad i)), (1, .int (zI ((b : Int)))), (2, .int (zI ((s : Int)))), (3, .int (zI (z1)))]) C dX10_warms_134 (by decide) rfl ?_
            refine z_aload_n C 5 dX10_warms_136 rfl ?_
            refine z_get (v := .ref (ad (i + 1))) C (lt_A0 hN rfl) hay4 hgy24 rfl inA_X10 0 (by decide) q_1459 rfl rfl dX10_warms_137 ?_
            refine z_iload C 3 dX10_warms_140 rfl ?_
            refine z_iconst (z := 1) C dX10_warms_142 rfl ?_
            refine z_iadd C dX10_warms_143 ?_
            refine z_dup2 C dX10_warms_144 rfl rfl ?_
            refine z_iald C (lt_A (c := 1) hN rfl) hay5 hgy18 (qy12 + 1) (by omega) (by omega) (by decide) dX10_warms_145 ?_
            rw [show ry19 (qy12 + 1) = r9 (qy12 + 1) from (congrFun hvy20 _).trans ((uZ_n _ _ (by omega)).trans (rfl))]
            rw [show r9 (qy12 + 1) = K9 (7 * j + 1) from (congrArg r9 (show qy12 + 1 = p + 2 + (7 * j + 1) by omega)).trans (hC9 (7 * j + 1) (by omega))]
            refine z_iload C 0 dX10_warms_146 rfl ?_
            refine z_isub C dX10_warms_148 ?_
            refine z_iast C (lt_A (c := 1) hN rfl) hay5 hgy18 (qy12 + 1) (by omega) (by omega) (by decide) dX10_warms_149 (fun gy72 egy73 => ?_)
            have hgy74 := up_s egy73
            obtain ⟨ry75, hvy76⟩ : ∃ rZ9 : Nat → Int, rZ9 = uZ ry19 (qy12 + 1) ((K9 (7 * j + 1)) - vy71) := ⟨_, rfl⟩
            rw [← hvy76] at hgy74
            obtain ⟨Ky78, hKy79⟩ : ∃ KZ9 : Nat → Int, KZ9 = uZ Ky22 (7 * j + 1) ((K9 (7 * j + 1)) - vy71) := ⟨_, rfl⟩
            have hCy77 := lay_r hCy21 hvy76 hKy79 (by omega)
            refine z_aload_n C 5 dX10_warms_150 rfl ?_
            have hgy80 := up_n egy73 hgy24 (ne_o (i := i) (c := 0) (d := 1) rfl)
            refine z_get (v := .ref (ad (i + 1))) C (lt_A0 hN rfl) hay4 hgy80 rfl inA_X10 0 (by decide) q_1459 rfl rfl dX10_warms_151 ?_
            refine z_iload C 3 dX10_warms_154 rfl ?_
            refine z_iconst (z := 2) C dX10_warms_156 rfl ?_
            refine z_iadd C dX10_warms_157 ?_
            refine z_dup2 C dX10_warms_158 rfl rfl ?_
            refine z_iald C (lt_A (c := 1) hN rfl) hay5 hgy74 (qy12 + 2) (by omega) (by omega) (by decide) dX10_warms_159 ?_
            rw [show ry75 (qy12 + 2) = r9 (qy12 + 2) from (congrFun hvy76 _).trans ((uZ_n _ _ (by omega)).trans ((congrFun hvy20 _).trans ((uZ_n _ _ (by omega)).trans (rfl))))]
            rw [show r9 (qy12 + 2) = K9 (7 * j + 2) from (congrArg r9 (show qy12 + 2 = p + 2 + (7 * j + 2) by omega)).trans (hC9 (7 * j + 2) (by omega))]
            refine z_iload C 0 dX10_warms_160 rfl ?_
            refine z_iadd C dX10_warms_162 ?_
            refine z_iast C (lt_A (c := 1) hN rfl) hay5 hgy74 (qy12 + 2) (by omega) (by omega) (by decide) dX10_warms_163 (fun gy81 egy82 => ?_)
            have hgy83 := up_s egy82
            obtain ⟨ry84, hvy85⟩ : ∃ rZ9 : Nat → Int, rZ9 = uZ ry75 (qy12 + 2) ((K9 (7 * j + 2)) + vy71) := ⟨_, rfl⟩
            rw [← hvy85] at hgy83
            obtain ⟨Ky87, hKy88⟩ : ∃ KZ9 : Nat → Int, KZ9 = uZ Ky78 (7 * j + 2) ((K9 (7 * j + 2)) + vy71) := ⟨_, rfl⟩
            have hCy86 := lay_r hCy77 hvy85 hKy88 (by omega)
            refine z_iload C 1 dX10_warms_164 rfl ?_
            refine z_bipush (z := 100) C dX10_warms_166 (by decide) ?_
            refine z_iload C 0 dX10_warms_168 rfl ?_
            refine z_imul C dX10_warms_170 ?_
            refine z_isub C dX10_warms_171 ?_
            refine z_istore (lv' := [(4, .int (zI ((he - (vy15 * (K9 (7 * j + 1)))) - (100 * vy71)))), (8, .int (zI (vy71))), (7, .int (zI (vy15))), (6, .int (zI ((qy12 : Int)))), (5, .int (zI ((j : Int)))), (0, .ref (ad i)), (1, .int (zI ((b : Int)))), (2, .int (zI ((s : Int)))), (3, .int (zI (z1)))]) C dX10_warms_172 (by decide) rfl ?_
            refine z_aload_n C 5 dX10_warms_174 rfl ?_
            have hgy89 := up_n egy82 hgy80 (ne_o (i := i) (c := 0) (d := 1) rfl)
            refine z_get (v := .ref (ad (i + 1))) C (lt_A0 hN rfl) hay4 hgy89 rfl inA_X10 0 (by decide) q_1459 rfl rfl dX10_warms_175 ?_
            refine z_iload C 3 dX10_warms_178 rfl ?_
            refine z_iconst (z := 1) C dX10_warms_180 rfl ?_
            refine z_iadd C dX10_warms_181 ?_
            refine z_iald C (lt_A (c := 1) hN rfl) hay5 hgy83 (qy12 + 1) (by omega) (by omega) (by decide) dX10_warms_182 ?_
            rw [show ry84 (qy12 + 1) = (K9 (7 * j + 1)) - vy71 from (congrFun hvy85 _).trans ((uZ_n _ _ (by omega)).trans ((congrFun hvy76 _).trans (uZ_s _ _ _)))]
            refine z_if_le (tgt := 187) C dX10_warms_183 (by decide) (by omega) (fun hby90 => ?_) (fun hby90 => ?_)
            · refine z_aload_n C 5 dX10_warms_187 rfl ?_
              refine z_iload_n C 6 dX10_warms_188 rfl ?_
              refine z_iload_n C 7 dX10_warms_189 rfl ?_
              refine z_iload C 4 dX10_warms_190 rfl ?_
              refine z_cV (As := [.int (zI ((b : Int))), .int (zI ((s : Int))), .int (zI ((j : Int)))]) (rest := []) (ci := 12) C (c_X10_setsMany l D A cs tt N ad _ i hN _ hgy89 _ hgy83 b s p hp (by omega) (by omega) ((j : Int))) (lt_A0 hN rfl) hay4 hgy89 rfl rfl mv_yX10_setsMany q_1717 hd_yX10_setsMany (by decide) (Nat.le_of_ble_eq_true rfl) (by decide) dX10_warms_192 rfl (kV0 fun gvy91 hvy91 => ?_)
              obtain ⟨hcvy91, hfvy91⟩ := hvy91
              obtain ⟨ry92, hvy93⟩ : ∃ rZ9 : Nat → Int, rZ9 = uZ ry84 (p) ((j : Int)) := ⟨_, rfl⟩
              rw [← hvy93] at hcvy91
              have hCy94 := lay_n hCy86 hvy93 (by omega)
              refine z_iload C 4 dX10_warms_195 rfl ?_
              refine z_if_ne (tgt := 218) C dX10_warms_197 (by decide) (by omega) (fun hby95 => ?_) (fun hby95 => ?_)
              · refine z_aload_n C 5 dX10_warms_218 rfl ?_
                have hgy96 := (hfvy91 (i) (ne_o (i := i) (c := 0) (d := 1) rfl)).trans hgy89
                refine z_get (v := .ref (ad (i + 1))) C (lt_A0 hN rfl) hay4 hgy96 rfl inA_X10 0 (by decide) q_1459 rfl rfl dX10_warms_219 ?_
                refine z_iload_n C 6 dX10_warms_222 rfl ?_
                refine z_iload_n C 7 dX10_warms_223 rfl ?_
                refine z_iload C 4 dX10_warms_224 rfl ?_
                refine z_iconst (z := 1) C dX10_warms_226 rfl ?_
                refine z_isub C dX10_warms_227 ?_
                have hqy97k : (((j : Int)) - 1 : Int) = (((j - 1) : Nat) : Int) := by omega
                obtain ⟨qy97, hqy97⟩ : ∃ q9 : Nat, p + 2 + 7 * (j - 1) = q9 := ⟨_, rfl⟩
                refine z_cS (As := [.int (zI ((b : Int))), .int (zI ((s : Int))), .int (zI (((j : Int)) - 1))]) (rest := [.ref (ad (i + 1))]) C (c_X10_at l D A cs tt N ad _ ((b : Int)) (by omega) ((s : Int)) (by omega) (((j : Int)) - 1) (by omega)) ms_yX10_at q_1753 hd_yX10_at (by decide) (Nat.le_of_ble_eq_true rfl) (by decide) dX10_warms_228 rfl (kI0 fun vy98 gvy98 hvy98 => ?_)
                obtain ⟨hvy98, rfl⟩ := hvy98
                rw [show vy98 = (qy97 : Int) by omega]
                refine z_iconst (z := 2) C dX10_warms_231 rfl ?_
                refine z_iadd C dX10_warms_232 ?_
                refine z_dup2 C dX10_warms_233 rfl rfl ?_
                refine z_iald C (lt_A (c := 1) hN rfl) hay5 hcvy91 (qy97 + 2) (by omega) (by omega) (by decide) dX10_warms_234 ?_
                rw [show ry92 (qy97 + 2) = r9 (qy97 + 2) from (congrFun hvy93 _).trans ((uZ_n _ _ (by omega)).trans ((congrFun hvy85 _).trans ((uZ_n _ _ (by omega)).trans ((congrFun hvy76 _).trans ((uZ_n _ _ (by omega)).trans ((congrFun hvy20 _).trans ((uZ_n _ _ (by omega)).trans (rfl))))))))]
                rw [show r9 (qy97 + 2) = K9 (7 * (j - 1) + 2) from (congrArg r9 (show qy97 + 2 = p + 2 + (7 * (j - 1) + 2) by omega)).trans (hC9 (7 * (j - 1) + 2) (by omega))]
                obtain ⟨⟨qy990, qy991, qy992, qy993, qy994, qy995, qy996⟩, qy999⟩ := hO9.ly (l := (j - 1)) (by omega)
                refine z_aload_n C 5 dX10_warms_235 rfl ?_
                refine z_get (v := .ref (ad (i + 1))) C (lt_A0 hN rfl) hay4 hgy96 rfl inA_X10 0 (by decide) q_1459 rfl rfl dX10_warms_236 ?_
                refine z_iload C 3 dX10_warms_239 rfl ?_
                refine z_iconst (z := 2) C dX10_warms_241 rfl ?_
                refine z_iadd C dX10_warms_242 ?_
                refine z_iald C (lt_A (c := 1) hN rfl) hay5 hcvy91 (qy12 + 2) (by omega) (by omega) (by decide) dX10_warms_243 ?_
                rw [show ry92 (qy12 + 2) = (K9 (7 * j + 2)) + vy71 from (congrFun hvy93 _).trans ((uZ_n _ _ (by omega)).trans ((congrFun hvy85 _).trans (uZ_s _ _ _)))]
                refine z_iadd C dX10_warms_244 ?_
                refine z_iast C (lt_A (c := 1) hN rfl) hay5 hcvy91 (qy97 + 2) (by omega) (by omega) (by decide) dX10_warms_245 (fun gy100 egy101 => ?_)
                have hgy102 := up_s egy101
                obtain ⟨ry103, hvy104⟩ : ∃ rZ9 : Nat → Int, rZ9 = uZ ry92 (qy97 + 2) ((K9 (7 * (j - 1) + 2)) + ((K9 (7 * j + 2)) + vy71)) := ⟨_, rfl⟩
                rw [← hvy104] at hgy102
                obtain ⟨Ky106, hKy107⟩ : ∃ KZ9 : Nat → Int, KZ9 = uZ Ky87 (7 * (j - 1) + 2) ((K9 (7 * (j - 1) + 2)) + ((K9 (7 * j + 2)) + vy71)) := ⟨_, rfl⟩
                have hCy105 := lay_r hCy94 hvy104 hKy107 (by omega)
                refine z_goto (tgt := 10) C dX10_warms_246 (by decide) ?_
                refine z_lv (lv' := [(0, .ref (ad i)), (1, .int (zI ((b : Int)))), (2, .int (zI ((s : Int)))), (3, .int (zI (z1))), (4, .int (zI ((he - (vy15 * (K9 (7 * j + 1)))) - (100 * vy71))))]) [5, 6, 7, 8, 0] rfl ?_
                have hfry108 : ∀ j, j ≠ qy97 + 2 → j ≠ p → j ≠ qy12 + 2 → j ≠ qy12 + 1 → j ≠ qy12 + 4 → ry103 j = r9 j := fun j n0 n1 n2 n3 n4 => (congrFun hvy104 _).trans ((uZ_n _ _ n0).trans ((congrFun hvy93 _).trans ((uZ_n _ _ n1).trans ((congrFun hvy85 _).trans ((uZ_n _ _ n2).trans ((congrFun hvy76 _).trans ((uZ_n _ _ n3).trans ((congrFun hvy20 _).trans ((uZ_n _ _ n4).trans (rfl))))))))))
                have hM9 : meM K9 j he = vy71 := by unfold meM; rw [hW9, hL9]; rw [if_pos (by omega)]; unfold mnZ; rw [exy70]; split <;> omega
                have hKw : Ky106 = wtK (meK K9 j he) j (K9 (7 * j + 2) + meM K9 j he) := by
                  unfold wtK
                  rw [if_neg (by omega)]
                  funext q9
                  rw [hKy107, hKy88, hKy79, hKy23]
                  unfold meK uZ
                  rw [hM9, hW9]
                  all_goals ((repeat' split) <;> first | rfl | omega | (subst_vars; omega))
                have hro2 : ry103 (p + 1) = wtR j ro9 (K9 (7 * j + 2) + meM K9 j he) := by unfold wtR; rw [if_neg (by omega)]; exact ((((congrFun hvy104 _).trans ((uZ_n _ _ (by omega)).trans ((congrFun hvy93 _).trans ((uZ_n _ _ (by omega)).trans ((congrFun hvy85 _).trans ((uZ_n _ _ (by omega)).trans ((congrFun hvy76 _).trans ((uZ_n _ _ (by omega)).trans ((congrFun hvy20 _).trans ((uZ_n _ _ (by omega)).trans (rfl)))))))))))) : ry103 (p + 1) = r9 (p + 1)).trans hr9
                have hm2 : mlZ j Ky106 (wtR j ro9 (K9 (7 * j + 2) + meM K9 j he)) ((he - (vy15 * (K9 (7 * j + 1)))) - (100 * vy71)) = mlZ n K ro (z1 * op s) := by
                  rw [← hml, hKw]
                  show _ = (if he ≤ 0 then _ else if 0 < K9 (7 * j + 1) - meM K9 j he then _ else _)
                  rw [if_neg (by omega), if_neg (by omega)]
                  rw [show meL K9 j he - 100 * meM K9 j he = (he - (vy15 * (K9 (7 * j + 1)))) - (100 * vy71) by rw [hL9, hM9]]
                have hOm := okP_c (C' := meK K9 j he) (hO9.cut (k := j) (by omega)) (fun q9 a9 => by unfold meK; rw [uZ_n _ _ (by omega), uZ_n _ _ (by omega), uZ_n _ _ (by omega)])
                have hs7 : sZ K9 (j + 1) = sZ K9 j + (K9 (7 * j + 1) + K9 (7 * j + 2)) := rfl
                have hs6 := hO9.2.2.1
                have hMb := (meM_b (le := he) hO9 (k := j) (Nat.lt_succ_self j) (by omega))
                have hO2 := wtK_ok (i := j) (w := (K9 (7 * j + 2) + meM K9 j he)) (ro := ro9) hOm.1 (Nat.le_refl _) (by omega) (by omega)
                rw [← hKw] at hO2
                exact ih _ (by omega) ((he - (vy15 * (K9 (7 * j + 1)))) - (100 * vy71)) Ky106 (wtR j ro9 (K9 (7 * j + 2) + meM K9 j he)) ry103 j gy100 rfl hgy102 (fun j j1 => by rw [egy101, va_up_ne _ _ (by omega)]; rw [hfvy91 _ (by omega)]; rw [egy82, va_up_ne _ _ (by omega)]; rw [egy73, va_up_ne _ _ (by omega)]; rw [egy17, va_up_ne _ _ (by omega)]; exact f3 j j1) (fun j a1 => (hfry108 j (by omega) (by omega) (by omega) (by omega) (by omega)).trans (f5 j a1)) (by rw [show ry103 p = (j : Int) from (congrFun hvy104 _).trans ((uZ_n _ _ (by omega)).trans ((congrFun hvy93 _).trans (uZ_s _ _ _)))]) hro2 (fun q9 h8 => hCy105 q9 (by omega)) hO2.1 (by omega) hm2
              · refine z_aload_n C 5 dX10_warms_200 rfl ?_
                refine z_iload_n C 6 dX10_warms_201 rfl ?_
                refine z_iload_n C 7 dX10_warms_202 rfl ?_
                refine z_aload_n C 5 dX10_warms_203 rfl ?_
                have hgy109 := (hfvy91 (i) (ne_o (i := i) (c := 0) (d := 1) rfl)).trans hgy89
                refine z_get (v := .ref (ad (i + 1))) C (lt_A0 hN rfl) hay4 hgy109 rfl inA_X10 0 (by decide) q_1459 rfl rfl dX10_warms_204 ?_
                refine z_iload C 3 dX10_warms_207 rfl ?_
                refine z_iconst (z := 2) C dX10_warms_209 rfl ?_
                refine z_iadd C dX10_warms_210 ?_
                refine z_iald C (lt_A (c := 1) hN rfl) hay5 hcvy91 (qy12 + 2) (by omega) (by omega) (by decide) dX10_warms_211 ?_
                rw [show ry92 (qy12 + 2) = (K9 (7 * j + 2)) + vy71 from (congrFun hvy93 _).trans ((uZ_n _ _ (by omega)).trans ((congrFun hvy85 _).trans (uZ_s _ _ _)))]
                refine z_cV (As := [.int (zI ((b : Int))), .int (zI ((s : Int))), .int (zI ((K9 (7 * j + 2)) + vy71))]) (rest := []) (ci := 12) C (c_X10_runsOff l D A cs tt N ad _ i hN _ hgy109 _ hcvy91 b s p hp (by omega) (by omega) ((K9 (7 * j + 2)) + vy71)) (lt_A0 hN rfl) hay4 hgy109 rfl rfl mv_yX10_runsOff q_1912 hd_yX10_runsOff (by decide) (Nat.le_of_ble_eq_true rfl) (by decide) dX10_warms_212 rfl (kV0 fun gvy110 hvy110 => ?_)
                obtain ⟨hcvy110, hfvy110⟩ := hvy110
                obtain ⟨ry111, hvy112⟩ : ∃ rZ9 : Nat → Int, rZ9 = uZ ry92 (p + 1) (ry92 (p + 1) + ((K9 (7 * j + 2)) + vy71)) := ⟨_, rfl⟩
                rw [← hvy112] at hcvy110
                have hCy113 := lay_n hCy94 hvy112 (by omega)
                refine z_goto (tgt := 246) C dX10_warms_215 (by decide) ?_
                refine z_goto (tgt := 10) C dX10_warms_246 (by decide) ?_
                refine z_lv (lv' := [(0, .ref (ad i)), (1, .int (zI ((b : Int)))), (2, .int (zI ((s : Int)))), (3, .int (zI (z1))), (4, .int (zI ((he - (vy15 * (K9 (7 * j + 1)))) - (100 * vy71))))]) [5, 6, 7, 8, 0] rfl ?_
                have hfry114 : ∀ j, j ≠ p + 1 → j ≠ p → j ≠ qy12 + 2 → j ≠ qy12 + 1 → j ≠ qy12 + 4 → ry111 j = r9 j := fun j n0 n1 n2 n3 n4 => (congrFun hvy112 _).trans ((uZ_n _ _ n0).trans ((congrFun hvy93 _).trans ((uZ_n _ _ n1).trans ((congrFun hvy85 _).trans ((uZ_n _ _ n2).trans ((congrFun hvy76 _).trans ((uZ_n _ _ n3).trans ((congrFun hvy20 _).trans ((uZ_n _ _ n4).trans (rfl))))))))))
                have hM9 : meM K9 j he = vy71 := by unfold meM; rw [hW9, hL9]; rw [if_pos (by omega)]; unfold mnZ; rw [exy70]; split <;> omega
                have hKw : Ky87 = wtK (meK K9 j he) j (K9 (7 * j + 2) + meM K9 j he) := by
                  unfold wtK
                  rw [if_pos (by omega)]
                  funext q9
                  rw [hKy88, hKy79, hKy23]
                  unfold meK uZ
                  rw [hM9, hW9]
                  all_goals ((repeat' split) <;> first | rfl | omega | (subst_vars; omega))
                have hb1 : ry92 (p + 1) = ro9 := (((congrFun hvy93 _).trans ((uZ_n _ _ (by omega)).trans ((congrFun hvy85 _).trans ((uZ_n _ _ (by omega)).trans ((congrFun hvy76 _).trans ((uZ_n _ _ (by omega)).trans ((congrFun hvy20 _).trans ((uZ_n _ _ (by omega)).trans (rfl))))))))) : ry92 (p + 1) = r9 (p + 1)).trans hr9
                have hro2 : ry111 (p + 1) = wtR j ro9 (K9 (7 * j + 2) + meM K9 j he) := by unfold wtR; rw [if_pos (by omega), hM9, show ry111 (p + 1) = ry92 (p + 1) + ((K9 (7 * j + 2)) + vy71) from ((congrFun hvy112 _).trans (uZ_s _ _ _))]; omega
                have hm2 : mlZ j Ky87 (wtR j ro9 (K9 (7 * j + 2) + meM K9 j he)) ((he - (vy15 * (K9 (7 * j + 1)))) - (100 * vy71)) = mlZ n K ro (z1 * op s) := by
                  rw [← hml, hKw]
                  show _ = (if he ≤ 0 then _ else if 0 < K9 (7 * j + 1) - meM K9 j he then _ else _)
                  rw [if_neg (by omega), if_neg (by omega)]
                  rw [show meL K9 j he - 100 * meM K9 j he = (he - (vy15 * (K9 (7 * j + 1)))) - (100 * vy71) by rw [hL9, hM9]]
                have hOm := okP_c (C' := meK K9 j he) (hO9.cut (k := j) (by omega)) (fun q9 a9 => by unfold meK; rw [uZ_n _ _ (by omega), uZ_n _ _ (by omega), uZ_n _ _ (by omega)])
                have hs7 : sZ K9 (j + 1) = sZ K9 j + (K9 (7 * j + 1) + K9 (7 * j + 2)) := rfl
                have hs6 := hO9.2.2.1
                have hMb := (meM_b (le := he) hO9 (k := j) (Nat.lt_succ_self j) (by omega))
                have hO2 := wtK_ok (i := j) (w := (K9 (7 * j + 2) + meM K9 j he)) (ro := ro9) hOm.1 (Nat.le_refl _) (by omega) (by omega)
                rw [← hKw] at hO2
                exact ih _ (by omega) ((he - (vy15 * (K9 (7 * j + 1)))) - (100 * vy71)) Ky87 (wtR j ro9 (K9 (7 * j + 2) + meM K9 j he)) ry111 j gvy110 rfl hcvy110 (fun j j1 => by rw [hfvy110 _ (by omega)]; rw [hfvy91 _ (by omega)]; rw [egy82, va_up_ne _ _ (by omega)]; rw [egy73, va_up_ne _ _ (by omega)]; rw [egy17, va_up_ne _ _ (by omega)]; exact f3 j j1) (fun j a1 => (hfry114 j (by omega) (by omega) (by omega) (by omega) (by omega)).trans (f5 j a1)) (by rw [show ry111 p = (j : Int) from (congrFun hvy112 _).trans ((uZ_n _ _ (by omega)).trans ((congrFun hvy93 _).trans (uZ_s _ _ _)))]) hro2 (fun q9 h8 => hCy113 q9 (by omega)) hO2.1 (by omega) hm2
            · have hfry115 : ∀ j, j ≠ qy12 + 2 → j ≠ qy12 + 1 → j ≠ qy12 + 4 → ry84 j = r9 j := fun j n0 n1 n2 => (congrFun hvy85 _).trans ((uZ_n _ _ n0).trans ((congrFun hvy76 _).trans ((uZ_n _ _ n1).trans ((congrFun hvy20 _).trans ((uZ_n _ _ n2).trans (rfl))))))
              have hM9 : meM K9 j he = vy71 := by unfold meM; rw [hW9, hL9]; rw [if_pos (by omega)]; unfold mnZ; rw [exy70]; split <;> omega
              have hKm : Ky87 = meK K9 j he := by
                unfold meK
                rw [hM9, hW9, hKy88, hKy79, hKy23]
              have hq9 : (j + 1, Ky87, ro9) = mlZ n K ro (z1 * op s) := by rw [← hml, hKm]; exact ((if_neg (by omega)).trans (if_pos (by omega))).symm
              rw [← hq9]
              exact z_vret C hr hlk dX10_warms_186 (by decide) (by decide) ⟨rfl, rfl, rfl, ⟨_, hgy83, ⟨(((congrFun hvy85 _).trans ((uZ_n _ _ (by omega)).trans ((congrFun hvy76 _).trans ((uZ_n _ _ (by omega)).trans ((congrFun hvy20 _).trans ((uZ_n _ _ (by omega)).trans (rfl))))))).trans hn9), ((((congrFun hvy85 _).trans ((uZ_n _ _ (by omega)).trans ((congrFun hvy76 _).trans ((uZ_n _ _ (by omega)).trans ((congrFun hvy20 _).trans ((uZ_n _ _ (by omega)).trans (rfl))))))) : ry84 (p + 1) = r9 (p + 1)).trans hr9), hCy86⟩, fun j a1 => (hfry115 j (by omega) (by omega) (by omega)).trans (f5 j a1)⟩, fun j j1 => by rw [egy82, va_up_ne _ _ (by omega)]; rw [egy73, va_up_ne _ _ (by omega)]; rw [egy17, va_up_ne _ _ (by omega)]; exact f3 j j1⟩
  refine z_iload_n C 3 dX10_warms_0 rfl ?_
  refine z_aload_n C 0 dX10_warms_1 rfl ?_
  refine z_get (v := .ref (ad (i + 3))) C (lt_A0 hN rfl) hay1 hg rfl inA_X10 2 (by decide) q_1461 rfl rfl dX10_warms_2 ?_
  refine z_iload_n C 2 dX10_warms_5 rfl ?_
  refine z_iald C (lt_A (c := 3) hN rfl) hay3 ha3 (s) (by omega) (by omega) (by decide) dX10_warms_6 ?_
  refine z_imul C dX10_warms_7 ?_
  refine z_istore (lv' := [(4, .int (zI (z1 * (op (s))))), (0, .ref (ad i)), (1, .int (zI ((b : Int)))), (2, .int (zI ((s : Int)))), (3, .int (zI (z1)))]) C dX10_warms_8 (by decide) rfl ?_
  refine z_lv (lv' := [(0, .ref (ad i)), (1, .int (zI ((b : Int)))), (2, .int (zI ((s : Int)))), (3, .int (zI (z1))), (4, .int (zI (z1 * (op (s)))))]) [1, 2, 3, 4, 0] rfl ?_
  exact lp _ (z1 * (op (s))) K ro r n g rfl ha1 (fun j j1 => by rfl) (fun j _ => rfl) hn hro hC hO (by omega) rfl
end
