def posF (n : Nat) : Int := ([0, 6, 12, 17, 22, 27, 32, 39, 45, 51, 58, 65, 72] : List Int).getD n 0
def endF (n : Nat) : Int := ([5, 11, 16, 21, 26, 31, 38, 44, 50, 57, 64, 71, 77] : List Int).getD n 0
theorem knP0 : ∀ i : Fin 13, 0 ≤ posF i.val ∧ posF i.val ≤ endF i.val ∧ endF i.val ≤ 77 ∧ endF i.val ≤ posF i.val + 6 ∧ (i.val < 12 → posF (i.val + 1) = endF i.val + 1) := by decide +kernel
theorem knP {i : Nat} (h : i < 13) : 0 ≤ posF i ∧ posF i ≤ endF i ∧ endF i ≤ 77 ∧ endF i ≤ posF i + 6 := by
  have h0 := knP0 ⟨i, h⟩
  exact ⟨h0.1, h0.2.1, h0.2.2.1, h0.2.2.2.1⟩
theorem knN {i : Nat} (h : i < 12) : posF (i + 1) = endF i + 1 := (knP0 ⟨i, by omega⟩).2.2.2.2 h
theorem knQ0 : ∀ (i : Fin 13) (j : Fin 78), posF i.val ≤ (j.val : Int) → (j.val : Int) ≤ endF i.val → ((sq0.2.2.2.getD j.val 0 = 32) ↔ (j.val : Int) = endF i.val) := by decide +kernel
theorem knQ {i : Nat} {a y : Int} (hi : i < 13) (h1 : posF i ≤ a ∧ a ≤ endF i) (e : sq0.2.2.2.getD a.toNat 0 = zI y) (hy : -2147483648 ≤ y ∧ y ≤ 2147483647) : (y = 32 ∧ a = endF i) ∨ (y ≠ 32 ∧ a < endF i) := by
  have hp := knP hi
  have h := knQ0 ⟨i, hi⟩ ⟨a.toNat, by omega⟩ (by show posF i ≤ ((a.toNat : Nat) : Int); omega) (by show ((a.toNat : Nat) : Int) ≤ endF i; omega)
  have ha : ((a.toNat : Nat) : Int) = a := by omega
  rw [ha] at h
  by_cases e9 : y = 32
  · subst e9
    exact Or.inl ⟨rfl, h.mp e⟩
  · refine Or.inr ⟨e9, ?_⟩
    by_cases e8 : a = endF i
    · have e7 : zI y = zI 32 := e.symm.trans (h.mpr e8)
      exact absurd ((zI_eq hy (by omega)).mp e7) e9
    · omega

set_option maxRecDepth 100000 in
set_option maxHeartbeats 4000000 in
theorem c_X10_saysKind (l : Launch) (D : va_G) (A : Nat → Prop) (cs : Nat → ClassId) (tt : Nat) (N : Nat) (ad : Nat → Nat) (g : Nat → va_E) (i : Nat) (hN : i + 30 ≤ N) (F : Nat → Int) (hg : g i = mC ad i F) (li : Nat → Int) (ha24 : g (i + 24) = iA cs 64 li) (h51 : 0 ≤ F 51 ∧ F 51 + 6 ≤ 64) (z : Int) (hz : 0 ≤ z ∧ z ≤ 4) : zM l yX10_saysKind cX10_saysKind 5 none ({ frames := 2, cells := 0, slots := 0, locals := 120 } : Room) D A cs tt N ad g [.ref (ad i), .int (zI (z))] (rV0 N ad fun g' => (∃ F' : Nat → Int, g' i = mC ad i F' ∧ (F 51 ≤ F' 51 ∧ F' 51 ≤ F 51 + 6) ∧ (∀ f, f ≠ 51 → F' f = F f)) ∧ (∃ t' : Nat → Int, g' (i + 24) = iA cs 64 t') ∧ ∀ j, j ≠ i → j ≠ i + 24 → g' j = g j) := by
  have hay1 : zAt ad (i) (ad i) := rfl
  have hay2 : zAt ad (i + 24) (ad (i + 24)) := rfl
  refine z_of (by decide) (Nat.le_of_ble_eq_true rfl) ?_
  intro pZ eZ sZ mZ below meth cZ C hr hlk hnm
  refine z_lv (lv' := [(0, .ref (ad i)), (1, .int (zI (z)))]) [0, 1] rfl ?_
  have lpL : ∀ (n9 : Nat) (at9 : Int) (ww : Int) (nw : Nat) (nl : Int) (F9 : Nat → Int) (t9 : Nat → Int) (g1 : Nat → va_E), (78 - at9).toNat = n9 → (g1 i = mC ad i F9) → (g1 (i + 24) = iA cs 64 t9) → (∀ j, j ≠ i → j ≠ i + 24 → g1 j = g j) → (F9 51 = nl) → (∀ f, f ≠ 51 → F9 f = F f) → (nw < 13 ∧ ww = (nw : Int)) → (posF nw ≤ at9 ∧ at9 ≤ endF nw ∧ nl = F 51 + at9 - posF nw) → zV pZ l eZ ({ frames := 2, cells := 0, slots := 0, locals := 120 } : Room) sZ mZ ([.ref (ad i), .int (zI (z))] : List Value).toArray below meth cZ (MQ below (zPost D A (rV0 N ad fun g' => (∃ F' : Nat → Int, g' i = mC ad i F' ∧ (F 51 ≤ F' 51 ∧ F' 51 ≤ F 51 + 6) ∧ (∀ f, f ≠ 51 → F' f = F f)) ∧ (∃ t' : Nat → Int, g' (i + 24) = iA cs 64 t') ∧ ∀ j, j ≠ i → j ≠ i + 24 → g' j = g j)) ([.ref (ad i), .int (zI (z))] : List Value).toArray sZ ({ frames := 2, cells := 0, slots := 0, locals := 120 } : Room).cells ({ frames := 2, cells := 0, slots := 0, locals := 120 } : Room).slots A) D A 5 (N) ad g1 (0) (0) 50 [(0, .ref (ad i)), (3, .int (zI (at9))), (2, .int (zI (ww)))] [] := by
    intro n9
    induction n9 using Nat.strongRecOn with
    | ind n9 ih_lpL =>
      intro at9 ww nw nl F9 t9 g1 hm9 f2 f2t f3 fx0 f4 hnw hv
      have hay3 : zAt ad (i) (ad i) := rfl
      have hay4 : zAt ad (i + 24) (ad (i + 24)) := rfl
      have hkp := knP (i := nw) (by omega)
      refine z_getSt C stm0 q_1667 dX10_saysKind_50 ?_
      refine z_iload_n C 1 dX10_saysKind_53 rfl ?_
      obtain ⟨yy5, eyy5, hyy5⟩ := zI_of (sq0.2.2.2.getD ((at9).toNat) 0)
      have hkyy5 := knQ (i := nw) (by omega) (a := at9) (by omega) eyy5 hyy5
      refine z_stbald (y := yy5) C stm0 ((at9).toNat) (by omega) (by rw [stl0]; omega) (by rw [stl0]; decide) eyy5 dX10_saysKind_54 ?_
      refine z_bipush (z := 32) C dX10_saysKind_55 (by decide) ?_
      refine z_icmp_eq (tgt := 75) C dX10_saysKind_57 (by decide) (by omega) (by omega) (fun hby6 => ?_) (fun hby6 => ?_)
      · have hFy7 : ∀ f, f ≠ 51 → F9 f = F f := fun f n51 => (f4 f n51)
        have hey8 : F9 51 = nl := fx0
        exact z_vret C hr hlk dX10_saysKind_75 (by decide) (by decide) ⟨rfl, rfl, rfl, ⟨_, f2, by omega, hFy7⟩, ⟨_, f2t⟩, fun j j1 j2 => by exact f3 j j1 j2⟩
      · refine z_aload_n C 0 dX10_saysKind_60 rfl ?_
        refine z_getSt C stm0 q_1667 dX10_saysKind_61 ?_
        refine z_iload_n C 1 dX10_saysKind_64 rfl ?_
        obtain ⟨yy9, eyy9, hyy9⟩ := zI_of (sq0.2.2.2.getD ((at9).toNat) 0)
        have hkyy9 := knQ (i := nw) (by omega) (a := at9) (by omega) eyy9 hyy9
        refine z_stbald (y := yy9) C stm0 ((at9).toNat) (by omega) (by rw [stl0]; omega) (by rw [stl0]; decide) eyy9 dX10_saysKind_65 ?_
        have hey11 : F9 51 = nl := fx0
        refine z_cV (As := [.int (zI (yy9))]) (rest := []) (ci := 12) C (c_X10_says l D A cs tt N ad _ i hN _ f2 _ f2t (by omega) (yy9)) (by omega) hay3 f2 rfl rfl mv_yX10_says q_1850 hd_yX10_says (by decide) (Nat.le_of_ble_eq_true rfl) (by decide) dX10_saysKind_66 rfl (kV0 fun gvy10 hvy10 => ?_)
        obtain ⟨⟨Fvy10, hcvy10, hnvy10, hFvy10⟩, ⟨tvy10, htvy10⟩, hfvy10⟩ := hvy10
        have hovy10 : F9 51 = nl := fx0
        have hqvy10 : Fvy10 51 = nl + 1 := by omega
        clear hnvy10 hovy10
        refine z_iinc (z := at9 + 1) (lv' := [(3, .int (zI (at9 + 1))), (0, .ref (ad i)), (2, .int (zI (ww)))]) (j := 1) C dX10_saysKind_69 rfl rfl (by decide) rfl ?_
        refine z_goto (tgt := 50) C dX10_saysKind_72 (by decide) ?_
        have hFy12 : ∀ f, f ≠ 51 → Fvy10 f = F f := fun f n51 => ((hFvy10 f n51).trans (f4 f n51))
        have hey13 : Fvy10 51 = nl + 1 := hqvy10
        refine z_lv (lv' := [(0, .ref (ad i)), (3, .int (zI (at9 + 1))), (2, .int (zI (ww)))]) [1, 0, 2] rfl ?_
        exact ih_lpL _ (by omega) (at9 + 1) (ww) nw (nl + 1) _ _ gvy10 rfl hcvy10 htvy10 (fun j j1 j2 => by rw [hfvy10 _ (by omega) (by omega)]; exact f3 j j1 j2) hqvy10 hFy12 (by omega) (by omega)
  have lpO : ∀ (n9 : Nat) (ww : Int) (at9 : Int) (ii : Int) (ni : Nat) (nw : Nat) (g1 : Nat → va_E), (13 - ii).toNat = n9 → (g = g1) → (nw < 13 ∧ ww = (nw : Int) ∧ ii = (ni : Int) ∧ ni ≤ nw) → (at9 = posF ni) → zV pZ l eZ ({ frames := 2, cells := 0, slots := 0, locals := 120 } : Room) sZ mZ ([.ref (ad i), .int (zI (z))] : List Value).toArray below meth cZ (MQ below (zPost D A (rV0 N ad fun g' => (∃ F' : Nat → Int, g' i = mC ad i F' ∧ (F 51 ≤ F' 51 ∧ F' 51 ≤ F 51 + 6) ∧ (∀ f, f ≠ 51 → F' f = F f)) ∧ (∃ t' : Nat → Int, g' (i + 24) = iA cs 64 t') ∧ ∀ j, j ≠ i → j ≠ i + 24 → g' j = g j)) ([.ref (ad i), .int (zI (z))] : List Value).toArray sZ ({ frames := 2, cells := 0, slots := 0, locals := 120 } : Room).cells ({ frames := 2, cells := 0, slots := 0, locals := 120 } : Room).slots A) D A 5 (N) ad g1 (0) (0) 19 [(0, .ref (ad i)), (2, .int (zI (ww))), (3, .int (zI (at9))), (4, .int (zI (ii)))] [] := by
    intro n9
    induction n9 using Nat.strongRecOn with
    | ind n9 ih_lpO =>
      intro ww at9 ii ni nw g1 hm9 hg1 hw hs
      subst hg1
      have hkp := knP (i := ni) (by omega)
      refine z_iload C 3 dX10_saysKind_19 rfl ?_
      refine z_iload_n C 1 dX10_saysKind_21 rfl ?_
      refine z_icmp_ge (tgt := 50) C dX10_saysKind_22 (by decide) (by omega) (by omega) (fun hby14 => ?_) (fun hby14 => ?_)
      · obtain rfl : ni = nw := by omega
        have hFy15 : ∀ f, f ≠ 51 → F f = F f := fun f n51 => rfl
        have hey16 : F 51 = F 51 := rfl
        refine z_lv (lv' := [(0, .ref (ad i)), (3, .int (zI (at9))), (2, .int (zI (ww)))]) [0, 2, 1] rfl ?_
        exact lpL _ (at9) (ww) ni (F 51) _ _ g rfl hg ha24 (fun j j1 j2 => by rfl) rfl hFy15 (by omega) (by omega)
      · have lpI : ∀ (n9 : Nat) (at9 : Int) (g1 : Nat → va_E), (78 - at9).toNat = n9 → (g = g1) → (posF ni ≤ at9 ∧ at9 ≤ endF ni) → zV pZ l eZ ({ frames := 2, cells := 0, slots := 0, locals := 120 } : Room) sZ mZ ([.ref (ad i), .int (zI (z))] : List Value).toArray below meth cZ (MQ below (zPost D A (rV0 N ad fun g' => (∃ F' : Nat → Int, g' i = mC ad i F' ∧ (F 51 ≤ F' 51 ∧ F' 51 ≤ F 51 + 6) ∧ (∀ f, f ≠ 51 → F' f = F f)) ∧ (∃ t' : Nat → Int, g' (i + 24) = iA cs 64 t') ∧ ∀ j, j ≠ i → j ≠ i + 24 → g' j = g j)) ([.ref (ad i), .int (zI (z))] : List Value).toArray sZ ({ frames := 2, cells := 0, slots := 0, locals := 120 } : Room).cells ({ frames := 2, cells := 0, slots := 0, locals := 120 } : Room).slots A) D A 5 (N) ad g1 (0) (0) 25 [(0, .ref (ad i)), (2, .int (zI (ww))), (3, .int (zI (at9))), (4, .int (zI (ii)))] [] := by
          intro n9
          induction n9 using Nat.strongRecOn with
          | ind n9 ih_lpI =>
            intro at9 g1 hm9 hg2 hw2
            subst hg2
            refine z_getSt C stm0 q_1667 dX10_saysKind_25 ?_
            refine z_iload_n C 2 dX10_saysKind_28 rfl ?_
            obtain ⟨yy17, eyy17, hyy17⟩ := zI_of (sq0.2.2.2.getD ((at9).toNat) 0)
            have hkyy17 := knQ (i := ni) (by omega) (a := at9) (by omega) eyy17 hyy17
            refine z_stbald (y := yy17) C stm0 ((at9).toNat) (by omega) (by rw [stl0]; omega) (by rw [stl0]; decide) eyy17 dX10_saysKind_29 ?_
            refine z_bipush (z := 32) C dX10_saysKind_30 (by decide) ?_
            refine z_icmp_eq (tgt := 41) C dX10_saysKind_32 (by decide) (by omega) (by omega) (fun hby18 => ?_) (fun hby18 => ?_)
            · refine z_iinc (z := at9 + 1) (lv' := [(3, .int (zI (at9 + 1))), (0, .ref (ad i)), (2, .int (zI (ww))), (4, .int (zI (ii)))]) (j := 2) C dX10_saysKind_41 rfl rfl (by decide) rfl ?_
              refine z_iinc (z := ii + 1) (lv' := [(4, .int (zI (ii + 1))), (3, .int (zI (at9 + 1))), (0, .ref (ad i)), (2, .int (zI (ww)))]) (j := 3) C dX10_saysKind_44 rfl rfl (by decide) rfl ?_
              refine z_goto (tgt := 19) C dX10_saysKind_47 (by decide) ?_
              have hkn := knN (i := ni) (by omega)
              refine z_lv (lv' := [(0, .ref (ad i)), (2, .int (zI (ww))), (3, .int (zI (at9 + 1))), (4, .int (zI (ii + 1)))]) [2, 3, 1, 0] rfl ?_
              exact ih_lpO _ (by omega) (ww) (at9 + 1) (ii + 1) (ni + 1) nw _ rfl rfl (by omega) (by omega)
            · refine z_iinc (z := at9 + 1) (lv' := [(3, .int (zI (at9 + 1))), (0, .ref (ad i)), (2, .int (zI (ww))), (4, .int (zI (ii)))]) (j := 2) C dX10_saysKind_35 rfl rfl (by decide) rfl ?_
              refine z_goto (tgt := 25) C dX10_saysKind_38 (by decide) ?_
              refine z_lv (lv' := [(0, .ref (ad i)), (2, .int (zI (ww))), (3, .int (zI (at9 + 1))), (4, .int (zI (ii)))]) [1, 2, 0, 3] rfl ?_
              exact ih_lpI _ (by omega) (at9 + 1) _ rfl rfl (by omega)
        refine z_lv (lv' := [(0, .ref (ad i)), (2, .int (zI (ww))), (3, .int (zI (at9))), (4, .int (zI (ii)))]) [0, 1, 2, 3] rfl ?_
        exact lpI _ (at9) _ rfl rfl (by omega)
  refine z_iload_n C 1 dX10_saysKind_0 rfl ?_
  refine z_iconst (z := 4) C dX10_saysKind_1 rfl ?_
  refine z_icmp_ne (tgt := 9) C dX10_saysKind_2 (by decide) (by omega) (by omega) (fun hby19 => ?_) (fun hby19 => ?_)
  · refine z_bipush (z := 9) C dX10_saysKind_9 (by decide) ?_
    refine z_iload_n C 1 dX10_saysKind_11 rfl ?_
    refine z_iadd C dX10_saysKind_12 ?_
    refine z_istore_n (lv' := [(2, .int (zI (9 + z))), (0, .ref (ad i)), (1, .int (zI (z)))]) C dX10_saysKind_13 rfl (by decide) rfl ?_
    refine z_iconst (z := 0) C dX10_saysKind_14 rfl ?_
    refine z_istore_n (lv' := [(3, .int (zI (0))), (2, .int (zI (9 + z))), (0, .ref (ad i)), (1, .int (zI (z)))]) C dX10_saysKind_15 rfl (by decide) rfl ?_
    refine z_iconst (z := 0) C dX10_saysKind_16 rfl ?_
    refine z_istore (lv' := [(4, .int (zI (0))), (3, .int (zI (0))), (2, .int (zI (9 + z))), (0, .ref (ad i)), (1, .int (zI (z)))]) C dX10_saysKind_17 (by decide) rfl ?_
    have hp00 : posF 0 = 0 := rfl
    obtain ⟨nw, hnw⟩ : ∃ n9 : Nat, 9 + z = (n9 : Int) := ⟨(9 + z : Int).toNat, by omega⟩
    refine z_lv (lv' := [(0, .ref (ad i)), (2, .int (zI (9 + z))), (3, .int (zI (0))), (4, .int (zI (0)))]) [3, 2, 1, 0] rfl ?_
    exact lpO _ (9 + z) (0) (0) 0 nw _ rfl rfl (by omega) (by omega)
  · refine z_iconst (z := 5) C dX10_saysKind_5 rfl ?_
    refine z_goto (tgt := 13) C dX10_saysKind_6 (by decide) ?_
    refine z_istore_n (lv' := [(2, .int (zI (5))), (0, .ref (ad i)), (1, .int (zI (z)))]) C dX10_saysKind_13 rfl (by decide) rfl ?_
    refine z_iconst (z := 0) C dX10_saysKind_14 rfl ?_
    refine z_istore_n (lv' := [(3, .int (zI (0))), (2, .int (zI (5))), (0, .ref (ad i)), (1, .int (zI (z)))]) C dX10_saysKind_15 rfl (by decide) rfl ?_
    refine z_iconst (z := 0) C dX10_saysKind_16 rfl ?_
    refine z_istore (lv' := [(4, .int (zI (0))), (3, .int (zI (0))), (2, .int (zI (5))), (0, .ref (ad i)), (1, .int (zI (z)))]) C dX10_saysKind_17 (by decide) rfl ?_
    have hp00 : posF 0 = 0 := rfl
    obtain ⟨nw, hnw⟩ : ∃ n9 : Nat, 5 = (n9 : Int) := ⟨(5 : Int).toNat, by omega⟩
    refine z_lv (lv' := [(0, .ref (ad i)), (2, .int (zI (5))), (3, .int (zI (0))), (4, .int (zI (0)))]) [3, 2, 1, 0] rfl ?_
    exact lpO _ (5) (0) (0) 0 nw _ rfl rfl (by omega) (by omega)

set_option maxRecDepth 100000 in
set_option maxHeartbeats 4000000 in
theorem c_X10_told_a (l : Launch) (D : va_G) (A : Nat → Prop) (cs : Nat → ClassId) (tt : Nat) (N : Nat) (ad : Nat → Nat) (g : Nat → va_E) (i : Nat) (hN : i + 30 ≤ N) (x : Int) (hx : 0 ≤ x ∧ x ≤ 512) (F r : Nat → Int) (hM : okMr cs ad g i x F r) (n : Nat) (hn4 : n < 4) (z1 : Int) (hz1 : -2147483648 ≤ z1 ∧ z1 ≤ 2147483647) (z2 : Int) (hz2 : -2147483648 ≤ z2 ∧ z2 ≤ 2147483647) : zM l yX10_told cX10_told 4 (some .int) ({ frames := 4, cells := 0, slots := 0, locals := 240 } : Room) D A cs tt N ad g [.ref (ad i), .int (zI ((n : Int))), .int (zI (z1)), .int (zI (z2))] (rI0 N ad fun q g' => (-2147483648 ≤ q ∧ q ≤ 2147483647) ∧ (∃ F' r' : Nat → Int, okMr cs ad g' i (x + 1) F' r' ∧ F' 23 = F 23) ∧ ∀ j, j < i ∨ i + 30 ≤ j → g' j = g j) := by
  obtain ⟨hg, ⟨⟨e13, e14, e25, e27, e29⟩, k15, k16, k17, k18, k19, k20, k23⟩, hRD, hTx, hA, st, op, ai, fa, mu, tb, ns, nh, nd, rf, pi, tp, te, ki, li, ok1, ok2, fo, dd, dps, ⟨ha1, ha2, ha3, ha4, ha5, ha6, ha7, ha8, ha9, ha10, ha11, ha12, ha13, ha14, ha15, ha24, ha25, ha26, ha27, ha28, ha29⟩, hEv, hPt, hns, htp⟩ := id hM
  obtain ⟨-, hop, hai, hfa, hT, hT1⟩ := id hEv
  have hay1 : zAt ad (i) (ad i) := rfl
  have hay2 : zAt ad (i + 1) (ad (i + 1)) := rfl
  have hay3 : zAt ad (i + 2) (ad (i + 2)) := rfl
  have hay4 : zAt ad (i + 3) (ad (i + 3)) := rfl
  have hay5 : zAt ad (i + 4) (ad (i + 4)) := rfl
  have hay6 : zAt ad (i + 5) (ad (i + 5)) := rfl
  have hay7 : zAt ad (i + 6) (ad (i + 6)) := rfl
  have hay8 : zAt ad (i + 7) (ad (i + 7)) := rfl
  have hay9 : zAt ad (i + 8) (ad (i + 8)) := rfl
  have hay10 : zAt ad (i + 9) (ad (i + 9)) := rfl
  have hay11 : zAt ad (i + 10) (ad (i + 10)) := rfl
  have hay12 : zAt ad (i + 11) (ad (i + 11)) := rfl
  have hay13 : zAt ad (i + 12) (ad (i + 12)) := rfl
  have hay14 : zAt ad (i + 13) (ad (i + 13)) := rfl
  have hay15 : zAt ad (i + 14) (ad (i + 14)) := rfl
  have hay16 : zAt ad (i + 15) (ad (i + 15)) := rfl
  have hay17 : zAt ad (i + 24) (ad (i + 24)) := rfl
  have hay18 : zAt ad (i + 25) (ad (i + 25)) := rfl
  have hay19 : zAt ad (i + 26) (ad (i + 26)) := rfl
  have hay20 : zAt ad (i + 27) (ad (i + 27)) := rfl
  have hay21 : zAt ad (i + 28) (ad (i + 28)) := rfl
  have hay22 : zAt ad (i + 29) (ad (i + 29)) := rfl
  obtain ⟨⟨hsyy23, htyy23, hnyy23, hpyy23⟩, hlyy23⟩ := okA.at0 hA
  simp only [Nat.zero_add] at hsyy23 hnyy23 hpyy23
  have hmn : ∀ s, s < 4 → 0 ≤ r (6 + 86 * s) ∧ r (6 + 86 * s) ≤ 12 := fun s hs => (hsyy23 s hs).1
  have h5 : 0 ≤ r 5 ∧ r 5 ≤ 6 := hpyy23
  refine z_of (by decide) (Nat.le_of_ble_eq_true rfl) ?_
  intro pZ eZ sZ mZ below meth cZ C hr hlk hnm
  refine z_lv (lv' := [(0, .ref (ad i)), (1, .int (zI ((n : Int)))), (2, .int (zI (z1))), (3, .int (zI (z2)))]) [0, 1, 2, 3] rfl ?_
  refine z_aload_n C 0 dX10_told_0 rfl ?_
  refine z_iconst (z := 0) C dX10_told_1 rfl ?_
  refine z_put (fs' := mF ad (i) (uZ F 12 (0))) C (by omega) hay1 hg tyX10 tyX10_ok nmX10 rfl inA_X10 12 (by decide) q_1471 rfl rfl rfl rfl (Nat.le_of_ble_eq_true rfl) rfl dX10_told_2 (fun gy24 egy25 => ?_)
  have hgy26 := up_s egy25
  refine z_aload_n C 0 dX10_told_5 rfl ?_
  refine z_iload_n C 1 dX10_told_6 rfl ?_
  refine z_iload_n C 2 dX10_told_7 rfl ?_
  have hgy27 := up_n egy25 ha1 (ne_o (i := i) (c := 1) (d := 0) rfl)
  have h13vy28 : (uZ F 12 (0)) 13 = F 13 := (fn rfl (by decide))
  have hey29 : (uZ F 12 (0)) 12 = 0 := (uZ_s _ _ _)
  obtain ⟨py30, hpy30⟩ : ∃ p9 : Nat, 0 + 6 + 86 * n = p9 := ⟨_, rfl⟩
  refine z_cV (As := [.int (zI ((n : Int))), .int (zI (z1))]) (rest := []) (ci := 12) C (c_X10_isLayer_a l D A cs tt N ad _ i hN _ hgy26 _ hgy27 hmn (by omega) (by omega) n py30 (by omega) (by omega) (z1) (by omega)) (by omega) hay1 hgy26 rfl rfl mv_yX10_isLayer q_1819 hd_yX10_isLayer (by decide) (Nat.le_of_ble_eq_true rfl) (by decide) dX10_told_8 rfl (kI0 fun vy28 gvy28 hvy28 => ?_)
  rw [h13vy28] at hvy28
  obtain ⟨hrvy28, ⟨Fvy28, hcvy28, htvy28, hFvy28⟩, hfvy28⟩ := hvy28
  rcases (show vy28 = 1 ∨ vy28 = 0 by omega) with rfl | rfl
  · have hxvy28 := hrvy28.2 rfl
    have hmpy30 := hmn n (by omega)
    rw [show 6 + 86 * n = py30 by omega] at hmpy30
    refine z_if_ne (tgt := 16) C dX10_told_11 (by decide) (by omega) (fun _ => ?_) (fun h => absurd h (by omega))
    refine z_aload_n C 0 dX10_told_16 rfl ?_
    refine z_iconst (z := 0) C dX10_told_17 rfl ?_
    refine z_put (fs' := mF ad (i) (uZ Fvy28 51 (0))) C (by omega) hay1 hcvy28 tyX10 tyX10_ok nmX10 rfl inA_X10 51 (by decide) q_1510 rfl rfl rfl rfl (Nat.le_of_ble_eq_true rfl) rfl dX10_told_18 (fun gy31 egy32 => ?_)
    have hgy33 := up_s egy32
    refine z_aload_n C 0 dX10_told_21 rfl ?_
    refine z_aload_n C 0 dX10_told_22 rfl ?_
    refine z_iconst (z := 0) C dX10_told_23 rfl ?_
    refine z_iload_n C 1 dX10_told_24 rfl ?_
    refine z_iload_n C 2 dX10_told_25 rfl ?_
    refine z_bipush (z := 6) C dX10_told_26 (by decide) ?_
    have hSy34 := ((okA.at0 hA).1.1 n (by omega)).of (p2 := py30) (by omega)
    obtain ⟨b1hSy34, b2hSy34, b3hSy34, b4hSy34⟩ := mBb (t := r 0 + x) (by omega)
    have hmky35 := hSy34.1
    obtain ⟨ky36, hky36⟩ : ∃ k9 : Nat, (z1) = (k9 : Int) := ⟨((z1) : Int).toNat, by omega⟩
    obtain ⟨qy37, hqy37⟩ : ∃ q9 : Nat, py30 + 2 + 7 * ky36 = q9 := ⟨_, rfl⟩
    obtain ⟨⟨hKzy38, hIzy38, hWzy38, hDzy38, hTzy38, hnzy38⟩, hmzy38, hdzy38⟩ := okS.layer hSy34 (k := ky36) (by omega) hqy37
    have hgy39 := (hfvy28 (i + 1) (ne_o (i := i) (c := 1) (d := 0) rfl)).trans hgy27
    have hgy40 := up_n egy32 hgy39 (ne_o (i := i) (c := 1) (d := 0) rfl)
    refine z_cV (As := [.int (zI (0)), .int (zI ((n : Int))), .int (zI (z1)), .int (zI (6))]) (rest := [.ref (ad i)]) (ci := 12) C (c_X10_of l D A cs tt N ad _ i hN _ hgy33 _ hgy40 0 n py30 hpy30 (by omega) (by omega) (z1) (6) (qy37 + 6) (by omega) (by omega) (by omega)) (by omega) hay1 hgy33 rfl rfl mv_yX10_of q_1749 hd_yX10_of (by decide) (Nat.le_of_ble_eq_true rfl) (by decide) dX10_told_28 rfl (kI0 fun vy41 gvy41 hvy41 => ?_)
    obtain ⟨rfl, rfl⟩ := hvy41
    have hgy42 := up_n egy25 ha24 (ne_o (i := i) (c := 24) (d := 0) rfl)
    have hgy43 := (hfvy28 (i + 24) (ne_o (i := i) (c := 24) (d := 0) rfl)).trans hgy42
    have hgy44 := up_n egy32 hgy43 (ne_o (i := i) (c := 24) (d := 0) rfl)
    have hey46 : (uZ Fvy28 51 (0)) 51 = 0 := (uZ_s _ _ _)
    refine z_cV (As := [.int (zI (r (qy37 + 6)))]) (rest := []) (ci := 12) C (c_X10_saysNumber5 l D A cs tt N ad _ i hN _ hgy33 _ hgy44 (by omega) (r (qy37 + 6)) (by omega)) (by omega) hay1 hgy33 rfl rfl mv_yX10_saysNumber q_1846 hd_yX10_saysNumber (by decide) (Nat.le_of_ble_eq_true rfl) (by decide) dX10_told_31 rfl (kV0 fun gvy45 hvy45 => ?_)
    obtain ⟨⟨Fvy45, hcvy45, hnvy45, hFvy45⟩, ⟨tvy45, htvy45⟩, hfvy45⟩ := hvy45
    have hovy45 : (uZ Fvy28 51 (0)) 51 = 0 := (uZ_s _ _ _)
    refine z_aload_n C 0 dX10_told_34 rfl ?_
    refine z_bipush (z := 32) C dX10_told_35 (by decide) ?_
    have hey48 : Fvy45 51 = Fvy45 51 := rfl
    refine z_cV (As := [.int (zI (32))]) (rest := []) (ci := 12) C (c_X10_says l D A cs tt N ad _ i hN _ hcvy45 _ htvy45 (by omega) (32)) (by omega) hay1 hcvy45 rfl rfl mv_yX10_says q_1850 hd_yX10_says (by decide) (Nat.le_of_ble_eq_true rfl) (by decide) dX10_told_37 rfl (kV0 fun gvy47 hvy47 => ?_)
    obtain ⟨⟨Fvy47, hcvy47, hnvy47, hFvy47⟩, ⟨tvy47, htvy47⟩, hfvy47⟩ := hvy47
    have hovy47 : Fvy45 51 = Fvy45 51 := rfl
    have hqvy47 : Fvy47 51 = Fvy45 51 + 1 := by omega
    clear hnvy47 hovy47
    refine z_aload_n C 0 dX10_told_40 rfl ?_
    refine z_aload_n C 0 dX10_told_41 rfl ?_
    refine z_iconst (z := 0) C dX10_told_42 rfl ?_
    refine z_iload_n C 1 dX10_told_43 rfl ?_
    refine z_iload_n C 2 dX10_told_44 rfl ?_
    refine z_iconst (z := 0) C dX10_told_45 rfl ?_
    have hgy49 := (hfvy45 (i + 1) (ne_o (i := i) (c := 1) (d := 0) rfl) (ne_o (i := i) (c := 1) (d := 24) rfl)).trans hgy40
    have hgy50 := (hfvy47 (i + 1) (ne_o (i := i) (c := 1) (d := 0) rfl) (ne_o (i := i) (c := 1) (d := 24) rfl)).trans hgy49
    refine z_cV (As := [.int (zI (0)), .int (zI ((n : Int))), .int (zI (z1)), .int (zI (0))]) (rest := [.ref (ad i)]) (ci := 12) C (c_X10_of l D A cs tt N ad _ i hN _ hcvy47 _ hgy50 0 n py30 hpy30 (by omega) (by omega) (z1) (0) (qy37) (by omega) (by omega) (by omega)) (by omega) hay1 hcvy47 rfl rfl mv_yX10_of q_1749 hd_yX10_of (by decide) (Nat.le_of_ble_eq_true rfl) (by decide) dX10_told_46 rfl (kI0 fun vy51 gvy51 hvy51 => ?_)
    obtain ⟨rfl, rfl⟩ := hvy51
    have hey53 : Fvy47 51 = Fvy45 51 + 1 := hqvy47
    refine z_cV (As := [.int (zI (r (qy37)))]) (rest := []) (ci := 12) C (c_X10_saysKind l D A cs tt N ad _ i hN _ hcvy47 _ htvy47 (by omega) (r (qy37)) (by omega)) (by omega) hay1 hcvy47 rfl rfl mv_yX10_saysKind q_1854 hd_yX10_saysKind (by decide) (Nat.le_of_ble_eq_true rfl) (by decide) dX10_told_49 rfl (kV0 fun gvy52 hvy52 => ?_)
    obtain ⟨⟨Fvy52, hcvy52, hnvy52, hFvy52⟩, ⟨tvy52, htvy52⟩, hfvy52⟩ := hvy52
    have hovy52 : Fvy47 51 = Fvy45 51 + 1 := hqvy47
    refine z_aload_n C 0 dX10_told_52 rfl ?_
    refine z_bipush (z := 111) C dX10_told_53 (by decide) ?_
    refine z_bipush (z := 102) C dX10_told_55 (by decide) ?_
    have hey55 : Fvy52 51 = Fvy52 51 := rfl
    refine z_cV (As := [.int (zI (111)), .int (zI (102))]) (rest := []) (ci := 12) C (c_X10_saysWord l D A cs tt N ad _ i hN _ hcvy52 _ htvy52 (by omega) (111) (102)) (by omega) hay1 hcvy52 rfl rfl mv_yX10_saysWord q_1858 hd_yX10_saysWord (by decide) (Nat.le_of_ble_eq_true rfl) (by decide) dX10_told_57 rfl (kV0 fun gvy54 hvy54 => ?_)
    obtain ⟨⟨Fvy54, hcvy54, hnvy54, hFvy54⟩, ⟨tvy54, htvy54⟩, hfvy54⟩ := hvy54
    have hovy54 : Fvy52 51 = Fvy52 51 := rfl
    have hqvy54 : Fvy54 51 = Fvy52 51 + 4 := by omega
    clear hnvy54 hovy54
    refine z_aload_n C 0 dX10_told_60 rfl ?_
    refine z_aload_n C 0 dX10_told_61 rfl ?_
    refine z_iconst (z := 0) C dX10_told_62 rfl ?_
    refine z_iload_n C 1 dX10_told_63 rfl ?_
    refine z_iload_n C 2 dX10_told_64 rfl ?_
    refine z_iconst (z := 1) C dX10_told_65 rfl ?_
    have hgy56 := (hfvy52 (i + 1) (ne_o (i := i) (c := 1) (d := 0) rfl) (ne_o (i := i) (c := 1) (d := 24) rfl)).trans hgy50
    have hgy57 := (hfvy54 (i + 1) (ne_o (i := i) (c := 1) (d := 0) rfl) (ne_o (i := i) (c := 1) (d := 24) rfl)).trans hgy56
    refine z_cV (As := [.int (zI (0)), .int (zI ((n : Int))), .int (zI (z1)), .int (zI (1))]) (rest := [.ref (ad i)]) (ci := 12) C (c_X10_of l D A cs tt N ad _ i hN _ hcvy54 _ hgy57 0 n py30 hpy30 (by omega) (by omega) (z1) (1) (qy37 + 1) (by omega) (by omega) (by omega)) (by omega) hay1 hcvy54 rfl rfl mv_yX10_of q_1749 hd_yX10_of (by decide) (Nat.le_of_ble_eq_true rfl) (by decide) dX10_told_66 rfl (kI0 fun vy58 gvy58 hvy58 => ?_)
    obtain ⟨rfl, rfl⟩ := hvy58
    have hey60 : Fvy54 51 = Fvy52 51 + 4 := hqvy54
    refine z_cV (As := [.int (zI (r (qy37 + 1)))]) (rest := []) (ci := 12) C (c_X10_saysNumber9 l D A cs tt N ad _ i hN _ hcvy54 _ htvy54 (by omega) (r (qy37 + 1)) (by omega)) (by omega) hay1 hcvy54 rfl rfl mv_yX10_saysNumber q_1846 hd_yX10_saysNumber (by decide) (Nat.le_of_ble_eq_true rfl) (by decide) dX10_told_69 rfl (kV0 fun gvy59 hvy59 => ?_)
    obtain ⟨⟨Fvy59, hcvy59, hnvy59, hFvy59⟩, ⟨tvy59, htvy59⟩, hfvy59⟩ := hvy59
    have hovy59 : Fvy54 51 = Fvy52 51 + 4 := hqvy54
    refine z_aload_n C 0 dX10_told_72 rfl ?_
    refine z_iconst (z := 0) C dX10_told_73 rfl ?_
    refine z_iload_n C 1 dX10_told_74 rfl ?_
    refine z_iload_n C 2 dX10_told_75 rfl ?_
    refine z_iconst (z := 2) C dX10_told_76 rfl ?_
    have hgy61 := (hfvy59 (i + 1) (ne_o (i := i) (c := 1) (d := 0) rfl) (ne_o (i := i) (c := 1) (d := 24) rfl)).trans hgy57
    refine z_cV (As := [.int (zI (0)), .int (zI ((n : Int))), .int (zI (z1)), .int (zI (2))]) (rest := []) (ci := 12) C (c_X10_of l D A cs tt N ad _ i hN _ hcvy59 _ hgy61 0 n py30 hpy30 (by omega) (by omega) (z1) (2) (qy37 + 2) (by omega) (by omega) (by omega)) (by omega) hay1 hcvy59 rfl rfl mv_yX10_of q_1749 hd_yX10_of (by decide) (Nat.le_of_ble_eq_true rfl) (by decide) dX10_told_77 rfl (kI0 fun vy62 gvy62 hvy62 => ?_)
    obtain ⟨rfl, rfl⟩ := hvy62
    refine z_if_le (tgt := 125) C dX10_told_80 (by decide) (by omega) (fun hby63 => ?_) (fun hby63 => ?_)
    · refine z_aload_n C 0 dX10_told_125 rfl ?_
      refine z_bipush (z := 105) C dX10_told_126 (by decide) ?_
      refine z_bipush (z := 110) C dX10_told_128 (by decide) ?_
      have hey65 : Fvy59 51 = Fvy59 51 := rfl
      refine z_cV (As := [.int (zI (105)), .int (zI (110))]) (rest := []) (ci := 12) C (c_X10_saysWord l D A cs tt N ad _ i hN _ hcvy59 _ htvy59 (by omega) (105) (110)) (by omega) hay1 hcvy59 rfl rfl mv_yX10_saysWord q_1858 hd_yX10_saysWord (by decide) (Nat.le_of_ble_eq_true rfl) (by decide) dX10_told_130 rfl (kV0 fun gvy64 hvy64 => ?_)
      obtain ⟨⟨Fvy64, hcvy64, hnvy64, hFvy64⟩, ⟨tvy64, htvy64⟩, hfvy64⟩ := hvy64
      have hovy64 : Fvy59 51 = Fvy59 51 := rfl
      have hqvy64 : Fvy64 51 = Fvy59 51 + 4 := by omega
      clear hnvy64 hovy64
      refine z_aload_n C 0 dX10_told_133 rfl ?_
      refine z_aload_n C 0 dX10_told_134 rfl ?_
      refine z_iconst (z := 0) C dX10_told_135 rfl ?_
      refine z_iload_n C 1 dX10_told_136 rfl ?_
      refine z_iload_n C 2 dX10_told_137 rfl ?_
      refine z_iconst (z := 3) C dX10_told_138 rfl ?_
      have hgy66 := (hfvy64 (i + 1) (ne_o (i := i) (c := 1) (d := 0) rfl) (ne_o (i := i) (c := 1) (d := 24) rfl)).trans hgy61
      refine z_cV (As := [.int (zI (0)), .int (zI ((n : Int))), .int (zI (z1)), .int (zI (3))]) (rest := [.ref (ad i)]) (ci := 12) C (c_X10_of l D A cs tt N ad _ i hN _ hcvy64 _ hgy66 0 n py30 hpy30 (by omega) (by omega) (z1) (3) (qy37 + 3) (by omega) (by omega) (by omega)) (by omega) hay1 hcvy64 rfl rfl mv_yX10_of q_1749 hd_yX10_of (by decide) (Nat.le_of_ble_eq_true rfl) (by decide) dX10_told_139 rfl (kI0 fun vy67 gvy67 hvy67 => ?_)
      obtain ⟨rfl, rfl⟩ := hvy67
      have hey69 : Fvy64 51 = Fvy59 51 + 4 := hqvy64
      refine z_cV (As := [.int (zI (r (qy37 + 3)))]) (rest := []) (ci := 12) C (c_X10_saysNumber9 l D A cs tt N ad _ i hN _ hcvy64 _ htvy64 (by omega) (r (qy37 + 3)) (by omega)) (by omega) hay1 hcvy64 rfl rfl mv_yX10_saysNumber q_1846 hd_yX10_saysNumber (by decide) (Nat.le_of_ble_eq_true rfl) (by decide) dX10_told_142 rfl (kV0 fun gvy68 hvy68 => ?_)
      obtain ⟨⟨Fvy68, hcvy68, hnvy68, hFvy68⟩, ⟨tvy68, htvy68⟩, hfvy68⟩ := hvy68
      have hovy68 : Fvy64 51 = Fvy59 51 + 4 := hqvy64
      refine z_aload_n C 0 dX10_told_145 rfl ?_
      refine z_bipush (z := 97) C dX10_told_146 (by decide) ?_
      refine z_bipush (z := 116) C dX10_told_148 (by decide) ?_
      have hey71 : Fvy68 51 = Fvy68 51 := rfl
      refine z_cV (As := [.int (zI (97)), .int (zI (116))]) (rest := []) (ci := 12) C (c_X10_saysWord l D A cs tt N ad _ i hN _ hcvy68 _ htvy68 (by omega) (97) (116)) (by omega) hay1 hcvy68 rfl rfl mv_yX10_saysWord q_1858 hd_yX10_saysWord (by decide) (Nat.le_of_ble_eq_true rfl) (by decide) dX10_told_150 rfl (kV0 fun gvy70 hvy70 => ?_)
      obtain ⟨⟨Fvy70, hcvy70, hnvy70, hFvy70⟩, ⟨tvy70, htvy70⟩, hfvy70⟩ := hvy70
      have hovy70 : Fvy68 51 = Fvy68 51 := rfl
      have hqvy70 : Fvy70 51 = Fvy68 51 + 4 := by omega
      clear hnvy70 hovy70
      refine z_aload_n C 0 dX10_told_153 rfl ?_
      refine z_aload_n C 0 dX10_told_154 rfl ?_
      refine z_iconst (z := 0) C dX10_told_155 rfl ?_
      refine z_iload_n C 1 dX10_told_156 rfl ?_
      refine z_iload_n C 2 dX10_told_157 rfl ?_
      refine z_iconst (z := 4) C dX10_told_158 rfl ?_
      have hgy72 := (hfvy68 (i + 1) (ne_o (i := i) (c := 1) (d := 0) rfl) (ne_o (i := i) (c := 1) (d := 24) rfl)).trans hgy66
      have hgy73 := (hfvy70 (i + 1) (ne_o (i := i) (c := 1) (d := 0) rfl) (ne_o (i := i) (c := 1) (d := 24) rfl)).trans hgy72
      refine z_cV (As := [.int (zI (0)), .int (zI ((n : Int))), .int (zI (z1)), .int (zI (4))]) (rest := [.ref (ad i)]) (ci := 12) C (c_X10_of l D A cs tt N ad _ i hN _ hcvy70 _ hgy73 0 n py30 hpy30 (by omega) (by omega) (z1) (4) (qy37 + 4) (by omega) (by omega) (by omega)) (by omega) hay1 hcvy70 rfl rfl mv_yX10_of q_1749 hd_yX10_of (by decide) (Nat.le_of_ble_eq_true rfl) (by decide) dX10_told_159 rfl (kI0 fun vy74 gvy74 hvy74 => ?_)
      obtain ⟨rfl, rfl⟩ := hvy74
      have hey76 : Fvy70 51 = Fvy68 51 + 4 := hqvy70
      refine z_cV (As := [.int (zI (r (qy37 + 4)))]) (rest := []) (ci := 12) C (c_X10_saysNumber5 l D A cs tt N ad _ i hN _ hcvy70 _ htvy70 (by omega) (r (qy37 + 4)) (by omega)) (by omega) hay1 hcvy70 rfl rfl mv_yX10_saysNumber q_1846 hd_yX10_saysNumber (by decide) (Nat.le_of_ble_eq_true rfl) (by decide) dX10_told_162 rfl (kV0 fun gvy75 hvy75 => ?_)
      obtain ⟨⟨Fvy75, hcvy75, hnvy75, hFvy75⟩, ⟨tvy75, htvy75⟩, hfvy75⟩ := hvy75
      have hovy75 : Fvy70 51 = Fvy68 51 + 4 := hqvy70
      refine z_aload_n C 0 dX10_told_165 rfl ?_
      refine z_bipush (z := 59) C dX10_told_166 (by decide) ?_
      have hey78 : Fvy75 51 = Fvy75 51 := rfl
      refine z_cV (As := [.int (zI (59))]) (rest := []) (ci := 12) C (c_X10_says l D A cs tt N ad _ i hN _ hcvy75 _ htvy75 (by omega) (59)) (by omega) hay1 hcvy75 rfl rfl mv_yX10_says q_1850 hd_yX10_says (by decide) (Nat.le_of_ble_eq_true rfl) (by decide) dX10_told_168 rfl (kV0 fun gvy77 hvy77 => ?_)
      obtain ⟨⟨Fvy77, hcvy77, hnvy77, hFvy77⟩, ⟨tvy77, htvy77⟩, hfvy77⟩ := hvy77
      have hovy77 : Fvy75 51 = Fvy75 51 := rfl
      have hqvy77 : Fvy77 51 = Fvy75 51 + 1 := by omega
      clear hnvy77 hovy77
      refine z_iload_n C 3 dX10_told_171 rfl ?_
      refine z_iconst (z := -1) C dX10_told_172 rfl ?_
      refine z_icmp_ne (tgt := 181) C dX10_told_173 (by decide) (by omega) (by omega) (fun hby79 => ?_) (fun hby79 => ?_)
      · refine z_aload_n C 0 dX10_told_181 rfl ?_
        refine z_iload_n C 3 dX10_told_182 rfl ?_
        refine z_iconst (z := 0) C dX10_told_183 rfl ?_
        refine z_aload_n C 0 dX10_told_184 rfl ?_
        refine z_get (v := .int (zI (Fvy75 51 + 1))) C (by omega) hay1 hcvy77 rfl inA_X10 51 (by decide) q_1510 rfl (fv (F := Fvy77) (f := 51) hqvy77) dX10_told_185 ?_
        refine z_iconst (z := 1) C dX10_told_188 rfl ?_
        refine z_isub C dX10_told_189 ?_
        refine z_cS (As := [.int (zI (z2)), .int (zI (0)), .int (zI ((Fvy75 51 + 1) - 1))]) (rest := [.ref (ad i)]) C (c_X10_within l D A cs tt N ad _ (z2) (by omega) (0) (by omega) ((Fvy75 51 + 1) - 1) (by omega)) ms_yX10_within q_1686 hd_yX10_within (by decide) (Nat.le_of_ble_eq_true rfl) (by decide) dX10_told_190 rfl (kI0 fun vy80 gvy80 hvy80 => ?_)
        obtain ⟨hvy80, rfl⟩ := hvy80
        rcases hvy80 with ⟨rfl, hxvy80⟩ | ⟨rfl, hxvy80⟩
        · refine z_iconst (z := 1) C dX10_told_193 rfl ?_
          have hey82 : Fvy77 12 = Fvy28 12 := ((hFvy77 12 (by decide)).trans ((hFvy75 12 (by decide)).trans ((hFvy70 12 (by decide)).trans ((hFvy68 12 (by decide)).trans ((hFvy64 12 (by decide)).trans ((hFvy59 12 (by decide)).trans ((hFvy54 12 (by decide)).trans ((hFvy52 12 (by decide)).trans ((hFvy47 12 (by decide)).trans ((hFvy45 12 (by decide)).trans (fn rfl (by decide))))))))))))
          refine z_cV (As := [.int (zI (1)), .int (zI (1))]) (rest := []) (ci := 12) C (c_X10_right l D A cs tt N ad _ i hN _ hcvy77 (by omega) (1) (by omega) (1) (by omega)) (by omega) hay1 hcvy77 rfl rfl mv_yX10_right q_1648 hd_yX10_right (by decide) (Nat.le_of_ble_eq_true rfl) (by decide) dX10_told_194 rfl (kI0 fun vy81 gvy81 hvy81 => ?_)
          obtain ⟨hrvy81, ⟨Fvy81, hcvy81, htvy81, hFvy81⟩, hfvy81⟩ := hvy81
          rcases (show vy81 = 1 ∨ vy81 = 0 by omega) with rfl | rfl
          · refine z_if_eq (tgt := 209) C dX10_told_197 (by decide) (by omega) (fun h => absurd h (by omega)) (fun _ => ?_)
            refine z_aload_n C 0 dX10_told_200 rfl ?_
            refine z_get (v := .ref (ad (i + 24))) C (by omega) hay1 hcvy81 rfl inA_X10 50 (by decide) q_1509 rfl rfl dX10_told_201 ?_
            refine z_iload_n C 3 dX10_told_204 rfl ?_
            have hgy83 := (hfvy81 (i + 24) (ne_o (i := i) (c := 24) (d := 0) rfl)).trans htvy77
            refine z_iald C (by omega) hay17 hgy83 ((z2).toNat) (by omega) (by omega) (by decide) dX10_told_205 ?_
            refine z_goto (tgt := 210) C dX10_told_206 (by decide) ?_
            obtain ⟨xy84, exy85, hxy86⟩ := zI_of (zI (tvy77 ((z2).toNat)))
            rw [exy85]
            have hgy87 := (hfvy75 (i + 1) (ne_o (i := i) (c := 1) (d := 0) rfl) (ne_o (i := i) (c := 1) (d := 24) rfl)).trans hgy73
            have hgy88 := (hfvy77 (i + 1) (ne_o (i := i) (c := 1) (d := 0) rfl) (ne_o (i := i) (c := 1) (d := 24) rfl)).trans hgy87
            have hgy89 := (hfvy81 (i + 1) (ne_o (i := i) (c := 1) (d := 0) rfl)).trans hgy88
            have hFy90 : ∀ f, f ≠ 12 → f ≠ 51 → Fvy81 f = F f := fun f n12 n51 => ((hFvy81 f n12).trans ((hFvy77 f n51).trans ((hFvy75 f n51).trans ((hFvy70 f n51).trans ((hFvy68 f n51).trans ((hFvy64 f n51).trans ((hFvy59 f n51).trans ((hFvy54 f n51).trans ((hFvy52 f n51).trans ((hFvy47 f n51).trans ((hFvy45 f n51).trans ((uZ_n _ _ n51).trans ((hFvy28 f n12).trans ((uZ_n _ _ n12).trans rfl))))))))))))))
            have hey91 : Fvy81 13 = F 13 := ((hFvy81 13 (by decide)).trans ((hFvy77 13 (by decide)).trans ((hFvy75 13 (by decide)).trans ((hFvy70 13 (by decide)).trans ((hFvy68 13 (by decide)).trans ((hFvy64 13 (by decide)).trans ((hFvy59 13 (by decide)).trans ((hFvy54 13 (by decide)).trans ((hFvy52 13 (by decide)).trans ((hFvy47 13 (by decide)).trans ((hFvy45 13 (by decide)).trans (fn ((hFvy28 13 (by decide)).trans (fn rfl (by decide))) (by decide)))))))))))))
            have hey92 : Fvy81 14 = F 14 := ((hFvy81 14 (by decide)).trans ((hFvy77 14 (by decide)).trans ((hFvy75 14 (by decide)).trans ((hFvy70 14 (by decide)).trans ((hFvy68 14 (by decide)).trans ((hFvy64 14 (by decide)).trans ((hFvy59 14 (by decide)).trans ((hFvy54 14 (by decide)).trans ((hFvy52 14 (by decide)).trans ((hFvy47 14 (by decide)).trans ((hFvy45 14 (by decide)).trans (fn ((hFvy28 14 (by decide)).trans (fn rfl (by decide))) (by decide)))))))))))))
            have hey93 : Fvy81 15 = F 15 := ((hFvy81 15 (by decide)).trans ((hFvy77 15 (by decide)).trans ((hFvy75 15 (by decide)).trans ((hFvy70 15 (by decide)).trans ((hFvy68 15 (by decide)).trans ((hFvy64 15 (by decide)).trans ((hFvy59 15 (by decide)).trans ((hFvy54 15 (by decide)).trans ((hFvy52 15 (by decide)).trans ((hFvy47 15 (by decide)).trans ((hFvy45 15 (by decide)).trans (fn ((hFvy28 15 (by decide)).trans (fn rfl (by decide))) (by decide)))))))))))))
            have hey94 : Fvy81 16 = F 16 := ((hFvy81 16 (by decide)).trans ((hFvy77 16 (by decide)).trans ((hFvy75 16 (by decide)).trans ((hFvy70 16 (by decide)).trans ((hFvy68 16 (by decide)).trans ((hFvy64 16 (by decide)).trans ((hFvy59 16 (by decide)).trans ((hFvy54 16 (by decide)).trans ((hFvy52 16 (by decide)).trans ((hFvy47 16 (by decide)).trans ((hFvy45 16 (by decide)).trans (fn ((hFvy28 16 (by decide)).trans (fn rfl (by decide))) (by decide)))))))))))))
            have hey95 : Fvy81 17 = F 17 := ((hFvy81 17 (by decide)).trans ((hFvy77 17 (by decide)).trans ((hFvy75 17 (by decide)).trans ((hFvy70 17 (by decide)).trans ((hFvy68 17 (by decide)).trans ((hFvy64 17 (by decide)).trans ((hFvy59 17 (by decide)).trans ((hFvy54 17 (by decide)).trans ((hFvy52 17 (by decide)).trans ((hFvy47 17 (by decide)).trans ((hFvy45 17 (by decide)).trans (fn ((hFvy28 17 (by decide)).trans (fn rfl (by decide))) (by decide)))))))))))))
            have hey96 : Fvy81 18 = F 18 := ((hFvy81 18 (by decide)).trans ((hFvy77 18 (by decide)).trans ((hFvy75 18 (by decide)).trans ((hFvy70 18 (by decide)).trans ((hFvy68 18 (by decide)).trans ((hFvy64 18 (by decide)).trans ((hFvy59 18 (by decide)).trans ((hFvy54 18 (by decide)).trans ((hFvy52 18 (by decide)).trans ((hFvy47 18 (by decide)).trans ((hFvy45 18 (by decide)).trans (fn ((hFvy28 18 (by decide)).trans (fn rfl (by decide))) (by decide)))))))))))))
            have hey97 : Fvy81 19 = F 19 := ((hFvy81 19 (by decide)).trans ((hFvy77 19 (by decide)).trans ((hFvy75 19 (by decide)).trans ((hFvy70 19 (by decide)).trans ((hFvy68 19 (by decide)).trans ((hFvy64 19 (by decide)).trans ((hFvy59 19 (by decide)).trans ((hFvy54 19 (by decide)).trans ((hFvy52 19 (by decide)).trans ((hFvy47 19 (by decide)).trans ((hFvy45 19 (by decide)).trans (fn ((hFvy28 19 (by decide)).trans (fn rfl (by decide))) (by decide)))))))))))))
            have hey98 : Fvy81 20 = F 20 := ((hFvy81 20 (by decide)).trans ((hFvy77 20 (by decide)).trans ((hFvy75 20 (by decide)).trans ((hFvy70 20 (by decide)).trans ((hFvy68 20 (by decide)).trans ((hFvy64 20 (by decide)).trans ((hFvy59 20 (by decide)).trans ((hFvy54 20 (by decide)).trans ((hFvy52 20 (by decide)).trans ((hFvy47 20 (by decide)).trans ((hFvy45 20 (by decide)).trans (fn ((hFvy28 20 (by decide)).trans (fn rfl (by decide))) (by decide)))))))))))))
            have hey99 : Fvy81 23 = F 23 := ((hFvy81 23 (by decide)).trans ((hFvy77 23 (by decide)).trans ((hFvy75 23 (by decide)).trans ((hFvy70 23 (by decide)).trans ((hFvy68 23 (by decide)).trans ((hFvy64 23 (by decide)).trans ((hFvy59 23 (by decide)).trans ((hFvy54 23 (by decide)).trans ((hFvy52 23 (by decide)).trans ((hFvy47 23 (by decide)).trans ((hFvy45 23 (by decide)).trans (fn ((hFvy28 23 (by decide)).trans (fn rfl (by decide))) (by decide)))))))))))))
            have hey100 : Fvy81 25 = F 25 := ((hFvy81 25 (by decide)).trans ((hFvy77 25 (by decide)).trans ((hFvy75 25 (by decide)).trans ((hFvy70 25 (by decide)).trans ((hFvy68 25 (by decide)).trans ((hFvy64 25 (by decide)).trans ((hFvy59 25 (by decide)).trans ((hFvy54 25 (by decide)).trans ((hFvy52 25 (by decide)).trans ((hFvy47 25 (by decide)).trans ((hFvy45 25 (by decide)).trans (fn ((hFvy28 25 (by decide)).trans (fn rfl (by decide))) (by decide)))))))))))))
            have hey101 : Fvy81 27 = F 27 := ((hFvy81 27 (by decide)).trans ((hFvy77 27 (by decide)).trans ((hFvy75 27 (by decide)).trans ((hFvy70 27 (by decide)).trans ((hFvy68 27 (by decide)).trans ((hFvy64 27 (by decide)).trans ((hFvy59 27 (by decide)).trans ((hFvy54 27 (by decide)).trans ((hFvy52 27 (by decide)).trans ((hFvy47 27 (by decide)).trans ((hFvy45 27 (by decide)).trans (fn ((hFvy28 27 (by decide)).trans (fn rfl (by decide))) (by decide)))))))))))))
            have hey102 : Fvy81 28 = F 28 := ((hFvy81 28 (by decide)).trans ((hFvy77 28 (by decide)).trans ((hFvy75 28 (by decide)).trans ((hFvy70 28 (by decide)).trans ((hFvy68 28 (by decide)).trans ((hFvy64 28 (by decide)).trans ((hFvy59 28 (by decide)).trans ((hFvy54 28 (by decide)).trans ((hFvy52 28 (by decide)).trans ((hFvy47 28 (by decide)).trans ((hFvy45 28 (by decide)).trans (fn ((hFvy28 28 (by decide)).trans (fn rfl (by decide))) (by decide)))))))))))))
            have hey103 : Fvy81 29 = F 29 := ((hFvy81 29 (by decide)).trans ((hFvy77 29 (by decide)).trans ((hFvy75 29 (by decide)).trans ((hFvy70 29 (by decide)).trans ((hFvy68 29 (by decide)).trans ((hFvy64 29 (by decide)).trans ((hFvy59 29 (by decide)).trans ((hFvy54 29 (by decide)).trans ((hFvy52 29 (by decide)).trans ((hFvy47 29 (by decide)).trans ((hFvy45 29 (by decide)).trans (fn ((hFvy28 29 (by decide)).trans (fn rfl (by decide))) (by decide)))))))))))))
            have hKy104 : okF Fvy81 := by unfold okF; omega
            have hMy105 : okMr cs ad gvy81 i (x + 1) Fvy81 r := okMr.upd hM hcvy81 hKy104 (fun f a => hFy90 f (by omega) (by omega)) hgy89 (hA.mono (by omega)) (fun j a b => by
                by_cases e0 : j = i + 24
                · exact Or.inr ⟨24, _, e0, lsP.l (by decide), by rw [e0]; exact hgy83⟩
                exact Or.inl (by rw [hfvy81 _ (by omega)]; rw [hfvy77 _ (by omega) (by omega)]; rw [hfvy75 _ (by omega) (by omega)]; rw [hfvy70 _ (by omega) (by omega)]; rw [hfvy68 _ (by omega) (by omega)]; rw [hfvy64 _ (by omega) (by omega)]; rw [hfvy59 _ (by omega) (by omega)]; rw [hfvy54 _ (by omega) (by omega)]; rw [hfvy52 _ (by omega) (by omega)]; rw [hfvy47 _ (by omega) (by omega)]; rw [hfvy45 _ (by omega) (by omega)]; rw [egy32, va_up_ne _ _ (by omega)]; rw [hfvy28 _ (by omega)]; rw [egy25, va_up_ne _ _ (by omega)]))
            have h23 : Fvy81 23 = F 23 := ((hFvy81 23 (by decide)).trans ((hFvy77 23 (by decide)).trans ((hFvy75 23 (by decide)).trans ((hFvy70 23 (by decide)).trans ((hFvy68 23 (by decide)).trans ((hFvy64 23 (by decide)).trans ((hFvy59 23 (by decide)).trans ((hFvy54 23 (by decide)).trans ((hFvy52 23 (by decide)).trans ((hFvy47 23 (by decide)).trans ((hFvy45 23 (by decide)).trans (fn ((hFvy28 23 (by decide)).trans (fn rfl (by decide))) (by decide)))))))))))))
            exact z_iret C hr hlk dX10_told_210 (by decide) (by decide) ⟨xy84, rfl, rfl, rfl, by omega, ⟨_, _, hMy105, by omega⟩, fun j j1 => by rw [hfvy81 _ (by omega)]; rw [hfvy77 _ (by omega) (by omega)]; rw [hfvy75 _ (by omega) (by omega)]; rw [hfvy70 _ (by omega) (by omega)]; rw [hfvy68 _ (by omega) (by omega)]; rw [hfvy64 _ (by omega) (by omega)]; rw [hfvy59 _ (by omega) (by omega)]; rw [hfvy54 _ (by omega) (by omega)]; rw [hfvy52 _ (by omega) (by omega)]; rw [hfvy47 _ (by omega) (by omega)]; rw [hfvy45 _ (by omega) (by omega)]; rw [egy32, va_up_ne _ _ (by omega)]; rw [hfvy28 _ (by omega)]; rw [egy25, va_up_ne _ _ (by omega)]⟩
          · refine z_if_eq (tgt := 209) C dX10_told_197 (by decide) (by omega) (fun _ => ?_) (fun h => absurd h (by omega))
            refine z_iconst (z := 0) C dX10_told_209 rfl ?_
            have hgy106 := (hfvy75 (i + 1) (ne_o (i := i) (c := 1) (d := 0) rfl) (ne_o (i := i) (c := 1) (d := 24) rfl)).trans hgy73
            have hgy107 := (hfvy77 (i + 1) (ne_o (i := i) (c := 1) (d := 0) rfl) (ne_o (i := i) (c := 1) (d := 24) rfl)).trans hgy106
            have hgy108 := (hfvy81 (i + 1) (ne_o (i := i) (c := 1) (d := 0) rfl)).trans hgy107
            have hFy109 : ∀ f, f ≠ 12 → f ≠ 51 → Fvy81 f = F f := fun f n12 n51 => ((hFvy81 f n12).trans ((hFvy77 f n51).trans ((hFvy75 f n51).trans ((hFvy70 f n51).trans ((hFvy68 f n51).trans ((hFvy64 f n51).trans ((hFvy59 f n51).trans ((hFvy54 f n51).trans ((hFvy52 f n51).trans ((hFvy47 f n51).trans ((hFvy45 f n51).trans ((uZ_n _ _ n51).trans ((hFvy28 f n12).trans ((uZ_n _ _ n12).trans rfl))))))))))))))
            have hey110 : Fvy81 13 = F 13 := ((hFvy81 13 (by decide)).trans ((hFvy77 13 (by decide)).trans ((hFvy75 13 (by decide)).trans ((hFvy70 13 (by decide)).trans ((hFvy68 13 (by decide)).trans ((hFvy64 13 (by decide)).trans ((hFvy59 13 (by decide)).trans ((hFvy54 13 (by decide)).trans ((hFvy52 13 (by decide)).trans ((hFvy47 13 (by decide)).trans ((hFvy45 13 (by decide)).trans (fn ((hFvy28 13 (by decide)).trans (fn rfl (by decide))) (by decide)))))))))))))
            have hey111 : Fvy81 14 = F 14 := ((hFvy81 14 (by decide)).trans ((hFvy77 14 (by decide)).trans ((hFvy75 14 (by decide)).trans ((hFvy70 14 (by decide)).trans ((hFvy68 14 (by decide)).trans ((hFvy64 14 (by decide)).trans ((hFvy59 14 (by decide)).trans ((hFvy54 14 (by decide)).trans ((hFvy52 14 (by decide)).trans ((hFvy47 14 (by decide)).trans ((hFvy45 14 (by decide)).trans (fn ((hFvy28 14 (by decide)).trans (fn rfl (by decide))) (by decide)))))))))))))
            have hey112 : Fvy81 15 = F 15 := ((hFvy81 15 (by decide)).trans ((hFvy77 15 (by decide)).trans ((hFvy75 15 (by decide)).trans ((hFvy70 15 (by decide)).trans ((hFvy68 15 (by decide)).trans ((hFvy64 15 (by decide)).trans ((hFvy59 15 (by decide)).trans ((hFvy54 15 (by decide)).trans ((hFvy52 15 (by decide)).trans ((hFvy47 15 (by decide)).trans ((hFvy45 15 (by decide)).trans (fn ((hFvy28 15 (by decide)).trans (fn rfl (by decide))) (by decide)))))))))))))
            have hey113 : Fvy81 16 = F 16 := ((hFvy81 16 (by decide)).trans ((hFvy77 16 (by decide)).trans ((hFvy75 16 (by decide)).trans ((hFvy70 16 (by decide)).trans ((hFvy68 16 (by decide)).trans ((hFvy64 16 (by decide)).trans ((hFvy59 16 (by decide)).trans ((hFvy54 16 (by decide)).trans ((hFvy52 16 (by decide)).trans ((hFvy47 16 (by decide)).trans ((hFvy45 16 (by decide)).trans (fn ((hFvy28 16 (by decide)).trans (fn rfl (by decide))) (by decide)))))))))))))
            have hey114 : Fvy81 17 = F 17 := ((hFvy81 17 (by decide)).trans ((hFvy77 17 (by decide)).trans ((hFvy75 17 (by decide)).trans ((hFvy70 17 (by decide)).trans ((hFvy68 17 (by decide)).trans ((hFvy64 17 (by decide)).trans ((hFvy59 17 (by decide)).trans ((hFvy54 17 (by decide)).trans ((hFvy52 17 (by decide)).trans ((hFvy47 17 (by decide)).trans ((hFvy45 17 (by decide)).trans (fn ((hFvy28 17 (by decide)).trans (fn rfl (by decide))) (by decide)))))))))))))
            have hey115 : Fvy81 18 = F 18 := ((hFvy81 18 (by decide)).trans ((hFvy77 18 (by decide)).trans ((hFvy75 18 (by decide)).trans ((hFvy70 18 (by decide)).trans ((hFvy68 18 (by decide)).trans ((hFvy64 18 (by decide)).trans ((hFvy59 18 (by decide)).trans ((hFvy54 18 (by decide)).trans ((hFvy52 18 (by decide)).trans ((hFvy47 18 (by decide)).trans ((hFvy45 18 (by decide)).trans (fn ((hFvy28 18 (by decide)).trans (fn rfl (by decide))) (by decide)))))))))))))
            have hey116 : Fvy81 19 = F 19 := ((hFvy81 19 (by decide)).trans ((hFvy77 19 (by decide)).trans ((hFvy75 19 (by decide)).trans ((hFvy70 19 (by decide)).trans ((hFvy68 19 (by decide)).trans ((hFvy64 19 (by decide)).trans ((hFvy59 19 (by decide)).trans ((hFvy54 19 (by decide)).trans ((hFvy52 19 (by decide)).trans ((hFvy47 19 (by decide)).trans ((hFvy45 19 (by decide)).trans (fn ((hFvy28 19 (by decide)).trans (fn rfl (by decide))) (by decide)))))))))))))
            have hey117 : Fvy81 20 = F 20 := ((hFvy81 20 (by decide)).trans ((hFvy77 20 (by decide)).trans ((hFvy75 20 (by decide)).trans ((hFvy70 20 (by decide)).trans ((hFvy68 20 (by decide)).trans ((hFvy64 20 (by decide)).trans ((hFvy59 20 (by decide)).trans ((hFvy54 20 (by decide)).trans ((hFvy52 20 (by decide)).trans ((hFvy47 20 (by decide)).trans ((hFvy45 20 (by decide)).trans (fn ((hFvy28 20 (by decide)).trans (fn rfl (by decide))) (by decide)))))))))))))
            have hey118 : Fvy81 23 = F 23 := ((hFvy81 23 (by decide)).trans ((hFvy77 23 (by decide)).trans ((hFvy75 23 (by decide)).trans ((hFvy70 23 (by decide)).trans ((hFvy68 23 (by decide)).trans ((hFvy64 23 (by decide)).trans ((hFvy59 23 (by decide)).trans ((hFvy54 23 (by decide)).trans ((hFvy52 23 (by decide)).trans ((hFvy47 23 (by decide)).trans ((hFvy45 23 (by decide)).trans (fn ((hFvy28 23 (by decide)).trans (fn rfl (by decide))) (by decide)))))))))))))
            have hey119 : Fvy81 25 = F 25 := ((hFvy81 25 (by decide)).trans ((hFvy77 25 (by decide)).trans ((hFvy75 25 (by decide)).trans ((hFvy70 25 (by decide)).trans ((hFvy68 25 (by decide)).trans ((hFvy64 25 (by decide)).trans ((hFvy59 25 (by decide)).trans ((hFvy54 25 (by decide)).trans ((hFvy52 25 (by decide)).trans ((hFvy47 25 (by decide)).trans ((hFvy45 25 (by decide)).trans (fn ((hFvy28 25 (by decide)).trans (fn rfl (by decide))) (by decide)))))))))))))
            have hey120 : Fvy81 27 = F 27 := ((hFvy81 27 (by decide)).trans ((hFvy77 27 (by decide)).trans ((hFvy75 27 (by decide)).trans ((hFvy70 27 (by decide)).trans ((hFvy68 27 (by decide)).trans ((hFvy64 27 (by decide)).trans ((hFvy59 27 (by decide)).trans ((hFvy54 27 (by decide)).trans ((hFvy52 27 (by decide)).trans ((hFvy47 27 (by decide)).trans ((hFvy45 27 (by decide)).trans (fn ((hFvy28 27 (by decide)).trans (fn rfl (by decide))) (by decide)))))))))))))
            have hey121 : Fvy81 28 = F 28 := ((hFvy81 28 (by decide)).trans ((hFvy77 28 (by decide)).trans ((hFvy75 28 (by decide)).trans ((hFvy70 28 (by decide)).trans ((hFvy68 28 (by decide)).trans ((hFvy64 28 (by decide)).trans ((hFvy59 28 (by decide)).trans ((hFvy54 28 (by decide)).trans ((hFvy52 28 (by decide)).trans ((hFvy47 28 (by decide)).trans ((hFvy45 28 (by decide)).trans (fn ((hFvy28 28 (by decide)).trans (fn rfl (by decide))) (by decide)))))))))))))
            have hey122 : Fvy81 29 = F 29 := ((hFvy81 29 (by decide)).trans ((hFvy77 29 (by decide)).trans ((hFvy75 29 (by decide)).trans ((hFvy70 29 (by decide)).trans ((hFvy68 29 (by decide)).trans ((hFvy64 29 (by decide)).trans ((hFvy59 29 (by decide)).trans ((hFvy54 29 (by decide)).trans ((hFvy52 29 (by decide)).trans ((hFvy47 29 (by decide)).trans ((hFvy45 29 (by decide)).trans (fn ((hFvy28 29 (by decide)).trans (fn rfl (by decide))) (by decide)))))))))))))
            have hKy123 : okF Fvy81 := by unfold okF; omega
            have hgy125 := (hfvy81 (i + 24) (ne_o (i := i) (c := 24) (d := 0) rfl)).trans htvy77
            have hMy124 : okMr cs ad gvy81 i (x + 1) Fvy81 r := okMr.upd hM hcvy81 hKy123 (fun f a => hFy109 f (by omega) (by omega)) hgy108 (hA.mono (by omega)) (fun j a b => by
                by_cases e0 : j = i + 24
                · exact Or.inr ⟨24, _, e0, lsP.l (by decide), by rw [e0]; exact hgy125⟩
                exact Or.inl (by rw [hfvy81 _ (by omega)]; rw [hfvy77 _ (by omega) (by omega)]; rw [hfvy75 _ (by omega) (by omega)]; rw [hfvy70 _ (by omega) (by omega)]; rw [hfvy68 _ (by omega) (by omega)]; rw [hfvy64 _ (by omega) (by omega)]; rw [hfvy59 _ (by omega) (by omega)]; rw [hfvy54 _ (by omega) (by omega)]; rw [hfvy52 _ (by omega) (by omega)]; rw [hfvy47 _ (by omega) (by omega)]; rw [hfvy45 _ (by omega) (by omega)]; rw [egy32, va_up_ne _ _ (by omega)]; rw [hfvy28 _ (by omega)]; rw [egy25, va_up_ne _ _ (by omega)]))
            have h23 : Fvy81 23 = F 23 := ((hFvy81 23 (by decide)).trans ((hFvy77 23 (by decide)).trans ((hFvy75 23 (by decide)).trans ((hFvy70 23 (by decide)).trans ((hFvy68 23 (by decide)).trans ((hFvy64 23 (by decide)).trans ((hFvy59 23 (by decide)).trans ((hFvy54 23 (by decide)).trans ((hFvy52 23 (by decide)).trans ((hFvy47 23 (by decide)).trans ((hFvy45 23 (by decide)).trans (fn ((hFvy28 23 (by decide)).trans (fn rfl (by decide))) (by decide)))))))))))))
            exact z_iret C hr hlk dX10_told_210 (by decide) (by decide) ⟨0, rfl, rfl, rfl, by omega, ⟨_, _, hMy124, by omega⟩, fun j j1 => by rw [hfvy81 _ (by omega)]; rw [hfvy77 _ (by omega) (by omega)]; rw [hfvy75 _ (by omega) (by omega)]; rw [hfvy70 _ (by omega) (by omega)]; rw [hfvy68 _ (by omega) (by omega)]; rw [hfvy64 _ (by omega) (by omega)]; rw [hfvy59 _ (by omega) (by omega)]; rw [hfvy54 _ (by omega) (by omega)]; rw [hfvy52 _ (by omega) (by omega)]; rw [hfvy47 _ (by omega) (by omega)]; rw [hfvy45 _ (by omega) (by omega)]; rw [egy32, va_up_ne _ _ (by omega)]; rw [hfvy28 _ (by omega)]; rw [egy25, va_up_ne _ _ (by omega)]⟩
        · refine z_iconst (z := 1) C dX10_told_193 rfl ?_
          have hey127 : Fvy77 12 = Fvy28 12 := ((hFvy77 12 (by decide)).trans ((hFvy75 12 (by decide)).trans ((hFvy70 12 (by decide)).trans ((hFvy68 12 (by decide)).trans ((hFvy64 12 (by decide)).trans ((hFvy59 12 (by decide)).trans ((hFvy54 12 (by decide)).trans ((hFvy52 12 (by decide)).trans ((hFvy47 12 (by decide)).trans ((hFvy45 12 (by decide)).trans (fn rfl (by decide))))))))))))
          refine z_cV (As := [.int (zI (0)), .int (zI (1))]) (rest := []) (ci := 12) C (c_X10_right l D A cs tt N ad _ i hN _ hcvy77 (by omega) (0) (by omega) (1) (by omega)) (by omega) hay1 hcvy77 rfl rfl mv_yX10_right q_1648 hd_yX10_right (by decide) (Nat.le_of_ble_eq_true rfl) (by decide) dX10_told_194 rfl (kI0 fun vy126 gvy126 hvy126 => ?_)
          obtain ⟨hrvy126, ⟨Fvy126, hcvy126, htvy126, hFvy126⟩, hfvy126⟩ := hvy126
          obtain rfl : vy126 = 0 := by omega
          refine z_if_eq (tgt := 209) C dX10_told_197 (by decide) (by omega) (fun _ => ?_) (fun h => absurd h (by omega))
          refine z_iconst (z := 0) C dX10_told_209 rfl ?_
          have hgy128 := (hfvy75 (i + 1) (ne_o (i := i) (c := 1) (d := 0) rfl) (ne_o (i := i) (c := 1) (d := 24) rfl)).trans hgy73
          have hgy129 := (hfvy77 (i + 1) (ne_o (i := i) (c := 1) (d := 0) rfl) (ne_o (i := i) (c := 1) (d := 24) rfl)).trans hgy128
          have hgy130 := (hfvy126 (i + 1) (ne_o (i := i) (c := 1) (d := 0) rfl)).trans hgy129
          have hFy131 : ∀ f, f ≠ 12 → f ≠ 51 → Fvy126 f = F f := fun f n12 n51 => ((hFvy126 f n12).trans ((hFvy77 f n51).trans ((hFvy75 f n51).trans ((hFvy70 f n51).trans ((hFvy68 f n51).trans ((hFvy64 f n51).trans ((hFvy59 f n51).trans ((hFvy54 f n51).trans ((hFvy52 f n51).trans ((hFvy47 f n51).trans ((hFvy45 f n51).trans ((uZ_n _ _ n51).trans ((hFvy28 f n12).trans ((uZ_n _ _ n12).trans rfl))))))))))))))
          have hey132 : Fvy126 13 = F 13 := ((hFvy126 13 (by decide)).trans ((hFvy77 13 (by decide)).trans ((hFvy75 13 (by decide)).trans ((hFvy70 13 (by decide)).trans ((hFvy68 13 (by decide)).trans ((hFvy64 13 (by decide)).trans ((hFvy59 13 (by decide)).trans ((hFvy54 13 (by decide)).trans ((hFvy52 13 (by decide)).trans ((hFvy47 13 (by decide)).trans ((hFvy45 13 (by decide)).trans (fn ((hFvy28 13 (by decide)).trans (fn rfl (by decide))) (by decide)))))))))))))
          have hey133 : Fvy126 14 = F 14 := ((hFvy126 14 (by decide)).trans ((hFvy77 14 (by decide)).trans ((hFvy75 14 (by decide)).trans ((hFvy70 14 (by decide)).trans ((hFvy68 14 (by decide)).trans ((hFvy64 14 (by decide)).trans ((hFvy59 14 (by decide)).trans ((hFvy54 14 (by decide)).trans ((hFvy52 14 (by decide)).trans ((hFvy47 14 (by decide)).trans ((hFvy45 14 (by decide)).trans (fn ((hFvy28 14 (by decide)).trans (fn rfl (by decide))) (by decide)))))))))))))
          have hey134 : Fvy126 15 = F 15 := ((hFvy126 15 (by decide)).trans ((hFvy77 15 (by decide)).trans ((hFvy75 15 (by decide)).trans ((hFvy70 15 (by decide)).trans ((hFvy68 15 (by decide)).trans ((hFvy64 15 (by decide)).trans ((hFvy59 15 (by decide)).trans ((hFvy54 15 (by decide)).trans ((hFvy52 15 (by decide)).trans ((hFvy47 15 (by decide)).trans ((hFvy45 15 (by decide)).trans (fn ((hFvy28 15 (by decide)).trans (fn rfl (by decide))) (by decide)))))))))))))
          have hey135 : Fvy126 16 = F 16 := ((hFvy126 16 (by decide)).trans ((hFvy77 16 (by decide)).trans ((hFvy75 16 (by decide)).trans ((hFvy70 16 (by decide)).trans ((hFvy68 16 (by decide)).trans ((hFvy64 16 (by decide)).trans ((hFvy59 16 (by decide)).trans ((hFvy54 16 (by decide)).trans ((hFvy52 16 (by decide)).trans ((hFvy47 16 (by decide)).trans ((hFvy45 16 (by decide)).trans (fn ((hFvy28 16 (by decide)).trans (fn rfl (by decide))) (by decide)))))))))))))
          have hey136 : Fvy126 17 = F 17 := ((hFvy126 17 (by decide)).trans ((hFvy77 17 (by decide)).trans ((hFvy75 17 (by decide)).trans ((hFvy70 17 (by decide)).trans ((hFvy68 17 (by decide)).trans ((hFvy64 17 (by decide)).trans ((hFvy59 17 (by decide)).trans ((hFvy54 17 (by decide)).trans ((hFvy52 17 (by decide)).trans ((hFvy47 17 (by decide)).trans ((hFvy45 17 (by decide)).trans (fn ((hFvy28 17 (by decide)).trans (fn rfl (by decide))) (by decide)))))))))))))
          have hey137 : Fvy126 18 = F 18 := ((hFvy126 18 (by decide)).trans ((hFvy77 18 (by decide)).trans ((hFvy75 18 (by decide)).trans ((hFvy70 18 (by decide)).trans ((hFvy68 18 (by decide)).trans ((hFvy64 18 (by decide)).trans ((hFvy59 18 (by decide)).trans ((hFvy54 18 (by decide)).trans ((hFvy52 18 (by decide)).trans ((hFvy47 18 (by decide)).trans ((hFvy45 18 (by decide)).trans (fn ((hFvy28 18 (by decide)).trans (fn rfl (by decide))) (by decide)))))))))))))
          have hey138 : Fvy126 19 = F 19 := ((hFvy126 19 (by decide)).trans ((hFvy77 19 (by decide)).trans ((hFvy75 19 (by decide)).trans ((hFvy70 19 (by decide)).trans ((hFvy68 19 (by decide)).trans ((hFvy64 19 (by decide)).trans ((hFvy59 19 (by decide)).trans ((hFvy54 19 (by decide)).trans ((hFvy52 19 (by decide)).trans ((hFvy47 19 (by decide)).trans ((hFvy45 19 (by decide)).trans (fn ((hFvy28 19 (by decide)).trans (fn rfl (by decide))) (by decide)))))))))))))
          have hey139 : Fvy126 20 = F 20 := ((hFvy126 20 (by decide)).trans ((hFvy77 20 (by decide)).trans ((hFvy75 20 (by decide)).trans ((hFvy70 20 (by decide)).trans ((hFvy68 20 (by decide)).trans ((hFvy64 20 (by decide)).trans ((hFvy59 20 (by decide)).trans ((hFvy54 20 (by decide)).trans ((hFvy52 20 (by decide)).trans ((hFvy47 20 (by decide)).trans ((hFvy45 20 (by decide)).trans (fn ((hFvy28 20 (by decide)).trans (fn rfl (by decide))) (by decide)))))))))))))
          have hey140 : Fvy126 23 = F 23 := ((hFvy126 23 (by decide)).trans ((hFvy77 23 (by decide)).trans ((hFvy75 23 (by decide)).trans ((hFvy70 23 (by decide)).trans ((hFvy68 23 (by decide)).trans ((hFvy64 23 (by decide)).trans ((hFvy59 23 (by decide)).trans ((hFvy54 23 (by decide)).trans ((hFvy52 23 (by decide)).trans ((hFvy47 23 (by decide)).trans ((hFvy45 23 (by decide)).trans (fn ((hFvy28 23 (by decide)).trans (fn rfl (by decide))) (by decide)))))))))))))
          have hey141 : Fvy126 25 = F 25 := ((hFvy126 25 (by decide)).trans ((hFvy77 25 (by decide)).trans ((hFvy75 25 (by decide)).trans ((hFvy70 25 (by decide)).trans ((hFvy68 25 (by decide)).trans ((hFvy64 25 (by decide)).trans ((hFvy59 25 (by decide)).trans ((hFvy54 25 (by decide)).trans ((hFvy52 25 (by decide)).trans ((hFvy47 25 (by decide)).trans ((hFvy45 25 (by decide)).trans (fn ((hFvy28 25 (by decide)).trans (fn rfl (by decide))) (by decide)))))))))))))
          have hey142 : Fvy126 27 = F 27 := ((hFvy126 27 (by decide)).trans ((hFvy77 27 (by decide)).trans ((hFvy75 27 (by decide)).trans ((hFvy70 27 (by decide)).trans ((hFvy68 27 (by decide)).trans ((hFvy64 27 (by decide)).trans ((hFvy59 27 (by decide)).trans ((hFvy54 27 (by decide)).trans ((hFvy52 27 (by decide)).trans ((hFvy47 27 (by decide)).trans ((hFvy45 27 (by decide)).trans (fn ((hFvy28 27 (by decide)).trans (fn rfl (by decide))) (by decide)))))))))))))
          have hey143 : Fvy126 28 = F 28 := ((hFvy126 28 (by decide)).trans ((hFvy77 28 (by decide)).trans ((hFvy75 28 (by decide)).trans ((hFvy70 28 (by decide)).trans ((hFvy68 28 (by decide)).trans ((hFvy64 28 (by decide)).trans ((hFvy59 28 (by decide)).trans ((hFvy54 28 (by decide)).trans ((hFvy52 28 (by decide)).trans ((hFvy47 28 (by decide)).trans ((hFvy45 28 (by decide)).trans (fn ((hFvy28 28 (by decide)).trans (fn rfl (by decide))) (by decide)))))))))))))
          have hey144 : Fvy126 29 = F 29 := ((hFvy126 29 (by decide)).trans ((hFvy77 29 (by decide)).trans ((hFvy75 29 (by decide)).trans ((hFvy70 29 (by decide)).trans ((hFvy68 29 (by decide)).trans ((hFvy64 29 (by decide)).trans ((hFvy59 29 (by decide)).trans ((hFvy54 29 (by decide)).trans ((hFvy52 29 (by decide)).trans ((hFvy47 29 (by decide)).trans ((hFvy45 29 (by decide)).trans (fn ((hFvy28 29 (by decide)).trans (fn rfl (by decide))) (by decide)))))))))))))
          have hKy145 : okF Fvy126 := by unfold okF; omega
          have hgy147 := (hfvy126 (i + 24) (ne_o (i := i) (c := 24) (d := 0) rfl)).trans htvy77
          have hMy146 : okMr cs ad gvy126 i (x + 1) Fvy126 r := okMr.upd hM hcvy126 hKy145 (fun f a => hFy131 f (by omega) (by omega)) hgy130 (hA.mono (by omega)) (fun j a b => by
              by_cases e0 : j = i + 24
              · exact Or.inr ⟨24, _, e0, lsP.l (by decide), by rw [e0]; exact hgy147⟩
              exact Or.inl (by rw [hfvy126 _ (by omega)]; rw [hfvy77 _ (by omega) (by omega)]; rw [hfvy75 _ (by omega) (by omega)]; rw [hfvy70 _ (by omega) (by omega)]; rw [hfvy68 _ (by omega) (by omega)]; rw [hfvy64 _ (by omega) (by omega)]; rw [hfvy59 _ (by omega) (by omega)]; rw [hfvy54 _ (by omega) (by omega)]; rw [hfvy52 _ (by omega) (by omega)]; rw [hfvy47 _ (by omega) (by omega)]; rw [hfvy45 _ (by omega) (by omega)]; rw [egy32, va_up_ne _ _ (by omega)]; rw [hfvy28 _ (by omega)]; rw [egy25, va_up_ne _ _ (by omega)]))
          have h23 : Fvy126 23 = F 23 := ((hFvy126 23 (by decide)).trans ((hFvy77 23 (by decide)).trans ((hFvy75 23 (by decide)).trans ((hFvy70 23 (by decide)).trans ((hFvy68 23 (by decide)).trans ((hFvy64 23 (by decide)).trans ((hFvy59 23 (by decide)).trans ((hFvy54 23 (by decide)).trans ((hFvy52 23 (by decide)).trans ((hFvy47 23 (by decide)).trans ((hFvy45 23 (by decide)).trans (fn ((hFvy28 23 (by decide)).trans (fn rfl (by decide))) (by decide)))))))))))))
          exact z_iret C hr hlk dX10_told_210 (by decide) (by decide) ⟨0, rfl, rfl, rfl, by omega, ⟨_, _, hMy146, by omega⟩, fun j j1 => by rw [hfvy126 _ (by omega)]; rw [hfvy77 _ (by omega) (by omega)]; rw [hfvy75 _ (by omega) (by omega)]; rw [hfvy70 _ (by omega) (by omega)]; rw [hfvy68 _ (by omega) (by omega)]; rw [hfvy64 _ (by omega) (by omega)]; rw [hfvy59 _ (by omega) (by omega)]; rw [hfvy54 _ (by omega) (by omega)]; rw [hfvy52 _ (by omega) (by omega)]; rw [hfvy47 _ (by omega) (by omega)]; rw [hfvy45 _ (by omega) (by omega)]; rw [egy32, va_up_ne _ _ (by omega)]; rw [hfvy28 _ (by omega)]; rw [egy25, va_up_ne _ _ (by omega)]⟩
      · refine z_aload_n C 0 dX10_told_176 rfl ?_
        refine z_get (v := .int (zI (Fvy75 51 + 1))) C (by omega) hay1 hcvy77 rfl inA_X10 51 (by decide) q_1510 rfl (fv (F := Fvy77) (f := 51) hqvy77) dX10_told_177 ?_
        have hgy148 := (hfvy75 (i + 1) (ne_o (i := i) (c := 1) (d := 0) rfl) (ne_o (i := i) (c := 1) (d := 24) rfl)).trans hgy73
        have hgy149 := (hfvy77 (i + 1) (ne_o (i := i) (c := 1) (d := 0) rfl) (ne_o (i := i) (c := 1) (d := 24) rfl)).trans hgy148
        have hFy150 : ∀ f, f ≠ 12 → f ≠ 51 → Fvy77 f = F f := fun f n12 n51 => ((hFvy77 f n51).trans ((hFvy75 f n51).trans ((hFvy70 f n51).trans ((hFvy68 f n51).trans ((hFvy64 f n51).trans ((hFvy59 f n51).trans ((hFvy54 f n51).trans ((hFvy52 f n51).trans ((hFvy47 f n51).trans ((hFvy45 f n51).trans ((uZ_n _ _ n51).trans ((hFvy28 f n12).trans ((uZ_n _ _ n12).trans rfl)))))))))))))
        have hey151 : Fvy77 13 = F 13 := ((hFvy77 13 (by decide)).trans ((hFvy75 13 (by decide)).trans ((hFvy70 13 (by decide)).trans ((hFvy68 13 (by decide)).trans ((hFvy64 13 (by decide)).trans ((hFvy59 13 (by decide)).trans ((hFvy54 13 (by decide)).trans ((hFvy52 13 (by decide)).trans ((hFvy47 13 (by decide)).trans ((hFvy45 13 (by decide)).trans (fn ((hFvy28 13 (by decide)).trans (fn rfl (by decide))) (by decide))))))))))))
        have hey152 : Fvy77 14 = F 14 := ((hFvy77 14 (by decide)).trans ((hFvy75 14 (by decide)).trans ((hFvy70 14 (by decide)).trans ((hFvy68 14 (by decide)).trans ((hFvy64 14 (by decide)).trans ((hFvy59 14 (by decide)).trans ((hFvy54 14 (by decide)).trans ((hFvy52 14 (by decide)).trans ((hFvy47 14 (by decide)).trans ((hFvy45 14 (by decide)).trans (fn ((hFvy28 14 (by decide)).trans (fn rfl (by decide))) (by decide))))))))))))
        have hey153 : Fvy77 15 = F 15 := ((hFvy77 15 (by decide)).trans ((hFvy75 15 (by decide)).trans ((hFvy70 15 (by decide)).trans ((hFvy68 15 (by decide)).trans ((hFvy64 15 (by decide)).trans ((hFvy59 15 (by decide)).trans ((hFvy54 15 (by decide)).trans ((hFvy52 15 (by decide)).trans ((hFvy47 15 (by decide)).trans ((hFvy45 15 (by decide)).trans (fn ((hFvy28 15 (by decide)).trans (fn rfl (by decide))) (by decide))))))))))))
        have hey154 : Fvy77 16 = F 16 := ((hFvy77 16 (by decide)).trans ((hFvy75 16 (by decide)).trans ((hFvy70 16 (by decide)).trans ((hFvy68 16 (by decide)).trans ((hFvy64 16 (by decide)).trans ((hFvy59 16 (by decide)).trans ((hFvy54 16 (by decide)).trans ((hFvy52 16 (by decide)).trans ((hFvy47 16 (by decide)).trans ((hFvy45 16 (by decide)).trans (fn ((hFvy28 16 (by decide)).trans (fn rfl (by decide))) (by decide))))))))))))
        have hey155 : Fvy77 17 = F 17 := ((hFvy77 17 (by decide)).trans ((hFvy75 17 (by decide)).trans ((hFvy70 17 (by decide)).trans ((hFvy68 17 (by decide)).trans ((hFvy64 17 (by decide)).trans ((hFvy59 17 (by decide)).trans ((hFvy54 17 (by decide)).trans ((hFvy52 17 (by decide)).trans ((hFvy47 17 (by decide)).trans ((hFvy45 17 (by decide)).trans (fn ((hFvy28 17 (by decide)).trans (fn rfl (by decide))) (by decide))))))))))))
        have hey156 : Fvy77 18 = F 18 := ((hFvy77 18 (by decide)).trans ((hFvy75 18 (by decide)).trans ((hFvy70 18 (by decide)).trans ((hFvy68 18 (by decide)).trans ((hFvy64 18 (by decide)).trans ((hFvy59 18 (by decide)).trans ((hFvy54 18 (by decide)).trans ((hFvy52 18 (by decide)).trans ((hFvy47 18 (by decide)).trans ((hFvy45 18 (by decide)).trans (fn ((hFvy28 18 (by decide)).trans (fn rfl (by decide))) (by decide))))))))))))
        have hey157 : Fvy77 19 = F 19 := ((hFvy77 19 (by decide)).trans ((hFvy75 19 (by decide)).trans ((hFvy70 19 (by decide)).trans ((hFvy68 19 (by decide)).trans ((hFvy64 19 (by decide)).trans ((hFvy59 19 (by decide)).trans ((hFvy54 19 (by decide)).trans ((hFvy52 19 (by decide)).trans ((hFvy47 19 (by decide)).trans ((hFvy45 19 (by decide)).trans (fn ((hFvy28 19 (by decide)).trans (fn rfl (by decide))) (by decide))))))))))))
        have hey158 : Fvy77 20 = F 20 := ((hFvy77 20 (by decide)).trans ((hFvy75 20 (by decide)).trans ((hFvy70 20 (by decide)).trans ((hFvy68 20 (by decide)).trans ((hFvy64 20 (by decide)).trans ((hFvy59 20 (by decide)).trans ((hFvy54 20 (by decide)).trans ((hFvy52 20 (by decide)).trans ((hFvy47 20 (by decide)).trans ((hFvy45 20 (by decide)).trans (fn ((hFvy28 20 (by decide)).trans (fn rfl (by decide))) (by decide))))))))))))
        have hey159 : Fvy77 23 = F 23 := ((hFvy77 23 (by decide)).trans ((hFvy75 23 (by decide)).trans ((hFvy70 23 (by decide)).trans ((hFvy68 23 (by decide)).trans ((hFvy64 23 (by decide)).trans ((hFvy59 23 (by decide)).trans ((hFvy54 23 (by decide)).trans ((hFvy52 23 (by decide)).trans ((hFvy47 23 (by decide)).trans ((hFvy45 23 (by decide)).trans (fn ((hFvy28 23 (by decide)).trans (fn rfl (by decide))) (by decide))))))))))))
        have hey160 : Fvy77 25 = F 25 := ((hFvy77 25 (by decide)).trans ((hFvy75 25 (by decide)).trans ((hFvy70 25 (by decide)).trans ((hFvy68 25 (by decide)).trans ((hFvy64 25 (by decide)).trans ((hFvy59 25 (by decide)).trans ((hFvy54 25 (by decide)).trans ((hFvy52 25 (by decide)).trans ((hFvy47 25 (by decide)).trans ((hFvy45 25 (by decide)).trans (fn ((hFvy28 25 (by decide)).trans (fn rfl (by decide))) (by decide))))))))))))
        have hey161 : Fvy77 27 = F 27 := ((hFvy77 27 (by decide)).trans ((hFvy75 27 (by decide)).trans ((hFvy70 27 (by decide)).trans ((hFvy68 27 (by decide)).trans ((hFvy64 27 (by decide)).trans ((hFvy59 27 (by decide)).trans ((hFvy54 27 (by decide)).trans ((hFvy52 27 (by decide)).trans ((hFvy47 27 (by decide)).trans ((hFvy45 27 (by decide)).trans (fn ((hFvy28 27 (by decide)).trans (fn rfl (by decide))) (by decide))))))))))))
        have hey162 : Fvy77 28 = F 28 := ((hFvy77 28 (by decide)).trans ((hFvy75 28 (by decide)).trans ((hFvy70 28 (by decide)).trans ((hFvy68 28 (by decide)).trans ((hFvy64 28 (by decide)).trans ((hFvy59 28 (by decide)).trans ((hFvy54 28 (by decide)).trans ((hFvy52 28 (by decide)).trans ((hFvy47 28 (by decide)).trans ((hFvy45 28 (by decide)).trans (fn ((hFvy28 28 (by decide)).trans (fn rfl (by decide))) (by decide))))))))))))
        have hey163 : Fvy77 29 = F 29 := ((hFvy77 29 (by decide)).trans ((hFvy75 29 (by decide)).trans ((hFvy70 29 (by decide)).trans ((hFvy68 29 (by decide)).trans ((hFvy64 29 (by decide)).trans ((hFvy59 29 (by decide)).trans ((hFvy54 29 (by decide)).trans ((hFvy52 29 (by decide)).trans ((hFvy47 29 (by decide)).trans ((hFvy45 29 (by decide)).trans (fn ((hFvy28 29 (by decide)).trans (fn rfl (by decide))) (by decide))))))))))))
        have hKy164 : okF Fvy77 := by unfold okF; omega
        have hMy165 : okMr cs ad gvy77 i (x + 1) Fvy77 r := okMr.upd hM hcvy77 hKy164 (fun f a => hFy150 f (by omega) (by omega)) hgy149 (hA.mono (by omega)) (fun j a b => by
            by_cases e0 : j = i + 24
            · exact Or.inr ⟨24, _, e0, lsP.l (by decide), by rw [e0]; exact htvy77⟩
            exact Or.inl (by rw [hfvy77 _ (by omega) (by omega)]; rw [hfvy75 _ (by omega) (by omega)]; rw [hfvy70 _ (by omega) (by omega)]; rw [hfvy68 _ (by omega) (by omega)]; rw [hfvy64 _ (by omega) (by omega)]; rw [hfvy59 _ (by omega) (by omega)]; rw [hfvy54 _ (by omega) (by omega)]; rw [hfvy52 _ (by omega) (by omega)]; rw [hfvy47 _ (by omega) (by omega)]; rw [hfvy45 _ (by omega) (by omega)]; rw [egy32, va_up_ne _ _ (by omega)]; rw [hfvy28 _ (by omega)]; rw [egy25, va_up_ne _ _ (by omega)]))
        have h23 : Fvy77 23 = F 23 := ((hFvy77 23 (by decide)).trans ((hFvy75 23 (by decide)).trans ((hFvy70 23 (by decide)).trans ((hFvy68 23 (by decide)).trans ((hFvy64 23 (by decide)).trans ((hFvy59 23 (by decide)).trans ((hFvy54 23 (by decide)).trans ((hFvy52 23 (by decide)).trans ((hFvy47 23 (by decide)).trans ((hFvy45 23 (by decide)).trans (fn ((hFvy28 23 (by decide)).trans (fn rfl (by decide))) (by decide))))))))))))
        exact z_iret C hr hlk dX10_told_180 (by decide) (by decide) ⟨Fvy75 51 + 1, rfl, rfl, rfl, by omega, ⟨_, _, hMy165, by omega⟩, fun j j1 => by rw [hfvy77 _ (by omega) (by omega)]; rw [hfvy75 _ (by omega) (by omega)]; rw [hfvy70 _ (by omega) (by omega)]; rw [hfvy68 _ (by omega) (by omega)]; rw [hfvy64 _ (by omega) (by omega)]; rw [hfvy59 _ (by omega) (by omega)]; rw [hfvy54 _ (by omega) (by omega)]; rw [hfvy52 _ (by omega) (by omega)]; rw [hfvy47 _ (by omega) (by omega)]; rw [hfvy45 _ (by omega) (by omega)]; rw [egy32, va_up_ne _ _ (by omega)]; rw [hfvy28 _ (by omega)]; rw [egy25, va_up_ne _ _ (by omega)]⟩
    · refine z_aload_n C 0 dX10_told_83 rfl ?_
      refine z_bipush (z := 32) C dX10_told_84 (by decide) ?_
      have hey167 : Fvy59 51 = Fvy59 51 := rfl
      refine z_cV (As := [.int (zI (32))]) (rest := []) (ci := 12) C (c_X10_says l D A cs tt N ad _ i hN _ hcvy59 _ htvy59 (by omega) (32)) (by omega) hay1 hcvy59 rfl rfl mv_yX10_says q_1850 hd_yX10_says (by decide) (Nat.le_of_ble_eq_true rfl) (by decide) dX10_told_86 rfl (kV0 fun gvy166 hvy166 => ?_)
      obtain ⟨⟨Fvy166, hcvy166, hnvy166, hFvy166⟩, ⟨tvy166, htvy166⟩, hfvy166⟩ := hvy166
      have hovy166 : Fvy59 51 = Fvy59 51 := rfl
      have hqvy166 : Fvy166 51 = Fvy59 51 + 1 := by omega
      clear hnvy166 hovy166
      refine z_aload_n C 0 dX10_told_89 rfl ?_
      refine z_bipush (z := 119) C dX10_told_90 (by decide) ?_
      have hey169 : Fvy166 51 = Fvy59 51 + 1 := hqvy166
      refine z_cV (As := [.int (zI (119))]) (rest := []) (ci := 12) C (c_X10_says l D A cs tt N ad _ i hN _ hcvy166 _ htvy166 (by omega) (119)) (by omega) hay1 hcvy166 rfl rfl mv_yX10_says q_1850 hd_yX10_says (by decide) (Nat.le_of_ble_eq_true rfl) (by decide) dX10_told_92 rfl (kV0 fun gvy168 hvy168 => ?_)
      obtain ⟨⟨Fvy168, hcvy168, hnvy168, hFvy168⟩, ⟨tvy168, htvy168⟩, hfvy168⟩ := hvy168
      have hovy168 : Fvy166 51 = Fvy59 51 + 1 := hqvy166
      have hqvy168 : Fvy168 51 = Fvy59 51 + 2 := by omega
      clear hnvy168 hovy168
      refine z_aload_n C 0 dX10_told_95 rfl ?_
      refine z_bipush (z := 101) C dX10_told_96 (by decide) ?_
      have hey171 : Fvy168 51 = Fvy59 51 + 2 := hqvy168
      refine z_cV (As := [.int (zI (101))]) (rest := []) (ci := 12) C (c_X10_says l D A cs tt N ad _ i hN _ hcvy168 _ htvy168 (by omega) (101)) (by omega) hay1 hcvy168 rfl rfl mv_yX10_says q_1850 hd_yX10_says (by decide) (Nat.le_of_ble_eq_true rfl) (by decide) dX10_told_98 rfl (kV0 fun gvy170 hvy170 => ?_)
      obtain ⟨⟨Fvy170, hcvy170, hnvy170, hFvy170⟩, ⟨tvy170, htvy170⟩, hfvy170⟩ := hvy170
      have hovy170 : Fvy168 51 = Fvy59 51 + 2 := hqvy168
      have hqvy170 : Fvy170 51 = Fvy59 51 + 3 := by omega
      clear hnvy170 hovy170
      refine z_aload_n C 0 dX10_told_101 rfl ?_
      refine z_bipush (z := 116) C dX10_told_102 (by decide) ?_
      have hey173 : Fvy170 51 = Fvy59 51 + 3 := hqvy170
      refine z_cV (As := [.int (zI (116))]) (rest := []) (ci := 12) C (c_X10_says l D A cs tt N ad _ i hN _ hcvy170 _ htvy170 (by omega) (116)) (by omega) hay1 hcvy170 rfl rfl mv_yX10_says q_1850 hd_yX10_says (by decide) (Nat.le_of_ble_eq_true rfl) (by decide) dX10_told_104 rfl (kV0 fun gvy172 hvy172 => ?_)
      obtain ⟨⟨Fvy172, hcvy172, hnvy172, hFvy172⟩, ⟨tvy172, htvy172⟩, hfvy172⟩ := hvy172
      have hovy172 : Fvy170 51 = Fvy59 51 + 3 := hqvy170
      have hqvy172 : Fvy172 51 = Fvy59 51 + 4 := by omega
      clear hnvy172 hovy172
      refine z_aload_n C 0 dX10_told_107 rfl ?_
      refine z_bipush (z := 32) C dX10_told_108 (by decide) ?_
      have hey175 : Fvy172 51 = Fvy59 51 + 4 := hqvy172
      refine z_cV (As := [.int (zI (32))]) (rest := []) (ci := 12) C (c_X10_says l D A cs tt N ad _ i hN _ hcvy172 _ htvy172 (by omega) (32)) (by omega) hay1 hcvy172 rfl rfl mv_yX10_says q_1850 hd_yX10_says (by decide) (Nat.le_of_ble_eq_true rfl) (by decide) dX10_told_110 rfl (kV0 fun gvy174 hvy174 => ?_)
      obtain ⟨⟨Fvy174, hcvy174, hnvy174, hFvy174⟩, ⟨tvy174, htvy174⟩, hfvy174⟩ := hvy174
      have hovy174 : Fvy172 51 = Fvy59 51 + 4 := hqvy172
      have hqvy174 : Fvy174 51 = Fvy59 51 + 5 := by omega
      clear hnvy174 hovy174
      refine z_aload_n C 0 dX10_told_113 rfl ?_
      refine z_aload_n C 0 dX10_told_114 rfl ?_
      refine z_iconst (z := 0) C dX10_told_115 rfl ?_
      refine z_iload_n C 1 dX10_told_116 rfl ?_
      refine z_iload_n C 2 dX10_told_117 rfl ?_
      refine z_iconst (z := 2) C dX10_told_118 rfl ?_
      have hgy176 := (hfvy166 (i + 1) (ne_o (i := i) (c := 1) (d := 0) rfl) (ne_o (i := i) (c := 1) (d := 24) rfl)).trans hgy61
      have hgy177 := (hfvy168 (i + 1) (ne_o (i := i) (c := 1) (d := 0) rfl) (ne_o (i := i) (c := 1) (d := 24) rfl)).trans hgy176
      have hgy178 := (hfvy170 (i + 1) (ne_o (i := i) (c := 1) (d := 0) rfl) (ne_o (i := i) (c := 1) (d := 24) rfl)).trans hgy177
      have hgy179 := (hfvy172 (i + 1) (ne_o (i := i) (c := 1) (d := 0) rfl) (ne_o (i := i) (c := 1) (d := 24) rfl)).trans hgy178
      have hgy180 := (hfvy174 (i + 1) (ne_o (i := i) (c := 1) (d := 0) rfl) (ne_o (i := i) (c := 1) (d := 24) rfl)).trans hgy179
      refine z_cV (As := [.int (zI (0)), .int (zI ((n : Int))), .int (zI (z1)), .int (zI (2))]) (rest := [.ref (ad i)]) (ci := 12) C (c_X10_of l D A cs tt N ad _ i hN _ hcvy174 _ hgy180 0 n py30 hpy30 (by omega) (by omega) (z1) (2) (qy37 + 2) (by omega) (by omega) (by omega)) (by omega) hay1 hcvy174 rfl rfl mv_yX10_of q_1749 hd_yX10_of (by decide) (Nat.le_of_ble_eq_true rfl) (by decide) dX10_told_119 rfl (kI0 fun vy181 gvy181 hvy181 => ?_)
      obtain ⟨rfl, rfl⟩ := hvy181
      have hey183 : Fvy174 51 = Fvy59 51 + 5 := hqvy174
      refine z_cV (As := [.int (zI (r (qy37 + 2)))]) (rest := []) (ci := 12) C (c_X10_saysNumber9 l D A cs tt N ad _ i hN _ hcvy174 _ htvy174 (by omega) (r (qy37 + 2)) (by omega)) (by omega) hay1 hcvy174 rfl rfl mv_yX10_saysNumber q_1846 hd_yX10_saysNumber (by decide) (Nat.le_of_ble_eq_true rfl) (by decide) dX10_told_122 rfl (kV0 fun gvy182 hvy182 => ?_)
      obtain ⟨⟨Fvy182, hcvy182, hnvy182, hFvy182⟩, ⟨tvy182, htvy182⟩, hfvy182⟩ := hvy182
      have hovy182 : Fvy174 51 = Fvy59 51 + 5 := hqvy174
      refine z_aload_n C 0 dX10_told_125 rfl ?_
      refine z_bipush (z := 105) C dX10_told_126 (by decide) ?_
      refine z_bipush (z := 110) C dX10_told_128 (by decide) ?_
      have hey185 : Fvy182 51 = Fvy182 51 := rfl
      refine z_cV (As := [.int (zI (105)), .int (zI (110))]) (rest := []) (ci := 12) C (c_X10_saysWord l D A cs tt N ad _ i hN _ hcvy182 _ htvy182 (by omega) (105) (110)) (by omega) hay1 hcvy182 rfl rfl mv_yX10_saysWord q_1858 hd_yX10_saysWord (by decide) (Nat.le_of_ble_eq_true rfl) (by decide) dX10_told_130 rfl (kV0 fun gvy184 hvy184 => ?_)
      obtain ⟨⟨Fvy184, hcvy184, hnvy184, hFvy184⟩, ⟨tvy184, htvy184⟩, hfvy184⟩ := hvy184
      have hovy184 : Fvy182 51 = Fvy182 51 := rfl
      have hqvy184 : Fvy184 51 = Fvy182 51 + 4 := by omega
      clear hnvy184 hovy184
      refine z_aload_n C 0 dX10_told_133 rfl ?_
      refine z_aload_n C 0 dX10_told_134 rfl ?_
      refine z_iconst (z := 0) C dX10_told_135 rfl ?_
      refine z_iload_n C 1 dX10_told_136 rfl ?_
      refine z_iload_n C 2 dX10_told_137 rfl ?_
      refine z_iconst (z := 3) C dX10_told_138 rfl ?_
      have hgy186 := (hfvy182 (i + 1) (ne_o (i := i) (c := 1) (d := 0) rfl) (ne_o (i := i) (c := 1) (d := 24) rfl)).trans hgy180
      have hgy187 := (hfvy184 (i + 1) (ne_o (i := i) (c := 1) (d := 0) rfl) (ne_o (i := i) (c := 1) (d := 24) rfl)).trans hgy186
      refine z_cV (As := [.int (zI (0)), .int (zI ((n : Int))), .int (zI (z1)), .int (zI (3))]) (rest := [.ref (ad i)]) (ci := 12) C (c_X10_of l D A cs tt N ad _ i hN _ hcvy184 _ hgy187 0 n py30 hpy30 (by omega) (by omega) (z1) (3) (qy37 + 3) (by omega) (by omega) (by omega)) (by omega) hay1 hcvy184 rfl rfl mv_yX10_of q_1749 hd_yX10_of (by decide) (Nat.le_of_ble_eq_true rfl) (by decide) dX10_told_139 rfl (kI0 fun vy188 gvy188 hvy188 => ?_)
      obtain ⟨rfl, rfl⟩ := hvy188
      have hey190 : Fvy184 51 = Fvy182 51 + 4 := hqvy184
      refine z_cV (As := [.int (zI (r (qy37 + 3)))]) (rest := []) (ci := 12) C (c_X10_saysNumber9 l D A cs tt N ad _ i hN _ hcvy184 _ htvy184 (by omega) (r (qy37 + 3)) (by omega)) (by omega) hay1 hcvy184 rfl rfl mv_yX10_saysNumber q_1846 hd_yX10_saysNumber (by decide) (Nat.le_of_ble_eq_true rfl) (by decide) dX10_told_142 rfl (kV0 fun gvy189 hvy189 => ?_)
      obtain ⟨⟨Fvy189, hcvy189, hnvy189, hFvy189⟩, ⟨tvy189, htvy189⟩, hfvy189⟩ := hvy189
      have hovy189 : Fvy184 51 = Fvy182 51 + 4 := hqvy184
      refine z_aload_n C 0 dX10_told_145 rfl ?_
      refine z_bipush (z := 97) C dX10_told_146 (by decide) ?_
      refine z_bipush (z := 116) C dX10_told_148 (by decide) ?_
      have hey192 : Fvy189 51 = Fvy189 51 := rfl
      refine z_cV (As := [.int (zI (97)), .int (zI (116))]) (rest := []) (ci := 12) C (c_X10_saysWord l D A cs tt N ad _ i hN _ hcvy189 _ htvy189 (by omega) (97) (116)) (by omega) hay1 hcvy189 rfl rfl mv_yX10_saysWord q_1858 hd_yX10_saysWord (by decide) (Nat.le_of_ble_eq_true rfl) (by decide) dX10_told_150 rfl (kV0 fun gvy191 hvy191 => ?_)
      obtain ⟨⟨Fvy191, hcvy191, hnvy191, hFvy191⟩, ⟨tvy191, htvy191⟩, hfvy191⟩ := hvy191
      have hovy191 : Fvy189 51 = Fvy189 51 := rfl
      have hqvy191 : Fvy191 51 = Fvy189 51 + 4 := by omega
      clear hnvy191 hovy191
      refine z_aload_n C 0 dX10_told_153 rfl ?_
      refine z_aload_n C 0 dX10_told_154 rfl ?_
      refine z_iconst (z := 0) C dX10_told_155 rfl ?_
      refine z_iload_n C 1 dX10_told_156 rfl ?_
      refine z_iload_n C 2 dX10_told_157 rfl ?_
      refine z_iconst (z := 4) C dX10_told_158 rfl ?_
      have hgy193 := (hfvy189 (i + 1) (ne_o (i := i) (c := 1) (d := 0) rfl) (ne_o (i := i) (c := 1) (d := 24) rfl)).trans hgy187
      have hgy194 := (hfvy191 (i + 1) (ne_o (i := i) (c := 1) (d := 0) rfl) (ne_o (i := i) (c := 1) (d := 24) rfl)).trans hgy193
      refine z_cV (As := [.int (zI (0)), .int (zI ((n : Int))), .int (zI (z1)), .int (zI (4))]) (rest := [.ref (ad i)]) (ci := 12) C (c_X10_of l D A cs tt N ad _ i hN _ hcvy191 _ hgy194 0 n py30 hpy30 (by omega) (by omega) (z1) (4) (qy37 + 4) (by omega) (by omega) (by omega)) (by omega) hay1 hcvy191 rfl rfl mv_yX10_of q_1749 hd_yX10_of (by decide) (Nat.le_of_ble_eq_true rfl) (by decide) dX10_told_159 rfl (kI0 fun vy195 gvy195 hvy195 => ?_)
      obtain ⟨rfl, rfl⟩ := hvy195
      have hey197 : Fvy191 51 = Fvy189 51 + 4 := hqvy191
      refine z_cV (As := [.int (zI (r (qy37 + 4)))]) (rest := []) (ci := 12) C (c_X10_saysNumber5 l D A cs tt N ad _ i hN _ hcvy191 _ htvy191 (by omega) (r (qy37 + 4)) (by omega)) (by omega) hay1 hcvy191 rfl rfl mv_yX10_saysNumber q_1846 hd_yX10_saysNumber (by decide) (Nat.le_of_ble_eq_true rfl) (by decide) dX10_told_162 rfl (kV0 fun gvy196 hvy196 => ?_)
      obtain ⟨⟨Fvy196, hcvy196, hnvy196, hFvy196⟩, ⟨tvy196, htvy196⟩, hfvy196⟩ := hvy196
      have hovy196 : Fvy191 51 = Fvy189 51 + 4 := hqvy191
      refine z_aload_n C 0 dX10_told_165 rfl ?_
      refine z_bipush (z := 59) C dX10_told_166 (by decide) ?_
      have hey199 : Fvy196 51 = Fvy196 51 := rfl
      refine z_cV (As := [.int (zI (59))]) (rest := []) (ci := 12) C (c_X10_says l D A cs tt N ad _ i hN _ hcvy196 _ htvy196 (by omega) (59)) (by omega) hay1 hcvy196 rfl rfl mv_yX10_says q_1850 hd_yX10_says (by decide) (Nat.le_of_ble_eq_true rfl) (by decide) dX10_told_168 rfl (kV0 fun gvy198 hvy198 => ?_)
      obtain ⟨⟨Fvy198, hcvy198, hnvy198, hFvy198⟩, ⟨tvy198, htvy198⟩, hfvy198⟩ := hvy198
      have hovy198 : Fvy196 51 = Fvy196 51 := rfl
      have hqvy198 : Fvy198 51 = Fvy196 51 + 1 := by omega
      clear hnvy198 hovy198
      refine z_iload_n C 3 dX10_told_171 rfl ?_
      refine z_iconst (z := -1) C dX10_told_172 rfl ?_
      refine z_icmp_ne (tgt := 181) C dX10_told_173 (by decide) (by omega) (by omega) (fun hby200 => ?_) (fun hby200 => ?_)
      · refine z_aload_n C 0 dX10_told_181 rfl ?_
        refine z_iload_n C 3 dX10_told_182 rfl ?_
        refine z_iconst (z := 0) C dX10_told_183 rfl ?_
        refine z_aload_n C 0 dX10_told_184 rfl ?_
        refine z_get (v := .int (zI (Fvy196 51 + 1))) C (by omega) hay1 hcvy198 rfl inA_X10 51 (by decide) q_1510 rfl (fv (F := Fvy198) (f := 51) hqvy198) dX10_told_185 ?_
        refine z_iconst (z := 1) C dX10_told_188 rfl ?_
        refine z_isub C dX10_told_189 ?_
        refine z_cS (As := [.int (zI (z2)), .int (zI (0)), .int (zI ((Fvy196 51 + 1) - 1))]) (rest := [.ref (ad i)]) C (c_X10_within l D A cs tt N ad _ (z2) (by omega) (0) (by omega) ((Fvy196 51 + 1) - 1) (by omega)) ms_yX10_within q_1686 hd_yX10_within (by decide) (Nat.le_of_ble_eq_true rfl) (by decide) dX10_told_190 rfl (kI0 fun vy201 gvy201 hvy201 => ?_)
        obtain ⟨hvy201, rfl⟩ := hvy201
        rcases hvy201 with ⟨rfl, hxvy201⟩ | ⟨rfl, hxvy201⟩
        · refine z_iconst (z := 1) C dX10_told_193 rfl ?_
          have hey203 : Fvy198 12 = Fvy28 12 := ((hFvy198 12 (by decide)).trans ((hFvy196 12 (by decide)).trans ((hFvy191 12 (by decide)).trans ((hFvy189 12 (by decide)).trans ((hFvy184 12 (by decide)).trans ((hFvy182 12 (by decide)).trans ((hFvy174 12 (by decide)).trans ((hFvy172 12 (by decide)).trans ((hFvy170 12 (by decide)).trans ((hFvy168 12 (by decide)).trans ((hFvy166 12 (by decide)).trans ((hFvy59 12 (by decide)).trans ((hFvy54 12 (by decide)).trans ((hFvy52 12 (by decide)).trans ((hFvy47 12 (by decide)).trans ((hFvy45 12 (by decide)).trans (fn rfl (by decide))))))))))))))))))
          refine z_cV (As := [.int (zI (1)), .int (zI (1))]) (rest := []) (ci := 12) C (c_X10_right l D A cs tt N ad _ i hN _ hcvy198 (by omega) (1) (by omega) (1) (by omega)) (by omega) hay1 hcvy198 rfl rfl mv_yX10_right q_1648 hd_yX10_right (by decide) (Nat.le_of_ble_eq_true rfl) (by decide) dX10_told_194 rfl (kI0 fun vy202 gvy202 hvy202 => ?_)
          obtain ⟨hrvy202, ⟨Fvy202, hcvy202, htvy202, hFvy202⟩, hfvy202⟩ := hvy202
          rcases (show vy202 = 1 ∨ vy202 = 0 by omega) with rfl | rfl
          · refine z_if_eq (tgt := 209) C dX10_told_197 (by decide) (by omega) (fun h => absurd h (by omega)) (fun _ => ?_)
            refine z_aload_n C 0 dX10_told_200 rfl ?_
            refine z_get (v := .ref (ad (i + 24))) C (by omega) hay1 hcvy202 rfl inA_X10 50 (by decide) q_1509 rfl rfl dX10_told_201 ?_
            refine z_iload_n C 3 dX10_told_204 rfl ?_
            have hgy204 := (hfvy202 (i + 24) (ne_o (i := i) (c := 24) (d := 0) rfl)).trans htvy198
            refine z_iald C (by omega) hay17 hgy204 ((z2).toNat) (by omega) (by omega) (by decide) dX10_told_205 ?_
            refine z_goto (tgt := 210) C dX10_told_206 (by decide) ?_
            obtain ⟨xy205, exy206, hxy207⟩ := zI_of (zI (tvy198 ((z2).toNat)))
            rw [exy206]
            have hgy208 := (hfvy196 (i + 1) (ne_o (i := i) (c := 1) (d := 0) rfl) (ne_o (i := i) (c := 1) (d := 24) rfl)).trans hgy194
            have hgy209 := (hfvy198 (i + 1) (ne_o (i := i) (c := 1) (d := 0) rfl) (ne_o (i := i) (c := 1) (d := 24) rfl)).trans hgy208
            have hgy210 := (hfvy202 (i + 1) (ne_o (i := i) (c := 1) (d := 0) rfl)).trans hgy209
            have hFy211 : ∀ f, f ≠ 12 → f ≠ 51 → Fvy202 f = F f := fun f n12 n51 => ((hFvy202 f n12).trans ((hFvy198 f n51).trans ((hFvy196 f n51).trans ((hFvy191 f n51).trans ((hFvy189 f n51).trans ((hFvy184 f n51).trans ((hFvy182 f n51).trans ((hFvy174 f n51).trans ((hFvy172 f n51).trans ((hFvy170 f n51).trans ((hFvy168 f n51).trans ((hFvy166 f n51).trans ((hFvy59 f n51).trans ((hFvy54 f n51).trans ((hFvy52 f n51).trans ((hFvy47 f n51).trans ((hFvy45 f n51).trans ((uZ_n _ _ n51).trans ((hFvy28 f n12).trans ((uZ_n _ _ n12).trans rfl))))))))))))))))))))
            have hey212 : Fvy202 13 = F 13 := ((hFvy202 13 (by decide)).trans ((hFvy198 13 (by decide)).trans ((hFvy196 13 (by decide)).trans ((hFvy191 13 (by decide)).trans ((hFvy189 13 (by decide)).trans ((hFvy184 13 (by decide)).trans ((hFvy182 13 (by decide)).trans ((hFvy174 13 (by decide)).trans ((hFvy172 13 (by decide)).trans ((hFvy170 13 (by decide)).trans ((hFvy168 13 (by decide)).trans ((hFvy166 13 (by decide)).trans ((hFvy59 13 (by decide)).trans ((hFvy54 13 (by decide)).trans ((hFvy52 13 (by decide)).trans ((hFvy47 13 (by decide)).trans ((hFvy45 13 (by decide)).trans (fn ((hFvy28 13 (by decide)).trans (fn rfl (by decide))) (by decide)))))))))))))))))))
            have hey213 : Fvy202 14 = F 14 := ((hFvy202 14 (by decide)).trans ((hFvy198 14 (by decide)).trans ((hFvy196 14 (by decide)).trans ((hFvy191 14 (by decide)).trans ((hFvy189 14 (by decide)).trans ((hFvy184 14 (by decide)).trans ((hFvy182 14 (by decide)).trans ((hFvy174 14 (by decide)).trans ((hFvy172 14 (by decide)).trans ((hFvy170 14 (by decide)).trans ((hFvy168 14 (by decide)).trans ((hFvy166 14 (by decide)).trans ((hFvy59 14 (by decide)).trans ((hFvy54 14 (by decide)).trans ((hFvy52 14 (by decide)).trans ((hFvy47 14 (by decide)).trans ((hFvy45 14 (by decide)).trans (fn ((hFvy28 14 (by decide)).trans (fn rfl (by decide))) (by decide)))))))))))))))))))
            have hey214 : Fvy202 15 = F 15 := ((hFvy202 15 (by decide)).trans ((hFvy198 15 (by decide)).trans ((hFvy196 15 (by decide)).trans ((hFvy191 15 (by decide)).trans ((hFvy189 15 (by decide)).trans ((hFvy184 15 (by decide)).trans ((hFvy182 15 (by decide)).trans ((hFvy174 15 (by decide)).trans ((hFvy172 15 (by decide)).trans ((hFvy170 15 (by decide)).trans ((hFvy168 15 (by decide)).trans ((hFvy166 15 (by decide)).trans ((hFvy59 15 (by decide)).trans ((hFvy54 15 (by decide)).trans ((hFvy52 15 (by decide)).trans ((hFvy47 15 (by decide)).trans ((hFvy45 15 (by decide)).trans (fn ((hFvy28 15 (by decide)).trans (fn rfl (by decide))) (by decide)))))))))))))))))))
            have hey215 : Fvy202 16 = F 16 := ((hFvy202 16 (by decide)).trans ((hFvy198 16 (by decide)).trans ((hFvy196 16 (by decide)).trans ((hFvy191 16 (by decide)).trans ((hFvy189 16 (by decide)).trans ((hFvy184 16 (by decide)).trans ((hFvy182 16 (by decide)).trans ((hFvy174 16 (by decide)).trans ((hFvy172 16 (by decide)).trans ((hFvy170 16 (by decide)).trans ((hFvy168 16 (by decide)).trans ((hFvy166 16 (by decide)).trans ((hFvy59 16 (by decide)).trans ((hFvy54 16 (by decide)).trans ((hFvy52 16 (by decide)).trans ((hFvy47 16 (by decide)).trans ((hFvy45 16 (by decide)).trans (fn ((hFvy28 16 (by decide)).trans (fn rfl (by decide))) (by decide)))))))))))))))))))
            have hey216 : Fvy202 17 = F 17 := ((hFvy202 17 (by decide)).trans ((hFvy198 17 (by decide)).trans ((hFvy196 17 (by decide)).trans ((hFvy191 17 (by decide)).trans ((hFvy189 17 (by decide)).trans ((hFvy184 17 (by decide)).trans ((hFvy182 17 (by decide)).trans ((hFvy174 17 (by decide)).trans ((hFvy172 17 (by decide)).trans ((hFvy170 17 (by decide)).trans ((hFvy168 17 (by decide)).trans ((hFvy166 17 (by decide)).trans ((hFvy59 17 (by decide)).trans ((hFvy54 17 (by decide)).trans ((hFvy52 17 (by decide)).trans ((hFvy47 17 (by decide)).trans ((hFvy45 17 (by decide)).trans (fn ((hFvy28 17 (by decide)).trans (fn rfl (by decide))) (by decide)))))))))))))))))))
            have hey217 : Fvy202 18 = F 18 := ((hFvy202 18 (by decide)).trans ((hFvy198 18 (by decide)).trans ((hFvy196 18 (by decide)).trans ((hFvy191 18 (by decide)).trans ((hFvy189 18 (by decide)).trans ((hFvy184 18 (by decide)).trans ((hFvy182 18 (by decide)).trans ((hFvy174 18 (by decide)).trans ((hFvy172 18 (by decide)).trans ((hFvy170 18 (by decide)).trans ((hFvy168 18 (by decide)).trans ((hFvy166 18 (by decide)).trans ((hFvy59 18 (by decide)).trans ((hFvy54 18 (by decide)).trans ((hFvy52 18 (by decide)).trans ((hFvy47 18 (by decide)).trans ((hFvy45 18 (by decide)).trans (fn ((hFvy28 18 (by decide)).trans (fn rfl (by decide))) (by decide)))))))))))))))))))
            have hey218 : Fvy202 19 = F 19 := ((hFvy202 19 (by decide)).trans ((hFvy198 19 (by decide)).trans ((hFvy196 19 (by decide)).trans ((hFvy191 19 (by decide)).trans ((hFvy189 19 (by decide)).trans ((hFvy184 19 (by decide)).trans ((hFvy182 19 (by decide)).trans ((hFvy174 19 (by decide)).trans ((hFvy172 19 (by decide)).trans ((hFvy170 19 (by decide)).trans ((hFvy168 19 (by decide)).trans ((hFvy166 19 (by decide)).trans ((hFvy59 19 (by decide)).trans ((hFvy54 19 (by decide)).trans ((hFvy52 19 (by decide)).trans ((hFvy47 19 (by decide)).trans ((hFvy45 19 (by decide)).trans (fn ((hFvy28 19 (by decide)).trans (fn rfl (by decide))) (by decide)))))))))))))))))))
            have hey219 : Fvy202 20 = F 20 := ((hFvy202 20 (by decide)).trans ((hFvy198 20 (by decide)).trans ((hFvy196 20 (by decide)).trans ((hFvy191 20 (by decide)).trans ((hFvy189 20 (by decide)).trans ((hFvy184 20 (by decide)).trans ((hFvy182 20 (by decide)).trans ((hFvy174 20 (by decide)).trans ((hFvy172 20 (by decide)).trans ((hFvy170 20 (by decide)).trans ((hFvy168 20 (by decide)).trans ((hFvy166 20 (by decide)).trans ((hFvy59 20 (by decide)).trans ((hFvy54 20 (by decide)).trans ((hFvy52 20 (by decide)).trans ((hFvy47 20 (by decide)).trans ((hFvy45 20 (by decide)).trans (fn ((hFvy28 20 (by decide)).trans (fn rfl (by decide))) (by decide)))))))))))))))))))
            have hey220 : Fvy202 23 = F 23 := ((hFvy202 23 (by decide)).trans ((hFvy198 23 (by decide)).trans ((hFvy196 23 (by decide)).trans ((hFvy191 23 (by decide)).trans ((hFvy189 23 (by decide)).trans ((hFvy184 23 (by decide)).trans ((hFvy182 23 (by decide)).trans ((hFvy174 23 (by decide)).trans ((hFvy172 23 (by decide)).trans ((hFvy170 23 (by decide)).trans ((hFvy168 23 (by decide)).trans ((hFvy166 23 (by decide)).trans ((hFvy59 23 (by decide)).trans ((hFvy54 23 (by decide)).trans ((hFvy52 23 (by decide)).trans ((hFvy47 23 (by decide)).trans ((hFvy45 23 (by decide)).trans (fn ((hFvy28 23 (by decide)).trans (fn rfl (by decide))) (by decide)))))))))))))))))))
            have hey221 : Fvy202 25 = F 25 := ((hFvy202 25 (by decide)).trans ((hFvy198 25 (by decide)).trans ((hFvy196 25 (by decide)).trans ((hFvy191 25 (by decide)).trans ((hFvy189 25 (by decide)).trans ((hFvy184 25 (by decide)).trans ((hFvy182 25 (by decide)).trans ((hFvy174 25 (by decide)).trans ((hFvy172 25 (by decide)).trans ((hFvy170 25 (by decide)).trans ((hFvy168 25 (by decide)).trans ((hFvy166 25 (by decide)).trans ((hFvy59 25 (by decide)).trans ((hFvy54 25 (by decide)).trans ((hFvy52 25 (by decide)).trans ((hFvy47 25 (by decide)).trans ((hFvy45 25 (by decide)).trans (fn ((hFvy28 25 (by decide)).trans (fn rfl (by decide))) (by decide)))))))))))))))))))
            have hey222 : Fvy202 27 = F 27 := ((hFvy202 27 (by decide)).trans ((hFvy198 27 (by decide)).trans ((hFvy196 27 (by decide)).trans ((hFvy191 27 (by decide)).trans ((hFvy189 27 (by decide)).trans ((hFvy184 27 (by decide)).trans ((hFvy182 27 (by decide)).trans ((hFvy174 27 (by decide)).trans ((hFvy172 27 (by decide)).trans ((hFvy170 27 (by decide)).trans ((hFvy168 27 (by decide)).trans ((hFvy166 27 (by decide)).trans ((hFvy59 27 (by decide)).trans ((hFvy54 27 (by decide)).trans ((hFvy52 27 (by decide)).trans ((hFvy47 27 (by decide)).trans ((hFvy45 27 (by decide)).trans (fn ((hFvy28 27 (by decide)).trans (fn rfl (by decide))) (by decide)))))))))))))))))))
            have hey223 : Fvy202 28 = F 28 := ((hFvy202 28 (by decide)).trans ((hFvy198 28 (by decide)).trans ((hFvy196 28 (by decide)).trans ((hFvy191 28 (by decide)).trans ((hFvy189 28 (by decide)).trans ((hFvy184 28 (by decide)).trans ((hFvy182 28 (by decide)).trans ((hFvy174 28 (by decide)).trans ((hFvy172 28 (by decide)).trans ((hFvy170 28 (by decide)).trans ((hFvy168 28 (by decide)).trans ((hFvy166 28 (by decide)).trans ((hFvy59 28 (by decide)).trans ((hFvy54 28 (by decide)).trans ((hFvy52 28 (by decide)).trans ((hFvy47 28 (by decide)).trans ((hFvy45 28 (by decide)).trans (fn ((hFvy28 28 (by decide)).trans (fn rfl (by decide))) (by decide)))))))))))))))))))
            have hey224 : Fvy202 29 = F 29 := ((hFvy202 29 (by decide)).trans ((hFvy198 29 (by decide)).trans ((hFvy196 29 (by decide)).trans ((hFvy191 29 (by decide)).trans ((hFvy189 29 (by decide)).trans ((hFvy184 29 (by decide)).trans ((hFvy182 29 (by decide)).trans ((hFvy174 29 (by decide)).trans ((hFvy172 29 (by decide)).trans ((hFvy170 29 (by decide)).trans ((hFvy168 29 (by decide)).trans ((hFvy166 29 (by decide)).trans ((hFvy59 29 (by decide)).trans ((hFvy54 29 (by decide)).trans ((hFvy52 29 (by decide)).trans ((hFvy47 29 (by decide)).trans ((hFvy45 29 (by decide)).trans (fn ((hFvy28 29 (by decide)).trans (fn rfl (by decide))) (by decide)))))))))))))))))))
            have hKy225 : okF Fvy202 := by unfold okF; omega
            have hMy226 : okMr cs ad gvy202 i (x + 1) Fvy202 r := okMr.upd hM hcvy202 hKy225 (fun f a => hFy211 f (by omega) (by omega)) hgy210 (hA.mono (by omega)) (fun j a b => by
                by_cases e0 : j = i + 24
                · exact Or.inr ⟨24, _, e0, lsP.l (by decide), by rw [e0]; exact hgy204⟩
                exact Or.inl (by rw [hfvy202 _ (by omega)]; rw [hfvy198 _ (by omega) (by omega)]; rw [hfvy196 _ (by omega) (by omega)]; rw [hfvy191 _ (by omega) (by omega)]; rw [hfvy189 _ (by omega) (by omega)]; rw [hfvy184 _ (by omega) (by omega)]; rw [hfvy182 _ (by omega) (by omega)]; rw [hfvy174 _ (by omega) (by omega)]; rw [hfvy172 _ (by omega) (by omega)]; rw [hfvy170 _ (by omega) (by omega)]; rw [hfvy168 _ (by omega) (by omega)]; rw [hfvy166 _ (by omega) (by omega)]; rw [hfvy59 _ (by omega) (by omega)]; rw [hfvy54 _ (by omega) (by omega)]; rw [hfvy52 _ (by omega) (by omega)]; rw [hfvy47 _ (by omega) (by omega)]; rw [hfvy45 _ (by omega) (by omega)]; rw [egy32, va_up_ne _ _ (by omega)]; rw [hfvy28 _ (by omega)]; rw [egy25, va_up_ne _ _ (by omega)]))
            have h23 : Fvy202 23 = F 23 := ((hFvy202 23 (by decide)).trans ((hFvy198 23 (by decide)).trans ((hFvy196 23 (by decide)).trans ((hFvy191 23 (by decide)).trans ((hFvy189 23 (by decide)).trans ((hFvy184 23 (by decide)).trans ((hFvy182 23 (by decide)).trans ((hFvy174 23 (by decide)).trans ((hFvy172 23 (by decide)).trans ((hFvy170 23 (by decide)).trans ((hFvy168 23 (by decide)).trans ((hFvy166 23 (by decide)).trans ((hFvy59 23 (by decide)).trans ((hFvy54 23 (by decide)).trans ((hFvy52 23 (by decide)).trans ((hFvy47 23 (by decide)).trans ((hFvy45 23 (by decide)).trans (fn ((hFvy28 23 (by decide)).trans (fn rfl (by decide))) (by decide)))))))))))))))))))
            exact z_iret C hr hlk dX10_told_210 (by decide) (by decide) ⟨xy205, rfl, rfl, rfl, by omega, ⟨_, _, hMy226, by omega⟩, fun j j1 => by rw [hfvy202 _ (by omega)]; rw [hfvy198 _ (by omega) (by omega)]; rw [hfvy196 _ (by omega) (by omega)]; rw [hfvy191 _ (by omega) (by omega)]; rw [hfvy189 _ (by omega) (by omega)]; rw [hfvy184 _ (by omega) (by omega)]; rw [hfvy182 _ (by omega) (by omega)]; rw [hfvy174 _ (by omega) (by omega)]; rw [hfvy172 _ (by omega) (by omega)]; rw [hfvy170 _ (by omega) (by omega)]; rw [hfvy168 _ (by omega) (by omega)]; rw [hfvy166 _ (by omega) (by omega)]; rw [hfvy59 _ (by omega) (by omega)]; rw [hfvy54 _ (by omega) (by omega)]; rw [hfvy52 _ (by omega) (by omega)]; rw [hfvy47 _ (by omega) (by omega)]; rw [hfvy45 _ (by omega) (by omega)]; rw [egy32, va_up_ne _ _ (by omega)]; rw [hfvy28 _ (by omega)]; rw [egy25, va_up_ne _ _ (by omega)]⟩
          · refine z_if_eq (tgt := 209) C dX10_told_197 (by decide) (by omega) (fun _ => ?_) (fun h => absurd h (by omega))
            refine z_iconst (z := 0) C dX10_told_209 rfl ?_
            have hgy227 := (hfvy196 (i + 1) (ne_o (i := i) (c := 1) (d := 0) rfl) (ne_o (i := i) (c := 1) (d := 24) rfl)).trans hgy194
            have hgy228 := (hfvy198 (i + 1) (ne_o (i := i) (c := 1) (d := 0) rfl) (ne_o (i := i) (c := 1) (d := 24) rfl)).trans hgy227
            have hgy229 := (hfvy202 (i + 1) (ne_o (i := i) (c := 1) (d := 0) rfl)).trans hgy228
            have hFy230 : ∀ f, f ≠ 12 → f ≠ 51 → Fvy202 f = F f := fun f n12 n51 => ((hFvy202 f n12).trans ((hFvy198 f n51).trans ((hFvy196 f n51).trans ((hFvy191 f n51).trans ((hFvy189 f n51).trans ((hFvy184 f n51).trans ((hFvy182 f n51).trans ((hFvy174 f n51).trans ((hFvy172 f n51).trans ((hFvy170 f n51).trans ((hFvy168 f n51).trans ((hFvy166 f n51).trans ((hFvy59 f n51).trans ((hFvy54 f n51).trans ((hFvy52 f n51).trans ((hFvy47 f n51).trans ((hFvy45 f n51).trans ((uZ_n _ _ n51).trans ((hFvy28 f n12).trans ((uZ_n _ _ n12).trans rfl))))))))))))))))))))
            have hey231 : Fvy202 13 = F 13 := ((hFvy202 13 (by decide)).trans ((hFvy198 13 (by decide)).trans ((hFvy196 13 (by decide)).trans ((hFvy191 13 (by decide)).trans ((hFvy189 13 (by decide)).trans ((hFvy184 13 (by decide)).trans ((hFvy182 13 (by decide)).trans ((hFvy174 13 (by decide)).trans ((hFvy172 13 (by decide)).trans ((hFvy170 13 (by decide)).trans ((hFvy168 13 (by decide)).trans ((hFvy166 13 (by decide)).trans ((hFvy59 13 (by decide)).trans ((hFvy54 13 (by decide)).trans ((hFvy52 13 (by decide)).trans ((hFvy47 13 (by decide)).trans ((hFvy45 13 (by decide)).trans (fn ((hFvy28 13 (by decide)).trans (fn rfl (by decide))) (by decide)))))))))))))))))))
            have hey232 : Fvy202 14 = F 14 := ((hFvy202 14 (by decide)).trans ((hFvy198 14 (by decide)).trans ((hFvy196 14 (by decide)).trans ((hFvy191 14 (by decide)).trans ((hFvy189 14 (by decide)).trans ((hFvy184 14 (by decide)).trans ((hFvy182 14 (by decide)).trans ((hFvy174 14 (by decide)).trans ((hFvy172 14 (by decide)).trans ((hFvy170 14 (by decide)).trans ((hFvy168 14 (by decide)).trans ((hFvy166 14 (by decide)).trans ((hFvy59 14 (by decide)).trans ((hFvy54 14 (by decide)).trans ((hFvy52 14 (by decide)).trans ((hFvy47 14 (by decide)).trans ((hFvy45 14 (by decide)).trans (fn ((hFvy28 14 (by decide)).trans (fn rfl (by decide))) (by decide)))))))))))))))))))
            have hey233 : Fvy202 15 = F 15 := ((hFvy202 15 (by decide)).trans ((hFvy198 15 (by decide)).trans ((hFvy196 15 (by decide)).trans ((hFvy191 15 (by decide)).trans ((hFvy189 15 (by decide)).trans ((hFvy184 15 (by decide)).trans ((hFvy182 15 (by decide)).trans ((hFvy174 15 (by decide)).trans ((hFvy172 15 (by decide)).trans ((hFvy170 15 (by decide)).trans ((hFvy168 15 (by decide)).trans ((hFvy166 15 (by decide)).trans ((hFvy59 15 (by decide)).trans ((hFvy54 15 (by decide)).trans ((hFvy52 15 (by decide)).trans ((hFvy47 15 (by decide)).trans ((hFvy45 15 (by decide)).trans (fn ((hFvy28 15 (by decide)).trans (fn rfl (by decide))) (by decide)))))))))))))))))))
            have hey234 : Fvy202 16 = F 16 := ((hFvy202 16 (by decide)).trans ((hFvy198 16 (by decide)).trans ((hFvy196 16 (by decide)).trans ((hFvy191 16 (by decide)).trans ((hFvy189 16 (by decide)).trans ((hFvy184 16 (by decide)).trans ((hFvy182 16 (by decide)).trans ((hFvy174 16 (by decide)).trans ((hFvy172 16 (by decide)).trans ((hFvy170 16 (by decide)).trans ((hFvy168 16 (by decide)).trans ((hFvy166 16 (by decide)).trans ((hFvy59 16 (by decide)).trans ((hFvy54 16 (by decide)).trans ((hFvy52 16 (by decide)).trans ((hFvy47 16 (by decide)).trans ((hFvy45 16 (by decide)).trans (fn ((hFvy28 16 (by decide)).trans (fn rfl (by decide))) (by decide)))))))))))))))))))
            have hey235 : Fvy202 17 = F 17 := ((hFvy202 17 (by decide)).trans ((hFvy198 17 (by decide)).trans ((hFvy196 17 (by decide)).trans ((hFvy191 17 (by decide)).trans ((hFvy189 17 (by decide)).trans ((hFvy184 17 (by decide)).trans ((hFvy182 17 (by decide)).trans ((hFvy174 17 (by decide)).trans ((hFvy172 17 (by decide)).trans ((hFvy170 17 (by decide)).trans ((hFvy168 17 (by decide)).trans ((hFvy166 17 (by decide)).trans ((hFvy59 17 (by decide)).trans ((hFvy54 17 (by decide)).trans ((hFvy52 17 (by decide)).trans ((hFvy47 17 (by decide)).trans ((hFvy45 17 (by decide)).trans (fn ((hFvy28 17 (by decide)).trans (fn rfl (by decide))) (by decide)))))))))))))))))))
            have hey236 : Fvy202 18 = F 18 := ((hFvy202 18 (by decide)).trans ((hFvy198 18 (by decide)).trans ((hFvy196 18 (by decide)).trans ((hFvy191 18 (by decide)).trans ((hFvy189 18 (by decide)).trans ((hFvy184 18 (by decide)).trans ((hFvy182 18 (by decide)).trans ((hFvy174 18 (by decide)).trans ((hFvy172 18 (by decide)).trans ((hFvy170 18 (by decide)).trans ((hFvy168 18 (by decide)).trans ((hFvy166 18 (by decide)).trans ((hFvy59 18 (by decide)).trans ((hFvy54 18 (by decide)).trans ((hFvy52 18 (by decide)).trans ((hFvy47 18 (by decide)).trans ((hFvy45 18 (by decide)).trans (fn ((hFvy28 18 (by decide)).trans (fn rfl (by decide))) (by decide)))))))))))))))))))
            have hey237 : Fvy202 19 = F 19 := ((hFvy202 19 (by decide)).trans ((hFvy198 19 (by decide)).trans ((hFvy196 19 (by decide)).trans ((hFvy191 19 (by decide)).trans ((hFvy189 19 (by decide)).trans ((hFvy184 19 (by decide)).trans ((hFvy182 19 (by decide)).trans ((hFvy174 19 (by decide)).trans ((hFvy172 19 (by decide)).trans ((hFvy170 19 (by decide)).trans ((hFvy168 19 (by decide)).trans ((hFvy166 19 (by decide)).trans ((hFvy59 19 (by decide)).trans ((hFvy54 19 (by decide)).trans ((hFvy52 19 (by decide)).trans ((hFvy47 19 (by decide)).trans ((hFvy45 19 (by decide)).trans (fn ((hFvy28 19 (by decide)).trans (fn rfl (by decide))) (by decide)))))))))))))))))))
            have hey238 : Fvy202 20 = F 20 := ((hFvy202 20 (by decide)).trans ((hFvy198 20 (by decide)).trans ((hFvy196 20 (by decide)).trans ((hFvy191 20 (by decide)).trans ((hFvy189 20 (by decide)).trans ((hFvy184 20 (by decide)).trans ((hFvy182 20 (by decide)).trans ((hFvy174 20 (by decide)).trans ((hFvy172 20 (by decide)).trans ((hFvy170 20 (by decide)).trans ((hFvy168 20 (by decide)).trans ((hFvy166 20 (by decide)).trans ((hFvy59 20 (by decide)).trans ((hFvy54 20 (by decide)).trans ((hFvy52 20 (by decide)).trans ((hFvy47 20 (by decide)).trans ((hFvy45 20 (by decide)).trans (fn ((hFvy28 20 (by decide)).trans (fn rfl (by decide))) (by decide)))))))))))))))))))
            have hey239 : Fvy202 23 = F 23 := ((hFvy202 23 (by decide)).trans ((hFvy198 23 (by decide)).trans ((hFvy196 23 (by decide)).trans ((hFvy191 23 (by decide)).trans ((hFvy189 23 (by decide)).trans ((hFvy184 23 (by decide)).trans ((hFvy182 23 (by decide)).trans ((hFvy174 23 (by decide)).trans ((hFvy172 23 (by decide)).trans ((hFvy170 23 (by decide)).trans ((hFvy168 23 (by decide)).trans ((hFvy166 23 (by decide)).trans ((hFvy59 23 (by decide)).trans ((hFvy54 23 (by decide)).trans ((hFvy52 23 (by decide)).trans ((hFvy47 23 (by decide)).trans ((hFvy45 23 (by decide)).trans (fn ((hFvy28 23 (by decide)).trans (fn rfl (by decide))) (by decide)))))))))))))))))))
            have hey240 : Fvy202 25 = F 25 := ((hFvy202 25 (by decide)).trans ((hFvy198 25 (by decide)).trans ((hFvy196 25 (by decide)).trans ((hFvy191 25 (by decide)).trans ((hFvy189 25 (by decide)).trans ((hFvy184 25 (by decide)).trans ((hFvy182 25 (by decide)).trans ((hFvy174 25 (by decide)).trans ((hFvy172 25 (by decide)).trans ((hFvy170 25 (by decide)).trans ((hFvy168 25 (by decide)).trans ((hFvy166 25 (by decide)).trans ((hFvy59 25 (by decide)).trans ((hFvy54 25 (by decide)).trans ((hFvy52 25 (by decide)).trans ((hFvy47 25 (by decide)).trans ((hFvy45 25 (by decide)).trans (fn ((hFvy28 25 (by decide)).trans (fn rfl (by decide))) (by decide)))))))))))))))))))
            have hey241 : Fvy202 27 = F 27 := ((hFvy202 27 (by decide)).trans ((hFvy198 27 (by decide)).trans ((hFvy196 27 (by decide)).trans ((hFvy191 27 (by decide)).trans ((hFvy189 27 (by decide)).trans ((hFvy184 27 (by decide)).trans ((hFvy182 27 (by decide)).trans ((hFvy174 27 (by decide)).trans ((hFvy172 27 (by decide)).trans ((hFvy170 27 (by decide)).trans ((hFvy168 27 (by decide)).trans ((hFvy166 27 (by decide)).trans ((hFvy59 27 (by decide)).trans ((hFvy54 27 (by decide)).trans ((hFvy52 27 (by decide)).trans ((hFvy47 27 (by decide)).trans ((hFvy45 27 (by decide)).trans (fn ((hFvy28 27 (by decide)).trans (fn rfl (by decide))) (by decide)))))))))))))))))))
            have hey242 : Fvy202 28 = F 28 := ((hFvy202 28 (by decide)).trans ((hFvy198 28 (by decide)).trans ((hFvy196 28 (by decide)).trans ((hFvy191 28 (by decide)).trans ((hFvy189 28 (by decide)).trans ((hFvy184 28 (by decide)).trans ((hFvy182 28 (by decide)).trans ((hFvy174 28 (by decide)).trans ((hFvy172 28 (by decide)).trans ((hFvy170 28 (by decide)).trans ((hFvy168 28 (by decide)).trans ((hFvy166 28 (by decide)).trans ((hFvy59 28 (by decide)).trans ((hFvy54 28 (by decide)).trans ((hFvy52 28 (by decide)).trans ((hFvy47 28 (by decide)).trans ((hFvy45 28 (by decide)).trans (fn ((hFvy28 28 (by decide)).trans (fn rfl (by decide))) (by decide)))))))))))))))))))
            have hey243 : Fvy202 29 = F 29 := ((hFvy202 29 (by decide)).trans ((hFvy198 29 (by decide)).trans ((hFvy196 29 (by decide)).trans ((hFvy191 29 (by decide)).trans ((hFvy189 29 (by decide)).trans ((hFvy184 29 (by decide)).trans ((hFvy182 29 (by decide)).trans ((hFvy174 29 (by decide)).trans ((hFvy172 29 (by decide)).trans ((hFvy170 29 (by decide)).trans ((hFvy168 29 (by decide)).trans ((hFvy166 29 (by decide)).trans ((hFvy59 29 (by decide)).trans ((hFvy54 29 (by decide)).trans ((hFvy52 29 (by decide)).trans ((hFvy47 29 (by decide)).trans ((hFvy45 29 (by decide)).trans (fn ((hFvy28 29 (by decide)).trans (fn rfl (by decide))) (by decide)))))))))))))))))))
            have hKy244 : okF Fvy202 := by unfold okF; omega
            have hgy246 := (hfvy202 (i + 24) (ne_o (i := i) (c := 24) (d := 0) rfl)).trans htvy198
            have hMy245 : okMr cs ad gvy202 i (x + 1) Fvy202 r := okMr.upd hM hcvy202 hKy244 (fun f a => hFy230 f (by omega) (by omega)) hgy229 (hA.mono (by omega)) (fun j a b => by
                by_cases e0 : j = i + 24
                · exact Or.inr ⟨24, _, e0, lsP.l (by decide), by rw [e0]; exact hgy246⟩
                exact Or.inl (by rw [hfvy202 _ (by omega)]; rw [hfvy198 _ (by omega) (by omega)]; rw [hfvy196 _ (by omega) (by omega)]; rw [hfvy191 _ (by omega) (by omega)]; rw [hfvy189 _ (by omega) (by omega)]; rw [hfvy184 _ (by omega) (by omega)]; rw [hfvy182 _ (by omega) (by omega)]; rw [hfvy174 _ (by omega) (by omega)]; rw [hfvy172 _ (by omega) (by omega)]; rw [hfvy170 _ (by omega) (by omega)]; rw [hfvy168 _ (by omega) (by omega)]; rw [hfvy166 _ (by omega) (by omega)]; rw [hfvy59 _ (by omega) (by omega)]; rw [hfvy54 _ (by omega) (by omega)]; rw [hfvy52 _ (by omega) (by omega)]; rw [hfvy47 _ (by omega) (by omega)]; rw [hfvy45 _ (by omega) (by omega)]; rw [egy32, va_up_ne _ _ (by omega)]; rw [hfvy28 _ (by omega)]; rw [egy25, va_up_ne _ _ (by omega)]))
            have h23 : Fvy202 23 = F 23 := ((hFvy202 23 (by decide)).trans ((hFvy198 23 (by decide)).trans ((hFvy196 23 (by decide)).trans ((hFvy191 23 (by decide)).trans ((hFvy189 23 (by decide)).trans ((hFvy184 23 (by decide)).trans ((hFvy182 23 (by decide)).trans ((hFvy174 23 (by decide)).trans ((hFvy172 23 (by decide)).trans ((hFvy170 23 (by decide)).trans ((hFvy168 23 (by decide)).trans ((hFvy166 23 (by decide)).trans ((hFvy59 23 (by decide)).trans ((hFvy54 23 (by decide)).trans ((hFvy52 23 (by decide)).trans ((hFvy47 23 (by decide)).trans ((hFvy45 23 (by decide)).trans (fn ((hFvy28 23 (by decide)).trans (fn rfl (by decide))) (by decide)))))))))))))))))))
            exact z_iret C hr hlk dX10_told_210 (by decide) (by decide) ⟨0, rfl, rfl, rfl, by omega, ⟨_, _, hMy245, by omega⟩, fun j j1 => by rw [hfvy202 _ (by omega)]; rw [hfvy198 _ (by omega) (by omega)]; rw [hfvy196 _ (by omega) (by omega)]; rw [hfvy191 _ (by omega) (by omega)]; rw [hfvy189 _ (by omega) (by omega)]; rw [hfvy184 _ (by omega) (by omega)]; rw [hfvy182 _ (by omega) (by omega)]; rw [hfvy174 _ (by omega) (by omega)]; rw [hfvy172 _ (by omega) (by omega)]; rw [hfvy170 _ (by omega) (by omega)]; rw [hfvy168 _ (by omega) (by omega)]; rw [hfvy166 _ (by omega) (by omega)]; rw [hfvy59 _ (by omega) (by omega)]; rw [hfvy54 _ (by omega) (by omega)]; rw [hfvy52 _ (by omega) (by omega)]; rw [hfvy47 _ (by omega) (by omega)]; rw [hfvy45 _ (by omega) (by omega)]; rw [egy32, va_up_ne _ _ (by omega)]; rw [hfvy28 _ (by omega)]; rw [egy25, va_up_ne _ _ (by omega)]⟩
        · refine z_iconst (z := 1) C dX10_told_193 rfl ?_
          have hey248 : Fvy198 12 = Fvy28 12 := ((hFvy198 12 (by decide)).trans ((hFvy196 12 (by decide)).trans ((hFvy191 12 (by decide)).trans ((hFvy189 12 (by decide)).trans ((hFvy184 12 (by decide)).trans ((hFvy182 12 (by decide)).trans ((hFvy174 12 (by decide)).trans ((hFvy172 12 (by decide)).trans ((hFvy170 12 (by decide)).trans ((hFvy168 12 (by decide)).trans ((hFvy166 12 (by decide)).trans ((hFvy59 12 (by decide)).trans ((hFvy54 12 (by decide)).trans ((hFvy52 12 (by decide)).trans ((hFvy47 12 (by decide)).trans ((hFvy45 12 (by decide)).trans (fn rfl (by decide))))))))))))))))))
          refine z_cV (As := [.int (zI (0)), .int (zI (1))]) (rest := []) (ci := 12) C (c_X10_right l D A cs tt N ad _ i hN _ hcvy198 (by omega) (0) (by omega) (1) (by omega)) (by omega) hay1 hcvy198 rfl rfl mv_yX10_right q_1648 hd_yX10_right (by decide) (Nat.le_of_ble_eq_true rfl) (by decide) dX10_told_194 rfl (kI0 fun vy247 gvy247 hvy247 => ?_)
          obtain ⟨hrvy247, ⟨Fvy247, hcvy247, htvy247, hFvy247⟩, hfvy247⟩ := hvy247
          obtain rfl : vy247 = 0 := by omega
          refine z_if_eq (tgt := 209) C dX10_told_197 (by decide) (by omega) (fun _ => ?_) (fun h => absurd h (by omega))
          refine z_iconst (z := 0) C dX10_told_209 rfl ?_
          have hgy249 := (hfvy196 (i + 1) (ne_o (i := i) (c := 1) (d := 0) rfl) (ne_o (i := i) (c := 1) (d := 24) rfl)).trans hgy194
          have hgy250 := (hfvy198 (i + 1) (ne_o (i := i) (c := 1) (d := 0) rfl) (ne_o (i := i) (c := 1) (d := 24) rfl)).trans hgy249
          have hgy251 := (hfvy247 (i + 1) (ne_o (i := i) (c := 1) (d := 0) rfl)).trans hgy250
          have hFy252 : ∀ f, f ≠ 12 → f ≠ 51 → Fvy247 f = F f := fun f n12 n51 => ((hFvy247 f n12).trans ((hFvy198 f n51).trans ((hFvy196 f n51).trans ((hFvy191 f n51).trans ((hFvy189 f n51).trans ((hFvy184 f n51).trans ((hFvy182 f n51).trans ((hFvy174 f n51).trans ((hFvy172 f n51).trans ((hFvy170 f n51).trans ((hFvy168 f n51).trans ((hFvy166 f n51).trans ((hFvy59 f n51).trans ((hFvy54 f n51).trans ((hFvy52 f n51).trans ((hFvy47 f n51).trans ((hFvy45 f n51).trans ((uZ_n _ _ n51).trans ((hFvy28 f n12).trans ((uZ_n _ _ n12).trans rfl))))))))))))))))))))
          have hey253 : Fvy247 13 = F 13 := ((hFvy247 13 (by decide)).trans ((hFvy198 13 (by decide)).trans ((hFvy196 13 (by decide)).trans ((hFvy191 13 (by decide)).trans ((hFvy189 13 (by decide)).trans ((hFvy184 13 (by decide)).trans ((hFvy182 13 (by decide)).trans ((hFvy174 13 (by decide)).trans ((hFvy172 13 (by decide)).trans ((hFvy170 13 (by decide)).trans ((hFvy168 13 (by decide)).trans ((hFvy166 13 (by decide)).trans ((hFvy59 13 (by decide)).trans ((hFvy54 13 (by decide)).trans ((hFvy52 13 (by decide)).trans ((hFvy47 13 (by decide)).trans ((hFvy45 13 (by decide)).trans (fn ((hFvy28 13 (by decide)).trans (fn rfl (by decide))) (by decide)))))))))))))))))))
          have hey254 : Fvy247 14 = F 14 := ((hFvy247 14 (by decide)).trans ((hFvy198 14 (by decide)).trans ((hFvy196 14 (by decide)).trans ((hFvy191 14 (by decide)).trans ((hFvy189 14 (by decide)).trans ((hFvy184 14 (by decide)).trans ((hFvy182 14 (by decide)).trans ((hFvy174 14 (by decide)).trans ((hFvy172 14 (by decide)).trans ((hFvy170 14 (by decide)).trans ((hFvy168 14 (by decide)).trans ((hFvy166 14 (by decide)).trans ((hFvy59 14 (by decide)).trans ((hFvy54 14 (by decide)).trans ((hFvy52 14 (by decide)).trans ((hFvy47 14 (by decide)).trans ((hFvy45 14 (by decide)).trans (fn ((hFvy28 14 (by decide)).trans (fn rfl (by decide))) (by decide)))))))))))))))))))
          have hey255 : Fvy247 15 = F 15 := ((hFvy247 15 (by decide)).trans ((hFvy198 15 (by decide)).trans ((hFvy196 15 (by decide)).trans ((hFvy191 15 (by decide)).trans ((hFvy189 15 (by decide)).trans ((hFvy184 15 (by decide)).trans ((hFvy182 15 (by decide)).trans ((hFvy174 15 (by decide)).trans ((hFvy172 15 (by decide)).trans ((hFvy170 15 (by decide)).trans ((hFvy168 15 (by decide)).trans ((hFvy166 15 (by decide)).trans ((hFvy59 15 (by decide)).trans ((hFvy54 15 (by decide)).trans ((hFvy52 15 (by decide)).trans ((hFvy47 15 (by decide)).trans ((hFvy45 15 (by decide)).trans (fn ((hFvy28 15 (by decide)).trans (fn rfl (by decide))) (by decide)))))))))))))))))))
          have hey256 : Fvy247 16 = F 16 := ((hFvy247 16 (by decide)).trans ((hFvy198 16 (by decide)).trans ((hFvy196 16 (by decide)).trans ((hFvy191 16 (by decide)).trans ((hFvy189 16 (by decide)).trans ((hFvy184 16 (by decide)).trans ((hFvy182 16 (by decide)).trans ((hFvy174 16 (by decide)).trans ((hFvy172 16 (by decide)).trans ((hFvy170 16 (by decide)).trans ((hFvy168 16 (by decide)).trans ((hFvy166 16 (by decide)).trans ((hFvy59 16 (by decide)).trans ((hFvy54 16 (by decide)).trans ((hFvy52 16 (by decide)).trans ((hFvy47 16 (by decide)).trans ((hFvy45 16 (by decide)).trans (fn ((hFvy28 16 (by decide)).trans (fn rfl (by decide))) (by decide)))))))))))))))))))
          have hey257 : Fvy247 17 = F 17 := ((hFvy247 17 (by decide)).trans ((hFvy198 17 (by decide)).trans ((hFvy196 17 (by decide)).trans ((hFvy191 17 (by decide)).trans ((hFvy189 17 (by decide)).trans ((hFvy184 17 (by decide)).trans ((hFvy182 17 (by decide)).trans ((hFvy174 17 (by decide)).trans ((hFvy172 17 (by decide)).trans ((hFvy170 17 (by decide)).trans ((hFvy168 17 (by decide)).trans ((hFvy166 17 (by decide)).trans ((hFvy59 17 (by decide)).trans ((hFvy54 17 (by decide)).trans ((hFvy52 17 (by decide)).trans ((hFvy47 17 (by decide)).trans ((hFvy45 17 (by decide)).trans (fn ((hFvy28 17 (by decide)).trans (fn rfl (by decide))) (by decide)))))))))))))))))))
          have hey258 : Fvy247 18 = F 18 := ((hFvy247 18 (by decide)).trans ((hFvy198 18 (by decide)).trans ((hFvy196 18 (by decide)).trans ((hFvy191 18 (by decide)).trans ((hFvy189 18 (by decide)).trans ((hFvy184 18 (by decide)).trans ((hFvy182 18 (by decide)).trans ((hFvy174 18 (by decide)).trans ((hFvy172 18 (by decide)).trans ((hFvy170 18 (by decide)).trans ((hFvy168 18 (by decide)).trans ((hFvy166 18 (by decide)).trans ((hFvy59 18 (by decide)).trans ((hFvy54 18 (by decide)).trans ((hFvy52 18 (by decide)).trans ((hFvy47 18 (by decide)).trans ((hFvy45 18 (by decide)).trans (fn ((hFvy28 18 (by decide)).trans (fn rfl (by decide))) (by decide)))))))))))))))))))
          have hey259 : Fvy247 19 = F 19 := ((hFvy247 19 (by decide)).trans ((hFvy198 19 (by decide)).trans ((hFvy196 19 (by decide)).trans ((hFvy191 19 (by decide)).trans ((hFvy189 19 (by decide)).trans ((hFvy184 19 (by decide)).trans ((hFvy182 19 (by decide)).trans ((hFvy174 19 (by decide)).trans ((hFvy172 19 (by decide)).trans ((hFvy170 19 (by decide)).trans ((hFvy168 19 (by decide)).trans ((hFvy166 19 (by decide)).trans ((hFvy59 19 (by decide)).trans ((hFvy54 19 (by decide)).trans ((hFvy52 19 (by decide)).trans ((hFvy47 19 (by decide)).trans ((hFvy45 19 (by decide)).trans (fn ((hFvy28 19 (by decide)).trans (fn rfl (by decide))) (by decide)))))))))))))))))))
          have hey260 : Fvy247 20 = F 20 := ((hFvy247 20 (by decide)).trans ((hFvy198 20 (by decide)).trans ((hFvy196 20 (by decide)).trans ((hFvy191 20 (by decide)).trans ((hFvy189 20 (by decide)).trans ((hFvy184 20 (by decide)).trans ((hFvy182 20 (by decide)).trans ((hFvy174 20 (by decide)).trans ((hFvy172 20 (by decide)).trans ((hFvy170 20 (by decide)).trans ((hFvy168 20 (by decide)).trans ((hFvy166 20 (by decide)).trans ((hFvy59 20 (by decide)).trans ((hFvy54 20 (by decide)).trans ((hFvy52 20 (by decide)).trans ((hFvy47 20 (by decide)).trans ((hFvy45 20 (by decide)).trans (fn ((hFvy28 20 (by decide)).trans (fn rfl (by decide))) (by decide)))))))))))))))))))
          have hey261 : Fvy247 23 = F 23 := ((hFvy247 23 (by decide)).trans ((hFvy198 23 (by decide)).trans ((hFvy196 23 (by decide)).trans ((hFvy191 23 (by decide)).trans ((hFvy189 23 (by decide)).trans ((hFvy184 23 (by decide)).trans ((hFvy182 23 (by decide)).trans ((hFvy174 23 (by decide)).trans ((hFvy172 23 (by decide)).trans ((hFvy170 23 (by decide)).trans ((hFvy168 23 (by decide)).trans ((hFvy166 23 (by decide)).trans ((hFvy59 23 (by decide)).trans ((hFvy54 23 (by decide)).trans ((hFvy52 23 (by decide)).trans ((hFvy47 23 (by decide)).trans ((hFvy45 23 (by decide)).trans (fn ((hFvy28 23 (by decide)).trans (fn rfl (by decide))) (by decide)))))))))))))))))))
          have hey262 : Fvy247 25 = F 25 := ((hFvy247 25 (by decide)).trans ((hFvy198 25 (by decide)).trans ((hFvy196 25 (by decide)).trans ((hFvy191 25 (by decide)).trans ((hFvy189 25 (by decide)).trans ((hFvy184 25 (by decide)).trans ((hFvy182 25 (by decide)).trans ((hFvy174 25 (by decide)).trans ((hFvy172 25 (by decide)).trans ((hFvy170 25 (by decide)).trans ((hFvy168 25 (by decide)).trans ((hFvy166 25 (by decide)).trans ((hFvy59 25 (by decide)).trans ((hFvy54 25 (by decide)).trans ((hFvy52 25 (by decide)).trans ((hFvy47 25 (by decide)).trans ((hFvy45 25 (by decide)).trans (fn ((hFvy28 25 (by decide)).trans (fn rfl (by decide))) (by decide)))))))))))))))))))
          have hey263 : Fvy247 27 = F 27 := ((hFvy247 27 (by decide)).trans ((hFvy198 27 (by decide)).trans ((hFvy196 27 (by decide)).trans ((hFvy191 27 (by decide)).trans ((hFvy189 27 (by decide)).trans ((hFvy184 27 (by decide)).trans ((hFvy182 27 (by decide)).trans ((hFvy174 27 (by decide)).trans ((hFvy172 27 (by decide)).trans ((hFvy170 27 (by decide)).trans ((hFvy168 27 (by decide)).trans ((hFvy166 27 (by decide)).trans ((hFvy59 27 (by decide)).trans ((hFvy54 27 (by decide)).trans ((hFvy52 27 (by decide)).trans ((hFvy47 27 (by decide)).trans ((hFvy45 27 (by decide)).trans (fn ((hFvy28 27 (by decide)).trans (fn rfl (by decide))) (by decide)))))))))))))))))))
          have hey264 : Fvy247 28 = F 28 := ((hFvy247 28 (by decide)).trans ((hFvy198 28 (by decide)).trans ((hFvy196 28 (by decide)).trans ((hFvy191 28 (by decide)).trans ((hFvy189 28 (by decide)).trans ((hFvy184 28 (by decide)).trans ((hFvy182 28 (by decide)).trans ((hFvy174 28 (by decide)).trans ((hFvy172 28 (by decide)).trans ((hFvy170 28 (by decide)).trans ((hFvy168 28 (by decide)).trans ((hFvy166 28 (by decide)).trans ((hFvy59 28 (by decide)).trans ((hFvy54 28 (by decide)).trans ((hFvy52 28 (by decide)).trans ((hFvy47 28 (by decide)).trans ((hFvy45 28 (by decide)).trans (fn ((hFvy28 28 (by decide)).trans (fn rfl (by decide))) (by decide)))))))))))))))))))
          have hey265 : Fvy247 29 = F 29 := ((hFvy247 29 (by decide)).trans ((hFvy198 29 (by decide)).trans ((hFvy196 29 (by decide)).trans ((hFvy191 29 (by decide)).trans ((hFvy189 29 (by decide)).trans ((hFvy184 29 (by decide)).trans ((hFvy182 29 (by decide)).trans ((hFvy174 29 (by decide)).trans ((hFvy172 29 (by decide)).trans ((hFvy170 29 (by decide)).trans ((hFvy168 29 (by decide)).trans ((hFvy166 29 (by decide)).trans ((hFvy59 29 (by decide)).trans ((hFvy54 29 (by decide)).trans ((hFvy52 29 (by decide)).trans ((hFvy47 29 (by decide)).trans ((hFvy45 29 (by decide)).trans (fn ((hFvy28 29 (by decide)).trans (fn rfl (by decide))) (by decide)))))))))))))))))))
          have hKy266 : okF Fvy247 := by unfold okF; omega
          have hgy268 := (hfvy247 (i + 24) (ne_o (i := i) (c := 24) (d := 0) rfl)).trans htvy198
          have hMy267 : okMr cs ad gvy247 i (x + 1) Fvy247 r := okMr.upd hM hcvy247 hKy266 (fun f a => hFy252 f (by omega) (by omega)) hgy251 (hA.mono (by omega)) (fun j a b => by
              by_cases e0 : j = i + 24
              · exact Or.inr ⟨24, _, e0, lsP.l (by decide), by rw [e0]; exact hgy268⟩
              exact Or.inl (by rw [hfvy247 _ (by omega)]; rw [hfvy198 _ (by omega) (by omega)]; rw [hfvy196 _ (by omega) (by omega)]; rw [hfvy191 _ (by omega) (by omega)]; rw [hfvy189 _ (by omega) (by omega)]; rw [hfvy184 _ (by omega) (by omega)]; rw [hfvy182 _ (by omega) (by omega)]; rw [hfvy174 _ (by omega) (by omega)]; rw [hfvy172 _ (by omega) (by omega)]; rw [hfvy170 _ (by omega) (by omega)]; rw [hfvy168 _ (by omega) (by omega)]; rw [hfvy166 _ (by omega) (by omega)]; rw [hfvy59 _ (by omega) (by omega)]; rw [hfvy54 _ (by omega) (by omega)]; rw [hfvy52 _ (by omega) (by omega)]; rw [hfvy47 _ (by omega) (by omega)]; rw [hfvy45 _ (by omega) (by omega)]; rw [egy32, va_up_ne _ _ (by omega)]; rw [hfvy28 _ (by omega)]; rw [egy25, va_up_ne _ _ (by omega)]))
          have h23 : Fvy247 23 = F 23 := ((hFvy247 23 (by decide)).trans ((hFvy198 23 (by decide)).trans ((hFvy196 23 (by decide)).trans ((hFvy191 23 (by decide)).trans ((hFvy189 23 (by decide)).trans ((hFvy184 23 (by decide)).trans ((hFvy182 23 (by decide)).trans ((hFvy174 23 (by decide)).trans ((hFvy172 23 (by decide)).trans ((hFvy170 23 (by decide)).trans ((hFvy168 23 (by decide)).trans ((hFvy166 23 (by decide)).trans ((hFvy59 23 (by decide)).trans ((hFvy54 23 (by decide)).trans ((hFvy52 23 (by decide)).trans ((hFvy47 23 (by decide)).trans ((hFvy45 23 (by decide)).trans (fn ((hFvy28 23 (by decide)).trans (fn rfl (by decide))) (by decide)))))))))))))))))))
          exact z_iret C hr hlk dX10_told_210 (by decide) (by decide) ⟨0, rfl, rfl, rfl, by omega, ⟨_, _, hMy267, by omega⟩, fun j j1 => by rw [hfvy247 _ (by omega)]; rw [hfvy198 _ (by omega) (by omega)]; rw [hfvy196 _ (by omega) (by omega)]; rw [hfvy191 _ (by omega) (by omega)]; rw [hfvy189 _ (by omega) (by omega)]; rw [hfvy184 _ (by omega) (by omega)]; rw [hfvy182 _ (by omega) (by omega)]; rw [hfvy174 _ (by omega) (by omega)]; rw [hfvy172 _ (by omega) (by omega)]; rw [hfvy170 _ (by omega) (by omega)]; rw [hfvy168 _ (by omega) (by omega)]; rw [hfvy166 _ (by omega) (by omega)]; rw [hfvy59 _ (by omega) (by omega)]; rw [hfvy54 _ (by omega) (by omega)]; rw [hfvy52 _ (by omega) (by omega)]; rw [hfvy47 _ (by omega) (by omega)]; rw [hfvy45 _ (by omega) (by omega)]; rw [egy32, va_up_ne _ _ (by omega)]; rw [hfvy28 _ (by omega)]; rw [egy25, va_up_ne _ _ (by omega)]⟩
      · refine z_aload_n C 0 dX10_told_176 rfl ?_
        refine z_get (v := .int (zI (Fvy196 51 + 1))) C (by omega) hay1 hcvy198 rfl inA_X10 51 (by decide) q_1510 rfl (fv (F := Fvy198) (f := 51) hqvy198) dX10_told_177 ?_
        have hgy269 := (hfvy196 (i + 1) (ne_o (i := i) (c := 1) (d := 0) rfl) (ne_o (i := i) (c := 1) (d := 24) rfl)).trans hgy194
        have hgy270 := (hfvy198 (i + 1) (ne_o (i := i) (c := 1) (d := 0) rfl) (ne_o (i := i) (c := 1) (d := 24) rfl)).trans hgy269
        have hFy271 : ∀ f, f ≠ 12 → f ≠ 51 → Fvy198 f = F f := fun f n12 n51 => ((hFvy198 f n51).trans ((hFvy196 f n51).trans ((hFvy191 f n51).trans ((hFvy189 f n51).trans ((hFvy184 f n51).trans ((hFvy182 f n51).trans ((hFvy174 f n51).trans ((hFvy172 f n51).trans ((hFvy170 f n51).trans ((hFvy168 f n51).trans ((hFvy166 f n51).trans ((hFvy59 f n51).trans ((hFvy54 f n51).trans ((hFvy52 f n51).trans ((hFvy47 f n51).trans ((hFvy45 f n51).trans ((uZ_n _ _ n51).trans ((hFvy28 f n12).trans ((uZ_n _ _ n12).trans rfl)))))))))))))))))))
        have hey272 : Fvy198 13 = F 13 := ((hFvy198 13 (by decide)).trans ((hFvy196 13 (by decide)).trans ((hFvy191 13 (by decide)).trans ((hFvy189 13 (by decide)).trans ((hFvy184 13 (by decide)).trans ((hFvy182 13 (by decide)).trans ((hFvy174 13 (by decide)).trans ((hFvy172 13 (by decide)).trans ((hFvy170 13 (by decide)).trans ((hFvy168 13 (by decide)).trans ((hFvy166 13 (by decide)).trans ((hFvy59 13 (by decide)).trans ((hFvy54 13 (by decide)).trans ((hFvy52 13 (by decide)).trans ((hFvy47 13 (by decide)).trans ((hFvy45 13 (by decide)).trans (fn ((hFvy28 13 (by decide)).trans (fn rfl (by decide))) (by decide))))))))))))))))))
        have hey273 : Fvy198 14 = F 14 := ((hFvy198 14 (by decide)).trans ((hFvy196 14 (by decide)).trans ((hFvy191 14 (by decide)).trans ((hFvy189 14 (by decide)).trans ((hFvy184 14 (by decide)).trans ((hFvy182 14 (by decide)).trans ((hFvy174 14 (by decide)).trans ((hFvy172 14 (by decide)).trans ((hFvy170 14 (by decide)).trans ((hFvy168 14 (by decide)).trans ((hFvy166 14 (by decide)).trans ((hFvy59 14 (by decide)).trans ((hFvy54 14 (by decide)).trans ((hFvy52 14 (by decide)).trans ((hFvy47 14 (by decide)).trans ((hFvy45 14 (by decide)).trans (fn ((hFvy28 14 (by decide)).trans (fn rfl (by decide))) (by decide))))))))))))))))))
        have hey274 : Fvy198 15 = F 15 := ((hFvy198 15 (by decide)).trans ((hFvy196 15 (by decide)).trans ((hFvy191 15 (by decide)).trans ((hFvy189 15 (by decide)).trans ((hFvy184 15 (by decide)).trans ((hFvy182 15 (by decide)).trans ((hFvy174 15 (by decide)).trans ((hFvy172 15 (by decide)).trans ((hFvy170 15 (by decide)).trans ((hFvy168 15 (by decide)).trans ((hFvy166 15 (by decide)).trans ((hFvy59 15 (by decide)).trans ((hFvy54 15 (by decide)).trans ((hFvy52 15 (by decide)).trans ((hFvy47 15 (by decide)).trans ((hFvy45 15 (by decide)).trans (fn ((hFvy28 15 (by decide)).trans (fn rfl (by decide))) (by decide))))))))))))))))))
        have hey275 : Fvy198 16 = F 16 := ((hFvy198 16 (by decide)).trans ((hFvy196 16 (by decide)).trans ((hFvy191 16 (by decide)).trans ((hFvy189 16 (by decide)).trans ((hFvy184 16 (by decide)).trans ((hFvy182 16 (by decide)).trans ((hFvy174 16 (by decide)).trans ((hFvy172 16 (by decide)).trans ((hFvy170 16 (by decide)).trans ((hFvy168 16 (by decide)).trans ((hFvy166 16 (by decide)).trans ((hFvy59 16 (by decide)).trans ((hFvy54 16 (by decide)).trans ((hFvy52 16 (by decide)).trans ((hFvy47 16 (by decide)).trans ((hFvy45 16 (by decide)).trans (fn ((hFvy28 16 (by decide)).trans (fn rfl (by decide))) (by decide))))))))))))))))))
        have hey276 : Fvy198 17 = F 17 := ((hFvy198 17 (by decide)).trans ((hFvy196 17 (by decide)).trans ((hFvy191 17 (by decide)).trans ((hFvy189 17 (by decide)).trans ((hFvy184 17 (by decide)).trans ((hFvy182 17 (by decide)).trans ((hFvy174 17 (by decide)).trans ((hFvy172 17 (by decide)).trans ((hFvy170 17 (by decide)).trans ((hFvy168 17 (by decide)).trans ((hFvy166 17 (by decide)).trans ((hFvy59 17 (by decide)).trans ((hFvy54 17 (by decide)).trans ((hFvy52 17 (by decide)).trans ((hFvy47 17 (by decide)).trans ((hFvy45 17 (by decide)).trans (fn ((hFvy28 17 (by decide)).trans (fn rfl (by decide))) (by decide))))))))))))))))))
        have hey277 : Fvy198 18 = F 18 := ((hFvy198 18 (by decide)).trans ((hFvy196 18 (by decide)).trans ((hFvy191 18 (by decide)).trans ((hFvy189 18 (by decide)).trans ((hFvy184 18 (by decide)).trans ((hFvy182 18 (by decide)).trans ((hFvy174 18 (by decide)).trans ((hFvy172 18 (by decide)).trans ((hFvy170 18 (by decide)).trans ((hFvy168 18 (by decide)).trans ((hFvy166 18 (by decide)).trans ((hFvy59 18 (by decide)).trans ((hFvy54 18 (by decide)).trans ((hFvy52 18 (by decide)).trans ((hFvy47 18 (by decide)).trans ((hFvy45 18 (by decide)).trans (fn ((hFvy28 18 (by decide)).trans (fn rfl (by decide))) (by decide))))))))))))))))))
        have hey278 : Fvy198 19 = F 19 := ((hFvy198 19 (by decide)).trans ((hFvy196 19 (by decide)).trans ((hFvy191 19 (by decide)).trans ((hFvy189 19 (by decide)).trans ((hFvy184 19 (by decide)).trans ((hFvy182 19 (by decide)).trans ((hFvy174 19 (by decide)).trans ((hFvy172 19 (by decide)).trans ((hFvy170 19 (by decide)).trans ((hFvy168 19 (by decide)).trans ((hFvy166 19 (by decide)).trans ((hFvy59 19 (by decide)).trans ((hFvy54 19 (by decide)).trans ((hFvy52 19 (by decide)).trans ((hFvy47 19 (by decide)).trans ((hFvy45 19 (by decide)).trans (fn ((hFvy28 19 (by decide)).trans (fn rfl (by decide))) (by decide))))))))))))))))))
        have hey279 : Fvy198 20 = F 20 := ((hFvy198 20 (by decide)).trans ((hFvy196 20 (by decide)).trans ((hFvy191 20 (by decide)).trans ((hFvy189 20 (by decide)).trans ((hFvy184 20 (by decide)).trans ((hFvy182 20 (by decide)).trans ((hFvy174 20 (by decide)).trans ((hFvy172 20 (by decide)).trans ((hFvy170 20 (by decide)).trans ((hFvy168 20 (by decide)).trans ((hFvy166 20 (by decide)).trans ((hFvy59 20 (by decide)).trans ((hFvy54 20 (by decide)).trans ((hFvy52 20 (by decide)).trans ((hFvy47 20 (by decide)).trans ((hFvy45 20 (by decide)).trans (fn ((hFvy28 20 (by decide)).trans (fn rfl (by decide))) (by decide))))))))))))))))))
        have hey280 : Fvy198 23 = F 23 := ((hFvy198 23 (by decide)).trans ((hFvy196 23 (by decide)).trans ((hFvy191 23 (by decide)).trans ((hFvy189 23 (by decide)).trans ((hFvy184 23 (by decide)).trans ((hFvy182 23 (by decide)).trans ((hFvy174 23 (by decide)).trans ((hFvy172 23 (by decide)).trans ((hFvy170 23 (by decide)).trans ((hFvy168 23 (by decide)).trans ((hFvy166 23 (by decide)).trans ((hFvy59 23 (by decide)).trans ((hFvy54 23 (by decide)).trans ((hFvy52 23 (by decide)).trans ((hFvy47 23 (by decide)).trans ((hFvy45 23 (by decide)).trans (fn ((hFvy28 23 (by decide)).trans (fn rfl (by decide))) (by decide))))))))))))))))))
        have hey281 : Fvy198 25 = F 25 := ((hFvy198 25 (by decide)).trans ((hFvy196 25 (by decide)).trans ((hFvy191 25 (by decide)).trans ((hFvy189 25 (by decide)).trans ((hFvy184 25 (by decide)).trans ((hFvy182 25 (by decide)).trans ((hFvy174 25 (by decide)).trans ((hFvy172 25 (by decide)).trans ((hFvy170 25 (by decide)).trans ((hFvy168 25 (by decide)).trans ((hFvy166 25 (by decide)).trans ((hFvy59 25 (by decide)).trans ((hFvy54 25 (by decide)).trans ((hFvy52 25 (by decide)).trans ((hFvy47 25 (by decide)).trans ((hFvy45 25 (by decide)).trans (fn ((hFvy28 25 (by decide)).trans (fn rfl (by decide))) (by decide))))))))))))))))))
        have hey282 : Fvy198 27 = F 27 := ((hFvy198 27 (by decide)).trans ((hFvy196 27 (by decide)).trans ((hFvy191 27 (by decide)).trans ((hFvy189 27 (by decide)).trans ((hFvy184 27 (by decide)).trans ((hFvy182 27 (by decide)).trans ((hFvy174 27 (by decide)).trans ((hFvy172 27 (by decide)).trans ((hFvy170 27 (by decide)).trans ((hFvy168 27 (by decide)).trans ((hFvy166 27 (by decide)).trans ((hFvy59 27 (by decide)).trans ((hFvy54 27 (by decide)).trans ((hFvy52 27 (by decide)).trans ((hFvy47 27 (by decide)).trans ((hFvy45 27 (by decide)).trans (fn ((hFvy28 27 (by decide)).trans (fn rfl (by decide))) (by decide))))))))))))))))))
        have hey283 : Fvy198 28 = F 28 := ((hFvy198 28 (by decide)).trans ((hFvy196 28 (by decide)).trans ((hFvy191 28 (by decide)).trans ((hFvy189 28 (by decide)).trans ((hFvy184 28 (by decide)).trans ((hFvy182 28 (by decide)).trans ((hFvy174 28 (by decide)).trans ((hFvy172 28 (by decide)).trans ((hFvy170 28 (by decide)).trans ((hFvy168 28 (by decide)).trans ((hFvy166 28 (by decide)).trans ((hFvy59 28 (by decide)).trans ((hFvy54 28 (by decide)).trans ((hFvy52 28 (by decide)).trans ((hFvy47 28 (by decide)).trans ((hFvy45 28 (by decide)).trans (fn ((hFvy28 28 (by decide)).trans (fn rfl (by decide))) (by decide))))))))))))))))))
        have hey284 : Fvy198 29 = F 29 := ((hFvy198 29 (by decide)).trans ((hFvy196 29 (by decide)).trans ((hFvy191 29 (by decide)).trans ((hFvy189 29 (by decide)).trans ((hFvy184 29 (by decide)).trans ((hFvy182 29 (by decide)).trans ((hFvy174 29 (by decide)).trans ((hFvy172 29 (by decide)).trans ((hFvy170 29 (by decide)).trans ((hFvy168 29 (by decide)).trans ((hFvy166 29 (by decide)).trans ((hFvy59 29 (by decide)).trans ((hFvy54 29 (by decide)).trans ((hFvy52 29 (by decide)).trans ((hFvy47 29 (by decide)).trans ((hFvy45 29 (by decide)).trans (fn ((hFvy28 29 (by decide)).trans (fn rfl (by decide))) (by decide))))))))))))))))))
        have hKy285 : okF Fvy198 := by unfold okF; omega
        have hMy286 : okMr cs ad gvy198 i (x + 1) Fvy198 r := okMr.upd hM hcvy198 hKy285 (fun f a => hFy271 f (by omega) (by omega)) hgy270 (hA.mono (by omega)) (fun j a b => by
            by_cases e0 : j = i + 24
            · exact Or.inr ⟨24, _, e0, lsP.l (by decide), by rw [e0]; exact htvy198⟩
            exact Or.inl (by rw [hfvy198 _ (by omega) (by omega)]; rw [hfvy196 _ (by omega) (by omega)]; rw [hfvy191 _ (by omega) (by omega)]; rw [hfvy189 _ (by omega) (by omega)]; rw [hfvy184 _ (by omega) (by omega)]; rw [hfvy182 _ (by omega) (by omega)]; rw [hfvy174 _ (by omega) (by omega)]; rw [hfvy172 _ (by omega) (by omega)]; rw [hfvy170 _ (by omega) (by omega)]; rw [hfvy168 _ (by omega) (by omega)]; rw [hfvy166 _ (by omega) (by omega)]; rw [hfvy59 _ (by omega) (by omega)]; rw [hfvy54 _ (by omega) (by omega)]; rw [hfvy52 _ (by omega) (by omega)]; rw [hfvy47 _ (by omega) (by omega)]; rw [hfvy45 _ (by omega) (by omega)]; rw [egy32, va_up_ne _ _ (by omega)]; rw [hfvy28 _ (by omega)]; rw [egy25, va_up_ne _ _ (by omega)]))
        have h23 : Fvy198 23 = F 23 := ((hFvy198 23 (by decide)).trans ((hFvy196 23 (by decide)).trans ((hFvy191 23 (by decide)).trans ((hFvy189 23 (by decide)).trans ((hFvy184 23 (by decide)).trans ((hFvy182 23 (by decide)).trans ((hFvy174 23 (by decide)).trans ((hFvy172 23 (by decide)).trans ((hFvy170 23 (by decide)).trans ((hFvy168 23 (by decide)).trans ((hFvy166 23 (by decide)).trans ((hFvy59 23 (by decide)).trans ((hFvy54 23 (by decide)).trans ((hFvy52 23 (by decide)).trans ((hFvy47 23 (by decide)).trans ((hFvy45 23 (by decide)).trans (fn ((hFvy28 23 (by decide)).trans (fn rfl (by decide))) (by decide))))))))))))))))))
        exact z_iret C hr hlk dX10_told_180 (by decide) (by decide) ⟨Fvy196 51 + 1, rfl, rfl, rfl, by omega, ⟨_, _, hMy286, by omega⟩, fun j j1 => by rw [hfvy198 _ (by omega) (by omega)]; rw [hfvy196 _ (by omega) (by omega)]; rw [hfvy191 _ (by omega) (by omega)]; rw [hfvy189 _ (by omega) (by omega)]; rw [hfvy184 _ (by omega) (by omega)]; rw [hfvy182 _ (by omega) (by omega)]; rw [hfvy174 _ (by omega) (by omega)]; rw [hfvy172 _ (by omega) (by omega)]; rw [hfvy170 _ (by omega) (by omega)]; rw [hfvy168 _ (by omega) (by omega)]; rw [hfvy166 _ (by omega) (by omega)]; rw [hfvy59 _ (by omega) (by omega)]; rw [hfvy54 _ (by omega) (by omega)]; rw [hfvy52 _ (by omega) (by omega)]; rw [hfvy47 _ (by omega) (by omega)]; rw [hfvy45 _ (by omega) (by omega)]; rw [egy32, va_up_ne _ _ (by omega)]; rw [hfvy28 _ (by omega)]; rw [egy25, va_up_ne _ _ (by omega)]⟩
  · refine z_if_ne (tgt := 16) C dX10_told_11 (by decide) (by omega) (fun h => absurd h (by omega)) (fun _ => ?_)
    refine z_iconst (z := 0) C dX10_told_14 rfl ?_
    have hgy287 := (hfvy28 (i + 1) (ne_o (i := i) (c := 1) (d := 0) rfl)).trans hgy27
    have hFy288 : ∀ f, f ≠ 12 → Fvy28 f = F f := fun f n12 => ((hFvy28 f n12).trans ((uZ_n _ _ n12).trans rfl))
    have hey289 : Fvy28 13 = F 13 := ((hFvy28 13 (by decide)).trans (fn rfl (by decide)))
    have hey290 : Fvy28 14 = F 14 := ((hFvy28 14 (by decide)).trans (fn rfl (by decide)))
    have hey291 : Fvy28 15 = F 15 := ((hFvy28 15 (by decide)).trans (fn rfl (by decide)))
    have hey292 : Fvy28 16 = F 16 := ((hFvy28 16 (by decide)).trans (fn rfl (by decide)))
    have hey293 : Fvy28 17 = F 17 := ((hFvy28 17 (by decide)).trans (fn rfl (by decide)))
    have hey294 : Fvy28 18 = F 18 := ((hFvy28 18 (by decide)).trans (fn rfl (by decide)))
    have hey295 : Fvy28 19 = F 19 := ((hFvy28 19 (by decide)).trans (fn rfl (by decide)))
    have hey296 : Fvy28 20 = F 20 := ((hFvy28 20 (by decide)).trans (fn rfl (by decide)))
    have hey297 : Fvy28 23 = F 23 := ((hFvy28 23 (by decide)).trans (fn rfl (by decide)))
    have hey298 : Fvy28 25 = F 25 := ((hFvy28 25 (by decide)).trans (fn rfl (by decide)))
    have hey299 : Fvy28 27 = F 27 := ((hFvy28 27 (by decide)).trans (fn rfl (by decide)))
    have hey300 : Fvy28 28 = F 28 := ((hFvy28 28 (by decide)).trans (fn rfl (by decide)))
    have hey301 : Fvy28 29 = F 29 := ((hFvy28 29 (by decide)).trans (fn rfl (by decide)))
    have hKy302 : okF Fvy28 := by unfold okF; omega
    have hMy303 : okMr cs ad gvy28 i (x + 1) Fvy28 r := okMr.upd hM hcvy28 hKy302 (fun f a => hFy288 f (by omega)) hgy287 (hA.mono (by omega)) (fun j a b => by
        exact Or.inl (by rw [hfvy28 _ (by omega)]; rw [egy25, va_up_ne _ _ (by omega)]))
    have h23 : Fvy28 23 = F 23 := ((hFvy28 23 (by decide)).trans (fn rfl (by decide)))
    exact z_iret C hr hlk dX10_told_15 (by decide) (by decide) ⟨0, rfl, rfl, rfl, by omega, ⟨_, _, hMy303, by omega⟩, fun j j1 => by rw [hfvy28 _ (by omega)]; rw [egy25, va_up_ne _ _ (by omega)]⟩

set_option maxRecDepth 100000 in
set_option maxHeartbeats 4000000 in
theorem c_X10_told_b (l : Launch) (D : va_G) (A : Nat → Prop) (cs : Nat → ClassId) (tt : Nat) (N : Nat) (ad : Nat → Nat) (g : Nat → va_E) (i : Nat) (hN : i + 30 ≤ N) (x : Int) (hx : 0 ≤ x ∧ x ≤ 512) (F r : Nat → Int) (hM : okMr cs ad g i x F r) (z : Int) (hz : -2147483648 ≤ z ∧ z ≤ 2147483647) (hzo : z < 0 ∨ 3 < z) (z1 : Int) (hz1 : -2147483648 ≤ z1 ∧ z1 ≤ 2147483647) (z2 : Int) (hz2 : -2147483648 ≤ z2 ∧ z2 ≤ 2147483647) : zM l yX10_told cX10_told 4 (some .int) ({ frames := 4, cells := 0, slots := 0, locals := 240 } : Room) D A cs tt N ad g [.ref (ad i), .int (zI (z)), .int (zI (z1)), .int (zI (z2))] (rI0 N ad fun q g' => (-2147483648 ≤ q ∧ q ≤ 2147483647) ∧ (∃ F' r' : Nat → Int, okMr cs ad g' i (x + 1) F' r' ∧ F' 23 = F 23) ∧ ∀ j, j < i ∨ i + 30 ≤ j → g' j = g j) := by
  obtain ⟨hg, ⟨⟨e13, e14, e25, e27, e29⟩, k15, k16, k17, k18, k19, k20, k23⟩, hRD, hTx, hA, st, op, ai, fa, mu, tb, ns, nh, nd, rf, pi, tp, te, ki, li, ok1, ok2, fo, dd, dps, ⟨ha1, ha2, ha3, ha4, ha5, ha6, ha7, ha8, ha9, ha10, ha11, ha12, ha13, ha14, ha15, ha24, ha25, ha26, ha27, ha28, ha29⟩, hEv, hPt, hns, htp⟩ := id hM
  obtain ⟨-, hop, hai, hfa, hT, hT1⟩ := id hEv
  have hay1 : zAt ad (i) (ad i) := rfl
  have hay2 : zAt ad (i + 1) (ad (i + 1)) := rfl
  have hay3 : zAt ad (i + 2) (ad (i + 2)) := rfl
  have hay4 : zAt ad (i + 3) (ad (i + 3)) := rfl
  have hay5 : zAt ad (i + 4) (ad (i + 4)) := rfl
  have hay6 : zAt ad (i + 5) (ad (i + 5)) := rfl
  have hay7 : zAt ad (i + 6) (ad (i + 6)) := rfl
  have hay8 : zAt ad (i + 7) (ad (i + 7)) := rfl
  have hay9 : zAt ad (i + 8) (ad (i + 8)) := rfl
  have hay10 : zAt ad (i + 9) (ad (i + 9)) := rfl
  have hay11 : zAt ad (i + 10) (ad (i + 10)) := rfl
  have hay12 : zAt ad (i + 11) (ad (i + 11)) := rfl
  have hay13 : zAt ad (i + 12) (ad (i + 12)) := rfl
  have hay14 : zAt ad (i + 13) (ad (i + 13)) := rfl
  have hay15 : zAt ad (i + 14) (ad (i + 14)) := rfl
  have hay16 : zAt ad (i + 15) (ad (i + 15)) := rfl
  have hay17 : zAt ad (i + 24) (ad (i + 24)) := rfl
  have hay18 : zAt ad (i + 25) (ad (i + 25)) := rfl
  have hay19 : zAt ad (i + 26) (ad (i + 26)) := rfl
  have hay20 : zAt ad (i + 27) (ad (i + 27)) := rfl
  have hay21 : zAt ad (i + 28) (ad (i + 28)) := rfl
  have hay22 : zAt ad (i + 29) (ad (i + 29)) := rfl
  obtain ⟨⟨hsyy23, htyy23, hnyy23, hpyy23⟩, hlyy23⟩ := okA.at0 hA
  simp only [Nat.zero_add] at hsyy23 hnyy23 hpyy23
  have hmn : ∀ s, s < 4 → 0 ≤ r (6 + 86 * s) ∧ r (6 + 86 * s) ≤ 12 := fun s hs => (hsyy23 s hs).1
  have h5 : 0 ≤ r 5 ∧ r 5 ≤ 6 := hpyy23
  refine z_of (by decide) (Nat.le_of_ble_eq_true rfl) ?_
  intro pZ eZ sZ mZ below meth cZ C hr hlk hnm
  refine z_lv (lv' := [(0, .ref (ad i)), (1, .int (zI (z))), (2, .int (zI (z1))), (3, .int (zI (z2)))]) [0, 1, 2, 3] rfl ?_
  refine z_aload_n C 0 dX10_told_0 rfl ?_
  refine z_iconst (z := 0) C dX10_told_1 rfl ?_
  refine z_put (fs' := mF ad (i) (uZ F 12 (0))) C (by omega) hay1 hg tyX10 tyX10_ok nmX10 rfl inA_X10 12 (by decide) q_1471 rfl rfl rfl rfl (Nat.le_of_ble_eq_true rfl) rfl dX10_told_2 (fun gy24 egy25 => ?_)
  have hgy26 := up_s egy25
  refine z_aload_n C 0 dX10_told_5 rfl ?_
  refine z_iload_n C 1 dX10_told_6 rfl ?_
  refine z_iload_n C 2 dX10_told_7 rfl ?_
  have hgy27 := up_n egy25 ha1 (ne_o (i := i) (c := 1) (d := 0) rfl)
  have h13vy28 : (uZ F 12 (0)) 13 = F 13 := (fn rfl (by decide))
  have hey29 : (uZ F 12 (0)) 12 = 0 := (uZ_s _ _ _)
  refine z_cV (As := [.int (zI (z)), .int (zI (z1))]) (rest := []) (ci := 12) C (c_X10_isLayer_b l D A cs tt N ad _ i hN _ hgy26 (by omega) (by omega) (z) (by omega) (by omega) (z1)) (by omega) hay1 hgy26 rfl rfl mv_yX10_isLayer q_1819 hd_yX10_isLayer (by decide) (Nat.le_of_ble_eq_true rfl) (by decide) dX10_told_8 rfl (kI0 fun vy28 gvy28 hvy28 => ?_)
  obtain ⟨rfl, ⟨Fvy28, hcvy28, htvy28, hFvy28⟩, hfvy28⟩ := hvy28
  refine z_if_ne (tgt := 16) C dX10_told_11 (by decide) (by omega) (fun h => absurd h (by omega)) (fun _ => ?_)
  refine z_iconst (z := 0) C dX10_told_14 rfl ?_
  have hgy30 := (hfvy28 (i + 1) (ne_o (i := i) (c := 1) (d := 0) rfl)).trans hgy27
  have hFy31 : ∀ f, f ≠ 12 → Fvy28 f = F f := fun f n12 => ((hFvy28 f n12).trans ((uZ_n _ _ n12).trans rfl))
  have hey32 : Fvy28 13 = F 13 := ((hFvy28 13 (by decide)).trans (fn rfl (by decide)))
  have hey33 : Fvy28 14 = F 14 := ((hFvy28 14 (by decide)).trans (fn rfl (by decide)))
  have hey34 : Fvy28 15 = F 15 := ((hFvy28 15 (by decide)).trans (fn rfl (by decide)))
  have hey35 : Fvy28 16 = F 16 := ((hFvy28 16 (by decide)).trans (fn rfl (by decide)))
  have hey36 : Fvy28 17 = F 17 := ((hFvy28 17 (by decide)).trans (fn rfl (by decide)))
  have hey37 : Fvy28 18 = F 18 := ((hFvy28 18 (by decide)).trans (fn rfl (by decide)))
  have hey38 : Fvy28 19 = F 19 := ((hFvy28 19 (by decide)).trans (fn rfl (by decide)))
  have hey39 : Fvy28 20 = F 20 := ((hFvy28 20 (by decide)).trans (fn rfl (by decide)))
  have hey40 : Fvy28 23 = F 23 := ((hFvy28 23 (by decide)).trans (fn rfl (by decide)))
  have hey41 : Fvy28 25 = F 25 := ((hFvy28 25 (by decide)).trans (fn rfl (by decide)))
  have hey42 : Fvy28 27 = F 27 := ((hFvy28 27 (by decide)).trans (fn rfl (by decide)))
  have hey43 : Fvy28 28 = F 28 := ((hFvy28 28 (by decide)).trans (fn rfl (by decide)))
  have hey44 : Fvy28 29 = F 29 := ((hFvy28 29 (by decide)).trans (fn rfl (by decide)))
  have hKy45 : okF Fvy28 := by unfold okF; omega
  have hMy46 : okMr cs ad gvy28 i (x + 1) Fvy28 r := okMr.upd hM hcvy28 hKy45 (fun f a => hFy31 f (by omega)) hgy30 (hA.mono (by omega)) (fun j a b => by
      exact Or.inl (by rw [hfvy28 _ (by omega)]; rw [egy25, va_up_ne _ _ (by omega)]))
  have h23 : Fvy28 23 = F 23 := ((hFvy28 23 (by decide)).trans (fn rfl (by decide)))
  exact z_iret C hr hlk dX10_told_15 (by decide) (by decide) ⟨0, rfl, rfl, rfl, by omega, ⟨_, _, hMy46, by omega⟩, fun j j1 => by rw [hfvy28 _ (by omega)]; rw [egy25, va_up_ne _ _ (by omega)]⟩

set_option maxRecDepth 100000 in
set_option maxHeartbeats 4000000 in
theorem c_X10_told (l : Launch) (D : va_G) (A : Nat → Prop) (cs : Nat → ClassId) (tt : Nat) (N : Nat) (ad : Nat → Nat) (g : Nat → va_E) (i : Nat) (hN : i + 30 ≤ N) (x : Int) (hx : 0 ≤ x ∧ x ≤ 512) (F r : Nat → Int) (hM : okMr cs ad g i x F r) (z : Int) (hz : -2147483648 ≤ z ∧ z ≤ 2147483647) (z1 : Int) (hz1 : -2147483648 ≤ z1 ∧ z1 ≤ 2147483647) (z2 : Int) (hz2 : -2147483648 ≤ z2 ∧ z2 ≤ 2147483647) : zM l yX10_told cX10_told 4 (some .int) ({ frames := 4, cells := 0, slots := 0, locals := 240 } : Room) D A cs tt N ad g [.ref (ad i), .int (zI (z)), .int (zI (z1)), .int (zI (z2))] (rI0 N ad fun q g' => (-2147483648 ≤ q ∧ q ≤ 2147483647) ∧ (∃ F' r' : Nat → Int, okMr cs ad g' i (x + 1) F' r' ∧ F' 23 = F 23) ∧ ∀ j, j < i ∨ i + 30 ≤ j → g' j = g j) := by
  by_cases h9 : 0 ≤ z ∧ z ≤ 3
  · obtain ⟨n, rfl⟩ : ∃ n : Nat, z = (n : Int) := ⟨z.toNat, by omega⟩
    exact c_X10_told_a l D A cs tt N ad g i hN x hx F r hM n (by omega) z1 hz1 z2 hz2
  · exact c_X10_told_b l D A cs tt N ad g i hN x hx F r hM z hz (by omega) z1 hz1 z2 hz2

