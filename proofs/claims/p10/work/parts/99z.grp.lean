section
-- 99z.reftold.lean.txt
def posF (n : Nat) : Int := ([0, 6, 12, 17, 22, 27, 32, 39, 45, 51, 58, 65, 72] : List Int).getD n 0
def endF (n : Nat) : Int := ([5, 11, 16, 21, 26, 31, 38, 44, 50, 57, 64, 71, 77] : List Int).getD n 0
theorem knP0 : ∀ i : Fin 13, 0 ≤ posF i.val ∧ posF i.val ≤ endF i.val ∧ endF i.val ≤ 77 ∧ endF i.val ≤ posF i.val + 6 ∧ (i.val < 12 → posF (i.val + 1) = endF i.val + 1) := by decide +kernel
theorem knP {i : Nat} (h : i < 13) : 0 ≤ posF i ∧ posF i ≤ endF i ∧ endF i ≤ 77 ∧ endF i ≤ posF i + 6 := by
  have h0 := knP0 ⟨i, h⟩
  exact ⟨h0.1, h0.2.1, h0.2.2.1, h0.2.2.2.1⟩
theorem knN {i : Nat} (h : i < 12) : posF (i + 1) = endF i + 1 := (knP0 ⟨i, by omega⟩).2.2.2.2 h
theorem knQ0 : ∀ (i : Fin 13) (j : Fin 78), posF i.val ≤ (j.val : Int) → (j.val : Int) ≤ endF i.val → ((sq0.2.2.2.getD j.val 0 = 32) ↔ (j.val : Int) = endF i.val) := by decide +kernel
theorem knQ {i : Nat} {a y : Int} (hi : i < 13) (h1 : posF i ≤ a ∧ a ≤ endF i) (e : sq0.2.2.2.getD a.toNat 0 = zI y) (hy : -2147483648 ≤ y ∧ y ≤ 2147483647) : (y = 32 ∧ a = endF i) ∨ (y ≠ 32 ∧ a < endF i) := by
  have hp := knP hi
  have h := knQ0 ⟨i, hi⟩ ⟨a.toNat, by omega⟩ (by show posF i ≤ ((a.toNat : Nat) : Int); omega) (by show ((a.toNat : Nat) : Int) ≤ endF i; omega)
  have ha : ((a.toNat : Nat) : Int) = a := by omega
  rw [ha] at h
  by_cases e9 : y = 32
  · subst e9
    exact Or.inl ⟨rfl, h.mp e⟩
  · refine Or.inr ⟨e9, ?_⟩
    by_cases e8 : a = endF i
    · have e7 : zI y = zI 32 := e.symm.trans (h.mpr e8)
      exact absurd ((zI_eq hy (by omega)).mp e7) e9
    · omega

set_option maxRecDepth 100000 in
set_option maxHeartbeats 4000000 in
theorem c_X10_saysKind (l : Launch) (D : va_G) (A : Nat → Prop) (cs : Nat → ClassId) (tt : Nat) (N : Nat) (ad : Nat → Nat) (g : Nat → va_E) (i : Nat) (hN : i + 30 ≤ N) (F : Nat → Int) (hg : g i = mC ad i F) (li : Nat → Int) (ha24 : g (i + 24) = iA cs 64 li) (h51 : 0 ≤ F 51 ∧ F 51 + 6 ≤ 64) (z : Int) (hz : 0 ≤ z ∧ z ≤ 4) : zM l yX10_saysKind cX10_saysKind 5 none ({ frames := 2, cells := 0, slots := 0, locals := 120 } : Room) D A cs tt N ad g [.ref (ad i), .int (zI (z))] (rV0 N ad fun g' => (∃ F' : Nat → Int, g' i = mC ad i F' ∧ (F 51 ≤ F' 51 ∧ F' 51 ≤ F 51 + 6) ∧ (∀ f, f ≠ 51 → F' f = F f)) ∧ (∃ t' : Nat → Int, g' (i + 24) = iA cs 64 t') ∧ ∀ j, j ≠ i → j ≠ i + 24 → g' j = g j) := by
  have hay1 : zAt ad (i) (ad i) := rfl
  have hay2 : zAt ad (i + 24) (ad (i + 24)) := rfl
  refine z_of (by decide) (Nat.le_of_ble_eq_true rfl) ?_
  intro pZ eZ sZ mZ below meth cZ C hr hlk hnm
  refine z_lv (lv' := [(0, .ref (ad i)), (1, .int (zI (z)))]) [0, 1] rfl ?_
  have lpL : ∀ (n9 : Nat) (at9 : Int) (ww : Int) (nw : Nat) (nl : Int) (F9 : Nat → Int) (t9 : Nat → Int) (g1 : Nat → va_E), (78 - at9).toNat = n9 → (g1 i = mC ad i F9) → (g1 (i + 24) = iA cs 64 t9) → (∀ j, j ≠ i → j ≠ i + 24 → g1 j = g j) → (F9 51 = nl) → (∀ f, f ≠ 51 → F9 f = F f) → (nw < 13 ∧ ww = (nw : Int)) → (posF nw ≤ at9 ∧ at9 ≤ endF nw ∧ nl = F 51 + at9 - posF nw) → zV pZ l eZ ({ frames := 2, cells := 0, slots := 0, locals := 120 } : Room) sZ mZ ([.ref (ad i), .int (zI (z))] : List Value).toArray below meth cZ (MQ below (zPost D A (rV0 N ad fun g' => (∃ F' : Nat → Int, g' i = mC ad i F' ∧ (F 51 ≤ F' 51 ∧ F' 51 ≤ F 51 + 6) ∧ (∀ f, f ≠ 51 → F' f = F f)) ∧ (∃ t' : Nat → Int, g' (i + 24) = iA cs 64 t') ∧ ∀ j, j ≠ i → j ≠ i + 24 → g' j = g j)) ([.ref (ad i), .int (zI (z))] : List Value).toArray sZ ({ frames := 2, cells := 0, slots := 0, locals := 120 } : Room).cells ({ frames := 2, cells := 0, slots := 0, locals := 120 } : Room).slots A) D A 5 (N) ad g1 (0) (0) 50 [(0, .ref (ad i)), (3, .int (zI (at9))), (2, .int (zI (ww)))] [] := by
    intro n9
    induction n9 using Nat.strongRecOn with
    | ind n9 ih_lpL =>
      intro at9 ww nw nl F9 t9 g1 hm9 f2 f2t f3 fx0 f4 hnw hv
      have hay3 : zAt ad (i) (ad i) := rfl
      have hay4 : zAt ad (i + 24) (ad (i + 24)) := rfl
      have hkp := knP (i := nw) (by omega)
      refine z_getSt C stm0 q_1667 dX10_saysKind_50 ?_
      refine z_iload_n C 1 dX10_saysKind_53 rfl ?_
      obtain ⟨yy5, eyy5, hyy5⟩ := zI_of (sq0.2.2.2.getD ((at9).toNat) 0)
      have hkyy5 := knQ (i := nw) (by omega) (a := at9) (by omega) eyy5 hyy5
      refine z_stbald (y := yy5) C stm0 ((at9).toNat) (by omega) (by rw [stl0]; omega) (by rw [stl0]; decide) eyy5 dX10_saysKind_54 ?_
      refine z_bipush (z := 32) C dX10_saysKind_55 (by decide) ?_
      refine z_icmp_eq (tgt := 75) C dX10_saysKind_57 (by decide) (by omega) (by omega) (fun hby6 => ?_) (fun hby6 => ?_)
      · have hFy7 : ∀ f, f ≠ 51 → F9 f = F f := fun f n51 => (f4 f n51)
        have hey8 : F9 51 = nl := fx0
        exact z_vret C hr hlk dX10_saysKind_75 (by decide) (by decide) ⟨rfl, rfl, rfl, ⟨_, f2, by omega, hFy7⟩, ⟨_, f2t⟩, fun j j1 j2 => by exact f3 j j1 j2⟩
      · refine z_aload_n C 0 dX10_saysKind_60 rfl ?_
        refine z_getSt C stm0 q_1667 dX10_saysKind_61 ?_
        refine z_iload_n C 1 dX10_saysKind_64 rfl ?_
        obtain ⟨yy9, eyy9, hyy9⟩ := zI_of (sq0.2.2.2.getD ((at9).toNat) 0)
        have hkyy9 := knQ (i := nw) (by omega) (a := at9) (by omega) eyy9 hyy9
        refine z_stbald (y := yy9) C stm0 ((at9).toNat) (by omega) (by rw [stl0]; omega) (by rw [stl0]; decide) eyy9 dX10_saysKind_65 ?_
        have hey11 : F9 51 = nl := fx0
        refine z_cV (As := [.int (zI (yy9))]) (rest := []) (ci := 12) C (c_X10_says l D A cs tt N ad _ i hN _ f2 _ f2t (by omega) (yy9)) (lt_A0 hN rfl) hay3 f2 rfl rfl mv_yX10_says q_1850 hd_yX10_says (by decide) (Nat.le_of_ble_eq_true rfl) (by decide) dX10_saysKind_66 rfl (kV0 fun gvy10 hvy10 => ?_)
        obtain ⟨⟨Fvy10, hcvy10, hnvy10, hFvy10⟩, ⟨tvy10, htvy10⟩, hfvy10⟩ := hvy10
        have hovy10 : F9 51 = nl := fx0
        have hqvy10 : Fvy10 51 = nl + 1 := by omega
        clear hnvy10 hovy10
        refine z_iinc (z := at9 + 1) (lv' := [(3, .int (zI (at9 + 1))), (0, .ref (ad i)), (2, .int (zI (ww)))]) (j := 1) C dX10_saysKind_69 rfl rfl (by decide) rfl ?_
        refine z_goto (tgt := 50) C dX10_saysKind_72 (by decide) ?_
        have hFy12 : ∀ f, f ≠ 51 → Fvy10 f = F f := fun f n51 => ((hFvy10 f n51).trans (f4 f n51))
        have hey13 : Fvy10 51 = nl + 1 := hqvy10
        refine z_lv (lv' := [(0, .ref (ad i)), (3, .int (zI (at9 + 1))), (2, .int (zI (ww)))]) [1, 0, 2] rfl ?_
        exact ih_lpL _ (by omega) (at9 + 1) (ww) nw (nl + 1) _ _ gvy10 rfl hcvy10 htvy10 (fun j j1 j2 => by rw [hfvy10 _ (by omega) (by omega)]; exact f3 j j1 j2) hqvy10 hFy12 (by omega) (by omega)
  have lpO : ∀ (n9 : Nat) (ww : Int) (at9 : Int) (ii : Int) (ni : Nat) (nw : Nat) (g1 : Nat → va_E), (13 - ii).toNat = n9 → (g = g1) → (nw < 13 ∧ ww = (nw : Int) ∧ ii = (ni : Int) ∧ ni ≤ nw) → (at9 = posF ni) → zV pZ l eZ ({ frames := 2, cells := 0, slots := 0, locals := 120 } : Room) sZ mZ ([.ref (ad i), .int (zI (z))] : List Value).toArray below meth cZ (MQ below (zPost D A (rV0 N ad fun g' => (∃ F' : Nat → Int, g' i = mC ad i F' ∧ (F 51 ≤ F' 51 ∧ F' 51 ≤ F 51 + 6) ∧ (∀ f, f ≠ 51 → F' f = F f)) ∧ (∃ t' : Nat → Int, g' (i + 24) = iA cs 64 t') ∧ ∀ j, j ≠ i → j ≠ i + 24 → g' j = g j)) ([.ref (ad i), .int (zI (z))] : List Value).toArray sZ ({ frames := 2, cells := 0, slots := 0, locals := 120 } : Room).cells ({ frames := 2, cells := 0, slots := 0, locals := 120 } : Room).slots A) D A 5 (N) ad g1 (0) (0) 19 [(0, .ref (ad i)), (2, .int (zI (ww))), (3, .int (zI (at9))), (4, .int (zI (ii)))] [] := by
    intro n9
    induction n9 using Nat.strongRecOn with
    | ind n9 ih_lpO =>
      intro ww at9 ii ni nw g1 hm9 hg1 hw hs
      subst hg1
      have hkp := knP (i := ni) (by omega)
      refine z_iload C 3 dX10_saysKind_19 rfl ?_
      refine z_iload_n C 1 dX10_saysKind_21 rfl ?_
      refine z_icmp_ge (tgt := 50) C dX10_saysKind_22 (by decide) (by omega) (by omega) (fun hby14 => ?_) (fun hby14 => ?_)
      · obtain rfl : ni = nw := by omega
        have hFy15 : ∀ f, f ≠ 51 → F f = F f := fun f n51 => rfl
        have hey16 : F 51 = F 51 := rfl
        refine z_lv (lv' := [(0, .ref (ad i)), (3, .int (zI (at9))), (2, .int (zI (ww)))]) [0, 2, 1] rfl ?_
        exact lpL _ (at9) (ww) ni (F 51) _ _ g rfl hg ha24 (fun j j1 j2 => by rfl) rfl hFy15 (by omega) (by omega)
      · have lpI : ∀ (n9 : Nat) (at9 : Int) (g1 : Nat → va_E), (78 - at9).toNat = n9 → (g = g1) → (posF ni ≤ at9 ∧ at9 ≤ endF ni) → zV pZ l eZ ({ frames := 2, cells := 0, slots := 0, locals := 120 } : Room) sZ mZ ([.ref (ad i), .int (zI (z))] : List Value).toArray below meth cZ (MQ below (zPost D A (rV0 N ad fun g' => (∃ F' : Nat → Int, g' i = mC ad i F' ∧ (F 51 ≤ F' 51 ∧ F' 51 ≤ F 51 + 6) ∧ (∀ f, f ≠ 51 → F' f = F f)) ∧ (∃ t' : Nat → Int, g' (i + 24) = iA cs 64 t') ∧ ∀ j, j ≠ i → j ≠ i + 24 → g' j = g j)) ([.ref (ad i), .int (zI (z))] : List Value).toArray sZ ({ frames := 2, cells := 0, slots := 0, locals := 120 } : Room).cells ({ frames := 2, cells := 0, slots := 0, locals := 120 } : Room).slots A) D A 5 (N) ad g1 (0) (0) 25 [(0, .ref (ad i)), (2, .int (zI (ww))), (3, .int (zI (at9))), (4, .int (zI (ii)))] [] := by
          intro n9
          induction n9 using Nat.strongRecOn with
          | ind n9 ih_lpI =>
            intro at9 g1 hm9 hg2 hw2
            subst hg2
            refine z_getSt C stm0 q_1667 dX10_saysKind_25 ?_
            refine z_iload_n C 2 dX10_saysKind_28 rfl ?_
            obtain ⟨yy17, eyy17, hyy17⟩ := zI_of (sq0.2.2.2.getD ((at9).toNat) 0)
            have hkyy17 := knQ (i := ni) (by omega) (a := at9) (by omega) eyy17 hyy17
            refine z_stbald (y := yy17) C stm0 ((at9).toNat) (by omega) (by rw [stl0]; omega) (by rw [stl0]; decide) eyy17 dX10_saysKind_29 ?_
            refine z_bipush (z := 32) C dX10_saysKind_30 (by decide) ?_
            refine z_icmp_eq (tgt := 41) C dX10_saysKind_32 (by decide) (by omega) (by omega) (fun hby18 => ?_) (fun hby18 => ?_)
            · refine z_iinc (z := at9 + 1) (lv' := [(3, .int (zI (at9 + 1))), (0, .ref (ad i)), (2, .int (zI (ww))), (4, .int (zI (ii)))]) (j := 2) C dX10_saysKind_41 rfl rfl (by decide) rfl ?_
              refine z_iinc (z := ii + 1) (lv' := [(4, .int (zI (ii + 1))), (3, .int (zI (at9 + 1))), (0, .ref (ad i)), (2, .int (zI (ww)))]) (j := 3) C dX10_saysKind_44 rfl rfl (by decide) rfl ?_
              refine z_goto (tgt := 19) C dX10_saysKind_47 (by decide) ?_
              have hkn := knN (i := ni) (by omega)
              refine z_lv (lv' := [(0, .ref (ad i)), (2, .int (zI (ww))), (3, .int (zI (at9 + 1))), (4, .int (zI (ii + 1)))]) [2, 3, 1, 0] rfl ?_
              exact ih_lpO _ (by omega) (ww) (at9 + 1) (ii + 1) (ni + 1) nw _ rfl rfl (by omega) (by omega)
            · refine z_iinc (z := at9 + 1) (lv' := [(3, .int (zI (at9 + 1))), (0, .ref (ad i)), (2, .int (zI (ww))), (4, .int (zI (ii)))]) (j := 2) C dX10_saysKind_35 rfl rfl (by decide) rfl ?_
              refine z_goto (tgt := 25) C dX10_saysKind_38 (by decide) ?_
              refine z_lv (lv' := [(0, .ref (ad i)), (2, .int (zI (ww))), (3, .int (zI (at9 + 1))), (4, .int (zI (ii)))]) [1, 2, 0, 3] rfl ?_
              exact ih_lpI _ (by omega) (at9 + 1) _ rfl rfl (by omega)
        refine z_lv (lv' := [(0, .ref (ad i)), (2, .int (zI (ww))), (3, .int (zI (at9))), (4, .int (zI (ii)))]) [0, 1, 2, 3] rfl ?_
        exact lpI _ (at9) _ rfl rfl (by omega)
  refine z_iload_n C 1 dX10_saysKind_0 rfl ?_
  refine z_iconst (z := 4) C dX10_saysKind_1 rfl ?_
  refine z_icmp_ne (tgt := 9) C dX10_saysKind_2 (by decide) (by omega) (by omega) (fun hby19 => ?_) (fun hby19 => ?_)
  · refine z_bipush (z := 9) C dX10_saysKind_9 (by decide) ?_
    refine z_iload_n C 1 dX10_saysKind_11 rfl ?_
    refine z_iadd C dX10_saysKind_12 ?_
    refine z_istore_n (lv' := [(2, .int (zI (9 + z))), (0, .ref (ad i)), (1, .int (zI (z)))]) C dX10_saysKind_13 rfl (by decide) rfl ?_
    refine z_iconst (z := 0) C dX10_saysKind_14 rfl ?_
    refine z_istore_n (lv' := [(3, .int (zI (0))), (2, .int (zI (9 + z))), (0, .ref (ad i)), (1, .int (zI (z)))]) C dX10_saysKind_15 rfl (by decide) rfl ?_
    refine z_iconst (z := 0) C dX10_saysKind_16 rfl ?_
    refine z_istore (lv' := [(4, .int (zI (0))), (3, .int (zI (0))), (2, .int (zI (9 + z))), (0, .ref (ad i)), (1, .int (zI (z)))]) C dX10_saysKind_17 (by decide) rfl ?_
    have hp00 : posF 0 = 0 := rfl
    obtain ⟨nw, hnw⟩ : ∃ n9 : Nat, 9 + z = (n9 : Int) := ⟨(9 + z : Int).toNat, by omega⟩
    refine z_lv (lv' := [(0, .ref (ad i)), (2, .int (zI (9 + z))), (3, .int (zI (0))), (4, .int (zI (0)))]) [3, 2, 1, 0] rfl ?_
    exact lpO _ (9 + z) (0) (0) 0 nw _ rfl rfl (by omega) (by omega)
  · refine z_iconst (z := 5) C dX10_saysKind_5 rfl ?_
    refine z_goto (tgt := 13) C dX10_saysKind_6 (by decide) ?_
    refine z_istore_n (lv' := [(2, .int (zI (5))), (0, .ref (ad i)), (1, .int (zI (z)))]) C dX10_saysKind_13 rfl (by decide) rfl ?_
    refine z_iconst (z := 0) C dX10_saysKind_14 rfl ?_
    refine z_istore_n (lv' := [(3, .int (zI (0))), (2, .int (zI (5))), (0, .ref (ad i)), (1, .int (zI (z)))]) C dX10_saysKind_15 rfl (by decide) rfl ?_
    refine z_iconst (z := 0) C dX10_saysKind_16 rfl ?_
    refine z_istore (lv' := [(4, .int (zI (0))), (3, .int (zI (0))), (2, .int (zI (5))), (0, .ref (ad i)), (1, .int (zI (z)))]) C dX10_saysKind_17 (by decide) rfl ?_
    have hp00 : posF 0 = 0 := rfl
    obtain ⟨nw, hnw⟩ : ∃ n9 : Nat, 5 = (n9 : Int) := ⟨(5 : Int).toNat, by omega⟩
    refine z_lv (lv' := [(0, .ref (ad i)), (2, .int (zI (5))), (3, .int (zI (0))), (4, .int (zI (0)))]) [3, 2, 1, 0] rfl ?_
    exact lpO _ (5) (0) (0) 0 nw _ rfl rfl (by omega) (by omega)

set_option maxRecDepth 100000 in
set_option maxHeartbeats 4000000 in
theorem c_X10_told_a (l : Launch) (D : va_G) (A : Nat → Prop) (cs : Nat → ClassId) (tt : Nat) (N : Nat) (ad : Nat → Nat) (g : Nat → va_E) (i : Nat) (hN : i + 30 ≤ N) (x : Int) (hx : 0 ≤ x ∧ x ≤ 512) (F r : Nat → Int) {st op ai fa mu tb tp : Nat → Int} (hM : okMr cs ad g i x F r st op ai fa mu tb tp) (hPl : F 25 = 0 ∧ F 26 = -1 ∧ F 27 = -1 ∧ F 29 = 0) (n : Nat) (hn4 : n < 4) (z1 : Int) (hz1 : -2147483648 ≤ z1 ∧ z1 ≤ 2147483647) (z2 : Int) (hz2 : -2147483648 ≤ z2 ∧ z2 ≤ 2147483647) : zM l yX10_told cX10_told 4 (some .int) ({ frames := 4, cells := 0, slots := 0, locals := 240 } : Room) D A cs tt N ad g [.ref (ad i), .int (zI ((n : Int))), .int (zI (z1)), .int (zI (z2))] (rI0 N ad fun q g' => (-2147483648 ≤ q ∧ q ≤ 2147483647) ∧ (∃ F' r' : Nat → Int, okMr cs ad g' i (x + 1) F' r' st op ai fa mu tb tp ∧ (F' 13 = F 13 ∧ F' 14 = F 14 ∧ F' 15 = F 15 ∧ F' 16 = F 16 ∧ F' 17 = F 17 ∧ F' 18 = F 18 ∧ F' 19 = F 19 ∧ F' 20 = F 20 ∧ F' 21 = F 21 ∧ F' 23 = F 23 ∧ F' 24 = F 24) ∧ (F' 25 = 0 ∧ F' 26 = -1 ∧ F' 27 = -1 ∧ F' 29 = 0) ∧ (∀ j, j < 350 ∨ 700 ≤ j → r' j = r j)) ∧ ∀ j, j < i ∨ i + 30 ≤ j ∨ (i + 8 ≤ j ∧ j ≤ i + 12) → g' j = g j) := by
  obtain ⟨hg, ⟨⟨e13, e14, e25, e27, e29⟩, k15, k16, k17, k18, k19, k20, k23, k21⟩, hRD, hTx, hA, ns, nh, nd, rf, pi, te, ki, li, ok1, ok2, fo, dd, dps, ⟨ha1, ha2, ha3, ha4, ha5, ha6, ha7, ha8, ha9, ha10, ha11, ha12, ha13, ha14, ha15, ha24, ha25, ha26, ha27, ha28, ha29⟩, hEv, hPt, hns, htp⟩ := id hM
  obtain ⟨-, hop, hai, hfa, hT, hT1⟩ := id hEv
  have hay1 : zAt ad (i) (ad i) := rfl
  have hay2 : zAt ad (i + 1) (ad (i + 1)) := rfl
  have hay3 : zAt ad (i + 2) (ad (i + 2)) := rfl
  have hay4 : zAt ad (i + 3) (ad (i + 3)) := rfl
  have hay5 : zAt ad (i + 4) (ad (i + 4)) := rfl
  have hay6 : zAt ad (i + 5) (ad (i + 5)) := rfl
  have hay7 : zAt ad (i + 6) (ad (i + 6)) := rfl
  have hay8 : zAt ad (i + 7) (ad (i + 7)) := rfl
  have hay9 : zAt ad (i + 8) (ad (i + 8)) := rfl
  have hay10 : zAt ad (i + 9) (ad (i + 9)) := rfl
  have hay11 : zAt ad (i + 10) (ad (i + 10)) := rfl
  have hay12 : zAt ad (i + 11) (ad (i + 11)) := rfl
  have hay13 : zAt ad (i + 12) (ad (i + 12)) := rfl
  have hay14 : zAt ad (i + 13) (ad (i + 13)) := rfl
  have hay15 : zAt ad (i + 14) (ad (i + 14)) := rfl
  have hay16 : zAt ad (i + 15) (ad (i + 15)) := rfl
  have hay17 : zAt ad (i + 24) (ad (i + 24)) := rfl
  have hay18 : zAt ad (i + 25) (ad (i + 25)) := rfl
  have hay19 : zAt ad (i + 26) (ad (i + 26)) := rfl
  have hay20 : zAt ad (i + 27) (ad (i + 27)) := rfl
  have hay21 : zAt ad (i + 28) (ad (i + 28)) := rfl
  have hay22 : zAt ad (i + 29) (ad (i + 29)) := rfl
  obtain ⟨⟨hsyy23, htyy23, hnyy23, hpyy23⟩, hlyy23⟩ := okA.at0 hA
  simp only [Nat.zero_add] at hsyy23 hnyy23 hpyy23
  have hmn : ∀ s, s < 4 → 0 ≤ r (6 + 86 * s) ∧ r (6 + 86 * s) ≤ 12 := fun s hs => (hsyy23 s hs).1
  have h5 : 0 ≤ r 5 ∧ r 5 ≤ 6 := hpyy23
  obtain ⟨hp25, hp26, hp27, hp29⟩ := id hPl
  refine z_of (by decide) (Nat.le_of_ble_eq_true rfl) ?_
  intro pZ eZ sZ mZ below meth cZ C hr hlk hnm
  refine z_lv (lv' := [(0, .ref (ad i)), (1, .int (zI ((n : Int)))), (2, .int (zI (z1))), (3, .int (zI (z2)))]) [0, 1, 2, 3] rfl ?_
  refine z_aload_n C 0 dX10_told_0 rfl ?_
  refine z_iconst (z := 0) C dX10_told_1 rfl ?_
  refine z_put (fs' := mF ad (i) (uZ F 12 (0))) C (lt_A0 hN rfl) hay1 hg tyX10 tyX10_ok nmX10 rfl inA_X10 12 (by decide) q_1471 rfl rfl rfl rfl (Nat.le_of_ble_eq_true rfl) rfl dX10_told_2 (fun gy24 egy25 => ?_)
  have hgy26 := up_s egy25
  refine z_aload_n C 0 dX10_told_5 rfl ?_
  refine z_iload_n C 1 dX10_told_6 rfl ?_
  refine z_iload_n C 2 dX10_told_7 rfl ?_
  have hgy27 := up_n egy25 ha1 (ne_o (i := i) (c := 1) (d := 0) rfl)
  have h13vy28 : (uZ F 12 (0)) 13 = F 13 := (fn rfl (by decide))
  have hey29 : (uZ F 12 (0)) 12 = 0 := (uZ_s _ _ _)
  obtain ⟨py30, hpy30⟩ : ∃ p9 : Nat, 0 + 6 + 86 * n = p9 := ⟨_, rfl⟩
  refine z_cV (As := [.int (zI ((n : Int))), .int (zI (z1))]) (rest := []) (ci := 12) C (c_X10_isLayer_a l D A cs tt N ad _ i hN _ hgy26 _ hgy27 hmn (by omega) (by omega) n py30 (by omega) (by omega) (z1) (by omega)) (lt_A0 hN rfl) hay1 hgy26 rfl rfl mv_yX10_isLayer q_1819 hd_yX10_isLayer (by decide) (Nat.le_of_ble_eq_true rfl) (by decide) dX10_told_8 rfl (kI0 fun vy28 gvy28 hvy28 => ?_)
  rw [h13vy28] at hvy28
  obtain ⟨hrvy28, ⟨Fvy28, hcvy28, htvy28, hFvy28⟩, hfvy28⟩ := hvy28
  rcases (show vy28 = 1 ∨ vy28 = 0 by omega) with rfl | rfl
  · have hxvy28 := hrvy28.2 rfl
    have hmpy30 := hmn n (by omega)
    rw [show 6 + 86 * n = py30 by omega] at hmpy30
    refine z_if_ne (tgt := 16) C dX10_told_11 (by decide) (by omega) (fun _ => ?_) (fun h => absurd h (by omega))
    refine z_aload_n C 0 dX10_told_16 rfl ?_
    refine z_iconst (z := 0) C dX10_told_17 rfl ?_
    refine z_put (fs' := mF ad (i) (uZ Fvy28 51 (0))) C (lt_A0 hN rfl) hay1 hcvy28 tyX10 tyX10_ok nmX10 rfl inA_X10 51 (by decide) q_1510 rfl rfl rfl rfl (Nat.le_of_ble_eq_true rfl) rfl dX10_told_18 (fun gy31 egy32 => ?_)
    have hgy33 := up_s egy32
    refine z_aload_n C 0 dX10_told_21 rfl ?_
    refine z_aload_n C 0 dX10_told_22 rfl ?_
    refine z_iconst (z := 0) C dX10_told_23 rfl ?_
    refine z_iload_n C 1 dX10_told_24 rfl ?_
    refine z_iload_n C 2 dX10_told_25 rfl ?_
    refine z_bipush (z := 6) C dX10_told_26 (by decide) ?_
    have hSy34 := ((okA.at0 hA).1.1 n (by omega)).of (p2 := py30) (by omega)
    obtain ⟨b1hSy34, b2hSy34, b3hSy34, b4hSy34⟩ := mBb (t := r 0 + x) (by omega)
    have hmky35 := hSy34.1
    obtain ⟨ky36, hky36⟩ : ∃ k9 : Nat, (z1) = (k9 : Int) := ⟨((z1) : Int).toNat, by omega⟩
    obtain ⟨qy37, hqy37⟩ : ∃ q9 : Nat, py30 + 2 + 7 * ky36 = q9 := ⟨_, rfl⟩
    obtain ⟨⟨hKzy38, hIzy38, hWzy38, hDzy38, hTzy38, hnzy38⟩, hmzy38, hdzy38⟩ := okS.layer hSy34 (k := ky36) (by omega) hqy37
    have hgy39 := (hfvy28 (i + 1) (ne_o (i := i) (c := 1) (d := 0) rfl)).trans hgy27
    have hgy40 := up_n egy32 hgy39 (ne_o (i := i) (c := 1) (d := 0) rfl)
    refine z_cV (As := [.int (zI (0)), .int (zI ((n : Int))), .int (zI (z1)), .int (zI (6))]) (rest := [.ref (ad i)]) (ci := 12) C (c_X10_of l D A cs tt N ad _ i hN _ hgy33 _ hgy40 0 n py30 hpy30 (by omega) (by omega) (z1) (6) (qy37 + 6) (by omega) (by omega) (by omega)) (lt_A0 hN rfl) hay1 hgy33 rfl rfl mv_yX10_of q_1749 hd_yX10_of (by decide) (Nat.le_of_ble_eq_true rfl) (by decide) dX10_told_28 rfl (kI0 fun vy41 gvy41 hvy41 => ?_)
    obtain ⟨rfl, rfl⟩ := hvy41
    have hgy42 := up_n egy25 ha24 (ne_o (i := i) (c := 24) (d := 0) rfl)
    have hgy43 := (hfvy28 (i + 24) (ne_o (i := i) (c := 24) (d := 0) rfl)).trans hgy42
    have hgy44 := up_n egy32 hgy43 (ne_o (i := i) (c := 24) (d := 0) rfl)
    have hey46 : (uZ Fvy28 51 (0)) 51 = 0 := (uZ_s _ _ _)
    refine z_cV (As := [.int (zI (r (qy37 + 6)))]) (rest := []) (ci := 12) C (c_X10_saysNumber5 l D A cs tt N ad _ i hN _ hgy33 _ hgy44 (by omega) (r (qy37 + 6)) (by omega)) (lt_A0 hN rfl) hay1 hgy33 rfl rfl mv_yX10_saysNumber q_1846 hd_yX10_saysNumber (by decide) (Nat.le_of_ble_eq_true rfl) (by decide) dX10_told_31 rfl (kV0 fun gvy45 hvy45 => ?_)
    obtain ⟨⟨Fvy45, hcvy45, hnvy45, hFvy45⟩, ⟨tvy45, htvy45⟩, hfvy45⟩ := hvy45
    have hovy45 : (uZ Fvy28 51 (0)) 51 = 0 := (uZ_s _ _ _)
    refine z_aload_n C 0 dX10_told_34 rfl ?_
    refine z_bipush (z := 32) C dX10_told_35 (by decide) ?_
    have hey48 : Fvy45 51 = Fvy45 51 := rfl
    refine z_cV (As := [.int (zI (32))]) (rest := []) (ci := 12) C (c_X10_says l D A cs tt N ad _ i hN _ hcvy45 _ htvy45 (by omega) (32)) (lt_A0 hN rfl) hay1 hcvy45 rfl rfl mv_yX10_says q_1850 hd_yX10_says (by decide) (Nat.le_of_ble_eq_true rfl) (by decide) dX10_told_37 rfl (kV0 fun gvy47 hvy47 => ?_)
    obtain ⟨⟨Fvy47, hcvy47, hnvy47, hFvy47⟩, ⟨tvy47, htvy47⟩, hfvy47⟩ := hvy47
    have hovy47 : Fvy45 51 = Fvy45 51 := rfl
    have hqvy47 : Fvy47 51 = Fvy45 51 + 1 := by omega
    clear hnvy47 hovy47
    refine z_aload_n C 0 dX10_told_40 rfl ?_
    refine z_aload_n C 0 dX10_told_41 rfl ?_
    refine z_iconst (z := 0) C dX10_told_42 rfl ?_
    refine z_iload_n C 1 dX10_told_43 rfl ?_
    refine z_iload_n C 2 dX10_told_44 rfl ?_
    refine z_iconst (z := 0) C dX10_told_45 rfl ?_
    have hgy49 := (hfvy45 (i + 1) (ne_o (i := i) (c := 1) (d := 0) rfl) (ne_o (i := i) (c := 1) (d := 24) rfl)).trans hgy40
    have hgy50 := (hfvy47 (i + 1) (ne_o (i := i) (c := 1) (d := 0) rfl) (ne_o (i := i) (c := 1) (d := 24) rfl)).trans hgy49
    refine z_cV (As := [.int (zI (0)), .int (zI ((n : Int))), .int (zI (z1)), .int (zI (0))]) (rest := [.ref (ad i)]) (ci := 12) C (c_X10_of l D A cs tt N ad _ i hN _ hcvy47 _ hgy50 0 n py30 hpy30 (by omega) (by omega) (z1) (0) (qy37) (by omega) (by omega) (by omega)) (lt_A0 hN rfl) hay1 hcvy47 rfl rfl mv_yX10_of q_1749 hd_yX10_of (by decide) (Nat.le_of_ble_eq_true rfl) (by decide) dX10_told_46 rfl (kI0 fun vy51 gvy51 hvy51 => ?_)
    obtain ⟨rfl, rfl⟩ := hvy51
    have hey53 : Fvy47 51 = Fvy45 51 + 1 := hqvy47
    refine z_cV (As := [.int (zI (r (qy37)))]) (rest := []) (ci := 12) C (c_X10_saysKind l D A cs tt N ad _ i hN _ hcvy47 _ htvy47 (by omega) (r (qy37)) (by omega)) (lt_A0 hN rfl) hay1 hcvy47 rfl rfl mv_yX10_saysKind q_1854 hd_yX10_saysKind (by decide) (Nat.le_of_ble_eq_true rfl) (by decide) dX10_told_49 rfl (kV0 fun gvy52 hvy52 => ?_)
    obtain ⟨⟨Fvy52, hcvy52, hnvy52, hFvy52⟩, ⟨tvy52, htvy52⟩, hfvy52⟩ := hvy52
    have hovy52 : Fvy47 51 = Fvy45 51 + 1 := hqvy47
    refine z_aload_n C 0 dX10_told_52 rfl ?_
    refine z_bipush (z := 111) C dX10_told_53 (by decide) ?_
    refine z_bipush (z := 102) C dX10_told_55 (by decide) ?_
    have hey55 : Fvy52 51 = Fvy52 51 := rfl
    refine z_cV (As := [.int (zI (111)), .int (zI (102))]) (rest := []) (ci := 12) C (c_X10_saysWord l D A cs tt N ad _ i hN _ hcvy52 _ htvy52 (by omega) (111) (102)) (lt_A0 hN rfl) hay1 hcvy52 rfl rfl mv_yX10_saysWord q_1858 hd_yX10_saysWord (by decide) (Nat.le_of_ble_eq_true rfl) (by decide) dX10_told_57 rfl (kV0 fun gvy54 hvy54 => ?_)
    obtain ⟨⟨Fvy54, hcvy54, hnvy54, hFvy54⟩, ⟨tvy54, htvy54⟩, hfvy54⟩ := hvy54
    have hovy54 : Fvy52 51 = Fvy52 51 := rfl
    have hqvy54 : Fvy54 51 = Fvy52 51 + 4 := by omega
    clear hnvy54 hovy54
    refine z_aload_n C 0 dX10_told_60 rfl ?_
    refine z_aload_n C 0 dX10_told_61 rfl ?_
    refine z_iconst (z := 0) C dX10_told_62 rfl ?_
    refine z_iload_n C 1 dX10_told_63 rfl ?_
    refine z_iload_n C 2 dX10_told_64 rfl ?_
    refine z_iconst (z := 1) C dX10_told_65 rfl ?_
    have hgy56 := (hfvy52 (i + 1) (ne_o (i := i) (c := 1) (d := 0) rfl) (ne_o (i := i) (c := 1) (d := 24) rfl)).trans hgy50
    have hgy57 := (hfvy54 (i + 1) (ne_o (i := i) (c := 1) (d := 0) rfl) (ne_o (i := i) (c := 1) (d := 24) rfl)).trans hgy56
    refine z_cV (As := [.int (zI (0)), .int (zI ((n : Int))), .int (zI (z1)), .int (zI (1))]) (rest := [.ref (ad i)]) (ci := 12) C (c_X10_of l D A cs tt N ad _ i hN _ hcvy54 _ hgy57 0 n py30 hpy30 (by omega) (by omega) (z1) (1) (qy37 + 1) (by omega) (by omega) (by omega)) (lt_A0 hN rfl) hay1 hcvy54 rfl rfl mv_yX10_of q_1749 hd_yX10_of (by decide) (Nat.le_of_ble_eq_true rfl) (by decide) dX10_told_66 rfl (kI0 fun vy58 gvy58 hvy58 => ?_)
    obtain ⟨rfl, rfl⟩ := hvy58
    have hey60 : Fvy54 51 = Fvy52 51 + 4 := hqvy54
    refine z_cV (As := [.int (zI (r (qy37 + 1)))]) (rest := []) (ci := 12) C (c_X10_saysNumber9 l D A cs tt N ad _ i hN _ hcvy54 _ htvy54 (by omega) (r (qy37 + 1)) (by omega)) (lt_A0 hN rfl) hay1 hcvy54 rfl rfl mv_yX10_saysNumber q_1846 hd_yX10_saysNumber (by decide) (Nat.le_of_ble_eq_true rfl) (by decide) dX10_told_69 rfl (kV0 fun gvy59 hvy59 => ?_)
    obtain ⟨⟨Fvy59, hcvy59, hnvy59, hFvy59⟩, ⟨tvy59, htvy59⟩, hfvy59⟩ := hvy59
    have hovy59 : Fvy54 51 = Fvy52 51 + 4 := hqvy54
    refine z_aload_n C 0 dX10_told_72 rfl ?_
    refine z_iconst (z := 0) C dX10_told_73 rfl ?_
    refine z_iload_n C 1 dX10_told_74 rfl ?_
    refine z_iload_n C 2 dX10_told_75 rfl ?_
    refine z_iconst (z := 2) C dX10_told_76 rfl ?_
    have hgy61 := (hfvy59 (i + 1) (ne_o (i := i) (c := 1) (d := 0) rfl) (ne_o (i := i) (c := 1) (d := 24) rfl)).trans hgy57
    refine z_cV (As := [.int (zI (0)), .int (zI ((n : Int))), .int (zI (z1)), .int (zI (2))]) (rest := []) (ci := 12) C (c_X10_of l D A cs tt N ad _ i hN _ hcvy59 _ hgy61 0 n py30 hpy30 (by omega) (by omega) (z1) (2) (qy37 + 2) (by omega) (by omega) (by omega)) (lt_A0 hN rfl) hay1 hcvy59 rfl rfl mv_yX10_of q_1749 hd_yX10_of (by decide) (Nat.le_of_ble_eq_true rfl) (by decide) dX10_told_77 rfl (kI0 fun vy62 gvy62 hvy62 => ?_)
    obtain ⟨rfl, rfl⟩ := hvy62
    refine z_if_le (tgt := 125) C dX10_told_80 (by decide) (by omega) (fun hby63 => ?_) (fun hby63 => ?_)
    · refine z_aload_n C 0 dX10_told_125 rfl ?_
      refine z_bipush (z := 105) C dX10_told_126 (by decide) ?_
      refine z_bipush (z := 110) C dX10_told_128 (by decide) ?_
      have hey65 : Fvy59 51 = Fvy59 51 := rfl
      refine z_cV (As := [.int (zI (105)), .int (zI (110))]) (rest := []) (ci := 12) C (c_X10_saysWord l D A cs tt N ad _ i hN _ hcvy59 _ htvy59 (by omega) (105) (110)) (lt_A0 hN rfl) hay1 hcvy59 rfl rfl mv_yX10_saysWord q_1858 hd_yX10_saysWord (by decide) (Nat.le_of_ble_eq_true rfl) (by decide) dX10_told_130 rfl (kV0 fun gvy64 hvy64 => ?_)
      obtain ⟨⟨Fvy64, hcvy64, hnvy64, hFvy64⟩, ⟨tvy64, htvy64⟩, hfvy64⟩ := hvy64
      have hovy64 : Fvy59 51 = Fvy59 51 := rfl
      have hqvy64 : Fvy64 51 = Fvy59 51 + 4 := by omega
      clear hnvy64 hovy64
      refine z_aload_n C 0 dX10_told_133 rfl ?_
      refine z_aload_n C 0 dX10_told_134 rfl ?_
      refine z_iconst (z := 0) C dX10_told_135 rfl ?_
      refine z_iload_n C 1 dX10_told_136 rfl ?_
      refine z_iload_n C 2 dX10_told_137 rfl ?_
      refine z_iconst (z := 3) C dX10_told_138 rfl ?_
      have hgy66 := (hfvy64 (i + 1) (ne_o (i := i) (c := 1) (d := 0) rfl) (ne_o (i := i) (c := 1) (d := 24) rfl)).trans hgy61
      refine z_cV (As := [.int (zI (0)), .int (zI ((n : Int))), .int (zI (z1)), .int (zI (3))]) (rest := [.ref (ad i)]) (ci := 12) C (c_X10_of l D A cs tt N ad _ i hN _ hcvy64 _ hgy66 0 n py30 hpy30 (by omega) (by omega) (z1) (3) (qy37 + 3) (by omega) (by omega) (by omega)) (lt_A0 hN rfl) hay1 hcvy64 rfl rfl mv_yX10_of q_1749 hd_yX10_of (by decide) (Nat.le_of_ble_eq_true rfl) (by decide) dX10_told_139 rfl (kI0 fun vy67 gvy67 hvy67 => ?_)
      obtain ⟨rfl, rfl⟩ := hvy67
      have hey69 : Fvy64 51 = Fvy59 51 + 4 := hqvy64
      refine z_cV (As := [.int (zI (r (qy37 + 3)))]) (rest := []) (ci := 12) C (c_X10_saysNumber9 l D A cs tt N ad _ i hN _ hcvy64 _ htvy64 (by omega) (r (qy37 + 3)) (by omega)) (lt_A0 hN rfl) hay1 hcvy64 rfl rfl mv_yX10_saysNumber q_1846 hd_yX10_saysNumber (by decide) (Nat.le_of_ble_eq_true rfl) (by decide) dX10_told_142 rfl (kV0 fun gvy68 hvy68 => ?_)
      obtain ⟨⟨Fvy68, hcvy68, hnvy68, hFvy68⟩, ⟨tvy68, htvy68⟩, hfvy68⟩ := hvy68
      have hovy68 : Fvy64 51 = Fvy59 51 + 4 := hqvy64
      refine z_aload_n C 0 dX10_told_145 rfl ?_
      refine z_bipush (z := 97) C dX10_told_146 (by decide) ?_
      refine z_bipush (z := 116) C dX10_told_148 (by decide) ?_
      have hey71 : Fvy68 51 = Fvy68 51 := rfl
      refine z_cV (As := [.int (zI (97)), .int (zI (116))]) (rest := []) (ci := 12) C (c_X10_saysWord l D A cs tt N ad _ i hN _ hcvy68 _ htvy68 (by omega) (97) (116)) (lt_A0 hN rfl) hay1 hcvy68 rfl rfl mv_yX10_saysWord q_1858 hd_yX10_saysWord (by decide) (Nat.le_of_ble_eq_true rfl) (by decide) dX10_told_150 rfl (kV0 fun gvy70 hvy70 => ?_)
      obtain ⟨⟨Fvy70, hcvy70, hnvy70, hFvy70⟩, ⟨tvy70, htvy70⟩, hfvy70⟩ := hvy70
      have hovy70 : Fvy68 51 = Fvy68 51 := rfl
      have hqvy70 : Fvy70 51 = Fvy68 51 + 4 := by omega
      clear hnvy70 hovy70
      refine z_aload_n C 0 dX10_told_153 rfl ?_
      refine z_aload_n C 0 dX10_told_154 rfl ?_
      refine z_iconst (z := 0) C dX10_told_155 rfl ?_
      refine z_iload_n C 1 dX10_told_156 rfl ?_
      refine z_iload_n C 2 dX10_told_157 rfl ?_
      refine z_iconst (z := 4) C dX10_told_158 rfl ?_
      have hgy72 := (hfvy68 (i + 1) (ne_o (i := i) (c := 1) (d := 0) rfl) (ne_o (i := i) (c := 1) (d := 24) rfl)).trans hgy66
      have hgy73 := (hfvy70 (i + 1) (ne_o (i := i) (c := 1) (d := 0) rfl) (ne_o (i := i) (c := 1) (d := 24) rfl)).trans hgy72
      refine z_cV (As := [.int (zI (0)), .int (zI ((n : Int))), .int (zI (z1)), .int (zI (4))]) (rest := [.ref (ad i)]) (ci := 12) C (c_X10_of l D A cs tt N ad _ i hN _ hcvy70 _ hgy73 0 n py30 hpy30 (by omega) (by omega) (z1) (4) (qy37 + 4) (by omega) (by omega) (by omega)) (lt_A0 hN rfl) hay1 hcvy70 rfl rfl mv_yX10_of q_1749 hd_yX10_of (by decide) (Nat.le_of_ble_eq_true rfl) (by decide) dX10_told_159 rfl (kI0 fun vy74 gvy74 hvy74 => ?_)
      obtain ⟨rfl, rfl⟩ := hvy74
      have hey76 : Fvy70 51 = Fvy68 51 + 4 := hqvy70
      refine z_cV (As := [.int (zI (r (qy37 + 4)))]) (rest := []) (ci := 12) C (c_X10_saysNumber5 l D A cs tt N ad _ i hN _ hcvy70 _ htvy70 (by omega) (r (qy37 + 4)) (by omega)) (lt_A0 hN rfl) hay1 hcvy70 rfl rfl mv_yX10_saysNumber q_1846 hd_yX10_saysNumber (by decide) (Nat.le_of_ble_eq_true rfl) (by decide) dX10_told_162 rfl (kV0 fun gvy75 hvy75 => ?_)
      obtain ⟨⟨Fvy75, hcvy75, hnvy75, hFvy75⟩, ⟨tvy75, htvy75⟩, hfvy75⟩ := hvy75
      have hovy75 : Fvy70 51 = Fvy68 51 + 4 := hqvy70
      refine z_aload_n C 0 dX10_told_165 rfl ?_
      refine z_bipush (z := 59) C dX10_told_166 (by decide) ?_
      have hey78 : Fvy75 51 = Fvy75 51 := rfl
      refine z_cV (As := [.int (zI (59))]) (rest := []) (ci := 12) C (c_X10_says l D A cs tt N ad _ i hN _ hcvy75 _ htvy75 (by omega) (59)) (lt_A0 hN rfl) hay1 hcvy75 rfl rfl mv_yX10_says q_1850 hd_yX10_says (by decide) (Nat.le_of_ble_eq_true rfl) (by decide) dX10_told_168 rfl (kV0 fun gvy77 hvy77 => ?_)
      obtain ⟨⟨Fvy77, hcvy77, hnvy77, hFvy77⟩, ⟨tvy77, htvy77⟩, hfvy77⟩ := hvy77
      have hovy77 : Fvy75 51 = Fvy75 51 := rfl
      have hqvy77 : Fvy77 51 = Fvy75 51 + 1 := by omega
      clear hnvy77 hovy77
      refine z_iload_n C 3 dX10_told_171 rfl ?_
      refine z_iconst (z := -1) C dX10_told_172 rfl ?_
      refine z_icmp_ne (tgt := 181) C dX10_told_173 (by decide) (by omega) (by omega) (fun hby79 => ?_) (fun hby79 => ?_)
      · refine z_aload_n C 0 dX10_told_181 rfl ?_
        refine z_iload_n C 3 dX10_told_182 rfl ?_
        refine z_iconst (z := 0) C dX10_told_183 rfl ?_
        refine z_aload_n C 0 dX10_told_184 rfl ?_
        refine z_get (v := .int (zI (Fvy75 51 + 1))) C (lt_A0 hN rfl) hay1 hcvy77 rfl inA_X10 51 (by decide) q_1510 rfl (fv (F := Fvy77) (f := 51) hqvy77) dX10_told_185 ?_
        refine z_iconst (z := 1) C dX10_told_188 rfl ?_
        refine z_isub C dX10_told_189 ?_
        refine z_cS (As := [.int (zI (z2)), .int (zI (0)), .int (zI ((Fvy75 51 + 1) - 1))]) (rest := [.ref (ad i)]) C (c_X10_within l D A cs tt N ad _ (z2) (by omega) (0) (by omega) ((Fvy75 51 + 1) - 1) (by omega)) ms_yX10_within q_1686 hd_yX10_within (by decide) (Nat.le_of_ble_eq_true rfl) (by decide) dX10_told_190 rfl (kI0 fun vy80 gvy80 hvy80 => ?_)
        obtain ⟨hvy80, rfl⟩ := hvy80
        rcases hvy80 with ⟨rfl, hxvy80⟩ | ⟨rfl, hxvy80⟩
        · refine z_iconst (z := 1) C dX10_told_193 rfl ?_
          have hey82 : Fvy77 12 = Fvy28 12 := ((hFvy77 12 (by decide)).trans ((hFvy75 12 (by decide)).trans ((hFvy70 12 (by decide)).trans ((hFvy68 12 (by decide)).trans ((hFvy64 12 (by decide)).trans ((hFvy59 12 (by decide)).trans ((hFvy54 12 (by decide)).trans ((hFvy52 12 (by decide)).trans ((hFvy47 12 (by decide)).trans ((hFvy45 12 (by decide)).trans (fn rfl (by decide))))))))))))
          refine z_cV (As := [.int (zI (1)), .int (zI (1))]) (rest := []) (ci := 12) C (c_X10_right l D A cs tt N ad _ i hN _ hcvy77 (by omega) (1) (by omega) (1) (by omega)) (lt_A0 hN rfl) hay1 hcvy77 rfl rfl mv_yX10_right q_1648 hd_yX10_right (by decide) (Nat.le_of_ble_eq_true rfl) (by decide) dX10_told_194 rfl (kI0 fun vy81 gvy81 hvy81 => ?_)
          obtain ⟨hrvy81, ⟨Fvy81, hcvy81, htvy81, hFvy81⟩, hfvy81⟩ := hvy81
          rcases (show vy81 = 1 ∨ vy81 = 0 by omega) with rfl | rfl
          · refine z_if_eq (tgt := 209) C dX10_told_197 (by decide) (by omega) (fun h => absurd h (by omega)) (fun _ => ?_)
            refine z_aload_n C 0 dX10_told_200 rfl ?_
            refine z_get (v := .ref (ad (i + 24))) C (lt_A0 hN rfl) hay1 hcvy81 rfl inA_X10 50 (by decide) q_1509 rfl rfl dX10_told_201 ?_
            refine z_iload_n C 3 dX10_told_204 rfl ?_
            have hgy83 := (hfvy81 (i + 24) (ne_o (i := i) (c := 24) (d := 0) rfl)).trans htvy77
            refine z_iald C (lt_A (c := 24) hN rfl) hay17 hgy83 ((z2).toNat) (by omega) (by omega) (by decide) dX10_told_205 ?_
            refine z_goto (tgt := 210) C dX10_told_206 (by decide) ?_
            obtain ⟨xy84, exy85, hxy86⟩ := zI_of (zI (tvy77 ((z2).toNat)))
            rw [exy85]
            have hgy87 := (hfvy75 (i + 1) (ne_o (i := i) (c := 1) (d := 0) rfl) (ne_o (i := i) (c := 1) (d := 24) rfl)).trans hgy73
            have hgy88 := (hfvy77 (i + 1) (ne_o (i := i) (c := 1) (d := 0) rfl) (ne_o (i := i) (c := 1) (d := 24) rfl)).trans hgy87
            have hgy89 := (hfvy81 (i + 1) (ne_o (i := i) (c := 1) (d := 0) rfl)).trans hgy88
            have hFy90 : ∀ f, f ≠ 12 → f ≠ 51 → Fvy81 f = F f := fun f n12 n51 => ((hFvy81 f n12).trans ((hFvy77 f n51).trans ((hFvy75 f n51).trans ((hFvy70 f n51).trans ((hFvy68 f n51).trans ((hFvy64 f n51).trans ((hFvy59 f n51).trans ((hFvy54 f n51).trans ((hFvy52 f n51).trans ((hFvy47 f n51).trans ((hFvy45 f n51).trans ((uZ_n _ _ n51).trans ((hFvy28 f n12).trans ((uZ_n _ _ n12).trans rfl))))))))))))))
            have hey91 : Fvy81 13 = F 13 := ((hFvy81 13 (by decide)).trans ((hFvy77 13 (by decide)).trans ((hFvy75 13 (by decide)).trans ((hFvy70 13 (by decide)).trans ((hFvy68 13 (by decide)).trans ((hFvy64 13 (by decide)).trans ((hFvy59 13 (by decide)).trans ((hFvy54 13 (by decide)).trans ((hFvy52 13 (by decide)).trans ((hFvy47 13 (by decide)).trans ((hFvy45 13 (by decide)).trans (fn ((hFvy28 13 (by decide)).trans (fn rfl (by decide))) (by decide)))))))))))))
            have hey92 : Fvy81 14 = F 14 := ((hFvy81 14 (by decide)).trans ((hFvy77 14 (by decide)).trans ((hFvy75 14 (by decide)).trans ((hFvy70 14 (by decide)).trans ((hFvy68 14 (by decide)).trans ((hFvy64 14 (by decide)).trans ((hFvy59 14 (by decide)).trans ((hFvy54 14 (by decide)).trans ((hFvy52 14 (by decide)).trans ((hFvy47 14 (by decide)).trans ((hFvy45 14 (by decide)).trans (fn ((hFvy28 14 (by decide)).trans (fn rfl (by decide))) (by decide)))))))))))))
            have hey93 : Fvy81 15 = F 15 := ((hFvy81 15 (by decide)).trans ((hFvy77 15 (by decide)).trans ((hFvy75 15 (by decide)).trans ((hFvy70 15 (by decide)).trans ((hFvy68 15 (by decide)).trans ((hFvy64 15 (by decide)).trans ((hFvy59 15 (by decide)).trans ((hFvy54 15 (by decide)).trans ((hFvy52 15 (by decide)).trans ((hFvy47 15 (by decide)).trans ((hFvy45 15 (by decide)).trans (fn ((hFvy28 15 (by decide)).trans (fn rfl (by decide))) (by decide)))))))))))))
            have hey94 : Fvy81 16 = F 16 := ((hFvy81 16 (by decide)).trans ((hFvy77 16 (by decide)).trans ((hFvy75 16 (by decide)).trans ((hFvy70 16 (by decide)).trans ((hFvy68 16 (by decide)).trans ((hFvy64 16 (by decide)).trans ((hFvy59 16 (by decide)).trans ((hFvy54 16 (by decide)).trans ((hFvy52 16 (by decide)).trans ((hFvy47 16 (by decide)).trans ((hFvy45 16 (by decide)).trans (fn ((hFvy28 16 (by decide)).trans (fn rfl (by decide))) (by decide)))))))))))))
            have hey95 : Fvy81 17 = F 17 := ((hFvy81 17 (by decide)).trans ((hFvy77 17 (by decide)).trans ((hFvy75 17 (by decide)).trans ((hFvy70 17 (by decide)).trans ((hFvy68 17 (by decide)).trans ((hFvy64 17 (by decide)).trans ((hFvy59 17 (by decide)).trans ((hFvy54 17 (by decide)).trans ((hFvy52 17 (by decide)).trans ((hFvy47 17 (by decide)).trans ((hFvy45 17 (by decide)).trans (fn ((hFvy28 17 (by decide)).trans (fn rfl (by decide))) (by decide)))))))))))))
            have hey96 : Fvy81 18 = F 18 := ((hFvy81 18 (by decide)).trans ((hFvy77 18 (by decide)).trans ((hFvy75 18 (by decide)).trans ((hFvy70 18 (by decide)).trans ((hFvy68 18 (by decide)).trans ((hFvy64 18 (by decide)).trans ((hFvy59 18 (by decide)).trans ((hFvy54 18 (by decide)).trans ((hFvy52 18 (by decide)).trans ((hFvy47 18 (by decide)).trans ((hFvy45 18 (by decide)).trans (fn ((hFvy28 18 (by decide)).trans (fn rfl (by decide))) (by decide)))))))))))))
            have hey97 : Fvy81 19 = F 19 := ((hFvy81 19 (by decide)).trans ((hFvy77 19 (by decide)).trans ((hFvy75 19 (by decide)).trans ((hFvy70 19 (by decide)).trans ((hFvy68 19 (by decide)).trans ((hFvy64 19 (by decide)).trans ((hFvy59 19 (by decide)).trans ((hFvy54 19 (by decide)).trans ((hFvy52 19 (by decide)).trans ((hFvy47 19 (by decide)).trans ((hFvy45 19 (by decide)).trans (fn ((hFvy28 19 (by decide)).trans (fn rfl (by decide))) (by decide)))))))))))))
            have hey98 : Fvy81 20 = F 20 := ((hFvy81 20 (by decide)).trans ((hFvy77 20 (by decide)).trans ((hFvy75 20 (by decide)).trans ((hFvy70 20 (by decide)).trans ((hFvy68 20 (by decide)).trans ((hFvy64 20 (by decide)).trans ((hFvy59 20 (by decide)).trans ((hFvy54 20 (by decide)).trans ((hFvy52 20 (by decide)).trans ((hFvy47 20 (by decide)).trans ((hFvy45 20 (by decide)).trans (fn ((hFvy28 20 (by decide)).trans (fn rfl (by decide))) (by decide)))))))))))))
            have hey99 : Fvy81 21 = F 21 := ((hFvy81 21 (by decide)).trans ((hFvy77 21 (by decide)).trans ((hFvy75 21 (by decide)).trans ((hFvy70 21 (by decide)).trans ((hFvy68 21 (by decide)).trans ((hFvy64 21 (by decide)).trans ((hFvy59 21 (by decide)).trans ((hFvy54 21 (by decide)).trans ((hFvy52 21 (by decide)).trans ((hFvy47 21 (by decide)).trans ((hFvy45 21 (by decide)).trans (fn ((hFvy28 21 (by decide)).trans (fn rfl (by decide))) (by decide)))))))))))))
            have hey100 : Fvy81 23 = F 23 := ((hFvy81 23 (by decide)).trans ((hFvy77 23 (by decide)).trans ((hFvy75 23 (by decide)).trans ((hFvy70 23 (by decide)).trans ((hFvy68 23 (by decide)).trans ((hFvy64 23 (by decide)).trans ((hFvy59 23 (by decide)).trans ((hFvy54 23 (by decide)).trans ((hFvy52 23 (by decide)).trans ((hFvy47 23 (by decide)).trans ((hFvy45 23 (by decide)).trans (fn ((hFvy28 23 (by decide)).trans (fn rfl (by decide))) (by decide)))))))))))))
            have hey101 : Fvy81 25 = F 25 := ((hFvy81 25 (by decide)).trans ((hFvy77 25 (by decide)).trans ((hFvy75 25 (by decide)).trans ((hFvy70 25 (by decide)).trans ((hFvy68 25 (by decide)).trans ((hFvy64 25 (by decide)).trans ((hFvy59 25 (by decide)).trans ((hFvy54 25 (by decide)).trans ((hFvy52 25 (by decide)).trans ((hFvy47 25 (by decide)).trans ((hFvy45 25 (by decide)).trans (fn ((hFvy28 25 (by decide)).trans (fn rfl (by decide))) (by decide)))))))))))))
            have hey102 : Fvy81 27 = F 27 := ((hFvy81 27 (by decide)).trans ((hFvy77 27 (by decide)).trans ((hFvy75 27 (by decide)).trans ((hFvy70 27 (by decide)).trans ((hFvy68 27 (by decide)).trans ((hFvy64 27 (by decide)).trans ((hFvy59 27 (by decide)).trans ((hFvy54 27 (by decide)).trans ((hFvy52 27 (by decide)).trans ((hFvy47 27 (by decide)).trans ((hFvy45 27 (by decide)).trans (fn ((hFvy28 27 (by decide)).trans (fn rfl (by decide))) (by decide)))))))))))))
            have hey103 : Fvy81 28 = F 28 := ((hFvy81 28 (by decide)).trans ((hFvy77 28 (by decide)).trans ((hFvy75 28 (by decide)).trans ((hFvy70 28 (by decide)).trans ((hFvy68 28 (by decide)).trans ((hFvy64 28 (by decide)).trans ((hFvy59 28 (by decide)).trans ((hFvy54 28 (by decide)).trans ((hFvy52 28 (by decide)).trans ((hFvy47 28 (by decide)).trans ((hFvy45 28 (by decide)).trans (fn ((hFvy28 28 (by decide)).trans (fn rfl (by decide))) (by decide)))))))))))))
            have hey104 : Fvy81 29 = F 29 := ((hFvy81 29 (by decide)).trans ((hFvy77 29 (by decide)).trans ((hFvy75 29 (by decide)).trans ((hFvy70 29 (by decide)).trans ((hFvy68 29 (by decide)).trans ((hFvy64 29 (by decide)).trans ((hFvy59 29 (by decide)).trans ((hFvy54 29 (by decide)).trans ((hFvy52 29 (by decide)).trans ((hFvy47 29 (by decide)).trans ((hFvy45 29 (by decide)).trans (fn ((hFvy28 29 (by decide)).trans (fn rfl (by decide))) (by decide)))))))))))))
            have hKy105 : okF Fvy81 := okF.mv hM.2.1 hey91 hey92 hey93 hey94 hey95 hey96 hey97 hey98 hey99 hey100 hey101 hey102 hey103 hey104
            have hMy106 : okMr cs ad gvy81 i (x + 1) Fvy81 r st op ai fa mu tb tp := okMr.upd hM hcvy81 hKy105 (fun f a => hFy90 f (by omega) (by omega)) hgy89 (hA.mono (by omega)) (fun j a b => by
                by_cases e0 : j = i + 24
                · exact Or.inr ⟨24, _, e0, lsP.l (by decide), by rw [e0]; exact hgy83⟩
                exact Or.inl (by rw [hfvy81 _ (by omega)]; rw [hfvy77 _ (by omega) (by omega)]; rw [hfvy75 _ (by omega) (by omega)]; rw [hfvy70 _ (by omega) (by omega)]; rw [hfvy68 _ (by omega) (by omega)]; rw [hfvy64 _ (by omega) (by omega)]; rw [hfvy59 _ (by omega) (by omega)]; rw [hfvy54 _ (by omega) (by omega)]; rw [hfvy52 _ (by omega) (by omega)]; rw [hfvy47 _ (by omega) (by omega)]; rw [hfvy45 _ (by omega) (by omega)]; rw [egy32, va_up_ne _ _ (by omega)]; rw [hfvy28 _ (by omega)]; rw [egy25, va_up_ne _ _ (by omega)]))
            have hkpy107 : Fvy81 13 = F 13 := ((hFvy81 13 (by decide)).trans ((hFvy77 13 (by decide)).trans ((hFvy75 13 (by decide)).trans ((hFvy70 13 (by decide)).trans ((hFvy68 13 (by decide)).trans ((hFvy64 13 (by decide)).trans ((hFvy59 13 (by decide)).trans ((hFvy54 13 (by decide)).trans ((hFvy52 13 (by decide)).trans ((hFvy47 13 (by decide)).trans ((hFvy45 13 (by decide)).trans (fn ((hFvy28 13 (by decide)).trans (fn rfl (by decide))) (by decide)))))))))))))
            have hkpy108 : Fvy81 14 = F 14 := ((hFvy81 14 (by decide)).trans ((hFvy77 14 (by decide)).trans ((hFvy75 14 (by decide)).trans ((hFvy70 14 (by decide)).trans ((hFvy68 14 (by decide)).trans ((hFvy64 14 (by decide)).trans ((hFvy59 14 (by decide)).trans ((hFvy54 14 (by decide)).trans ((hFvy52 14 (by decide)).trans ((hFvy47 14 (by decide)).trans ((hFvy45 14 (by decide)).trans (fn ((hFvy28 14 (by decide)).trans (fn rfl (by decide))) (by decide)))))))))))))
            have hkpy109 : Fvy81 15 = F 15 := ((hFvy81 15 (by decide)).trans ((hFvy77 15 (by decide)).trans ((hFvy75 15 (by decide)).trans ((hFvy70 15 (by decide)).trans ((hFvy68 15 (by decide)).trans ((hFvy64 15 (by decide)).trans ((hFvy59 15 (by decide)).trans ((hFvy54 15 (by decide)).trans ((hFvy52 15 (by decide)).trans ((hFvy47 15 (by decide)).trans ((hFvy45 15 (by decide)).trans (fn ((hFvy28 15 (by decide)).trans (fn rfl (by decide))) (by decide)))))))))))))
            have hkpy110 : Fvy81 16 = F 16 := ((hFvy81 16 (by decide)).trans ((hFvy77 16 (by decide)).trans ((hFvy75 16 (by decide)).trans ((hFvy70 16 (by decide)).trans ((hFvy68 16 (by decide)).trans ((hFvy64 16 (by decide)).trans ((hFvy59 16 (by decide)).trans ((hFvy54 16 (by decide)).trans ((hFvy52 16 (by decide)).trans ((hFvy47 16 (by decide)).trans ((hFvy45 16 (by decide)).trans (fn ((hFvy28 16 (by decide)).trans (fn rfl (by decide))) (by decide)))))))))))))
            have hkpy111 : Fvy81 17 = F 17 := ((hFvy81 17 (by decide)).trans ((hFvy77 17 (by decide)).trans ((hFvy75 17 (by decide)).trans ((hFvy70 17 (by decide)).trans ((hFvy68 17 (by decide)).trans ((hFvy64 17 (by decide)).trans ((hFvy59 17 (by decide)).trans ((hFvy54 17 (by decide)).trans ((hFvy52 17 (by decide)).trans ((hFvy47 17 (by decide)).trans ((hFvy45 17 (by decide)).trans (fn ((hFvy28 17 (by decide)).trans (fn rfl (by decide))) (by decide)))))))))))))
            have hkpy112 : Fvy81 18 = F 18 := ((hFvy81 18 (by decide)).trans ((hFvy77 18 (by decide)).trans ((hFvy75 18 (by decide)).trans ((hFvy70 18 (by decide)).trans ((hFvy68 18 (by decide)).trans ((hFvy64 18 (by decide)).trans ((hFvy59 18 (by decide)).trans ((hFvy54 18 (by decide)).trans ((hFvy52 18 (by decide)).trans ((hFvy47 18 (by decide)).trans ((hFvy45 18 (by decide)).trans (fn ((hFvy28 18 (by decide)).trans (fn rfl (by decide))) (by decide)))))))))))))
            have hkpy113 : Fvy81 19 = F 19 := ((hFvy81 19 (by decide)).trans ((hFvy77 19 (by decide)).trans ((hFvy75 19 (by decide)).trans ((hFvy70 19 (by decide)).trans ((hFvy68 19 (by decide)).trans ((hFvy64 19 (by decide)).trans ((hFvy59 19 (by decide)).trans ((hFvy54 19 (by decide)).trans ((hFvy52 19 (by decide)).trans ((hFvy47 19 (by decide)).trans ((hFvy45 19 (by decide)).trans (fn ((hFvy28 19 (by decide)).trans (fn rfl (by decide))) (by decide)))))))))))))
            have hkpy114 : Fvy81 20 = F 20 := ((hFvy81 20 (by decide)).trans ((hFvy77 20 (by decide)).trans ((hFvy75 20 (by decide)).trans ((hFvy70 20 (by decide)).trans ((hFvy68 20 (by decide)).trans ((hFvy64 20 (by decide)).trans ((hFvy59 20 (by decide)).trans ((hFvy54 20 (by decide)).trans ((hFvy52 20 (by decide)).trans ((hFvy47 20 (by decide)).trans ((hFvy45 20 (by decide)).trans (fn ((hFvy28 20 (by decide)).trans (fn rfl (by decide))) (by decide)))))))))))))
            have hkpy115 : Fvy81 21 = F 21 := ((hFvy81 21 (by decide)).trans ((hFvy77 21 (by decide)).trans ((hFvy75 21 (by decide)).trans ((hFvy70 21 (by decide)).trans ((hFvy68 21 (by decide)).trans ((hFvy64 21 (by decide)).trans ((hFvy59 21 (by decide)).trans ((hFvy54 21 (by decide)).trans ((hFvy52 21 (by decide)).trans ((hFvy47 21 (by decide)).trans ((hFvy45 21 (by decide)).trans (fn ((hFvy28 21 (by decide)).trans (fn rfl (by decide))) (by decide)))))))))))))
            have hkpy116 : Fvy81 23 = F 23 := ((hFvy81 23 (by decide)).trans ((hFvy77 23 (by decide)).trans ((hFvy75 23 (by decide)).trans ((hFvy70 23 (by decide)).trans ((hFvy68 23 (by decide)).trans ((hFvy64 23 (by decide)).trans ((hFvy59 23 (by decide)).trans ((hFvy54 23 (by decide)).trans ((hFvy52 23 (by decide)).trans ((hFvy47 23 (by decide)).trans ((hFvy45 23 (by decide)).trans (fn ((hFvy28 23 (by decide)).trans (fn rfl (by decide))) (by decide)))))))))))))
            have hkpy117 : Fvy81 24 = F 24 := ((hFvy81 24 (by decide)).trans ((hFvy77 24 (by decide)).trans ((hFvy75 24 (by decide)).trans ((hFvy70 24 (by decide)).trans ((hFvy68 24 (by decide)).trans ((hFvy64 24 (by decide)).trans ((hFvy59 24 (by decide)).trans ((hFvy54 24 (by decide)).trans ((hFvy52 24 (by decide)).trans ((hFvy47 24 (by decide)).trans ((hFvy45 24 (by decide)).trans (fn ((hFvy28 24 (by decide)).trans (fn rfl (by decide))) (by decide)))))))))))))
            have hkpy118 : Fvy81 25 = F 25 := ((hFvy81 25 (by decide)).trans ((hFvy77 25 (by decide)).trans ((hFvy75 25 (by decide)).trans ((hFvy70 25 (by decide)).trans ((hFvy68 25 (by decide)).trans ((hFvy64 25 (by decide)).trans ((hFvy59 25 (by decide)).trans ((hFvy54 25 (by decide)).trans ((hFvy52 25 (by decide)).trans ((hFvy47 25 (by decide)).trans ((hFvy45 25 (by decide)).trans (fn ((hFvy28 25 (by decide)).trans (fn rfl (by decide))) (by decide)))))))))))))
            have hkpy119 : Fvy81 26 = F 26 := ((hFvy81 26 (by decide)).trans ((hFvy77 26 (by decide)).trans ((hFvy75 26 (by decide)).trans ((hFvy70 26 (by decide)).trans ((hFvy68 26 (by decide)).trans ((hFvy64 26 (by decide)).trans ((hFvy59 26 (by decide)).trans ((hFvy54 26 (by decide)).trans ((hFvy52 26 (by decide)).trans ((hFvy47 26 (by decide)).trans ((hFvy45 26 (by decide)).trans (fn ((hFvy28 26 (by decide)).trans (fn rfl (by decide))) (by decide)))))))))))))
            have hkpy120 : Fvy81 27 = F 27 := ((hFvy81 27 (by decide)).trans ((hFvy77 27 (by decide)).trans ((hFvy75 27 (by decide)).trans ((hFvy70 27 (by decide)).trans ((hFvy68 27 (by decide)).trans ((hFvy64 27 (by decide)).trans ((hFvy59 27 (by decide)).trans ((hFvy54 27 (by decide)).trans ((hFvy52 27 (by decide)).trans ((hFvy47 27 (by decide)).trans ((hFvy45 27 (by decide)).trans (fn ((hFvy28 27 (by decide)).trans (fn rfl (by decide))) (by decide)))))))))))))
            have hkpy121 : Fvy81 29 = F 29 := ((hFvy81 29 (by decide)).trans ((hFvy77 29 (by decide)).trans ((hFvy75 29 (by decide)).trans ((hFvy70 29 (by decide)).trans ((hFvy68 29 (by decide)).trans ((hFvy64 29 (by decide)).trans ((hFvy59 29 (by decide)).trans ((hFvy54 29 (by decide)).trans ((hFvy52 29 (by decide)).trans ((hFvy47 29 (by decide)).trans ((hFvy45 29 (by decide)).trans (fn ((hFvy28 29 (by decide)).trans (fn rfl (by decide))) (by decide)))))))))))))
            exact z_iret C hr hlk dX10_told_210 (by decide) (by decide) ⟨xy84, rfl, rfl, rfl, by omega, ⟨_, _, hMy106, ⟨hkpy107, hkpy108, hkpy109, hkpy110, hkpy111, hkpy112, hkpy113, hkpy114, hkpy115, hkpy116, hkpy117⟩, ⟨(hkpy118.trans hp25), (hkpy119.trans hp26), (hkpy120.trans hp27), (hkpy121.trans hp29)⟩, (fun j _ => rfl)⟩, fun j j1 => by rw [hfvy81 _ (by omega)]; rw [hfvy77 _ (by omega) (by omega)]; rw [hfvy75 _ (by omega) (by omega)]; rw [hfvy70 _ (by omega) (by omega)]; rw [hfvy68 _ (by omega) (by omega)]; rw [hfvy64 _ (by omega) (by omega)]; rw [hfvy59 _ (by omega) (by omega)]; rw [hfvy54 _ (by omega) (by omega)]; rw [hfvy52 _ (by omega) (by omega)]; rw [hfvy47 _ (by omega) (by omega)]; rw [hfvy45 _ (by omega) (by omega)]; rw [egy32, va_up_ne _ _ (by omega)]; rw [hfvy28 _ (by omega)]; rw [egy25, va_up_ne _ _ (by omega)]⟩
          · refine z_if_eq (tgt := 209) C dX10_told_197 (by decide) (by omega) (fun _ => ?_) (fun h => absurd h (by omega))
            refine z_iconst (z := 0) C dX10_told_209 rfl ?_
            have hgy122 := (hfvy75 (i + 1) (ne_o (i := i) (c := 1) (d := 0) rfl) (ne_o (i := i) (c := 1) (d := 24) rfl)).trans hgy73
            have hgy123 := (hfvy77 (i + 1) (ne_o (i := i) (c := 1) (d := 0) rfl) (ne_o (i := i) (c := 1) (d := 24) rfl)).trans hgy122
            have hgy124 := (hfvy81 (i + 1) (ne_o (i := i) (c := 1) (d := 0) rfl)).trans hgy123
            have hFy125 : ∀ f, f ≠ 12 → f ≠ 51 → Fvy81 f = F f := fun f n12 n51 => ((hFvy81 f n12).trans ((hFvy77 f n51).trans ((hFvy75 f n51).trans ((hFvy70 f n51).trans ((hFvy68 f n51).trans ((hFvy64 f n51).trans ((hFvy59 f n51).trans ((hFvy54 f n51).trans ((hFvy52 f n51).trans ((hFvy47 f n51).trans ((hFvy45 f n51).trans ((uZ_n _ _ n51).trans ((hFvy28 f n12).trans ((uZ_n _ _ n12).trans rfl))))))))))))))
            have hey126 : Fvy81 13 = F 13 := ((hFvy81 13 (by decide)).trans ((hFvy77 13 (by decide)).trans ((hFvy75 13 (by decide)).trans ((hFvy70 13 (by decide)).trans ((hFvy68 13 (by decide)).trans ((hFvy64 13 (by decide)).trans ((hFvy59 13 (by decide)).trans ((hFvy54 13 (by decide)).trans ((hFvy52 13 (by decide)).trans ((hFvy47 13 (by decide)).trans ((hFvy45 13 (by decide)).trans (fn ((hFvy28 13 (by decide)).trans (fn rfl (by decide))) (by decide)))))))))))))
            have hey127 : Fvy81 14 = F 14 := ((hFvy81 14 (by decide)).trans ((hFvy77 14 (by decide)).trans ((hFvy75 14 (by decide)).trans ((hFvy70 14 (by decide)).trans ((hFvy68 14 (by decide)).trans ((hFvy64 14 (by decide)).trans ((hFvy59 14 (by decide)).trans ((hFvy54 14 (by decide)).trans ((hFvy52 14 (by decide)).trans ((hFvy47 14 (by decide)).trans ((hFvy45 14 (by decide)).trans (fn ((hFvy28 14 (by decide)).trans (fn rfl (by decide))) (by decide)))))))))))))
            have hey128 : Fvy81 15 = F 15 := ((hFvy81 15 (by decide)).trans ((hFvy77 15 (by decide)).trans ((hFvy75 15 (by decide)).trans ((hFvy70 15 (by decide)).trans ((hFvy68 15 (by decide)).trans ((hFvy64 15 (by decide)).trans ((hFvy59 15 (by decide)).trans ((hFvy54 15 (by decide)).trans ((hFvy52 15 (by decide)).trans ((hFvy47 15 (by decide)).trans ((hFvy45 15 (by decide)).trans (fn ((hFvy28 15 (by decide)).trans (fn rfl (by decide))) (by decide)))))))))))))
            have hey129 : Fvy81 16 = F 16 := ((hFvy81 16 (by decide)).trans ((hFvy77 16 (by decide)).trans ((hFvy75 16 (by decide)).trans ((hFvy70 16 (by decide)).trans ((hFvy68 16 (by decide)).trans ((hFvy64 16 (by decide)).trans ((hFvy59 16 (by decide)).trans ((hFvy54 16 (by decide)).trans ((hFvy52 16 (by decide)).trans ((hFvy47 16 (by decide)).trans ((hFvy45 16 (by decide)).trans (fn ((hFvy28 16 (by decide)).trans (fn rfl (by decide))) (by decide)))))))))))))
            have hey130 : Fvy81 17 = F 17 := ((hFvy81 17 (by decide)).trans ((hFvy77 17 (by decide)).trans ((hFvy75 17 (by decide)).trans ((hFvy70 17 (by decide)).trans ((hFvy68 17 (by decide)).trans ((hFvy64 17 (by decide)).trans ((hFvy59 17 (by decide)).trans ((hFvy54 17 (by decide)).trans ((hFvy52 17 (by decide)).trans ((hFvy47 17 (by decide)).trans ((hFvy45 17 (by decide)).trans (fn ((hFvy28 17 (by decide)).trans (fn rfl (by decide))) (by decide)))))))))))))
            have hey131 : Fvy81 18 = F 18 := ((hFvy81 18 (by decide)).trans ((hFvy77 18 (by decide)).trans ((hFvy75 18 (by decide)).trans ((hFvy70 18 (by decide)).trans ((hFvy68 18 (by decide)).trans ((hFvy64 18 (by decide)).trans ((hFvy59 18 (by decide)).trans ((hFvy54 18 (by decide)).trans ((hFvy52 18 (by decide)).trans ((hFvy47 18 (by decide)).trans ((hFvy45 18 (by decide)).trans (fn ((hFvy28 18 (by decide)).trans (fn rfl (by decide))) (by decide)))))))))))))
            have hey132 : Fvy81 19 = F 19 := ((hFvy81 19 (by decide)).trans ((hFvy77 19 (by decide)).trans ((hFvy75 19 (by decide)).trans ((hFvy70 19 (by decide)).trans ((hFvy68 19 (by decide)).trans ((hFvy64 19 (by decide)).trans ((hFvy59 19 (by decide)).trans ((hFvy54 19 (by decide)).trans ((hFvy52 19 (by decide)).trans ((hFvy47 19 (by decide)).trans ((hFvy45 19 (by decide)).trans (fn ((hFvy28 19 (by decide)).trans (fn rfl (by decide))) (by decide)))))))))))))
            have hey133 : Fvy81 20 = F 20 := ((hFvy81 20 (by decide)).trans ((hFvy77 20 (by decide)).trans ((hFvy75 20 (by decide)).trans ((hFvy70 20 (by decide)).trans ((hFvy68 20 (by decide)).trans ((hFvy64 20 (by decide)).trans ((hFvy59 20 (by decide)).trans ((hFvy54 20 (by decide)).trans ((hFvy52 20 (by decide)).trans ((hFvy47 20 (by decide)).trans ((hFvy45 20 (by decide)).trans (fn ((hFvy28 20 (by decide)).trans (fn rfl (by decide))) (by decide)))))))))))))
            have hey134 : Fvy81 21 = F 21 := ((hFvy81 21 (by decide)).trans ((hFvy77 21 (by decide)).trans ((hFvy75 21 (by decide)).trans ((hFvy70 21 (by decide)).trans ((hFvy68 21 (by decide)).trans ((hFvy64 21 (by decide)).trans ((hFvy59 21 (by decide)).trans ((hFvy54 21 (by decide)).trans ((hFvy52 21 (by decide)).trans ((hFvy47 21 (by decide)).trans ((hFvy45 21 (by decide)).trans (fn ((hFvy28 21 (by decide)).trans (fn rfl (by decide))) (by decide)))))))))))))
            have hey135 : Fvy81 23 = F 23 := ((hFvy81 23 (by decide)).trans ((hFvy77 23 (by decide)).trans ((hFvy75 23 (by decide)).trans ((hFvy70 23 (by decide)).trans ((hFvy68 23 (by decide)).trans ((hFvy64 23 (by decide)).trans ((hFvy59 23 (by decide)).trans ((hFvy54 23 (by decide)).trans ((hFvy52 23 (by decide)).trans ((hFvy47 23 (by decide)).trans ((hFvy45 23 (by decide)).trans (fn ((hFvy28 23 (by decide)).trans (fn rfl (by decide))) (by decide)))))))))))))
            have hey136 : Fvy81 25 = F 25 := ((hFvy81 25 (by decide)).trans ((hFvy77 25 (by decide)).trans ((hFvy75 25 (by decide)).trans ((hFvy70 25 (by decide)).trans ((hFvy68 25 (by decide)).trans ((hFvy64 25 (by decide)).trans ((hFvy59 25 (by decide)).trans ((hFvy54 25 (by decide)).trans ((hFvy52 25 (by decide)).trans ((hFvy47 25 (by decide)).trans ((hFvy45 25 (by decide)).trans (fn ((hFvy28 25 (by decide)).trans (fn rfl (by decide))) (by decide)))))))))))))
            have hey137 : Fvy81 27 = F 27 := ((hFvy81 27 (by decide)).trans ((hFvy77 27 (by decide)).trans ((hFvy75 27 (by decide)).trans ((hFvy70 27 (by decide)).trans ((hFvy68 27 (by decide)).trans ((hFvy64 27 (by decide)).trans ((hFvy59 27 (by decide)).trans ((hFvy54 27 (by decide)).trans ((hFvy52 27 (by decide)).trans ((hFvy47 27 (by decide)).trans ((hFvy45 27 (by decide)).trans (fn ((hFvy28 27 (by decide)).trans (fn rfl (by decide))) (by decide)))))))))))))
            have hey138 : Fvy81 28 = F 28 := ((hFvy81 28 (by decide)).trans ((hFvy77 28 (by decide)).trans ((hFvy75 28 (by decide)).trans ((hFvy70 28 (by decide)).trans ((hFvy68 28 (by decide)).trans ((hFvy64 28 (by decide)).trans ((hFvy59 28 (by decide)).trans ((hFvy54 28 (by decide)).trans ((hFvy52 28 (by decide)).trans ((hFvy47 28 (by decide)).trans ((hFvy45 28 (by decide)).trans (fn ((hFvy28 28 (by decide)).trans (fn rfl (by decide))) (by decide)))))))))))))
            have hey139 : Fvy81 29 = F 29 := ((hFvy81 29 (by decide)).trans ((hFvy77 29 (by decide)).trans ((hFvy75 29 (by decide)).trans ((hFvy70 29 (by decide)).trans ((hFvy68 29 (by decide)).trans ((hFvy64 29 (by decide)).trans ((hFvy59 29 (by decide)).trans ((hFvy54 29 (by decide)).trans ((hFvy52 29 (by decide)).trans ((hFvy47 29 (by decide)).trans ((hFvy45 29 (by decide)).trans (fn ((hFvy28 29 (by decide)).trans (fn rfl (by decide))) (by decide)))))))))))))
            have hKy140 : okF Fvy81 := okF.mv hM.2.1 hey126 hey127 hey128 hey129 hey130 hey131 hey132 hey133 hey134 hey135 hey136 hey137 hey138 hey139
            have hgy142 := (hfvy81 (i + 24) (ne_o (i := i) (c := 24) (d := 0) rfl)).trans htvy77
            have hMy141 : okMr cs ad gvy81 i (x + 1) Fvy81 r st op ai fa mu tb tp := okMr.upd hM hcvy81 hKy140 (fun f a => hFy125 f (by omega) (by omega)) hgy124 (hA.mono (by omega)) (fun j a b => by
                by_cases e0 : j = i + 24
                · exact Or.inr ⟨24, _, e0, lsP.l (by decide), by rw [e0]; exact hgy142⟩
                exact Or.inl (by rw [hfvy81 _ (by omega)]; rw [hfvy77 _ (by omega) (by omega)]; rw [hfvy75 _ (by omega) (by omega)]; rw [hfvy70 _ (by omega) (by omega)]; rw [hfvy68 _ (by omega) (by omega)]; rw [hfvy64 _ (by omega) (by omega)]; rw [hfvy59 _ (by omega) (by omega)]; rw [hfvy54 _ (by omega) (by omega)]; rw [hfvy52 _ (by omega) (by omega)]; rw [hfvy47 _ (by omega) (by omega)]; rw [hfvy45 _ (by omega) (by omega)]; rw [egy32, va_up_ne _ _ (by omega)]; rw [hfvy28 _ (by omega)]; rw [egy25, va_up_ne _ _ (by omega)]))
            have hkpy143 : Fvy81 13 = F 13 := ((hFvy81 13 (by decide)).trans ((hFvy77 13 (by decide)).trans ((hFvy75 13 (by decide)).trans ((hFvy70 13 (by decide)).trans ((hFvy68 13 (by decide)).trans ((hFvy64 13 (by decide)).trans ((hFvy59 13 (by decide)).trans ((hFvy54 13 (by decide)).trans ((hFvy52 13 (by decide)).trans ((hFvy47 13 (by decide)).trans ((hFvy45 13 (by decide)).trans (fn ((hFvy28 13 (by decide)).trans (fn rfl (by decide))) (by decide)))))))))))))
            have hkpy144 : Fvy81 14 = F 14 := ((hFvy81 14 (by decide)).trans ((hFvy77 14 (by decide)).trans ((hFvy75 14 (by decide)).trans ((hFvy70 14 (by decide)).trans ((hFvy68 14 (by decide)).trans ((hFvy64 14 (by decide)).trans ((hFvy59 14 (by decide)).trans ((hFvy54 14 (by decide)).trans ((hFvy52 14 (by decide)).trans ((hFvy47 14 (by decide)).trans ((hFvy45 14 (by decide)).trans (fn ((hFvy28 14 (by decide)).trans (fn rfl (by decide))) (by decide)))))))))))))
            have hkpy145 : Fvy81 15 = F 15 := ((hFvy81 15 (by decide)).trans ((hFvy77 15 (by decide)).trans ((hFvy75 15 (by decide)).trans ((hFvy70 15 (by decide)).trans ((hFvy68 15 (by decide)).trans ((hFvy64 15 (by decide)).trans ((hFvy59 15 (by decide)).trans ((hFvy54 15 (by decide)).trans ((hFvy52 15 (by decide)).trans ((hFvy47 15 (by decide)).trans ((hFvy45 15 (by decide)).trans (fn ((hFvy28 15 (by decide)).trans (fn rfl (by decide))) (by decide)))))))))))))
            have hkpy146 : Fvy81 16 = F 16 := ((hFvy81 16 (by decide)).trans ((hFvy77 16 (by decide)).trans ((hFvy75 16 (by decide)).trans ((hFvy70 16 (by decide)).trans ((hFvy68 16 (by decide)).trans ((hFvy64 16 (by decide)).trans ((hFvy59 16 (by decide)).trans ((hFvy54 16 (by decide)).trans ((hFvy52 16 (by decide)).trans ((hFvy47 16 (by decide)).trans ((hFvy45 16 (by decide)).trans (fn ((hFvy28 16 (by decide)).trans (fn rfl (by decide))) (by decide)))))))))))))
            have hkpy147 : Fvy81 17 = F 17 := ((hFvy81 17 (by decide)).trans ((hFvy77 17 (by decide)).trans ((hFvy75 17 (by decide)).trans ((hFvy70 17 (by decide)).trans ((hFvy68 17 (by decide)).trans ((hFvy64 17 (by decide)).trans ((hFvy59 17 (by decide)).trans ((hFvy54 17 (by decide)).trans ((hFvy52 17 (by decide)).trans ((hFvy47 17 (by decide)).trans ((hFvy45 17 (by decide)).trans (fn ((hFvy28 17 (by decide)).trans (fn rfl (by decide))) (by decide)))))))))))))
            have hkpy148 : Fvy81 18 = F 18 := ((hFvy81 18 (by decide)).trans ((hFvy77 18 (by decide)).trans ((hFvy75 18 (by decide)).trans ((hFvy70 18 (by decide)).trans ((hFvy68 18 (by decide)).trans ((hFvy64 18 (by decide)).trans ((hFvy59 18 (by decide)).trans ((hFvy54 18 (by decide)).trans ((hFvy52 18 (by decide)).trans ((hFvy47 18 (by decide)).trans ((hFvy45 18 (by decide)).trans (fn ((hFvy28 18 (by decide)).trans (fn rfl (by decide))) (by decide)))))))))))))
            have hkpy149 : Fvy81 19 = F 19 := ((hFvy81 19 (by decide)).trans ((hFvy77 19 (by decide)).trans ((hFvy75 19 (by decide)).trans ((hFvy70 19 (by decide)).trans ((hFvy68 19 (by decide)).trans ((hFvy64 19 (by decide)).trans ((hFvy59 19 (by decide)).trans ((hFvy54 19 (by decide)).trans ((hFvy52 19 (by decide)).trans ((hFvy47 19 (by decide)).trans ((hFvy45 19 (by decide)).trans (fn ((hFvy28 19 (by decide)).trans (fn rfl (by decide))) (by decide)))))))))))))
            have hkpy150 : Fvy81 20 = F 20 := ((hFvy81 20 (by decide)).trans ((hFvy77 20 (by decide)).trans ((hFvy75 20 (by decide)).trans ((hFvy70 20 (by decide)).trans ((hFvy68 20 (by decide)).trans ((hFvy64 20 (by decide)).trans ((hFvy59 20 (by decide)).trans ((hFvy54 20 (by decide)).trans ((hFvy52 20 (by decide)).trans ((hFvy47 20 (by decide)).trans ((hFvy45 20 (by decide)).trans (fn ((hFvy28 20 (by decide)).trans (fn rfl (by decide))) (by decide)))))))))))))
            have hkpy151 : Fvy81 21 = F 21 := ((hFvy81 21 (by decide)).trans ((hFvy77 21 (by decide)).trans ((hFvy75 21 (by decide)).trans ((hFvy70 21 (by decide)).trans ((hFvy68 21 (by decide)).trans ((hFvy64 21 (by decide)).trans ((hFvy59 21 (by decide)).trans ((hFvy54 21 (by decide)).trans ((hFvy52 21 (by decide)).trans ((hFvy47 21 (by decide)).trans ((hFvy45 21 (by decide)).trans (fn ((hFvy28 21 (by decide)).trans (fn rfl (by decide))) (by decide)))))))))))))
            have hkpy152 : Fvy81 23 = F 23 := ((hFvy81 23 (by decide)).trans ((hFvy77 23 (by decide)).trans ((hFvy75 23 (by decide)).trans ((hFvy70 23 (by decide)).trans ((hFvy68 23 (by decide)).trans ((hFvy64 23 (by decide)).trans ((hFvy59 23 (by decide)).trans ((hFvy54 23 (by decide)).trans ((hFvy52 23 (by decide)).trans ((hFvy47 23 (by decide)).trans ((hFvy45 23 (by decide)).trans (fn ((hFvy28 23 (by decide)).trans (fn rfl (by decide))) (by decide)))))))))))))
            have hkpy153 : Fvy81 24 = F 24 := ((hFvy81 24 (by decide)).trans ((hFvy77 24 (by decide)).trans ((hFvy75 24 (by decide)).trans ((hFvy70 24 (by decide)).trans ((hFvy68 24 (by decide)).trans ((hFvy64 24 (by decide)).trans ((hFvy59 24 (by decide)).trans ((hFvy54 24 (by decide)).trans ((hFvy52 24 (by decide)).trans ((hFvy47 24 (by decide)).trans ((hFvy45 24 (by decide)).trans (fn ((hFvy28 24 (by decide)).trans (fn rfl (by decide))) (by decide)))))))))))))
            have hkpy154 : Fvy81 25 = F 25 := ((hFvy81 25 (by decide)).trans ((hFvy77 25 (by decide)).trans ((hFvy75 25 (by decide)).trans ((hFvy70 25 (by decide)).trans ((hFvy68 25 (by decide)).trans ((hFvy64 25 (by decide)).trans ((hFvy59 25 (by decide)).trans ((hFvy54 25 (by decide)).trans ((hFvy52 25 (by decide)).trans ((hFvy47 25 (by decide)).trans ((hFvy45 25 (by decide)).trans (fn ((hFvy28 25 (by decide)).trans (fn rfl (by decide))) (by decide)))))))))))))
            have hkpy155 : Fvy81 26 = F 26 := ((hFvy81 26 (by decide)).trans ((hFvy77 26 (by decide)).trans ((hFvy75 26 (by decide)).trans ((hFvy70 26 (by decide)).trans ((hFvy68 26 (by decide)).trans ((hFvy64 26 (by decide)).trans ((hFvy59 26 (by decide)).trans ((hFvy54 26 (by decide)).trans ((hFvy52 26 (by decide)).trans ((hFvy47 26 (by decide)).trans ((hFvy45 26 (by decide)).trans (fn ((hFvy28 26 (by decide)).trans (fn rfl (by decide))) (by decide)))))))))))))
            have hkpy156 : Fvy81 27 = F 27 := ((hFvy81 27 (by decide)).trans ((hFvy77 27 (by decide)).trans ((hFvy75 27 (by decide)).trans ((hFvy70 27 (by decide)).trans ((hFvy68 27 (by decide)).trans ((hFvy64 27 (by decide)).trans ((hFvy59 27 (by decide)).trans ((hFvy54 27 (by decide)).trans ((hFvy52 27 (by decide)).trans ((hFvy47 27 (by decide)).trans ((hFvy45 27 (by decide)).trans (fn ((hFvy28 27 (by decide)).trans (fn rfl (by decide))) (by decide)))))))))))))
            have hkpy157 : Fvy81 29 = F 29 := ((hFvy81 29 (by decide)).trans ((hFvy77 29 (by decide)).trans ((hFvy75 29 (by decide)).trans ((hFvy70 29 (by decide)).trans ((hFvy68 29 (by decide)).trans ((hFvy64 29 (by decide)).trans ((hFvy59 29 (by decide)).trans ((hFvy54 29 (by decide)).trans ((hFvy52 29 (by decide)).trans ((hFvy47 29 (by decide)).trans ((hFvy45 29 (by decide)).trans (fn ((hFvy28 29 (by decide)).trans (fn rfl (by decide))) (by decide)))))))))))))
            exact z_iret C hr hlk dX10_told_210 (by decide) (by decide) ⟨0, rfl, rfl, rfl, by omega, ⟨_, _, hMy141, ⟨hkpy143, hkpy144, hkpy145, hkpy146, hkpy147, hkpy148, hkpy149, hkpy150, hkpy151, hkpy152, hkpy153⟩, ⟨(hkpy154.trans hp25), (hkpy155.trans hp26), (hkpy156.trans hp27), (hkpy157.trans hp29)⟩, (fun j _ => rfl)⟩, fun j j1 => by rw [hfvy81 _ (by omega)]; rw [hfvy77 _ (by omega) (by omega)]; rw [hfvy75 _ (by omega) (by omega)]; rw [hfvy70 _ (by omega) (by omega)]; rw [hfvy68 _ (by omega) (by omega)]; rw [hfvy64 _ (by omega) (by omega)]; rw [hfvy59 _ (by omega) (by omega)]; rw [hfvy54 _ (by omega) (by omega)]; rw [hfvy52 _ (by omega) (by omega)]; rw [hfvy47 _ (by omega) (by omega)]; rw [hfvy45 _ (by omega) (by omega)]; rw [egy32, va_up_ne _ _ (by omega)]; rw [hfvy28 _ (by omega)]; rw [egy25, va_up_ne _ _ (by omega)]⟩
        · refine z_iconst (z := 1) C dX10_told_193 rfl ?_
          have hey159 : Fvy77 12 = Fvy28 12 := ((hFvy77 12 (by decide)).trans ((hFvy75 12 (by decide)).trans ((hFvy70 12 (by decide)).trans ((hFvy68 12 (by decide)).trans ((hFvy64 12 (by decide)).trans ((hFvy59 12 (by decide)).trans ((hFvy54 12 (by decide)).trans ((hFvy52 12 (by decide)).trans ((hFvy47 12 (by decide)).trans ((hFvy45 12 (by decide)).trans (fn rfl (by decide))))))))))))
          refine z_cV (As := [.int (zI (0)), .int (zI (1))]) (rest := []) (ci := 12) C (c_X10_right l D A cs tt N ad _ i hN _ hcvy77 (by omega) (0) (by omega) (1) (by omega)) (lt_A0 hN rfl) hay1 hcvy77 rfl rfl mv_yX10_right q_1648 hd_yX10_right (by decide) (Nat.le_of_ble_eq_true rfl) (by decide) dX10_told_194 rfl (kI0 fun vy158 gvy158 hvy158 => ?_)
          obtain ⟨hrvy158, ⟨Fvy158, hcvy158, htvy158, hFvy158⟩, hfvy158⟩ := hvy158
          obtain rfl : vy158 = 0 := by omega
          refine z_if_eq (tgt := 209) C dX10_told_197 (by decide) (by omega) (fun _ => ?_) (fun h => absurd h (by omega))
          refine z_iconst (z := 0) C dX10_told_209 rfl ?_
          have hgy160 := (hfvy75 (i + 1) (ne_o (i := i) (c := 1) (d := 0) rfl) (ne_o (i := i) (c := 1) (d := 24) rfl)).trans hgy73
          have hgy161 := (hfvy77 (i + 1) (ne_o (i := i) (c := 1) (d := 0) rfl) (ne_o (i := i) (c := 1) (d := 24) rfl)).trans hgy160
          have hgy162 := (hfvy158 (i + 1) (ne_o (i := i) (c := 1) (d := 0) rfl)).trans hgy161
          have hFy163 : ∀ f, f ≠ 12 → f ≠ 51 → Fvy158 f = F f := fun f n12 n51 => ((hFvy158 f n12).trans ((hFvy77 f n51).trans ((hFvy75 f n51).trans ((hFvy70 f n51).trans ((hFvy68 f n51).trans ((hFvy64 f n51).trans ((hFvy59 f n51).trans ((hFvy54 f n51).trans ((hFvy52 f n51).trans ((hFvy47 f n51).trans ((hFvy45 f n51).trans ((uZ_n _ _ n51).trans ((hFvy28 f n12).trans ((uZ_n _ _ n12).trans rfl))))))))))))))
          have hey164 : Fvy158 13 = F 13 := ((hFvy158 13 (by decide)).trans ((hFvy77 13 (by decide)).trans ((hFvy75 13 (by decide)).trans ((hFvy70 13 (by decide)).trans ((hFvy68 13 (by decide)).trans ((hFvy64 13 (by decide)).trans ((hFvy59 13 (by decide)).trans ((hFvy54 13 (by decide)).trans ((hFvy52 13 (by decide)).trans ((hFvy47 13 (by decide)).trans ((hFvy45 13 (by decide)).trans (fn ((hFvy28 13 (by decide)).trans (fn rfl (by decide))) (by decide)))))))))))))
          have hey165 : Fvy158 14 = F 14 := ((hFvy158 14 (by decide)).trans ((hFvy77 14 (by decide)).trans ((hFvy75 14 (by decide)).trans ((hFvy70 14 (by decide)).trans ((hFvy68 14 (by decide)).trans ((hFvy64 14 (by decide)).trans ((hFvy59 14 (by decide)).trans ((hFvy54 14 (by decide)).trans ((hFvy52 14 (by decide)).trans ((hFvy47 14 (by decide)).trans ((hFvy45 14 (by decide)).trans (fn ((hFvy28 14 (by decide)).trans (fn rfl (by decide))) (by decide)))))))))))))
          have hey166 : Fvy158 15 = F 15 := ((hFvy158 15 (by decide)).trans ((hFvy77 15 (by decide)).trans ((hFvy75 15 (by decide)).trans ((hFvy70 15 (by decide)).trans ((hFvy68 15 (by decide)).trans ((hFvy64 15 (by decide)).trans ((hFvy59 15 (by decide)).trans ((hFvy54 15 (by decide)).trans ((hFvy52 15 (by decide)).trans ((hFvy47 15 (by decide)).trans ((hFvy45 15 (by decide)).trans (fn ((hFvy28 15 (by decide)).trans (fn rfl (by decide))) (by decide)))))))))))))
          have hey167 : Fvy158 16 = F 16 := ((hFvy158 16 (by decide)).trans ((hFvy77 16 (by decide)).trans ((hFvy75 16 (by decide)).trans ((hFvy70 16 (by decide)).trans ((hFvy68 16 (by decide)).trans ((hFvy64 16 (by decide)).trans ((hFvy59 16 (by decide)).trans ((hFvy54 16 (by decide)).trans ((hFvy52 16 (by decide)).trans ((hFvy47 16 (by decide)).trans ((hFvy45 16 (by decide)).trans (fn ((hFvy28 16 (by decide)).trans (fn rfl (by decide))) (by decide)))))))))))))
          have hey168 : Fvy158 17 = F 17 := ((hFvy158 17 (by decide)).trans ((hFvy77 17 (by decide)).trans ((hFvy75 17 (by decide)).trans ((hFvy70 17 (by decide)).trans ((hFvy68 17 (by decide)).trans ((hFvy64 17 (by decide)).trans ((hFvy59 17 (by decide)).trans ((hFvy54 17 (by decide)).trans ((hFvy52 17 (by decide)).trans ((hFvy47 17 (by decide)).trans ((hFvy45 17 (by decide)).trans (fn ((hFvy28 17 (by decide)).trans (fn rfl (by decide))) (by decide)))))))))))))
          have hey169 : Fvy158 18 = F 18 := ((hFvy158 18 (by decide)).trans ((hFvy77 18 (by decide)).trans ((hFvy75 18 (by decide)).trans ((hFvy70 18 (by decide)).trans ((hFvy68 18 (by decide)).trans ((hFvy64 18 (by decide)).trans ((hFvy59 18 (by decide)).trans ((hFvy54 18 (by decide)).trans ((hFvy52 18 (by decide)).trans ((hFvy47 18 (by decide)).trans ((hFvy45 18 (by decide)).trans (fn ((hFvy28 18 (by decide)).trans (fn rfl (by decide))) (by decide)))))))))))))
          have hey170 : Fvy158 19 = F 19 := ((hFvy158 19 (by decide)).trans ((hFvy77 19 (by decide)).trans ((hFvy75 19 (by decide)).trans ((hFvy70 19 (by decide)).trans ((hFvy68 19 (by decide)).trans ((hFvy64 19 (by decide)).trans ((hFvy59 19 (by decide)).trans ((hFvy54 19 (by decide)).trans ((hFvy52 19 (by decide)).trans ((hFvy47 19 (by decide)).trans ((hFvy45 19 (by decide)).trans (fn ((hFvy28 19 (by decide)).trans (fn rfl (by decide))) (by decide)))))))))))))
          have hey171 : Fvy158 20 = F 20 := ((hFvy158 20 (by decide)).trans ((hFvy77 20 (by decide)).trans ((hFvy75 20 (by decide)).trans ((hFvy70 20 (by decide)).trans ((hFvy68 20 (by decide)).trans ((hFvy64 20 (by decide)).trans ((hFvy59 20 (by decide)).trans ((hFvy54 20 (by decide)).trans ((hFvy52 20 (by decide)).trans ((hFvy47 20 (by decide)).trans ((hFvy45 20 (by decide)).trans (fn ((hFvy28 20 (by decide)).trans (fn rfl (by decide))) (by decide)))))))))))))
          have hey172 : Fvy158 21 = F 21 := ((hFvy158 21 (by decide)).trans ((hFvy77 21 (by decide)).trans ((hFvy75 21 (by decide)).trans ((hFvy70 21 (by decide)).trans ((hFvy68 21 (by decide)).trans ((hFvy64 21 (by decide)).trans ((hFvy59 21 (by decide)).trans ((hFvy54 21 (by decide)).trans ((hFvy52 21 (by decide)).trans ((hFvy47 21 (by decide)).trans ((hFvy45 21 (by decide)).trans (fn ((hFvy28 21 (by decide)).trans (fn rfl (by decide))) (by decide)))))))))))))
          have hey173 : Fvy158 23 = F 23 := ((hFvy158 23 (by decide)).trans ((hFvy77 23 (by decide)).trans ((hFvy75 23 (by decide)).trans ((hFvy70 23 (by decide)).trans ((hFvy68 23 (by decide)).trans ((hFvy64 23 (by decide)).trans ((hFvy59 23 (by decide)).trans ((hFvy54 23 (by decide)).trans ((hFvy52 23 (by decide)).trans ((hFvy47 23 (by decide)).trans ((hFvy45 23 (by decide)).trans (fn ((hFvy28 23 (by decide)).trans (fn rfl (by decide))) (by decide)))))))))))))
          have hey174 : Fvy158 25 = F 25 := ((hFvy158 25 (by decide)).trans ((hFvy77 25 (by decide)).trans ((hFvy75 25 (by decide)).trans ((hFvy70 25 (by decide)).trans ((hFvy68 25 (by decide)).trans ((hFvy64 25 (by decide)).trans ((hFvy59 25 (by decide)).trans ((hFvy54 25 (by decide)).trans ((hFvy52 25 (by decide)).trans ((hFvy47 25 (by decide)).trans ((hFvy45 25 (by decide)).trans (fn ((hFvy28 25 (by decide)).trans (fn rfl (by decide))) (by decide)))))))))))))
          have hey175 : Fvy158 27 = F 27 := ((hFvy158 27 (by decide)).trans ((hFvy77 27 (by decide)).trans ((hFvy75 27 (by decide)).trans ((hFvy70 27 (by decide)).trans ((hFvy68 27 (by decide)).trans ((hFvy64 27 (by decide)).trans ((hFvy59 27 (by decide)).trans ((hFvy54 27 (by decide)).trans ((hFvy52 27 (by decide)).trans ((hFvy47 27 (by decide)).trans ((hFvy45 27 (by decide)).trans (fn ((hFvy28 27 (by decide)).trans (fn rfl (by decide))) (by decide)))))))))))))
          have hey176 : Fvy158 28 = F 28 := ((hFvy158 28 (by decide)).trans ((hFvy77 28 (by decide)).trans ((hFvy75 28 (by decide)).trans ((hFvy70 28 (by decide)).trans ((hFvy68 28 (by decide)).trans ((hFvy64 28 (by decide)).trans ((hFvy59 28 (by decide)).trans ((hFvy54 28 (by decide)).trans ((hFvy52 28 (by decide)).trans ((hFvy47 28 (by decide)).trans ((hFvy45 28 (by decide)).trans (fn ((hFvy28 28 (by decide)).trans (fn rfl (by decide))) (by decide)))))))))))))
          have hey177 : Fvy158 29 = F 29 := ((hFvy158 29 (by decide)).trans ((hFvy77 29 (by decide)).trans ((hFvy75 29 (by decide)).trans ((hFvy70 29 (by decide)).trans ((hFvy68 29 (by decide)).trans ((hFvy64 29 (by decide)).trans ((hFvy59 29 (by decide)).trans ((hFvy54 29 (by decide)).trans ((hFvy52 29 (by decide)).trans ((hFvy47 29 (by decide)).trans ((hFvy45 29 (by decide)).trans (fn ((hFvy28 29 (by decide)).trans (fn rfl (by decide))) (by decide)))))))))))))
          have hKy178 : okF Fvy158 := okF.mv hM.2.1 hey164 hey165 hey166 hey167 hey168 hey169 hey170 hey171 hey172 hey173 hey174 hey175 hey176 hey177
          have hgy180 := (hfvy158 (i + 24) (ne_o (i := i) (c := 24) (d := 0) rfl)).trans htvy77
          have hMy179 : okMr cs ad gvy158 i (x + 1) Fvy158 r st op ai fa mu tb tp := okMr.upd hM hcvy158 hKy178 (fun f a => hFy163 f (by omega) (by omega)) hgy162 (hA.mono (by omega)) (fun j a b => by
              by_cases e0 : j = i + 24
              · exact Or.inr ⟨24, _, e0, lsP.l (by decide), by rw [e0]; exact hgy180⟩
              exact Or.inl (by rw [hfvy158 _ (by omega)]; rw [hfvy77 _ (by omega) (by omega)]; rw [hfvy75 _ (by omega) (by omega)]; rw [hfvy70 _ (by omega) (by omega)]; rw [hfvy68 _ (by omega) (by omega)]; rw [hfvy64 _ (by omega) (by omega)]; rw [hfvy59 _ (by omega) (by omega)]; rw [hfvy54 _ (by omega) (by omega)]; rw [hfvy52 _ (by omega) (by omega)]; rw [hfvy47 _ (by omega) (by omega)]; rw [hfvy45 _ (by omega) (by omega)]; rw [egy32, va_up_ne _ _ (by omega)]; rw [hfvy28 _ (by omega)]; rw [egy25, va_up_ne _ _ (by omega)]))
          have hkpy181 : Fvy158 13 = F 13 := ((hFvy158 13 (by decide)).trans ((hFvy77 13 (by decide)).trans ((hFvy75 13 (by decide)).trans ((hFvy70 13 (by decide)).trans ((hFvy68 13 (by decide)).trans ((hFvy64 13 (by decide)).trans ((hFvy59 13 (by decide)).trans ((hFvy54 13 (by decide)).trans ((hFvy52 13 (by decide)).trans ((hFvy47 13 (by decide)).trans ((hFvy45 13 (by decide)).trans (fn ((hFvy28 13 (by decide)).trans (fn rfl (by decide))) (by decide)))))))))))))
          have hkpy182 : Fvy158 14 = F 14 := ((hFvy158 14 (by decide)).trans ((hFvy77 14 (by decide)).trans ((hFvy75 14 (by decide)).trans ((hFvy70 14 (by decide)).trans ((hFvy68 14 (by decide)).trans ((hFvy64 14 (by decide)).trans ((hFvy59 14 (by decide)).trans ((hFvy54 14 (by decide)).trans ((hFvy52 14 (by decide)).trans ((hFvy47 14 (by decide)).trans ((hFvy45 14 (by decide)).trans (fn ((hFvy28 14 (by decide)).trans (fn rfl (by decide))) (by decide)))))))))))))
          have hkpy183 : Fvy158 15 = F 15 := ((hFvy158 15 (by decide)).trans ((hFvy77 15 (by decide)).trans ((hFvy75 15 (by decide)).trans ((hFvy70 15 (by decide)).trans ((hFvy68 15 (by decide)).trans ((hFvy64 15 (by decide)).trans ((hFvy59 15 (by decide)).trans ((hFvy54 15 (by decide)).trans ((hFvy52 15 (by decide)).trans ((hFvy47 15 (by decide)).trans ((hFvy45 15 (by decide)).trans (fn ((hFvy28 15 (by decide)).trans (fn rfl (by decide))) (by decide)))))))))))))
          have hkpy184 : Fvy158 16 = F 16 := ((hFvy158 16 (by decide)).trans ((hFvy77 16 (by decide)).trans ((hFvy75 16 (by decide)).trans ((hFvy70 16 (by decide)).trans ((hFvy68 16 (by decide)).trans ((hFvy64 16 (by decide)).trans ((hFvy59 16 (by decide)).trans ((hFvy54 16 (by decide)).trans ((hFvy52 16 (by decide)).trans ((hFvy47 16 (by decide)).trans ((hFvy45 16 (by decide)).trans (fn ((hFvy28 16 (by decide)).trans (fn rfl (by decide))) (by decide)))))))))))))
          have hkpy185 : Fvy158 17 = F 17 := ((hFvy158 17 (by decide)).trans ((hFvy77 17 (by decide)).trans ((hFvy75 17 (by decide)).trans ((hFvy70 17 (by decide)).trans ((hFvy68 17 (by decide)).trans ((hFvy64 17 (by decide)).trans ((hFvy59 17 (by decide)).trans ((hFvy54 17 (by decide)).trans ((hFvy52 17 (by decide)).trans ((hFvy47 17 (by decide)).trans ((hFvy45 17 (by decide)).trans (fn ((hFvy28 17 (by decide)).trans (fn rfl (by decide))) (by decide)))))))))))))
          have hkpy186 : Fvy158 18 = F 18 := ((hFvy158 18 (by decide)).trans ((hFvy77 18 (by decide)).trans ((hFvy75 18 (by decide)).trans ((hFvy70 18 (by decide)).trans ((hFvy68 18 (by decide)).trans ((hFvy64 18 (by decide)).trans ((hFvy59 18 (by decide)).trans ((hFvy54 18 (by decide)).trans ((hFvy52 18 (by decide)).trans ((hFvy47 18 (by decide)).trans ((hFvy45 18 (by decide)).trans (fn ((hFvy28 18 (by decide)).trans (fn rfl (by decide))) (by decide)))))))))))))
          have hkpy187 : Fvy158 19 = F 19 := ((hFvy158 19 (by decide)).trans ((hFvy77 19 (by decide)).trans ((hFvy75 19 (by decide)).trans ((hFvy70 19 (by decide)).trans ((hFvy68 19 (by decide)).trans ((hFvy64 19 (by decide)).trans ((hFvy59 19 (by decide)).trans ((hFvy54 19 (by decide)).trans ((hFvy52 19 (by decide)).trans ((hFvy47 19 (by decide)).trans ((hFvy45 19 (by decide)).trans (fn ((hFvy28 19 (by decide)).trans (fn rfl (by decide))) (by decide)))))))))))))
          have hkpy188 : Fvy158 20 = F 20 := ((hFvy158 20 (by decide)).trans ((hFvy77 20 (by decide)).trans ((hFvy75 20 (by decide)).trans ((hFvy70 20 (by decide)).trans ((hFvy68 20 (by decide)).trans ((hFvy64 20 (by decide)).trans ((hFvy59 20 (by decide)).trans ((hFvy54 20 (by decide)).trans ((hFvy52 20 (by decide)).trans ((hFvy47 20 (by decide)).trans ((hFvy45 20 (by decide)).trans (fn ((hFvy28 20 (by decide)).trans (fn rfl (by decide))) (by decide)))))))))))))
          have hkpy189 : Fvy158 21 = F 21 := ((hFvy158 21 (by decide)).trans ((hFvy77 21 (by decide)).trans ((hFvy75 21 (by decide)).trans ((hFvy70 21 (by decide)).trans ((hFvy68 21 (by decide)).trans ((hFvy64 21 (by decide)).trans ((hFvy59 21 (by decide)).trans ((hFvy54 21 (by decide)).trans ((hFvy52 21 (by decide)).trans ((hFvy47 21 (by decide)).trans ((hFvy45 21 (by decide)).trans (fn ((hFvy28 21 (by decide)).trans (fn rfl (by decide))) (by decide)))))))))))))
          have hkpy190 : Fvy158 23 = F 23 := ((hFvy158 23 (by decide)).trans ((hFvy77 23 (by decide)).trans ((hFvy75 23 (by decide)).trans ((hFvy70 23 (by decide)).trans ((hFvy68 23 (by decide)).trans ((hFvy64 23 (by decide)).trans ((hFvy59 23 (by decide)).trans ((hFvy54 23 (by decide)).trans ((hFvy52 23 (by decide)).trans ((hFvy47 23 (by decide)).trans ((hFvy45 23 (by decide)).trans (fn ((hFvy28 23 (by decide)).trans (fn rfl (by decide))) (by decide)))))))))))))
          have hkpy191 : Fvy158 24 = F 24 := ((hFvy158 24 (by decide)).trans ((hFvy77 24 (by decide)).trans ((hFvy75 24 (by decide)).trans ((hFvy70 24 (by decide)).trans ((hFvy68 24 (by decide)).trans ((hFvy64 24 (by decide)).trans ((hFvy59 24 (by decide)).trans ((hFvy54 24 (by decide)).trans ((hFvy52 24 (by decide)).trans ((hFvy47 24 (by decide)).trans ((hFvy45 24 (by decide)).trans (fn ((hFvy28 24 (by decide)).trans (fn rfl (by decide))) (by decide)))))))))))))
          have hkpy192 : Fvy158 25 = F 25 := ((hFvy158 25 (by decide)).trans ((hFvy77 25 (by decide)).trans ((hFvy75 25 (by decide)).trans ((hFvy70 25 (by decide)).trans ((hFvy68 25 (by decide)).trans ((hFvy64 25 (by decide)).trans ((hFvy59 25 (by decide)).trans ((hFvy54 25 (by decide)).trans ((hFvy52 25 (by decide)).trans ((hFvy47 25 (by decide)).trans ((hFvy45 25 (by decide)).trans (fn ((hFvy28 25 (by decide)).trans (fn rfl (by decide))) (by decide)))))))))))))
          have hkpy193 : Fvy158 26 = F 26 := ((hFvy158 26 (by decide)).trans ((hFvy77 26 (by decide)).trans ((hFvy75 26 (by decide)).trans ((hFvy70 26 (by decide)).trans ((hFvy68 26 (by decide)).trans ((hFvy64 26 (by decide)).trans ((hFvy59 26 (by decide)).trans ((hFvy54 26 (by decide)).trans ((hFvy52 26 (by decide)).trans ((hFvy47 26 (by decide)).trans ((hFvy45 26 (by decide)).trans (fn ((hFvy28 26 (by decide)).trans (fn rfl (by decide))) (by decide)))))))))))))
          have hkpy194 : Fvy158 27 = F 27 := ((hFvy158 27 (by decide)).trans ((hFvy77 27 (by decide)).trans ((hFvy75 27 (by decide)).trans ((hFvy70 27 (by decide)).trans ((hFvy68 27 (by decide)).trans ((hFvy64 27 (by decide)).trans ((hFvy59 27 (by decide)).trans ((hFvy54 27 (by decide)).trans ((hFvy52 27 (by decide)).trans ((hFvy47 27 (by decide)).trans ((hFvy45 27 (by decide)).trans (fn ((hFvy28 27 (by decide)).trans (fn rfl (by decide))) (by decide)))))))))))))
          have hkpy195 : Fvy158 29 = F 29 := ((hFvy158 29 (by decide)).trans ((hFvy77 29 (by decide)).trans ((hFvy75 29 (by decide)).trans ((hFvy70 29 (by decide)).trans ((hFvy68 29 (by decide)).trans ((hFvy64 29 (by decide)).trans ((hFvy59 29 (by decide)).trans ((hFvy54 29 (by decide)).trans ((hFvy52 29 (by decide)).trans ((hFvy47 29 (by decide)).trans ((hFvy45 29 (by decide)).trans (fn ((hFvy28 29 (by decide)).trans (fn rfl (by decide))) (by decide)))))))))))))
          exact z_iret C hr hlk dX10_told_210 (by decide) (by decide) ⟨0, rfl, rfl, rfl, by omega, ⟨_, _, hMy179, ⟨hkpy181, hkpy182, hkpy183, hkpy184, hkpy185, hkpy186, hkpy187, hkpy188, hkpy189, hkpy190, hkpy191⟩, ⟨(hkpy192.trans hp25), (hkpy193.trans hp26), (hkpy194.trans hp27), (hkpy195.trans hp29)⟩, (fun j _ => rfl)⟩, fun j j1 => by rw [hfvy158 _ (by omega)]; rw [hfvy77 _ (by omega) (by omega)]; rw [hfvy75 _ (by omega) (by omega)]; rw [hfvy70 _ (by omega) (by omega)]; rw [hfvy68 _ (by omega) (by omega)]; rw [hfvy64 _ (by omega) (by omega)]; rw [hfvy59 _ (by omega) (by omega)]; rw [hfvy54 _ (by omega) (by omega)]; rw [hfvy52 _ (by omega) (by omega)]; rw [hfvy47 _ (by omega) (by omega)]; rw [hfvy45 _ (by omega) (by omega)]; rw [egy32, va_up_ne _ _ (by omega)]; rw [hfvy28 _ (by omega)]; rw [egy25, va_up_ne _ _ (by omega)]⟩
      · refine z_aload_n C 0 dX10_told_176 rfl ?_
        refine z_get (v := .int (zI (Fvy75 51 + 1))) C (lt_A0 hN rfl) hay1 hcvy77 rfl inA_X10 51 (by decide) q_1510 rfl (fv (F := Fvy77) (f := 51) hqvy77) dX10_told_177 ?_
        have hgy196 := (hfvy75 (i + 1) (ne_o (i := i) (c := 1) (d := 0) rfl) (ne_o (i := i) (c := 1) (d := 24) rfl)).trans hgy73
        have hgy197 := (hfvy77 (i + 1) (ne_o (i := i) (c := 1) (d := 0) rfl) (ne_o (i := i) (c := 1) (d := 24) rfl)).trans hgy196
        have hFy198 : ∀ f, f ≠ 12 → f ≠ 51 → Fvy77 f = F f := fun f n12 n51 => ((hFvy77 f n51).trans ((hFvy75 f n51).trans ((hFvy70 f n51).trans ((hFvy68 f n51).trans ((hFvy64 f n51).trans ((hFvy59 f n51).trans ((hFvy54 f n51).trans ((hFvy52 f n51).trans ((hFvy47 f n51).trans ((hFvy45 f n51).trans ((uZ_n _ _ n51).trans ((hFvy28 f n12).trans ((uZ_n _ _ n12).trans rfl)))))))))))))
        have hey199 : Fvy77 13 = F 13 := ((hFvy77 13 (by decide)).trans ((hFvy75 13 (by decide)).trans ((hFvy70 13 (by decide)).trans ((hFvy68 13 (by decide)).trans ((hFvy64 13 (by decide)).trans ((hFvy59 13 (by decide)).trans ((hFvy54 13 (by decide)).trans ((hFvy52 13 (by decide)).trans ((hFvy47 13 (by decide)).trans ((hFvy45 13 (by decide)).trans (fn ((hFvy28 13 (by decide)).trans (fn rfl (by decide))) (by decide))))))))))))
        have hey200 : Fvy77 14 = F 14 := ((hFvy77 14 (by decide)).trans ((hFvy75 14 (by decide)).trans ((hFvy70 14 (by decide)).trans ((hFvy68 14 (by decide)).trans ((hFvy64 14 (by decide)).trans ((hFvy59 14 (by decide)).trans ((hFvy54 14 (by decide)).trans ((hFvy52 14 (by decide)).trans ((hFvy47 14 (by decide)).trans ((hFvy45 14 (by decide)).trans (fn ((hFvy28 14 (by decide)).trans (fn rfl (by decide))) (by decide))))))))))))
        have hey201 : Fvy77 15 = F 15 := ((hFvy77 15 (by decide)).trans ((hFvy75 15 (by decide)).trans ((hFvy70 15 (by decide)).trans ((hFvy68 15 (by decide)).trans ((hFvy64 15 (by decide)).trans ((hFvy59 15 (by decide)).trans ((hFvy54 15 (by decide)).trans ((hFvy52 15 (by decide)).trans ((hFvy47 15 (by decide)).trans ((hFvy45 15 (by decide)).trans (fn ((hFvy28 15 (by decide)).trans (fn rfl (by decide))) (by decide))))))))))))
        have hey202 : Fvy77 16 = F 16 := ((hFvy77 16 (by decide)).trans ((hFvy75 16 (by decide)).trans ((hFvy70 16 (by decide)).trans ((hFvy68 16 (by decide)).trans ((hFvy64 16 (by decide)).trans ((hFvy59 16 (by decide)).trans ((hFvy54 16 (by decide)).trans ((hFvy52 16 (by decide)).trans ((hFvy47 16 (by decide)).trans ((hFvy45 16 (by decide)).trans (fn ((hFvy28 16 (by decide)).trans (fn rfl (by decide))) (by decide))))))))))))
        have hey203 : Fvy77 17 = F 17 := ((hFvy77 17 (by decide)).trans ((hFvy75 17 (by decide)).trans ((hFvy70 17 (by decide)).trans ((hFvy68 17 (by decide)).trans ((hFvy64 17 (by decide)).trans ((hFvy59 17 (by decide)).trans ((hFvy54 17 (by decide)).trans ((hFvy52 17 (by decide)).trans ((hFvy47 17 (by decide)).trans ((hFvy45 17 (by decide)).trans (fn ((hFvy28 17 (by decide)).trans (fn rfl (by decide))) (by decide))))))))))))
        have hey204 : Fvy77 18 = F 18 := ((hFvy77 18 (by decide)).trans ((hFvy75 18 (by decide)).trans ((hFvy70 18 (by decide)).trans ((hFvy68 18 (by decide)).trans ((hFvy64 18 (by decide)).trans ((hFvy59 18 (by decide)).trans ((hFvy54 18 (by decide)).trans ((hFvy52 18 (by decide)).trans ((hFvy47 18 (by decide)).trans ((hFvy45 18 (by decide)).trans (fn ((hFvy28 18 (by decide)).trans (fn rfl (by decide))) (by decide))))))))))))
        have hey205 : Fvy77 19 = F 19 := ((hFvy77 19 (by decide)).trans ((hFvy75 19 (by decide)).trans ((hFvy70 19 (by decide)).trans ((hFvy68 19 (by decide)).trans ((hFvy64 19 (by decide)).trans ((hFvy59 19 (by decide)).trans ((hFvy54 19 (by decide)).trans ((hFvy52 19 (by decide)).trans ((hFvy47 19 (by decide)).trans ((hFvy45 19 (by decide)).trans (fn ((hFvy28 19 (by decide)).trans (fn rfl (by decide))) (by decide))))))))))))
        have hey206 : Fvy77 20 = F 20 := ((hFvy77 20 (by decide)).trans ((hFvy75 20 (by decide)).trans ((hFvy70 20 (by decide)).trans ((hFvy68 20 (by decide)).trans ((hFvy64 20 (by decide)).trans ((hFvy59 20 (by decide)).trans ((hFvy54 20 (by decide)).trans ((hFvy52 20 (by decide)).trans ((hFvy47 20 (by decide)).trans ((hFvy45 20 (by decide)).trans (fn ((hFvy28 20 (by decide)).trans (fn rfl (by decide))) (by decide))))))))))))
        have hey207 : Fvy77 21 = F 21 := ((hFvy77 21 (by decide)).trans ((hFvy75 21 (by decide)).trans ((hFvy70 21 (by decide)).trans ((hFvy68 21 (by decide)).trans ((hFvy64 21 (by decide)).trans ((hFvy59 21 (by decide)).trans ((hFvy54 21 (by decide)).trans ((hFvy52 21 (by decide)).trans ((hFvy47 21 (by decide)).trans ((hFvy45 21 (by decide)).trans (fn ((hFvy28 21 (by decide)).trans (fn rfl (by decide))) (by decide))))))))))))
        have hey208 : Fvy77 23 = F 23 := ((hFvy77 23 (by decide)).trans ((hFvy75 23 (by decide)).trans ((hFvy70 23 (by decide)).trans ((hFvy68 23 (by decide)).trans ((hFvy64 23 (by decide)).trans ((hFvy59 23 (by decide)).trans ((hFvy54 23 (by decide)).trans ((hFvy52 23 (by decide)).trans ((hFvy47 23 (by decide)).trans ((hFvy45 23 (by decide)).trans (fn ((hFvy28 23 (by decide)).trans (fn rfl (by decide))) (by decide))))))))))))
        have hey209 : Fvy77 25 = F 25 := ((hFvy77 25 (by decide)).trans ((hFvy75 25 (by decide)).trans ((hFvy70 25 (by decide)).trans ((hFvy68 25 (by decide)).trans ((hFvy64 25 (by decide)).trans ((hFvy59 25 (by decide)).trans ((hFvy54 25 (by decide)).trans ((hFvy52 25 (by decide)).trans ((hFvy47 25 (by decide)).trans ((hFvy45 25 (by decide)).trans (fn ((hFvy28 25 (by decide)).trans (fn rfl (by decide))) (by decide))))))))))))
        have hey210 : Fvy77 27 = F 27 := ((hFvy77 27 (by decide)).trans ((hFvy75 27 (by decide)).trans ((hFvy70 27 (by decide)).trans ((hFvy68 27 (by decide)).trans ((hFvy64 27 (by decide)).trans ((hFvy59 27 (by decide)).trans ((hFvy54 27 (by decide)).trans ((hFvy52 27 (by decide)).trans ((hFvy47 27 (by decide)).trans ((hFvy45 27 (by decide)).trans (fn ((hFvy28 27 (by decide)).trans (fn rfl (by decide))) (by decide))))))))))))
        have hey211 : Fvy77 28 = F 28 := ((hFvy77 28 (by decide)).trans ((hFvy75 28 (by decide)).trans ((hFvy70 28 (by decide)).trans ((hFvy68 28 (by decide)).trans ((hFvy64 28 (by decide)).trans ((hFvy59 28 (by decide)).trans ((hFvy54 28 (by decide)).trans ((hFvy52 28 (by decide)).trans ((hFvy47 28 (by decide)).trans ((hFvy45 28 (by decide)).trans (fn ((hFvy28 28 (by decide)).trans (fn rfl (by decide))) (by decide))))))))))))
        have hey212 : Fvy77 29 = F 29 := ((hFvy77 29 (by decide)).trans ((hFvy75 29 (by decide)).trans ((hFvy70 29 (by decide)).trans ((hFvy68 29 (by decide)).trans ((hFvy64 29 (by decide)).trans ((hFvy59 29 (by decide)).trans ((hFvy54 29 (by decide)).trans ((hFvy52 29 (by decide)).trans ((hFvy47 29 (by decide)).trans ((hFvy45 29 (by decide)).trans (fn ((hFvy28 29 (by decide)).trans (fn rfl (by decide))) (by decide))))))))))))
        have hKy213 : okF Fvy77 := okF.mv hM.2.1 hey199 hey200 hey201 hey202 hey203 hey204 hey205 hey206 hey207 hey208 hey209 hey210 hey211 hey212
        have hMy214 : okMr cs ad gvy77 i (x + 1) Fvy77 r st op ai fa mu tb tp := okMr.upd hM hcvy77 hKy213 (fun f a => hFy198 f (by omega) (by omega)) hgy197 (hA.mono (by omega)) (fun j a b => by
            by_cases e0 : j = i + 24
            · exact Or.inr ⟨24, _, e0, lsP.l (by decide), by rw [e0]; exact htvy77⟩
            exact Or.inl (by rw [hfvy77 _ (by omega) (by omega)]; rw [hfvy75 _ (by omega) (by omega)]; rw [hfvy70 _ (by omega) (by omega)]; rw [hfvy68 _ (by omega) (by omega)]; rw [hfvy64 _ (by omega) (by omega)]; rw [hfvy59 _ (by omega) (by omega)]; rw [hfvy54 _ (by omega) (by omega)]; rw [hfvy52 _ (by omega) (by omega)]; rw [hfvy47 _ (by omega) (by omega)]; rw [hfvy45 _ (by omega) (by omega)]; rw [egy32, va_up_ne _ _ (by omega)]; rw [hfvy28 _ (by omega)]; rw [egy25, va_up_ne _ _ (by omega)]))
        have hkpy215 : Fvy77 13 = F 13 := ((hFvy77 13 (by decide)).trans ((hFvy75 13 (by decide)).trans ((hFvy70 13 (by decide)).trans ((hFvy68 13 (by decide)).trans ((hFvy64 13 (by decide)).trans ((hFvy59 13 (by decide)).trans ((hFvy54 13 (by decide)).trans ((hFvy52 13 (by decide)).trans ((hFvy47 13 (by decide)).trans ((hFvy45 13 (by decide)).trans (fn ((hFvy28 13 (by decide)).trans (fn rfl (by decide))) (by decide))))))))))))
        have hkpy216 : Fvy77 14 = F 14 := ((hFvy77 14 (by decide)).trans ((hFvy75 14 (by decide)).trans ((hFvy70 14 (by decide)).trans ((hFvy68 14 (by decide)).trans ((hFvy64 14 (by decide)).trans ((hFvy59 14 (by decide)).trans ((hFvy54 14 (by decide)).trans ((hFvy52 14 (by decide)).trans ((hFvy47 14 (by decide)).trans ((hFvy45 14 (by decide)).trans (fn ((hFvy28 14 (by decide)).trans (fn rfl (by decide))) (by decide))))))))))))
        have hkpy217 : Fvy77 15 = F 15 := ((hFvy77 15 (by decide)).trans ((hFvy75 15 (by decide)).trans ((hFvy70 15 (by decide)).trans ((hFvy68 15 (by decide)).trans ((hFvy64 15 (by decide)).trans ((hFvy59 15 (by decide)).trans ((hFvy54 15 (by decide)).trans ((hFvy52 15 (by decide)).trans ((hFvy47 15 (by decide)).trans ((hFvy45 15 (by decide)).trans (fn ((hFvy28 15 (by decide)).trans (fn rfl (by decide))) (by decide))))))))))))
        have hkpy218 : Fvy77 16 = F 16 := ((hFvy77 16 (by decide)).trans ((hFvy75 16 (by decide)).trans ((hFvy70 16 (by decide)).trans ((hFvy68 16 (by decide)).trans ((hFvy64 16 (by decide)).trans ((hFvy59 16 (by decide)).trans ((hFvy54 16 (by decide)).trans ((hFvy52 16 (by decide)).trans ((hFvy47 16 (by decide)).trans ((hFvy45 16 (by decide)).trans (fn ((hFvy28 16 (by decide)).trans (fn rfl (by decide))) (by decide))))))))))))
        have hkpy219 : Fvy77 17 = F 17 := ((hFvy77 17 (by decide)).trans ((hFvy75 17 (by decide)).trans ((hFvy70 17 (by decide)).trans ((hFvy68 17 (by decide)).trans ((hFvy64 17 (by decide)).trans ((hFvy59 17 (by decide)).trans ((hFvy54 17 (by decide)).trans ((hFvy52 17 (by decide)).trans ((hFvy47 17 (by decide)).trans ((hFvy45 17 (by decide)).trans (fn ((hFvy28 17 (by decide)).trans (fn rfl (by decide))) (by decide))))))))))))
        have hkpy220 : Fvy77 18 = F 18 := ((hFvy77 18 (by decide)).trans ((hFvy75 18 (by decide)).trans ((hFvy70 18 (by decide)).trans ((hFvy68 18 (by decide)).trans ((hFvy64 18 (by decide)).trans ((hFvy59 18 (by decide)).trans ((hFvy54 18 (by decide)).trans ((hFvy52 18 (by decide)).trans ((hFvy47 18 (by decide)).trans ((hFvy45 18 (by decide)).trans (fn ((hFvy28 18 (by decide)).trans (fn rfl (by decide))) (by decide))))))))))))
        have hkpy221 : Fvy77 19 = F 19 := ((hFvy77 19 (by decide)).trans ((hFvy75 19 (by decide)).trans ((hFvy70 19 (by decide)).trans ((hFvy68 19 (by decide)).trans ((hFvy64 19 (by decide)).trans ((hFvy59 19 (by decide)).trans ((hFvy54 19 (by decide)).trans ((hFvy52 19 (by decide)).trans ((hFvy47 19 (by decide)).trans ((hFvy45 19 (by decide)).trans (fn ((hFvy28 19 (by decide)).trans (fn rfl (by decide))) (by decide))))))))))))
        have hkpy222 : Fvy77 20 = F 20 := ((hFvy77 20 (by decide)).trans ((hFvy75 20 (by decide)).trans ((hFvy70 20 (by decide)).trans ((hFvy68 20 (by decide)).trans ((hFvy64 20 (by decide)).trans ((hFvy59 20 (by decide)).trans ((hFvy54 20 (by decide)).trans ((hFvy52 20 (by decide)).trans ((hFvy47 20 (by decide)).trans ((hFvy45 20 (by decide)).trans (fn ((hFvy28 20 (by decide)).trans (fn rfl (by decide))) (by decide))))))))))))
        have hkpy223 : Fvy77 21 = F 21 := ((hFvy77 21 (by decide)).trans ((hFvy75 21 (by decide)).trans ((hFvy70 21 (by decide)).trans ((hFvy68 21 (by decide)).trans ((hFvy64 21 (by decide)).trans ((hFvy59 21 (by decide)).trans ((hFvy54 21 (by decide)).trans ((hFvy52 21 (by decide)).trans ((hFvy47 21 (by decide)).trans ((hFvy45 21 (by decide)).trans (fn ((hFvy28 21 (by decide)).trans (fn rfl (by decide))) (by decide))))))))))))
        have hkpy224 : Fvy77 23 = F 23 := ((hFvy77 23 (by decide)).trans ((hFvy75 23 (by decide)).trans ((hFvy70 23 (by decide)).trans ((hFvy68 23 (by decide)).trans ((hFvy64 23 (by decide)).trans ((hFvy59 23 (by decide)).trans ((hFvy54 23 (by decide)).trans ((hFvy52 23 (by decide)).trans ((hFvy47 23 (by decide)).trans ((hFvy45 23 (by decide)).trans (fn ((hFvy28 23 (by decide)).trans (fn rfl (by decide))) (by decide))))))))))))
        have hkpy225 : Fvy77 24 = F 24 := ((hFvy77 24 (by decide)).trans ((hFvy75 24 (by decide)).trans ((hFvy70 24 (by decide)).trans ((hFvy68 24 (by decide)).trans ((hFvy64 24 (by decide)).trans ((hFvy59 24 (by decide)).trans ((hFvy54 24 (by decide)).trans ((hFvy52 24 (by decide)).trans ((hFvy47 24 (by decide)).trans ((hFvy45 24 (by decide)).trans (fn ((hFvy28 24 (by decide)).trans (fn rfl (by decide))) (by decide))))))))))))
        have hkpy226 : Fvy77 25 = F 25 := ((hFvy77 25 (by decide)).trans ((hFvy75 25 (by decide)).trans ((hFvy70 25 (by decide)).trans ((hFvy68 25 (by decide)).trans ((hFvy64 25 (by decide)).trans ((hFvy59 25 (by decide)).trans ((hFvy54 25 (by decide)).trans ((hFvy52 25 (by decide)).trans ((hFvy47 25 (by decide)).trans ((hFvy45 25 (by decide)).trans (fn ((hFvy28 25 (by decide)).trans (fn rfl (by decide))) (by decide))))))))))))
        have hkpy227 : Fvy77 26 = F 26 := ((hFvy77 26 (by decide)).trans ((hFvy75 26 (by decide)).trans ((hFvy70 26 (by decide)).trans ((hFvy68 26 (by decide)).trans ((hFvy64 26 (by decide)).trans ((hFvy59 26 (by decide)).trans ((hFvy54 26 (by decide)).trans ((hFvy52 26 (by decide)).trans ((hFvy47 26 (by decide)).trans ((hFvy45 26 (by decide)).trans (fn ((hFvy28 26 (by decide)).trans (fn rfl (by decide))) (by decide))))))))))))
        have hkpy228 : Fvy77 27 = F 27 := ((hFvy77 27 (by decide)).trans ((hFvy75 27 (by decide)).trans ((hFvy70 27 (by decide)).trans ((hFvy68 27 (by decide)).trans ((hFvy64 27 (by decide)).trans ((hFvy59 27 (by decide)).trans ((hFvy54 27 (by decide)).trans ((hFvy52 27 (by decide)).trans ((hFvy47 27 (by decide)).trans ((hFvy45 27 (by decide)).trans (fn ((hFvy28 27 (by decide)).trans (fn rfl (by decide))) (by decide))))))))))))
        have hkpy229 : Fvy77 29 = F 29 := ((hFvy77 29 (by decide)).trans ((hFvy75 29 (by decide)).trans ((hFvy70 29 (by decide)).trans ((hFvy68 29 (by decide)).trans ((hFvy64 29 (by decide)).trans ((hFvy59 29 (by decide)).trans ((hFvy54 29 (by decide)).trans ((hFvy52 29 (by decide)).trans ((hFvy47 29 (by decide)).trans ((hFvy45 29 (by decide)).trans (fn ((hFvy28 29 (by decide)).trans (fn rfl (by decide))) (by decide))))))))))))
        exact z_iret C hr hlk dX10_told_180 (by decide) (by decide) ⟨Fvy75 51 + 1, rfl, rfl, rfl, by omega, ⟨_, _, hMy214, ⟨hkpy215, hkpy216, hkpy217, hkpy218, hkpy219, hkpy220, hkpy221, hkpy222, hkpy223, hkpy224, hkpy225⟩, ⟨(hkpy226.trans hp25), (hkpy227.trans hp26), (hkpy228.trans hp27), (hkpy229.trans hp29)⟩, (fun j _ => rfl)⟩, fun j j1 => by rw [hfvy77 _ (by omega) (by omega)]; rw [hfvy75 _ (by omega) (by omega)]; rw [hfvy70 _ (by omega) (by omega)]; rw [hfvy68 _ (by omega) (by omega)]; rw [hfvy64 _ (by omega) (by omega)]; rw [hfvy59 _ (by omega) (by omega)]; rw [hfvy54 _ (by omega) (by omega)]; rw [hfvy52 _ (by omega) (by omega)]; rw [hfvy47 _ (by omega) (by omega)]; rw [hfvy45 _ (by omega) (by omega)]; rw [egy32, va_up_ne _ _ (by omega)]; rw [hfvy28 _ (by omega)]; rw [egy25, va_up_ne _ _ (by omega)]⟩
    · refine z_aload_n C 0 dX10_told_83 rfl ?_
      refine z_bipush (z := 32) C dX10_told_84 (by decide) ?_
      have hey231 : Fvy59 51 = Fvy59 51 := rfl
      refine z_cV (As := [.int (zI (32))]) (rest := []) (ci := 12) C (c_X10_says l D A cs tt N ad _ i hN _ hcvy59 _ htvy59 (by omega) (32)) (lt_A0 hN rfl) hay1 hcvy59 rfl rfl mv_yX10_says q_1850 hd_yX10_says (by decide) (Nat.le_of_ble_eq_true rfl) (by decide) dX10_told_86 rfl (kV0 fun gvy230 hvy230 => ?_)
      obtain ⟨⟨Fvy230, hcvy230, hnvy230, hFvy230⟩, ⟨tvy230, htvy230⟩, hfvy230⟩ := hvy230
      have hovy230 : Fvy59 51 = Fvy59 51 := rfl
      have hqvy230 : Fvy230 51 = Fvy59 51 + 1 := by omega
      clear hnvy230 hovy230
      refine z_aload_n C 0 dX10_told_89 rfl ?_
      refine z_bipush (z := 119) C dX10_told_90 (by decide) ?_
      have hey233 : Fvy230 51 = Fvy59 51 + 1 := hqvy230
      refine z_cV (As := [.int (zI (119))]) (rest := []) (ci := 12) C (c_X10_says l D A cs tt N ad _ i hN _ hcvy230 _ htvy230 (by omega) (119)) (lt_A0 hN rfl) hay1 hcvy230 rfl rfl mv_yX10_says q_1850 hd_yX10_says (by decide) (Nat.le_of_ble_eq_true rfl) (by decide) dX10_told_92 rfl (kV0 fun gvy232 hvy232 => ?_)
      obtain ⟨⟨Fvy232, hcvy232, hnvy232, hFvy232⟩, ⟨tvy232, htvy232⟩, hfvy232⟩ := hvy232
      have hovy232 : Fvy230 51 = Fvy59 51 + 1 := hqvy230
      have hqvy232 : Fvy232 51 = Fvy59 51 + 2 := by omega
      clear hnvy232 hovy232
      refine z_aload_n C 0 dX10_told_95 rfl ?_
      refine z_bipush (z := 101) C dX10_told_96 (by decide) ?_
      have hey235 : Fvy232 51 = Fvy59 51 + 2 := hqvy232
      refine z_cV (As := [.int (zI (101))]) (rest := []) (ci := 12) C (c_X10_says l D A cs tt N ad _ i hN _ hcvy232 _ htvy232 (by omega) (101)) (lt_A0 hN rfl) hay1 hcvy232 rfl rfl mv_yX10_says q_1850 hd_yX10_says (by decide) (Nat.le_of_ble_eq_true rfl) (by decide) dX10_told_98 rfl (kV0 fun gvy234 hvy234 => ?_)
      obtain ⟨⟨Fvy234, hcvy234, hnvy234, hFvy234⟩, ⟨tvy234, htvy234⟩, hfvy234⟩ := hvy234
      have hovy234 : Fvy232 51 = Fvy59 51 + 2 := hqvy232
      have hqvy234 : Fvy234 51 = Fvy59 51 + 3 := by omega
      clear hnvy234 hovy234
      refine z_aload_n C 0 dX10_told_101 rfl ?_
      refine z_bipush (z := 116) C dX10_told_102 (by decide) ?_
      have hey237 : Fvy234 51 = Fvy59 51 + 3 := hqvy234
      refine z_cV (As := [.int (zI (116))]) (rest := []) (ci := 12) C (c_X10_says l D A cs tt N ad _ i hN _ hcvy234 _ htvy234 (by omega) (116)) (lt_A0 hN rfl) hay1 hcvy234 rfl rfl mv_yX10_says q_1850 hd_yX10_says (by decide) (Nat.le_of_ble_eq_true rfl) (by decide) dX10_told_104 rfl (kV0 fun gvy236 hvy236 => ?_)
      obtain ⟨⟨Fvy236, hcvy236, hnvy236, hFvy236⟩, ⟨tvy236, htvy236⟩, hfvy236⟩ := hvy236
      have hovy236 : Fvy234 51 = Fvy59 51 + 3 := hqvy234
      have hqvy236 : Fvy236 51 = Fvy59 51 + 4 := by omega
      clear hnvy236 hovy236
      refine z_aload_n C 0 dX10_told_107 rfl ?_
      refine z_bipush (z := 32) C dX10_told_108 (by decide) ?_
      have hey239 : Fvy236 51 = Fvy59 51 + 4 := hqvy236
      refine z_cV (As := [.int (zI (32))]) (rest := []) (ci := 12) C (c_X10_says l D A cs tt N ad _ i hN _ hcvy236 _ htvy236 (by omega) (32)) (lt_A0 hN rfl) hay1 hcvy236 rfl rfl mv_yX10_says q_1850 hd_yX10_says (by decide) (Nat.le_of_ble_eq_true rfl) (by decide) dX10_told_110 rfl (kV0 fun gvy238 hvy238 => ?_)
      obtain ⟨⟨Fvy238, hcvy238, hnvy238, hFvy238⟩, ⟨tvy238, htvy238⟩, hfvy238⟩ := hvy238
      have hovy238 : Fvy236 51 = Fvy59 51 + 4 := hqvy236
      have hqvy238 : Fvy238 51 = Fvy59 51 + 5 := by omega
      clear hnvy238 hovy238
      refine z_aload_n C 0 dX10_told_113 rfl ?_
      refine z_aload_n C 0 dX10_told_114 rfl ?_
      refine z_iconst (z := 0) C dX10_told_115 rfl ?_
      refine z_iload_n C 1 dX10_told_116 rfl ?_
      refine z_iload_n C 2 dX10_told_117 rfl ?_
      refine z_iconst (z := 2) C dX10_told_118 rfl ?_
      have hgy240 := (hfvy230 (i + 1) (ne_o (i := i) (c := 1) (d := 0) rfl) (ne_o (i := i) (c := 1) (d := 24) rfl)).trans hgy61
      have hgy241 := (hfvy232 (i + 1) (ne_o (i := i) (c := 1) (d := 0) rfl) (ne_o (i := i) (c := 1) (d := 24) rfl)).trans hgy240
      have hgy242 := (hfvy234 (i + 1) (ne_o (i := i) (c := 1) (d := 0) rfl) (ne_o (i := i) (c := 1) (d := 24) rfl)).trans hgy241
      have hgy243 := (hfvy236 (i + 1) (ne_o (i := i) (c := 1) (d := 0) rfl) (ne_o (i := i) (c := 1) (d := 24) rfl)).trans hgy242
      have hgy244 := (hfvy238 (i + 1) (ne_o (i := i) (c := 1) (d := 0) rfl) (ne_o (i := i) (c := 1) (d := 24) rfl)).trans hgy243
      refine z_cV (As := [.int (zI (0)), .int (zI ((n : Int))), .int (zI (z1)), .int (zI (2))]) (rest := [.ref (ad i)]) (ci := 12) C (c_X10_of l D A cs tt N ad _ i hN _ hcvy238 _ hgy244 0 n py30 hpy30 (by omega) (by omega) (z1) (2) (qy37 + 2) (by omega) (by omega) (by omega)) (lt_A0 hN rfl) hay1 hcvy238 rfl rfl mv_yX10_of q_1749 hd_yX10_of (by decide) (Nat.le_of_ble_eq_true rfl) (by decide) dX10_told_119 rfl (kI0 fun vy245 gvy245 hvy245 => ?_)
      obtain ⟨rfl, rfl⟩ := hvy245
      have hey247 : Fvy238 51 = Fvy59 51 + 5 := hqvy238
      refine z_cV (As := [.int (zI (r (qy37 + 2)))]) (rest := []) (ci := 12) C (c_X10_saysNumber9 l D A cs tt N ad _ i hN _ hcvy238 _ htvy238 (by omega) (r (qy37 + 2)) (by omega)) (lt_A0 hN rfl) hay1 hcvy238 rfl rfl mv_yX10_saysNumber q_1846 hd_yX10_saysNumber (by decide) (Nat.le_of_ble_eq_true rfl) (by decide) dX10_told_122 rfl (kV0 fun gvy246 hvy246 => ?_)
      obtain ⟨⟨Fvy246, hcvy246, hnvy246, hFvy246⟩, ⟨tvy246, htvy246⟩, hfvy246⟩ := hvy246
      have hovy246 : Fvy238 51 = Fvy59 51 + 5 := hqvy238
      refine z_aload_n C 0 dX10_told_125 rfl ?_
      refine z_bipush (z := 105) C dX10_told_126 (by decide) ?_
      refine z_bipush (z := 110) C dX10_told_128 (by decide) ?_
      have hey249 : Fvy246 51 = Fvy246 51 := rfl
      refine z_cV (As := [.int (zI (105)), .int (zI (110))]) (rest := []) (ci := 12) C (c_X10_saysWord l D A cs tt N ad _ i hN _ hcvy246 _ htvy246 (by omega) (105) (110)) (lt_A0 hN rfl) hay1 hcvy246 rfl rfl mv_yX10_saysWord q_1858 hd_yX10_saysWord (by decide) (Nat.le_of_ble_eq_true rfl) (by decide) dX10_told_130 rfl (kV0 fun gvy248 hvy248 => ?_)
      obtain ⟨⟨Fvy248, hcvy248, hnvy248, hFvy248⟩, ⟨tvy248, htvy248⟩, hfvy248⟩ := hvy248
      have hovy248 : Fvy246 51 = Fvy246 51 := rfl
      have hqvy248 : Fvy248 51 = Fvy246 51 + 4 := by omega
      clear hnvy248 hovy248
      refine z_aload_n C 0 dX10_told_133 rfl ?_
      refine z_aload_n C 0 dX10_told_134 rfl ?_
      refine z_iconst (z := 0) C dX10_told_135 rfl ?_
      refine z_iload_n C 1 dX10_told_136 rfl ?_
      refine z_iload_n C 2 dX10_told_137 rfl ?_
      refine z_iconst (z := 3) C dX10_told_138 rfl ?_
      have hgy250 := (hfvy246 (i + 1) (ne_o (i := i) (c := 1) (d := 0) rfl) (ne_o (i := i) (c := 1) (d := 24) rfl)).trans hgy244
      have hgy251 := (hfvy248 (i + 1) (ne_o (i := i) (c := 1) (d := 0) rfl) (ne_o (i := i) (c := 1) (d := 24) rfl)).trans hgy250
      refine z_cV (As := [.int (zI (0)), .int (zI ((n : Int))), .int (zI (z1)), .int (zI (3))]) (rest := [.ref (ad i)]) (ci := 12) C (c_X10_of l D A cs tt N ad _ i hN _ hcvy248 _ hgy251 0 n py30 hpy30 (by omega) (by omega) (z1) (3) (qy37 + 3) (by omega) (by omega) (by omega)) (lt_A0 hN rfl) hay1 hcvy248 rfl rfl mv_yX10_of q_1749 hd_yX10_of (by decide) (Nat.le_of_ble_eq_true rfl) (by decide) dX10_told_139 rfl (kI0 fun vy252 gvy252 hvy252 => ?_)
      obtain ⟨rfl, rfl⟩ := hvy252
      have hey254 : Fvy248 51 = Fvy246 51 + 4 := hqvy248
      refine z_cV (As := [.int (zI (r (qy37 + 3)))]) (rest := []) (ci := 12) C (c_X10_saysNumber9 l D A cs tt N ad _ i hN _ hcvy248 _ htvy248 (by omega) (r (qy37 + 3)) (by omega)) (lt_A0 hN rfl) hay1 hcvy248 rfl rfl mv_yX10_saysNumber q_1846 hd_yX10_saysNumber (by decide) (Nat.le_of_ble_eq_true rfl) (by decide) dX10_told_142 rfl (kV0 fun gvy253 hvy253 => ?_)
      obtain ⟨⟨Fvy253, hcvy253, hnvy253, hFvy253⟩, ⟨tvy253, htvy253⟩, hfvy253⟩ := hvy253
      have hovy253 : Fvy248 51 = Fvy246 51 + 4 := hqvy248
      refine z_aload_n C 0 dX10_told_145 rfl ?_
      refine z_bipush (z := 97) C dX10_told_146 (by decide) ?_
      refine z_bipush (z := 116) C dX10_told_148 (by decide) ?_
      have hey256 : Fvy253 51 = Fvy253 51 := rfl
      refine z_cV (As := [.int (zI (97)), .int (zI (116))]) (rest := []) (ci := 12) C (c_X10_saysWord l D A cs tt N ad _ i hN _ hcvy253 _ htvy253 (by omega) (97) (116)) (lt_A0 hN rfl) hay1 hcvy253 rfl rfl mv_yX10_saysWord q_1858 hd_yX10_saysWord (by decide) (Nat.le_of_ble_eq_true rfl) (by decide) dX10_told_150 rfl (kV0 fun gvy255 hvy255 => ?_)
      obtain ⟨⟨Fvy255, hcvy255, hnvy255, hFvy255⟩, ⟨tvy255, htvy255⟩, hfvy255⟩ := hvy255
      have hovy255 : Fvy253 51 = Fvy253 51 := rfl
      have hqvy255 : Fvy255 51 = Fvy253 51 + 4 := by omega
      clear hnvy255 hovy255
      refine z_aload_n C 0 dX10_told_153 rfl ?_
      refine z_aload_n C 0 dX10_told_154 rfl ?_
      refine z_iconst (z := 0) C dX10_told_155 rfl ?_
      refine z_iload_n C 1 dX10_told_156 rfl ?_
      refine z_iload_n C 2 dX10_told_157 rfl ?_
      refine z_iconst (z := 4) C dX10_told_158 rfl ?_
      have hgy257 := (hfvy253 (i + 1) (ne_o (i := i) (c := 1) (d := 0) rfl) (ne_o (i := i) (c := 1) (d := 24) rfl)).trans hgy251
      have hgy258 := (hfvy255 (i + 1) (ne_o (i := i) (c := 1) (d := 0) rfl) (ne_o (i := i) (c := 1) (d := 24) rfl)).trans hgy257
      refine z_cV (As := [.int (zI (0)), .int (zI ((n : Int))), .int (zI (z1)), .int (zI (4))]) (rest := [.ref (ad i)]) (ci := 12) C (c_X10_of l D A cs tt N ad _ i hN _ hcvy255 _ hgy258 0 n py30 hpy30 (by omega) (by omega) (z1) (4) (qy37 + 4) (by omega) (by omega) (by omega)) (lt_A0 hN rfl) hay1 hcvy255 rfl rfl mv_yX10_of q_1749 hd_yX10_of (by decide) (Nat.le_of_ble_eq_true rfl) (by decide) dX10_told_159 rfl (kI0 fun vy259 gvy259 hvy259 => ?_)
      obtain ⟨rfl, rfl⟩ := hvy259
      have hey261 : Fvy255 51 = Fvy253 51 + 4 := hqvy255
      refine z_cV (As := [.int (zI (r (qy37 + 4)))]) (rest := []) (ci := 12) C (c_X10_saysNumber5 l D A cs tt N ad _ i hN _ hcvy255 _ htvy255 (by omega) (r (qy37 + 4)) (by omega)) (lt_A0 hN rfl) hay1 hcvy255 rfl rfl mv_yX10_saysNumber q_1846 hd_yX10_saysNumber (by decide) (Nat.le_of_ble_eq_true rfl) (by decide) dX10_told_162 rfl (kV0 fun gvy260 hvy260 => ?_)
      obtain ⟨⟨Fvy260, hcvy260, hnvy260, hFvy260⟩, ⟨tvy260, htvy260⟩, hfvy260⟩ := hvy260
      have hovy260 : Fvy255 51 = Fvy253 51 + 4 := hqvy255
      refine z_aload_n C 0 dX10_told_165 rfl ?_
      refine z_bipush (z := 59) C dX10_told_166 (by decide) ?_
      have hey263 : Fvy260 51 = Fvy260 51 := rfl
      refine z_cV (As := [.int (zI (59))]) (rest := []) (ci := 12) C (c_X10_says l D A cs tt N ad _ i hN _ hcvy260 _ htvy260 (by omega) (59)) (lt_A0 hN rfl) hay1 hcvy260 rfl rfl mv_yX10_says q_1850 hd_yX10_says (by decide) (Nat.le_of_ble_eq_true rfl) (by decide) dX10_told_168 rfl (kV0 fun gvy262 hvy262 => ?_)
      obtain ⟨⟨Fvy262, hcvy262, hnvy262, hFvy262⟩, ⟨tvy262, htvy262⟩, hfvy262⟩ := hvy262
      have hovy262 : Fvy260 51 = Fvy260 51 := rfl
      have hqvy262 : Fvy262 51 = Fvy260 51 + 1 := by omega
      clear hnvy262 hovy262
      refine z_iload_n C 3 dX10_told_171 rfl ?_
      refine z_iconst (z := -1) C dX10_told_172 rfl ?_
      refine z_icmp_ne (tgt := 181) C dX10_told_173 (by decide) (by omega) (by omega) (fun hby264 => ?_) (fun hby264 => ?_)
      · refine z_aload_n C 0 dX10_told_181 rfl ?_
        refine z_iload_n C 3 dX10_told_182 rfl ?_
        refine z_iconst (z := 0) C dX10_told_183 rfl ?_
        refine z_aload_n C 0 dX10_told_184 rfl ?_
        refine z_get (v := .int (zI (Fvy260 51 + 1))) C (lt_A0 hN rfl) hay1 hcvy262 rfl inA_X10 51 (by decide) q_1510 rfl (fv (F := Fvy262) (f := 51) hqvy262) dX10_told_185 ?_
        refine z_iconst (z := 1) C dX10_told_188 rfl ?_
        refine z_isub C dX10_told_189 ?_
        refine z_cS (As := [.int (zI (z2)), .int (zI (0)), .int (zI ((Fvy260 51 + 1) - 1))]) (rest := [.ref (ad i)]) C (c_X10_within l D A cs tt N ad _ (z2) (by omega) (0) (by omega) ((Fvy260 51 + 1) - 1) (by omega)) ms_yX10_within q_1686 hd_yX10_within (by decide) (Nat.le_of_ble_eq_true rfl) (by decide) dX10_told_190 rfl (kI0 fun vy265 gvy265 hvy265 => ?_)
        obtain ⟨hvy265, rfl⟩ := hvy265
        rcases hvy265 with ⟨rfl, hxvy265⟩ | ⟨rfl, hxvy265⟩
        · refine z_iconst (z := 1) C dX10_told_193 rfl ?_
          have hey267 : Fvy262 12 = Fvy28 12 := ((hFvy262 12 (by decide)).trans ((hFvy260 12 (by decide)).trans ((hFvy255 12 (by decide)).trans ((hFvy253 12 (by decide)).trans ((hFvy248 12 (by decide)).trans ((hFvy246 12 (by decide)).trans ((hFvy238 12 (by decide)).trans ((hFvy236 12 (by decide)).trans ((hFvy234 12 (by decide)).trans ((hFvy232 12 (by decide)).trans ((hFvy230 12 (by decide)).trans ((hFvy59 12 (by decide)).trans ((hFvy54 12 (by decide)).trans ((hFvy52 12 (by decide)).trans ((hFvy47 12 (by decide)).trans ((hFvy45 12 (by decide)).trans (fn rfl (by decide))))))))))))))))))
          refine z_cV (As := [.int (zI (1)), .int (zI (1))]) (rest := []) (ci := 12) C (c_X10_right l D A cs tt N ad _ i hN _ hcvy262 (by omega) (1) (by omega) (1) (by omega)) (lt_A0 hN rfl) hay1 hcvy262 rfl rfl mv_yX10_right q_1648 hd_yX10_right (by decide) (Nat.le_of_ble_eq_true rfl) (by decide) dX10_told_194 rfl (kI0 fun vy266 gvy266 hvy266 => ?_)
          obtain ⟨hrvy266, ⟨Fvy266, hcvy266, htvy266, hFvy266⟩, hfvy266⟩ := hvy266
          rcases (show vy266 = 1 ∨ vy266 = 0 by omega) with rfl | rfl
          · refine z_if_eq (tgt := 209) C dX10_told_197 (by decide) (by omega) (fun h => absurd h (by omega)) (fun _ => ?_)
            refine z_aload_n C 0 dX10_told_200 rfl ?_
            refine z_get (v := .ref (ad (i + 24))) C (lt_A0 hN rfl) hay1 hcvy266 rfl inA_X10 50 (by decide) q_1509 rfl rfl dX10_told_201 ?_
            refine z_iload_n C 3 dX10_told_204 rfl ?_
            have hgy268 := (hfvy266 (i + 24) (ne_o (i := i) (c := 24) (d := 0) rfl)).trans htvy262
            refine z_iald C (lt_A (c := 24) hN rfl) hay17 hgy268 ((z2).toNat) (by omega) (by omega) (by decide) dX10_told_205 ?_
            refine z_goto (tgt := 210) C dX10_told_206 (by decide) ?_
            obtain ⟨xy269, exy270, hxy271⟩ := zI_of (zI (tvy262 ((z2).toNat)))
            rw [exy270]
            have hgy272 := (hfvy260 (i + 1) (ne_o (i := i) (c := 1) (d := 0) rfl) (ne_o (i := i) (c := 1) (d := 24) rfl)).trans hgy258
            have hgy273 := (hfvy262 (i + 1) (ne_o (i := i) (c := 1) (d := 0) rfl) (ne_o (i := i) (c := 1) (d := 24) rfl)).trans hgy272
            have hgy274 := (hfvy266 (i + 1) (ne_o (i := i) (c := 1) (d := 0) rfl)).trans hgy273
            have hFy275 : ∀ f, f ≠ 12 → f ≠ 51 → Fvy266 f = F f := fun f n12 n51 => ((hFvy266 f n12).trans ((hFvy262 f n51).trans ((hFvy260 f n51).trans ((hFvy255 f n51).trans ((hFvy253 f n51).trans ((hFvy248 f n51).trans ((hFvy246 f n51).trans ((hFvy238 f n51).trans ((hFvy236 f n51).trans ((hFvy234 f n51).trans ((hFvy232 f n51).trans ((hFvy230 f n51).trans ((hFvy59 f n51).trans ((hFvy54 f n51).trans ((hFvy52 f n51).trans ((hFvy47 f n51).trans ((hFvy45 f n51).trans ((uZ_n _ _ n51).trans ((hFvy28 f n12).trans ((uZ_n _ _ n12).trans rfl))))))))))))))))))))
            have hey276 : Fvy266 13 = F 13 := ((hFvy266 13 (by decide)).trans ((hFvy262 13 (by decide)).trans ((hFvy260 13 (by decide)).trans ((hFvy255 13 (by decide)).trans ((hFvy253 13 (by decide)).trans ((hFvy248 13 (by decide)).trans ((hFvy246 13 (by decide)).trans ((hFvy238 13 (by decide)).trans ((hFvy236 13 (by decide)).trans ((hFvy234 13 (by decide)).trans ((hFvy232 13 (by decide)).trans ((hFvy230 13 (by decide)).trans ((hFvy59 13 (by decide)).trans ((hFvy54 13 (by decide)).trans ((hFvy52 13 (by decide)).trans ((hFvy47 13 (by decide)).trans ((hFvy45 13 (by decide)).trans (fn ((hFvy28 13 (by decide)).trans (fn rfl (by decide))) (by decide)))))))))))))))))))
            have hey277 : Fvy266 14 = F 14 := ((hFvy266 14 (by decide)).trans ((hFvy262 14 (by decide)).trans ((hFvy260 14 (by decide)).trans ((hFvy255 14 (by decide)).trans ((hFvy253 14 (by decide)).trans ((hFvy248 14 (by decide)).trans ((hFvy246 14 (by decide)).trans ((hFvy238 14 (by decide)).trans ((hFvy236 14 (by decide)).trans ((hFvy234 14 (by decide)).trans ((hFvy232 14 (by decide)).trans ((hFvy230 14 (by decide)).trans ((hFvy59 14 (by decide)).trans ((hFvy54 14 (by decide)).trans ((hFvy52 14 (by decide)).trans ((hFvy47 14 (by decide)).trans ((hFvy45 14 (by decide)).trans (fn ((hFvy28 14 (by decide)).trans (fn rfl (by decide))) (by decide)))))))))))))))))))
            have hey278 : Fvy266 15 = F 15 := ((hFvy266 15 (by decide)).trans ((hFvy262 15 (by decide)).trans ((hFvy260 15 (by decide)).trans ((hFvy255 15 (by decide)).trans ((hFvy253 15 (by decide)).trans ((hFvy248 15 (by decide)).trans ((hFvy246 15 (by decide)).trans ((hFvy238 15 (by decide)).trans ((hFvy236 15 (by decide)).trans ((hFvy234 15 (by decide)).trans ((hFvy232 15 (by decide)).trans ((hFvy230 15 (by decide)).trans ((hFvy59 15 (by decide)).trans ((hFvy54 15 (by decide)).trans ((hFvy52 15 (by decide)).trans ((hFvy47 15 (by decide)).trans ((hFvy45 15 (by decide)).trans (fn ((hFvy28 15 (by decide)).trans (fn rfl (by decide))) (by decide)))))))))))))))))))
            have hey279 : Fvy266 16 = F 16 := ((hFvy266 16 (by decide)).trans ((hFvy262 16 (by decide)).trans ((hFvy260 16 (by decide)).trans ((hFvy255 16 (by decide)).trans ((hFvy253 16 (by decide)).trans ((hFvy248 16 (by decide)).trans ((hFvy246 16 (by decide)).trans ((hFvy238 16 (by decide)).trans ((hFvy236 16 (by decide)).trans ((hFvy234 16 (by decide)).trans ((hFvy232 16 (by decide)).trans ((hFvy230 16 (by decide)).trans ((hFvy59 16 (by decide)).trans ((hFvy54 16 (by decide)).trans ((hFvy52 16 (by decide)).trans ((hFvy47 16 (by decide)).trans ((hFvy45 16 (by decide)).trans (fn ((hFvy28 16 (by decide)).trans (fn rfl (by decide))) (by decide)))))))))))))))))))
            have hey280 : Fvy266 17 = F 17 := ((hFvy266 17 (by decide)).trans ((hFvy262 17 (by decide)).trans ((hFvy260 17 (by decide)).trans ((hFvy255 17 (by decide)).trans ((hFvy253 17 (by decide)).trans ((hFvy248 17 (by decide)).trans ((hFvy246 17 (by decide)).trans ((hFvy238 17 (by decide)).trans ((hFvy236 17 (by decide)).trans ((hFvy234 17 (by decide)).trans ((hFvy232 17 (by decide)).trans ((hFvy230 17 (by decide)).trans ((hFvy59 17 (by decide)).trans ((hFvy54 17 (by decide)).trans ((hFvy52 17 (by decide)).trans ((hFvy47 17 (by decide)).trans ((hFvy45 17 (by decide)).trans (fn ((hFvy28 17 (by decide)).trans (fn rfl (by decide))) (by decide)))))))))))))))))))
            have hey281 : Fvy266 18 = F 18 := ((hFvy266 18 (by decide)).trans ((hFvy262 18 (by decide)).trans ((hFvy260 18 (by decide)).trans ((hFvy255 18 (by decide)).trans ((hFvy253 18 (by decide)).trans ((hFvy248 18 (by decide)).trans ((hFvy246 18 (by decide)).trans ((hFvy238 18 (by decide)).trans ((hFvy236 18 (by decide)).trans ((hFvy234 18 (by decide)).trans ((hFvy232 18 (by decide)).trans ((hFvy230 18 (by decide)).trans ((hFvy59 18 (by decide)).trans ((hFvy54 18 (by decide)).trans ((hFvy52 18 (by decide)).trans ((hFvy47 18 (by decide)).trans ((hFvy45 18 (by decide)).trans (fn ((hFvy28 18 (by decide)).trans (fn rfl (by decide))) (by decide)))))))))))))))))))
            have hey282 : Fvy266 19 = F 19 := ((hFvy266 19 (by decide)).trans ((hFvy262 19 (by decide)).trans ((hFvy260 19 (by decide)).trans ((hFvy255 19 (by decide)).trans ((hFvy253 19 (by decide)).trans ((hFvy248 19 (by decide)).trans ((hFvy246 19 (by decide)).trans ((hFvy238 19 (by decide)).trans ((hFvy236 19 (by decide)).trans ((hFvy234 19 (by decide)).trans ((hFvy232 19 (by decide)).trans ((hFvy230 19 (by decide)).trans ((hFvy59 19 (by decide)).trans ((hFvy54 19 (by decide)).trans ((hFvy52 19 (by decide)).trans ((hFvy47 19 (by decide)).trans ((hFvy45 19 (by decide)).trans (fn ((hFvy28 19 (by decide)).trans (fn rfl (by decide))) (by decide)))))))))))))))))))
            have hey283 : Fvy266 20 = F 20 := ((hFvy266 20 (by decide)).trans ((hFvy262 20 (by decide)).trans ((hFvy260 20 (by decide)).trans ((hFvy255 20 (by decide)).trans ((hFvy253 20 (by decide)).trans ((hFvy248 20 (by decide)).trans ((hFvy246 20 (by decide)).trans ((hFvy238 20 (by decide)).trans ((hFvy236 20 (by decide)).trans ((hFvy234 20 (by decide)).trans ((hFvy232 20 (by decide)).trans ((hFvy230 20 (by decide)).trans ((hFvy59 20 (by decide)).trans ((hFvy54 20 (by decide)).trans ((hFvy52 20 (by decide)).trans ((hFvy47 20 (by decide)).trans ((hFvy45 20 (by decide)).trans (fn ((hFvy28 20 (by decide)).trans (fn rfl (by decide))) (by decide)))))))))))))))))))
            have hey284 : Fvy266 21 = F 21 := ((hFvy266 21 (by decide)).trans ((hFvy262 21 (by decide)).trans ((hFvy260 21 (by decide)).trans ((hFvy255 21 (by decide)).trans ((hFvy253 21 (by decide)).trans ((hFvy248 21 (by decide)).trans ((hFvy246 21 (by decide)).trans ((hFvy238 21 (by decide)).trans ((hFvy236 21 (by decide)).trans ((hFvy234 21 (by decide)).trans ((hFvy232 21 (by decide)).trans ((hFvy230 21 (by decide)).trans ((hFvy59 21 (by decide)).trans ((hFvy54 21 (by decide)).trans ((hFvy52 21 (by decide)).trans ((hFvy47 21 (by decide)).trans ((hFvy45 21 (by decide)).trans (fn ((hFvy28 21 (by decide)).trans (fn rfl (by decide))) (by decide)))))))))))))))))))
            have hey285 : Fvy266 23 = F 23 := ((hFvy266 23 (by decide)).trans ((hFvy262 23 (by decide)).trans ((hFvy260 23 (by decide)).trans ((hFvy255 23 (by decide)).trans ((hFvy253 23 (by decide)).trans ((hFvy248 23 (by decide)).trans ((hFvy246 23 (by decide)).trans ((hFvy238 23 (by decide)).trans ((hFvy236 23 (by decide)).trans ((hFvy234 23 (by decide)).trans ((hFvy232 23 (by decide)).trans ((hFvy230 23 (by decide)).trans ((hFvy59 23 (by decide)).trans ((hFvy54 23 (by decide)).trans ((hFvy52 23 (by decide)).trans ((hFvy47 23 (by decide)).trans ((hFvy45 23 (by decide)).trans (fn ((hFvy28 23 (by decide)).trans (fn rfl (by decide))) (by decide)))))))))))))))))))
            have hey286 : Fvy266 25 = F 25 := ((hFvy266 25 (by decide)).trans ((hFvy262 25 (by decide)).trans ((hFvy260 25 (by decide)).trans ((hFvy255 25 (by decide)).trans ((hFvy253 25 (by decide)).trans ((hFvy248 25 (by decide)).trans ((hFvy246 25 (by decide)).trans ((hFvy238 25 (by decide)).trans ((hFvy236 25 (by decide)).trans ((hFvy234 25 (by decide)).trans ((hFvy232 25 (by decide)).trans ((hFvy230 25 (by decide)).trans ((hFvy59 25 (by decide)).trans ((hFvy54 25 (by decide)).trans ((hFvy52 25 (by decide)).trans ((hFvy47 25 (by decide)).trans ((hFvy45 25 (by decide)).trans (fn ((hFvy28 25 (by decide)).trans (fn rfl (by decide))) (by decide)))))))))))))))))))
            have hey287 : Fvy266 27 = F 27 := ((hFvy266 27 (by decide)).trans ((hFvy262 27 (by decide)).trans ((hFvy260 27 (by decide)).trans ((hFvy255 27 (by decide)).trans ((hFvy253 27 (by decide)).trans ((hFvy248 27 (by decide)).trans ((hFvy246 27 (by decide)).trans ((hFvy238 27 (by decide)).trans ((hFvy236 27 (by decide)).trans ((hFvy234 27 (by decide)).trans ((hFvy232 27 (by decide)).trans ((hFvy230 27 (by decide)).trans ((hFvy59 27 (by decide)).trans ((hFvy54 27 (by decide)).trans ((hFvy52 27 (by decide)).trans ((hFvy47 27 (by decide)).trans ((hFvy45 27 (by decide)).trans (fn ((hFvy28 27 (by decide)).trans (fn rfl (by decide))) (by decide)))))))))))))))))))
            have hey288 : Fvy266 28 = F 28 := ((hFvy266 28 (by decide)).trans ((hFvy262 28 (by decide)).trans ((hFvy260 28 (by decide)).trans ((hFvy255 28 (by decide)).trans ((hFvy253 28 (by decide)).trans ((hFvy248 28 (by decide)).trans ((hFvy246 28 (by decide)).trans ((hFvy238 28 (by decide)).trans ((hFvy236 28 (by decide)).trans ((hFvy234 28 (by decide)).trans ((hFvy232 28 (by decide)).trans ((hFvy230 28 (by decide)).trans ((hFvy59 28 (by decide)).trans ((hFvy54 28 (by decide)).trans ((hFvy52 28 (by decide)).trans ((hFvy47 28 (by decide)).trans ((hFvy45 28 (by decide)).trans (fn ((hFvy28 28 (by decide)).trans (fn rfl (by decide))) (by decide)))))))))))))))))))
            have hey289 : Fvy266 29 = F 29 := ((hFvy266 29 (by decide)).trans ((hFvy262 29 (by decide)).trans ((hFvy260 29 (by decide)).trans ((hFvy255 29 (by decide)).trans ((hFvy253 29 (by decide)).trans ((hFvy248 29 (by decide)).trans ((hFvy246 29 (by decide)).trans ((hFvy238 29 (by decide)).trans ((hFvy236 29 (by decide)).trans ((hFvy234 29 (by decide)).trans ((hFvy232 29 (by decide)).trans ((hFvy230 29 (by decide)).trans ((hFvy59 29 (by decide)).trans ((hFvy54 29 (by decide)).trans ((hFvy52 29 (by decide)).trans ((hFvy47 29 (by decide)).trans ((hFvy45 29 (by decide)).trans (fn ((hFvy28 29 (by decide)).trans (fn rfl (by decide))) (by decide)))))))))))))))))))
            have hKy290 : okF Fvy266 := okF.mv hM.2.1 hey276 hey277 hey278 hey279 hey280 hey281 hey282 hey283 hey284 hey285 hey286 hey287 hey288 hey289
            have hMy291 : okMr cs ad gvy266 i (x + 1) Fvy266 r st op ai fa mu tb tp := okMr.upd hM hcvy266 hKy290 (fun f a => hFy275 f (by omega) (by omega)) hgy274 (hA.mono (by omega)) (fun j a b => by
                by_cases e0 : j = i + 24
                · exact Or.inr ⟨24, _, e0, lsP.l (by decide), by rw [e0]; exact hgy268⟩
                exact Or.inl (by rw [hfvy266 _ (by omega)]; rw [hfvy262 _ (by omega) (by omega)]; rw [hfvy260 _ (by omega) (by omega)]; rw [hfvy255 _ (by omega) (by omega)]; rw [hfvy253 _ (by omega) (by omega)]; rw [hfvy248 _ (by omega) (by omega)]; rw [hfvy246 _ (by omega) (by omega)]; rw [hfvy238 _ (by omega) (by omega)]; rw [hfvy236 _ (by omega) (by omega)]; rw [hfvy234 _ (by omega) (by omega)]; rw [hfvy232 _ (by omega) (by omega)]; rw [hfvy230 _ (by omega) (by omega)]; rw [hfvy59 _ (by omega) (by omega)]; rw [hfvy54 _ (by omega) (by omega)]; rw [hfvy52 _ (by omega) (by omega)]; rw [hfvy47 _ (by omega) (by omega)]; rw [hfvy45 _ (by omega) (by omega)]; rw [egy32, va_up_ne _ _ (by omega)]; rw [hfvy28 _ (by omega)]; rw [egy25, va_up_ne _ _ (by omega)]))
            have hkpy292 : Fvy266 13 = F 13 := ((hFvy266 13 (by decide)).trans ((hFvy262 13 (by decide)).trans ((hFvy260 13 (by decide)).trans ((hFvy255 13 (by decide)).trans ((hFvy253 13 (by decide)).trans ((hFvy248 13 (by decide)).trans ((hFvy246 13 (by decide)).trans ((hFvy238 13 (by decide)).trans ((hFvy236 13 (by decide)).trans ((hFvy234 13 (by decide)).trans ((hFvy232 13 (by decide)).trans ((hFvy230 13 (by decide)).trans ((hFvy59 13 (by decide)).trans ((hFvy54 13 (by decide)).trans ((hFvy52 13 (by decide)).trans ((hFvy47 13 (by decide)).trans ((hFvy45 13 (by decide)).trans (fn ((hFvy28 13 (by decide)).trans (fn rfl (by decide))) (by decide)))))))))))))))))))
            have hkpy293 : Fvy266 14 = F 14 := ((hFvy266 14 (by decide)).trans ((hFvy262 14 (by decide)).trans ((hFvy260 14 (by decide)).trans ((hFvy255 14 (by decide)).trans ((hFvy253 14 (by decide)).trans ((hFvy248 14 (by decide)).trans ((hFvy246 14 (by decide)).trans ((hFvy238 14 (by decide)).trans ((hFvy236 14 (by decide)).trans ((hFvy234 14 (by decide)).trans ((hFvy232 14 (by decide)).trans ((hFvy230 14 (by decide)).trans ((hFvy59 14 (by decide)).trans ((hFvy54 14 (by decide)).trans ((hFvy52 14 (by decide)).trans ((hFvy47 14 (by decide)).trans ((hFvy45 14 (by decide)).trans (fn ((hFvy28 14 (by decide)).trans (fn rfl (by decide))) (by decide)))))))))))))))))))
            have hkpy294 : Fvy266 15 = F 15 := ((hFvy266 15 (by decide)).trans ((hFvy262 15 (by decide)).trans ((hFvy260 15 (by decide)).trans ((hFvy255 15 (by decide)).trans ((hFvy253 15 (by decide)).trans ((hFvy248 15 (by decide)).trans ((hFvy246 15 (by decide)).trans ((hFvy238 15 (by decide)).trans ((hFvy236 15 (by decide)).trans ((hFvy234 15 (by decide)).trans ((hFvy232 15 (by decide)).trans ((hFvy230 15 (by decide)).trans ((hFvy59 15 (by decide)).trans ((hFvy54 15 (by decide)).trans ((hFvy52 15 (by decide)).trans ((hFvy47 15 (by decide)).trans ((hFvy45 15 (by decide)).trans (fn ((hFvy28 15 (by decide)).trans (fn rfl (by decide))) (by decide)))))))))))))))))))
            have hkpy295 : Fvy266 16 = F 16 := ((hFvy266 16 (by decide)).trans ((hFvy262 16 (by decide)).trans ((hFvy260 16 (by decide)).trans ((hFvy255 16 (by decide)).trans ((hFvy253 16 (by decide)).trans ((hFvy248 16 (by decide)).trans ((hFvy246 16 (by decide)).trans ((hFvy238 16 (by decide)).trans ((hFvy236 16 (by decide)).trans ((hFvy234 16 (by decide)).trans ((hFvy232 16 (by decide)).trans ((hFvy230 16 (by decide)).trans ((hFvy59 16 (by decide)).trans ((hFvy54 16 (by decide)).trans ((hFvy52 16 (by decide)).trans ((hFvy47 16 (by decide)).trans ((hFvy45 16 (by decide)).trans (fn ((hFvy28 16 (by decide)).trans (fn rfl (by decide))) (by decide)))))))))))))))))))
            have hkpy296 : Fvy266 17 = F 17 := ((hFvy266 17 (by decide)).trans ((hFvy262 17 (by decide)).trans ((hFvy260 17 (by decide)).trans ((hFvy255 17 (by decide)).trans ((hFvy253 17 (by decide)).trans ((hFvy248 17 (by decide)).trans ((hFvy246 17 (by decide)).trans ((hFvy238 17 (by decide)).trans ((hFvy236 17 (by decide)).trans ((hFvy234 17 (by decide)).trans ((hFvy232 17 (by decide)).trans ((hFvy230 17 (by decide)).trans ((hFvy59 17 (by decide)).trans ((hFvy54 17 (by decide)).trans ((hFvy52 17 (by decide)).trans ((hFvy47 17 (by decide)).trans ((hFvy45 17 (by decide)).trans (fn ((hFvy28 17 (by decide)).trans (fn rfl (by decide))) (by decide)))))))))))))))))))
            have hkpy297 : Fvy266 18 = F 18 := ((hFvy266 18 (by decide)).trans ((hFvy262 18 (by decide)).trans ((hFvy260 18 (by decide)).trans ((hFvy255 18 (by decide)).trans ((hFvy253 18 (by decide)).trans ((hFvy248 18 (by decide)).trans ((hFvy246 18 (by decide)).trans ((hFvy238 18 (by decide)).trans ((hFvy236 18 (by decide)).trans ((hFvy234 18 (by decide)).trans ((hFvy232 18 (by decide)).trans ((hFvy230 18 (by decide)).trans ((hFvy59 18 (by decide)).trans ((hFvy54 18 (by decide)).trans ((hFvy52 18 (by decide)).trans ((hFvy47 18 (by decide)).trans ((hFvy45 18 (by decide)).trans (fn ((hFvy28 18 (by decide)).trans (fn rfl (by decide))) (by decide)))))))))))))))))))
            have hkpy298 : Fvy266 19 = F 19 := ((hFvy266 19 (by decide)).trans ((hFvy262 19 (by decide)).trans ((hFvy260 19 (by decide)).trans ((hFvy255 19 (by decide)).trans ((hFvy253 19 (by decide)).trans ((hFvy248 19 (by decide)).trans ((hFvy246 19 (by decide)).trans ((hFvy238 19 (by decide)).trans ((hFvy236 19 (by decide)).trans ((hFvy234 19 (by decide)).trans ((hFvy232 19 (by decide)).trans ((hFvy230 19 (by decide)).trans ((hFvy59 19 (by decide)).trans ((hFvy54 19 (by decide)).trans ((hFvy52 19 (by decide)).trans ((hFvy47 19 (by decide)).trans ((hFvy45 19 (by decide)).trans (fn ((hFvy28 19 (by decide)).trans (fn rfl (by decide))) (by decide)))))))))))))))))))
            have hkpy299 : Fvy266 20 = F 20 := ((hFvy266 20 (by decide)).trans ((hFvy262 20 (by decide)).trans ((hFvy260 20 (by decide)).trans ((hFvy255 20 (by decide)).trans ((hFvy253 20 (by decide)).trans ((hFvy248 20 (by decide)).trans ((hFvy246 20 (by decide)).trans ((hFvy238 20 (by decide)).trans ((hFvy236 20 (by decide)).trans ((hFvy234 20 (by decide)).trans ((hFvy232 20 (by decide)).trans ((hFvy230 20 (by decide)).trans ((hFvy59 20 (by decide)).trans ((hFvy54 20 (by decide)).trans ((hFvy52 20 (by decide)).trans ((hFvy47 20 (by decide)).trans ((hFvy45 20 (by decide)).trans (fn ((hFvy28 20 (by decide)).trans (fn rfl (by decide))) (by decide)))))))))))))))))))
            have hkpy300 : Fvy266 21 = F 21 := ((hFvy266 21 (by decide)).trans ((hFvy262 21 (by decide)).trans ((hFvy260 21 (by decide)).trans ((hFvy255 21 (by decide)).trans ((hFvy253 21 (by decide)).trans ((hFvy248 21 (by decide)).trans ((hFvy246 21 (by decide)).trans ((hFvy238 21 (by decide)).trans ((hFvy236 21 (by decide)).trans ((hFvy234 21 (by decide)).trans ((hFvy232 21 (by decide)).trans ((hFvy230 21 (by decide)).trans ((hFvy59 21 (by decide)).trans ((hFvy54 21 (by decide)).trans ((hFvy52 21 (by decide)).trans ((hFvy47 21 (by decide)).trans ((hFvy45 21 (by decide)).trans (fn ((hFvy28 21 (by decide)).trans (fn rfl (by decide))) (by decide)))))))))))))))))))
            have hkpy301 : Fvy266 23 = F 23 := ((hFvy266 23 (by decide)).trans ((hFvy262 23 (by decide)).trans ((hFvy260 23 (by decide)).trans ((hFvy255 23 (by decide)).trans ((hFvy253 23 (by decide)).trans ((hFvy248 23 (by decide)).trans ((hFvy246 23 (by decide)).trans ((hFvy238 23 (by decide)).trans ((hFvy236 23 (by decide)).trans ((hFvy234 23 (by decide)).trans ((hFvy232 23 (by decide)).trans ((hFvy230 23 (by decide)).trans ((hFvy59 23 (by decide)).trans ((hFvy54 23 (by decide)).trans ((hFvy52 23 (by decide)).trans ((hFvy47 23 (by decide)).trans ((hFvy45 23 (by decide)).trans (fn ((hFvy28 23 (by decide)).trans (fn rfl (by decide))) (by decide)))))))))))))))))))
            have hkpy302 : Fvy266 24 = F 24 := ((hFvy266 24 (by decide)).trans ((hFvy262 24 (by decide)).trans ((hFvy260 24 (by decide)).trans ((hFvy255 24 (by decide)).trans ((hFvy253 24 (by decide)).trans ((hFvy248 24 (by decide)).trans ((hFvy246 24 (by decide)).trans ((hFvy238 24 (by decide)).trans ((hFvy236 24 (by decide)).trans ((hFvy234 24 (by decide)).trans ((hFvy232 24 (by decide)).trans ((hFvy230 24 (by decide)).trans ((hFvy59 24 (by decide)).trans ((hFvy54 24 (by decide)).trans ((hFvy52 24 (by decide)).trans ((hFvy47 24 (by decide)).trans ((hFvy45 24 (by decide)).trans (fn ((hFvy28 24 (by decide)).trans (fn rfl (by decide))) (by decide)))))))))))))))))))
            have hkpy303 : Fvy266 25 = F 25 := ((hFvy266 25 (by decide)).trans ((hFvy262 25 (by decide)).trans ((hFvy260 25 (by decide)).trans ((hFvy255 25 (by decide)).trans ((hFvy253 25 (by decide)).trans ((hFvy248 25 (by decide)).trans ((hFvy246 25 (by decide)).trans ((hFvy238 25 (by decide)).trans ((hFvy236 25 (by decide)).trans ((hFvy234 25 (by decide)).trans ((hFvy232 25 (by decide)).trans ((hFvy230 25 (by decide)).trans ((hFvy59 25 (by decide)).trans ((hFvy54 25 (by decide)).trans ((hFvy52 25 (by decide)).trans ((hFvy47 25 (by decide)).trans ((hFvy45 25 (by decide)).trans (fn ((hFvy28 25 (by decide)).trans (fn rfl (by decide))) (by decide)))))))))))))))))))
            have hkpy304 : Fvy266 26 = F 26 := ((hFvy266 26 (by decide)).trans ((hFvy262 26 (by decide)).trans ((hFvy260 26 (by decide)).trans ((hFvy255 26 (by decide)).trans ((hFvy253 26 (by decide)).trans ((hFvy248 26 (by decide)).trans ((hFvy246 26 (by decide)).trans ((hFvy238 26 (by decide)).trans ((hFvy236 26 (by decide)).trans ((hFvy234 26 (by decide)).trans ((hFvy232 26 (by decide)).trans ((hFvy230 26 (by decide)).trans ((hFvy59 26 (by decide)).trans ((hFvy54 26 (by decide)).trans ((hFvy52 26 (by decide)).trans ((hFvy47 26 (by decide)).trans ((hFvy45 26 (by decide)).trans (fn ((hFvy28 26 (by decide)).trans (fn rfl (by decide))) (by decide)))))))))))))))))))
            have hkpy305 : Fvy266 27 = F 27 := ((hFvy266 27 (by decide)).trans ((hFvy262 27 (by decide)).trans ((hFvy260 27 (by decide)).trans ((hFvy255 27 (by decide)).trans ((hFvy253 27 (by decide)).trans ((hFvy248 27 (by decide)).trans ((hFvy246 27 (by decide)).trans ((hFvy238 27 (by decide)).trans ((hFvy236 27 (by decide)).trans ((hFvy234 27 (by decide)).trans ((hFvy232 27 (by decide)).trans ((hFvy230 27 (by decide)).trans ((hFvy59 27 (by decide)).trans ((hFvy54 27 (by decide)).trans ((hFvy52 27 (by decide)).trans ((hFvy47 27 (by decide)).trans ((hFvy45 27 (by decide)).trans (fn ((hFvy28 27 (by decide)).trans (fn rfl (by decide))) (by decide)))))))))))))))))))
            have hkpy306 : Fvy266 29 = F 29 := ((hFvy266 29 (by decide)).trans ((hFvy262 29 (by decide)).trans ((hFvy260 29 (by decide)).trans ((hFvy255 29 (by decide)).trans ((hFvy253 29 (by decide)).trans ((hFvy248 29 (by decide)).trans ((hFvy246 29 (by decide)).trans ((hFvy238 29 (by decide)).trans ((hFvy236 29 (by decide)).trans ((hFvy234 29 (by decide)).trans ((hFvy232 29 (by decide)).trans ((hFvy230 29 (by decide)).trans ((hFvy59 29 (by decide)).trans ((hFvy54 29 (by decide)).trans ((hFvy52 29 (by decide)).trans ((hFvy47 29 (by decide)).trans ((hFvy45 29 (by decide)).trans (fn ((hFvy28 29 (by decide)).trans (fn rfl (by decide))) (by decide)))))))))))))))))))
            exact z_iret C hr hlk dX10_told_210 (by decide) (by decide) ⟨xy269, rfl, rfl, rfl, by omega, ⟨_, _, hMy291, ⟨hkpy292, hkpy293, hkpy294, hkpy295, hkpy296, hkpy297, hkpy298, hkpy299, hkpy300, hkpy301, hkpy302⟩, ⟨(hkpy303.trans hp25), (hkpy304.trans hp26), (hkpy305.trans hp27), (hkpy306.trans hp29)⟩, (fun j _ => rfl)⟩, fun j j1 => by rw [hfvy266 _ (by omega)]; rw [hfvy262 _ (by omega) (by omega)]; rw [hfvy260 _ (by omega) (by omega)]; rw [hfvy255 _ (by omega) (by omega)]; rw [hfvy253 _ (by omega) (by omega)]; rw [hfvy248 _ (by omega) (by omega)]; rw [hfvy246 _ (by omega) (by omega)]; rw [hfvy238 _ (by omega) (by omega)]; rw [hfvy236 _ (by omega) (by omega)]; rw [hfvy234 _ (by omega) (by omega)]; rw [hfvy232 _ (by omega) (by omega)]; rw [hfvy230 _ (by omega) (by omega)]; rw [hfvy59 _ (by omega) (by omega)]; rw [hfvy54 _ (by omega) (by omega)]; rw [hfvy52 _ (by omega) (by omega)]; rw [hfvy47 _ (by omega) (by omega)]; rw [hfvy45 _ (by omega) (by omega)]; rw [egy32, va_up_ne _ _ (by omega)]; rw [hfvy28 _ (by omega)]; rw [egy25, va_up_ne _ _ (by omega)]⟩
          · refine z_if_eq (tgt := 209) C dX10_told_197 (by decide) (by omega) (fun _ => ?_) (fun h => absurd h (by omega))
            refine z_iconst (z := 0) C dX10_told_209 rfl ?_
            have hgy307 := (hfvy260 (i + 1) (ne_o (i := i) (c := 1) (d := 0) rfl) (ne_o (i := i) (c := 1) (d := 24) rfl)).trans hgy258
            have hgy308 := (hfvy262 (i + 1) (ne_o (i := i) (c := 1) (d := 0) rfl) (ne_o (i := i) (c := 1) (d := 24) rfl)).trans hgy307
            have hgy309 := (hfvy266 (i + 1) (ne_o (i := i) (c := 1) (d := 0) rfl)).trans hgy308
            have hFy310 : ∀ f, f ≠ 12 → f ≠ 51 → Fvy266 f = F f := fun f n12 n51 => ((hFvy266 f n12).trans ((hFvy262 f n51).trans ((hFvy260 f n51).trans ((hFvy255 f n51).trans ((hFvy253 f n51).trans ((hFvy248 f n51).trans ((hFvy246 f n51).trans ((hFvy238 f n51).trans ((hFvy236 f n51).trans ((hFvy234 f n51).trans ((hFvy232 f n51).trans ((hFvy230 f n51).trans ((hFvy59 f n51).trans ((hFvy54 f n51).trans ((hFvy52 f n51).trans ((hFvy47 f n51).trans ((hFvy45 f n51).trans ((uZ_n _ _ n51).trans ((hFvy28 f n12).trans ((uZ_n _ _ n12).trans rfl))))))))))))))))))))
            have hey311 : Fvy266 13 = F 13 := ((hFvy266 13 (by decide)).trans ((hFvy262 13 (by decide)).trans ((hFvy260 13 (by decide)).trans ((hFvy255 13 (by decide)).trans ((hFvy253 13 (by decide)).trans ((hFvy248 13 (by decide)).trans ((hFvy246 13 (by decide)).trans ((hFvy238 13 (by decide)).trans ((hFvy236 13 (by decide)).trans ((hFvy234 13 (by decide)).trans ((hFvy232 13 (by decide)).trans ((hFvy230 13 (by decide)).trans ((hFvy59 13 (by decide)).trans ((hFvy54 13 (by decide)).trans ((hFvy52 13 (by decide)).trans ((hFvy47 13 (by decide)).trans ((hFvy45 13 (by decide)).trans (fn ((hFvy28 13 (by decide)).trans (fn rfl (by decide))) (by decide)))))))))))))))))))
            have hey312 : Fvy266 14 = F 14 := ((hFvy266 14 (by decide)).trans ((hFvy262 14 (by decide)).trans ((hFvy260 14 (by decide)).trans ((hFvy255 14 (by decide)).trans ((hFvy253 14 (by decide)).trans ((hFvy248 14 (by decide)).trans ((hFvy246 14 (by decide)).trans ((hFvy238 14 (by decide)).trans ((hFvy236 14 (by decide)).trans ((hFvy234 14 (by decide)).trans ((hFvy232 14 (by decide)).trans ((hFvy230 14 (by decide)).trans ((hFvy59 14 (by decide)).trans ((hFvy54 14 (by decide)).trans ((hFvy52 14 (by decide)).trans ((hFvy47 14 (by decide)).trans ((hFvy45 14 (by decide)).trans (fn ((hFvy28 14 (by decide)).trans (fn rfl (by decide))) (by decide)))))))))))))))))))
            have hey313 : Fvy266 15 = F 15 := ((hFvy266 15 (by decide)).trans ((hFvy262 15 (by decide)).trans ((hFvy260 15 (by decide)).trans ((hFvy255 15 (by decide)).trans ((hFvy253 15 (by decide)).trans ((hFvy248 15 (by decide)).trans ((hFvy246 15 (by decide)).trans ((hFvy238 15 (by decide)).trans ((hFvy236 15 (by decide)).trans ((hFvy234 15 (by decide)).trans ((hFvy232 15 (by decide)).trans ((hFvy230 15 (by decide)).trans ((hFvy59 15 (by decide)).trans ((hFvy54 15 (by decide)).trans ((hFvy52 15 (by decide)).trans ((hFvy47 15 (by decide)).trans ((hFvy45 15 (by decide)).trans (fn ((hFvy28 15 (by decide)).trans (fn rfl (by decide))) (by decide)))))))))))))))))))
            have hey314 : Fvy266 16 = F 16 := ((hFvy266 16 (by decide)).trans ((hFvy262 16 (by decide)).trans ((hFvy260 16 (by decide)).trans ((hFvy255 16 (by decide)).trans ((hFvy253 16 (by decide)).trans ((hFvy248 16 (by decide)).trans ((hFvy246 16 (by decide)).trans ((hFvy238 16 (by decide)).trans ((hFvy236 16 (by decide)).trans ((hFvy234 16 (by decide)).trans ((hFvy232 16 (by decide)).trans ((hFvy230 16 (by decide)).trans ((hFvy59 16 (by decide)).trans ((hFvy54 16 (by decide)).trans ((hFvy52 16 (by decide)).trans ((hFvy47 16 (by decide)).trans ((hFvy45 16 (by decide)).trans (fn ((hFvy28 16 (by decide)).trans (fn rfl (by decide))) (by decide)))))))))))))))))))
            have hey315 : Fvy266 17 = F 17 := ((hFvy266 17 (by decide)).trans ((hFvy262 17 (by decide)).trans ((hFvy260 17 (by decide)).trans ((hFvy255 17 (by decide)).trans ((hFvy253 17 (by decide)).trans ((hFvy248 17 (by decide)).trans ((hFvy246 17 (by decide)).trans ((hFvy238 17 (by decide)).trans ((hFvy236 17 (by decide)).trans ((hFvy234 17 (by decide)).trans ((hFvy232 17 (by decide)).trans ((hFvy230 17 (by decide)).trans ((hFvy59 17 (by decide)).trans ((hFvy54 17 (by decide)).trans ((hFvy52 17 (by decide)).trans ((hFvy47 17 (by decide)).trans ((hFvy45 17 (by decide)).trans (fn ((hFvy28 17 (by decide)).trans (fn rfl (by decide))) (by decide)))))))))))))))))))
            have hey316 : Fvy266 18 = F 18 := ((hFvy266 18 (by decide)).trans ((hFvy262 18 (by decide)).trans ((hFvy260 18 (by decide)).trans ((hFvy255 18 (by decide)).trans ((hFvy253 18 (by decide)).trans ((hFvy248 18 (by decide)).trans ((hFvy246 18 (by decide)).trans ((hFvy238 18 (by decide)).trans ((hFvy236 18 (by decide)).trans ((hFvy234 18 (by decide)).trans ((hFvy232 18 (by decide)).trans ((hFvy230 18 (by decide)).trans ((hFvy59 18 (by decide)).trans ((hFvy54 18 (by decide)).trans ((hFvy52 18 (by decide)).trans ((hFvy47 18 (by decide)).trans ((hFvy45 18 (by decide)).trans (fn ((hFvy28 18 (by decide)).trans (fn rfl (by decide))) (by decide)))))))))))))))))))
            have hey317 : Fvy266 19 = F 19 := ((hFvy266 19 (by decide)).trans ((hFvy262 19 (by decide)).trans ((hFvy260 19 (by decide)).trans ((hFvy255 19 (by decide)).trans ((hFvy253 19 (by decide)).trans ((hFvy248 19 (by decide)).trans ((hFvy246 19 (by decide)).trans ((hFvy238 19 (by decide)).trans ((hFvy236 19 (by decide)).trans ((hFvy234 19 (by decide)).trans ((hFvy232 19 (by decide)).trans ((hFvy230 19 (by decide)).trans ((hFvy59 19 (by decide)).trans ((hFvy54 19 (by decide)).trans ((hFvy52 19 (by decide)).trans ((hFvy47 19 (by decide)).trans ((hFvy45 19 (by decide)).trans (fn ((hFvy28 19 (by decide)).trans (fn rfl (by decide))) (by decide)))))))))))))))))))
            have hey318 : Fvy266 20 = F 20 := ((hFvy266 20 (by decide)).trans ((hFvy262 20 (by decide)).trans ((hFvy260 20 (by decide)).trans ((hFvy255 20 (by decide)).trans ((hFvy253 20 (by decide)).trans ((hFvy248 20 (by decide)).trans ((hFvy246 20 (by decide)).trans ((hFvy238 20 (by decide)).trans ((hFvy236 20 (by decide)).trans ((hFvy234 20 (by decide)).trans ((hFvy232 20 (by decide)).trans ((hFvy230 20 (by decide)).trans ((hFvy59 20 (by decide)).trans ((hFvy54 20 (by decide)).trans ((hFvy52 20 (by decide)).trans ((hFvy47 20 (by decide)).trans ((hFvy45 20 (by decide)).trans (fn ((hFvy28 20 (by decide)).trans (fn rfl (by decide))) (by decide)))))))))))))))))))
            have hey319 : Fvy266 21 = F 21 := ((hFvy266 21 (by decide)).trans ((hFvy262 21 (by decide)).trans ((hFvy260 21 (by decide)).trans ((hFvy255 21 (by decide)).trans ((hFvy253 21 (by decide)).trans ((hFvy248 21 (by decide)).trans ((hFvy246 21 (by decide)).trans ((hFvy238 21 (by decide)).trans ((hFvy236 21 (by decide)).trans ((hFvy234 21 (by decide)).trans ((hFvy232 21 (by decide)).trans ((hFvy230 21 (by decide)).trans ((hFvy59 21 (by decide)).trans ((hFvy54 21 (by decide)).trans ((hFvy52 21 (by decide)).trans ((hFvy47 21 (by decide)).trans ((hFvy45 21 (by decide)).trans (fn ((hFvy28 21 (by decide)).trans (fn rfl (by decide))) (by decide)))))))))))))))))))
            have hey320 : Fvy266 23 = F 23 := ((hFvy266 23 (by decide)).trans ((hFvy262 23 (by decide)).trans ((hFvy260 23 (by decide)).trans ((hFvy255 23 (by decide)).trans ((hFvy253 23 (by decide)).trans ((hFvy248 23 (by decide)).trans ((hFvy246 23 (by decide)).trans ((hFvy238 23 (by decide)).trans ((hFvy236 23 (by decide)).trans ((hFvy234 23 (by decide)).trans ((hFvy232 23 (by decide)).trans ((hFvy230 23 (by decide)).trans ((hFvy59 23 (by decide)).trans ((hFvy54 23 (by decide)).trans ((hFvy52 23 (by decide)).trans ((hFvy47 23 (by decide)).trans ((hFvy45 23 (by decide)).trans (fn ((hFvy28 23 (by decide)).trans (fn rfl (by decide))) (by decide)))))))))))))))))))
            have hey321 : Fvy266 25 = F 25 := ((hFvy266 25 (by decide)).trans ((hFvy262 25 (by decide)).trans ((hFvy260 25 (by decide)).trans ((hFvy255 25 (by decide)).trans ((hFvy253 25 (by decide)).trans ((hFvy248 25 (by decide)).trans ((hFvy246 25 (by decide)).trans ((hFvy238 25 (by decide)).trans ((hFvy236 25 (by decide)).trans ((hFvy234 25 (by decide)).trans ((hFvy232 25 (by decide)).trans ((hFvy230 25 (by decide)).trans ((hFvy59 25 (by decide)).trans ((hFvy54 25 (by decide)).trans ((hFvy52 25 (by decide)).trans ((hFvy47 25 (by decide)).trans ((hFvy45 25 (by decide)).trans (fn ((hFvy28 25 (by decide)).trans (fn rfl (by decide))) (by decide)))))))))))))))))))
            have hey322 : Fvy266 27 = F 27 := ((hFvy266 27 (by decide)).trans ((hFvy262 27 (by decide)).trans ((hFvy260 27 (by decide)).trans ((hFvy255 27 (by decide)).trans ((hFvy253 27 (by decide)).trans ((hFvy248 27 (by decide)).trans ((hFvy246 27 (by decide)).trans ((hFvy238 27 (by decide)).trans ((hFvy236 27 (by decide)).trans ((hFvy234 27 (by decide)).trans ((hFvy232 27 (by decide)).trans ((hFvy230 27 (by decide)).trans ((hFvy59 27 (by decide)).trans ((hFvy54 27 (by decide)).trans ((hFvy52 27 (by decide)).trans ((hFvy47 27 (by decide)).trans ((hFvy45 27 (by decide)).trans (fn ((hFvy28 27 (by decide)).trans (fn rfl (by decide))) (by decide)))))))))))))))))))
            have hey323 : Fvy266 28 = F 28 := ((hFvy266 28 (by decide)).trans ((hFvy262 28 (by decide)).trans ((hFvy260 28 (by decide)).trans ((hFvy255 28 (by decide)).trans ((hFvy253 28 (by decide)).trans ((hFvy248 28 (by decide)).trans ((hFvy246 28 (by decide)).trans ((hFvy238 28 (by decide)).trans ((hFvy236 28 (by decide)).trans ((hFvy234 28 (by decide)).trans ((hFvy232 28 (by decide)).trans ((hFvy230 28 (by decide)).trans ((hFvy59 28 (by decide)).trans ((hFvy54 28 (by decide)).trans ((hFvy52 28 (by decide)).trans ((hFvy47 28 (by decide)).trans ((hFvy45 28 (by decide)).trans (fn ((hFvy28 28 (by decide)).trans (fn rfl (by decide))) (by decide)))))))))))))))))))
            have hey324 : Fvy266 29 = F 29 := ((hFvy266 29 (by decide)).trans ((hFvy262 29 (by decide)).trans ((hFvy260 29 (by decide)).trans ((hFvy255 29 (by decide)).trans ((hFvy253 29 (by decide)).trans ((hFvy248 29 (by decide)).trans ((hFvy246 29 (by decide)).trans ((hFvy238 29 (by decide)).trans ((hFvy236 29 (by decide)).trans ((hFvy234 29 (by decide)).trans ((hFvy232 29 (by decide)).trans ((hFvy230 29 (by decide)).trans ((hFvy59 29 (by decide)).trans ((hFvy54 29 (by decide)).trans ((hFvy52 29 (by decide)).trans ((hFvy47 29 (by decide)).trans ((hFvy45 29 (by decide)).trans (fn ((hFvy28 29 (by decide)).trans (fn rfl (by decide))) (by decide)))))))))))))))))))
            have hKy325 : okF Fvy266 := okF.mv hM.2.1 hey311 hey312 hey313 hey314 hey315 hey316 hey317 hey318 hey319 hey320 hey321 hey322 hey323 hey324
            have hgy327 := (hfvy266 (i + 24) (ne_o (i := i) (c := 24) (d := 0) rfl)).trans htvy262
            have hMy326 : okMr cs ad gvy266 i (x + 1) Fvy266 r st op ai fa mu tb tp := okMr.upd hM hcvy266 hKy325 (fun f a => hFy310 f (by omega) (by omega)) hgy309 (hA.mono (by omega)) (fun j a b => by
                by_cases e0 : j = i + 24
                · exact Or.inr ⟨24, _, e0, lsP.l (by decide), by rw [e0]; exact hgy327⟩
                exact Or.inl (by rw [hfvy266 _ (by omega)]; rw [hfvy262 _ (by omega) (by omega)]; rw [hfvy260 _ (by omega) (by omega)]; rw [hfvy255 _ (by omega) (by omega)]; rw [hfvy253 _ (by omega) (by omega)]; rw [hfvy248 _ (by omega) (by omega)]; rw [hfvy246 _ (by omega) (by omega)]; rw [hfvy238 _ (by omega) (by omega)]; rw [hfvy236 _ (by omega) (by omega)]; rw [hfvy234 _ (by omega) (by omega)]; rw [hfvy232 _ (by omega) (by omega)]; rw [hfvy230 _ (by omega) (by omega)]; rw [hfvy59 _ (by omega) (by omega)]; rw [hfvy54 _ (by omega) (by omega)]; rw [hfvy52 _ (by omega) (by omega)]; rw [hfvy47 _ (by omega) (by omega)]; rw [hfvy45 _ (by omega) (by omega)]; rw [egy32, va_up_ne _ _ (by omega)]; rw [hfvy28 _ (by omega)]; rw [egy25, va_up_ne _ _ (by omega)]))
            have hkpy328 : Fvy266 13 = F 13 := ((hFvy266 13 (by decide)).trans ((hFvy262 13 (by decide)).trans ((hFvy260 13 (by decide)).trans ((hFvy255 13 (by decide)).trans ((hFvy253 13 (by decide)).trans ((hFvy248 13 (by decide)).trans ((hFvy246 13 (by decide)).trans ((hFvy238 13 (by decide)).trans ((hFvy236 13 (by decide)).trans ((hFvy234 13 (by decide)).trans ((hFvy232 13 (by decide)).trans ((hFvy230 13 (by decide)).trans ((hFvy59 13 (by decide)).trans ((hFvy54 13 (by decide)).trans ((hFvy52 13 (by decide)).trans ((hFvy47 13 (by decide)).trans ((hFvy45 13 (by decide)).trans (fn ((hFvy28 13 (by decide)).trans (fn rfl (by decide))) (by decide)))))))))))))))))))
            have hkpy329 : Fvy266 14 = F 14 := ((hFvy266 14 (by decide)).trans ((hFvy262 14 (by decide)).trans ((hFvy260 14 (by decide)).trans ((hFvy255 14 (by decide)).trans ((hFvy253 14 (by decide)).trans ((hFvy248 14 (by decide)).trans ((hFvy246 14 (by decide)).trans ((hFvy238 14 (by decide)).trans ((hFvy236 14 (by decide)).trans ((hFvy234 14 (by decide)).trans ((hFvy232 14 (by decide)).trans ((hFvy230 14 (by decide)).trans ((hFvy59 14 (by decide)).trans ((hFvy54 14 (by decide)).trans ((hFvy52 14 (by decide)).trans ((hFvy47 14 (by decide)).trans ((hFvy45 14 (by decide)).trans (fn ((hFvy28 14 (by decide)).trans (fn rfl (by decide))) (by decide)))))))))))))))))))
            have hkpy330 : Fvy266 15 = F 15 := ((hFvy266 15 (by decide)).trans ((hFvy262 15 (by decide)).trans ((hFvy260 15 (by decide)).trans ((hFvy255 15 (by decide)).trans ((hFvy253 15 (by decide)).trans ((hFvy248 15 (by decide)).trans ((hFvy246 15 (by decide)).trans ((hFvy238 15 (by decide)).trans ((hFvy236 15 (by decide)).trans ((hFvy234 15 (by decide)).trans ((hFvy232 15 (by decide)).trans ((hFvy230 15 (by decide)).trans ((hFvy59 15 (by decide)).trans ((hFvy54 15 (by decide)).trans ((hFvy52 15 (by decide)).trans ((hFvy47 15 (by decide)).trans ((hFvy45 15 (by decide)).trans (fn ((hFvy28 15 (by decide)).trans (fn rfl (by decide))) (by decide)))))))))))))))))))
            have hkpy331 : Fvy266 16 = F 16 := ((hFvy266 16 (by decide)).trans ((hFvy262 16 (by decide)).trans ((hFvy260 16 (by decide)).trans ((hFvy255 16 (by decide)).trans ((hFvy253 16 (by decide)).trans ((hFvy248 16 (by decide)).trans ((hFvy246 16 (by decide)).trans ((hFvy238 16 (by decide)).trans ((hFvy236 16 (by decide)).trans ((hFvy234 16 (by decide)).trans ((hFvy232 16 (by decide)).trans ((hFvy230 16 (by decide)).trans ((hFvy59 16 (by decide)).trans ((hFvy54 16 (by decide)).trans ((hFvy52 16 (by decide)).trans ((hFvy47 16 (by decide)).trans ((hFvy45 16 (by decide)).trans (fn ((hFvy28 16 (by decide)).trans (fn rfl (by decide))) (by decide)))))))))))))))))))
            have hkpy332 : Fvy266 17 = F 17 := ((hFvy266 17 (by decide)).trans ((hFvy262 17 (by decide)).trans ((hFvy260 17 (by decide)).trans ((hFvy255 17 (by decide)).trans ((hFvy253 17 (by decide)).trans ((hFvy248 17 (by decide)).trans ((hFvy246 17 (by decide)).trans ((hFvy238 17 (by decide)).trans ((hFvy236 17 (by decide)).trans ((hFvy234 17 (by decide)).trans ((hFvy232 17 (by decide)).trans ((hFvy230 17 (by decide)).trans ((hFvy59 17 (by decide)).trans ((hFvy54 17 (by decide)).trans ((hFvy52 17 (by decide)).trans ((hFvy47 17 (by decide)).trans ((hFvy45 17 (by decide)).trans (fn ((hFvy28 17 (by decide)).trans (fn rfl (by decide))) (by decide)))))))))))))))))))
            have hkpy333 : Fvy266 18 = F 18 := ((hFvy266 18 (by decide)).trans ((hFvy262 18 (by decide)).trans ((hFvy260 18 (by decide)).trans ((hFvy255 18 (by decide)).trans ((hFvy253 18 (by decide)).trans ((hFvy248 18 (by decide)).trans ((hFvy246 18 (by decide)).trans ((hFvy238 18 (by decide)).trans ((hFvy236 18 (by decide)).trans ((hFvy234 18 (by decide)).trans ((hFvy232 18 (by decide)).trans ((hFvy230 18 (by decide)).trans ((hFvy59 18 (by decide)).trans ((hFvy54 18 (by decide)).trans ((hFvy52 18 (by decide)).trans ((hFvy47 18 (by decide)).trans ((hFvy45 18 (by decide)).trans (fn ((hFvy28 18 (by decide)).trans (fn rfl (by decide))) (by decide)))))))))))))))))))
            have hkpy334 : Fvy266 19 = F 19 := ((hFvy266 19 (by decide)).trans ((hFvy262 19 (by decide)).trans ((hFvy260 19 (by decide)).trans ((hFvy255 19 (by decide)).trans ((hFvy253 19 (by decide)).trans ((hFvy248 19 (by decide)).trans ((hFvy246 19 (by decide)).trans ((hFvy238 19 (by decide)).trans ((hFvy236 19 (by decide)).trans ((hFvy234 19 (by decide)).trans ((hFvy232 19 (by decide)).trans ((hFvy230 19 (by decide)).trans ((hFvy59 19 (by decide)).trans ((hFvy54 19 (by decide)).trans ((hFvy52 19 (by decide)).trans ((hFvy47 19 (by decide)).trans ((hFvy45 19 (by decide)).trans (fn ((hFvy28 19 (by decide)).trans (fn rfl (by decide))) (by decide)))))))))))))))))))
            have hkpy335 : Fvy266 20 = F 20 := ((hFvy266 20 (by decide)).trans ((hFvy262 20 (by decide)).trans ((hFvy260 20 (by decide)).trans ((hFvy255 20 (by decide)).trans ((hFvy253 20 (by decide)).trans ((hFvy248 20 (by decide)).trans ((hFvy246 20 (by decide)).trans ((hFvy238 20 (by decide)).trans ((hFvy236 20 (by decide)).trans ((hFvy234 20 (by decide)).trans ((hFvy232 20 (by decide)).trans ((hFvy230 20 (by decide)).trans ((hFvy59 20 (by decide)).trans ((hFvy54 20 (by decide)).trans ((hFvy52 20 (by decide)).trans ((hFvy47 20 (by decide)).trans ((hFvy45 20 (by decide)).trans (fn ((hFvy28 20 (by decide)).trans (fn rfl (by decide))) (by decide)))))))))))))))))))
            have hkpy336 : Fvy266 21 = F 21 := ((hFvy266 21 (by decide)).trans ((hFvy262 21 (by decide)).trans ((hFvy260 21 (by decide)).trans ((hFvy255 21 (by decide)).trans ((hFvy253 21 (by decide)).trans ((hFvy248 21 (by decide)).trans ((hFvy246 21 (by decide)).trans ((hFvy238 21 (by decide)).trans ((hFvy236 21 (by decide)).trans ((hFvy234 21 (by decide)).trans ((hFvy232 21 (by decide)).trans ((hFvy230 21 (by decide)).trans ((hFvy59 21 (by decide)).trans ((hFvy54 21 (by decide)).trans ((hFvy52 21 (by decide)).trans ((hFvy47 21 (by decide)).trans ((hFvy45 21 (by decide)).trans (fn ((hFvy28 21 (by decide)).trans (fn rfl (by decide))) (by decide)))))))))))))))))))
            have hkpy337 : Fvy266 23 = F 23 := ((hFvy266 23 (by decide)).trans ((hFvy262 23 (by decide)).trans ((hFvy260 23 (by decide)).trans ((hFvy255 23 (by decide)).trans ((hFvy253 23 (by decide)).trans ((hFvy248 23 (by decide)).trans ((hFvy246 23 (by decide)).trans ((hFvy238 23 (by decide)).trans ((hFvy236 23 (by decide)).trans ((hFvy234 23 (by decide)).trans ((hFvy232 23 (by decide)).trans ((hFvy230 23 (by decide)).trans ((hFvy59 23 (by decide)).trans ((hFvy54 23 (by decide)).trans ((hFvy52 23 (by decide)).trans ((hFvy47 23 (by decide)).trans ((hFvy45 23 (by decide)).trans (fn ((hFvy28 23 (by decide)).trans (fn rfl (by decide))) (by decide)))))))))))))))))))
            have hkpy338 : Fvy266 24 = F 24 := ((hFvy266 24 (by decide)).trans ((hFvy262 24 (by decide)).trans ((hFvy260 24 (by decide)).trans ((hFvy255 24 (by decide)).trans ((hFvy253 24 (by decide)).trans ((hFvy248 24 (by decide)).trans ((hFvy246 24 (by decide)).trans ((hFvy238 24 (by decide)).trans ((hFvy236 24 (by decide)).trans ((hFvy234 24 (by decide)).trans ((hFvy232 24 (by decide)).trans ((hFvy230 24 (by decide)).trans ((hFvy59 24 (by decide)).trans ((hFvy54 24 (by decide)).trans ((hFvy52 24 (by decide)).trans ((hFvy47 24 (by decide)).trans ((hFvy45 24 (by decide)).trans (fn ((hFvy28 24 (by decide)).trans (fn rfl (by decide))) (by decide)))))))))))))))))))
            have hkpy339 : Fvy266 25 = F 25 := ((hFvy266 25 (by decide)).trans ((hFvy262 25 (by decide)).trans ((hFvy260 25 (by decide)).trans ((hFvy255 25 (by decide)).trans ((hFvy253 25 (by decide)).trans ((hFvy248 25 (by decide)).trans ((hFvy246 25 (by decide)).trans ((hFvy238 25 (by decide)).trans ((hFvy236 25 (by decide)).trans ((hFvy234 25 (by decide)).trans ((hFvy232 25 (by decide)).trans ((hFvy230 25 (by decide)).trans ((hFvy59 25 (by decide)).trans ((hFvy54 25 (by decide)).trans ((hFvy52 25 (by decide)).trans ((hFvy47 25 (by decide)).trans ((hFvy45 25 (by decide)).trans (fn ((hFvy28 25 (by decide)).trans (fn rfl (by decide))) (by decide)))))))))))))))))))
            have hkpy340 : Fvy266 26 = F 26 := ((hFvy266 26 (by decide)).trans ((hFvy262 26 (by decide)).trans ((hFvy260 26 (by decide)).trans ((hFvy255 26 (by decide)).trans ((hFvy253 26 (by decide)).trans ((hFvy248 26 (by decide)).trans ((hFvy246 26 (by decide)).trans ((hFvy238 26 (by decide)).trans ((hFvy236 26 (by decide)).trans ((hFvy234 26 (by decide)).trans ((hFvy232 26 (by decide)).trans ((hFvy230 26 (by decide)).trans ((hFvy59 26 (by decide)).trans ((hFvy54 26 (by decide)).trans ((hFvy52 26 (by decide)).trans ((hFvy47 26 (by decide)).trans ((hFvy45 26 (by decide)).trans (fn ((hFvy28 26 (by decide)).trans (fn rfl (by decide))) (by decide)))))))))))))))))))
            have hkpy341 : Fvy266 27 = F 27 := ((hFvy266 27 (by decide)).trans ((hFvy262 27 (by decide)).trans ((hFvy260 27 (by decide)).trans ((hFvy255 27 (by decide)).trans ((hFvy253 27 (by decide)).trans ((hFvy248 27 (by decide)).trans ((hFvy246 27 (by decide)).trans ((hFvy238 27 (by decide)).trans ((hFvy236 27 (by decide)).trans ((hFvy234 27 (by decide)).trans ((hFvy232 27 (by decide)).trans ((hFvy230 27 (by decide)).trans ((hFvy59 27 (by decide)).trans ((hFvy54 27 (by decide)).trans ((hFvy52 27 (by decide)).trans ((hFvy47 27 (by decide)).trans ((hFvy45 27 (by decide)).trans (fn ((hFvy28 27 (by decide)).trans (fn rfl (by decide))) (by decide)))))))))))))))))))
            have hkpy342 : Fvy266 29 = F 29 := ((hFvy266 29 (by decide)).trans ((hFvy262 29 (by decide)).trans ((hFvy260 29 (by decide)).trans ((hFvy255 29 (by decide)).trans ((hFvy253 29 (by decide)).trans ((hFvy248 29 (by decide)).trans ((hFvy246 29 (by decide)).trans ((hFvy238 29 (by decide)).trans ((hFvy236 29 (by decide)).trans ((hFvy234 29 (by decide)).trans ((hFvy232 29 (by decide)).trans ((hFvy230 29 (by decide)).trans ((hFvy59 29 (by decide)).trans ((hFvy54 29 (by decide)).trans ((hFvy52 29 (by decide)).trans ((hFvy47 29 (by decide)).trans ((hFvy45 29 (by decide)).trans (fn ((hFvy28 29 (by decide)).trans (fn rfl (by decide))) (by decide)))))))))))))))))))
            exact z_iret C hr hlk dX10_told_210 (by decide) (by decide) ⟨0, rfl, rfl, rfl, by omega, ⟨_, _, hMy326, ⟨hkpy328, hkpy329, hkpy330, hkpy331, hkpy332, hkpy333, hkpy334, hkpy335, hkpy336, hkpy337, hkpy338⟩, ⟨(hkpy339.trans hp25), (hkpy340.trans hp26), (hkpy341.trans hp27), (hkpy342.trans hp29)⟩, (fun j _ => rfl)⟩, fun j j1 => by rw [hfvy266 _ (by omega)]; rw [hfvy262 _ (by omega) (by omega)]; rw [hfvy260 _ (by omega) (by omega)]; rw [hfvy255 _ (by omega) (by omega)]; rw [hfvy253 _ (by omega) (by omega)]; rw [hfvy248 _ (by omega) (by omega)]; rw [hfvy246 _ (by omega) (by omega)]; rw [hfvy238 _ (by omega) (by omega)]; rw [hfvy236 _ (by omega) (by omega)]; rw [hfvy234 _ (by omega) (by omega)]; rw [hfvy232 _ (by omega) (by omega)]; rw [hfvy230 _ (by omega) (by omega)]; rw [hfvy59 _ (by omega) (by omega)]; rw [hfvy54 _ (by omega) (by omega)]; rw [hfvy52 _ (by omega) (by omega)]; rw [hfvy47 _ (by omega) (by omega)]; rw [hfvy45 _ (by omega) (by omega)]; rw [egy32, va_up_ne _ _ (by omega)]; rw [hfvy28 _ (by omega)]; rw [egy25, va_up_ne _ _ (by omega)]⟩
        · refine z_iconst (z := 1) C dX10_told_193 rfl ?_
          have hey344 : Fvy262 12 = Fvy28 12 := ((hFvy262 12 (by decide)).trans ((hFvy260 12 (by decide)).trans ((hFvy255 12 (by decide)).trans ((hFvy253 12 (by decide)).trans ((hFvy248 12 (by decide)).trans ((hFvy246 12 (by decide)).trans ((hFvy238 12 (by decide)).trans ((hFvy236 12 (by decide)).trans ((hFvy234 12 (by decide)).trans ((hFvy232 12 (by decide)).trans ((hFvy230 12 (by decide)).trans ((hFvy59 12 (by decide)).trans ((hFvy54 12 (by decide)).trans ((hFvy52 12 (by decide)).trans ((hFvy47 12 (by decide)).trans ((hFvy45 12 (by decide)).trans (fn rfl (by decide))))))))))))))))))
          refine z_cV (As := [.int (zI (0)), .int (zI (1))]) (rest := []) (ci := 12) C (c_X10_right l D A cs tt N ad _ i hN _ hcvy262 (by omega) (0) (by omega) (1) (by omega)) (lt_A0 hN rfl) hay1 hcvy262 rfl rfl mv_yX10_right q_1648 hd_yX10_right (by decide) (Nat.le_of_ble_eq_true rfl) (by decide) dX10_told_194 rfl (kI0 fun vy343 gvy343 hvy343 => ?_)
          obtain ⟨hrvy343, ⟨Fvy343, hcvy343, htvy343, hFvy343⟩, hfvy343⟩ := hvy343
          obtain rfl : vy343 = 0 := by omega
          refine z_if_eq (tgt := 209) C dX10_told_197 (by decide) (by omega) (fun _ => ?_) (fun h => absurd h (by omega))
          refine z_iconst (z := 0) C dX10_told_209 rfl ?_
          have hgy345 := (hfvy260 (i + 1) (ne_o (i := i) (c := 1) (d := 0) rfl) (ne_o (i := i) (c := 1) (d := 24) rfl)).trans hgy258
          have hgy346 := (hfvy262 (i + 1) (ne_o (i := i) (c := 1) (d := 0) rfl) (ne_o (i := i) (c := 1) (d := 24) rfl)).trans hgy345
          have hgy347 := (hfvy343 (i + 1) (ne_o (i := i) (c := 1) (d := 0) rfl)).trans hgy346
          have hFy348 : ∀ f, f ≠ 12 → f ≠ 51 → Fvy343 f = F f := fun f n12 n51 => ((hFvy343 f n12).trans ((hFvy262 f n51).trans ((hFvy260 f n51).trans ((hFvy255 f n51).trans ((hFvy253 f n51).trans ((hFvy248 f n51).trans ((hFvy246 f n51).trans ((hFvy238 f n51).trans ((hFvy236 f n51).trans ((hFvy234 f n51).trans ((hFvy232 f n51).trans ((hFvy230 f n51).trans ((hFvy59 f n51).trans ((hFvy54 f n51).trans ((hFvy52 f n51).trans ((hFvy47 f n51).trans ((hFvy45 f n51).trans ((uZ_n _ _ n51).trans ((hFvy28 f n12).trans ((uZ_n _ _ n12).trans rfl))))))))))))))))))))
          have hey349 : Fvy343 13 = F 13 := ((hFvy343 13 (by decide)).trans ((hFvy262 13 (by decide)).trans ((hFvy260 13 (by decide)).trans ((hFvy255 13 (by decide)).trans ((hFvy253 13 (by decide)).trans ((hFvy248 13 (by decide)).trans ((hFvy246 13 (by decide)).trans ((hFvy238 13 (by decide)).trans ((hFvy236 13 (by decide)).trans ((hFvy234 13 (by decide)).trans ((hFvy232 13 (by decide)).trans ((hFvy230 13 (by decide)).trans ((hFvy59 13 (by decide)).trans ((hFvy54 13 (by decide)).trans ((hFvy52 13 (by decide)).trans ((hFvy47 13 (by decide)).trans ((hFvy45 13 (by decide)).trans (fn ((hFvy28 13 (by decide)).trans (fn rfl (by decide))) (by decide)))))))))))))))))))
          have hey350 : Fvy343 14 = F 14 := ((hFvy343 14 (by decide)).trans ((hFvy262 14 (by decide)).trans ((hFvy260 14 (by decide)).trans ((hFvy255 14 (by decide)).trans ((hFvy253 14 (by decide)).trans ((hFvy248 14 (by decide)).trans ((hFvy246 14 (by decide)).trans ((hFvy238 14 (by decide)).trans ((hFvy236 14 (by decide)).trans ((hFvy234 14 (by decide)).trans ((hFvy232 14 (by decide)).trans ((hFvy230 14 (by decide)).trans ((hFvy59 14 (by decide)).trans ((hFvy54 14 (by decide)).trans ((hFvy52 14 (by decide)).trans ((hFvy47 14 (by decide)).trans ((hFvy45 14 (by decide)).trans (fn ((hFvy28 14 (by decide)).trans (fn rfl (by decide))) (by decide)))))))))))))))))))
          have hey351 : Fvy343 15 = F 15 := ((hFvy343 15 (by decide)).trans ((hFvy262 15 (by decide)).trans ((hFvy260 15 (by decide)).trans ((hFvy255 15 (by decide)).trans ((hFvy253 15 (by decide)).trans ((hFvy248 15 (by decide)).trans ((hFvy246 15 (by decide)).trans ((hFvy238 15 (by decide)).trans ((hFvy236 15 (by decide)).trans ((hFvy234 15 (by decide)).trans ((hFvy232 15 (by decide)).trans ((hFvy230 15 (by decide)).trans ((hFvy59 15 (by decide)).trans ((hFvy54 15 (by decide)).trans ((hFvy52 15 (by decide)).trans ((hFvy47 15 (by decide)).trans ((hFvy45 15 (by decide)).trans (fn ((hFvy28 15 (by decide)).trans (fn rfl (by decide))) (by decide)))))))))))))))))))
          have hey352 : Fvy343 16 = F 16 := ((hFvy343 16 (by decide)).trans ((hFvy262 16 (by decide)).trans ((hFvy260 16 (by decide)).trans ((hFvy255 16 (by decide)).trans ((hFvy253 16 (by decide)).trans ((hFvy248 16 (by decide)).trans ((hFvy246 16 (by decide)).trans ((hFvy238 16 (by decide)).trans ((hFvy236 16 (by decide)).trans ((hFvy234 16 (by decide)).trans ((hFvy232 16 (by decide)).trans ((hFvy230 16 (by decide)).trans ((hFvy59 16 (by decide)).trans ((hFvy54 16 (by decide)).trans ((hFvy52 16 (by decide)).trans ((hFvy47 16 (by decide)).trans ((hFvy45 16 (by decide)).trans (fn ((hFvy28 16 (by decide)).trans (fn rfl (by decide))) (by decide)))))))))))))))))))
          have hey353 : Fvy343 17 = F 17 := ((hFvy343 17 (by decide)).trans ((hFvy262 17 (by decide)).trans ((hFvy260 17 (by decide)).trans ((hFvy255 17 (by decide)).trans ((hFvy253 17 (by decide)).trans ((hFvy248 17 (by decide)).trans ((hFvy246 17 (by decide)).trans ((hFvy238 17 (by decide)).trans ((hFvy236 17 (by decide)).trans ((hFvy234 17 (by decide)).trans ((hFvy232 17 (by decide)).trans ((hFvy230 17 (by decide)).trans ((hFvy59 17 (by decide)).trans ((hFvy54 17 (by decide)).trans ((hFvy52 17 (by decide)).trans ((hFvy47 17 (by decide)).trans ((hFvy45 17 (by decide)).trans (fn ((hFvy28 17 (by decide)).trans (fn rfl (by decide))) (by decide)))))))))))))))))))
          have hey354 : Fvy343 18 = F 18 := ((hFvy343 18 (by decide)).trans ((hFvy262 18 (by decide)).trans ((hFvy260 18 (by decide)).trans ((hFvy255 18 (by decide)).trans ((hFvy253 18 (by decide)).trans ((hFvy248 18 (by decide)).trans ((hFvy246 18 (by decide)).trans ((hFvy238 18 (by decide)).trans ((hFvy236 18 (by decide)).trans ((hFvy234 18 (by decide)).trans ((hFvy232 18 (by decide)).trans ((hFvy230 18 (by decide)).trans ((hFvy59 18 (by decide)).trans ((hFvy54 18 (by decide)).trans ((hFvy52 18 (by decide)).trans ((hFvy47 18 (by decide)).trans ((hFvy45 18 (by decide)).trans (fn ((hFvy28 18 (by decide)).trans (fn rfl (by decide))) (by decide)))))))))))))))))))
          have hey355 : Fvy343 19 = F 19 := ((hFvy343 19 (by decide)).trans ((hFvy262 19 (by decide)).trans ((hFvy260 19 (by decide)).trans ((hFvy255 19 (by decide)).trans ((hFvy253 19 (by decide)).trans ((hFvy248 19 (by decide)).trans ((hFvy246 19 (by decide)).trans ((hFvy238 19 (by decide)).trans ((hFvy236 19 (by decide)).trans ((hFvy234 19 (by decide)).trans ((hFvy232 19 (by decide)).trans ((hFvy230 19 (by decide)).trans ((hFvy59 19 (by decide)).trans ((hFvy54 19 (by decide)).trans ((hFvy52 19 (by decide)).trans ((hFvy47 19 (by decide)).trans ((hFvy45 19 (by decide)).trans (fn ((hFvy28 19 (by decide)).trans (fn rfl (by decide))) (by decide)))))))))))))))))))
          have hey356 : Fvy343 20 = F 20 := ((hFvy343 20 (by decide)).trans ((hFvy262 20 (by decide)).trans ((hFvy260 20 (by decide)).trans ((hFvy255 20 (by decide)).trans ((hFvy253 20 (by decide)).trans ((hFvy248 20 (by decide)).trans ((hFvy246 20 (by decide)).trans ((hFvy238 20 (by decide)).trans ((hFvy236 20 (by decide)).trans ((hFvy234 20 (by decide)).trans ((hFvy232 20 (by decide)).trans ((hFvy230 20 (by decide)).trans ((hFvy59 20 (by decide)).trans ((hFvy54 20 (by decide)).trans ((hFvy52 20 (by decide)).trans ((hFvy47 20 (by decide)).trans ((hFvy45 20 (by decide)).trans (fn ((hFvy28 20 (by decide)).trans (fn rfl (by decide))) (by decide)))))))))))))))))))
          have hey357 : Fvy343 21 = F 21 := ((hFvy343 21 (by decide)).trans ((hFvy262 21 (by decide)).trans ((hFvy260 21 (by decide)).trans ((hFvy255 21 (by decide)).trans ((hFvy253 21 (by decide)).trans ((hFvy248 21 (by decide)).trans ((hFvy246 21 (by decide)).trans ((hFvy238 21 (by decide)).trans ((hFvy236 21 (by decide)).trans ((hFvy234 21 (by decide)).trans ((hFvy232 21 (by decide)).trans ((hFvy230 21 (by decide)).trans ((hFvy59 21 (by decide)).trans ((hFvy54 21 (by decide)).trans ((hFvy52 21 (by decide)).trans ((hFvy47 21 (by decide)).trans ((hFvy45 21 (by decide)).trans (fn ((hFvy28 21 (by decide)).trans (fn rfl (by decide))) (by decide)))))))))))))))))))
          have hey358 : Fvy343 23 = F 23 := ((hFvy343 23 (by decide)).trans ((hFvy262 23 (by decide)).trans ((hFvy260 23 (by decide)).trans ((hFvy255 23 (by decide)).trans ((hFvy253 23 (by decide)).trans ((hFvy248 23 (by decide)).trans ((hFvy246 23 (by decide)).trans ((hFvy238 23 (by decide)).trans ((hFvy236 23 (by decide)).trans ((hFvy234 23 (by decide)).trans ((hFvy232 23 (by decide)).trans ((hFvy230 23 (by decide)).trans ((hFvy59 23 (by decide)).trans ((hFvy54 23 (by decide)).trans ((hFvy52 23 (by decide)).trans ((hFvy47 23 (by decide)).trans ((hFvy45 23 (by decide)).trans (fn ((hFvy28 23 (by decide)).trans (fn rfl (by decide))) (by decide)))))))))))))))))))
          have hey359 : Fvy343 25 = F 25 := ((hFvy343 25 (by decide)).trans ((hFvy262 25 (by decide)).trans ((hFvy260 25 (by decide)).trans ((hFvy255 25 (by decide)).trans ((hFvy253 25 (by decide)).trans ((hFvy248 25 (by decide)).trans ((hFvy246 25 (by decide)).trans ((hFvy238 25 (by decide)).trans ((hFvy236 25 (by decide)).trans ((hFvy234 25 (by decide)).trans ((hFvy232 25 (by decide)).trans ((hFvy230 25 (by decide)).trans ((hFvy59 25 (by decide)).trans ((hFvy54 25 (by decide)).trans ((hFvy52 25 (by decide)).trans ((hFvy47 25 (by decide)).trans ((hFvy45 25 (by decide)).trans (fn ((hFvy28 25 (by decide)).trans (fn rfl (by decide))) (by decide)))))))))))))))))))
          have hey360 : Fvy343 27 = F 27 := ((hFvy343 27 (by decide)).trans ((hFvy262 27 (by decide)).trans ((hFvy260 27 (by decide)).trans ((hFvy255 27 (by decide)).trans ((hFvy253 27 (by decide)).trans ((hFvy248 27 (by decide)).trans ((hFvy246 27 (by decide)).trans ((hFvy238 27 (by decide)).trans ((hFvy236 27 (by decide)).trans ((hFvy234 27 (by decide)).trans ((hFvy232 27 (by decide)).trans ((hFvy230 27 (by decide)).trans ((hFvy59 27 (by decide)).trans ((hFvy54 27 (by decide)).trans ((hFvy52 27 (by decide)).trans ((hFvy47 27 (by decide)).trans ((hFvy45 27 (by decide)).trans (fn ((hFvy28 27 (by decide)).trans (fn rfl (by decide))) (by decide)))))))))))))))))))
          have hey361 : Fvy343 28 = F 28 := ((hFvy343 28 (by decide)).trans ((hFvy262 28 (by decide)).trans ((hFvy260 28 (by decide)).trans ((hFvy255 28 (by decide)).trans ((hFvy253 28 (by decide)).trans ((hFvy248 28 (by decide)).trans ((hFvy246 28 (by decide)).trans ((hFvy238 28 (by decide)).trans ((hFvy236 28 (by decide)).trans ((hFvy234 28 (by decide)).trans ((hFvy232 28 (by decide)).trans ((hFvy230 28 (by decide)).trans ((hFvy59 28 (by decide)).trans ((hFvy54 28 (by decide)).trans ((hFvy52 28 (by decide)).trans ((hFvy47 28 (by decide)).trans ((hFvy45 28 (by decide)).trans (fn ((hFvy28 28 (by decide)).trans (fn rfl (by decide))) (by decide)))))))))))))))))))
          have hey362 : Fvy343 29 = F 29 := ((hFvy343 29 (by decide)).trans ((hFvy262 29 (by decide)).trans ((hFvy260 29 (by decide)).trans ((hFvy255 29 (by decide)).trans ((hFvy253 29 (by decide)).trans ((hFvy248 29 (by decide)).trans ((hFvy246 29 (by decide)).trans ((hFvy238 29 (by decide)).trans ((hFvy236 29 (by decide)).trans ((hFvy234 29 (by decide)).trans ((hFvy232 29 (by decide)).trans ((hFvy230 29 (by decide)).trans ((hFvy59 29 (by decide)).trans ((hFvy54 29 (by decide)).trans ((hFvy52 29 (by decide)).trans ((hFvy47 29 (by decide)).trans ((hFvy45 29 (by decide)).trans (fn ((hFvy28 29 (by decide)).trans (fn rfl (by decide))) (by decide)))))))))))))))))))
          have hKy363 : okF Fvy343 := okF.mv hM.2.1 hey349 hey350 hey351 hey352 hey353 hey354 hey355 hey356 hey357 hey358 hey359 hey360 hey361 hey362
          have hgy365 := (hfvy343 (i + 24) (ne_o (i := i) (c := 24) (d := 0) rfl)).trans htvy262
          have hMy364 : okMr cs ad gvy343 i (x + 1) Fvy343 r st op ai fa mu tb tp := okMr.upd hM hcvy343 hKy363 (fun f a => hFy348 f (by omega) (by omega)) hgy347 (hA.mono (by omega)) (fun j a b => by
              by_cases e0 : j = i + 24
              · exact Or.inr ⟨24, _, e0, lsP.l (by decide), by rw [e0]; exact hgy365⟩
              exact Or.inl (by rw [hfvy343 _ (by omega)]; rw [hfvy262 _ (by omega) (by omega)]; rw [hfvy260 _ (by omega) (by omega)]; rw [hfvy255 _ (by omega) (by omega)]; rw [hfvy253 _ (by omega) (by omega)]; rw [hfvy248 _ (by omega) (by omega)]; rw [hfvy246 _ (by omega) (by omega)]; rw [hfvy238 _ (by omega) (by omega)]; rw [hfvy236 _ (by omega) (by omega)]; rw [hfvy234 _ (by omega) (by omega)]; rw [hfvy232 _ (by omega) (by omega)]; rw [hfvy230 _ (by omega) (by omega)]; rw [hfvy59 _ (by omega) (by omega)]; rw [hfvy54 _ (by omega) (by omega)]; rw [hfvy52 _ (by omega) (by omega)]; rw [hfvy47 _ (by omega) (by omega)]; rw [hfvy45 _ (by omega) (by omega)]; rw [egy32, va_up_ne _ _ (by omega)]; rw [hfvy28 _ (by omega)]; rw [egy25, va_up_ne _ _ (by omega)]))
          have hkpy366 : Fvy343 13 = F 13 := ((hFvy343 13 (by decide)).trans ((hFvy262 13 (by decide)).trans ((hFvy260 13 (by decide)).trans ((hFvy255 13 (by decide)).trans ((hFvy253 13 (by decide)).trans ((hFvy248 13 (by decide)).trans ((hFvy246 13 (by decide)).trans ((hFvy238 13 (by decide)).trans ((hFvy236 13 (by decide)).trans ((hFvy234 13 (by decide)).trans ((hFvy232 13 (by decide)).trans ((hFvy230 13 (by decide)).trans ((hFvy59 13 (by decide)).trans ((hFvy54 13 (by decide)).trans ((hFvy52 13 (by decide)).trans ((hFvy47 13 (by decide)).trans ((hFvy45 13 (by decide)).trans (fn ((hFvy28 13 (by decide)).trans (fn rfl (by decide))) (by decide)))))))))))))))))))
          have hkpy367 : Fvy343 14 = F 14 := ((hFvy343 14 (by decide)).trans ((hFvy262 14 (by decide)).trans ((hFvy260 14 (by decide)).trans ((hFvy255 14 (by decide)).trans ((hFvy253 14 (by decide)).trans ((hFvy248 14 (by decide)).trans ((hFvy246 14 (by decide)).trans ((hFvy238 14 (by decide)).trans ((hFvy236 14 (by decide)).trans ((hFvy234 14 (by decide)).trans ((hFvy232 14 (by decide)).trans ((hFvy230 14 (by decide)).trans ((hFvy59 14 (by decide)).trans ((hFvy54 14 (by decide)).trans ((hFvy52 14 (by decide)).trans ((hFvy47 14 (by decide)).trans ((hFvy45 14 (by decide)).trans (fn ((hFvy28 14 (by decide)).trans (fn rfl (by decide))) (by decide)))))))))))))))))))
          have hkpy368 : Fvy343 15 = F 15 := ((hFvy343 15 (by decide)).trans ((hFvy262 15 (by decide)).trans ((hFvy260 15 (by decide)).trans ((hFvy255 15 (by decide)).trans ((hFvy253 15 (by decide)).trans ((hFvy248 15 (by decide)).trans ((hFvy246 15 (by decide)).trans ((hFvy238 15 (by decide)).trans ((hFvy236 15 (by decide)).trans ((hFvy234 15 (by decide)).trans ((hFvy232 15 (by decide)).trans ((hFvy230 15 (by decide)).trans ((hFvy59 15 (by decide)).trans ((hFvy54 15 (by decide)).trans ((hFvy52 15 (by decide)).trans ((hFvy47 15 (by decide)).trans ((hFvy45 15 (by decide)).trans (fn ((hFvy28 15 (by decide)).trans (fn rfl (by decide))) (by decide)))))))))))))))))))
          have hkpy369 : Fvy343 16 = F 16 := ((hFvy343 16 (by decide)).trans ((hFvy262 16 (by decide)).trans ((hFvy260 16 (by decide)).trans ((hFvy255 16 (by decide)).trans ((hFvy253 16 (by decide)).trans ((hFvy248 16 (by decide)).trans ((hFvy246 16 (by decide)).trans ((hFvy238 16 (by decide)).trans ((hFvy236 16 (by decide)).trans ((hFvy234 16 (by decide)).trans ((hFvy232 16 (by decide)).trans ((hFvy230 16 (by decide)).trans ((hFvy59 16 (by decide)).trans ((hFvy54 16 (by decide)).trans ((hFvy52 16 (by decide)).trans ((hFvy47 16 (by decide)).trans ((hFvy45 16 (by decide)).trans (fn ((hFvy28 16 (by decide)).trans (fn rfl (by decide))) (by decide)))))))))))))))))))
          have hkpy370 : Fvy343 17 = F 17 := ((hFvy343 17 (by decide)).trans ((hFvy262 17 (by decide)).trans ((hFvy260 17 (by decide)).trans ((hFvy255 17 (by decide)).trans ((hFvy253 17 (by decide)).trans ((hFvy248 17 (by decide)).trans ((hFvy246 17 (by decide)).trans ((hFvy238 17 (by decide)).trans ((hFvy236 17 (by decide)).trans ((hFvy234 17 (by decide)).trans ((hFvy232 17 (by decide)).trans ((hFvy230 17 (by decide)).trans ((hFvy59 17 (by decide)).trans ((hFvy54 17 (by decide)).trans ((hFvy52 17 (by decide)).trans ((hFvy47 17 (by decide)).trans ((hFvy45 17 (by decide)).trans (fn ((hFvy28 17 (by decide)).trans (fn rfl (by decide))) (by decide)))))))))))))))))))
          have hkpy371 : Fvy343 18 = F 18 := ((hFvy343 18 (by decide)).trans ((hFvy262 18 (by decide)).trans ((hFvy260 18 (by decide)).trans ((hFvy255 18 (by decide)).trans ((hFvy253 18 (by decide)).trans ((hFvy248 18 (by decide)).trans ((hFvy246 18 (by decide)).trans ((hFvy238 18 (by decide)).trans ((hFvy236 18 (by decide)).trans ((hFvy234 18 (by decide)).trans ((hFvy232 18 (by decide)).trans ((hFvy230 18 (by decide)).trans ((hFvy59 18 (by decide)).trans ((hFvy54 18 (by decide)).trans ((hFvy52 18 (by decide)).trans ((hFvy47 18 (by decide)).trans ((hFvy45 18 (by decide)).trans (fn ((hFvy28 18 (by decide)).trans (fn rfl (by decide))) (by decide)))))))))))))))))))
          have hkpy372 : Fvy343 19 = F 19 := ((hFvy343 19 (by decide)).trans ((hFvy262 19 (by decide)).trans ((hFvy260 19 (by decide)).trans ((hFvy255 19 (by decide)).trans ((hFvy253 19 (by decide)).trans ((hFvy248 19 (by decide)).trans ((hFvy246 19 (by decide)).trans ((hFvy238 19 (by decide)).trans ((hFvy236 19 (by decide)).trans ((hFvy234 19 (by decide)).trans ((hFvy232 19 (by decide)).trans ((hFvy230 19 (by decide)).trans ((hFvy59 19 (by decide)).trans ((hFvy54 19 (by decide)).trans ((hFvy52 19 (by decide)).trans ((hFvy47 19 (by decide)).trans ((hFvy45 19 (by decide)).trans (fn ((hFvy28 19 (by decide)).trans (fn rfl (by decide))) (by decide)))))))))))))))))))
          have hkpy373 : Fvy343 20 = F 20 := ((hFvy343 20 (by decide)).trans ((hFvy262 20 (by decide)).trans ((hFvy260 20 (by decide)).trans ((hFvy255 20 (by decide)).trans ((hFvy253 20 (by decide)).trans ((hFvy248 20 (by decide)).trans ((hFvy246 20 (by decide)).trans ((hFvy238 20 (by decide)).trans ((hFvy236 20 (by decide)).trans ((hFvy234 20 (by decide)).trans ((hFvy232 20 (by decide)).trans ((hFvy230 20 (by decide)).trans ((hFvy59 20 (by decide)).trans ((hFvy54 20 (by decide)).trans ((hFvy52 20 (by decide)).trans ((hFvy47 20 (by decide)).trans ((hFvy45 20 (by decide)).trans (fn ((hFvy28 20 (by decide)).trans (fn rfl (by decide))) (by decide)))))))))))))))))))
          have hkpy374 : Fvy343 21 = F 21 := ((hFvy343 21 (by decide)).trans ((hFvy262 21 (by decide)).trans ((hFvy260 21 (by decide)).trans ((hFvy255 21 (by decide)).trans ((hFvy253 21 (by decide)).trans ((hFvy248 21 (by decide)).trans ((hFvy246 21 (by decide)).trans ((hFvy238 21 (by decide)).trans ((hFvy236 21 (by decide)).trans ((hFvy234 21 (by decide)).trans ((hFvy232 21 (by decide)).trans ((hFvy230 21 (by decide)).trans ((hFvy59 21 (by decide)).trans ((hFvy54 21 (by decide)).trans ((hFvy52 21 (by decide)).trans ((hFvy47 21 (by decide)).trans ((hFvy45 21 (by decide)).trans (fn ((hFvy28 21 (by decide)).trans (fn rfl (by decide))) (by decide)))))))))))))))))))
          have hkpy375 : Fvy343 23 = F 23 := ((hFvy343 23 (by decide)).trans ((hFvy262 23 (by decide)).trans ((hFvy260 23 (by decide)).trans ((hFvy255 23 (by decide)).trans ((hFvy253 23 (by decide)).trans ((hFvy248 23 (by decide)).trans ((hFvy246 23 (by decide)).trans ((hFvy238 23 (by decide)).trans ((hFvy236 23 (by decide)).trans ((hFvy234 23 (by decide)).trans ((hFvy232 23 (by decide)).trans ((hFvy230 23 (by decide)).trans ((hFvy59 23 (by decide)).trans ((hFvy54 23 (by decide)).trans ((hFvy52 23 (by decide)).trans ((hFvy47 23 (by decide)).trans ((hFvy45 23 (by decide)).trans (fn ((hFvy28 23 (by decide)).trans (fn rfl (by decide))) (by decide)))))))))))))))))))
          have hkpy376 : Fvy343 24 = F 24 := ((hFvy343 24 (by decide)).trans ((hFvy262 24 (by decide)).trans ((hFvy260 24 (by decide)).trans ((hFvy255 24 (by decide)).trans ((hFvy253 24 (by decide)).trans ((hFvy248 24 (by decide)).trans ((hFvy246 24 (by decide)).trans ((hFvy238 24 (by decide)).trans ((hFvy236 24 (by decide)).trans ((hFvy234 24 (by decide)).trans ((hFvy232 24 (by decide)).trans ((hFvy230 24 (by decide)).trans ((hFvy59 24 (by decide)).trans ((hFvy54 24 (by decide)).trans ((hFvy52 24 (by decide)).trans ((hFvy47 24 (by decide)).trans ((hFvy45 24 (by decide)).trans (fn ((hFvy28 24 (by decide)).trans (fn rfl (by decide))) (by decide)))))))))))))))))))
          have hkpy377 : Fvy343 25 = F 25 := ((hFvy343 25 (by decide)).trans ((hFvy262 25 (by decide)).trans ((hFvy260 25 (by decide)).trans ((hFvy255 25 (by decide)).trans ((hFvy253 25 (by decide)).trans ((hFvy248 25 (by decide)).trans ((hFvy246 25 (by decide)).trans ((hFvy238 25 (by decide)).trans ((hFvy236 25 (by decide)).trans ((hFvy234 25 (by decide)).trans ((hFvy232 25 (by decide)).trans ((hFvy230 25 (by decide)).trans ((hFvy59 25 (by decide)).trans ((hFvy54 25 (by decide)).trans ((hFvy52 25 (by decide)).trans ((hFvy47 25 (by decide)).trans ((hFvy45 25 (by decide)).trans (fn ((hFvy28 25 (by decide)).trans (fn rfl (by decide))) (by decide)))))))))))))))))))
          have hkpy378 : Fvy343 26 = F 26 := ((hFvy343 26 (by decide)).trans ((hFvy262 26 (by decide)).trans ((hFvy260 26 (by decide)).trans ((hFvy255 26 (by decide)).trans ((hFvy253 26 (by decide)).trans ((hFvy248 26 (by decide)).trans ((hFvy246 26 (by decide)).trans ((hFvy238 26 (by decide)).trans ((hFvy236 26 (by decide)).trans ((hFvy234 26 (by decide)).trans ((hFvy232 26 (by decide)).trans ((hFvy230 26 (by decide)).trans ((hFvy59 26 (by decide)).trans ((hFvy54 26 (by decide)).trans ((hFvy52 26 (by decide)).trans ((hFvy47 26 (by decide)).trans ((hFvy45 26 (by decide)).trans (fn ((hFvy28 26 (by decide)).trans (fn rfl (by decide))) (by decide)))))))))))))))))))
          have hkpy379 : Fvy343 27 = F 27 := ((hFvy343 27 (by decide)).trans ((hFvy262 27 (by decide)).trans ((hFvy260 27 (by decide)).trans ((hFvy255 27 (by decide)).trans ((hFvy253 27 (by decide)).trans ((hFvy248 27 (by decide)).trans ((hFvy246 27 (by decide)).trans ((hFvy238 27 (by decide)).trans ((hFvy236 27 (by decide)).trans ((hFvy234 27 (by decide)).trans ((hFvy232 27 (by decide)).trans ((hFvy230 27 (by decide)).trans ((hFvy59 27 (by decide)).trans ((hFvy54 27 (by decide)).trans ((hFvy52 27 (by decide)).trans ((hFvy47 27 (by decide)).trans ((hFvy45 27 (by decide)).trans (fn ((hFvy28 27 (by decide)).trans (fn rfl (by decide))) (by decide)))))))))))))))))))
          have hkpy380 : Fvy343 29 = F 29 := ((hFvy343 29 (by decide)).trans ((hFvy262 29 (by decide)).trans ((hFvy260 29 (by decide)).trans ((hFvy255 29 (by decide)).trans ((hFvy253 29 (by decide)).trans ((hFvy248 29 (by decide)).trans ((hFvy246 29 (by decide)).trans ((hFvy238 29 (by decide)).trans ((hFvy236 29 (by decide)).trans ((hFvy234 29 (by decide)).trans ((hFvy232 29 (by decide)).trans ((hFvy230 29 (by decide)).trans ((hFvy59 29 (by decide)).trans ((hFvy54 29 (by decide)).trans ((hFvy52 29 (by decide)).trans ((hFvy47 29 (by decide)).trans ((hFvy45 29 (by decide)).trans (fn ((hFvy28 29 (by decide)).trans (fn rfl (by decide))) (by decide)))))))))))))))))))
          exact z_iret C hr hlk dX10_told_210 (by decide) (by decide) ⟨0, rfl, rfl, rfl, by omega, ⟨_, _, hMy364, ⟨hkpy366, hkpy367, hkpy368, hkpy369, hkpy370, hkpy371, hkpy372, hkpy373, hkpy374, hkpy375, hkpy376⟩, ⟨(hkpy377.trans hp25), (hkpy378.trans hp26), (hkpy379.trans hp27), (hkpy380.trans hp29)⟩, (fun j _ => rfl)⟩, fun j j1 => by rw [hfvy343 _ (by omega)]; rw [hfvy262 _ (by omega) (by omega)]; rw [hfvy260 _ (by omega) (by omega)]; rw [hfvy255 _ (by omega) (by omega)]; rw [hfvy253 _ (by omega) (by omega)]; rw [hfvy248 _ (by omega) (by omega)]; rw [hfvy246 _ (by omega) (by omega)]; rw [hfvy238 _ (by omega) (by omega)]; rw [hfvy236 _ (by omega) (by omega)]; rw [hfvy234 _ (by omega) (by omega)]; rw [hfvy232 _ (by omega) (by omega)]; rw [hfvy230 _ (by omega) (by omega)]; rw [hfvy59 _ (by omega) (by omega)]; rw [hfvy54 _ (by omega) (by omega)]; rw [hfvy52 _ (by omega) (by omega)]; rw [hfvy47 _ (by omega) (by omega)]; rw [hfvy45 _ (by omega) (by omega)]; rw [egy32, va_up_ne _ _ (by omega)]; rw [hfvy28 _ (by omega)]; rw [egy25, va_up_ne _ _ (by omega)]⟩
      · refine z_aload_n C 0 dX10_told_176 rfl ?_
        refine z_get (v := .int (zI (Fvy260 51 + 1))) C (lt_A0 hN rfl) hay1 hcvy262 rfl inA_X10 51 (by decide) q_1510 rfl (fv (F := Fvy262) (f := 51) hqvy262) dX10_told_177 ?_
        have hgy381 := (hfvy260 (i + 1) (ne_o (i := i) (c := 1) (d := 0) rfl) (ne_o (i := i) (c := 1) (d := 24) rfl)).trans hgy258
        have hgy382 := (hfvy262 (i + 1) (ne_o (i := i) (c := 1) (d := 0) rfl) (ne_o (i := i) (c := 1) (d := 24) rfl)).trans hgy381
        have hFy383 : ∀ f, f ≠ 12 → f ≠ 51 → Fvy262 f = F f := fun f n12 n51 => ((hFvy262 f n51).trans ((hFvy260 f n51).trans ((hFvy255 f n51).trans ((hFvy253 f n51).trans ((hFvy248 f n51).trans ((hFvy246 f n51).trans ((hFvy238 f n51).trans ((hFvy236 f n51).trans ((hFvy234 f n51).trans ((hFvy232 f n51).trans ((hFvy230 f n51).trans ((hFvy59 f n51).trans ((hFvy54 f n51).trans ((hFvy52 f n51).trans ((hFvy47 f n51).trans ((hFvy45 f n51).trans ((uZ_n _ _ n51).trans ((hFvy28 f n12).trans ((uZ_n _ _ n12).trans rfl)))))))))))))))))))
        have hey384 : Fvy262 13 = F 13 := ((hFvy262 13 (by decide)).trans ((hFvy260 13 (by decide)).trans ((hFvy255 13 (by decide)).trans ((hFvy253 13 (by decide)).trans ((hFvy248 13 (by decide)).trans ((hFvy246 13 (by decide)).trans ((hFvy238 13 (by decide)).trans ((hFvy236 13 (by decide)).trans ((hFvy234 13 (by decide)).trans ((hFvy232 13 (by decide)).trans ((hFvy230 13 (by decide)).trans ((hFvy59 13 (by decide)).trans ((hFvy54 13 (by decide)).trans ((hFvy52 13 (by decide)).trans ((hFvy47 13 (by decide)).trans ((hFvy45 13 (by decide)).trans (fn ((hFvy28 13 (by decide)).trans (fn rfl (by decide))) (by decide))))))))))))))))))
        have hey385 : Fvy262 14 = F 14 := ((hFvy262 14 (by decide)).trans ((hFvy260 14 (by decide)).trans ((hFvy255 14 (by decide)).trans ((hFvy253 14 (by decide)).trans ((hFvy248 14 (by decide)).trans ((hFvy246 14 (by decide)).trans ((hFvy238 14 (by decide)).trans ((hFvy236 14 (by decide)).trans ((hFvy234 14 (by decide)).trans ((hFvy232 14 (by decide)).trans ((hFvy230 14 (by decide)).trans ((hFvy59 14 (by decide)).trans ((hFvy54 14 (by decide)).trans ((hFvy52 14 (by decide)).trans ((hFvy47 14 (by decide)).trans ((hFvy45 14 (by decide)).trans (fn ((hFvy28 14 (by decide)).trans (fn rfl (by decide))) (by decide))))))))))))))))))
        have hey386 : Fvy262 15 = F 15 := ((hFvy262 15 (by decide)).trans ((hFvy260 15 (by decide)).trans ((hFvy255 15 (by decide)).trans ((hFvy253 15 (by decide)).trans ((hFvy248 15 (by decide)).trans ((hFvy246 15 (by decide)).trans ((hFvy238 15 (by decide)).trans ((hFvy236 15 (by decide)).trans ((hFvy234 15 (by decide)).trans ((hFvy232 15 (by decide)).trans ((hFvy230 15 (by decide)).trans ((hFvy59 15 (by decide)).trans ((hFvy54 15 (by decide)).trans ((hFvy52 15 (by decide)).trans ((hFvy47 15 (by decide)).trans ((hFvy45 15 (by decide)).trans (fn ((hFvy28 15 (by decide)).trans (fn rfl (by decide))) (by decide))))))))))))))))))
        have hey387 : Fvy262 16 = F 16 := ((hFvy262 16 (by decide)).trans ((hFvy260 16 (by decide)).trans ((hFvy255 16 (by decide)).trans ((hFvy253 16 (by decide)).trans ((hFvy248 16 (by decide)).trans ((hFvy246 16 (by decide)).trans ((hFvy238 16 (by decide)).trans ((hFvy236 16 (by decide)).trans ((hFvy234 16 (by decide)).trans ((hFvy232 16 (by decide)).trans ((hFvy230 16 (by decide)).trans ((hFvy59 16 (by decide)).trans ((hFvy54 16 (by decide)).trans ((hFvy52 16 (by decide)).trans ((hFvy47 16 (by decide)).trans ((hFvy45 16 (by decide)).trans (fn ((hFvy28 16 (by decide)).trans (fn rfl (by decide))) (by decide))))))))))))))))))
        have hey388 : Fvy262 17 = F 17 := ((hFvy262 17 (by decide)).trans ((hFvy260 17 (by decide)).trans ((hFvy255 17 (by decide)).trans ((hFvy253 17 (by decide)).trans ((hFvy248 17 (by decide)).trans ((hFvy246 17 (by decide)).trans ((hFvy238 17 (by decide)).trans ((hFvy236 17 (by decide)).trans ((hFvy234 17 (by decide)).trans ((hFvy232 17 (by decide)).trans ((hFvy230 17 (by decide)).trans ((hFvy59 17 (by decide)).trans ((hFvy54 17 (by decide)).trans ((hFvy52 17 (by decide)).trans ((hFvy47 17 (by decide)).trans ((hFvy45 17 (by decide)).trans (fn ((hFvy28 17 (by decide)).trans (fn rfl (by decide))) (by decide))))))))))))))))))
        have hey389 : Fvy262 18 = F 18 := ((hFvy262 18 (by decide)).trans ((hFvy260 18 (by decide)).trans ((hFvy255 18 (by decide)).trans ((hFvy253 18 (by decide)).trans ((hFvy248 18 (by decide)).trans ((hFvy246 18 (by decide)).trans ((hFvy238 18 (by decide)).trans ((hFvy236 18 (by decide)).trans ((hFvy234 18 (by decide)).trans ((hFvy232 18 (by decide)).trans ((hFvy230 18 (by decide)).trans ((hFvy59 18 (by decide)).trans ((hFvy54 18 (by decide)).trans ((hFvy52 18 (by decide)).trans ((hFvy47 18 (by decide)).trans ((hFvy45 18 (by decide)).trans (fn ((hFvy28 18 (by decide)).trans (fn rfl (by decide))) (by decide))))))))))))))))))
        have hey390 : Fvy262 19 = F 19 := ((hFvy262 19 (by decide)).trans ((hFvy260 19 (by decide)).trans ((hFvy255 19 (by decide)).trans ((hFvy253 19 (by decide)).trans ((hFvy248 19 (by decide)).trans ((hFvy246 19 (by decide)).trans ((hFvy238 19 (by decide)).trans ((hFvy236 19 (by decide)).trans ((hFvy234 19 (by decide)).trans ((hFvy232 19 (by decide)).trans ((hFvy230 19 (by decide)).trans ((hFvy59 19 (by decide)).trans ((hFvy54 19 (by decide)).trans ((hFvy52 19 (by decide)).trans ((hFvy47 19 (by decide)).trans ((hFvy45 19 (by decide)).trans (fn ((hFvy28 19 (by decide)).trans (fn rfl (by decide))) (by decide))))))))))))))))))
        have hey391 : Fvy262 20 = F 20 := ((hFvy262 20 (by decide)).trans ((hFvy260 20 (by decide)).trans ((hFvy255 20 (by decide)).trans ((hFvy253 20 (by decide)).trans ((hFvy248 20 (by decide)).trans ((hFvy246 20 (by decide)).trans ((hFvy238 20 (by decide)).trans ((hFvy236 20 (by decide)).trans ((hFvy234 20 (by decide)).trans ((hFvy232 20 (by decide)).trans ((hFvy230 20 (by decide)).trans ((hFvy59 20 (by decide)).trans ((hFvy54 20 (by decide)).trans ((hFvy52 20 (by decide)).trans ((hFvy47 20 (by decide)).trans ((hFvy45 20 (by decide)).trans (fn ((hFvy28 20 (by decide)).trans (fn rfl (by decide))) (by decide))))))))))))))))))
        have hey392 : Fvy262 21 = F 21 := ((hFvy262 21 (by decide)).trans ((hFvy260 21 (by decide)).trans ((hFvy255 21 (by decide)).trans ((hFvy253 21 (by decide)).trans ((hFvy248 21 (by decide)).trans ((hFvy246 21 (by decide)).trans ((hFvy238 21 (by decide)).trans ((hFvy236 21 (by decide)).trans ((hFvy234 21 (by decide)).trans ((hFvy232 21 (by decide)).trans ((hFvy230 21 (by decide)).trans ((hFvy59 21 (by decide)).trans ((hFvy54 21 (by decide)).trans ((hFvy52 21 (by decide)).trans ((hFvy47 21 (by decide)).trans ((hFvy45 21 (by decide)).trans (fn ((hFvy28 21 (by decide)).trans (fn rfl (by decide))) (by decide))))))))))))))))))
        have hey393 : Fvy262 23 = F 23 := ((hFvy262 23 (by decide)).trans ((hFvy260 23 (by decide)).trans ((hFvy255 23 (by decide)).trans ((hFvy253 23 (by decide)).trans ((hFvy248 23 (by decide)).trans ((hFvy246 23 (by decide)).trans ((hFvy238 23 (by decide)).trans ((hFvy236 23 (by decide)).trans ((hFvy234 23 (by decide)).trans ((hFvy232 23 (by decide)).trans ((hFvy230 23 (by decide)).trans ((hFvy59 23 (by decide)).trans ((hFvy54 23 (by decide)).trans ((hFvy52 23 (by decide)).trans ((hFvy47 23 (by decide)).trans ((hFvy45 23 (by decide)).trans (fn ((hFvy28 23 (by decide)).trans (fn rfl (by decide))) (by decide))))))))))))))))))
        have hey394 : Fvy262 25 = F 25 := ((hFvy262 25 (by decide)).trans ((hFvy260 25 (by decide)).trans ((hFvy255 25 (by decide)).trans ((hFvy253 25 (by decide)).trans ((hFvy248 25 (by decide)).trans ((hFvy246 25 (by decide)).trans ((hFvy238 25 (by decide)).trans ((hFvy236 25 (by decide)).trans ((hFvy234 25 (by decide)).trans ((hFvy232 25 (by decide)).trans ((hFvy230 25 (by decide)).trans ((hFvy59 25 (by decide)).trans ((hFvy54 25 (by decide)).trans ((hFvy52 25 (by decide)).trans ((hFvy47 25 (by decide)).trans ((hFvy45 25 (by decide)).trans (fn ((hFvy28 25 (by decide)).trans (fn rfl (by decide))) (by decide))))))))))))))))))
        have hey395 : Fvy262 27 = F 27 := ((hFvy262 27 (by decide)).trans ((hFvy260 27 (by decide)).trans ((hFvy255 27 (by decide)).trans ((hFvy253 27 (by decide)).trans ((hFvy248 27 (by decide)).trans ((hFvy246 27 (by decide)).trans ((hFvy238 27 (by decide)).trans ((hFvy236 27 (by decide)).trans ((hFvy234 27 (by decide)).trans ((hFvy232 27 (by decide)).trans ((hFvy230 27 (by decide)).trans ((hFvy59 27 (by decide)).trans ((hFvy54 27 (by decide)).trans ((hFvy52 27 (by decide)).trans ((hFvy47 27 (by decide)).trans ((hFvy45 27 (by decide)).trans (fn ((hFvy28 27 (by decide)).trans (fn rfl (by decide))) (by decide))))))))))))))))))
        have hey396 : Fvy262 28 = F 28 := ((hFvy262 28 (by decide)).trans ((hFvy260 28 (by decide)).trans ((hFvy255 28 (by decide)).trans ((hFvy253 28 (by decide)).trans ((hFvy248 28 (by decide)).trans ((hFvy246 28 (by decide)).trans ((hFvy238 28 (by decide)).trans ((hFvy236 28 (by decide)).trans ((hFvy234 28 (by decide)).trans ((hFvy232 28 (by decide)).trans ((hFvy230 28 (by decide)).trans ((hFvy59 28 (by decide)).trans ((hFvy54 28 (by decide)).trans ((hFvy52 28 (by decide)).trans ((hFvy47 28 (by decide)).trans ((hFvy45 28 (by decide)).trans (fn ((hFvy28 28 (by decide)).trans (fn rfl (by decide))) (by decide))))))))))))))))))
        have hey397 : Fvy262 29 = F 29 := ((hFvy262 29 (by decide)).trans ((hFvy260 29 (by decide)).trans ((hFvy255 29 (by decide)).trans ((hFvy253 29 (by decide)).trans ((hFvy248 29 (by decide)).trans ((hFvy246 29 (by decide)).trans ((hFvy238 29 (by decide)).trans ((hFvy236 29 (by decide)).trans ((hFvy234 29 (by decide)).trans ((hFvy232 29 (by decide)).trans ((hFvy230 29 (by decide)).trans ((hFvy59 29 (by decide)).trans ((hFvy54 29 (by decide)).trans ((hFvy52 29 (by decide)).trans ((hFvy47 29 (by decide)).trans ((hFvy45 29 (by decide)).trans (fn ((hFvy28 29 (by decide)).trans (fn rfl (by decide))) (by decide))))))))))))))))))
        have hKy398 : okF Fvy262 := okF.mv hM.2.1 hey384 hey385 hey386 hey387 hey388 hey389 hey390 hey391 hey392 hey393 hey394 hey395 hey396 hey397
        have hMy399 : okMr cs ad gvy262 i (x + 1) Fvy262 r st op ai fa mu tb tp := okMr.upd hM hcvy262 hKy398 (fun f a => hFy383 f (by omega) (by omega)) hgy382 (hA.mono (by omega)) (fun j a b => by
            by_cases e0 : j = i + 24
            · exact Or.inr ⟨24, _, e0, lsP.l (by decide), by rw [e0]; exact htvy262⟩
            exact Or.inl (by rw [hfvy262 _ (by omega) (by omega)]; rw [hfvy260 _ (by omega) (by omega)]; rw [hfvy255 _ (by omega) (by omega)]; rw [hfvy253 _ (by omega) (by omega)]; rw [hfvy248 _ (by omega) (by omega)]; rw [hfvy246 _ (by omega) (by omega)]; rw [hfvy238 _ (by omega) (by omega)]; rw [hfvy236 _ (by omega) (by omega)]; rw [hfvy234 _ (by omega) (by omega)]; rw [hfvy232 _ (by omega) (by omega)]; rw [hfvy230 _ (by omega) (by omega)]; rw [hfvy59 _ (by omega) (by omega)]; rw [hfvy54 _ (by omega) (by omega)]; rw [hfvy52 _ (by omega) (by omega)]; rw [hfvy47 _ (by omega) (by omega)]; rw [hfvy45 _ (by omega) (by omega)]; rw [egy32, va_up_ne _ _ (by omega)]; rw [hfvy28 _ (by omega)]; rw [egy25, va_up_ne _ _ (by omega)]))
        have hkpy400 : Fvy262 13 = F 13 := ((hFvy262 13 (by decide)).trans ((hFvy260 13 (by decide)).trans ((hFvy255 13 (by decide)).trans ((hFvy253 13 (by decide)).trans ((hFvy248 13 (by decide)).trans ((hFvy246 13 (by decide)).trans ((hFvy238 13 (by decide)).trans ((hFvy236 13 (by decide)).trans ((hFvy234 13 (by decide)).trans ((hFvy232 13 (by decide)).trans ((hFvy230 13 (by decide)).trans ((hFvy59 13 (by decide)).trans ((hFvy54 13 (by decide)).trans ((hFvy52 13 (by decide)).trans ((hFvy47 13 (by decide)).trans ((hFvy45 13 (by decide)).trans (fn ((hFvy28 13 (by decide)).trans (fn rfl (by decide))) (by decide))))))))))))))))))
        have hkpy401 : Fvy262 14 = F 14 := ((hFvy262 14 (by decide)).trans ((hFvy260 14 (by decide)).trans ((hFvy255 14 (by decide)).trans ((hFvy253 14 (by decide)).trans ((hFvy248 14 (by decide)).trans ((hFvy246 14 (by decide)).trans ((hFvy238 14 (by decide)).trans ((hFvy236 14 (by decide)).trans ((hFvy234 14 (by decide)).trans ((hFvy232 14 (by decide)).trans ((hFvy230 14 (by decide)).trans ((hFvy59 14 (by decide)).trans ((hFvy54 14 (by decide)).trans ((hFvy52 14 (by decide)).trans ((hFvy47 14 (by decide)).trans ((hFvy45 14 (by decide)).trans (fn ((hFvy28 14 (by decide)).trans (fn rfl (by decide))) (by decide))))))))))))))))))
        have hkpy402 : Fvy262 15 = F 15 := ((hFvy262 15 (by decide)).trans ((hFvy260 15 (by decide)).trans ((hFvy255 15 (by decide)).trans ((hFvy253 15 (by decide)).trans ((hFvy248 15 (by decide)).trans ((hFvy246 15 (by decide)).trans ((hFvy238 15 (by decide)).trans ((hFvy236 15 (by decide)).trans ((hFvy234 15 (by decide)).trans ((hFvy232 15 (by decide)).trans ((hFvy230 15 (by decide)).trans ((hFvy59 15 (by decide)).trans ((hFvy54 15 (by decide)).trans ((hFvy52 15 (by decide)).trans ((hFvy47 15 (by decide)).trans ((hFvy45 15 (by decide)).trans (fn ((hFvy28 15 (by decide)).trans (fn rfl (by decide))) (by decide))))))))))))))))))
        have hkpy403 : Fvy262 16 = F 16 := ((hFvy262 16 (by decide)).trans ((hFvy260 16 (by decide)).trans ((hFvy255 16 (by decide)).trans ((hFvy253 16 (by decide)).trans ((hFvy248 16 (by decide)).trans ((hFvy246 16 (by decide)).trans ((hFvy238 16 (by decide)).trans ((hFvy236 16 (by decide)).trans ((hFvy234 16 (by decide)).trans ((hFvy232 16 (by decide)).trans ((hFvy230 16 (by decide)).trans ((hFvy59 16 (by decide)).trans ((hFvy54 16 (by decide)).trans ((hFvy52 16 (by decide)).trans ((hFvy47 16 (by decide)).trans ((hFvy45 16 (by decide)).trans (fn ((hFvy28 16 (by decide)).trans (fn rfl (by decide))) (by decide))))))))))))))))))
        have hkpy404 : Fvy262 17 = F 17 := ((hFvy262 17 (by decide)).trans ((hFvy260 17 (by decide)).trans ((hFvy255 17 (by decide)).trans ((hFvy253 17 (by decide)).trans ((hFvy248 17 (by decide)).trans ((hFvy246 17 (by decide)).trans ((hFvy238 17 (by decide)).trans ((hFvy236 17 (by decide)).trans ((hFvy234 17 (by decide)).trans ((hFvy232 17 (by decide)).trans ((hFvy230 17 (by decide)).trans ((hFvy59 17 (by decide)).trans ((hFvy54 17 (by decide)).trans ((hFvy52 17 (by decide)).trans ((hFvy47 17 (by decide)).trans ((hFvy45 17 (by decide)).trans (fn ((hFvy28 17 (by decide)).trans (fn rfl (by decide))) (by decide))))))))))))))))))
        have hkpy405 : Fvy262 18 = F 18 := ((hFvy262 18 (by decide)).trans ((hFvy260 18 (by decide)).trans ((hFvy255 18 (by decide)).trans ((hFvy253 18 (by decide)).trans ((hFvy248 18 (by decide)).trans ((hFvy246 18 (by decide)).trans ((hFvy238 18 (by decide)).trans ((hFvy236 18 (by decide)).trans ((hFvy234 18 (by decide)).trans ((hFvy232 18 (by decide)).trans ((hFvy230 18 (by decide)).trans ((hFvy59 18 (by decide)).trans ((hFvy54 18 (by decide)).trans ((hFvy52 18 (by decide)).trans ((hFvy47 18 (by decide)).trans ((hFvy45 18 (by decide)).trans (fn ((hFvy28 18 (by decide)).trans (fn rfl (by decide))) (by decide))))))))))))))))))
        have hkpy406 : Fvy262 19 = F 19 := ((hFvy262 19 (by decide)).trans ((hFvy260 19 (by decide)).trans ((hFvy255 19 (by decide)).trans ((hFvy253 19 (by decide)).trans ((hFvy248 19 (by decide)).trans ((hFvy246 19 (by decide)).trans ((hFvy238 19 (by decide)).trans ((hFvy236 19 (by decide)).trans ((hFvy234 19 (by decide)).trans ((hFvy232 19 (by decide)).trans ((hFvy230 19 (by decide)).trans ((hFvy59 19 (by decide)).trans ((hFvy54 19 (by decide)).trans ((hFvy52 19 (by decide)).trans ((hFvy47 19 (by decide)).trans ((hFvy45 19 (by decide)).trans (fn ((hFvy28 19 (by decide)).trans (fn rfl (by decide))) (by decide))))))))))))))))))
        have hkpy407 : Fvy262 20 = F 20 := ((hFvy262 20 (by decide)).trans ((hFvy260 20 (by decide)).trans ((hFvy255 20 (by decide)).trans ((hFvy253 20 (by decide)).trans ((hFvy248 20 (by decide)).trans ((hFvy246 20 (by decide)).trans ((hFvy238 20 (by decide)).trans ((hFvy236 20 (by decide)).trans ((hFvy234 20 (by decide)).trans ((hFvy232 20 (by decide)).trans ((hFvy230 20 (by decide)).trans ((hFvy59 20 (by decide)).trans ((hFvy54 20 (by decide)).trans ((hFvy52 20 (by decide)).trans ((hFvy47 20 (by decide)).trans ((hFvy45 20 (by decide)).trans (fn ((hFvy28 20 (by decide)).trans (fn rfl (by decide))) (by decide))))))))))))))))))
        have hkpy408 : Fvy262 21 = F 21 := ((hFvy262 21 (by decide)).trans ((hFvy260 21 (by decide)).trans ((hFvy255 21 (by decide)).trans ((hFvy253 21 (by decide)).trans ((hFvy248 21 (by decide)).trans ((hFvy246 21 (by decide)).trans ((hFvy238 21 (by decide)).trans ((hFvy236 21 (by decide)).trans ((hFvy234 21 (by decide)).trans ((hFvy232 21 (by decide)).trans ((hFvy230 21 (by decide)).trans ((hFvy59 21 (by decide)).trans ((hFvy54 21 (by decide)).trans ((hFvy52 21 (by decide)).trans ((hFvy47 21 (by decide)).trans ((hFvy45 21 (by decide)).trans (fn ((hFvy28 21 (by decide)).trans (fn rfl (by decide))) (by decide))))))))))))))))))
        have hkpy409 : Fvy262 23 = F 23 := ((hFvy262 23 (by decide)).trans ((hFvy260 23 (by decide)).trans ((hFvy255 23 (by decide)).trans ((hFvy253 23 (by decide)).trans ((hFvy248 23 (by decide)).trans ((hFvy246 23 (by decide)).trans ((hFvy238 23 (by decide)).trans ((hFvy236 23 (by decide)).trans ((hFvy234 23 (by decide)).trans ((hFvy232 23 (by decide)).trans ((hFvy230 23 (by decide)).trans ((hFvy59 23 (by decide)).trans ((hFvy54 23 (by decide)).trans ((hFvy52 23 (by decide)).trans ((hFvy47 23 (by decide)).trans ((hFvy45 23 (by decide)).trans (fn ((hFvy28 23 (by decide)).trans (fn rfl (by decide))) (by decide))))))))))))))))))
        have hkpy410 : Fvy262 24 = F 24 := ((hFvy262 24 (by decide)).trans ((hFvy260 24 (by decide)).trans ((hFvy255 24 (by decide)).trans ((hFvy253 24 (by decide)).trans ((hFvy248 24 (by decide)).trans ((hFvy246 24 (by decide)).trans ((hFvy238 24 (by decide)).trans ((hFvy236 24 (by decide)).trans ((hFvy234 24 (by decide)).trans ((hFvy232 24 (by decide)).trans ((hFvy230 24 (by decide)).trans ((hFvy59 24 (by decide)).trans ((hFvy54 24 (by decide)).trans ((hFvy52 24 (by decide)).trans ((hFvy47 24 (by decide)).trans ((hFvy45 24 (by decide)).trans (fn ((hFvy28 24 (by decide)).trans (fn rfl (by decide))) (by decide))))))))))))))))))
        have hkpy411 : Fvy262 25 = F 25 := ((hFvy262 25 (by decide)).trans ((hFvy260 25 (by decide)).trans ((hFvy255 25 (by decide)).trans ((hFvy253 25 (by decide)).trans ((hFvy248 25 (by decide)).trans ((hFvy246 25 (by decide)).trans ((hFvy238 25 (by decide)).trans ((hFvy236 25 (by decide)).trans ((hFvy234 25 (by decide)).trans ((hFvy232 25 (by decide)).trans ((hFvy230 25 (by decide)).trans ((hFvy59 25 (by decide)).trans ((hFvy54 25 (by decide)).trans ((hFvy52 25 (by decide)).trans ((hFvy47 25 (by decide)).trans ((hFvy45 25 (by decide)).trans (fn ((hFvy28 25 (by decide)).trans (fn rfl (by decide))) (by decide))))))))))))))))))
        have hkpy412 : Fvy262 26 = F 26 := ((hFvy262 26 (by decide)).trans ((hFvy260 26 (by decide)).trans ((hFvy255 26 (by decide)).trans ((hFvy253 26 (by decide)).trans ((hFvy248 26 (by decide)).trans ((hFvy246 26 (by decide)).trans ((hFvy238 26 (by decide)).trans ((hFvy236 26 (by decide)).trans ((hFvy234 26 (by decide)).trans ((hFvy232 26 (by decide)).trans ((hFvy230 26 (by decide)).trans ((hFvy59 26 (by decide)).trans ((hFvy54 26 (by decide)).trans ((hFvy52 26 (by decide)).trans ((hFvy47 26 (by decide)).trans ((hFvy45 26 (by decide)).trans (fn ((hFvy28 26 (by decide)).trans (fn rfl (by decide))) (by decide))))))))))))))))))
        have hkpy413 : Fvy262 27 = F 27 := ((hFvy262 27 (by decide)).trans ((hFvy260 27 (by decide)).trans ((hFvy255 27 (by decide)).trans ((hFvy253 27 (by decide)).trans ((hFvy248 27 (by decide)).trans ((hFvy246 27 (by decide)).trans ((hFvy238 27 (by decide)).trans ((hFvy236 27 (by decide)).trans ((hFvy234 27 (by decide)).trans ((hFvy232 27 (by decide)).trans ((hFvy230 27 (by decide)).trans ((hFvy59 27 (by decide)).trans ((hFvy54 27 (by decide)).trans ((hFvy52 27 (by decide)).trans ((hFvy47 27 (by decide)).trans ((hFvy45 27 (by decide)).trans (fn ((hFvy28 27 (by decide)).trans (fn rfl (by decide))) (by decide))))))))))))))))))
        have hkpy414 : Fvy262 29 = F 29 := ((hFvy262 29 (by decide)).trans ((hFvy260 29 (by decide)).trans ((hFvy255 29 (by decide)).trans ((hFvy253 29 (by decide)).trans ((hFvy248 29 (by decide)).trans ((hFvy246 29 (by decide)).trans ((hFvy238 29 (by decide)).trans ((hFvy236 29 (by decide)).trans ((hFvy234 29 (by decide)).trans ((hFvy232 29 (by decide)).trans ((hFvy230 29 (by decide)).trans ((hFvy59 29 (by decide)).trans ((hFvy54 29 (by decide)).trans ((hFvy52 29 (by decide)).trans ((hFvy47 29 (by decide)).trans ((hFvy45 29 (by decide)).trans (fn ((hFvy28 29 (by decide)).trans (fn rfl (by decide))) (by decide))))))))))))))))))
        exact z_iret C hr hlk dX10_told_180 (by decide) (by decide) ⟨Fvy260 51 + 1, rfl, rfl, rfl, by omega, ⟨_, _, hMy399, ⟨hkpy400, hkpy401, hkpy402, hkpy403, hkpy404, hkpy405, hkpy406, hkpy407, hkpy408, hkpy409, hkpy410⟩, ⟨(hkpy411.trans hp25), (hkpy412.trans hp26), (hkpy413.trans hp27), (hkpy414.trans hp29)⟩, (fun j _ => rfl)⟩, fun j j1 => by rw [hfvy262 _ (by omega) (by omega)]; rw [hfvy260 _ (by omega) (by omega)]; rw [hfvy255 _ (by omega) (by omega)]; rw [hfvy253 _ (by omega) (by omega)]; rw [hfvy248 _ (by omega) (by omega)]; rw [hfvy246 _ (by omega) (by omega)]; rw [hfvy238 _ (by omega) (by omega)]; rw [hfvy236 _ (by omega) (by omega)]; rw [hfvy234 _ (by omega) (by omega)]; rw [hfvy232 _ (by omega) (by omega)]; rw [hfvy230 _ (by omega) (by omega)]; rw [hfvy59 _ (by omega) (by omega)]; rw [hfvy54 _ (by omega) (by omega)]; rw [hfvy52 _ (by omega) (by omega)]; rw [hfvy47 _ (by omega) (by omega)]; rw [hfvy45 _ (by omega) (by omega)]; rw [egy32, va_up_ne _ _ (by omega)]; rw [hfvy28 _ (by omega)]; rw [egy25, va_up_ne _ _ (by omega)]⟩
  · refine z_if_ne (tgt := 16) C dX10_told_11 (by decide) (by omega) (fun h => absurd h (by omega)) (fun _ => ?_)
    refine z_iconst (z := 0) C dX10_told_14 rfl ?_
    have hgy415 := (hfvy28 (i + 1) (ne_o (i := i) (c := 1) (d := 0) rfl)).trans hgy27
    have hFy416 : ∀ f, f ≠ 12 → Fvy28 f = F f := fun f n12 => ((hFvy28 f n12).trans ((uZ_n _ _ n12).trans rfl))
    have hey417 : Fvy28 13 = F 13 := ((hFvy28 13 (by decide)).trans (fn rfl (by decide)))
    have hey418 : Fvy28 14 = F 14 := ((hFvy28 14 (by decide)).trans (fn rfl (by decide)))
    have hey419 : Fvy28 15 = F 15 := ((hFvy28 15 (by decide)).trans (fn rfl (by decide)))
    have hey420 : Fvy28 16 = F 16 := ((hFvy28 16 (by decide)).trans (fn rfl (by decide)))
    have hey421 : Fvy28 17 = F 17 := ((hFvy28 17 (by decide)).trans (fn rfl (by decide)))
    have hey422 : Fvy28 18 = F 18 := ((hFvy28 18 (by decide)).trans (fn rfl (by decide)))
    have hey423 : Fvy28 19 = F 19 := ((hFvy28 19 (by decide)).trans (fn rfl (by decide)))
    have hey424 : Fvy28 20 = F 20 := ((hFvy28 20 (by decide)).trans (fn rfl (by decide)))
    have hey425 : Fvy28 21 = F 21 := ((hFvy28 21 (by decide)).trans (fn rfl (by decide)))
    have hey426 : Fvy28 23 = F 23 := ((hFvy28 23 (by decide)).trans (fn rfl (by decide)))
    have hey427 : Fvy28 25 = F 25 := ((hFvy28 25 (by decide)).trans (fn rfl (by decide)))
    have hey428 : Fvy28 27 = F 27 := ((hFvy28 27 (by decide)).trans (fn rfl (by decide)))
    have hey429 : Fvy28 28 = F 28 := ((hFvy28 28 (by decide)).trans (fn rfl (by decide)))
    have hey430 : Fvy28 29 = F 29 := ((hFvy28 29 (by decide)).trans (fn rfl (by decide)))
    have hKy431 : okF Fvy28 := okF.mv hM.2.1 hey417 hey418 hey419 hey420 hey421 hey422 hey423 hey424 hey425 hey426 hey427 hey428 hey429 hey430
    have hMy432 : okMr cs ad gvy28 i (x + 1) Fvy28 r st op ai fa mu tb tp := okMr.upd hM hcvy28 hKy431 (fun f a => hFy416 f (by omega)) hgy415 (hA.mono (by omega)) (fun j a b => by
        exact Or.inl (by rw [hfvy28 _ (by omega)]; rw [egy25, va_up_ne _ _ (by omega)]))
    have hkpy433 : Fvy28 13 = F 13 := ((hFvy28 13 (by decide)).trans (fn rfl (by decide)))
    have hkpy434 : Fvy28 14 = F 14 := ((hFvy28 14 (by decide)).trans (fn rfl (by decide)))
    have hkpy435 : Fvy28 15 = F 15 := ((hFvy28 15 (by decide)).trans (fn rfl (by decide)))
    have hkpy436 : Fvy28 16 = F 16 := ((hFvy28 16 (by decide)).trans (fn rfl (by decide)))
    have hkpy437 : Fvy28 17 = F 17 := ((hFvy28 17 (by decide)).trans (fn rfl (by decide)))
    have hkpy438 : Fvy28 18 = F 18 := ((hFvy28 18 (by decide)).trans (fn rfl (by decide)))
    have hkpy439 : Fvy28 19 = F 19 := ((hFvy28 19 (by decide)).trans (fn rfl (by decide)))
    have hkpy440 : Fvy28 20 = F 20 := ((hFvy28 20 (by decide)).trans (fn rfl (by decide)))
    have hkpy441 : Fvy28 21 = F 21 := ((hFvy28 21 (by decide)).trans (fn rfl (by decide)))
    have hkpy442 : Fvy28 23 = F 23 := ((hFvy28 23 (by decide)).trans (fn rfl (by decide)))
    have hkpy443 : Fvy28 24 = F 24 := ((hFvy28 24 (by decide)).trans (fn rfl (by decide)))
    have hkpy444 : Fvy28 25 = F 25 := ((hFvy28 25 (by decide)).trans (fn rfl (by decide)))
    have hkpy445 : Fvy28 26 = F 26 := ((hFvy28 26 (by decide)).trans (fn rfl (by decide)))
    have hkpy446 : Fvy28 27 = F 27 := ((hFvy28 27 (by decide)).trans (fn rfl (by decide)))
    have hkpy447 : Fvy28 29 = F 29 := ((hFvy28 29 (by decide)).trans (fn rfl (by decide)))
    exact z_iret C hr hlk dX10_told_15 (by decide) (by decide) ⟨0, rfl, rfl, rfl, by omega, ⟨_, _, hMy432, ⟨hkpy433, hkpy434, hkpy435, hkpy436, hkpy437, hkpy438, hkpy439, hkpy440, hkpy441, hkpy442, hkpy443⟩, ⟨(hkpy444.trans hp25), (hkpy445.trans hp26), (hkpy446.trans hp27), (hkpy447.trans hp29)⟩, (fun j _ => rfl)⟩, fun j j1 => by rw [hfvy28 _ (by omega)]; rw [egy25, va_up_ne _ _ (by omega)]⟩

set_option maxRecDepth 100000 in
set_option maxHeartbeats 4000000 in
theorem c_X10_told_b (l : Launch) (D : va_G) (A : Nat → Prop) (cs : Nat → ClassId) (tt : Nat) (N : Nat) (ad : Nat → Nat) (g : Nat → va_E) (i : Nat) (hN : i + 30 ≤ N) (x : Int) (hx : 0 ≤ x ∧ x ≤ 512) (F r : Nat → Int) {st op ai fa mu tb tp : Nat → Int} (hM : okMr cs ad g i x F r st op ai fa mu tb tp) (hPl : F 25 = 0 ∧ F 26 = -1 ∧ F 27 = -1 ∧ F 29 = 0) (z : Int) (hz : -2147483648 ≤ z ∧ z ≤ 2147483647) (hzo : z < 0 ∨ 3 < z) (z1 : Int) (hz1 : -2147483648 ≤ z1 ∧ z1 ≤ 2147483647) (z2 : Int) (hz2 : -2147483648 ≤ z2 ∧ z2 ≤ 2147483647) : zM l yX10_told cX10_told 4 (some .int) ({ frames := 4, cells := 0, slots := 0, locals := 240 } : Room) D A cs tt N ad g [.ref (ad i), .int (zI (z)), .int (zI (z1)), .int (zI (z2))] (rI0 N ad fun q g' => (-2147483648 ≤ q ∧ q ≤ 2147483647) ∧ (∃ F' r' : Nat → Int, okMr cs ad g' i (x + 1) F' r' st op ai fa mu tb tp ∧ (F' 13 = F 13 ∧ F' 14 = F 14 ∧ F' 15 = F 15 ∧ F' 16 = F 16 ∧ F' 17 = F 17 ∧ F' 18 = F 18 ∧ F' 19 = F 19 ∧ F' 20 = F 20 ∧ F' 21 = F 21 ∧ F' 23 = F 23 ∧ F' 24 = F 24) ∧ (F' 25 = 0 ∧ F' 26 = -1 ∧ F' 27 = -1 ∧ F' 29 = 0) ∧ (∀ j, j < 350 ∨ 700 ≤ j → r' j = r j)) ∧ ∀ j, j < i ∨ i + 30 ≤ j ∨ (i + 8 ≤ j ∧ j ≤ i + 12) → g' j = g j) := by
  obtain ⟨hg, ⟨⟨e13, e14, e25, e27, e29⟩, k15, k16, k17, k18, k19, k20, k23, k21⟩, hRD, hTx, hA, ns, nh, nd, rf, pi, te, ki, li, ok1, ok2, fo, dd, dps, ⟨ha1, ha2, ha3, ha4, ha5, ha6, ha7, ha8, ha9, ha10, ha11, ha12, ha13, ha14, ha15, ha24, ha25, ha26, ha27, ha28, ha29⟩, hEv, hPt, hns, htp⟩ := id hM
  obtain ⟨-, hop, hai, hfa, hT, hT1⟩ := id hEv
  have hay1 : zAt ad (i) (ad i) := rfl
  have hay2 : zAt ad (i + 1) (ad (i + 1)) := rfl
  have hay3 : zAt ad (i + 2) (ad (i + 2)) := rfl
  have hay4 : zAt ad (i + 3) (ad (i + 3)) := rfl
  have hay5 : zAt ad (i + 4) (ad (i + 4)) := rfl
  have hay6 : zAt ad (i + 5) (ad (i + 5)) := rfl
  have hay7 : zAt ad (i + 6) (ad (i + 6)) := rfl
  have hay8 : zAt ad (i + 7) (ad (i + 7)) := rfl
  have hay9 : zAt ad (i + 8) (ad (i + 8)) := rfl
  have hay10 : zAt ad (i + 9) (ad (i + 9)) := rfl
  have hay11 : zAt ad (i + 10) (ad (i + 10)) := rfl
  have hay12 : zAt ad (i + 11) (ad (i + 11)) := rfl
  have hay13 : zAt ad (i + 12) (ad (i + 12)) := rfl
  have hay14 : zAt ad (i + 13) (ad (i + 13)) := rfl
  have hay15 : zAt ad (i + 14) (ad (i + 14)) := rfl
  have hay16 : zAt ad (i + 15) (ad (i + 15)) := rfl
  have hay17 : zAt ad (i + 24) (ad (i + 24)) := rfl
  have hay18 : zAt ad (i + 25) (ad (i + 25)) := rfl
  have hay19 : zAt ad (i + 26) (ad (i + 26)) := rfl
  have hay20 : zAt ad (i + 27) (ad (i + 27)) := rfl
  have hay21 : zAt ad (i + 28) (ad (i + 28)) := rfl
  have hay22 : zAt ad (i + 29) (ad (i + 29)) := rfl
  obtain ⟨⟨hsyy23, htyy23, hnyy23, hpyy23⟩, hlyy23⟩ := okA.at0 hA
  simp only [Nat.zero_add] at hsyy23 hnyy23 hpyy23
  have hmn : ∀ s, s < 4 → 0 ≤ r (6 + 86 * s) ∧ r (6 + 86 * s) ≤ 12 := fun s hs => (hsyy23 s hs).1
  have h5 : 0 ≤ r 5 ∧ r 5 ≤ 6 := hpyy23
  obtain ⟨hp25, hp26, hp27, hp29⟩ := id hPl
  refine z_of (by decide) (Nat.le_of_ble_eq_true rfl) ?_
  intro pZ eZ sZ mZ below meth cZ C hr hlk hnm
  refine z_lv (lv' := [(0, .ref (ad i)), (1, .int (zI (z))), (2, .int (zI (z1))), (3, .int (zI (z2)))]) [0, 1, 2, 3] rfl ?_
  refine z_aload_n C 0 dX10_told_0 rfl ?_
  refine z_iconst (z := 0) C dX10_told_1 rfl ?_
  refine z_put (fs' := mF ad (i) (uZ F 12 (0))) C (lt_A0 hN rfl) hay1 hg tyX10 tyX10_ok nmX10 rfl inA_X10 12 (by decide) q_1471 rfl rfl rfl rfl (Nat.le_of_ble_eq_true rfl) rfl dX10_told_2 (fun gy24 egy25 => ?_)
  have hgy26 := up_s egy25
  refine z_aload_n C 0 dX10_told_5 rfl ?_
  refine z_iload_n C 1 dX10_told_6 rfl ?_
  refine z_iload_n C 2 dX10_told_7 rfl ?_
  have hgy27 := up_n egy25 ha1 (ne_o (i := i) (c := 1) (d := 0) rfl)
  have h13vy28 : (uZ F 12 (0)) 13 = F 13 := (fn rfl (by decide))
  have hey29 : (uZ F 12 (0)) 12 = 0 := (uZ_s _ _ _)
  refine z_cV (As := [.int (zI (z)), .int (zI (z1))]) (rest := []) (ci := 12) C (c_X10_isLayer_b l D A cs tt N ad _ i hN _ hgy26 (by omega) (by omega) (z) (by omega) (by omega) (z1)) (lt_A0 hN rfl) hay1 hgy26 rfl rfl mv_yX10_isLayer q_1819 hd_yX10_isLayer (by decide) (Nat.le_of_ble_eq_true rfl) (by decide) dX10_told_8 rfl (kI0 fun vy28 gvy28 hvy28 => ?_)
  obtain ⟨rfl, ⟨Fvy28, hcvy28, htvy28, hFvy28⟩, hfvy28⟩ := hvy28
  refine z_if_ne (tgt := 16) C dX10_told_11 (by decide) (by omega) (fun h => absurd h (by omega)) (fun _ => ?_)
  refine z_iconst (z := 0) C dX10_told_14 rfl ?_
  have hgy30 := (hfvy28 (i + 1) (ne_o (i := i) (c := 1) (d := 0) rfl)).trans hgy27
  have hFy31 : ∀ f, f ≠ 12 → Fvy28 f = F f := fun f n12 => ((hFvy28 f n12).trans ((uZ_n _ _ n12).trans rfl))
  have hey32 : Fvy28 13 = F 13 := ((hFvy28 13 (by decide)).trans (fn rfl (by decide)))
  have hey33 : Fvy28 14 = F 14 := ((hFvy28 14 (by decide)).trans (fn rfl (by decide)))
  have hey34 : Fvy28 15 = F 15 := ((hFvy28 15 (by decide)).trans (fn rfl (by decide)))
  have hey35 : Fvy28 16 = F 16 := ((hFvy28 16 (by decide)).trans (fn rfl (by decide)))
  have hey36 : Fvy28 17 = F 17 := ((hFvy28 17 (by decide)).trans (fn rfl (by decide)))
  have hey37 : Fvy28 18 = F 18 := ((hFvy28 18 (by decide)).trans (fn rfl (by decide)))
  have hey38 : Fvy28 19 = F 19 := ((hFvy28 19 (by decide)).trans (fn rfl (by decide)))
  have hey39 : Fvy28 20 = F 20 := ((hFvy28 20 (by decide)).trans (fn rfl (by decide)))
  have hey40 : Fvy28 21 = F 21 := ((hFvy28 21 (by decide)).trans (fn rfl (by decide)))
  have hey41 : Fvy28 23 = F 23 := ((hFvy28 23 (by decide)).trans (fn rfl (by decide)))
  have hey42 : Fvy28 25 = F 25 := ((hFvy28 25 (by decide)).trans (fn rfl (by decide)))
  have hey43 : Fvy28 27 = F 27 := ((hFvy28 27 (by decide)).trans (fn rfl (by decide)))
  have hey44 : Fvy28 28 = F 28 := ((hFvy28 28 (by decide)).trans (fn rfl (by decide)))
  have hey45 : Fvy28 29 = F 29 := ((hFvy28 29 (by decide)).trans (fn rfl (by decide)))
  have hKy46 : okF Fvy28 := okF.mv hM.2.1 hey32 hey33 hey34 hey35 hey36 hey37 hey38 hey39 hey40 hey41 hey42 hey43 hey44 hey45
  have hMy47 : okMr cs ad gvy28 i (x + 1) Fvy28 r st op ai fa mu tb tp := okMr.upd hM hcvy28 hKy46 (fun f a => hFy31 f (by omega)) hgy30 (hA.mono (by omega)) (fun j a b => by
      exact Or.inl (by rw [hfvy28 _ (by omega)]; rw [egy25, va_up_ne _ _ (by omega)]))
  have hkpy48 : Fvy28 13 = F 13 := ((hFvy28 13 (by decide)).trans (fn rfl (by decide)))
  have hkpy49 : Fvy28 14 = F 14 := ((hFvy28 14 (by decide)).trans (fn rfl (by decide)))
  have hkpy50 : Fvy28 15 = F 15 := ((hFvy28 15 (by decide)).trans (fn rfl (by decide)))
  have hkpy51 : Fvy28 16 = F 16 := ((hFvy28 16 (by decide)).trans (fn rfl (by decide)))
  have hkpy52 : Fvy28 17 = F 17 := ((hFvy28 17 (by decide)).trans (fn rfl (by decide)))
  have hkpy53 : Fvy28 18 = F 18 := ((hFvy28 18 (by decide)).trans (fn rfl (by decide)))
  have hkpy54 : Fvy28 19 = F 19 := ((hFvy28 19 (by decide)).trans (fn rfl (by decide)))
  have hkpy55 : Fvy28 20 = F 20 := ((hFvy28 20 (by decide)).trans (fn rfl (by decide)))
  have hkpy56 : Fvy28 21 = F 21 := ((hFvy28 21 (by decide)).trans (fn rfl (by decide)))
  have hkpy57 : Fvy28 23 = F 23 := ((hFvy28 23 (by decide)).trans (fn rfl (by decide)))
  have hkpy58 : Fvy28 24 = F 24 := ((hFvy28 24 (by decide)).trans (fn rfl (by decide)))
  have hkpy59 : Fvy28 25 = F 25 := ((hFvy28 25 (by decide)).trans (fn rfl (by decide)))
  have hkpy60 : Fvy28 26 = F 26 := ((hFvy28 26 (by decide)).trans (fn rfl (by decide)))
  have hkpy61 : Fvy28 27 = F 27 := ((hFvy28 27 (by decide)).trans (fn rfl (by decide)))
  have hkpy62 : Fvy28 29 = F 29 := ((hFvy28 29 (by decide)).trans (fn rfl (by decide)))
  exact z_iret C hr hlk dX10_told_15 (by decide) (by decide) ⟨0, rfl, rfl, rfl, by omega, ⟨_, _, hMy47, ⟨hkpy48, hkpy49, hkpy50, hkpy51, hkpy52, hkpy53, hkpy54, hkpy55, hkpy56, hkpy57, hkpy58⟩, ⟨(hkpy59.trans hp25), (hkpy60.trans hp26), (hkpy61.trans hp27), (hkpy62.trans hp29)⟩, (fun j _ => rfl)⟩, fun j j1 => by rw [hfvy28 _ (by omega)]; rw [egy25, va_up_ne _ _ (by omega)]⟩

set_option maxRecDepth 100000 in
set_option maxHeartbeats 4000000 in
theorem c_X10_told (l : Launch) (D : va_G) (A : Nat → Prop) (cs : Nat → ClassId) (tt : Nat) (N : Nat) (ad : Nat → Nat) (g : Nat → va_E) (i : Nat) (hN : i + 30 ≤ N) (x : Int) (hx : 0 ≤ x ∧ x ≤ 512) (F r : Nat → Int) {st op ai fa mu tb tp : Nat → Int} (hM : okMr cs ad g i x F r st op ai fa mu tb tp) (hPl : F 25 = 0 ∧ F 26 = -1 ∧ F 27 = -1 ∧ F 29 = 0) (z : Int) (hz : -2147483648 ≤ z ∧ z ≤ 2147483647) (z1 : Int) (hz1 : -2147483648 ≤ z1 ∧ z1 ≤ 2147483647) (z2 : Int) (hz2 : -2147483648 ≤ z2 ∧ z2 ≤ 2147483647) : zM l yX10_told cX10_told 4 (some .int) ({ frames := 4, cells := 0, slots := 0, locals := 240 } : Room) D A cs tt N ad g [.ref (ad i), .int (zI (z)), .int (zI (z1)), .int (zI (z2))] (rI0 N ad fun q g' => (-2147483648 ≤ q ∧ q ≤ 2147483647) ∧ (∃ F' r' : Nat → Int, okMr cs ad g' i (x + 1) F' r' st op ai fa mu tb tp ∧ (F' 13 = F 13 ∧ F' 14 = F 14 ∧ F' 15 = F 15 ∧ F' 16 = F 16 ∧ F' 17 = F 17 ∧ F' 18 = F 18 ∧ F' 19 = F 19 ∧ F' 20 = F 20 ∧ F' 21 = F 21 ∧ F' 23 = F 23 ∧ F' 24 = F 24) ∧ (F' 25 = 0 ∧ F' 26 = -1 ∧ F' 27 = -1 ∧ F' 29 = 0) ∧ (∀ j, j < 350 ∨ 700 ≤ j → r' j = r j)) ∧ ∀ j, j < i ∨ i + 30 ≤ j ∨ (i + 8 ≤ j ∧ j ≤ i + 12) → g' j = g j) := by
  by_cases h9 : 0 ≤ z ∧ z ≤ 3
  · obtain ⟨n, rfl⟩ : ∃ n : Nat, z = (n : Int) := ⟨z.toNat, by omega⟩
    exact c_X10_told_a l D A cs tt N ad g i hN x hx F r hM hPl n (by omega) z1 hz1 z2 hz2
  · exact c_X10_told_b l D A cs tt N ad g i hN x hx F r hM hPl z hz (by omega) z1 hz1 z2 hz2
end
section
-- 9k1.phys.lean.txt
/-- ICE and WATER of a layer; of the first k; DEPTH of the first k -/
def mZ (C : Nat → Int) (l : Nat) : Int := C (7 * l + 1) + C (7 * l + 2)
def sZ (C : Nat → Int) : Nat → Int
  | 0 => 0
  | k + 1 => sZ C k + mZ C k
def dZ (C : Nat → Int) : Nat → Int
  | 0 => 0
  | k + 1 => dZ C k + C (7 * k + 3)
/-- a layer as it must be -/
def lyP (C : Nat → Int) (l : Nat) : Prop := (0 ≤ C (7 * l) ∧ C (7 * l) ≤ 4) ∧ 1 ≤ C (7 * l + 1) ∧ 0 ≤ C (7 * l + 2) ∧ 1 ≤ C (7 * l + 3) ∧ (-300 ≤ C (7 * l + 4) ∧ C (7 * l + 4) ≤ 0) ∧ (0 ≤ C (7 * l + 5) ∧ C (7 * l + 5) ≤ 100000) ∧ 0 ≤ C (7 * l + 6) ∧ C (7 * l + 6) ≤ 20000
/-- a slope as it must be -/
def okP (C : Nat → Int) (n : Nat) : Prop := n ≤ 12 ∧ (∀ l, l < n → lyP C l) ∧ sZ C n ≤ 138500 ∧ dZ C n ≤ 400000000
/-- between hours: no more ICE than DEPTH -/
def okX (C : Nat → Int) (n : Nat) : Prop := ∀ l, l < n → C (7 * l + 1) ≤ C (7 * l + 3) ∧ C (7 * l + 1) + C (7 * l + 2) ≤ C (7 * l + 3) + 26300
theorem sZ_b {C : Nat → Int} {n : Nat} (h : ∀ l, l < n → lyP C l) : ∀ k, k ≤ n → 0 ≤ sZ C k ∧ sZ C k ≤ sZ C n := by
  have hp : ∀ k, k ≤ n → 0 ≤ sZ C k := by
    intro k
    induction k with
    | zero => intro _; exact Int.le_refl 0
    | succ k ih =>
      intro hk
      have h1 := ih (by omega)
      obtain ⟨_, h2, h3, _⟩ := h k (by omega)
      show 0 ≤ sZ C k + (C (7 * k + 1) + C (7 * k + 2))
      omega
  have hm : ∀ m, m ≤ n → ∀ k, k ≤ m → sZ C k ≤ sZ C m := by
    intro m
    induction m with
    | zero => intro _ k hk; rw [show k = 0 by omega]; exact Int.le_refl _
    | succ m ih =>
      intro hm k hk
      by_cases e : k = m + 1
      · rw [e]; exact Int.le_refl _
      · have h1 := ih (by omega) k (by omega)
        obtain ⟨_, h2, h3, _⟩ := h m (by omega)
        show sZ C k ≤ sZ C m + (C (7 * m + 1) + C (7 * m + 2))
        omega
  exact fun k hk => ⟨hp k hk, hm n (Nat.le_refl _) k hk⟩
theorem dZ_b {C : Nat → Int} {n : Nat} (h : ∀ l, l < n → lyP C l) : ∀ k, k ≤ n → 0 ≤ dZ C k ∧ dZ C k ≤ dZ C n := by
  have hp : ∀ k, k ≤ n → 0 ≤ dZ C k := by
    intro k
    induction k with
    | zero => intro _; exact Int.le_refl 0
    | succ k ih =>
      intro hk
      have h1 := ih (by omega)
      obtain ⟨_, h2, h3, h4, _⟩ := h k (by omega)
      show 0 ≤ dZ C k + C (7 * k + 3)
      omega
  have hm : ∀ m, m ≤ n → ∀ k, k ≤ m → dZ C k ≤ dZ C m := by
    intro m
    induction m with
    | zero => intro _ k hk; rw [show k = 0 by omega]; exact Int.le_refl _
    | succ m ih =>
      intro hm k hk
      by_cases e : k = m + 1
      · rw [e]; exact Int.le_refl _
      · have h1 := ih (by omega) k (by omega)
        obtain ⟨_, h2, h3, h4, _⟩ := h m (by omega)
        show dZ C k ≤ dZ C m + C (7 * m + 3)
        omega
  exact fun k hk => ⟨hp k hk, hm n (Nat.le_refl _) k hk⟩
/-- of one layer: what omega wants -/
theorem okP.ly {C : Nat → Int} {n l : Nat} (h : okP C n) (hl : l < n) : ((0 ≤ C (7 * l) ∧ C (7 * l) ≤ 4) ∧ (1 ≤ C (7 * l + 1) ∧ C (7 * l + 1) ≤ 138500) ∧ (0 ≤ C (7 * l + 2) ∧ C (7 * l + 2) ≤ 138500) ∧ (1 ≤ C (7 * l + 3) ∧ C (7 * l + 3) ≤ 400000000) ∧ (-300 ≤ C (7 * l + 4) ∧ C (7 * l + 4) ≤ 0) ∧ (0 ≤ C (7 * l + 5) ∧ C (7 * l + 5) ≤ 100000) ∧ (0 ≤ C (7 * l + 6) ∧ C (7 * l + 6) ≤ 20000)) ∧ C (7 * l + 1) + C (7 * l + 2) ≤ 138500 := by
  obtain ⟨h1, h2, h3, h4⟩ := h
  have a := (sZ_b h2 l (by omega)).1
  have b := (sZ_b h2 (l + 1) (by omega)).2
  have c := (dZ_b h2 l (by omega)).1
  have d := (dZ_b h2 (l + 1) (by omega)).2
  have b2 : sZ C (l + 1) = sZ C l + (C (7 * l + 1) + C (7 * l + 2)) := rfl
  have d2 : dZ C (l + 1) = dZ C l + C (7 * l + 3) := rfl
  obtain ⟨q0, q1, q2, q3, q4, q5, q6⟩ := h2 l hl
  omega
/-- ICE and WATER above a layer -/
def abZ (C : Nat → Int) (n l : Nat) : Int := sZ C n - sZ C (l + 1)
theorem abZ_b {C : Nat → Int} {n l : Nat} (h : okP C n) (hl : l < n) : 0 ≤ abZ C n l ∧ abZ C n l ≤ 138500 := by
  have a := sZ_b h.2.1 (l + 1) (by omega)
  have b := h.2.2.1
  unfold abZ
  omega
theorem sZ_n {C : Nat → Int} {n : Nat} (h : okP C n) {k : Nat} (hk : k ≤ n) : 0 ≤ sZ C k ∧ sZ C k ≤ sZ C n ∧ sZ C n ≤ 138500 := ⟨(sZ_b h.2.1 k hk).1, (sZ_b h.2.1 k hk).2, h.2.2.1⟩
/-- the TABLE as it must be -/
def okTb (tb : Nat → Int) : Prop := (∀ k, k < 10 → 0 ≤ tb k ∧ tb k ≤ 99) ∧ ∀ k, 10 ≤ k → k < 15 → 1 ≤ tb k ∧ tb k ≤ 9999
/-- STRENGTH -/
def st0Z (tb C : Nat → Int) (l : Nat) : Int := (10 * tb (C (7 * l)).toNat * mZ C l).tdiv (C (7 * l + 3))
def stZ (tb C : Nat → Int) (l : Nat) : Int := if 3 * C (7 * l + 1) ≤ 100 * C (7 * l + 2) then (st0Z tb C l).tdiv 2 else st0Z tb C l
/-- BURDEN by what lies above; RATIO by the burden -/
def buZ (above steep : Int) : Int := (above * steep).tdiv 100
def raZ (tb C : Nat → Int) (l : Nat) (bu : Int) : Int := if bu ≤ 0 then 9999 else if 9999 ≤ (100 * stZ tb C l).tdiv bu then 9999 else (100 * stZ tb C l).tdiv bu
/-- RATIO of a layer with so much more above all, on so steep a slope -/
def rlZ (tb C : Nat → Int) (n : Nat) (more steep : Int) (l : Nat) : Int := raZ tb C l (buZ (abZ C n l + more) steep)
theorem tdq {a k q : Int} (hk : 1 ≤ k) (h1 : 0 ≤ a) (h2 : a < k * (q + 1)) : 0 ≤ a.tdiv k ∧ a.tdiv k ≤ q := by
  rw [Int.tdiv_eq_ediv_of_nonneg h1]
  have h3 : a / k < q + 1 := Int.ediv_lt_of_lt_mul (by omega) (by rw [Int.mul_comm]; exact h2)
  exact ⟨Int.ediv_nonneg h1 (by omega), by omega⟩
theorem st0Z_b {tb C : Nat → Int} {n l : Nat} (ht : okTb tb) (h : okP C n) (hl : l < n) : (0 ≤ 10 * tb (C (7 * l)).toNat * mZ C l ∧ 10 * tb (C (7 * l)).toNat * mZ C l ≤ 137115000) ∧ 0 ≤ st0Z tb C l ∧ st0Z tb C l ≤ 137115000 := by
  obtain ⟨⟨q0, q1, q2, q3, q4, q5, q6⟩, q9⟩ := h.ly hl
  have hs := ht.1 (C (7 * l)).toNat (by omega)
  generalize hT : tb (C (7 * l)).toNat = t at hs ⊢
  have hm : 0 ≤ mZ C l ∧ mZ C l ≤ 138500 := by unfold mZ; omega
  generalize hM : mZ C l = m at hm ⊢
  have e1 : 0 ≤ 10 * t * m := Int.mul_nonneg (by omega) hm.1
  have e2 : 10 * t * m ≤ 990 * 138500 := Int.le_trans (Int.mul_le_mul_of_nonneg_right (show 10 * t ≤ 990 by omega) hm.1) (Int.mul_le_mul_of_nonneg_left hm.2 (by decide))
  refine ⟨⟨e1, by omega⟩, ?_⟩
  unfold st0Z
  rw [hT, hM]
  have := tdq (a := 10 * t * m) (k := C (7 * l + 3)) (q := 137115000) (by omega) e1 (by
    have : C (7 * l + 3) * (137115000 + 1) ≥ 1 * (137115000 + 1) := Int.mul_le_mul_of_nonneg_right (by omega) (by decide)
    omega)
  exact this
theorem okP.mz {C : Nat → Int} {n l : Nat} (h : okP C n) (hl : l < n) : 0 ≤ mZ C l ∧ mZ C l ≤ 138500 := by
  have := h.ly hl
  unfold mZ
  omega
theorem stZ_b {tb C : Nat → Int} {n l : Nat} (ht : okTb tb) (h : okP C n) (hx : okX C n) (hl : l < n) : 0 ≤ stZ tb C l ∧ stZ tb C l ≤ 13018995 := by
  obtain ⟨⟨e1, e2⟩, e3, e4⟩ := st0Z_b ht h hl
  obtain ⟨⟨q0, q1, q2, q3, q4, q5, q6⟩, q9⟩ := h.ly hl
  obtain ⟨q7, q8⟩ := hx l hl
  have hs := ht.1 (C (7 * l)).toNat (by omega)
  have hm := h.mz hl
  have hM : mZ C l = C (7 * l + 1) + C (7 * l + 2) := rfl
  have e5 : 10 * tb (C (7 * l)).toNat * mZ C l ≤ 990 * mZ C l := Int.mul_le_mul_of_nonneg_right (by omega) hm.1
  unfold stZ
  by_cases e : 3 * C (7 * l + 1) ≤ 100 * C (7 * l + 2)
  · rw [if_pos e]
    have h1 : st0Z tb C l ≤ 26037990 := (tdq (q := 26037990) (by omega) e1 (by omega)).2
    exact tdq (by decide) e3 (by omega)
  · rw [if_neg e]
    have h1 : st0Z tb C l ≤ 1019 := (tdq (q := 1019) (by omega) e1 (by omega)).2
    omega
theorem buZ_b {a s : Int} (ha : 0 ≤ a ∧ a ≤ 200000) (hs : 0 ≤ s ∧ s ≤ 90) : (0 ≤ a * s ∧ a * s ≤ 18000000) ∧ 0 ≤ buZ a s ∧ buZ a s ≤ 180000 := by
  have e1 : 0 ≤ a * s := Int.mul_nonneg ha.1 hs.1
  have e2 : a * s ≤ 200000 * 90 := Int.le_trans (Int.mul_le_mul_of_nonneg_right ha.2 hs.1) (Int.mul_le_mul_of_nonneg_left hs.2 (by decide))
  refine ⟨⟨e1, by omega⟩, ?_⟩
  exact tdq (by decide) e1 (by omega)
theorem raZ_b {tb C : Nat → Int} {n l : Nat} (ht : okTb tb) (h : okP C n) (hx : okX C n) (hl : l < n) {bu : Int} (hb : bu ≤ 180000) : (0 < bu → 0 ≤ (100 * stZ tb C l).tdiv bu ∧ (100 * stZ tb C l).tdiv bu ≤ 1301899500) ∧ 0 ≤ raZ tb C l bu ∧ raZ tb C l bu ≤ 9999 := by
  have h1 := stZ_b ht h hx hl
  have h2 : 0 < bu → 0 ≤ (100 * stZ tb C l).tdiv bu ∧ (100 * stZ tb C l).tdiv bu ≤ 1301899500 := fun h9 => tdq (by omega) (by omega) (by
    have : 1 * (1301899500 + 1) ≤ bu * (1301899500 + 1) := Int.mul_le_mul_of_nonneg_right (by omega) (by decide)
    omega)
  refine ⟨h2, ?_⟩
  unfold raZ
  by_cases e : bu ≤ 0
  · rw [if_pos e]; omega
  · rw [if_neg e]
    have h3 := h2 (by omega)
    by_cases e2 : 9999 ≤ (100 * stZ tb C l).tdiv bu
    · rw [if_pos e2]; omega
    · rw [if_neg e2]; omega
/-- GRADE -/
def upG (C : Nat → Int) (n l : Nat) (air : Int) : Int := if l + 1 < n then C (7 * (l + 1) + 4) else if air < 0 then air else 0
def dnG (C : Nat → Int) (l : Nat) : Int := if l = 0 then 0 else C (7 * (l - 1) + 4)
def spZ (x : Int) : Int := if x < 0 then -x else x
def grZ (C : Nat → Int) (n l : Nat) (air : Int) : Int := (10 * spZ (upG C n l air - dnG C l)).tdiv (C (7 * l + 3))
/-- the WEAKEST: w, or none -/
def isWk (tb C : Nat → Int) (n : Nat) (more steep : Int) (w : Int) : Prop := (n = 0 ∧ w = -1) ∨ ∃ k : Nat, w = (k : Int) ∧ k < n ∧ (∀ l, l < n → rlZ tb C n more steep k ≤ rlZ tb C n more steep l) ∧ ∀ l, l < k → rlZ tb C n more steep k < rlZ tb C n more steep l
theorem isWk_u {tb C : Nat → Int} {n : Nat} {more steep w v : Int} (h1 : isWk tb C n more steep w) (h2 : isWk tb C n more steep v) : w = v := by
  rcases h1 with ⟨a, b⟩ | ⟨k, a, b, c, d⟩
  · rcases h2 with ⟨e, f⟩ | ⟨j, e, f, g, i⟩
    · omega
    · omega
  · rcases h2 with ⟨e, f⟩ | ⟨j, e, f, g, i⟩
    · omega
    · by_cases x : k < j
      · have := i k x
        have := c j f
        omega
      · by_cases y : j < k
        · have := d j y
          have := g k b
          omega
        · omega
/-- the WEAKEST of the layers from k up (from the top down) -/
def wkI (tb C : Nat → Int) (n : Nat) (more steep : Int) (k : Nat) (wh le : Int) : Prop := (k = n ∧ wh = -1 ∧ le = 9999) ∨ ∃ w : Nat, wh = (w : Int) ∧ k ≤ w ∧ w < n ∧ le = rlZ tb C n more steep w ∧ (∀ l, k ≤ l → l < n → rlZ tb C n more steep w ≤ rlZ tb C n more steep l) ∧ ∀ l, k ≤ l → l < w → rlZ tb C n more steep w < rlZ tb C n more steep l
theorem wkI.takes {tb C : Nat → Int} {n j : Nat} {more steep wh le v : Int} (h : wkI tb C n more steep (j + 1) wh le) (hj : j < n) (hv : v = rlZ tb C n more steep j) (hle : v ≤ le) : wkI tb C n more steep j (j : Int) v := by
  subst hv
  rcases h with ⟨a, b, c⟩ | ⟨w, a, b, c, d, x, y⟩
  · refine Or.inr ⟨j, rfl, Nat.le_refl _, hj, rfl, fun l h1 h2 => ?_, fun l h1 h2 => by omega⟩
    obtain rfl : l = j := by omega
    exact Int.le_refl _
  · refine Or.inr ⟨j, rfl, Nat.le_refl _, hj, rfl, fun l h1 h2 => ?_, fun l h1 h2 => by omega⟩
    by_cases e : l = j
    · rw [e]; exact Int.le_refl _
    · have := x l (by omega) h2
      omega
theorem wkI.keeps {tb C : Nat → Int} {n j : Nat} {more steep wh le v : Int} (h : wkI tb C n more steep (j + 1) wh le) (hv : v = rlZ tb C n more steep j) (h9 : v ≤ 9999) (hle : le < v) : wkI tb C n more steep j wh le := by
  subst hv
  rcases h with ⟨a, b, c⟩ | ⟨w, a, b, c, d, x, y⟩
  · omega
  · refine Or.inr ⟨w, a, by omega, c, d, fun l h1 h2 => ?_, fun l h1 h2 => ?_⟩
    · by_cases e : l = j
      · rw [e]; omega
      · exact x l (by omega) h2
    · by_cases e : l = j
      · rw [e]; omega
      · exact y l (by omega) h2
theorem wkI.done {tb C : Nat → Int} {n : Nat} {more steep wh le : Int} (h : wkI tb C n more steep 0 wh le) : isWk tb C n more steep wh := by
  rcases h with ⟨a, b, c⟩ | ⟨w, a, b, c, d, x, y⟩
  · exact Or.inl ⟨a.symm, b⟩
  · exact Or.inr ⟨w, a, c, fun l hl => x l (by omega) hl, fun l hl => y l (by omega) hl⟩
/-- the least RATIO -/
def isLr (tb C : Nat → Int) (n : Nat) (more steep : Int) (v : Int) : Prop := (n = 0 ∧ v = 9999) ∨ ∃ k : Nat, k < n ∧ v = rlZ tb C n more steep k ∧ ∀ l, l < n → rlZ tb C n more steep k ≤ rlZ tb C n more steep l
theorem isLr_u {tb C : Nat → Int} {n : Nat} {more steep w v : Int} (h1 : isLr tb C n more steep w) (h2 : isLr tb C n more steep v) : w = v := by
  rcases h1 with ⟨a, b⟩ | ⟨k, a, b, c⟩
  · rcases h2 with ⟨e, f⟩ | ⟨j, e, f, g⟩
    · omega
    · omega
  · rcases h2 with ⟨e, f⟩ | ⟨j, e, f, g⟩
    · omega
    · have := c j e
      have := g k a
      omega
theorem isWk.lr {tb C : Nat → Int} {n : Nat} {more steep w : Int} (h : isWk tb C n more steep w) : (w = -1 ∧ isLr tb C n more steep 9999) ∨ ∃ k : Nat, w = (k : Int) ∧ k < n ∧ isLr tb C n more steep (rlZ tb C n more steep k) := by
  rcases h with ⟨a, b⟩ | ⟨k, a, b, c, d⟩
  · exact Or.inl ⟨b, Or.inl ⟨a, rfl⟩⟩
  · exact Or.inr ⟨k, a, b, Or.inr ⟨k, b, rfl, c⟩⟩
/-- the lowest layer with a RATIO below 100, among those from k up -/
def isLu (tb C : Nat → Int) (n : Nat) (more steep : Int) (k : Nat) (w : Int) : Prop := (w = -1 ∧ ∀ l, k ≤ l → l < n → 100 ≤ rlZ tb C n more steep l) ∨ ∃ j : Nat, w = (j : Int) ∧ k ≤ j ∧ j < n ∧ rlZ tb C n more steep j < 100 ∧ ∀ l, k ≤ l → l < j → 100 ≤ rlZ tb C n more steep l
theorem isLu.takes {tb C : Nat → Int} {n j : Nat} {more steep v : Int} (hj : j < n) (hv : v = rlZ tb C n more steep j) (h9 : v < 100) : isLu tb C n more steep j (j : Int) := Or.inr ⟨j, rfl, Nat.le_refl _, hj, by omega, fun l a b => by omega⟩
theorem isLu.keeps {tb C : Nat → Int} {n j : Nat} {more steep w v : Int} (h : isLu tb C n more steep (j + 1) w) (hv : v = rlZ tb C n more steep j) (h9 : 100 ≤ v) : isLu tb C n more steep j w := by
  subst hv
  rcases h with ⟨a, b⟩ | ⟨k, a, b, c, d, x⟩
  · refine Or.inl ⟨a, fun l h1 h2 => ?_⟩
    by_cases e : l = j
    · rw [e]; exact h9
    · exact b l (by omega) h2
  · refine Or.inr ⟨k, a, by omega, c, d, fun l h1 h2 => ?_⟩
    by_cases e : l = j
    · rw [e]; exact h9
    · exact x l (by omega) h2
theorem isLu.unst {tb C : Nat → Int} {n : Nat} {more steep w v : Int} (h : isLu tb C n more steep 0 w) (h2 : isLr tb C n more steep v) : w ≠ -1 ↔ v < 100 := by
  rcases h with ⟨a, b⟩ | ⟨k, a, b, c, d, x⟩
  · rcases h2 with ⟨e, f⟩ | ⟨j, e, f, g⟩
    · omega
    · have := b j (by omega) e
      omega
  · rcases h2 with ⟨e, f⟩ | ⟨j, e, f, g⟩
    · omega
    · have := g k c
      omega
/-- ICE and WATER from the layer k up -/
def upZ (C : Nat → Int) (n k : Nat) : Int := sZ C n - sZ C k
theorem upZ_s {C : Nat → Int} {n j : Nat} {more al : Int} (h : al = upZ C n (j + 1) + more) : al = abZ C n j + more ∧ al + mZ C j = upZ C n j + more := by
  have e : sZ C (j + 1) = sZ C j + mZ C j := rfl
  unfold abZ upZ at *
  omega
theorem upZ_n (C : Nat → Int) (n : Nat) : upZ C n n = 0 := Int.sub_self _
theorem grZ_of {C : Nat → Int} {n l : Nat} {air up dn x : Int} (hu : (l + 1 < n ∧ up = C (7 * (l + 1) + 4)) ∨ (¬ l + 1 < n ∧ ((air < 0 ∧ up = air) ∨ (¬ air < 0 ∧ up = 0)))) (hd : (l = 0 ∧ dn = 0) ∨ (l ≠ 0 ∧ dn = C (7 * (l - 1) + 4))) (hx : (up - dn < 0 ∧ x = -(up - dn)) ∨ (¬ up - dn < 0 ∧ x = up - dn)) : (10 * x).tdiv (C (7 * l + 3)) = grZ C n l air := by
  have e1 : upG C n l air = up := by
    unfold upG
    rcases hu with ⟨a, b⟩ | ⟨a, ⟨b, c⟩ | ⟨b, c⟩⟩
    · rw [if_pos a, b]
    · rw [if_neg a, if_pos b, c]
    · rw [if_neg a, if_neg b, c]
  have e2 : dnG C l = dn := by
    unfold dnG
    rcases hd with ⟨a, b⟩ | ⟨a, b⟩
    · rw [if_pos a, b]
    · rw [if_neg a, b]
  unfold grZ spZ
  rw [e1, e2]
  rcases hx with ⟨a, b⟩ | ⟨a, b⟩
  · rw [if_pos a, b]
  · rw [if_neg a, b]
/-- KIND then -/
def nkZ (C : Nat → Int) (l : Nat) (gr : Int) : Int := if 0 < C (7 * l + 2) then (if C (7 * l) = 0 ∨ C (7 * l) = 2 ∨ C (7 * l) = 4 then 1 else C (7 * l)) else if 20 ≤ gr then (if C (7 * l) = 0 ∨ C (7 * l) = 1 then 2 else C (7 * l)) else if (C (7 * l) = 0 ∨ C (7 * l) = 2) ∧ 24 ≤ C (7 * l + 5) then 1 else C (7 * l)
end
section
-- 9k4.pq1.lean.txt
set_option maxRecDepth 100000 in
set_option maxHeartbeats 4000000 in
theorem c_pPart (l : Launch) (D : va_G) (A : Nat → Prop) (cs : Nat → ClassId) (tt : Nat) (N : Nat) (ad : Nat → Nat) (g : Nat → va_E) (a b : Int) (ha : -9223372036854775808 ≤ a ∧ a ≤ 9223372036854775807) (hb : 1 ≤ b ∧ b ≤ 2147483647) : zM l yX9_part cX9_part 4 (some .int) ({ frames := 1, cells := 0, slots := 0, locals := 60 } : Room) D A cs tt N ad g [.long (zJ (a)), .long (zJ (b))] (rI0 N ad fun q g' => q = a.tdiv b ∧ g = g') := by
  refine z_of (by decide) (Nat.le_of_ble_eq_true rfl) ?_
  intro p e s m below meth c C hr hlk hnm
  refine z_lv (lv' := [(0, .long (zJ (a))), (2, .long (zJ (b)))]) [0, 1] rfl ?_
  refine z_lload_n C 1 dX9_part_0 rfl ?_
  refine z_lconst (z := 0) C dX9_part_1 (by decide) ?_
  refine z_lcmp C dX9_part_2 (by omega) (by omega) ?_
  have hczr := cmpZ_r (a := b) (b := 0)
  refine z_if_ne (tgt := 10) C dX9_part_3 (by decide) (by omega) (fun hby1 => ?_) (fun hby1 => ?_)
  · have hcy2 : ¬ (b = 0) := fun e9 => hby1 (cmpZ_eq.mpr e9)
    refine z_lload_n C 0 dX9_part_10 rfl ?_
    refine z_lload_n C 1 dX9_part_11 rfl ?_
    refine z_ldiv C dX9_part_12 (by omega) (by omega) (by omega) ?_
    refine z_l2i C dX9_part_13 ?_
    exact z_iret C hr hlk dX9_part_14 (by decide) (by decide) ⟨_, rfl, rfl, rfl, rfl, rfl⟩
  · have hcy2 : b = 0 := cmpZ_eq.mp hby1
    refine z_iconst (z := 0) C dX9_part_6 rfl ?_
    refine z_goto (tgt := 14) C dX9_part_7 (by decide) ?_
    exfalso; omega

set_option maxRecDepth 100000 in
set_option maxHeartbeats 4000000 in
theorem c_pOf (l : Launch) (D : va_G) (A : Nat → Prop) (cs : Nat → ClassId) (tt : Nat) (N : Nat) (ad : Nat → Nat) (g : Nat → va_E) (b : Nat) (hNb : b + 7 ≤ N) (sl ho ua : Int) (st op ai fa mu tb : Nat → Int) (hb : isPlan cs ad g b sl ho ua st op ai fa mu tb) (z z1 : Int) (k : Nat) (hk : z + z1 = (k : Int)) (hk2 : k < 15) (hzz : 0 ≤ z ∧ z ≤ 10) (hz1 : 0 ≤ z1 ∧ z1 ≤ 4) : zM l yX5_of cX5_of 4 (some .int) ({ frames := 1, cells := 0, slots := 0, locals := 60 } : Room) D A cs tt N ad g [.ref (ad b), .int (zI (z)), .int (zI (z1))] (rI0 N ad fun q g' => q = tb k ∧ g = g') := by
  have hay1 : zAt ad (b) (ad b) := rfl
  have hay2 : zAt ad (b + 1) (ad (b + 1)) := rfl
  have hay3 : zAt ad (b + 2) (ad (b + 2)) := rfl
  have hay4 : zAt ad (b + 3) (ad (b + 3)) := rfl
  have hay5 : zAt ad (b + 4) (ad (b + 4)) := rfl
  have hay6 : zAt ad (b + 5) (ad (b + 5)) := rfl
  have hay7 : zAt ad (b + 6) (ad (b + 6)) := rfl
  refine z_of (by decide) (Nat.le_of_ble_eq_true rfl) ?_
  intro p e s m below meth c C hr hlk hnm
  refine z_lv (lv' := [(0, .ref (ad b)), (1, .int (zI (z))), (2, .int (zI (z1)))]) [0, 1, 2] rfl ?_
  refine z_iload_n C 1 dX5_of_0 rfl ?_
  refine z_iload_n C 2 dX5_of_1 rfl ?_
  refine z_iadd C dX5_of_2 ?_
  refine z_istore_n (lv' := [(3, .int (zI (z + z1))), (0, .ref (ad b)), (1, .int (zI (z))), (2, .int (zI (z1)))]) C dX5_of_3 rfl (by decide) rfl ?_
  refine z_iload_n C 0 dX5_of_4 rfl ?_
  refine z_if_lt (tgt := 26) C dX5_of_5 (by decide) (by omega) (fun h => absurd h (by omega)) (fun _ => ?_)
  refine z_iload_n C 0 dX5_of_8 rfl ?_
  refine z_aload_n C 1 dX5_of_9 rfl ?_
  refine z_get (v := .ref (ad (b + 6))) C (by omega) hay1 hb.1 rfl inA_X5 8 (by decide) q_113 rfl rfl dX5_of_10 ?_
  refine z_alen (z := 15) C (by omega) hay7 hb.2.2.2.2.2.2 1 rfl rfl dX5_of_13 ?_
  refine z_icmp_ge (tgt := 26) C dX5_of_14 (by decide) (by omega) (by omega) (fun h => absurd h (by omega)) (fun _ => ?_)
  refine z_aload_n C 1 dX5_of_17 rfl ?_
  refine z_get (v := .ref (ad (b + 6))) C (by omega) hay1 hb.1 rfl inA_X5 8 (by decide) q_113 rfl rfl dX5_of_18 ?_
  refine z_iload_n C 0 dX5_of_21 rfl ?_
  refine z_iald C (by omega) hay7 hb.2.2.2.2.2.2 (k) (by omega) (by omega) (by decide) dX5_of_22 ?_
  refine z_goto (tgt := 27) C dX5_of_23 (by decide) ?_
  exact z_iret C hr hlk dX5_of_27 (by decide) (by decide) ⟨_, rfl, rfl, rfl, rfl, rfl⟩

set_option maxRecDepth 100000 in
set_option maxHeartbeats 4000000 in
theorem c_pMass (l : Launch) (D : va_G) (A : Nat → Prop) (cs : Nat → ClassId) (tt : Nat) (N : Nat) (ad : Nat → Nat) (g : Nat → va_E) (a : Nat) (hN : a + 2 ≤ N) (sz ro : Int) (r : Nat → Int) (hz : 0 ≤ sz ∧ sz ≤ 12) (ha : isPack cs ad g a sz ro r) (n : Nat) (K : Nat → Int) (hn : sz = (n : Int)) (hC : ∀ j f, j < n → f < 7 → r (12 * f + j) = K (7 * j + f)) (hO : okP K n) (j : Nat) (hj : j < n) : zM l yX3_mass cX3_mass 2 (some .int) ({ frames := 1, cells := 0, slots := 0, locals := 60 } : Room) D A cs tt N ad g [.ref (ad a), .int (zI ((j : Int)))] (rI0 N ad fun q g' => q = mZ K j ∧ g = g') := by
  have hay1 : zAt ad (a) (ad a) := rfl
  have hay2 : zAt ad (a + 1) (ad (a + 1)) := rfl
  have hn12 := hO.1
  refine z_of (by decide) (Nat.le_of_ble_eq_true rfl) ?_
  intro p e s m below meth c C hr hlk hnm
  refine z_lv (lv' := [(0, .ref (ad a)), (1, .int (zI ((j : Int))))]) [0, 1] rfl ?_
  refine z_aload_n C 0 dX3_mass_0 rfl ?_
  refine z_get (v := .ref (ad (a + 1))) C (lt_A0 hN rfl) hay1 ha.1 rfl inA_X3 2 (by decide) q_162 rfl rfl dX3_mass_1 ?_
  refine z_bipush (z := 12) C dX3_mass_4 (by decide) ?_
  refine z_iload_n C 1 dX3_mass_6 rfl ?_
  refine z_iadd C dX3_mass_7 ?_
  refine z_iald C (lt_A (c := 1) hN rfl) hay2 ha.2 (12 + j) (by omega) (by omega) (by decide) dX3_mass_8 ?_
  obtain ⟨⟨qy30, qy31, qy32, qy33, qy34, qy35, qy36⟩, qy39⟩ := hO.ly (l := j) (by omega)
  rw [show r (12 + j) = K (7 * j + 1) from hC j 1 (by omega) (by decide)]
  refine z_aload_n C 0 dX3_mass_9 rfl ?_
  refine z_get (v := .ref (ad (a + 1))) C (lt_A0 hN rfl) hay1 ha.1 rfl inA_X3 2 (by decide) q_162 rfl rfl dX3_mass_10 ?_
  refine z_bipush (z := 24) C dX3_mass_13 (by decide) ?_
  refine z_iload_n C 1 dX3_mass_15 rfl ?_
  refine z_iadd C dX3_mass_16 ?_
  refine z_iald C (lt_A (c := 1) hN rfl) hay2 ha.2 (24 + j) (by omega) (by omega) (by decide) dX3_mass_17 ?_
  rw [show r (24 + j) = K (7 * j + 2) from hC j 2 (by omega) (by decide)]
  refine z_iadd C dX3_mass_18 ?_
  exact z_iret C hr hlk dX3_mass_19 (by decide) (by decide) ⟨_, rfl, rfl, rfl, rfl, rfl⟩

set_option maxRecDepth 100000 in
set_option maxHeartbeats 4000000 in
theorem c_pAbove (l : Launch) (D : va_G) (A : Nat → Prop) (cs : Nat → ClassId) (tt : Nat) (N : Nat) (ad : Nat → Nat) (g : Nat → va_E) (a : Nat) (hN : a + 2 ≤ N) (sz ro : Int) (r : Nat → Int) (hz : 0 ≤ sz ∧ sz ≤ 12) (ha : isPack cs ad g a sz ro r) (n : Nat) (K : Nat → Int) (hn : sz = (n : Int)) (hC : ∀ j f, j < n → f < 7 → r (12 * f + j) = K (7 * j + f)) (hO : okP K n) (j : Nat) (hj : j < n) : zM l yX3_massAbove cX3_massAbove 4 (some .int) ({ frames := 2, cells := 0, slots := 0, locals := 120 } : Room) D A cs tt N ad g [.ref (ad a), .int (zI ((j : Int)))] (rI0 N ad fun q g' => q = abZ K n j ∧ g = g') := by
  have hay1 : zAt ad (a) (ad a) := rfl
  have hay2 : zAt ad (a + 1) (ad (a + 1)) := rfl
  have hn12 := hO.1
  refine z_of (by decide) (Nat.le_of_ble_eq_true rfl) ?_
  intro p e s m below meth c C hr hlk hnm
  refine z_lv (lv' := [(0, .ref (ad a)), (1, .int (zI ((j : Int))))]) [0, 1] rfl ?_
  have lp : ∀ (n9 : Nat) (i : Int) (al : Int) (k : Nat) (g1 : Nat → va_E), (13 - i).toNat = n9 → (g1 = g) → (i = (k : Int)) → (j < k ∧ k ≤ n) → (al = sZ K k - sZ K (j + 1)) → zV p l e ({ frames := 2, cells := 0, slots := 0, locals := 120 } : Room) s m ([.ref (ad a), .int (zI ((j : Int)))] : List Value).toArray below meth c (MQ below (zPost D A (rI0 N ad fun q g' => q = abZ K n j ∧ g = g')) ([.ref (ad a), .int (zI ((j : Int)))] : List Value).toArray s ({ frames := 2, cells := 0, slots := 0, locals := 120 } : Room).cells ({ frames := 2, cells := 0, slots := 0, locals := 120 } : Room).slots A) D A 4 (N) ad g1 (0) (0) 6 [(3, .int (zI (i))), (2, .int (zI (al))), (0, .ref (ad a)), (1, .int (zI ((j : Int))))] [] := by
    intro n9
    induction n9 using Nat.strongRecOn with
    | ind n9 ih =>
      intro i al k g1 hm9 hgz hik hk hal
      subst hgz
      subst hik
      have hs9 := sZ_n hO (k := k) (by omega)
      have hs8 := sZ_n hO (k := j + 1) (by omega)
      refine z_iload_n C 0 dX3_massAbove_6 rfl ?_
      refine z_aload_n C 2 dX3_massAbove_7 rfl ?_
      refine z_get (v := .int (zI (sz))) C (lt_A0 hN rfl) hay1 ha.1 rfl inA_X3 0 (by decide) q_154 rfl rfl dX3_massAbove_8 ?_
      refine z_icmp_ge (tgt := 28) C dX3_massAbove_11 (by decide) (by omega) (by omega) (fun hby3 => ?_) (fun hby3 => ?_)
      · refine z_iload_n C 1 dX3_massAbove_28 rfl ?_
        have hkn : k = n := by omega
        subst hkn
        exact z_iret C hr hlk dX3_massAbove_29 (by decide) (by decide) ⟨al, rfl, rfl, rfl, by unfold abZ; omega, rfl⟩
      · refine z_iload_n C 1 dX3_massAbove_14 rfl ?_
        refine z_aload_n C 2 dX3_massAbove_15 rfl ?_
        refine z_iload_n C 0 dX3_massAbove_16 rfl ?_
        refine z_cV (As := [.int (zI ((k : Int)))]) (rest := [.int (zI (al))]) (ci := 5) C (c_pMass l D A cs tt N ad _ a hN _ _ _ hz ⟨ha.1, ha.2⟩ n K hn hC hO k (by omega)) (lt_A0 hN rfl) hay1 ha.1 rfl rfl mv_yX3_mass q_510 hd_yX3_mass (by decide) (Nat.le_of_ble_eq_true rfl) (by decide) dX3_massAbove_17 rfl (kI0 fun vy4 gvy4 hvy4 => ?_)
        obtain ⟨rfl, rfl⟩ := hvy4
        have hmy5 := hO.mz (l := k) (by omega)
        refine z_iadd C dX3_massAbove_20 ?_
        refine z_istore_n (lv' := [(2, .int (zI (al + (mZ K k)))), (3, .int (zI ((k : Int)))), (0, .ref (ad a)), (1, .int (zI ((j : Int))))]) C dX3_massAbove_21 rfl (by decide) rfl ?_
        refine z_iinc (z := (k : Int) + 1) (lv' := [(3, .int (zI ((k : Int) + 1))), (2, .int (zI (al + (mZ K k)))), (0, .ref (ad a)), (1, .int (zI ((j : Int))))]) (j := 1) C dX3_massAbove_22 rfl rfl (by decide) rfl ?_
        refine z_goto (tgt := 6) C dX3_massAbove_25 (by decide) ?_
        refine z_lv (lv' := [(3, .int (zI ((k : Int) + 1))), (2, .int (zI (al + (mZ K k)))), (0, .ref (ad a)), (1, .int (zI ((j : Int))))]) [0, 1, 2, 3] rfl ?_
        exact ih _ (by omega) ((k : Int) + 1) (al + (mZ K k)) (k + 1) _ rfl rfl (by omega) (by omega) (by have h9 : sZ K (k + 1) = sZ K k + mZ K k := rfl; omega)
  refine z_iconst (z := 0) C dX3_massAbove_0 rfl ?_
  refine z_istore_n (lv' := [(2, .int (zI (0))), (0, .ref (ad a)), (1, .int (zI ((j : Int))))]) C dX3_massAbove_1 rfl (by decide) rfl ?_
  refine z_iload_n C 2 dX3_massAbove_2 rfl ?_
  refine z_iconst (z := 1) C dX3_massAbove_3 rfl ?_
  refine z_iadd C dX3_massAbove_4 ?_
  refine z_istore_n (lv' := [(3, .int (zI (((j : Int)) + 1))), (2, .int (zI (0))), (0, .ref (ad a)), (1, .int (zI ((j : Int))))]) C dX3_massAbove_5 rfl (by decide) rfl ?_
  refine z_lv (lv' := [(3, .int (zI (((j : Int)) + 1))), (2, .int (zI (0))), (0, .ref (ad a)), (1, .int (zI ((j : Int))))]) [0, 1, 2, 3] rfl ?_
  exact lp _ (((j : Int)) + 1) (0) (j + 1) _ rfl rfl (by omega) (by omega) (by omega)

set_option maxRecDepth 100000 in
set_option maxHeartbeats 4000000 in
theorem c_pBurden (l : Launch) (D : va_G) (A : Nat → Prop) (cs : Nat → ClassId) (tt : Nat) (N : Nat) (ad : Nat → Nat) (g : Nat → va_E) (z z1 : Int) (hz : 0 ≤ z ∧ z ≤ 200000) (hz1 : 0 ≤ z1 ∧ z1 ≤ 90) : zM l yX9_burden cX9_burden 2 (some .int) ({ frames := 2, cells := 0, slots := 0, locals := 120 } : Room) D A cs tt N ad g [.int (zI (z)), .int (zI (z1))] (rI0 N ad fun q g' => q = buZ z z1 ∧ g = g') := by
  have hbb := buZ_b hz hz1
  refine z_of (by decide) (Nat.le_of_ble_eq_true rfl) ?_
  intro p e s m below meth c C hr hlk hnm
  refine z_lv (lv' := [(0, .int (zI (z))), (1, .int (zI (z1)))]) [0, 1] rfl ?_
  refine z_iload_n C 0 dX9_burden_0 rfl ?_
  refine z_i2l C dX9_burden_1 (by omega) ?_
  refine z_iload_n C 1 dX9_burden_2 rfl ?_
  refine z_i2l C dX9_burden_3 (by omega) ?_
  refine z_lmul C dX9_burden_4 ?_
  refine z_ldc2 (z := 100) C dX9_burden_5 q_571 (by decide) ?_
  refine z_cS (As := [.long (zJ (z * z1)), .long (zJ (100))]) (rest := []) C (c_pPart l D A cs tt N ad _ (z * z1) (100) (by omega) (by omega)) ms_yX9_part q_572 hd_yX9_part (by decide) (Nat.le_of_ble_eq_true rfl) (by decide) dX9_burden_8 rfl (kI0 fun vy1 gvy1 hvy1 => ?_)
  obtain ⟨rfl, rfl⟩ := hvy1
  exact z_iret C hr hlk dX9_burden_11 (by decide) (by decide) ⟨_, rfl, rfl, rfl, rfl, rfl⟩

set_option maxRecDepth 100000 in
set_option maxHeartbeats 4000000 in
theorem c_pStrength (l : Launch) (D : va_G) (A : Nat → Prop) (cs : Nat → ClassId) (tt : Nat) (N : Nat) (ad : Nat → Nat) (g : Nat → va_E) (a : Nat) (hN : a + 2 ≤ N) (sz ro : Int) (r : Nat → Int) (hz : 0 ≤ sz ∧ sz ≤ 12) (ha : isPack cs ad g a sz ro r) (n : Nat) (K : Nat → Int) (hn : sz = (n : Int)) (hC : ∀ j f, j < n → f < 7 → r (12 * f + j) = K (7 * j + f)) (hO : okP K n) (b : Nat) (hNb : b + 7 ≤ N) (sl ho ua : Int) (st op ai fa mu tb : Nat → Int) (hb : isPlan cs ad g b sl ho ua st op ai fa mu tb) (ht : okTb tb) (hX : okX K n) (j : Nat) (hj : j < n) : zM l yX3_strength cX3_strength 6 (some .int) ({ frames := 3, cells := 0, slots := 0, locals := 180 } : Room) D A cs tt N ad g [.ref (ad a), .int (zI ((j : Int))), .ref (ad b)] (rI0 N ad fun q g' => q = stZ tb K j ∧ g = g') := by
  have hay1 : zAt ad (a) (ad a) := rfl
  have hay2 : zAt ad (a + 1) (ad (a + 1)) := rfl
  have hay3 : zAt ad (b) (ad b) := rfl
  have hay4 : zAt ad (b + 1) (ad (b + 1)) := rfl
  have hay5 : zAt ad (b + 2) (ad (b + 2)) := rfl
  have hay6 : zAt ad (b + 3) (ad (b + 3)) := rfl
  have hay7 : zAt ad (b + 4) (ad (b + 4)) := rfl
  have hay8 : zAt ad (b + 5) (ad (b + 5)) := rfl
  have hay9 : zAt ad (b + 6) (ad (b + 6)) := rfl
  have hn12 := hO.1
  have hsb := st0Z_b ht hO hj
  have hMm := hO.mz hj
  refine z_of (by decide) (Nat.le_of_ble_eq_true rfl) ?_
  intro p e s m below meth c C hr hlk hnm
  refine z_lv (lv' := [(0, .ref (ad a)), (1, .int (zI ((j : Int)))), (2, .ref (ad b))]) [0, 1, 2] rfl ?_
  refine z_aload_n C 2 dX3_strength_0 rfl ?_
  refine z_iconst (z := 0) C dX3_strength_1 rfl ?_
  refine z_aload_n C 0 dX3_strength_2 rfl ?_
  refine z_get (v := .ref (ad (a + 1))) C (lt_A0 hN rfl) hay1 ha.1 rfl inA_X3 2 (by decide) q_162 rfl rfl dX3_strength_3 ?_
  refine z_iconst (z := 0) C dX3_strength_6 rfl ?_
  refine z_iload_n C 1 dX3_strength_7 rfl ?_
  refine z_iadd C dX3_strength_8 ?_
  refine z_iald C (lt_A (c := 1) hN rfl) hay2 ha.2 (0 + j) (by omega) (by omega) (by decide) dX3_strength_9 ?_
  obtain ⟨⟨qy100, qy101, qy102, qy103, qy104, qy105, qy106⟩, qy109⟩ := hO.ly (l := j) (by omega)
  rw [show r (0 + j) = K (7 * j) from hC j 0 (by omega) (by decide)]
  refine z_cV (As := [.int (zI (0)), .int (zI (K (7 * j)))]) (rest := []) (ci := 7) C (c_pOf l D A cs tt N ad _ (b) (by omega) _ _ _ _ _ _ _ _ _ ⟨hb.1, hb.2.1, hb.2.2.1, hb.2.2.2.1, hb.2.2.2.2.1, hb.2.2.2.2.2.1, hb.2.2.2.2.2.2⟩ (0) (K (7 * j)) (K (7 * j)).toNat (by omega) (by omega) (by omega) (by omega)) (by omega) hay3 hb.1 rfl rfl mv_yX5_of q_502 hd_yX5_of (by decide) (Nat.le_of_ble_eq_true rfl) (by decide) dX3_strength_10 rfl (kI0 fun vy11 gvy11 hvy11 => ?_)
  obtain ⟨rfl, rfl⟩ := hvy11
  have hty12 := ht.1 (K (7 * j)).toNat (by omega)
  refine z_istore_n (lv' := [(3, .int (zI (tb (K (7 * j)).toNat))), (0, .ref (ad a)), (1, .int (zI ((j : Int)))), (2, .ref (ad b))]) C dX3_strength_13 rfl (by decide) rfl ?_
  refine z_ldc2 (z := 10) C dX3_strength_14 q_525 (by decide) ?_
  refine z_iload_n C 0 dX3_strength_17 rfl ?_
  refine z_i2l C dX3_strength_18 (by omega) ?_
  refine z_lmul C dX3_strength_19 ?_
  refine z_aload_n C 1 dX3_strength_20 rfl ?_
  refine z_iload_n C 2 dX3_strength_21 rfl ?_
  refine z_cV (As := [.int (zI ((j : Int)))]) (rest := [.long (zJ (10 * (tb (K (7 * j)).toNat)))]) (ci := 5) C (c_pMass l D A cs tt N ad _ a hN _ _ _ hz ⟨ha.1, ha.2⟩ n K hn hC hO j (by omega)) (lt_A0 hN rfl) hay1 ha.1 rfl rfl mv_yX3_mass q_510 hd_yX3_mass (by decide) (Nat.le_of_ble_eq_true rfl) (by decide) dX3_strength_22 rfl (kI0 fun vy13 gvy13 hvy13 => ?_)
  obtain ⟨rfl, rfl⟩ := hvy13
  have hmy14 := hO.mz (l := j) (by omega)
  refine z_i2l C dX3_strength_25 (by omega) ?_
  refine z_lmul C dX3_strength_26 ?_
  refine z_aload_n C 1 dX3_strength_27 rfl ?_
  refine z_get (v := .ref (ad (a + 1))) C (lt_A0 hN rfl) hay1 ha.1 rfl inA_X3 2 (by decide) q_162 rfl rfl dX3_strength_28 ?_
  refine z_bipush (z := 36) C dX3_strength_31 (by decide) ?_
  refine z_iload_n C 2 dX3_strength_33 rfl ?_
  refine z_iadd C dX3_strength_34 ?_
  refine z_iald C (lt_A (c := 1) hN rfl) hay2 ha.2 (36 + j) (by omega) (by omega) (by decide) dX3_strength_35 ?_
  rw [show r (36 + j) = K (7 * j + 3) from hC j 3 (by omega) (by decide)]
  refine z_i2l C dX3_strength_36 (by omega) ?_
  refine z_cSN (As := [.long (zJ ((10 * (tb (K (7 * j)).toNat)) * (mZ K j))), .long (zJ (K (7 * j + 3)))]) (rest := []) C (c_pPart l D A cs tt N ad _ ((10 * (tb (K (7 * j)).toNat)) * (mZ K j)) (K (7 * j + 3)) (by omega) (by omega)) ms_yX9_part n_466 hd_yX9_part (by decide) (Nat.le_of_ble_eq_true rfl) (by decide) dX3_strength_37 rfl (kI0 fun vy15 gvy15 hvy15 => ?_)
  obtain ⟨rfl, rfl⟩ := hvy15
  rw [show ((10 * (tb (K (7 * j)).toNat)) * (mZ K j)).tdiv (K (7 * j + 3)) = st0Z tb K j from rfl]
  have htd2 := tdq (a := st0Z tb K j) (k := 2) (q := 137115000) (by decide) (by omega) (by omega)
  refine z_istore (lv' := [(4, .int (zI (st0Z tb K j))), (3, .int (zI (tb (K (7 * j)).toNat))), (0, .ref (ad a)), (1, .int (zI ((j : Int)))), (2, .ref (ad b))]) C dX3_strength_40 (by decide) rfl ?_
  refine z_ldc2 (z := 100) C dX3_strength_42 q_501 (by decide) ?_
  refine z_aload_n C 2 dX3_strength_45 rfl ?_
  refine z_get (v := .ref (ad (a + 1))) C (lt_A0 hN rfl) hay1 ha.1 rfl inA_X3 2 (by decide) q_162 rfl rfl dX3_strength_46 ?_
  refine z_bipush (z := 24) C dX3_strength_49 (by decide) ?_
  refine z_iload_n C 3 dX3_strength_51 rfl ?_
  refine z_iadd C dX3_strength_52 ?_
  refine z_iald C (lt_A (c := 1) hN rfl) hay2 ha.2 (24 + j) (by omega) (by omega) (by decide) dX3_strength_53 ?_
  rw [show r (24 + j) = K (7 * j + 2) from hC j 2 (by omega) (by decide)]
  refine z_i2l C dX3_strength_54 (by omega) ?_
  refine z_lmul C dX3_strength_55 ?_
  refine z_ldc2 (z := 3) C dX3_strength_56 q_581 (by decide) ?_
  refine z_aload_n C 2 dX3_strength_59 rfl ?_
  refine z_get (v := .ref (ad (a + 1))) C (lt_A0 hN rfl) hay1 ha.1 rfl inA_X3 2 (by decide) q_162 rfl rfl dX3_strength_60 ?_
  refine z_bipush (z := 12) C dX3_strength_63 (by decide) ?_
  refine z_iload_n C 3 dX3_strength_65 rfl ?_
  refine z_iadd C dX3_strength_66 ?_
  refine z_iald C (lt_A (c := 1) hN rfl) hay2 ha.2 (12 + j) (by omega) (by omega) (by decide) dX3_strength_67 ?_
  rw [show r (12 + j) = K (7 * j + 1) from hC j 1 (by omega) (by decide)]
  refine z_i2l C dX3_strength_68 (by omega) ?_
  refine z_lmul C dX3_strength_69 ?_
  refine z_lcmp C dX3_strength_70 (by omega) (by omega) ?_
  have hczr := cmpZ_r (a := 100 * (K (7 * j + 2))) (b := 3 * (K (7 * j + 1)))
  refine z_if_lt (tgt := 78) C dX3_strength_71 (by decide) (by omega) (fun hby16 => ?_) (fun hby16 => ?_)
  · have hcy17 : 100 * (K (7 * j + 2)) < 3 * (K (7 * j + 1)) := cmpZ_lt.mp hby16
    refine z_iconst (z := 0) C dX3_strength_78 rfl ?_
    refine z_istore (lv' := [(5, .int (zI (0))), (4, .int (zI (st0Z tb K j))), (3, .int (zI (tb (K (7 * j)).toNat))), (0, .ref (ad a)), (1, .int (zI ((j : Int)))), (2, .ref (ad b))]) C dX3_strength_79 (by decide) rfl ?_
    refine z_iload C 0 dX3_strength_81 rfl ?_
    refine z_if_eq (tgt := 93) C dX3_strength_83 (by decide) (by omega) (fun _ => ?_) (fun h => absurd h (by omega))
    refine z_iload C 1 dX3_strength_93 rfl ?_
    exact z_iret C hr hlk dX3_strength_95 (by decide) (by decide) ⟨st0Z tb K j, rfl, rfl, rfl, by unfold stZ; rw [if_neg (by omega)], rfl⟩
  · have hcy17 : ¬ (100 * (K (7 * j + 2)) < 3 * (K (7 * j + 1))) := fun e9 => hby16 (cmpZ_lt.mpr e9)
    refine z_iconst (z := 1) C dX3_strength_74 rfl ?_
    refine z_goto (tgt := 79) C dX3_strength_75 (by decide) ?_
    refine z_istore (lv' := [(5, .int (zI (1))), (4, .int (zI (st0Z tb K j))), (3, .int (zI (tb (K (7 * j)).toNat))), (0, .ref (ad a)), (1, .int (zI ((j : Int)))), (2, .ref (ad b))]) C dX3_strength_79 (by decide) rfl ?_
    refine z_iload C 0 dX3_strength_81 rfl ?_
    refine z_if_eq (tgt := 93) C dX3_strength_83 (by decide) (by omega) (fun h => absurd h (by omega)) (fun _ => ?_)
    refine z_iload C 1 dX3_strength_86 rfl ?_
    refine z_iconst (z := 2) C dX3_strength_88 rfl ?_
    refine z_idiv C dX3_strength_89 (by omega) (by omega) (by omega) ?_
    refine z_goto (tgt := 95) C dX3_strength_90 (by decide) ?_
    exact z_iret C hr hlk dX3_strength_95 (by decide) (by decide) ⟨(st0Z tb K j).tdiv 2, rfl, rfl, rfl, by unfold stZ; rw [if_pos (by omega)], rfl⟩
end
section
-- 9k7.pq2.lean.txt
set_option maxRecDepth 100000 in
set_option maxHeartbeats 4000000 in
theorem c_pRatio (l : Launch) (D : va_G) (A : Nat → Prop) (cs : Nat → ClassId) (tt : Nat) (N : Nat) (ad : Nat → Nat) (g : Nat → va_E) (a : Nat) (hN : a + 2 ≤ N) (sz ro : Int) (r : Nat → Int) (hz : 0 ≤ sz ∧ sz ≤ 12) (ha : isPack cs ad g a sz ro r) (n : Nat) (K : Nat → Int) (hn : sz = (n : Int)) (hC : ∀ j f, j < n → f < 7 → r (12 * f + j) = K (7 * j + f)) (hO : okP K n) (b : Nat) (hNb : b + 7 ≤ N) (sl ho ua : Int) (st op ai fa mu tb : Nat → Int) (hb : isPlan cs ad g b sl ho ua st op ai fa mu tb) (ht : okTb tb) (hX : okX K n) (j : Nat) (hj : j < n) (z : Int) (hz9 : 0 ≤ z ∧ z ≤ 180000) : zM l yX3_ratio cX3_ratio 4 (some .int) ({ frames := 4, cells := 0, slots := 0, locals := 240 } : Room) D A cs tt N ad g [.ref (ad a), .int (zI ((j : Int))), .int (zI (z)), .ref (ad b)] (rI0 N ad fun q g' => q = raZ tb K j z ∧ g = g') := by
  have hay1 : zAt ad (a) (ad a) := rfl
  have hay2 : zAt ad (a + 1) (ad (a + 1)) := rfl
  have hay3 : zAt ad (b) (ad b) := rfl
  have hay4 : zAt ad (b + 1) (ad (b + 1)) := rfl
  have hay5 : zAt ad (b + 2) (ad (b + 2)) := rfl
  have hay6 : zAt ad (b + 3) (ad (b + 3)) := rfl
  have hay7 : zAt ad (b + 4) (ad (b + 4)) := rfl
  have hay8 : zAt ad (b + 5) (ad (b + 5)) := rfl
  have hay9 : zAt ad (b + 6) (ad (b + 6)) := rfl
  have hn12 := hO.1
  have hrb := raZ_b ht hO hX hj (bu := z) (by omega)
  have hrb1 := hrb.1
  refine z_of (by decide) (Nat.le_of_ble_eq_true rfl) ?_
  intro p e s m below meth c C hr hlk hnm
  refine z_lv (lv' := [(0, .ref (ad a)), (1, .int (zI ((j : Int)))), (2, .int (zI (z))), (3, .ref (ad b))]) [0, 1, 2, 3] rfl ?_
  refine z_iload_n C 2 dX3_ratio_0 rfl ?_
  refine z_if_gt (tgt := 8) C dX3_ratio_1 (by decide) (by omega) (fun hby10 => ?_) (fun hby10 => ?_)
  · refine z_ldc2 (z := 100) C dX3_ratio_8 q_501 (by decide) ?_
    refine z_aload_n C 0 dX3_ratio_11 rfl ?_
    refine z_iload_n C 1 dX3_ratio_12 rfl ?_
    refine z_aload_n C 3 dX3_ratio_13 rfl ?_
    refine z_cV (As := [.int (zI ((j : Int))), .ref (ad b)]) (rest := [.long (zJ (100))]) (ci := 5) C (c_pStrength l D A cs tt N ad _ a hN _ _ _ hz ⟨ha.1, ha.2⟩ n K hn hC hO (b) (by omega) _ _ _ _ _ _ _ _ _ ⟨hb.1, hb.2.1, hb.2.2.1, hb.2.2.2.1, hb.2.2.2.2.1, hb.2.2.2.2.2.1, hb.2.2.2.2.2.2⟩ ht hX j (by omega)) (lt_A0 hN rfl) hay1 ha.1 rfl rfl mv_yX3_strength q_577 hd_yX3_strength (by decide) (Nat.le_of_ble_eq_true rfl) (by decide) dX3_ratio_14 rfl (kI0 fun vy11 gvy11 hvy11 => ?_)
    obtain ⟨rfl, rfl⟩ := hvy11
    have hsy12 := stZ_b ht hO hX (l := j) (by omega)
    refine z_i2l C dX3_ratio_17 (by omega) ?_
    refine z_lmul C dX3_ratio_18 ?_
    refine z_iload_n C 2 dX3_ratio_19 rfl ?_
    refine z_i2l C dX3_ratio_20 (by omega) ?_
    refine z_ldiv C dX3_ratio_21 (by omega) (by omega) (by omega) ?_
    refine z_ldc2 (z := 9999) C dX3_ratio_22 q_582 (by decide) ?_
    refine z_lminx C q_583 q_584 q_20 q_585 (by omega) (by omega) (by decide) (Nat.le_of_ble_eq_true rfl) (by decide) (by decide) dX3_ratio_25 ?_
    obtain ⟨xy13, exy14, hxy15⟩ := mm_min ((100 * (stZ tb K j)).tdiv z) (9999)
    rw [exy14]
    refine z_l2i C dX3_ratio_28 ?_
    exact z_iret C hr hlk dX3_ratio_29 (by decide) (by decide) ⟨xy13, rfl, rfl, rfl, by unfold raZ; rw [if_neg (by omega)]; split <;> omega, rfl⟩
  · refine z_sipush (z := 9999) C dX3_ratio_4 (by decide) ?_
    exact z_iret C hr hlk dX3_ratio_7 (by decide) (by decide) ⟨9999, rfl, rfl, rfl, by unfold raZ; rw [if_pos (by omega)], rfl⟩

set_option maxRecDepth 100000 in
set_option maxHeartbeats 4000000 in
theorem c_pWeakest (l : Launch) (D : va_G) (A : Nat → Prop) (cs : Nat → ClassId) (tt : Nat) (N : Nat) (ad : Nat → Nat) (g : Nat → va_E) (a : Nat) (hN : a + 2 ≤ N) (sz ro : Int) (r : Nat → Int) (hz : 0 ≤ sz ∧ sz ≤ 12) (ha : isPack cs ad g a sz ro r) (n : Nat) (K : Nat → Int) (hn : sz = (n : Int)) (hC : ∀ j f, j < n → f < 7 → r (12 * f + j) = K (7 * j + f)) (hO : okP K n) (b : Nat) (hNb : b + 7 ≤ N) (sl ho ua : Int) (st op ai fa mu tb : Nat → Int) (hb : isPlan cs ad g b sl ho ua st op ai fa mu tb) (ht : okTb tb) (hX : okX K n) (z : Int) (hz9 : 0 ≤ z ∧ z ≤ 90) : zM l yX3_weakest cX3_weakest 8 (some .int) ({ frames := 6, cells := 0, slots := 0, locals := 360 } : Room) D A cs tt N ad g [.ref (ad a), .int (zI (z)), .ref (ad b)] (rI0 N ad fun q g' => isWk tb K n 0 z q ∧ g = g') := by
  have hay1 : zAt ad (a) (ad a) := rfl
  have hay2 : zAt ad (a + 1) (ad (a + 1)) := rfl
  have hay3 : zAt ad (b) (ad b) := rfl
  have hay4 : zAt ad (b + 1) (ad (b + 1)) := rfl
  have hay5 : zAt ad (b + 2) (ad (b + 2)) := rfl
  have hay6 : zAt ad (b + 3) (ad (b + 3)) := rfl
  have hay7 : zAt ad (b + 4) (ad (b + 4)) := rfl
  have hay8 : zAt ad (b + 5) (ad (b + 5)) := rfl
  have hay9 : zAt ad (b + 6) (ad (b + 6)) := rfl
  have hn12 := hO.1
  refine z_of (by decide) (Nat.le_of_ble_eq_true rfl) ?_
  intro p e s m below meth c C hr hlk hnm
  refine z_lv (lv' := [(0, .ref (ad a)), (1, .int (zI (z))), (2, .ref (ad b))]) [0, 1, 2] rfl ?_
  have lp : ∀ (n9 : Nat) (i : Int) (wh : Int) (le : Int) (al : Int) (k : Nat) (g1 : Nat → va_E), (i + 1).toNat = n9 → (g1 = g) → (i = (k : Int) - 1) → (k ≤ n) → (al = upZ K n k + 0) → ((-1 ≤ wh ∧ wh ≤ 11) ∧ 0 ≤ le ∧ le ≤ 9999) → (wkI tb K n 0 z k wh le) → zV p l e ({ frames := 6, cells := 0, slots := 0, locals := 360 } : Room) s m ([.ref (ad a), .int (zI (z)), .ref (ad b)] : List Value).toArray below meth c (MQ below (zPost D A (rI0 N ad fun q g' => isWk tb K n 0 z q ∧ g = g')) ([.ref (ad a), .int (zI (z)), .ref (ad b)] : List Value).toArray s ({ frames := 6, cells := 0, slots := 0, locals := 360 } : Room).cells ({ frames := 6, cells := 0, slots := 0, locals := 360 } : Room).slots A) D A 8 (N) ad g1 (0) (0) 18 [(6, .int (zI (i))), (3, .int (zI (wh))), (4, .int (zI (le))), (5, .int (zI (al))), (0, .ref (ad a)), (1, .int (zI (z))), (2, .ref (ad b))] [] := by
    intro n9
    induction n9 using Nat.strongRecOn with
    | ind n9 ih =>
      intro i wh le al k g1 hm9 hgz hik hkn hal hwr hwk
      subst hgz
      have hup := sZ_n hO (k := k) (by omega)
      have hal0 : 0 ≤ al ∧ al ≤ 180000 := by unfold upZ at hal; omega
      by_cases hk0 : k = 0
      · subst hk0
        have hi0 : i = -1 := by omega
        refine z_iload C 0 dX3_weakest_18 rfl ?_
        refine z_if_lt (tgt := 69) C dX3_weakest_20 (by decide) (by omega) (fun _ => ?_) (fun h => absurd h (by omega))
        refine z_iload_n C 1 dX3_weakest_69 rfl ?_
        exact z_iret C hr hlk dX3_weakest_70 (by decide) (by decide) ⟨_, rfl, rfl, rfl, hwk.done, rfl⟩
      · obtain ⟨j, rfl⟩ : ∃ j, k = j + 1 := ⟨k - 1, by omega⟩
        obtain rfl : i = (j : Int) := by omega
        obtain ⟨hab, has⟩ := upZ_s hal
        refine z_iload C 0 dX3_weakest_18 rfl ?_
        refine z_if_lt (tgt := 69) C dX3_weakest_20 (by decide) (by omega) (fun h => absurd h (by omega)) (fun _ => ?_)
        refine z_aload_n C 4 dX3_weakest_23 rfl ?_
        refine z_iload C 0 dX3_weakest_24 rfl ?_
        refine z_iload C 3 dX3_weakest_26 rfl ?_
        refine z_iload_n C 5 dX3_weakest_28 rfl ?_
        refine z_cSN (As := [.int (zI (al)), .int (zI (z))]) (rest := [.int (zI ((j : Int))), .ref (ad a)]) C (c_pBurden l D A cs tt N ad _ (al) (z) (by omega) (by omega)) ms_yX9_burden n_568 hd_yX9_burden (by decide) (Nat.le_of_ble_eq_true rfl) (by decide) dX3_weakest_29 rfl (kI0 fun vy10 gvy10 hvy10 => ?_)
        obtain ⟨rfl, rfl⟩ := hvy10
        have hby11 := buZ_b (a := al) (s := z) (by omega) (by omega)
        refine z_aload_n C 6 dX3_weakest_32 rfl ?_
        refine z_cV (As := [.int (zI ((j : Int))), .int (zI (buZ (al) (z))), .ref (ad b)]) (rest := []) (ci := 5) C (c_pRatio l D A cs tt N ad _ a hN _ _ _ hz ⟨ha.1, ha.2⟩ n K hn hC hO (b) (by omega) _ _ _ _ _ _ _ _ _ ⟨hb.1, hb.2.1, hb.2.2.1, hb.2.2.2.1, hb.2.2.2.2.1, hb.2.2.2.2.2.1, hb.2.2.2.2.2.2⟩ ht hX j (by omega) (buZ (al) (z)) (by omega)) (lt_A0 hN rfl) hay1 ha.1 rfl rfl mv_yX3_ratio q_573 hd_yX3_ratio (by decide) (Nat.le_of_ble_eq_true rfl) (by decide) dX3_weakest_33 rfl (kI0 fun vy12 gvy12 hvy12 => ?_)
        obtain ⟨rfl, rfl⟩ := hvy12
        have hry13 := (raZ_b ht hO hX (l := j) (by omega) (bu := buZ (al) (z)) (by omega)).2
        refine z_istore (lv' := [(7, .int (zI (raZ tb K j (buZ (al) (z))))), (6, .int (zI ((j : Int)))), (3, .int (zI (wh))), (4, .int (zI (le))), (5, .int (zI (al))), (0, .ref (ad a)), (1, .int (zI (z))), (2, .ref (ad b))]) C dX3_weakest_36 (by decide) rfl ?_
        refine z_iload C 0 dX3_weakest_38 rfl ?_
        refine z_iload C 3 dX3_weakest_40 rfl ?_
        refine z_icmp_gt (tgt := 52) C dX3_weakest_42 (by decide) (by omega) (by omega) (fun hby14 => ?_) (fun hby14 => ?_)
        · refine z_iload C 4 dX3_weakest_52 rfl ?_
          refine z_aload_n C 5 dX3_weakest_54 rfl ?_
          refine z_iload C 1 dX3_weakest_55 rfl ?_
          refine z_cV (As := [.int (zI ((j : Int)))]) (rest := [.int (zI (al))]) (ci := 5) C (c_pMass l D A cs tt N ad _ a hN _ _ _ hz ⟨ha.1, ha.2⟩ n K hn hC hO j (by omega)) (lt_A0 hN rfl) hay1 ha.1 rfl rfl mv_yX3_mass q_510 hd_yX3_mass (by decide) (Nat.le_of_ble_eq_true rfl) (by decide) dX3_weakest_57 rfl (kI0 fun vy15 gvy15 hvy15 => ?_)
          obtain ⟨rfl, rfl⟩ := hvy15
          have hmy16 := hO.mz (l := j) (by omega)
          refine z_iadd C dX3_weakest_60 ?_
          refine z_istore (lv' := [(5, .int (zI (al + (mZ K j)))), (7, .int (zI (raZ tb K j (buZ (al) (z))))), (6, .int (zI ((j : Int)))), (3, .int (zI (wh))), (4, .int (zI (le))), (0, .ref (ad a)), (1, .int (zI (z))), (2, .ref (ad b))]) C dX3_weakest_61 (by decide) rfl ?_
          refine z_iinc (z := (j : Int) - 1) (lv' := [(6, .int (zI ((j : Int) - 1))), (5, .int (zI (al + (mZ K j)))), (7, .int (zI (raZ tb K j (buZ (al) (z))))), (3, .int (zI (wh))), (4, .int (zI (le))), (0, .ref (ad a)), (1, .int (zI (z))), (2, .ref (ad b))]) (j := 2) C dX3_weakest_63 rfl (congrArg zI (by omega)) (by decide) rfl ?_
          refine z_goto (tgt := 18) C dX3_weakest_66 (by decide) ?_
          refine z_lv (lv' := [(6, .int (zI ((j : Int) - 1))), (3, .int (zI (wh))), (4, .int (zI (le))), (5, .int (zI (al + (mZ K j)))), (0, .ref (ad a)), (1, .int (zI (z))), (2, .ref (ad b))]) [0, 3, 4, 1, 5, 6, 7] rfl ?_
          have hrl : raZ tb K j (buZ (al) (z)) = rlZ tb K n 0 z j := by unfold rlZ; rw [← hab]
          have hrb := (raZ_b ht hO hX (l := j) (by omega) (bu := buZ al z) ((buZ_b (a := al) (s := z) (by omega) (by omega)).2.2)).2
          exact ih _ (by omega) ((j : Int) - 1) (wh) (le) (al + (mZ K j)) j _ rfl rfl (by omega) (by omega) (by omega) (by omega) (hwk.keeps hrl (by omega) (by omega))
        · refine z_iload C 1 dX3_weakest_45 rfl ?_
          refine z_istore_n (lv' := [(3, .int (zI ((j : Int)))), (7, .int (zI (raZ tb K j (buZ (al) (z))))), (6, .int (zI ((j : Int)))), (4, .int (zI (le))), (5, .int (zI (al))), (0, .ref (ad a)), (1, .int (zI (z))), (2, .ref (ad b))]) C dX3_weakest_47 rfl (by decide) rfl ?_
          refine z_iload C 1 dX3_weakest_48 rfl ?_
          refine z_istore (lv' := [(4, .int (zI (raZ tb K j (buZ (al) (z))))), (3, .int (zI ((j : Int)))), (7, .int (zI (raZ tb K j (buZ (al) (z))))), (6, .int (zI ((j : Int)))), (5, .int (zI (al))), (0, .ref (ad a)), (1, .int (zI (z))), (2, .ref (ad b))]) C dX3_weakest_50 (by decide) rfl ?_
          refine z_iload C 4 dX3_weakest_52 rfl ?_
          refine z_aload_n C 5 dX3_weakest_54 rfl ?_
          refine z_iload C 3 dX3_weakest_55 rfl ?_
          refine z_cV (As := [.int (zI ((j : Int)))]) (rest := [.int (zI (al))]) (ci := 5) C (c_pMass l D A cs tt N ad _ a hN _ _ _ hz ⟨ha.1, ha.2⟩ n K hn hC hO j (by omega)) (lt_A0 hN rfl) hay1 ha.1 rfl rfl mv_yX3_mass q_510 hd_yX3_mass (by decide) (Nat.le_of_ble_eq_true rfl) (by decide) dX3_weakest_57 rfl (kI0 fun vy17 gvy17 hvy17 => ?_)
          obtain ⟨rfl, rfl⟩ := hvy17
          have hmy18 := hO.mz (l := j) (by omega)
          refine z_iadd C dX3_weakest_60 ?_
          refine z_istore (lv' := [(5, .int (zI (al + (mZ K j)))), (4, .int (zI (raZ tb K j (buZ (al) (z))))), (3, .int (zI ((j : Int)))), (7, .int (zI (raZ tb K j (buZ (al) (z))))), (6, .int (zI ((j : Int)))), (0, .ref (ad a)), (1, .int (zI (z))), (2, .ref (ad b))]) C dX3_weakest_61 (by decide) rfl ?_
          refine z_iinc (z := (j : Int) - 1) (lv' := [(6, .int (zI ((j : Int) - 1))), (5, .int (zI (al + (mZ K j)))), (4, .int (zI (raZ tb K j (buZ (al) (z))))), (3, .int (zI ((j : Int)))), (7, .int (zI (raZ tb K j (buZ (al) (z))))), (0, .ref (ad a)), (1, .int (zI (z))), (2, .ref (ad b))]) (j := 4) C dX3_weakest_63 rfl (congrArg zI (by omega)) (by decide) rfl ?_
          refine z_goto (tgt := 18) C dX3_weakest_66 (by decide) ?_
          refine z_lv (lv' := [(6, .int (zI ((j : Int) - 1))), (3, .int (zI ((j : Int)))), (4, .int (zI (raZ tb K j (buZ (al) (z))))), (5, .int (zI (al + (mZ K j)))), (0, .ref (ad a)), (1, .int (zI (z))), (2, .ref (ad b))]) [0, 3, 2, 1, 5, 6, 7] rfl ?_
          have hrl : raZ tb K j (buZ (al) (z)) = rlZ tb K n 0 z j := by unfold rlZ; rw [← hab]
          have hrb := (raZ_b ht hO hX (l := j) (by omega) (bu := buZ al z) ((buZ_b (a := al) (s := z) (by omega) (by omega)).2.2)).2
          exact ih _ (by omega) ((j : Int) - 1) ((j : Int)) (raZ tb K j (buZ (al) (z))) (al + (mZ K j)) j _ rfl rfl (by omega) (by omega) (by omega) (by omega) (hwk.takes (by omega) hrl (by omega))
  refine z_iconst (z := -1) C dX3_weakest_0 rfl ?_
  refine z_istore_n (lv' := [(3, .int (zI (-1))), (0, .ref (ad a)), (1, .int (zI (z))), (2, .ref (ad b))]) C dX3_weakest_1 rfl (by decide) rfl ?_
  refine z_sipush (z := 9999) C dX3_weakest_2 (by decide) ?_
  refine z_istore (lv' := [(4, .int (zI (9999))), (3, .int (zI (-1))), (0, .ref (ad a)), (1, .int (zI (z))), (2, .ref (ad b))]) C dX3_weakest_5 (by decide) rfl ?_
  refine z_iconst (z := 0) C dX3_weakest_7 rfl ?_
  refine z_istore (lv' := [(5, .int (zI (0))), (4, .int (zI (9999))), (3, .int (zI (-1))), (0, .ref (ad a)), (1, .int (zI (z))), (2, .ref (ad b))]) C dX3_weakest_8 (by decide) rfl ?_
  refine z_aload_n C 3 dX3_weakest_10 rfl ?_
  refine z_get (v := .int (zI (sz))) C (lt_A0 hN rfl) hay1 ha.1 rfl inA_X3 0 (by decide) q_154 rfl rfl dX3_weakest_11 ?_
  refine z_iconst (z := 1) C dX3_weakest_14 rfl ?_
  refine z_isub C dX3_weakest_15 ?_
  refine z_istore (lv' := [(6, .int (zI (sz - 1))), (5, .int (zI (0))), (4, .int (zI (9999))), (3, .int (zI (-1))), (0, .ref (ad a)), (1, .int (zI (z))), (2, .ref (ad b))]) C dX3_weakest_16 (by decide) rfl ?_
  refine z_lv (lv' := [(6, .int (zI (sz - 1))), (3, .int (zI (-1))), (4, .int (zI (9999))), (5, .int (zI (0))), (0, .ref (ad a)), (1, .int (zI (z))), (2, .ref (ad b))]) [0, 3, 2, 1, 4, 5, 6] rfl ?_
  exact lp _ (sz - 1) (-1) (9999) (0) n _ rfl rfl (by omega) (by omega) (by rw [upZ_n]; omega) (by omega) (Or.inl ⟨rfl, rfl, rfl⟩)

set_option maxRecDepth 100000 in
set_option maxHeartbeats 4000000 in
theorem c_pLu (l : Launch) (D : va_G) (A : Nat → Prop) (cs : Nat → ClassId) (tt : Nat) (N : Nat) (ad : Nat → Nat) (g : Nat → va_E) (a : Nat) (hN : a + 2 ≤ N) (sz ro : Int) (r : Nat → Int) (hz : 0 ≤ sz ∧ sz ≤ 12) (ha : isPack cs ad g a sz ro r) (n : Nat) (K : Nat → Int) (hn : sz = (n : Int)) (hC : ∀ j f, j < n → f < 7 → r (12 * f + j) = K (7 * j + f)) (hO : okP K n) (b : Nat) (hNb : b + 7 ≤ N) (sl ho ua : Int) (st op ai fa mu tb : Nat → Int) (hb : isPlan cs ad g b sl ho ua st op ai fa mu tb) (ht : okTb tb) (hX : okX K n) (z : Int) (hz9 : 0 ≤ z ∧ z ≤ 90) (z1 : Int) (hz1 : 0 ≤ z1 ∧ z1 ≤ 40000) : zM l yX3_lowestUnstable cX3_lowestUnstable 7 (some .int) ({ frames := 6, cells := 0, slots := 0, locals := 360 } : Room) D A cs tt N ad g [.ref (ad a), .int (zI (z)), .int (zI (z1)), .ref (ad b)] (rI0 N ad fun q g' => isLu tb K n z1 z 0 q ∧ g = g') := by
  have hay1 : zAt ad (a) (ad a) := rfl
  have hay2 : zAt ad (a + 1) (ad (a + 1)) := rfl
  have hay3 : zAt ad (b) (ad b) := rfl
  have hay4 : zAt ad (b + 1) (ad (b + 1)) := rfl
  have hay5 : zAt ad (b + 2) (ad (b + 2)) := rfl
  have hay6 : zAt ad (b + 3) (ad (b + 3)) := rfl
  have hay7 : zAt ad (b + 4) (ad (b + 4)) := rfl
  have hay8 : zAt ad (b + 5) (ad (b + 5)) := rfl
  have hay9 : zAt ad (b + 6) (ad (b + 6)) := rfl
  have hn12 := hO.1
  refine z_of (by decide) (Nat.le_of_ble_eq_true rfl) ?_
  intro p e s m below meth c C hr hlk hnm
  refine z_lv (lv' := [(0, .ref (ad a)), (1, .int (zI (z))), (2, .int (zI (z1))), (3, .ref (ad b))]) [0, 1, 2, 3] rfl ?_
  have lp : ∀ (n9 : Nat) (i : Int) (wh : Int) (al : Int) (k : Nat) (g1 : Nat → va_E), (i + 1).toNat = n9 → (g1 = g) → (i = (k : Int) - 1) → (k ≤ n) → (al = upZ K n k + z1) → (-1 ≤ wh ∧ wh ≤ 11) → (isLu tb K n z1 z k wh) → zV p l e ({ frames := 6, cells := 0, slots := 0, locals := 360 } : Room) s m ([.ref (ad a), .int (zI (z)), .int (zI (z1)), .ref (ad b)] : List Value).toArray below meth c (MQ below (zPost D A (rI0 N ad fun q g' => isLu tb K n z1 z 0 q ∧ g = g')) ([.ref (ad a), .int (zI (z)), .int (zI (z1)), .ref (ad b)] : List Value).toArray s ({ frames := 6, cells := 0, slots := 0, locals := 360 } : Room).cells ({ frames := 6, cells := 0, slots := 0, locals := 360 } : Room).slots A) D A 7 (N) ad g1 (0) (0) 14 [(6, .int (zI (i))), (4, .int (zI (wh))), (5, .int (zI (al))), (0, .ref (ad a)), (1, .int (zI (z))), (2, .int (zI (z1))), (3, .ref (ad b))] [] := by
    intro n9
    induction n9 using Nat.strongRecOn with
    | ind n9 ih =>
      intro i wh al k g1 hm9 hgz hik hkn hal hwr hwk
      subst hgz
      have hup := sZ_n hO (k := k) (by omega)
      have hal0 : 0 ≤ al ∧ al ≤ 180000 := by unfold upZ at hal; omega
      by_cases hk0 : k = 0
      · subst hk0
        have hi0 : i = -1 := by omega
        refine z_iload C 0 dX3_lowestUnstable_14 rfl ?_
        refine z_if_lt (tgt := 58) C dX3_lowestUnstable_16 (by decide) (by omega) (fun _ => ?_) (fun h => absurd h (by omega))
        refine z_iload C 1 dX3_lowestUnstable_58 rfl ?_
        exact z_iret C hr hlk dX3_lowestUnstable_60 (by decide) (by decide) ⟨_, rfl, rfl, rfl, hwk, rfl⟩
      · obtain ⟨j, rfl⟩ : ∃ j, k = j + 1 := ⟨k - 1, by omega⟩
        obtain rfl : i = (j : Int) := by omega
        obtain ⟨hab, has⟩ := upZ_s hal
        refine z_iload C 0 dX3_lowestUnstable_14 rfl ?_
        refine z_if_lt (tgt := 58) C dX3_lowestUnstable_16 (by decide) (by omega) (fun h => absurd h (by omega)) (fun _ => ?_)
        refine z_aload_n C 3 dX3_lowestUnstable_19 rfl ?_
        refine z_iload C 0 dX3_lowestUnstable_20 rfl ?_
        refine z_iload C 2 dX3_lowestUnstable_22 rfl ?_
        refine z_iload_n C 4 dX3_lowestUnstable_24 rfl ?_
        refine z_cSN (As := [.int (zI (al)), .int (zI (z))]) (rest := [.int (zI ((j : Int))), .ref (ad a)]) C (c_pBurden l D A cs tt N ad _ (al) (z) (by omega) (by omega)) ms_yX9_burden n_568 hd_yX9_burden (by decide) (Nat.le_of_ble_eq_true rfl) (by decide) dX3_lowestUnstable_25 rfl (kI0 fun vy10 gvy10 hvy10 => ?_)
        obtain ⟨rfl, rfl⟩ := hvy10
        have hby11 := buZ_b (a := al) (s := z) (by omega) (by omega)
        refine z_aload_n C 6 dX3_lowestUnstable_28 rfl ?_
        refine z_cV (As := [.int (zI ((j : Int))), .int (zI (buZ (al) (z))), .ref (ad b)]) (rest := []) (ci := 5) C (c_pRatio l D A cs tt N ad _ a hN _ _ _ hz ⟨ha.1, ha.2⟩ n K hn hC hO (b) (by omega) _ _ _ _ _ _ _ _ _ ⟨hb.1, hb.2.1, hb.2.2.1, hb.2.2.2.1, hb.2.2.2.2.1, hb.2.2.2.2.2.1, hb.2.2.2.2.2.2⟩ ht hX j (by omega) (buZ (al) (z)) (by omega)) (lt_A0 hN rfl) hay1 ha.1 rfl rfl mv_yX3_ratio q_573 hd_yX3_ratio (by decide) (Nat.le_of_ble_eq_true rfl) (by decide) dX3_lowestUnstable_29 rfl (kI0 fun vy12 gvy12 hvy12 => ?_)
        obtain ⟨rfl, rfl⟩ := hvy12
        have hry13 := (raZ_b ht hO hX (l := j) (by omega) (bu := buZ (al) (z)) (by omega)).2
        refine z_bipush (z := 100) C dX3_lowestUnstable_32 (by decide) ?_
        refine z_icmp_ge (tgt := 41) C dX3_lowestUnstable_34 (by decide) (by omega) (by omega) (fun hby14 => ?_) (fun hby14 => ?_)
        · refine z_iload C 2 dX3_lowestUnstable_41 rfl ?_
          refine z_aload_n C 3 dX3_lowestUnstable_43 rfl ?_
          refine z_iload C 0 dX3_lowestUnstable_44 rfl ?_
          refine z_cV (As := [.int (zI ((j : Int)))]) (rest := [.int (zI (al))]) (ci := 5) C (c_pMass l D A cs tt N ad _ a hN _ _ _ hz ⟨ha.1, ha.2⟩ n K hn hC hO j (by omega)) (lt_A0 hN rfl) hay1 ha.1 rfl rfl mv_yX3_mass q_510 hd_yX3_mass (by decide) (Nat.le_of_ble_eq_true rfl) (by decide) dX3_lowestUnstable_46 rfl (kI0 fun vy15 gvy15 hvy15 => ?_)
          obtain ⟨rfl, rfl⟩ := hvy15
          have hmy16 := hO.mz (l := j) (by omega)
          refine z_iadd C dX3_lowestUnstable_49 ?_
          refine z_istore (lv' := [(5, .int (zI (al + (mZ K j)))), (6, .int (zI ((j : Int)))), (4, .int (zI (wh))), (0, .ref (ad a)), (1, .int (zI (z))), (2, .int (zI (z1))), (3, .ref (ad b))]) C dX3_lowestUnstable_50 (by decide) rfl ?_
          refine z_iinc (z := (j : Int) - 1) (lv' := [(6, .int (zI ((j : Int) - 1))), (5, .int (zI (al + (mZ K j)))), (4, .int (zI (wh))), (0, .ref (ad a)), (1, .int (zI (z))), (2, .int (zI (z1))), (3, .ref (ad b))]) (j := 1) C dX3_lowestUnstable_52 rfl (congrArg zI (by omega)) (by decide) rfl ?_
          refine z_goto (tgt := 14) C dX3_lowestUnstable_55 (by decide) ?_
          refine z_lv (lv' := [(6, .int (zI ((j : Int) - 1))), (4, .int (zI (wh))), (5, .int (zI (al + (mZ K j)))), (0, .ref (ad a)), (1, .int (zI (z))), (2, .int (zI (z1))), (3, .ref (ad b))]) [0, 2, 1, 3, 4, 5, 6] rfl ?_
          have hrl : raZ tb K j (buZ (al) (z)) = rlZ tb K n z1 z j := by unfold rlZ; rw [← hab]
          exact ih _ (by omega) ((j : Int) - 1) (wh) (al + (mZ K j)) j _ rfl rfl (by omega) (by omega) (by omega) (by omega) (hwk.keeps hrl (by omega))
        · refine z_iload C 0 dX3_lowestUnstable_37 rfl ?_
          refine z_istore (lv' := [(4, .int (zI ((j : Int)))), (6, .int (zI ((j : Int)))), (5, .int (zI (al))), (0, .ref (ad a)), (1, .int (zI (z))), (2, .int (zI (z1))), (3, .ref (ad b))]) C dX3_lowestUnstable_39 (by decide) rfl ?_
          refine z_iload C 2 dX3_lowestUnstable_41 rfl ?_
          refine z_aload_n C 3 dX3_lowestUnstable_43 rfl ?_
          refine z_iload C 1 dX3_lowestUnstable_44 rfl ?_
          refine z_cV (As := [.int (zI ((j : Int)))]) (rest := [.int (zI (al))]) (ci := 5) C (c_pMass l D A cs tt N ad _ a hN _ _ _ hz ⟨ha.1, ha.2⟩ n K hn hC hO j (by omega)) (lt_A0 hN rfl) hay1 ha.1 rfl rfl mv_yX3_mass q_510 hd_yX3_mass (by decide) (Nat.le_of_ble_eq_true rfl) (by decide) dX3_lowestUnstable_46 rfl (kI0 fun vy17 gvy17 hvy17 => ?_)
          obtain ⟨rfl, rfl⟩ := hvy17
          have hmy18 := hO.mz (l := j) (by omega)
          refine z_iadd C dX3_lowestUnstable_49 ?_
          refine z_istore (lv' := [(5, .int (zI (al + (mZ K j)))), (4, .int (zI ((j : Int)))), (6, .int (zI ((j : Int)))), (0, .ref (ad a)), (1, .int (zI (z))), (2, .int (zI (z1))), (3, .ref (ad b))]) C dX3_lowestUnstable_50 (by decide) rfl ?_
          refine z_iinc (z := (j : Int) - 1) (lv' := [(6, .int (zI ((j : Int) - 1))), (5, .int (zI (al + (mZ K j)))), (4, .int (zI ((j : Int)))), (0, .ref (ad a)), (1, .int (zI (z))), (2, .int (zI (z1))), (3, .ref (ad b))]) (j := 2) C dX3_lowestUnstable_52 rfl (congrArg zI (by omega)) (by decide) rfl ?_
          refine z_goto (tgt := 14) C dX3_lowestUnstable_55 (by decide) ?_
          refine z_lv (lv' := [(6, .int (zI ((j : Int) - 1))), (4, .int (zI ((j : Int)))), (5, .int (zI (al + (mZ K j)))), (0, .ref (ad a)), (1, .int (zI (z))), (2, .int (zI (z1))), (3, .ref (ad b))]) [0, 2, 1, 3, 4, 5, 6] rfl ?_
          have hrl : raZ tb K j (buZ (al) (z)) = rlZ tb K n z1 z j := by unfold rlZ; rw [← hab]
          exact ih _ (by omega) ((j : Int) - 1) ((j : Int)) (al + (mZ K j)) j _ rfl rfl (by omega) (by omega) (by omega) (by omega) (isLu.takes (by omega) hrl (by omega))
  refine z_iconst (z := -1) C dX3_lowestUnstable_0 rfl ?_
  refine z_istore (lv' := [(4, .int (zI (-1))), (0, .ref (ad a)), (1, .int (zI (z))), (2, .int (zI (z1))), (3, .ref (ad b))]) C dX3_lowestUnstable_1 (by decide) rfl ?_
  refine z_iload_n C 3 dX3_lowestUnstable_3 rfl ?_
  refine z_istore (lv' := [(5, .int (zI (z1))), (4, .int (zI (-1))), (0, .ref (ad a)), (1, .int (zI (z))), (2, .int (zI (z1))), (3, .ref (ad b))]) C dX3_lowestUnstable_4 (by decide) rfl ?_
  refine z_aload_n C 2 dX3_lowestUnstable_6 rfl ?_
  refine z_get (v := .int (zI (sz))) C (lt_A0 hN rfl) hay1 ha.1 rfl inA_X3 0 (by decide) q_154 rfl rfl dX3_lowestUnstable_7 ?_
  refine z_iconst (z := 1) C dX3_lowestUnstable_10 rfl ?_
  refine z_isub C dX3_lowestUnstable_11 ?_
  refine z_istore (lv' := [(6, .int (zI (sz - 1))), (5, .int (zI (z1))), (4, .int (zI (-1))), (0, .ref (ad a)), (1, .int (zI (z))), (2, .int (zI (z1))), (3, .ref (ad b))]) C dX3_lowestUnstable_12 (by decide) rfl ?_
  refine z_lv (lv' := [(6, .int (zI (sz - 1))), (4, .int (zI (-1))), (5, .int (zI (z1))), (0, .ref (ad a)), (1, .int (zI (z))), (2, .int (zI (z1))), (3, .ref (ad b))]) [0, 2, 1, 3, 4, 5, 6] rfl ?_
  exact lp _ (sz - 1) (-1) (z1) n _ rfl rfl (by omega) (by omega) (by rw [upZ_n]; omega) (by omega) (Or.inl ⟨rfl, fun l9 a9 b9 => by omega⟩)

set_option maxRecDepth 100000 in
set_option maxHeartbeats 4000000 in
theorem c_pGrade (l : Launch) (D : va_G) (A : Nat → Prop) (cs : Nat → ClassId) (tt : Nat) (N : Nat) (ad : Nat → Nat) (g : Nat → va_E) (a : Nat) (hN : a + 2 ≤ N) (sz ro : Int) (r : Nat → Int) (hz : 0 ≤ sz ∧ sz ≤ 12) (ha : isPack cs ad g a sz ro r) (n : Nat) (K : Nat → Int) (hn : sz = (n : Int)) (hC : ∀ j f, j < n → f < 7 → r (12 * f + j) = K (7 * j + f)) (hO : okP K n) (j : Nat) (hj : j < n) (z : Int) (hz9 : -300 ≤ z ∧ z ≤ 100) : zM l yX3_grade cX3_grade 5 (some .int) ({ frames := 3, cells := 0, slots := 0, locals := 180 } : Room) D A cs tt N ad g [.ref (ad a), .int (zI ((j : Int))), .int (zI (z))] (rI0 N ad fun q g' => (q = grZ K n j z ∧ 0 ≤ q ∧ q ≤ 4000) ∧ g = g') := by
  have hay1 : zAt ad (a) (ad a) := rfl
  have hay2 : zAt ad (a + 1) (ad (a + 1)) := rfl
  have hn12 := hO.1
  refine z_of (by decide) (Nat.le_of_ble_eq_true rfl) ?_
  intro p e s m below meth c C hr hlk hnm
  refine z_lv (lv' := [(0, .ref (ad a)), (1, .int (zI ((j : Int)))), (2, .int (zI (z)))]) [0, 1, 2] rfl ?_
  refine z_iload_n C 1 dX3_grade_0 rfl ?_
  refine z_iconst (z := 1) C dX3_grade_1 rfl ?_
  refine z_iadd C dX3_grade_2 ?_
  refine z_aload_n C 0 dX3_grade_3 rfl ?_
  refine z_get (v := .int (zI (sz))) C (lt_A0 hN rfl) hay1 ha.1 rfl inA_X3 0 (by decide) q_154 rfl rfl dX3_grade_4 ?_
  refine z_icmp_ge (tgt := 24) C dX3_grade_7 (by decide) (by omega) (by omega) (fun hby3 => ?_) (fun hby3 => ?_)
  · refine z_iload_n C 2 dX3_grade_24 rfl ?_
    refine z_iconst (z := 0) C dX3_grade_25 rfl ?_
    refine z_mmin C q_483 q_473 q_20 q_474 (by omega) (by omega) (by decide) (Nat.le_of_ble_eq_true rfl) (by decide) (by decide) dX3_grade_26 ?_
    obtain ⟨xy4, exy5, hxy6⟩ := mm_min (z) (0)
    rw [exy5]
    refine z_istore_n (lv' := [(3, .int (zI (xy4))), (0, .ref (ad a)), (1, .int (zI ((j : Int)))), (2, .int (zI (z)))]) C dX3_grade_29 rfl (by decide) rfl ?_
    refine z_iload_n C 2 dX3_grade_30 rfl ?_
    refine z_if_le (tgt := 48) C dX3_grade_31 (by decide) (by omega) (fun hby7 => ?_) (fun hby7 => ?_)
    · refine z_iconst (z := 0) C dX3_grade_48 rfl ?_
      refine z_istore (lv' := [(4, .int (zI (0))), (3, .int (zI (xy4))), (0, .ref (ad a)), (1, .int (zI ((j : Int)))), (2, .int (zI (z)))]) C dX3_grade_49 (by decide) rfl ?_
      refine z_ldc2 (z := 10) C dX3_grade_51 q_525 (by decide) ?_
      refine z_iload_n C 1 dX3_grade_54 rfl ?_
      refine z_iload C 0 dX3_grade_55 rfl ?_
      refine z_isub C dX3_grade_57 ?_
      refine z_mabs C q_526 q_527 q_20 q_528 (by omega) (by decide) (Nat.le_of_ble_eq_true rfl) (by decide) (by decide) dX3_grade_58 ?_
      obtain ⟨xy8, exy9, hxy10⟩ := mm_abs (xy4 - 0)
      rw [exy9]
      refine z_i2l C dX3_grade_61 (by omega) ?_
      refine z_lmul C dX3_grade_62 ?_
      refine z_aload_n C 2 dX3_grade_63 rfl ?_
      refine z_get (v := .ref (ad (a + 1))) C (lt_A0 hN rfl) hay1 ha.1 rfl inA_X3 2 (by decide) q_162 rfl rfl dX3_grade_64 ?_
      refine z_bipush (z := 36) C dX3_grade_67 (by decide) ?_
      refine z_iload_n C 3 dX3_grade_69 rfl ?_
      refine z_iadd C dX3_grade_70 ?_
      refine z_iald C (lt_A (c := 1) hN rfl) hay2 ha.2 (36 + j) (by omega) (by omega) (by decide) dX3_grade_71 ?_
      obtain ⟨⟨qy110, qy111, qy112, qy113, qy114, qy115, qy116⟩, qy119⟩ := hO.ly (l := j) (by omega)
      rw [show r (36 + j) = K (7 * j + 3) from hC j 3 (by omega) (by decide)]
      refine z_i2l C dX3_grade_72 (by omega) ?_
      refine z_cSN (As := [.long (zJ (10 * xy8)), .long (zJ (K (7 * j + 3)))]) (rest := []) C (c_pPart l D A cs tt N ad _ (10 * xy8) (K (7 * j + 3)) (by omega) (by omega)) ms_yX9_part n_466 hd_yX9_part (by decide) (Nat.le_of_ble_eq_true rfl) (by decide) dX3_grade_73 rfl (kI0 fun vy12 gvy12 hvy12 => ?_)
      obtain ⟨rfl, rfl⟩ := hvy12
      have htq := tdq (a := 10 * xy8) (k := K (7 * j + 3)) (q := 4000) (by omega) (by omega) (by omega)
      exact z_iret C hr hlk dX3_grade_76 (by decide) (by decide) ⟨(10 * xy8).tdiv (K (7 * j + 3)), rfl, rfl, rfl, ⟨grZ_of (up := xy4) (dn := 0) (by omega) (by omega) (by omega), by omega, by omega⟩, rfl⟩
    · refine z_aload_n C 1 dX3_grade_34 rfl ?_
      refine z_get (v := .ref (ad (a + 1))) C (lt_A0 hN rfl) hay1 ha.1 rfl inA_X3 2 (by decide) q_162 rfl rfl dX3_grade_35 ?_
      refine z_bipush (z := 48) C dX3_grade_38 (by decide) ?_
      refine z_iload_n C 2 dX3_grade_40 rfl ?_
      refine z_iadd C dX3_grade_41 ?_
      refine z_iconst (z := 1) C dX3_grade_42 rfl ?_
      refine z_isub C dX3_grade_43 ?_
      refine z_iald C (lt_A (c := 1) hN rfl) hay2 ha.2 (48 + (j - 1)) (by omega) (by omega) (by decide) dX3_grade_44 ?_
      obtain ⟨⟨qy130, qy131, qy132, qy133, qy134, qy135, qy136⟩, qy139⟩ := hO.ly (l := (j - 1)) (by omega)
      rw [show r (48 + (j - 1)) = K (7 * (j - 1) + 4) from hC (j - 1) 4 (by omega) (by decide)]
      refine z_goto (tgt := 49) C dX3_grade_45 (by decide) ?_
      refine z_istore (lv' := [(4, .int (zI (K (7 * (j - 1) + 4)))), (3, .int (zI (xy4))), (0, .ref (ad a)), (1, .int (zI ((j : Int)))), (2, .int (zI (z)))]) C dX3_grade_49 (by decide) rfl ?_
      refine z_ldc2 (z := 10) C dX3_grade_51 q_525 (by decide) ?_
      refine z_iload_n C 1 dX3_grade_54 rfl ?_
      refine z_iload C 0 dX3_grade_55 rfl ?_
      refine z_isub C dX3_grade_57 ?_
      refine z_mabs C q_526 q_527 q_20 q_528 (by omega) (by decide) (Nat.le_of_ble_eq_true rfl) (by decide) (by decide) dX3_grade_58 ?_
      obtain ⟨xy14, exy15, hxy16⟩ := mm_abs (xy4 - (K (7 * (j - 1) + 4)))
      rw [exy15]
      refine z_i2l C dX3_grade_61 (by omega) ?_
      refine z_lmul C dX3_grade_62 ?_
      refine z_aload_n C 2 dX3_grade_63 rfl ?_
      refine z_get (v := .ref (ad (a + 1))) C (lt_A0 hN rfl) hay1 ha.1 rfl inA_X3 2 (by decide) q_162 rfl rfl dX3_grade_64 ?_
      refine z_bipush (z := 36) C dX3_grade_67 (by decide) ?_
      refine z_iload_n C 3 dX3_grade_69 rfl ?_
      refine z_iadd C dX3_grade_70 ?_
      refine z_iald C (lt_A (c := 1) hN rfl) hay2 ha.2 (36 + j) (by omega) (by omega) (by decide) dX3_grade_71 ?_
      obtain ⟨⟨qy170, qy171, qy172, qy173, qy174, qy175, qy176⟩, qy179⟩ := hO.ly (l := j) (by omega)
      rw [show r (36 + j) = K (7 * j + 3) from hC j 3 (by omega) (by decide)]
      refine z_i2l C dX3_grade_72 (by omega) ?_
      refine z_cSN (As := [.long (zJ (10 * xy14)), .long (zJ (K (7 * j + 3)))]) (rest := []) C (c_pPart l D A cs tt N ad _ (10 * xy14) (K (7 * j + 3)) (by omega) (by omega)) ms_yX9_part n_466 hd_yX9_part (by decide) (Nat.le_of_ble_eq_true rfl) (by decide) dX3_grade_73 rfl (kI0 fun vy18 gvy18 hvy18 => ?_)
      obtain ⟨rfl, rfl⟩ := hvy18
      have htq := tdq (a := 10 * xy14) (k := K (7 * j + 3)) (q := 4000) (by omega) (by omega) (by omega)
      exact z_iret C hr hlk dX3_grade_76 (by decide) (by decide) ⟨(10 * xy14).tdiv (K (7 * j + 3)), rfl, rfl, rfl, ⟨grZ_of (up := xy4) (dn := K (7 * (j - 1) + 4)) (by omega) (by omega) (by omega), by omega, by omega⟩, rfl⟩
  · refine z_aload_n C 0 dX3_grade_10 rfl ?_
    refine z_get (v := .ref (ad (a + 1))) C (lt_A0 hN rfl) hay1 ha.1 rfl inA_X3 2 (by decide) q_162 rfl rfl dX3_grade_11 ?_
    refine z_bipush (z := 48) C dX3_grade_14 (by decide) ?_
    refine z_iload_n C 1 dX3_grade_16 rfl ?_
    refine z_iadd C dX3_grade_17 ?_
    refine z_iconst (z := 1) C dX3_grade_18 rfl ?_
    refine z_iadd C dX3_grade_19 ?_
    refine z_iald C (lt_A (c := 1) hN rfl) hay2 ha.2 (48 + (j + 1)) (by omega) (by omega) (by decide) dX3_grade_20 ?_
    obtain ⟨⟨qy190, qy191, qy192, qy193, qy194, qy195, qy196⟩, qy199⟩ := hO.ly (l := (j + 1)) (by omega)
    rw [show r (48 + (j + 1)) = K (7 * (j + 1) + 4) from hC (j + 1) 4 (by omega) (by decide)]
    refine z_goto (tgt := 29) C dX3_grade_21 (by decide) ?_
    refine z_istore_n (lv' := [(3, .int (zI (K (7 * (j + 1) + 4)))), (0, .ref (ad a)), (1, .int (zI ((j : Int)))), (2, .int (zI (z)))]) C dX3_grade_29 rfl (by decide) rfl ?_
    refine z_iload_n C 2 dX3_grade_30 rfl ?_
    refine z_if_le (tgt := 48) C dX3_grade_31 (by decide) (by omega) (fun hby20 => ?_) (fun hby20 => ?_)
    · refine z_iconst (z := 0) C dX3_grade_48 rfl ?_
      refine z_istore (lv' := [(4, .int (zI (0))), (3, .int (zI (K (7 * (j + 1) + 4)))), (0, .ref (ad a)), (1, .int (zI ((j : Int)))), (2, .int (zI (z)))]) C dX3_grade_49 (by decide) rfl ?_
      refine z_ldc2 (z := 10) C dX3_grade_51 q_525 (by decide) ?_
      refine z_iload_n C 1 dX3_grade_54 rfl ?_
      refine z_iload C 0 dX3_grade_55 rfl ?_
      refine z_isub C dX3_grade_57 ?_
      refine z_mabs C q_526 q_527 q_20 q_528 (by omega) (by decide) (Nat.le_of_ble_eq_true rfl) (by decide) (by decide) dX3_grade_58 ?_
      obtain ⟨xy21, exy22, hxy23⟩ := mm_abs ((K (7 * (j + 1) + 4)) - 0)
      rw [exy22]
      refine z_i2l C dX3_grade_61 (by omega) ?_
      refine z_lmul C dX3_grade_62 ?_
      refine z_aload_n C 2 dX3_grade_63 rfl ?_
      refine z_get (v := .ref (ad (a + 1))) C (lt_A0 hN rfl) hay1 ha.1 rfl inA_X3 2 (by decide) q_162 rfl rfl dX3_grade_64 ?_
      refine z_bipush (z := 36) C dX3_grade_67 (by decide) ?_
      refine z_iload_n C 3 dX3_grade_69 rfl ?_
      refine z_iadd C dX3_grade_70 ?_
      refine z_iald C (lt_A (c := 1) hN rfl) hay2 ha.2 (36 + j) (by omega) (by omega) (by decide) dX3_grade_71 ?_
      obtain ⟨⟨qy240, qy241, qy242, qy243, qy244, qy245, qy246⟩, qy249⟩ := hO.ly (l := j) (by omega)
      rw [show r (36 + j) = K (7 * j + 3) from hC j 3 (by omega) (by decide)]
      refine z_i2l C dX3_grade_72 (by omega) ?_
      refine z_cSN (As := [.long (zJ (10 * xy21)), .long (zJ (K (7 * j + 3)))]) (rest := []) C (c_pPart l D A cs tt N ad _ (10 * xy21) (K (7 * j + 3)) (by omega) (by omega)) ms_yX9_part n_466 hd_yX9_part (by decide) (Nat.le_of_ble_eq_true rfl) (by decide) dX3_grade_73 rfl (kI0 fun vy25 gvy25 hvy25 => ?_)
      obtain ⟨rfl, rfl⟩ := hvy25
      have htq := tdq (a := 10 * xy21) (k := K (7 * j + 3)) (q := 4000) (by omega) (by omega) (by omega)
      exact z_iret C hr hlk dX3_grade_76 (by decide) (by decide) ⟨(10 * xy21).tdiv (K (7 * j + 3)), rfl, rfl, rfl, ⟨grZ_of (up := K (7 * (j + 1) + 4)) (dn := 0) (by omega) (by omega) (by omega), by omega, by omega⟩, rfl⟩
    · refine z_aload_n C 1 dX3_grade_34 rfl ?_
      refine z_get (v := .ref (ad (a + 1))) C (lt_A0 hN rfl) hay1 ha.1 rfl inA_X3 2 (by decide) q_162 rfl rfl dX3_grade_35 ?_
      refine z_bipush (z := 48) C dX3_grade_38 (by decide) ?_
      refine z_iload_n C 2 dX3_grade_40 rfl ?_
      refine z_iadd C dX3_grade_41 ?_
      refine z_iconst (z := 1) C dX3_grade_42 rfl ?_
      refine z_isub C dX3_grade_43 ?_
      refine z_iald C (lt_A (c := 1) hN rfl) hay2 ha.2 (48 + (j - 1)) (by omega) (by omega) (by decide) dX3_grade_44 ?_
      obtain ⟨⟨qy260, qy261, qy262, qy263, qy264, qy265, qy266⟩, qy269⟩ := hO.ly (l := (j - 1)) (by omega)
      rw [show r (48 + (j - 1)) = K (7 * (j - 1) + 4) from hC (j - 1) 4 (by omega) (by decide)]
      refine z_goto (tgt := 49) C dX3_grade_45 (by decide) ?_
      refine z_istore (lv' := [(4, .int (zI (K (7 * (j - 1) + 4)))), (3, .int (zI (K (7 * (j + 1) + 4)))), (0, .ref (ad a)), (1, .int (zI ((j : Int)))), (2, .int (zI (z)))]) C dX3_grade_49 (by decide) rfl ?_
      refine z_ldc2 (z := 10) C dX3_grade_51 q_525 (by decide) ?_
      refine z_iload_n C 1 dX3_grade_54 rfl ?_
      refine z_iload C 0 dX3_grade_55 rfl ?_
      refine z_isub C dX3_grade_57 ?_
      refine z_mabs C q_526 q_527 q_20 q_528 (by omega) (by decide) (Nat.le_of_ble_eq_true rfl) (by decide) (by decide) dX3_grade_58 ?_
      obtain ⟨xy27, exy28, hxy29⟩ := mm_abs ((K (7 * (j + 1) + 4)) - (K (7 * (j - 1) + 4)))
      rw [exy28]
      refine z_i2l C dX3_grade_61 (by omega) ?_
      refine z_lmul C dX3_grade_62 ?_
      refine z_aload_n C 2 dX3_grade_63 rfl ?_
      refine z_get (v := .ref (ad (a + 1))) C (lt_A0 hN rfl) hay1 ha.1 rfl inA_X3 2 (by decide) q_162 rfl rfl dX3_grade_64 ?_
      refine z_bipush (z := 36) C dX3_grade_67 (by decide) ?_
      refine z_iload_n C 3 dX3_grade_69 rfl ?_
      refine z_iadd C dX3_grade_70 ?_
      refine z_iald C (lt_A (c := 1) hN rfl) hay2 ha.2 (36 + j) (by omega) (by omega) (by decide) dX3_grade_71 ?_
      obtain ⟨⟨qy300, qy301, qy302, qy303, qy304, qy305, qy306⟩, qy309⟩ := hO.ly (l := j) (by omega)
      rw [show r (36 + j) = K (7 * j + 3) from hC j 3 (by omega) (by decide)]
      refine z_i2l C dX3_grade_72 (by omega) ?_
      refine z_cSN (As := [.long (zJ (10 * xy27)), .long (zJ (K (7 * j + 3)))]) (rest := []) C (c_pPart l D A cs tt N ad _ (10 * xy27) (K (7 * j + 3)) (by omega) (by omega)) ms_yX9_part n_466 hd_yX9_part (by decide) (Nat.le_of_ble_eq_true rfl) (by decide) dX3_grade_73 rfl (kI0 fun vy31 gvy31 hvy31 => ?_)
      obtain ⟨rfl, rfl⟩ := hvy31
      have htq := tdq (a := 10 * xy27) (k := K (7 * j + 3)) (q := 4000) (by omega) (by omega) (by omega)
      exact z_iret C hr hlk dX3_grade_76 (by decide) (by decide) ⟨(10 * xy27).tdiv (K (7 * j + 3)), rfl, rfl, rfl, ⟨grZ_of (up := K (7 * (j + 1) + 4)) (dn := K (7 * (j - 1) + 4)) (by omega) (by omega) (by omega), by omega, by omega⟩, rfl⟩

set_option maxRecDepth 100000 in
set_option maxHeartbeats 4000000 in
theorem c_pNext (l : Launch) (D : va_G) (A : Nat → Prop) (cs : Nat → ClassId) (tt : Nat) (N : Nat) (ad : Nat → Nat) (g : Nat → va_E) (a : Nat) (hN : a + 2 ≤ N) (sz ro : Int) (r : Nat → Int) (hz : 0 ≤ sz ∧ sz ≤ 12) (ha : isPack cs ad g a sz ro r) (n : Nat) (K : Nat → Int) (hn : sz = (n : Int)) (hC : ∀ j f, j < n → f < 7 → r (12 * f + j) = K (7 * j + f)) (hO : okP K n) (j : Nat) (hj : j < n) (z : Int) (hz9 : -2147483648 ≤ z ∧ z ≤ 2147483647) : zM l yX3_nextKind cX3_nextKind 5 (some .int) ({ frames := 1, cells := 0, slots := 0, locals := 60 } : Room) D A cs tt N ad g [.ref (ad a), .int (zI ((j : Int))), .int (zI (z))] (rI0 N ad fun q g' => q = nkZ K j z ∧ g = g') := by
  have hay1 : zAt ad (a) (ad a) := rfl
  have hay2 : zAt ad (a + 1) (ad (a + 1)) := rfl
  have hn12 := hO.1
  refine z_of (by decide) (Nat.le_of_ble_eq_true rfl) ?_
  intro p e s m below meth c C hr hlk hnm
  refine z_lv (lv' := [(0, .ref (ad a)), (1, .int (zI ((j : Int)))), (2, .int (zI (z)))]) [0, 1, 2] rfl ?_
  refine z_aload_n C 0 dX3_nextKind_0 rfl ?_
  refine z_get (v := .ref (ad (a + 1))) C (lt_A0 hN rfl) hay1 ha.1 rfl inA_X3 2 (by decide) q_162 rfl rfl dX3_nextKind_1 ?_
  refine z_iconst (z := 0) C dX3_nextKind_4 rfl ?_
  refine z_iload_n C 1 dX3_nextKind_5 rfl ?_
  refine z_iadd C dX3_nextKind_6 ?_
  refine z_iald C (lt_A (c := 1) hN rfl) hay2 ha.2 (0 + j) (by omega) (by omega) (by decide) dX3_nextKind_7 ?_
  obtain ⟨⟨qy30, qy31, qy32, qy33, qy34, qy35, qy36⟩, qy39⟩ := hO.ly (l := j) (by omega)
  rw [show r (0 + j) = K (7 * j) from hC j 0 (by omega) (by decide)]
  refine z_istore_n (lv' := [(3, .int (zI (K (7 * j)))), (0, .ref (ad a)), (1, .int (zI ((j : Int)))), (2, .int (zI (z)))]) C dX3_nextKind_8 rfl (by decide) rfl ?_
  refine z_iload_n C 0 dX3_nextKind_9 rfl ?_
  refine z_if_eq (tgt := 18) C dX3_nextKind_10 (by decide) (by omega) (fun hby4 => ?_) (fun hby4 => ?_)
  · refine z_iconst (z := 1) C dX3_nextKind_18 rfl ?_
    refine z_goto (tgt := 23) C dX3_nextKind_19 (by decide) ?_
    refine z_istore (lv' := [(4, .int (zI (1))), (3, .int (zI (K (7 * j)))), (0, .ref (ad a)), (1, .int (zI ((j : Int)))), (2, .int (zI (z)))]) C dX3_nextKind_23 (by decide) rfl ?_
    refine z_aload_n C 2 dX3_nextKind_25 rfl ?_
    refine z_get (v := .ref (ad (a + 1))) C (lt_A0 hN rfl) hay1 ha.1 rfl inA_X3 2 (by decide) q_162 rfl rfl dX3_nextKind_26 ?_
    refine z_bipush (z := 24) C dX3_nextKind_29 (by decide) ?_
    refine z_iload_n C 3 dX3_nextKind_31 rfl ?_
    refine z_iadd C dX3_nextKind_32 ?_
    refine z_iald C (lt_A (c := 1) hN rfl) hay2 ha.2 (24 + j) (by omega) (by omega) (by decide) dX3_nextKind_33 ?_
    rw [show r (24 + j) = K (7 * j + 2) from hC j 2 (by omega) (by decide)]
    refine z_if_le (tgt := 53) C dX3_nextKind_34 (by decide) (by omega) (fun hby5 => ?_) (fun hby5 => ?_)
    · refine z_iload_n C 4 dX3_nextKind_53 rfl ?_
      refine z_bipush (z := 20) C dX3_nextKind_54 (by decide) ?_
      refine z_icmp_lt (tgt := 74) C dX3_nextKind_56 (by decide) (by omega) (by omega) (fun hby6 => ?_) (fun hby6 => ?_)
      · refine z_iload C 0 dX3_nextKind_74 rfl ?_
        refine z_if_eq (tgt := 97) C dX3_nextKind_76 (by decide) (by omega) (fun h => absurd h (by omega)) (fun _ => ?_)
        refine z_aload_n C 2 dX3_nextKind_79 rfl ?_
        refine z_get (v := .ref (ad (a + 1))) C (lt_A0 hN rfl) hay1 ha.1 rfl inA_X3 2 (by decide) q_162 rfl rfl dX3_nextKind_80 ?_
        refine z_bipush (z := 60) C dX3_nextKind_83 (by decide) ?_
        refine z_iload_n C 3 dX3_nextKind_85 rfl ?_
        refine z_iadd C dX3_nextKind_86 ?_
        refine z_iald C (lt_A (c := 1) hN rfl) hay2 ha.2 (60 + j) (by omega) (by omega) (by decide) dX3_nextKind_87 ?_
        rw [show r (60 + j) = K (7 * j + 5) from hC j 5 (by omega) (by decide)]
        refine z_bipush (z := 24) C dX3_nextKind_88 (by decide) ?_
        refine z_icmp_lt (tgt := 97) C dX3_nextKind_90 (by decide) (by omega) (by omega) (fun hby7 => ?_) (fun hby7 => ?_)
        · refine z_iload_n C 1 dX3_nextKind_97 rfl ?_
          exact z_iret C hr hlk dX3_nextKind_98 (by decide) (by decide) ⟨K (7 * j), rfl, rfl, rfl, by unfold nkZ; (repeat' split) <;> omega, rfl⟩
        · refine z_iconst (z := 1) C dX3_nextKind_93 rfl ?_
          refine z_goto (tgt := 98) C dX3_nextKind_94 (by decide) ?_
          exact z_iret C hr hlk dX3_nextKind_98 (by decide) (by decide) ⟨1, rfl, rfl, rfl, by unfold nkZ; (repeat' split) <;> omega, rfl⟩
      · refine z_iload_n C 1 dX3_nextKind_59 rfl ?_
        refine z_if_eq (tgt := 68) C dX3_nextKind_60 (by decide) (by omega) (fun hby8 => ?_) (fun hby8 => ?_)
        · refine z_iconst (z := 2) C dX3_nextKind_68 rfl ?_
          refine z_goto (tgt := 73) C dX3_nextKind_69 (by decide) ?_
          exact z_iret C hr hlk dX3_nextKind_73 (by decide) (by decide) ⟨2, rfl, rfl, rfl, by unfold nkZ; (repeat' split) <;> omega, rfl⟩
        · refine z_iload_n C 1 dX3_nextKind_63 rfl ?_
          refine z_iconst (z := 1) C dX3_nextKind_64 rfl ?_
          refine z_icmp_ne (tgt := 72) C dX3_nextKind_65 (by decide) (by omega) (by omega) (fun hby9 => ?_) (fun hby9 => ?_)
          · refine z_iload_n C 1 dX3_nextKind_72 rfl ?_
            exact z_iret C hr hlk dX3_nextKind_73 (by decide) (by decide) ⟨K (7 * j), rfl, rfl, rfl, by unfold nkZ; (repeat' split) <;> omega, rfl⟩
          · refine z_iconst (z := 2) C dX3_nextKind_68 rfl ?_
            refine z_goto (tgt := 73) C dX3_nextKind_69 (by decide) ?_
            exact z_iret C hr hlk dX3_nextKind_73 (by decide) (by decide) ⟨2, rfl, rfl, rfl, by unfold nkZ; (repeat' split) <;> omega, rfl⟩
    · refine z_iload C 0 dX3_nextKind_37 rfl ?_
      refine z_if_ne (tgt := 47) C dX3_nextKind_39 (by decide) (by omega) (fun _ => ?_) (fun h => absurd h (by omega))
      refine z_iconst (z := 1) C dX3_nextKind_47 rfl ?_
      refine z_goto (tgt := 52) C dX3_nextKind_48 (by decide) ?_
      exact z_iret C hr hlk dX3_nextKind_52 (by decide) (by decide) ⟨1, rfl, rfl, rfl, by unfold nkZ; (repeat' split) <;> omega, rfl⟩
  · refine z_iload_n C 0 dX3_nextKind_13 rfl ?_
    refine z_iconst (z := 2) C dX3_nextKind_14 rfl ?_
    refine z_icmp_ne (tgt := 22) C dX3_nextKind_15 (by decide) (by omega) (by omega) (fun hby10 => ?_) (fun hby10 => ?_)
    · refine z_iconst (z := 0) C dX3_nextKind_22 rfl ?_
      refine z_istore (lv' := [(4, .int (zI (0))), (3, .int (zI (K (7 * j)))), (0, .ref (ad a)), (1, .int (zI ((j : Int)))), (2, .int (zI (z)))]) C dX3_nextKind_23 (by decide) rfl ?_
      refine z_aload_n C 2 dX3_nextKind_25 rfl ?_
      refine z_get (v := .ref (ad (a + 1))) C (lt_A0 hN rfl) hay1 ha.1 rfl inA_X3 2 (by decide) q_162 rfl rfl dX3_nextKind_26 ?_
      refine z_bipush (z := 24) C dX3_nextKind_29 (by decide) ?_
      refine z_iload_n C 3 dX3_nextKind_31 rfl ?_
      refine z_iadd C dX3_nextKind_32 ?_
      refine z_iald C (lt_A (c := 1) hN rfl) hay2 ha.2 (24 + j) (by omega) (by omega) (by decide) dX3_nextKind_33 ?_
      rw [show r (24 + j) = K (7 * j + 2) from hC j 2 (by omega) (by decide)]
      refine z_if_le (tgt := 53) C dX3_nextKind_34 (by decide) (by omega) (fun hby11 => ?_) (fun hby11 => ?_)
      · refine z_iload_n C 4 dX3_nextKind_53 rfl ?_
        refine z_bipush (z := 20) C dX3_nextKind_54 (by decide) ?_
        refine z_icmp_lt (tgt := 74) C dX3_nextKind_56 (by decide) (by omega) (by omega) (fun hby12 => ?_) (fun hby12 => ?_)
        · refine z_iload C 0 dX3_nextKind_74 rfl ?_
          refine z_if_eq (tgt := 97) C dX3_nextKind_76 (by decide) (by omega) (fun _ => ?_) (fun h => absurd h (by omega))
          refine z_iload_n C 1 dX3_nextKind_97 rfl ?_
          exact z_iret C hr hlk dX3_nextKind_98 (by decide) (by decide) ⟨K (7 * j), rfl, rfl, rfl, by unfold nkZ; (repeat' split) <;> omega, rfl⟩
        · refine z_iload_n C 1 dX3_nextKind_59 rfl ?_
          refine z_if_eq (tgt := 68) C dX3_nextKind_60 (by decide) (by omega) (fun hby13 => ?_) (fun hby13 => ?_)
          · refine z_iconst (z := 2) C dX3_nextKind_68 rfl ?_
            refine z_goto (tgt := 73) C dX3_nextKind_69 (by decide) ?_
            exact z_iret C hr hlk dX3_nextKind_73 (by decide) (by decide) ⟨2, rfl, rfl, rfl, by unfold nkZ; (repeat' split) <;> omega, rfl⟩
          · refine z_iload_n C 1 dX3_nextKind_63 rfl ?_
            refine z_iconst (z := 1) C dX3_nextKind_64 rfl ?_
            refine z_icmp_ne (tgt := 72) C dX3_nextKind_65 (by decide) (by omega) (by omega) (fun hby14 => ?_) (fun hby14 => ?_)
            · refine z_iload_n C 1 dX3_nextKind_72 rfl ?_
              exact z_iret C hr hlk dX3_nextKind_73 (by decide) (by decide) ⟨K (7 * j), rfl, rfl, rfl, by unfold nkZ; (repeat' split) <;> omega, rfl⟩
            · refine z_iconst (z := 2) C dX3_nextKind_68 rfl ?_
              refine z_goto (tgt := 73) C dX3_nextKind_69 (by decide) ?_
              exact z_iret C hr hlk dX3_nextKind_73 (by decide) (by decide) ⟨2, rfl, rfl, rfl, by unfold nkZ; (repeat' split) <;> omega, rfl⟩
      · refine z_iload C 0 dX3_nextKind_37 rfl ?_
        refine z_if_ne (tgt := 47) C dX3_nextKind_39 (by decide) (by omega) (fun h => absurd h (by omega)) (fun _ => ?_)
        refine z_iload_n C 1 dX3_nextKind_42 rfl ?_
        refine z_iconst (z := 4) C dX3_nextKind_43 rfl ?_
        refine z_icmp_ne (tgt := 51) C dX3_nextKind_44 (by decide) (by omega) (by omega) (fun hby15 => ?_) (fun hby15 => ?_)
        · refine z_iload_n C 1 dX3_nextKind_51 rfl ?_
          exact z_iret C hr hlk dX3_nextKind_52 (by decide) (by decide) ⟨K (7 * j), rfl, rfl, rfl, by unfold nkZ; (repeat' split) <;> omega, rfl⟩
        · refine z_iconst (z := 1) C dX3_nextKind_47 rfl ?_
          refine z_goto (tgt := 52) C dX3_nextKind_48 (by decide) ?_
          exact z_iret C hr hlk dX3_nextKind_52 (by decide) (by decide) ⟨1, rfl, rfl, rfl, by unfold nkZ; (repeat' split) <;> omega, rfl⟩
    · refine z_iconst (z := 1) C dX3_nextKind_18 rfl ?_
      refine z_goto (tgt := 23) C dX3_nextKind_19 (by decide) ?_
      refine z_istore (lv' := [(4, .int (zI (1))), (3, .int (zI (K (7 * j)))), (0, .ref (ad a)), (1, .int (zI ((j : Int)))), (2, .int (zI (z)))]) C dX3_nextKind_23 (by decide) rfl ?_
      refine z_aload_n C 2 dX3_nextKind_25 rfl ?_
      refine z_get (v := .ref (ad (a + 1))) C (lt_A0 hN rfl) hay1 ha.1 rfl inA_X3 2 (by decide) q_162 rfl rfl dX3_nextKind_26 ?_
      refine z_bipush (z := 24) C dX3_nextKind_29 (by decide) ?_
      refine z_iload_n C 3 dX3_nextKind_31 rfl ?_
      refine z_iadd C dX3_nextKind_32 ?_
      refine z_iald C (lt_A (c := 1) hN rfl) hay2 ha.2 (24 + j) (by omega) (by omega) (by decide) dX3_nextKind_33 ?_
      rw [show r (24 + j) = K (7 * j + 2) from hC j 2 (by omega) (by decide)]
      refine z_if_le (tgt := 53) C dX3_nextKind_34 (by decide) (by omega) (fun hby16 => ?_) (fun hby16 => ?_)
      · refine z_iload_n C 4 dX3_nextKind_53 rfl ?_
        refine z_bipush (z := 20) C dX3_nextKind_54 (by decide) ?_
        refine z_icmp_lt (tgt := 74) C dX3_nextKind_56 (by decide) (by omega) (by omega) (fun hby17 => ?_) (fun hby17 => ?_)
        · refine z_iload C 0 dX3_nextKind_74 rfl ?_
          refine z_if_eq (tgt := 97) C dX3_nextKind_76 (by decide) (by omega) (fun h => absurd h (by omega)) (fun _ => ?_)
          refine z_aload_n C 2 dX3_nextKind_79 rfl ?_
          refine z_get (v := .ref (ad (a + 1))) C (lt_A0 hN rfl) hay1 ha.1 rfl inA_X3 2 (by decide) q_162 rfl rfl dX3_nextKind_80 ?_
          refine z_bipush (z := 60) C dX3_nextKind_83 (by decide) ?_
          refine z_iload_n C 3 dX3_nextKind_85 rfl ?_
          refine z_iadd C dX3_nextKind_86 ?_
          refine z_iald C (lt_A (c := 1) hN rfl) hay2 ha.2 (60 + j) (by omega) (by omega) (by decide) dX3_nextKind_87 ?_
          rw [show r (60 + j) = K (7 * j + 5) from hC j 5 (by omega) (by decide)]
          refine z_bipush (z := 24) C dX3_nextKind_88 (by decide) ?_
          refine z_icmp_lt (tgt := 97) C dX3_nextKind_90 (by decide) (by omega) (by omega) (fun hby18 => ?_) (fun hby18 => ?_)
          · refine z_iload_n C 1 dX3_nextKind_97 rfl ?_
            exact z_iret C hr hlk dX3_nextKind_98 (by decide) (by decide) ⟨K (7 * j), rfl, rfl, rfl, by unfold nkZ; (repeat' split) <;> omega, rfl⟩
          · refine z_iconst (z := 1) C dX3_nextKind_93 rfl ?_
            refine z_goto (tgt := 98) C dX3_nextKind_94 (by decide) ?_
            exact z_iret C hr hlk dX3_nextKind_98 (by decide) (by decide) ⟨1, rfl, rfl, rfl, by unfold nkZ; (repeat' split) <;> omega, rfl⟩
        · refine z_iload_n C 1 dX3_nextKind_59 rfl ?_
          refine z_if_eq (tgt := 68) C dX3_nextKind_60 (by decide) (by omega) (fun hby19 => ?_) (fun hby19 => ?_)
          · refine z_iconst (z := 2) C dX3_nextKind_68 rfl ?_
            refine z_goto (tgt := 73) C dX3_nextKind_69 (by decide) ?_
            exact z_iret C hr hlk dX3_nextKind_73 (by decide) (by decide) ⟨2, rfl, rfl, rfl, by unfold nkZ; (repeat' split) <;> omega, rfl⟩
          · refine z_iload_n C 1 dX3_nextKind_63 rfl ?_
            refine z_iconst (z := 1) C dX3_nextKind_64 rfl ?_
            refine z_icmp_ne (tgt := 72) C dX3_nextKind_65 (by decide) (by omega) (by omega) (fun hby20 => ?_) (fun hby20 => ?_)
            · refine z_iload_n C 1 dX3_nextKind_72 rfl ?_
              exact z_iret C hr hlk dX3_nextKind_73 (by decide) (by decide) ⟨K (7 * j), rfl, rfl, rfl, by unfold nkZ; (repeat' split) <;> omega, rfl⟩
            · refine z_iconst (z := 2) C dX3_nextKind_68 rfl ?_
              refine z_goto (tgt := 73) C dX3_nextKind_69 (by decide) ?_
              exact z_iret C hr hlk dX3_nextKind_73 (by decide) (by decide) ⟨2, rfl, rfl, rfl, by unfold nkZ; (repeat' split) <;> omega, rfl⟩
      · refine z_iload C 0 dX3_nextKind_37 rfl ?_
        refine z_if_ne (tgt := 47) C dX3_nextKind_39 (by decide) (by omega) (fun _ => ?_) (fun h => absurd h (by omega))
        refine z_iconst (z := 1) C dX3_nextKind_47 rfl ?_
        refine z_goto (tgt := 52) C dX3_nextKind_48 (by decide) ?_
        exact z_iret C hr hlk dX3_nextKind_52 (by decide) (by decide) ⟨1, rfl, rfl, rfl, by unfold nkZ; (repeat' split) <;> omega, rfl⟩
end
section
-- 9k8.phys1.lean.txt
theorem lay_u {n l f0 : Nat} {C C' r r' : Nat → Int} {v : Int} (h : ∀ j f, j < n → f < 7 → r (12 * f + j) = C (7 * j + f)) {d : Nat} (hr : r' = uZ r d v) (hC : C' = uZ C (7 * l + f0) v) (hd : d = 12 * f0 + l) (hn : n ≤ 12) (hl : l < 12) (hf : f0 < 7) : ∀ j f, j < n → f < 7 → r' (12 * f + j) = C' (7 * j + f) := by
  intro j f h1 h2
  subst hr hC hd
  unfold uZ
  by_cases e : 12 * f + j = 12 * f0 + l
  · rw [if_pos e, if_pos (by omega)]
  · rw [if_neg e, if_neg (by omega)]
    exact h j f h1 h2
theorem mulc {a b A B : Int} (ha : 0 ≤ a ∧ a ≤ A) (hb : 0 ≤ b ∧ b ≤ B) : 0 ≤ a * b ∧ a * b ≤ A * B := ⟨Int.mul_nonneg ha.1 hb.1, Int.mul_le_mul ha.2 hb.2 hb.1 (by omega)⟩
theorem tdb4 {a : Int} (h : -400 ≤ a ∧ a ≤ 400) : -100 ≤ a.tdiv 4 ∧ a.tdiv 4 ≤ 100 := by
  by_cases e : 0 ≤ a
  · rw [Int.tdiv_eq_ediv_of_nonneg e]; omega
  · rw [show a = -(-a) by omega, Int.neg_tdiv, Int.tdiv_eq_ediv_of_nonneg (by omega : 0 ≤ -a)]; omega
def mnZ (a b : Int) : Int := if b < a then b else a
/-- WATER comes onto the first so many layers -/
def wtK (C : Nat → Int) (lz : Nat) (w : Int) : Nat → Int := if lz = 0 then C else uZ C (7 * (lz - 1) + 2) (C (7 * (lz - 1) + 2) + w)
def wtR (lz : Nat) (ro w : Int) : Int := if lz = 0 then ro + w else ro
/-- what freezes; the slope with it frozen -/
def fzN (C : Nat → Int) (i : Nat) : Int := mnZ ((C (7 * i + 1) * -C (7 * i + 4)).tdiv 100) (C (7 * i + 2))
def fzT (C : Nat → Int) (i : Nat) (f : Int) : Int := if 0 < C (7 * i + 2) - f then 0 else mnZ ((100 * f).tdiv (C (7 * i + 1)) + C (7 * i + 4)) 0
def frZ (C : Nat → Int) (i : Nat) : Nat → Int := fun q => if q = 7 * i + 1 then C (7 * i + 1) + fzN C i else if q = 7 * i + 2 then C (7 * i + 2) - fzN C i else if q = 7 * i + 4 then fzT C i (fzN C i) else if q = 7 * i ∧ 0 < fzN C i then 3 else C q
/-- (b) with AIR of 0 or less -/
def clK (C : Nat → Int) (n : Nat) (air : Int) : Nat → Int := if n = 0 then C else uZ C (7 * (n - 1) + 4) (C (7 * (n - 1) + 4) + (air - C (7 * (n - 1) + 4)).tdiv 4)
/-- a field anew for the layers from k up to n -/
def stK (C : Nat → Int) (n f k : Nat) (v : Nat → Int) : Nat → Int := fun q => if q % 7 = f ∧ k ≤ q / 7 ∧ q / 7 < n then v (q / 7) else C q
theorem stK_s {C : Nat → Int} {n f k : Nat} {v : Nat → Int} {j : Nat} (hf : f < 7) (h1 : k ≤ j) (h2 : j < n) : stK C n f k v (7 * j + f) = v j := by
  unfold stK
  rw [if_pos ⟨by omega, by omega, by omega⟩, show (7 * j + f) / 7 = j by omega]
theorem stK_o {C : Nat → Int} {n f k : Nat} {v : Nat → Int} {q : Nat} (h : q % 7 ≠ f ∨ q / 7 < k ∨ n ≤ q / 7) : stK C n f k v q = C q := by
  unfold stK
  rw [if_neg (by omega)]
theorem stK_step {C : Nat → Int} {n f j : Nat} {v : Nat → Int} (hf : f < 7) (hj : j < n) : uZ (stK C n f (j + 1) v) (7 * j + f) (v j) = stK C n f j v := by
  funext q
  unfold uZ
  by_cases e : q = 7 * j + f
  · rw [if_pos e, e, stK_s hf (Nat.le_refl _) hj]
  · rw [if_neg e]
    by_cases c : q % 7 = f ∧ j ≤ q / 7 ∧ q / 7 < n
    · unfold stK
      rw [if_pos c, if_pos (by omega)]
    · rw [stK_o (by omega), stK_o (by omega)]
theorem stK_n (C : Nat → Int) (n f : Nat) (v : Nat → Int) : stK C n f n v = C := by
  funext q
  exact stK_o (by omega)
theorem lyP_c {C C' : Nat → Int} {l : Nat} (h : lyP C l) (e : ∀ f, f < 7 → C' (7 * l + f) = C (7 * l + f)) : lyP C' l := by
  unfold lyP at *
  have e0 : C' (7 * l) = C (7 * l) := e 0 (by decide)
  rw [e0, e 1 (by decide), e 2 (by decide), e 3 (by decide), e 4 (by decide), e 5 (by decide), e 6 (by decide)]
  exact h
theorem sZ_c {C C' : Nat → Int} {i : Nat} {n : Nat} (h : ∀ l, l < n → l ≠ i → mZ C' l = mZ C l) : ∀ k, k ≤ n → sZ C' k = sZ C k + (if i < k then mZ C' i - mZ C i else 0) := by
  intro k
  induction k with
  | zero => intro _; rw [if_neg (by omega)]; rfl
  | succ k ih =>
    intro hk
    have h1 := ih (by omega)
    show sZ C' k + mZ C' k = sZ C k + mZ C k + _
    by_cases e : k = i
    · subst e
      rw [if_neg (by omega)] at h1
      rw [if_pos (by omega)]
      omega
    · have h2 := h k (by omega) e
      by_cases e2 : i < k
      · rw [if_pos e2] at h1
        rw [if_pos (by omega)]
        omega
      · rw [if_neg e2] at h1
        rw [if_neg (by omega)]
        omega
theorem dZ_c {C C' : Nat → Int} {n : Nat} (h : ∀ l, l < n → C' (7 * l + 3) = C (7 * l + 3)) : ∀ k, k ≤ n → dZ C' k = dZ C k := by
  intro k
  induction k with
  | zero => intro _; rfl
  | succ k ih =>
    intro hk
    have h1 := ih (by omega)
    have h2 := h k (by omega)
    show dZ C' k + C' (7 * k + 3) = dZ C k + C (7 * k + 3)
    omega
/-- one layer changes, but for its DEPTH -/
theorem okP.chg {C C' : Nat → Int} {n i : Nat} (h : okP C n) (hi : i < n) (hl : lyP C' i) (ho : ∀ l, l < n → l ≠ i → ∀ f, f < 7 → C' (7 * l + f) = C (7 * l + f)) (hd : C' (7 * i + 3) = C (7 * i + 3)) (hm : sZ C n + (mZ C' i - mZ C i) ≤ 138500) : okP C' n ∧ sZ C' n = sZ C n + (mZ C' i - mZ C i) := by
  have h1 : ∀ l, l < n → l ≠ i → mZ C' l = mZ C l := by
    intro l a b
    unfold mZ
    rw [ho l a b 1 (by decide), ho l a b 2 (by decide)]
  have h2 := sZ_c h1 n (Nat.le_refl _)
  rw [if_pos hi] at h2
  have h3 := dZ_c (C := C) (C' := C') (n := n) (fun l a => by
    by_cases e : l = i
    · rw [e]; exact hd
    · exact ho l a e 3 (by decide)) n (Nat.le_refl _)
  refine ⟨⟨h.1, fun l a => ?_, by omega, by have := h.2.2.2; omega⟩, h2⟩
  by_cases e : l = i
  · rw [e]; exact hl
  · exact lyP_c (h.2.1 l a) (ho l a e)
theorem okP.wat {C : Nat → Int} {n i : Nat} {v : Int} (h : okP C n) (hi : i < n) (hv : 0 ≤ v) (hm : sZ C n + (v - C (7 * i + 2)) ≤ 138500) : okP (uZ C (7 * i + 2) v) n ∧ sZ (uZ C (7 * i + 2) v) n = sZ C n + (v - C (7 * i + 2)) := by
  have e : ∀ f, f ≠ 2 → uZ C (7 * i + 2) v (7 * i + f) = C (7 * i + f) := fun f hf => uZ_n _ _ (by omega)
  have e2 : uZ C (7 * i + 2) v (7 * i + 2) = v := uZ_s _ _ _
  have hM : mZ (uZ C (7 * i + 2) v) i - mZ C i = v - C (7 * i + 2) := by
    unfold mZ
    rw [e 1 (by decide), e2]
    omega
  have hl : lyP (uZ C (7 * i + 2) v) i := by
    have h0 := h.2.1 i hi
    have e0 : uZ C (7 * i + 2) v (7 * i) = C (7 * i) := e 0 (by decide)
    unfold lyP at *
    rw [e0, e 1 (by decide), e2, e 3 (by decide), e 4 (by decide), e 5 (by decide), e 6 (by decide)]
    omega
  have := okP.chg h hi hl (fun l a b f hf => uZ_n _ _ (by omega)) (e 3 (by decide)) (by omega)
  rw [hM] at this
  exact this
theorem fzN_b {C : Nat → Int} {n i : Nat} (h : okP C n) (hi : i < n) : 0 ≤ fzN C i ∧ fzN C i ≤ C (7 * i + 2) := by
  have h0 := h.ly hi
  have h1 := mulc (a := C (7 * i + 1)) (b := -C (7 * i + 4)) (A := 138500) (B := 300) (by omega) (by omega)
  have h2 := tdq (a := C (7 * i + 1) * -C (7 * i + 4)) (k := 100) (q := 415500) (by decide) h1.1 (by omega)
  unfold fzN mnZ
  split <;> omega
theorem okP.frz {C : Nat → Int} {n i : Nat} (h : okP C n) (hi : i < n) : okP (frZ C i) n ∧ sZ (frZ C i) n = sZ C n := by
  have hf := fzN_b h hi
  have h0 := h.ly hi
  have hT : -300 ≤ fzT C i (fzN C i) ∧ fzT C i (fzN C i) ≤ 0 := by
    have h2 := tdq (a := 100 * fzN C i) (k := C (7 * i + 1)) (q := 13850000) (by omega) (by omega) (by omega)
    unfold fzT mnZ
    (repeat' split) <;> omega
  have e0 : frZ C i (7 * i) = if 0 < fzN C i then 3 else C (7 * i) := by
    unfold frZ
    rw [if_neg (by omega), if_neg (by omega), if_neg (by omega)]
    by_cases e : 0 < fzN C i
    · rw [if_pos ⟨rfl, e⟩, if_pos e]
    · rw [if_neg (fun x => e x.2), if_neg e]
  have e1 : frZ C i (7 * i + 1) = C (7 * i + 1) + fzN C i := by unfold frZ; rw [if_pos rfl]
  have e2 : frZ C i (7 * i + 2) = C (7 * i + 2) - fzN C i := by unfold frZ; rw [if_neg (by omega), if_pos rfl]
  have e4 : frZ C i (7 * i + 4) = fzT C i (fzN C i) := by unfold frZ; rw [if_neg (by omega), if_neg (by omega), if_pos rfl]
  have eo : ∀ q, q ≠ 7 * i → q ≠ 7 * i + 1 → q ≠ 7 * i + 2 → q ≠ 7 * i + 4 → frZ C i q = C q := fun q a b c d => by unfold frZ; rw [if_neg b, if_neg c, if_neg d, if_neg (fun x => a x.1)]
  have hM : mZ (frZ C i) i - mZ C i = 0 := by
    unfold mZ
    rw [e1, e2]
    omega
  have hl : lyP (frZ C i) i := by
    have h9 := h.2.1 i hi
    unfold lyP at *
    rw [e0, e1, e2, e4, eo _ (by omega) (by omega) (by omega) (by omega), eo _ (by omega) (by omega) (by omega) (by omega), eo _ (by omega) (by omega) (by omega) (by omega)]
    split <;> omega
  have h5 := h.2.2.1
  have := okP.chg h hi hl (fun l a b f hf => eo _ (by omega) (by omega) (by omega) (by omega)) (eo _ (by omega) (by omega) (by omega) (by omega)) (by omega)
  rw [hM, Int.add_zero] at this
  exact this
/-- (d): one layer; all, from the top down -/
def skA (C : Nat → Int) (i : Nat) : Nat → Int := if 0 < C (7 * i + 2) ∧ C (7 * i + 4) < 0 then frZ C i else C
def skH (tb C : Nat → Int) (i : Nat) : Int := (C (7 * i + 1) * tb ((5 : Int) + C (7 * i)).toNat).tdiv 100
def skB (tb C : Nat → Int) (i : Nat) : Nat → Int := if 0 < C (7 * i + 2) - skH tb C i then wtK (uZ C (7 * i + 2) (skH tb C i)) i (C (7 * i + 2) - skH tb C i) else C
def skR (tb C : Nat → Int) (i : Nat) (ro : Int) : Int := if 0 < C (7 * i + 2) - skH tb C i then wtR i ro (C (7 * i + 2) - skH tb C i) else ro
def skZ (tb : Nat → Int) : Nat → (Nat → Int) → Int → (Nat → Int) × Int
  | 0, C, ro => (C, ro)
  | k + 1, C, ro => skZ tb k (skB tb (skA C k) k) (skR tb (skA C k) k ro)
theorem skA_ok {C : Nat → Int} {n i : Nat} (h : okP C n) (hi : i < n) : okP (skA C i) n ∧ sZ (skA C i) n = sZ C n := by
  unfold skA
  split
  · exact h.frz hi
  · exact ⟨h, rfl⟩
theorem skH_b {tb C : Nat → Int} {n i : Nat} (ht : okTb tb) (h : okP C n) (hi : i < n) : (0 ≤ C (7 * i + 1) * tb ((5 : Int) + C (7 * i)).toNat ∧ C (7 * i + 1) * tb ((5 : Int) + C (7 * i)).toNat ≤ 13711500) ∧ 0 ≤ skH tb C i ∧ skH tb C i ≤ 138500 := by
  have h0 := h.ly hi
  have h1 := ht.1 ((5 : Int) + C (7 * i)).toNat (by omega)
  have h2 := mulc (a := C (7 * i + 1)) (b := tb ((5 : Int) + C (7 * i)).toNat) (A := 138500) (B := 99) (by omega) h1
  exact ⟨by omega, tdq (by decide) h2.1 (by omega)⟩
theorem wtK_ok {C : Nat → Int} {n i : Nat} {w : Int} (h : okP C n) (hi : i ≤ n) (hw : 0 ≤ w) (hm : sZ C n + w ≤ 138500) {ro : Int} : okP (wtK C i w) n ∧ wtR i ro w + sZ (wtK C i w) n = ro + sZ C n + w ∧ (ro ≤ wtR i ro w) := by
  unfold wtK wtR
  by_cases e : i = 0
  · rw [if_pos e, if_pos e]
    exact ⟨h, by omega, by omega⟩
  · rw [if_neg e, if_neg e]
    have h0 := h.ly (l := i - 1) (by omega)
    have h1 := h.wat (i := i - 1) (v := C (7 * (i - 1) + 2) + w) (by omega) (by omega) (by omega)
    exact ⟨h1.1, by omega, by omega⟩
/-- (e) -/
def prD (tb C : Nat → Int) (n l : Nat) : Int := C (7 * l + 3) - (C (7 * l + 3) * (abZ C n l + (mZ C l).tdiv 2)).tdiv (tb ((10 : Int) + C (7 * l)).toNat)
def prZ (tb C : Nat → Int) (n l : Nat) : Int := if prD tb C n l < mZ C l then mZ C l else prD tb C n l
theorem prD_b {tb C : Nat → Int} {n l : Nat} (ht : okTb tb) (h : okP C n) (hl : l < n) : (0 ≤ (mZ C l).tdiv 2 ∧ (mZ C l).tdiv 2 ≤ 138500) ∧ (0 ≤ C (7 * l + 3) * (abZ C n l + (mZ C l).tdiv 2) ∧ C (7 * l + 3) * (abZ C n l + (mZ C l).tdiv 2) ≤ 120000000000000) ∧ (0 ≤ (C (7 * l + 3) * (abZ C n l + (mZ C l).tdiv 2)).tdiv (tb ((10 : Int) + C (7 * l)).toNat) ∧ (C (7 * l + 3) * (abZ C n l + (mZ C l).tdiv 2)).tdiv (tb ((10 : Int) + C (7 * l)).toNat) ≤ 120000000000000) := by
  have h0 := h.ly hl
  have hm := h.mz hl
  have ha := abZ_b h hl
  have h1 := ht.2 ((10 : Int) + C (7 * l)).toNat (by omega) (by omega)
  have h2 := tdq (a := mZ C l) (k := 2) (q := 138500) (by decide) hm.1 (by omega)
  have h3 := mulc (a := C (7 * l + 3)) (b := abZ C n l + (mZ C l).tdiv 2) (A := 400000000) (B := 300000) (by omega) (by omega)
  refine ⟨h2, by omega, tdq (by omega) h3.1 ?_⟩
  have h4 : 1 * (120000000000000 + 1) ≤ tb ((10 : Int) + C (7 * l)).toNat * (120000000000000 + 1) := Int.mul_le_mul_of_nonneg_right h1.1 (by decide)
  omega
theorem prZ_b {tb C : Nat → Int} {n l : Nat} (ht : okTb tb) (h : okP C n) (hl : l < n) : (1 ≤ prZ tb C n l ∧ mZ C l ≤ prZ tb C n l) ∧ prZ tb C n l ≤ C (7 * l + 3) + mZ C l := by
  obtain ⟨h1, h2, h3⟩ := prD_b ht h hl
  have h0 := h.ly hl
  have hm : mZ C l = C (7 * l + 1) + C (7 * l + 2) := rfl
  unfold prZ
  split
  · omega
  · unfold prD at *
    omega
theorem sZ_e {C C' : Nat → Int} {n : Nat} (h : ∀ l, l < n → mZ C' l = mZ C l) : ∀ k, k ≤ n → sZ C' k = sZ C k := by
  intro k
  induction k with
  | zero => intro _; rfl
  | succ k ih =>
    intro hk
    have h1 := ih (by omega)
    have h2 := h k (by omega)
    show sZ C' k + mZ C' k = sZ C k + mZ C k
    omega
theorem prs_ok {tb C : Nat → Int} {n k : Nat} (ht : okTb tb) (h : okP C n) (hd : dZ C n + sZ C n ≤ 400000000) : okP (stK C n 3 k (fun l => prZ tb C n l)) n ∧ (∀ l, l < n → mZ (stK C n 3 k (fun l => prZ tb C n l)) l = mZ C l) := by
  have hm : ∀ l, l < n → mZ (stK C n 3 k (fun l => prZ tb C n l)) l = mZ C l := by
    intro l hl
    unfold mZ
    rw [stK_o (Or.inl (by omega)), stK_o (Or.inl (by omega))]
  have h3 : ∀ l, l < n → 1 ≤ stK C n 3 k (fun l => prZ tb C n l) (7 * l + 3) ∧ stK C n 3 k (fun l => prZ tb C n l) (7 * l + 3) ≤ C (7 * l + 3) + mZ C l := by
    intro l hl
    have h0 := h.ly hl
    have h9 := h.mz hl
    have h8 := prZ_b ht h hl
    by_cases e : k ≤ l
    · rw [stK_s (by decide) e hl]
      exact ⟨h8.1.1, h8.2⟩
    · rw [stK_o (Or.inr (Or.inl (by omega)))]
      omega
  have hz : ∀ m, m ≤ n → dZ (stK C n 3 k (fun l => prZ tb C n l)) m ≤ dZ C m + sZ C m := by
    intro m
    induction m with
    | zero => intro _; exact Int.le_refl 0
    | succ m ih =>
      intro hk
      have h1 := ih (by omega)
      have h2 := (h3 m (by omega)).2
      show dZ _ m + stK C n 3 k (fun l => prZ tb C n l) (7 * m + 3) ≤ dZ C m + C (7 * m + 3) + (sZ C m + mZ C m)
      omega
  have hs := sZ_e hm n (Nat.le_refl _)
  refine ⟨⟨h.1, fun l hl => ?_, by have := h.2.2.1; omega, by have := hz n (Nat.le_refl _); omega⟩, hm⟩
  have h9 := h.2.1 l hl
  have h8 := (h3 l hl).1
  unfold lyP at *
  rw [stK_o (q := 7 * l) (Or.inl (by omega)), stK_o (q := 7 * l + 1) (Or.inl (by omega)), stK_o (q := 7 * l + 2) (Or.inl (by omega)), stK_o (q := 7 * l + 4) (Or.inl (by omega)), stK_o (q := 7 * l + 5) (Or.inl (by omega)), stK_o (q := 7 * l + 6) (Or.inl (by omega))]
  omega
theorem stK_up {C : Nat → Int} {f j : Nat} {v : Nat → Int} (hf : f < 7) : uZ (stK C j f 0 v) (7 * j + f) (v j) = stK C (j + 1) f 0 v := by
  funext q
  unfold uZ
  by_cases e : q = 7 * j + f
  · rw [if_pos e, e, stK_s hf (Nat.zero_le _) (Nat.lt_succ_self _)]
  · rw [if_neg e]
    by_cases c : q % 7 = f ∧ 0 ≤ q / 7 ∧ q / 7 < j
    · unfold stK
      rw [if_pos c, if_pos (by omega)]
    · rw [stK_o (by omega), stK_o (by omega)]
/-- (c) -/
def upE (C : Nat → Int) (n l : Nat) : Int := if l + 1 < n then (C (7 * (l + 1) + 4) - C (7 * l + 4)).tdiv 8 else 0
def dnE (C : Nat → Int) (l : Nat) : Int := if l = 0 then (C (7 * l + 4)).tdiv 8 else (C (7 * l + 4) - C (7 * (l - 1) + 4)).tdiv 8
def evZ (C : Nat → Int) (n l : Nat) : Int := mnZ (C (7 * l + 4) - dnE C l + upE C n l) 0
theorem tdb8 {a : Int} (h : -300 ≤ a ∧ a ≤ 300) : -38 ≤ a.tdiv 8 ∧ a.tdiv 8 ≤ 38 := by
  by_cases e : 0 ≤ a
  · rw [Int.tdiv_eq_ediv_of_nonneg e]; omega
  · rw [show a = -(-a) by omega, Int.neg_tdiv, Int.tdiv_eq_ediv_of_nonneg (by omega : 0 ≤ -a)]; omega
/-- (f), (g): the first k layers -/
def taK (C : Nat → Int) (k : Nat) (V0 V5 : Nat → Int) : Nat → Int := fun q => if q / 7 < k ∧ q % 7 = 0 then V0 (q / 7) else if q / 7 < k ∧ q % 7 = 5 then V5 (q / 7) else C q
theorem taK_o {C V0 V5 : Nat → Int} {k q : Nat} (h : (q % 7 ≠ 0 ∧ q % 7 ≠ 5) ∨ k ≤ q / 7) : taK C k V0 V5 q = C q := by
  unfold taK
  rw [if_neg (by omega), if_neg (by omega)]
theorem taK_0 (C V0 V5 : Nat → Int) : taK C 0 V0 V5 = C := by
  funext q
  exact taK_o (Or.inr (Nat.zero_le _))
theorem ta_step {C V0 V5 : Nat → Int} {k : Nat} {v0 v5 : Int} (h0 : v0 = V0 k) (h5 : v5 = V5 k) : uZ (uZ (taK C k V0 V5) (7 * k + 0) v0) (7 * k + 5) v5 = taK C (k + 1) V0 V5 := by
  subst h0 h5
  funext q
  unfold uZ
  by_cases e5 : q = 7 * k + 5
  · rw [if_pos e5]; unfold taK; rw [if_neg (by omega), if_pos (by omega), show q / 7 = k by omega]
  · rw [if_neg e5]
    by_cases e0 : q = 7 * k + 0
    · rw [if_pos e0]; unfold taK; rw [if_pos (by omega), show q / 7 = k by omega]
    · rw [if_neg e0]; unfold taK
      by_cases c0 : q / 7 < k ∧ q % 7 = 0
      · rw [if_pos c0, if_pos (by omega)]
      · by_cases c5 : q / 7 < k ∧ q % 7 = 5
        · rw [if_neg c0, if_pos c5, if_neg (by omega), if_pos (by omega)]
        · rw [if_neg c0, if_neg c5, if_neg (by omega), if_neg (by omega)]
theorem nkZ_b {C : Nat → Int} {n l : Nat} (h : okP C n) (hl : l < n) (g : Int) : 0 ≤ nkZ C l g ∧ nkZ C l g ≤ 4 := by
  have h0 := h.ly hl
  unfold nkZ
  (repeat' split) <;> omega
def taV (C : Nat → Int) (n : Nat) (air : Int) (l : Nat) : Int := nkZ C l (grZ C n l air)
def taA (C : Nat → Int) (l : Nat) : Int := C (7 * l + 5) + 1
theorem ta_ok {C : Nat → Int} {n k : Nat} {air : Int} (h : okP C n) (ha : ∀ l, l < n → C (7 * l + 5) ≤ 99999) (hk : k ≤ n) : okP (taK C k (taV C n air) (taA C)) n := by
  have hm : ∀ l, l < n → mZ (taK C k (taV C n air) (taA C)) l = mZ C l := by
    intro l hl
    unfold mZ
    rw [taK_o (Or.inl (by omega)), taK_o (Or.inl (by omega))]
  have hd := dZ_c (C := C) (C' := taK C k (taV C n air) (taA C)) (n := n) (fun l a => taK_o (Or.inl (by omega))) n (Nat.le_refl _)
  have hs := sZ_e hm n (Nat.le_refl _)
  refine ⟨h.1, fun l hl => ?_, by have := h.2.2.1; omega, by have := h.2.2.2; omega⟩
  have h9 := h.2.1 l hl
  have h8 := ha l hl
  by_cases e : l < k
  · have e0 : taK C k (taV C n air) (taA C) (7 * l) = taV C n air l := by unfold taK; rw [if_pos (by omega), show 7 * l / 7 = l by omega]
    have e5 : taK C k (taV C n air) (taA C) (7 * l + 5) = taA C l := by unfold taK; rw [if_neg (by omega), if_pos (by omega), show (7 * l + 5) / 7 = l by omega]
    have hv : 0 ≤ taV C n air l ∧ taV C n air l ≤ 4 := nkZ_b h hl _
    have hv5 : taA C l = C (7 * l + 5) + 1 := rfl
    unfold lyP at *
    rw [e0, e5, taK_o (q := 7 * l + 1) (Or.inl (by omega)), taK_o (q := 7 * l + 2) (Or.inl (by omega)), taK_o (q := 7 * l + 3) (Or.inl (by omega)), taK_o (q := 7 * l + 4) (Or.inl (by omega)), taK_o (q := 7 * l + 6) (Or.inl (by omega))]
    omega
  · exact lyP_c h9 (fun f hf => taK_o (Or.inr (by omega)))
theorem ta_gr {C V0 V5 : Nat → Int} {n k l : Nat} {air : Int} : grZ (taK C k V0 V5) n l air = grZ C n l air := by
  unfold grZ upG dnG
  rw [taK_o (q := 7 * (l + 1) + 4) (Or.inl (by omega)), taK_o (q := 7 * (l - 1) + 4) (Or.inl (by omega)), taK_o (q := 7 * l + 3) (Or.inl (by omega))]
theorem ta_nk {C V0 V5 : Nat → Int} {k : Nat} {g : Int} : nkZ (taK C k V0 V5) k g = nkZ C k g := by
  unfold nkZ
  rw [taK_o (q := 7 * k) (Or.inr (by omega)), taK_o (q := 7 * k + 2) (Or.inr (by omega)), taK_o (q := 7 * k + 5) (Or.inr (by omega))]
end
