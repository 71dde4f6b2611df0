theorem z_ext {p : Program} {l : Launch} {e : Env} {R : Room} {s : State} {m : MethodId} {args : Array Value} {below : List Frame} {meth : Method} {c : Code} {Q : State → Prop} {D : va_G} {A : Nat → Prop} {cs : Nat → ClassId} {nL N : Nat} {ad : Nat → Nat} {g : Nat → va_E} {k n pc : Nat} {lv : List (Nat × Value)} {st : List Value} {i M : Nat} {r r' : Nat → Int} (hi : i < N) (hg : g i = iA cs M r) (h : ∀ j, j < M → r j = r' j) (kk : ∀ g' : Nat → va_E, g' = va_up g i (iA cs M r') → zV p l e R s m args below meth c Q D A nL N ad g' k n pc lv st) : zV p l e R s m args below meth c Q D A nL N ad g k n pc lv st := by
  intro H locs ls hP hD hS hl
  have he := (wl_at (ad := ad) (g := g) hi).trans (by rw [hg])
  have hc : H[ad i]? = some (vp_cell (cs 1) (M, .inl (fun j => zI (r j)))) := hP i _ he
  have e9 : vp_cell (cs 1) (M, .inl (fun j => zI (r j))) = vp_cell (cs 1) (M, .inl (fun j => zI (r' j))) := by
    show arrV (cs 1) M (fun j => .int (zI (r j))) = arrV (cs 1) M (fun j => .int (zI (r' j)))
    unfold arrV
    congr 1
    apply Array.ext
    · simp
    · intro j h1 h2
      simp only [Array.getElem_ofFn]
      rw [h j (by simpa using h1)]
  rw [e9] at hc
  have hP1 := hP.set (e := iA cs M r') hD he hc (fun _ _ => rfl)
  have hD1 := hD.set (e := iA cs M r') he
  rw [wl_set] at hP1 hD1
  exact kk _ rfl H locs ls hP1 hD1 hS hl

abbrev okPack (cs : Nat → ClassId) (ad : Nat → Nat) (g : Nat → va_E) (a : Nat) : Prop := ∃ (sz ro : Int) (r : Nat → Int), (0 ≤ sz ∧ sz ≤ 12) ∧ isPack cs ad g a sz ro r
set_option maxRecDepth 100000 in
set_option maxHeartbeats 4000000 in
theorem c_X9_part (l : Launch) (D : va_G) (A : Nat → Prop) (cs : Nat → ClassId) (tt : Nat) (N : Nat) (ad : Nat → Nat) (g : Nat → va_E) (a b : Int) (ha : -9223372036854775808 ≤ a ∧ a ≤ 9223372036854775807) (hb : -9223372036854775808 ≤ b ∧ b ≤ 9223372036854775807) : zM l yX9_part cX9_part 4 (some .int) ({ frames := 1, cells := 0, slots := 0, locals := 60 } : Room) D A cs tt N ad g [.long (zJ (a)), .long (zJ (b))] (rI0 N ad fun r g' => (-2147483648 ≤ r ∧ r ≤ 2147483647) ∧ g = g') := by
  refine z_of (by decide) (Nat.le_of_ble_eq_true rfl) ?_
  intro p e s m below meth c C hr hlk hnm
  refine z_lv (lv' := [(0, .long (zJ (a))), (2, .long (zJ (b)))]) [0, 1] rfl ?_
  refine z_lload_n C 1 dX9_part_0 rfl ?_
  refine z_lconst (z := 0) C dX9_part_1 (by decide) ?_
  refine z_lcmp C dX9_part_2 (by omega) (by omega) ?_
  have hczr := cmpZ_r (a := b) (b := 0)
  refine z_if_ne (tgt := 10) C dX9_part_3 (by decide) (by omega) (fun hby1 => ?_) (fun hby1 => ?_)
  · have hcy2 : ¬ (b = 0) := fun e9 => hby1 (cmpZ_eq.mpr e9)
    refine z_lload_n C 0 dX9_part_10 rfl ?_
    refine z_lload_n C 1 dX9_part_11 rfl ?_
    refine z_ldiv C dX9_part_12 (by omega) (by omega) (by omega) ?_
    refine z_l2i C dX9_part_13 ?_
    obtain ⟨xy3, exy4, hxy5⟩ := zI_of (zI (a.tdiv b))
    rw [exy4]
    exact z_iret C hr hlk dX9_part_14 (by decide) (by decide) ⟨xy3, rfl, rfl, rfl, by omega, rfl⟩
  · have hcy2 : b = 0 := cmpZ_eq.mp hby1
    refine z_iconst (z := 0) C dX9_part_6 rfl ?_
    refine z_goto (tgt := 14) C dX9_part_7 (by decide) ?_
    exact z_iret C hr hlk dX9_part_14 (by decide) (by decide) ⟨0, rfl, rfl, rfl, by omega, rfl⟩

set_option maxRecDepth 100000 in
set_option maxHeartbeats 4000000 in
theorem c_X9_burden (l : Launch) (D : va_G) (A : Nat → Prop) (cs : Nat → ClassId) (tt : Nat) (N : Nat) (ad : Nat → Nat) (g : Nat → va_E) (z z1 : Int) (hz : -2147483648 ≤ z ∧ z ≤ 2147483647) (hz1 : -2147483648 ≤ z1 ∧ z1 ≤ 2147483647) : zM l yX9_burden cX9_burden 2 (some .int) ({ frames := 2, cells := 0, slots := 0, locals := 120 } : Room) D A cs tt N ad g [.int (zI (z)), .int (zI (z1))] (rI0 N ad fun r g' => (-2147483648 ≤ r ∧ r ≤ 2147483647) ∧ g = g') := by
  refine z_of (by decide) (Nat.le_of_ble_eq_true rfl) ?_
  intro p e s m below meth c C hr hlk hnm
  refine z_lv (lv' := [(0, .int (zI (z))), (1, .int (zI (z1)))]) [0, 1] rfl ?_
  refine z_iload_n C 0 dX9_burden_0 rfl ?_
  refine z_i2l C dX9_burden_1 (by omega) ?_
  refine z_iload_n C 1 dX9_burden_2 rfl ?_
  refine z_i2l C dX9_burden_3 (by omega) ?_
  refine z_lmul C dX9_burden_4 ?_
  refine z_ldc2 (z := 100) C dX9_burden_5 q_571 (by decide) ?_
  obtain ⟨xy1, exy2, hxy3⟩ := zJ_of (zJ (z * z1))
  rw [exy2]
  refine z_cS (As := [.long (zJ (xy1)), .long (zJ (100))]) (rest := []) C (c_X9_part l D A cs tt N ad _ (xy1) (100) (by omega) (by omega)) ms_yX9_part q_572 hd_yX9_part (by decide) (Nat.le_of_ble_eq_true rfl) (by decide) dX9_burden_8 rfl (kI0 fun vy4 gvy4 hvy4 => ?_)
  obtain ⟨hvy4, rfl⟩ := hvy4
  exact z_iret C hr hlk dX9_burden_11 (by decide) (by decide) ⟨vy4, rfl, rfl, rfl, by omega, rfl⟩

set_option maxRecDepth 100000 in
set_option maxHeartbeats 4000000 in
theorem c_X3_mass (l : Launch) (D : va_G) (A : Nat → Prop) (cs : Nat → ClassId) (tt : Nat) (N : Nat) (ad : Nat → Nat) (g : Nat → va_E) (a : Nat) (hN : a + 2 ≤ N) (sz ro : Int) (r : Nat → Int) (hz : 0 ≤ sz ∧ sz ≤ 12) (ha : isPack cs ad g a sz ro r) (z : Int) (hzl : 0 ≤ z ∧ z ≤ 11) : zM l yX3_mass cX3_mass 2 (some .int) ({ frames := 1, cells := 0, slots := 0, locals := 60 } : Room) D A cs tt N ad g [.ref (ad a), .int (zI (z))] (rI0 N ad fun r g' => (-2147483648 ≤ r ∧ r ≤ 2147483647) ∧ g = g') := by
  have hay1 : zAt ad (a) (ad a) := rfl
  have hay2 : zAt ad (a + 1) (ad (a + 1)) := rfl
  refine z_of (by decide) (Nat.le_of_ble_eq_true rfl) ?_
  intro p e s m below meth c C hr hlk hnm
  refine z_lv (lv' := [(0, .ref (ad a)), (1, .int (zI (z)))]) [0, 1] rfl ?_
  refine z_aload_n C 0 dX3_mass_0 rfl ?_
  refine z_get (v := .ref (ad (a + 1))) C (lt_A0 hN rfl) hay1 ha.1 rfl inA_X3 2 (by decide) q_162 rfl rfl dX3_mass_1 ?_
  refine z_bipush (z := 12) C dX3_mass_4 (by decide) ?_
  refine z_iload_n C 1 dX3_mass_6 rfl ?_
  refine z_iadd C dX3_mass_7 ?_
  refine z_iald C (lt_A (c := 1) hN rfl) hay2 ha.2 ((12 + z).toNat) (by omega) (by omega) (by decide) dX3_mass_8 ?_
  refine z_aload_n C 0 dX3_mass_9 rfl ?_
  refine z_get (v := .ref (ad (a + 1))) C (lt_A0 hN rfl) hay1 ha.1 rfl inA_X3 2 (by decide) q_162 rfl rfl dX3_mass_10 ?_
  refine z_bipush (z := 24) C dX3_mass_13 (by decide) ?_
  refine z_iload_n C 1 dX3_mass_15 rfl ?_
  refine z_iadd C dX3_mass_16 ?_
  refine z_iald C (lt_A (c := 1) hN rfl) hay2 ha.2 ((24 + z).toNat) (by omega) (by omega) (by decide) dX3_mass_17 ?_
  refine z_iadd C dX3_mass_18 ?_
  obtain ⟨xy3, exy4, hxy5⟩ := zI_of (zI ((r ((12 + z).toNat)) + (r ((24 + z).toNat))))
  rw [exy4]
  exact z_iret C hr hlk dX3_mass_19 (by decide) (by decide) ⟨xy3, rfl, rfl, rfl, by omega, rfl⟩

set_option maxRecDepth 100000 in
set_option maxHeartbeats 4000000 in
theorem c_X3_sum (l : Launch) (D : va_G) (A : Nat → Prop) (cs : Nat → ClassId) (tt : Nat) (N : Nat) (ad : Nat → Nat) (g : Nat → va_E) (a : Nat) (hN : a + 2 ≤ N) (sz ro : Int) (r : Nat → Int) (hz : 0 ≤ sz ∧ sz ≤ 12) (ha : isPack cs ad g a sz ro r) (z : Int) (hzr : 0 ≤ z ∧ z ≤ 72) : zM l yX3_sum cX3_sum 4 (some .int) ({ frames := 1, cells := 0, slots := 0, locals := 60 } : Room) D A cs tt N ad g [.ref (ad a), .int (zI (z))] (rI0 N ad fun r g' => (-2147483648 ≤ r ∧ r ≤ 2147483647) ∧ g = g') := by
  have hay1 : zAt ad (a) (ad a) := rfl
  have hay2 : zAt ad (a + 1) (ad (a + 1)) := rfl
  refine z_of (by decide) (Nat.le_of_ble_eq_true rfl) ?_
  intro p e s m below meth c C hr hlk hnm
  refine z_lv (lv' := [(0, .ref (ad a)), (1, .int (zI (z)))]) [0, 1] rfl ?_
  have lp : ∀ (n9 : Nat) (al : Int) (i : Int) (g1 : Nat → va_E), (sz - i).toNat = n9 → (g1 = g) → (-2147483648 ≤ al ∧ al ≤ 2147483647) → (0 ≤ i ∧ i ≤ 12) → zV p l e ({ frames := 1, cells := 0, slots := 0, locals := 60 } : Room) s m ([.ref (ad a), .int (zI (z))] : List Value).toArray below meth c (MQ below (zPost D A (rI0 N ad fun r g' => (-2147483648 ≤ r ∧ r ≤ 2147483647) ∧ g = g')) ([.ref (ad a), .int (zI (z))] : List Value).toArray s ({ frames := 1, cells := 0, slots := 0, locals := 60 } : Room).cells ({ frames := 1, cells := 0, slots := 0, locals := 60 } : Room).slots A) D A 4 (N) ad g1 (0) (0) 4 [(3, .int (zI (i))), (2, .int (zI (al))), (0, .ref (ad a)), (1, .int (zI (z)))] [] := by
    intro n9
    induction n9 using Nat.strongRecOn with
    | ind n9 ih =>
      intro al i g1 hm9 hg1 hv0 hv1
      subst hg1
      have hay3 : zAt ad (a) (ad a) := rfl
      have hay4 : zAt ad (a + 1) (ad (a + 1)) := rfl
      refine z_iload_n C 0 dX3_sum_4 rfl ?_
      refine z_aload_n C 2 dX3_sum_5 rfl ?_
      refine z_get (v := .int (zI (sz))) C (lt_A0 hN rfl) hay3 ha.1 rfl inA_X3 0 (by decide) q_154 rfl rfl dX3_sum_6 ?_
      refine z_icmp_ge (tgt := 29) C dX3_sum_9 (by decide) (by omega) (by omega) (fun hby5 => ?_) (fun hby5 => ?_)
      · refine z_iload_n C 1 dX3_sum_29 rfl ?_
        exact z_iret C hr hlk dX3_sum_30 (by decide) (by decide) ⟨al, rfl, rfl, rfl, by omega, rfl⟩
      · refine z_iload_n C 1 dX3_sum_12 rfl ?_
        refine z_aload_n C 2 dX3_sum_13 rfl ?_
        refine z_get (v := .ref (ad (a + 1))) C (lt_A0 hN rfl) hay3 ha.1 rfl inA_X3 2 (by decide) q_162 rfl rfl dX3_sum_14 ?_
        refine z_iload_n C 3 dX3_sum_17 rfl ?_
        refine z_iload_n C 0 dX3_sum_18 rfl ?_
        refine z_iadd C dX3_sum_19 ?_
        refine z_iald C (lt_A (c := 1) hN rfl) hay4 ha.2 ((z + i).toNat) (by omega) (by omega) (by decide) dX3_sum_20 ?_
        refine z_iadd C dX3_sum_21 ?_
        refine z_istore_n (lv' := [(2, .int (zI (al + (r ((z + i).toNat))))), (3, .int (zI (i))), (0, .ref (ad a)), (1, .int (zI (z)))]) C dX3_sum_22 rfl (by decide) rfl ?_
        refine z_iinc (z := i + 1) (lv' := [(3, .int (zI (i + 1))), (2, .int (zI (al + (r ((z + i).toNat))))), (0, .ref (ad a)), (1, .int (zI (z)))]) (j := 1) C dX3_sum_23 rfl rfl (by decide) rfl ?_
        refine z_goto (tgt := 4) C dX3_sum_26 (by decide) ?_
        obtain ⟨xy6, exy7, hxy8⟩ := zI_of (zI (al + (r ((z + i).toNat))))
        rw [exy7]
        refine z_lv (lv' := [(3, .int (zI (i + 1))), (2, .int (zI (xy6))), (0, .ref (ad a)), (1, .int (zI (z)))]) [0, 1, 2, 3] rfl ?_
        exact ih _ (by omega) (xy6) (i + 1) _ rfl rfl (by omega) (by omega)
  refine z_iconst (z := 0) C dX3_sum_0 rfl ?_
  refine z_istore_n (lv' := [(2, .int (zI (0))), (0, .ref (ad a)), (1, .int (zI (z)))]) C dX3_sum_1 rfl (by decide) rfl ?_
  refine z_iconst (z := 0) C dX3_sum_2 rfl ?_
  refine z_istore_n (lv' := [(3, .int (zI (0))), (2, .int (zI (0))), (0, .ref (ad a)), (1, .int (zI (z)))]) C dX3_sum_3 rfl (by decide) rfl ?_
  refine z_lv (lv' := [(3, .int (zI (0))), (2, .int (zI (0))), (0, .ref (ad a)), (1, .int (zI (z)))]) [0, 1, 2, 3] rfl ?_
  exact lp _ (0) (0) _ rfl rfl (by omega) (by omega)

set_option maxRecDepth 100000 in
set_option maxHeartbeats 4000000 in
theorem c_X3_massAbove (l : Launch) (D : va_G) (A : Nat → Prop) (cs : Nat → ClassId) (tt : Nat) (N : Nat) (ad : Nat → Nat) (g : Nat → va_E) (a : Nat) (hN : a + 2 ≤ N) (sz ro : Int) (r : Nat → Int) (hz : 0 ≤ sz ∧ sz ≤ 12) (ha : isPack cs ad g a sz ro r) (z : Int) (hzl : -1 ≤ z ∧ z ≤ 11) : zM l yX3_massAbove cX3_massAbove 4 (some .int) ({ frames := 2, cells := 0, slots := 0, locals := 120 } : Room) D A cs tt N ad g [.ref (ad a), .int (zI (z))] (rI0 N ad fun r g' => (-2147483648 ≤ r ∧ r ≤ 2147483647) ∧ g = g') := by
  have hay1 : zAt ad (a) (ad a) := rfl
  have hay2 : zAt ad (a + 1) (ad (a + 1)) := rfl
  refine z_of (by decide) (Nat.le_of_ble_eq_true rfl) ?_
  intro p e s m below meth c C hr hlk hnm
  refine z_lv (lv' := [(0, .ref (ad a)), (1, .int (zI (z)))]) [0, 1] rfl ?_
  have lp : ∀ (n9 : Nat) (al : Int) (i : Int) (g1 : Nat → va_E), (sz - i).toNat = n9 → (g1 = g) → (-2147483648 ≤ al ∧ al ≤ 2147483647) → (0 ≤ i ∧ i ≤ 12) → zV p l e ({ frames := 2, cells := 0, slots := 0, locals := 120 } : Room) s m ([.ref (ad a), .int (zI (z))] : List Value).toArray below meth c (MQ below (zPost D A (rI0 N ad fun r g' => (-2147483648 ≤ r ∧ r ≤ 2147483647) ∧ g = g')) ([.ref (ad a), .int (zI (z))] : List Value).toArray s ({ frames := 2, cells := 0, slots := 0, locals := 120 } : Room).cells ({ frames := 2, cells := 0, slots := 0, locals := 120 } : Room).slots A) D A 4 (N) ad g1 (0) (0) 6 [(3, .int (zI (i))), (2, .int (zI (al))), (0, .ref (ad a)), (1, .int (zI (z)))] [] := by
    intro n9
    induction n9 using Nat.strongRecOn with
    | ind n9 ih =>
      intro al i g1 hm9 hg1 hv0 hv1
      subst hg1
      have hay3 : zAt ad (a) (ad a) := rfl
      have hay4 : zAt ad (a + 1) (ad (a + 1)) := rfl
      refine z_iload_n C 0 dX3_massAbove_6 rfl ?_
      refine z_aload_n C 2 dX3_massAbove_7 rfl ?_
      refine z_get (v := .int (zI (sz))) C (lt_A0 hN rfl) hay3 ha.1 rfl inA_X3 0 (by decide) q_154 rfl rfl dX3_massAbove_8 ?_
      refine z_icmp_ge (tgt := 28) C dX3_massAbove_11 (by decide) (by omega) (by omega) (fun hby5 => ?_) (fun hby5 => ?_)
      · refine z_iload_n C 1 dX3_massAbove_28 rfl ?_
        exact z_iret C hr hlk dX3_massAbove_29 (by decide) (by decide) ⟨al, rfl, rfl, rfl, by omega, rfl⟩
      · refine z_iload_n C 1 dX3_massAbove_14 rfl ?_
        refine z_aload_n C 2 dX3_massAbove_15 rfl ?_
        refine z_iload_n C 0 dX3_massAbove_16 rfl ?_
        refine z_cV (As := [.int (zI (i))]) (rest := [.int (zI (al))]) (ci := 5) C (c_X3_mass l D A cs tt N ad _ (a) (by omega) _ _ _ (by omega) ⟨ha.1, ha.2⟩  (i) (by omega)) (lt_A0 hN rfl) hay3 ha.1 rfl rfl mv_yX3_mass q_510 hd_yX3_mass (by decide) (Nat.le_of_ble_eq_true rfl) (by decide) dX3_massAbove_17 rfl (kI0 fun vy6 gvy6 hvy6 => ?_)
        obtain ⟨hvy6, rfl⟩ := hvy6
        refine z_iadd C dX3_massAbove_20 ?_
        refine z_istore_n (lv' := [(2, .int (zI (al + vy6))), (3, .int (zI (i))), (0, .ref (ad a)), (1, .int (zI (z)))]) C dX3_massAbove_21 rfl (by decide) rfl ?_
        refine z_iinc (z := i + 1) (lv' := [(3, .int (zI (i + 1))), (2, .int (zI (al + vy6))), (0, .ref (ad a)), (1, .int (zI (z)))]) (j := 1) C dX3_massAbove_22 rfl rfl (by decide) rfl ?_
        refine z_goto (tgt := 6) C dX3_massAbove_25 (by decide) ?_
        obtain ⟨xy7, exy8, hxy9⟩ := zI_of (zI (al + vy6))
        rw [exy8]
        refine z_lv (lv' := [(3, .int (zI (i + 1))), (2, .int (zI (xy7))), (0, .ref (ad a)), (1, .int (zI (z)))]) [0, 1, 2, 3] rfl ?_
        exact ih _ (by omega) (xy7) (i + 1) _ rfl rfl (by omega) (by omega)
  refine z_iconst (z := 0) C dX3_massAbove_0 rfl ?_
  refine z_istore_n (lv' := [(2, .int (zI (0))), (0, .ref (ad a)), (1, .int (zI (z)))]) C dX3_massAbove_1 rfl (by decide) rfl ?_
  refine z_iload_n C 2 dX3_massAbove_2 rfl ?_
  refine z_iconst (z := 1) C dX3_massAbove_3 rfl ?_
  refine z_iadd C dX3_massAbove_4 ?_
  refine z_istore_n (lv' := [(3, .int (zI (z + 1))), (2, .int (zI (0))), (0, .ref (ad a)), (1, .int (zI (z)))]) C dX3_massAbove_5 rfl (by decide) rfl ?_
  refine z_lv (lv' := [(3, .int (zI (z + 1))), (2, .int (zI (0))), (0, .ref (ad a)), (1, .int (zI (z)))]) [0, 1, 2, 3] rfl ?_
  exact lp _ (0) (z + 1) _ rfl rfl (by omega) (by omega)

set_option maxRecDepth 100000 in
set_option maxHeartbeats 4000000 in
theorem c_X3_nameOf (l : Launch) (D : va_G) (A : Nat → Prop) (cs : Nat → ClassId) (tt : Nat) (N : Nat) (ad : Nat → Nat) (g : Nat → va_E) (a : Nat) (hN : a + 2 ≤ N) (sz ro : Int) (r : Nat → Int) (hz : 0 ≤ sz ∧ sz ≤ 12) (ha : isPack cs ad g a sz ro r) (z : Int) (hzl : -2147483648 ≤ z ∧ z ≤ 2147483647) : zM l yX3_nameOf cX3_nameOf 2 (some .int) ({ frames := 1, cells := 0, slots := 0, locals := 60 } : Room) D A cs tt N ad g [.ref (ad a), .int (zI (z))] (rI0 N ad fun r g' => (-2147483648 ≤ r ∧ r ≤ 2147483647) ∧ g = g') := by
  have hay1 : zAt ad (a) (ad a) := rfl
  have hay2 : zAt ad (a + 1) (ad (a + 1)) := rfl
  refine z_of (by decide) (Nat.le_of_ble_eq_true rfl) ?_
  intro p e s m below meth c C hr hlk hnm
  refine z_lv (lv' := [(0, .ref (ad a)), (1, .int (zI (z)))]) [0, 1] rfl ?_
  refine z_iload_n C 1 dX3_nameOf_0 rfl ?_
  refine z_if_lt (tgt := 24) C dX3_nameOf_1 (by decide) (by omega) (fun hby3 => ?_) (fun hby3 => ?_)
  · refine z_iconst (z := -1) C dX3_nameOf_24 rfl ?_
    exact z_iret C hr hlk dX3_nameOf_25 (by decide) (by decide) ⟨-1, rfl, rfl, rfl, by omega, rfl⟩
  · refine z_iload_n C 1 dX3_nameOf_4 rfl ?_
    refine z_aload_n C 0 dX3_nameOf_5 rfl ?_
    refine z_get (v := .int (zI (sz))) C (lt_A0 hN rfl) hay1 ha.1 rfl inA_X3 0 (by decide) q_154 rfl rfl dX3_nameOf_6 ?_
    refine z_icmp_ge (tgt := 24) C dX3_nameOf_9 (by decide) (by omega) (by omega) (fun hby4 => ?_) (fun hby4 => ?_)
    · refine z_iconst (z := -1) C dX3_nameOf_24 rfl ?_
      exact z_iret C hr hlk dX3_nameOf_25 (by decide) (by decide) ⟨-1, rfl, rfl, rfl, by omega, rfl⟩
    · refine z_aload_n C 0 dX3_nameOf_12 rfl ?_
      refine z_get (v := .ref (ad (a + 1))) C (lt_A0 hN rfl) hay1 ha.1 rfl inA_X3 2 (by decide) q_162 rfl rfl dX3_nameOf_13 ?_
      refine z_bipush (z := 72) C dX3_nameOf_16 (by decide) ?_
      refine z_iload_n C 1 dX3_nameOf_18 rfl ?_
      refine z_iadd C dX3_nameOf_19 ?_
      refine z_iald C (lt_A (c := 1) hN rfl) hay2 ha.2 ((72 + z).toNat) (by omega) (by omega) (by decide) dX3_nameOf_20 ?_
      refine z_goto (tgt := 25) C dX3_nameOf_21 (by decide) ?_
      obtain ⟨xy5, exy6, hxy7⟩ := zI_of (zI (r ((72 + z).toNat)))
      rw [exy6]
      exact z_iret C hr hlk dX3_nameOf_25 (by decide) (by decide) ⟨xy5, rfl, rfl, rfl, by omega, rfl⟩

set_option maxRecDepth 100000 in
set_option maxHeartbeats 4000000 in
theorem c_X3_has (l : Launch) (D : va_G) (A : Nat → Prop) (cs : Nat → ClassId) (tt : Nat) (N : Nat) (ad : Nat → Nat) (g : Nat → va_E) (a : Nat) (hN : a + 2 ≤ N) (sz ro : Int) (r : Nat → Int) (hz : 0 ≤ sz ∧ sz ≤ 12) (ha : isPack cs ad g a sz ro r) (z : Int) (hzl : -2147483648 ≤ z ∧ z ≤ 2147483647) : zM l yX3_has cX3_has 3 (some .boolean) ({ frames := 1, cells := 0, slots := 0, locals := 60 } : Room) D A cs tt N ad g [.ref (ad a), .int (zI (z))] (rI0 N ad fun r g' => (0 ≤ r ∧ r ≤ 1) ∧ g = g') := by
  have hay1 : zAt ad (a) (ad a) := rfl
  have hay2 : zAt ad (a + 1) (ad (a + 1)) := rfl
  refine z_of (by decide) (Nat.le_of_ble_eq_true rfl) ?_
  intro p e s m below meth c C hr hlk hnm
  refine z_lv (lv' := [(0, .ref (ad a)), (1, .int (zI (z)))]) [0, 1] rfl ?_
  have lp : ∀ (n9 : Nat) (i : Int) (g1 : Nat → va_E), (sz - i).toNat = n9 → (g1 = g) → (0 ≤ i ∧ i ≤ 12) → zV p l e ({ frames := 1, cells := 0, slots := 0, locals := 60 } : Room) s m ([.ref (ad a), .int (zI (z))] : List Value).toArray below meth c (MQ below (zPost D A (rI0 N ad fun r g' => (0 ≤ r ∧ r ≤ 1) ∧ g = g')) ([.ref (ad a), .int (zI (z))] : List Value).toArray s ({ frames := 1, cells := 0, slots := 0, locals := 60 } : Room).cells ({ frames := 1, cells := 0, slots := 0, locals := 60 } : Room).slots A) D A 3 (N) ad g1 (0) (0) 2 [(2, .int (zI (i))), (0, .ref (ad a)), (1, .int (zI (z)))] [] := by
    intro n9
    induction n9 using Nat.strongRecOn with
    | ind n9 ih =>
      intro i g1 hm9 hg1 hv0
      subst hg1
      have hay3 : zAt ad (a) (ad a) := rfl
      have hay4 : zAt ad (a + 1) (ad (a + 1)) := rfl
      refine z_iload_n C 0 dX3_has_2 rfl ?_
      refine z_aload_n C 1 dX3_has_3 rfl ?_
      refine z_get (v := .int (zI (sz))) C (lt_A0 hN rfl) hay3 ha.1 rfl inA_X3 0 (by decide) q_154 rfl rfl dX3_has_4 ?_
      refine z_icmp_ge (tgt := 31) C dX3_has_7 (by decide) (by omega) (by omega) (fun hby5 => ?_) (fun hby5 => ?_)
      · refine z_iconst (z := 0) C dX3_has_31 rfl ?_
        exact z_zret C hr hlk dX3_has_32 (by decide) (by decide) (by decide) ⟨0, rfl, rfl, rfl, by omega, rfl⟩
      · refine z_aload_n C 1 dX3_has_10 rfl ?_
        refine z_get (v := .ref (ad (a + 1))) C (lt_A0 hN rfl) hay3 ha.1 rfl inA_X3 2 (by decide) q_162 rfl rfl dX3_has_11 ?_
        refine z_bipush (z := 72) C dX3_has_14 (by decide) ?_
        refine z_iload_n C 0 dX3_has_16 rfl ?_
        refine z_iadd C dX3_has_17 ?_
        refine z_iald C (lt_A (c := 1) hN rfl) hay4 ha.2 ((72 + i).toNat) (by omega) (by omega) (by decide) dX3_has_18 ?_
        refine z_iload_n C 2 dX3_has_19 rfl ?_
        obtain ⟨xy6, exy7, hxy8⟩ := zI_of (zI (r ((72 + i).toNat)))
        rw [exy7]
        refine z_icmp_ne (tgt := 25) C dX3_has_20 (by decide) (by omega) (by omega) (fun hby9 => ?_) (fun hby9 => ?_)
        · refine z_iinc (z := i + 1) (lv' := [(2, .int (zI (i + 1))), (0, .ref (ad a)), (1, .int (zI (z)))]) (j := 0) C dX3_has_25 rfl rfl (by decide) rfl ?_
          refine z_goto (tgt := 2) C dX3_has_28 (by decide) ?_
          refine z_lv (lv' := [(2, .int (zI (i + 1))), (0, .ref (ad a)), (1, .int (zI (z)))]) [0, 1, 2] rfl ?_
          exact ih _ (by omega) (i + 1) _ rfl rfl (by omega)
        · refine z_iconst (z := 1) C dX3_has_23 rfl ?_
          exact z_zret C hr hlk dX3_has_24 (by decide) (by decide) (by decide) ⟨1, rfl, rfl, rfl, by omega, rfl⟩
  refine z_iconst (z := 0) C dX3_has_0 rfl ?_
  refine z_istore_n (lv' := [(2, .int (zI (0))), (0, .ref (ad a)), (1, .int (zI (z)))]) C dX3_has_1 rfl (by decide) rfl ?_
  refine z_lv (lv' := [(2, .int (zI (0))), (0, .ref (ad a)), (1, .int (zI (z)))]) [0, 1, 2] rfl ?_
  exact lp _ (0) _ rfl rfl (by omega)

set_option maxRecDepth 100000 in
set_option maxHeartbeats 4000000 in
theorem c_X3_namesIn (l : Launch) (D : va_G) (A : Nat → Prop) (cs : Nat → ClassId) (tt : Nat) (N : Nat) (ad : Nat → Nat) (g : Nat → va_E) (a : Nat) (hN : a + 2 ≤ N) (sz ro : Int) (r : Nat → Int) (hz : 0 ≤ sz ∧ sz ≤ 12) (ha : isPack cs ad g a sz ro r) (a2 : Nat) (hN2 : a2 + 2 ≤ N) (sz2 ro2 : Int) (r2 : Nat → Int) (hz2 : 0 ≤ sz2 ∧ sz2 ≤ 12) (ha2 : isPack cs ad g a2 sz2 ro2 r2) : zM l yX3_namesIn cX3_namesIn 4 (some .int) ({ frames := 2, cells := 0, slots := 0, locals := 120 } : Room) D A cs tt N ad g [.ref (ad a), .ref (ad a2)] (rI0 N ad fun r g' => (-2147483648 ≤ r ∧ r ≤ 2147483647) ∧ g = g') := by
  have hay1 : zAt ad (a) (ad a) := rfl
  have hay2 : zAt ad (a + 1) (ad (a + 1)) := rfl
  have hay3 : zAt ad (a2) (ad a2) := rfl
  have hay4 : zAt ad (a2 + 1) (ad (a2 + 1)) := rfl
  refine z_of (by decide) (Nat.le_of_ble_eq_true rfl) ?_
  intro p e s m below meth c C hr hlk hnm
  refine z_lv (lv' := [(0, .ref (ad a)), (1, .ref (ad a2))]) [0, 1] rfl ?_
  have lp : ∀ (n9 : Nat) (al : Int) (i : Int) (g1 : Nat → va_E), (sz - i).toNat = n9 → (g1 = g) → (0 ≤ al ∧ al ≤ i) → (0 ≤ i ∧ i ≤ 12) → zV p l e ({ frames := 2, cells := 0, slots := 0, locals := 120 } : Room) s m ([.ref (ad a), .ref (ad a2)] : List Value).toArray below meth c (MQ below (zPost D A (rI0 N ad fun r g' => (-2147483648 ≤ r ∧ r ≤ 2147483647) ∧ g = g')) ([.ref (ad a), .ref (ad a2)] : List Value).toArray s ({ frames := 2, cells := 0, slots := 0, locals := 120 } : Room).cells ({ frames := 2, cells := 0, slots := 0, locals := 120 } : Room).slots A) D A 4 (N) ad g1 (0) (0) 4 [(3, .int (zI (i))), (2, .int (zI (al))), (0, .ref (ad a)), (1, .ref (ad a2))] [] := by
    intro n9
    induction n9 using Nat.strongRecOn with
    | ind n9 ih =>
      intro al i g1 hm9 hg1 hv0 hv1
      subst hg1
      have hay5 : zAt ad (a) (ad a) := rfl
      have hay6 : zAt ad (a + 1) (ad (a + 1)) := rfl
      have hay7 : zAt ad (a2) (ad a2) := rfl
      have hay8 : zAt ad (a2 + 1) (ad (a2 + 1)) := rfl
      refine z_iload_n C 0 dX3_namesIn_4 rfl ?_
      refine z_aload_n C 2 dX3_namesIn_5 rfl ?_
      refine z_get (v := .int (zI (sz))) C (lt_A0 hN rfl) hay5 ha.1 rfl inA_X3 0 (by decide) q_154 rfl rfl dX3_namesIn_6 ?_
      refine z_icmp_ge (tgt := 37) C dX3_namesIn_9 (by decide) (by omega) (by omega) (fun hby9 => ?_) (fun hby9 => ?_)
      · refine z_iload_n C 1 dX3_namesIn_37 rfl ?_
        exact z_iret C hr hlk dX3_namesIn_38 (by decide) (by decide) ⟨al, rfl, rfl, rfl, by omega, rfl⟩
      · refine z_aload_n C 3 dX3_namesIn_12 rfl ?_
        refine z_aload_n C 2 dX3_namesIn_13 rfl ?_
        refine z_get (v := .ref (ad (a + 1))) C (lt_A0 hN rfl) hay5 ha.1 rfl inA_X3 2 (by decide) q_162 rfl rfl dX3_namesIn_14 ?_
        refine z_bipush (z := 72) C dX3_namesIn_17 (by decide) ?_
        refine z_iload_n C 0 dX3_namesIn_19 rfl ?_
        refine z_iadd C dX3_namesIn_20 ?_
        refine z_iald C (lt_A (c := 1) hN rfl) hay6 ha.2 ((72 + i).toNat) (by omega) (by omega) (by decide) dX3_namesIn_21 ?_
        obtain ⟨xy10, exy11, hxy12⟩ := zI_of (zI (r ((72 + i).toNat)))
        rw [exy11]
        refine z_cV (As := [.int (zI (xy10))]) (rest := []) (ci := 5) C (c_X3_has l D A cs tt N ad _ (a2) (by omega) _ _ _ (by omega) ⟨ha2.1, ha2.2⟩  (xy10) (by omega)) (by omega) hay7 ha2.1 rfl rfl mv_yX3_has q_1333 hd_yX3_has (by decide) (Nat.le_of_ble_eq_true rfl) (by decide) dX3_namesIn_22 rfl (kI0 fun vy13 gvy13 hvy13 => ?_)
        obtain ⟨hvy13, rfl⟩ := hvy13
        refine z_if_eq (tgt := 31) C dX3_namesIn_25 (by decide) (by omega) (fun hby14 => ?_) (fun hby14 => ?_)
        · refine z_iinc (z := i + 1) (lv' := [(3, .int (zI (i + 1))), (2, .int (zI (al))), (0, .ref (ad a)), (1, .ref (ad a2))]) (j := 0) C dX3_namesIn_31 rfl rfl (by decide) rfl ?_
          refine z_goto (tgt := 4) C dX3_namesIn_34 (by decide) ?_
          refine z_lv (lv' := [(3, .int (zI (i + 1))), (2, .int (zI (al))), (0, .ref (ad a)), (1, .ref (ad a2))]) [0, 1, 2, 3] rfl ?_
          exact ih _ (by omega) (al) (i + 1) _ rfl rfl (by omega) (by omega)
        · refine z_iinc (z := al + 1) (lv' := [(2, .int (zI (al + 1))), (3, .int (zI (i))), (0, .ref (ad a)), (1, .ref (ad a2))]) (j := 1) C dX3_namesIn_28 rfl rfl (by decide) rfl ?_
          refine z_iinc (z := i + 1) (lv' := [(3, .int (zI (i + 1))), (2, .int (zI (al + 1))), (0, .ref (ad a)), (1, .ref (ad a2))]) (j := 1) C dX3_namesIn_31 rfl rfl (by decide) rfl ?_
          refine z_goto (tgt := 4) C dX3_namesIn_34 (by decide) ?_
          refine z_lv (lv' := [(3, .int (zI (i + 1))), (2, .int (zI (al + 1))), (0, .ref (ad a)), (1, .ref (ad a2))]) [0, 1, 2, 3] rfl ?_
          exact ih _ (by omega) (al + 1) (i + 1) _ rfl rfl (by omega) (by omega)
  refine z_iconst (z := 0) C dX3_namesIn_0 rfl ?_
  refine z_istore_n (lv' := [(2, .int (zI (0))), (0, .ref (ad a)), (1, .ref (ad a2))]) C dX3_namesIn_1 rfl (by decide) rfl ?_
  refine z_iconst (z := 0) C dX3_namesIn_2 rfl ?_
  refine z_istore_n (lv' := [(3, .int (zI (0))), (2, .int (zI (0))), (0, .ref (ad a)), (1, .ref (ad a2))]) C dX3_namesIn_3 rfl (by decide) rfl ?_
  refine z_lv (lv' := [(3, .int (zI (0))), (2, .int (zI (0))), (0, .ref (ad a)), (1, .ref (ad a2))]) [0, 1, 2, 3] rfl ?_
  exact lp _ (0) (0) _ rfl rfl (by omega) (by omega)

set_option maxRecDepth 100000 in
set_option maxHeartbeats 4000000 in
theorem c_X5_of (l : Launch) (D : va_G) (A : Nat → Prop) (cs : Nat → ClassId) (tt : Nat) (N : Nat) (ad : Nat → Nat) (g : Nat → va_E) (b : Nat) (hNb : b + 7 ≤ N) (sl ho ua : Int) (st op ai fa mu tb : Nat → Int) (hb : isPlan cs ad g b sl ho ua st op ai fa mu tb) (z z1 : Int) (hz : -2147483648 ≤ z ∧ z ≤ 2147483647) (hz1 : -2147483648 ≤ z1 ∧ z1 ≤ 2147483647) : zM l yX5_of cX5_of 4 (some .int) ({ frames := 1, cells := 0, slots := 0, locals := 60 } : Room) D A cs tt N ad g [.ref (ad b), .int (zI (z)), .int (zI (z1))] (rI0 N ad fun r g' => (-2147483648 ≤ r ∧ r ≤ 2147483647) ∧ g = g') := by
  have hay1 : zAt ad (b) (ad b) := rfl
  have hay2 : zAt ad (b + 1) (ad (b + 1)) := rfl
  have hay3 : zAt ad (b + 2) (ad (b + 2)) := rfl
  have hay4 : zAt ad (b + 3) (ad (b + 3)) := rfl
  have hay5 : zAt ad (b + 4) (ad (b + 4)) := rfl
  have hay6 : zAt ad (b + 5) (ad (b + 5)) := rfl
  have hay7 : zAt ad (b + 6) (ad (b + 6)) := rfl
  refine z_of (by decide) (Nat.le_of_ble_eq_true rfl) ?_
  intro p e s m below meth c C hr hlk hnm
  refine z_lv (lv' := [(0, .ref (ad b)), (1, .int (zI (z))), (2, .int (zI (z1)))]) [0, 1, 2] rfl ?_
  refine z_iload_n C 1 dX5_of_0 rfl ?_
  refine z_iload_n C 2 dX5_of_1 rfl ?_
  refine z_iadd C dX5_of_2 ?_
  refine z_istore_n (lv' := [(3, .int (zI (z + z1))), (0, .ref (ad b)), (1, .int (zI (z))), (2, .int (zI (z1)))]) C dX5_of_3 rfl (by decide) rfl ?_
  refine z_iload_n C 0 dX5_of_4 rfl ?_
  obtain ⟨xy8, exy9, hxy10⟩ := zI_of (zI (z + z1))
  rw [exy9]
  refine z_if_lt (tgt := 26) C dX5_of_5 (by decide) (by omega) (fun hby11 => ?_) (fun hby11 => ?_)
  · refine z_iconst (z := 0) C dX5_of_26 rfl ?_
    exact z_iret C hr hlk dX5_of_27 (by decide) (by decide) ⟨0, rfl, rfl, rfl, by omega, rfl⟩
  · refine z_iload_n C 0 dX5_of_8 rfl ?_
    refine z_aload_n C 1 dX5_of_9 rfl ?_
    refine z_get (v := .ref (ad (b + 6))) C (by omega) hay1 hb.1 rfl inA_X5 8 (by decide) q_113 rfl rfl dX5_of_10 ?_
    refine z_alen (z := 15) C (by omega) hay7 hb.2.2.2.2.2.2 1 rfl rfl dX5_of_13 ?_
    refine z_icmp_ge (tgt := 26) C dX5_of_14 (by decide) (by omega) (by omega) (fun hby12 => ?_) (fun hby12 => ?_)
    · refine z_iconst (z := 0) C dX5_of_26 rfl ?_
      exact z_iret C hr hlk dX5_of_27 (by decide) (by decide) ⟨0, rfl, rfl, rfl, by omega, rfl⟩
    · refine z_aload_n C 1 dX5_of_17 rfl ?_
      refine z_get (v := .ref (ad (b + 6))) C (by omega) hay1 hb.1 rfl inA_X5 8 (by decide) q_113 rfl rfl dX5_of_18 ?_
      refine z_iload_n C 0 dX5_of_21 rfl ?_
      refine z_iald C (by omega) hay7 hb.2.2.2.2.2.2 ((xy8).toNat) (by omega) (by omega) (by decide) dX5_of_22 ?_
      refine z_goto (tgt := 27) C dX5_of_23 (by decide) ?_
      obtain ⟨xy13, exy14, hxy15⟩ := zI_of (zI (tb ((xy8).toNat)))
      rw [exy14]
      exact z_iret C hr hlk dX5_of_27 (by decide) (by decide) ⟨xy13, rfl, rfl, rfl, by omega, rfl⟩

set_option maxRecDepth 100000 in
set_option maxHeartbeats 4000000 in
theorem c_X3_grade (l : Launch) (D : va_G) (A : Nat → Prop) (cs : Nat → ClassId) (tt : Nat) (N : Nat) (ad : Nat → Nat) (g : Nat → va_E) (a : Nat) (hN : a + 2 ≤ N) (sz ro : Int) (r : Nat → Int) (hz : 0 ≤ sz ∧ sz ≤ 12) (ha : isPack cs ad g a sz ro r) (z : Int) (hzl : 0 ≤ z ∧ z ≤ 11) (z1 : Int) (hz1 : -2147483648 ≤ z1 ∧ z1 ≤ 2147483647) : zM l yX3_grade cX3_grade 5 (some .int) ({ frames := 2, cells := 0, slots := 0, locals := 120 } : Room) D A cs tt N ad g [.ref (ad a), .int (zI (z)), .int (zI (z1))] (rI0 N ad fun r g' => (-2147483648 ≤ r ∧ r ≤ 2147483647) ∧ g = g') := by
  have hay1 : zAt ad (a) (ad a) := rfl
  have hay2 : zAt ad (a + 1) (ad (a + 1)) := rfl
  refine z_of (by decide) (Nat.le_of_ble_eq_true rfl) ?_
  intro p e s m below meth c C hr hlk hnm
  refine z_lv (lv' := [(0, .ref (ad a)), (1, .int (zI (z))), (2, .int (zI (z1)))]) [0, 1, 2] rfl ?_
  refine z_iload_n C 1 dX3_grade_0 rfl ?_
  refine z_iconst (z := 1) C dX3_grade_1 rfl ?_
  refine z_iadd C dX3_grade_2 ?_
  refine z_aload_n C 0 dX3_grade_3 rfl ?_
  refine z_get (v := .int (zI (sz))) C (lt_A0 hN rfl) hay1 ha.1 rfl inA_X3 0 (by decide) q_154 rfl rfl dX3_grade_4 ?_
  refine z_icmp_ge (tgt := 24) C dX3_grade_7 (by decide) (by omega) (by omega) (fun hby3 => ?_) (fun hby3 => ?_)
  · refine z_iload_n C 2 dX3_grade_24 rfl ?_
    refine z_iconst (z := 0) C dX3_grade_25 rfl ?_
    refine z_mmin C q_483 q_473 q_20 q_474 (by omega) (by omega) (by decide) (Nat.le_of_ble_eq_true rfl) (by decide) (by decide) dX3_grade_26 ?_
    obtain ⟨xy4, exy5, hxy6⟩ := mm_min (z1) (0)
    rw [exy5]
    refine z_istore_n (lv' := [(3, .int (zI (xy4))), (0, .ref (ad a)), (1, .int (zI (z))), (2, .int (zI (z1)))]) C dX3_grade_29 rfl (by decide) rfl ?_
    refine z_iload_n C 2 dX3_grade_30 rfl ?_
    refine z_if_le (tgt := 48) C dX3_grade_31 (by decide) (by omega) (fun hby7 => ?_) (fun hby7 => ?_)
    · refine z_iconst (z := 0) C dX3_grade_48 rfl ?_
      refine z_istore (lv' := [(4, .int (zI (0))), (3, .int (zI (xy4))), (0, .ref (ad a)), (1, .int (zI (z))), (2, .int (zI (z1)))]) C dX3_grade_49 (by decide) rfl ?_
      refine z_ldc2 (z := 10) C dX3_grade_51 q_525 (by decide) ?_
      refine z_iload_n C 1 dX3_grade_54 rfl ?_
      refine z_iload C 0 dX3_grade_55 rfl ?_
      refine z_isub C dX3_grade_57 ?_
      refine z_mabs C q_526 q_527 q_20 q_528 (by omega) (by decide) (Nat.le_of_ble_eq_true rfl) (by decide) (by decide) dX3_grade_58 ?_
      obtain ⟨xy8, exy9, hxy10⟩ := mm_abs (xy4 - 0)
      rw [exy9]
      obtain ⟨xy11, exy12, hxy13⟩ := zI_of (zI (xy8))
      rw [exy12]
      refine z_i2l C dX3_grade_61 (by omega) ?_
      refine z_lmul C dX3_grade_62 ?_
      refine z_aload_n C 2 dX3_grade_63 rfl ?_
      refine z_get (v := .ref (ad (a + 1))) C (lt_A0 hN rfl) hay1 ha.1 rfl inA_X3 2 (by decide) q_162 rfl rfl dX3_grade_64 ?_
      refine z_bipush (z := 36) C dX3_grade_67 (by decide) ?_
      refine z_iload_n C 3 dX3_grade_69 rfl ?_
      refine z_iadd C dX3_grade_70 ?_
      refine z_iald C (lt_A (c := 1) hN rfl) hay2 ha.2 ((36 + z).toNat) (by omega) (by omega) (by decide) dX3_grade_71 ?_
      obtain ⟨xy14, exy15, hxy16⟩ := zI_of (zI (r ((36 + z).toNat)))
      rw [exy15]
      refine z_i2l C dX3_grade_72 (by omega) ?_
      refine z_cSN (As := [.long (zJ (10 * xy11)), .long (zJ (xy14))]) (rest := []) C (c_X9_part l D A cs tt N ad _ (10 * xy11) (xy14) (by omega) (by omega)) ms_yX9_part n_466 hd_yX9_part (by decide) (Nat.le_of_ble_eq_true rfl) (by decide) dX3_grade_73 rfl (kI0 fun vy17 gvy17 hvy17 => ?_)
      obtain ⟨hvy17, rfl⟩ := hvy17
      exact z_iret C hr hlk dX3_grade_76 (by decide) (by decide) ⟨vy17, rfl, rfl, rfl, by omega, rfl⟩
    · refine z_aload_n C 1 dX3_grade_34 rfl ?_
      refine z_get (v := .ref (ad (a + 1))) C (lt_A0 hN rfl) hay1 ha.1 rfl inA_X3 2 (by decide) q_162 rfl rfl dX3_grade_35 ?_
      refine z_bipush (z := 48) C dX3_grade_38 (by decide) ?_
      refine z_iload_n C 2 dX3_grade_40 rfl ?_
      refine z_iadd C dX3_grade_41 ?_
      refine z_iconst (z := 1) C dX3_grade_42 rfl ?_
      refine z_isub C dX3_grade_43 ?_
      refine z_iald C (lt_A (c := 1) hN rfl) hay2 ha.2 (((48 + z) - 1).toNat) (by omega) (by omega) (by decide) dX3_grade_44 ?_
      refine z_goto (tgt := 49) C dX3_grade_45 (by decide) ?_
      refine z_istore (lv' := [(4, .int (zI (r (((48 + z) - 1).toNat)))), (3, .int (zI (xy4))), (0, .ref (ad a)), (1, .int (zI (z))), (2, .int (zI (z1)))]) C dX3_grade_49 (by decide) rfl ?_
      refine z_ldc2 (z := 10) C dX3_grade_51 q_525 (by decide) ?_
      refine z_iload_n C 1 dX3_grade_54 rfl ?_
      refine z_iload C 0 dX3_grade_55 rfl ?_
      refine z_isub C dX3_grade_57 ?_
      obtain ⟨xy18, exy19, hxy20⟩ := zI_of (zI (xy4 - (r (((48 + z) - 1).toNat))))
      rw [exy19]
      refine z_mabs C q_526 q_527 q_20 q_528 (by omega) (by decide) (Nat.le_of_ble_eq_true rfl) (by decide) (by decide) dX3_grade_58 ?_
      obtain ⟨xy21, exy22, hxy23⟩ := mm_abs (xy18)
      rw [exy22]
      obtain ⟨xy24, exy25, hxy26⟩ := zI_of (zI (xy21))
      rw [exy25]
      refine z_i2l C dX3_grade_61 (by omega) ?_
      refine z_lmul C dX3_grade_62 ?_
      refine z_aload_n C 2 dX3_grade_63 rfl ?_
      refine z_get (v := .ref (ad (a + 1))) C (lt_A0 hN rfl) hay1 ha.1 rfl inA_X3 2 (by decide) q_162 rfl rfl dX3_grade_64 ?_
      refine z_bipush (z := 36) C dX3_grade_67 (by decide) ?_
      refine z_iload_n C 3 dX3_grade_69 rfl ?_
      refine z_iadd C dX3_grade_70 ?_
      refine z_iald C (lt_A (c := 1) hN rfl) hay2 ha.2 ((36 + z).toNat) (by omega) (by omega) (by decide) dX3_grade_71 ?_
      obtain ⟨xy27, exy28, hxy29⟩ := zI_of (zI (r ((36 + z).toNat)))
      rw [exy28]
      refine z_i2l C dX3_grade_72 (by omega) ?_
      refine z_cSN (As := [.long (zJ (10 * xy24)), .long (zJ (xy27))]) (rest := []) C (c_X9_part l D A cs tt N ad _ (10 * xy24) (xy27) (by omega) (by omega)) ms_yX9_part n_466 hd_yX9_part (by decide) (Nat.le_of_ble_eq_true rfl) (by decide) dX3_grade_73 rfl (kI0 fun vy30 gvy30 hvy30 => ?_)
      obtain ⟨hvy30, rfl⟩ := hvy30
      exact z_iret C hr hlk dX3_grade_76 (by decide) (by decide) ⟨vy30, rfl, rfl, rfl, by omega, rfl⟩
  · refine z_aload_n C 0 dX3_grade_10 rfl ?_
    refine z_get (v := .ref (ad (a + 1))) C (lt_A0 hN rfl) hay1 ha.1 rfl inA_X3 2 (by decide) q_162 rfl rfl dX3_grade_11 ?_
    refine z_bipush (z := 48) C dX3_grade_14 (by decide) ?_
    refine z_iload_n C 1 dX3_grade_16 rfl ?_
    refine z_iadd C dX3_grade_17 ?_
    refine z_iconst (z := 1) C dX3_grade_18 rfl ?_
    refine z_iadd C dX3_grade_19 ?_
    refine z_iald C (lt_A (c := 1) hN rfl) hay2 ha.2 (((48 + z) + 1).toNat) (by omega) (by omega) (by decide) dX3_grade_20 ?_
    refine z_goto (tgt := 29) C dX3_grade_21 (by decide) ?_
    refine z_istore_n (lv' := [(3, .int (zI (r (((48 + z) + 1).toNat)))), (0, .ref (ad a)), (1, .int (zI (z))), (2, .int (zI (z1)))]) C dX3_grade_29 rfl (by decide) rfl ?_
    refine z_iload_n C 2 dX3_grade_30 rfl ?_
    refine z_if_le (tgt := 48) C dX3_grade_31 (by decide) (by omega) (fun hby31 => ?_) (fun hby31 => ?_)
    · refine z_iconst (z := 0) C dX3_grade_48 rfl ?_
      refine z_istore (lv' := [(4, .int (zI (0))), (3, .int (zI (r (((48 + z) + 1).toNat)))), (0, .ref (ad a)), (1, .int (zI (z))), (2, .int (zI (z1)))]) C dX3_grade_49 (by decide) rfl ?_
      refine z_ldc2 (z := 10) C dX3_grade_51 q_525 (by decide) ?_
      refine z_iload_n C 1 dX3_grade_54 rfl ?_
      refine z_iload C 0 dX3_grade_55 rfl ?_
      refine z_isub C dX3_grade_57 ?_
      obtain ⟨xy32, exy33, hxy34⟩ := zI_of (zI ((r (((48 + z) + 1).toNat)) - 0))
      rw [exy33]
      refine z_mabs C q_526 q_527 q_20 q_528 (by omega) (by decide) (Nat.le_of_ble_eq_true rfl) (by decide) (by decide) dX3_grade_58 ?_
      obtain ⟨xy35, exy36, hxy37⟩ := mm_abs (xy32)
      rw [exy36]
      obtain ⟨xy38, exy39, hxy40⟩ := zI_of (zI (xy35))
      rw [exy39]
      refine z_i2l C dX3_grade_61 (by omega) ?_
      refine z_lmul C dX3_grade_62 ?_
      refine z_aload_n C 2 dX3_grade_63 rfl ?_
      refine z_get (v := .ref (ad (a + 1))) C (lt_A0 hN rfl) hay1 ha.1 rfl inA_X3 2 (by decide) q_162 rfl rfl dX3_grade_64 ?_
      refine z_bipush (z := 36) C dX3_grade_67 (by decide) ?_
      refine z_iload_n C 3 dX3_grade_69 rfl ?_
      refine z_iadd C dX3_grade_70 ?_
      refine z_iald C (lt_A (c := 1) hN rfl) hay2 ha.2 ((36 + z).toNat) (by omega) (by omega) (by decide) dX3_grade_71 ?_
      obtain ⟨xy41, exy42, hxy43⟩ := zI_of (zI (r ((36 + z).toNat)))
      rw [exy42]
      refine z_i2l C dX3_grade_72 (by omega) ?_
      refine z_cSN (As := [.long (zJ (10 * xy38)), .long (zJ (xy41))]) (rest := []) C (c_X9_part l D A cs tt N ad _ (10 * xy38) (xy41) (by omega) (by omega)) ms_yX9_part n_466 hd_yX9_part (by decide) (Nat.le_of_ble_eq_true rfl) (by decide) dX3_grade_73 rfl (kI0 fun vy44 gvy44 hvy44 => ?_)
      obtain ⟨hvy44, rfl⟩ := hvy44
      exact z_iret C hr hlk dX3_grade_76 (by decide) (by decide) ⟨vy44, rfl, rfl, rfl, by omega, rfl⟩
    · refine z_aload_n C 1 dX3_grade_34 rfl ?_
      refine z_get (v := .ref (ad (a + 1))) C (lt_A0 hN rfl) hay1 ha.1 rfl inA_X3 2 (by decide) q_162 rfl rfl dX3_grade_35 ?_
      refine z_bipush (z := 48) C dX3_grade_38 (by decide) ?_
      refine z_iload_n C 2 dX3_grade_40 rfl ?_
      refine z_iadd C dX3_grade_41 ?_
      refine z_iconst (z := 1) C dX3_grade_42 rfl ?_
      refine z_isub C dX3_grade_43 ?_
      refine z_iald C (lt_A (c := 1) hN rfl) hay2 ha.2 (((48 + z) - 1).toNat) (by omega) (by omega) (by decide) dX3_grade_44 ?_
      refine z_goto (tgt := 49) C dX3_grade_45 (by decide) ?_
      refine z_istore (lv' := [(4, .int (zI (r (((48 + z) - 1).toNat)))), (3, .int (zI (r (((48 + z) + 1).toNat)))), (0, .ref (ad a)), (1, .int (zI (z))), (2, .int (zI (z1)))]) C dX3_grade_49 (by decide) rfl ?_
      refine z_ldc2 (z := 10) C dX3_grade_51 q_525 (by decide) ?_
      refine z_iload_n C 1 dX3_grade_54 rfl ?_
      refine z_iload C 0 dX3_grade_55 rfl ?_
      refine z_isub C dX3_grade_57 ?_
      obtain ⟨xy45, exy46, hxy47⟩ := zI_of (zI ((r (((48 + z) + 1).toNat)) - (r (((48 + z) - 1).toNat))))
      rw [exy46]
      refine z_mabs C q_526 q_527 q_20 q_528 (by omega) (by decide) (Nat.le_of_ble_eq_true rfl) (by decide) (by decide) dX3_grade_58 ?_
      obtain ⟨xy48, exy49, hxy50⟩ := mm_abs (xy45)
      rw [exy49]
      obtain ⟨xy51, exy52, hxy53⟩ := zI_of (zI (xy48))
      rw [exy52]
      refine z_i2l C dX3_grade_61 (by omega) ?_
      refine z_lmul C dX3_grade_62 ?_
      refine z_aload_n C 2 dX3_grade_63 rfl ?_
      refine z_get (v := .ref (ad (a + 1))) C (lt_A0 hN rfl) hay1 ha.1 rfl inA_X3 2 (by decide) q_162 rfl rfl dX3_grade_64 ?_
      refine z_bipush (z := 36) C dX3_grade_67 (by decide) ?_
      refine z_iload_n C 3 dX3_grade_69 rfl ?_
      refine z_iadd C dX3_grade_70 ?_
      refine z_iald C (lt_A (c := 1) hN rfl) hay2 ha.2 ((36 + z).toNat) (by omega) (by omega) (by decide) dX3_grade_71 ?_
      obtain ⟨xy54, exy55, hxy56⟩ := zI_of (zI (r ((36 + z).toNat)))
      rw [exy55]
      refine z_i2l C dX3_grade_72 (by omega) ?_
      refine z_cSN (As := [.long (zJ (10 * xy51)), .long (zJ (xy54))]) (rest := []) C (c_X9_part l D A cs tt N ad _ (10 * xy51) (xy54) (by omega) (by omega)) ms_yX9_part n_466 hd_yX9_part (by decide) (Nat.le_of_ble_eq_true rfl) (by decide) dX3_grade_73 rfl (kI0 fun vy57 gvy57 hvy57 => ?_)
      obtain ⟨hvy57, rfl⟩ := hvy57
      exact z_iret C hr hlk dX3_grade_76 (by decide) (by decide) ⟨vy57, rfl, rfl, rfl, by omega, rfl⟩

set_option maxRecDepth 100000 in
set_option maxHeartbeats 4000000 in
theorem c_X3_strength (l : Launch) (D : va_G) (A : Nat → Prop) (cs : Nat → ClassId) (tt : Nat) (N : Nat) (ad : Nat → Nat) (g : Nat → va_E) (a : Nat) (hN : a + 2 ≤ N) (sz ro : Int) (r : Nat → Int) (hz : 0 ≤ sz ∧ sz ≤ 12) (ha : isPack cs ad g a sz ro r) (b : Nat) (hNb : b + 7 ≤ N) (sl ho ua : Int) (st op ai fa mu tb : Nat → Int) (hb : isPlan cs ad g b sl ho ua st op ai fa mu tb) (z : Int) (hzl : 0 ≤ z ∧ z ≤ 11) : zM l yX3_strength cX3_strength 6 (some .int) ({ frames := 2, cells := 0, slots := 0, locals := 120 } : Room) D A cs tt N ad g [.ref (ad a), .int (zI (z)), .ref (ad b)] (rI0 N ad fun r g' => (-2147483648 ≤ r ∧ r ≤ 2147483647) ∧ g = g') := by
  have hay1 : zAt ad (a) (ad a) := rfl
  have hay2 : zAt ad (a + 1) (ad (a + 1)) := rfl
  have hay3 : zAt ad (b) (ad b) := rfl
  have hay4 : zAt ad (b + 1) (ad (b + 1)) := rfl
  have hay5 : zAt ad (b + 2) (ad (b + 2)) := rfl
  have hay6 : zAt ad (b + 3) (ad (b + 3)) := rfl
  have hay7 : zAt ad (b + 4) (ad (b + 4)) := rfl
  have hay8 : zAt ad (b + 5) (ad (b + 5)) := rfl
  have hay9 : zAt ad (b + 6) (ad (b + 6)) := rfl
  refine z_of (by decide) (Nat.le_of_ble_eq_true rfl) ?_
  intro p e s m below meth c C hr hlk hnm
  refine z_lv (lv' := [(0, .ref (ad a)), (1, .int (zI (z))), (2, .ref (ad b))]) [0, 1, 2] rfl ?_
  refine z_aload_n C 2 dX3_strength_0 rfl ?_
  refine z_iconst (z := 0) C dX3_strength_1 rfl ?_
  refine z_aload_n C 0 dX3_strength_2 rfl ?_
  refine z_get (v := .ref (ad (a + 1))) C (lt_A0 hN rfl) hay1 ha.1 rfl inA_X3 2 (by decide) q_162 rfl rfl dX3_strength_3 ?_
  refine z_iconst (z := 0) C dX3_strength_6 rfl ?_
  refine z_iload_n C 1 dX3_strength_7 rfl ?_
  refine z_iadd C dX3_strength_8 ?_
  refine z_iald C (lt_A (c := 1) hN rfl) hay2 ha.2 ((0 + z).toNat) (by omega) (by omega) (by decide) dX3_strength_9 ?_
  obtain ⟨xy10, exy11, hxy12⟩ := zI_of (zI (r ((0 + z).toNat)))
  rw [exy11]
  refine z_cV (As := [.int (zI (0)), .int (zI (xy10))]) (rest := []) (ci := 7) C (c_X5_of l D A cs tt N ad _ (b) (by omega) _ _ _ _ _ _ _ _ _ ⟨hb.1, hb.2.1, hb.2.2.1, hb.2.2.2.1, hb.2.2.2.2.1, hb.2.2.2.2.2.1, hb.2.2.2.2.2.2⟩ (0) (xy10) (by omega) (by omega)) (by omega) hay3 hb.1 rfl rfl mv_yX5_of q_502 hd_yX5_of (by decide) (Nat.le_of_ble_eq_true rfl) (by decide) dX3_strength_10 rfl (kI0 fun vy13 gvy13 hvy13 => ?_)
  obtain ⟨hvy13, rfl⟩ := hvy13
  refine z_istore_n (lv' := [(3, .int (zI (vy13))), (0, .ref (ad a)), (1, .int (zI (z))), (2, .ref (ad b))]) C dX3_strength_13 rfl (by decide) rfl ?_
  refine z_ldc2 (z := 10) C dX3_strength_14 q_525 (by decide) ?_
  refine z_iload_n C 0 dX3_strength_17 rfl ?_
  refine z_i2l C dX3_strength_18 (by omega) ?_
  refine z_lmul C dX3_strength_19 ?_
  refine z_aload_n C 1 dX3_strength_20 rfl ?_
  refine z_iload_n C 2 dX3_strength_21 rfl ?_
  refine z_cV (As := [.int (zI (z))]) (rest := [.long (zJ (10 * vy13))]) (ci := 5) C (c_X3_mass l D A cs tt N ad _ (a) (by omega) _ _ _ (by omega) ⟨ha.1, ha.2⟩  (z) (by omega)) (lt_A0 hN rfl) hay1 ha.1 rfl rfl mv_yX3_mass q_510 hd_yX3_mass (by decide) (Nat.le_of_ble_eq_true rfl) (by decide) dX3_strength_22 rfl (kI0 fun vy14 gvy14 hvy14 => ?_)
  obtain ⟨hvy14, rfl⟩ := hvy14
  refine z_i2l C dX3_strength_25 (by omega) ?_
  refine z_lmul C dX3_strength_26 ?_
  refine z_aload_n C 1 dX3_strength_27 rfl ?_
  refine z_get (v := .ref (ad (a + 1))) C (lt_A0 hN rfl) hay1 ha.1 rfl inA_X3 2 (by decide) q_162 rfl rfl dX3_strength_28 ?_
  refine z_bipush (z := 36) C dX3_strength_31 (by decide) ?_
  refine z_iload_n C 2 dX3_strength_33 rfl ?_
  refine z_iadd C dX3_strength_34 ?_
  refine z_iald C (lt_A (c := 1) hN rfl) hay2 ha.2 ((36 + z).toNat) (by omega) (by omega) (by decide) dX3_strength_35 ?_
  obtain ⟨xy15, exy16, hxy17⟩ := zI_of (zI (r ((36 + z).toNat)))
  rw [exy16]
  refine z_i2l C dX3_strength_36 (by omega) ?_
  obtain ⟨xy18, exy19, hxy20⟩ := zJ_of (zJ ((10 * vy13) * vy14))
  rw [exy19]
  refine z_cSN (As := [.long (zJ (xy18)), .long (zJ (xy15))]) (rest := []) C (c_X9_part l D A cs tt N ad _ (xy18) (xy15) (by omega) (by omega)) ms_yX9_part n_466 hd_yX9_part (by decide) (Nat.le_of_ble_eq_true rfl) (by decide) dX3_strength_37 rfl (kI0 fun vy21 gvy21 hvy21 => ?_)
  obtain ⟨hvy21, rfl⟩ := hvy21
  refine z_istore (lv' := [(4, .int (zI (vy21))), (3, .int (zI (vy13))), (0, .ref (ad a)), (1, .int (zI (z))), (2, .ref (ad b))]) C dX3_strength_40 (by decide) rfl ?_
  refine z_ldc2 (z := 100) C dX3_strength_42 q_501 (by decide) ?_
  refine z_aload_n C 2 dX3_strength_45 rfl ?_
  refine z_get (v := .ref (ad (a + 1))) C (lt_A0 hN rfl) hay1 ha.1 rfl inA_X3 2 (by decide) q_162 rfl rfl dX3_strength_46 ?_
  refine z_bipush (z := 24) C dX3_strength_49 (by decide) ?_
  refine z_iload_n C 3 dX3_strength_51 rfl ?_
  refine z_iadd C dX3_strength_52 ?_
  refine z_iald C (lt_A (c := 1) hN rfl) hay2 ha.2 ((24 + z).toNat) (by omega) (by omega) (by decide) dX3_strength_53 ?_
  obtain ⟨xy22, exy23, hxy24⟩ := zI_of (zI (r ((24 + z).toNat)))
  rw [exy23]
  refine z_i2l C dX3_strength_54 (by omega) ?_
  refine z_lmul C dX3_strength_55 ?_
  refine z_ldc2 (z := 3) C dX3_strength_56 q_581 (by decide) ?_
  refine z_aload_n C 2 dX3_strength_59 rfl ?_
  refine z_get (v := .ref (ad (a + 1))) C (lt_A0 hN rfl) hay1 ha.1 rfl inA_X3 2 (by decide) q_162 rfl rfl dX3_strength_60 ?_
  refine z_bipush (z := 12) C dX3_strength_63 (by decide) ?_
  refine z_iload_n C 3 dX3_strength_65 rfl ?_
  refine z_iadd C dX3_strength_66 ?_
  refine z_iald C (lt_A (c := 1) hN rfl) hay2 ha.2 ((12 + z).toNat) (by omega) (by omega) (by decide) dX3_strength_67 ?_
  obtain ⟨xy25, exy26, hxy27⟩ := zI_of (zI (r ((12 + z).toNat)))
  rw [exy26]
  refine z_i2l C dX3_strength_68 (by omega) ?_
  refine z_lmul C dX3_strength_69 ?_
  refine z_lcmp C dX3_strength_70 (by omega) (by omega) ?_
  have hczr := cmpZ_r (a := 100 * xy22) (b := 3 * xy25)
  refine z_if_lt (tgt := 78) C dX3_strength_71 (by decide) (by omega) (fun hby28 => ?_) (fun hby28 => ?_)
  · have hcy29 : 100 * xy22 < 3 * xy25 := cmpZ_lt.mp hby28
    refine z_iconst (z := 0) C dX3_strength_78 rfl ?_
    refine z_istore (lv' := [(5, .int (zI (0))), (4, .int (zI (vy21))), (3, .int (zI (vy13))), (0, .ref (ad a)), (1, .int (zI (z))), (2, .ref (ad b))]) C dX3_strength_79 (by decide) rfl ?_
    refine z_iload C 0 dX3_strength_81 rfl ?_
    refine z_if_eq (tgt := 93) C dX3_strength_83 (by decide) (by omega) (fun _ => ?_) (fun h => absurd h (by omega))
    refine z_iload C 1 dX3_strength_93 rfl ?_
    exact z_iret C hr hlk dX3_strength_95 (by decide) (by decide) ⟨vy21, rfl, rfl, rfl, by omega, rfl⟩
  · have hcy29 : ¬ (100 * xy22 < 3 * xy25) := fun e9 => hby28 (cmpZ_lt.mpr e9)
    refine z_iconst (z := 1) C dX3_strength_74 rfl ?_
    refine z_goto (tgt := 79) C dX3_strength_75 (by decide) ?_
    refine z_istore (lv' := [(5, .int (zI (1))), (4, .int (zI (vy21))), (3, .int (zI (vy13))), (0, .ref (ad a)), (1, .int (zI (z))), (2, .ref (ad b))]) C dX3_strength_79 (by decide) rfl ?_
    refine z_iload C 0 dX3_strength_81 rfl ?_
    refine z_if_eq (tgt := 93) C dX3_strength_83 (by decide) (by omega) (fun h => absurd h (by omega)) (fun _ => ?_)
    refine z_iload C 1 dX3_strength_86 rfl ?_
    refine z_iconst (z := 2) C dX3_strength_88 rfl ?_
    refine z_idiv C dX3_strength_89 (by omega) (by omega) (by omega) ?_
    refine z_goto (tgt := 95) C dX3_strength_90 (by decide) ?_
    obtain ⟨xy30, exy31, hxy32⟩ := zI_of (zI (vy21.tdiv 2))
    rw [exy31]
    exact z_iret C hr hlk dX3_strength_95 (by decide) (by decide) ⟨xy30, rfl, rfl, rfl, by omega, rfl⟩

set_option maxRecDepth 100000 in
set_option maxHeartbeats 4000000 in
theorem c_X3_ratio (l : Launch) (D : va_G) (A : Nat → Prop) (cs : Nat → ClassId) (tt : Nat) (N : Nat) (ad : Nat → Nat) (g : Nat → va_E) (a : Nat) (hN : a + 2 ≤ N) (sz ro : Int) (r : Nat → Int) (hz : 0 ≤ sz ∧ sz ≤ 12) (ha : isPack cs ad g a sz ro r) (b : Nat) (hNb : b + 7 ≤ N) (sl ho ua : Int) (st op ai fa mu tb : Nat → Int) (hb : isPlan cs ad g b sl ho ua st op ai fa mu tb) (z : Int) (hzl : 0 ≤ z ∧ z ≤ 11) (z1 : Int) (hz1 : -2147483648 ≤ z1 ∧ z1 ≤ 2147483647) : zM l yX3_ratio cX3_ratio 4 (some .int) ({ frames := 3, cells := 0, slots := 0, locals := 180 } : Room) D A cs tt N ad g [.ref (ad a), .int (zI (z)), .int (zI (z1)), .ref (ad b)] (rI0 N ad fun r g' => (-2147483648 ≤ r ∧ r ≤ 2147483647) ∧ g = g') := by
  have hay1 : zAt ad (a) (ad a) := rfl
  have hay2 : zAt ad (a + 1) (ad (a + 1)) := rfl
  have hay3 : zAt ad (b) (ad b) := rfl
  have hay4 : zAt ad (b + 1) (ad (b + 1)) := rfl
  have hay5 : zAt ad (b + 2) (ad (b + 2)) := rfl
  have hay6 : zAt ad (b + 3) (ad (b + 3)) := rfl
  have hay7 : zAt ad (b + 4) (ad (b + 4)) := rfl
  have hay8 : zAt ad (b + 5) (ad (b + 5)) := rfl
  have hay9 : zAt ad (b + 6) (ad (b + 6)) := rfl
  refine z_of (by decide) (Nat.le_of_ble_eq_true rfl) ?_
  intro p e s m below meth c C hr hlk hnm
  refine z_lv (lv' := [(0, .ref (ad a)), (1, .int (zI (z))), (2, .int (zI (z1))), (3, .ref (ad b))]) [0, 1, 2, 3] rfl ?_
  refine z_iload_n C 2 dX3_ratio_0 rfl ?_
  refine z_if_gt (tgt := 8) C dX3_ratio_1 (by decide) (by omega) (fun hby10 => ?_) (fun hby10 => ?_)
  · refine z_ldc2 (z := 100) C dX3_ratio_8 q_501 (by decide) ?_
    refine z_aload_n C 0 dX3_ratio_11 rfl ?_
    refine z_iload_n C 1 dX3_ratio_12 rfl ?_
    refine z_aload_n C 3 dX3_ratio_13 rfl ?_
    refine z_cV (As := [.int (zI (z)), .ref (ad b)]) (rest := [.long (zJ (100))]) (ci := 5) C (c_X3_strength l D A cs tt N ad _ (a) (by omega) _ _ _ (by omega) ⟨ha.1, ha.2⟩ (b) (by omega) _ _ _ _ _ _ _ _ _ ⟨hb.1, hb.2.1, hb.2.2.1, hb.2.2.2.1, hb.2.2.2.2.1, hb.2.2.2.2.2.1, hb.2.2.2.2.2.2⟩ (z) (by omega)) (lt_A0 hN rfl) hay1 ha.1 rfl rfl mv_yX3_strength q_577 hd_yX3_strength (by decide) (Nat.le_of_ble_eq_true rfl) (by decide) dX3_ratio_14 rfl (kI0 fun vy11 gvy11 hvy11 => ?_)
    obtain ⟨hvy11, rfl⟩ := hvy11
    refine z_i2l C dX3_ratio_17 (by omega) ?_
    refine z_lmul C dX3_ratio_18 ?_
    refine z_iload_n C 2 dX3_ratio_19 rfl ?_
    refine z_i2l C dX3_ratio_20 (by omega) ?_
    refine z_ldiv C dX3_ratio_21 (by omega) (by omega) (by omega) ?_
    refine z_ldc2 (z := 9999) C dX3_ratio_22 q_582 (by decide) ?_
    obtain ⟨xy12, exy13, hxy14⟩ := zJ_of (zJ ((100 * vy11).tdiv z1))
    rw [exy13]
    refine z_lminx C q_583 q_584 q_20 q_585 (by omega) (by omega) (by decide) (Nat.le_of_ble_eq_true rfl) (by decide) (by decide) dX3_ratio_25 ?_
    obtain ⟨xy15, exy16, hxy17⟩ := mm_min (xy12) (9999)
    rw [exy16]
    refine z_l2i C dX3_ratio_28 ?_
    obtain ⟨xy18, exy19, hxy20⟩ := zI_of (zI (xy15))
    rw [exy19]
    exact z_iret C hr hlk dX3_ratio_29 (by decide) (by decide) ⟨xy18, rfl, rfl, rfl, by omega, rfl⟩
  · refine z_sipush (z := 9999) C dX3_ratio_4 (by decide) ?_
    exact z_iret C hr hlk dX3_ratio_7 (by decide) (by decide) ⟨9999, rfl, rfl, rfl, by omega, rfl⟩

set_option maxRecDepth 100000 in
set_option maxHeartbeats 4000000 in
theorem c_X3_weakest (l : Launch) (D : va_G) (A : Nat → Prop) (cs : Nat → ClassId) (tt : Nat) (N : Nat) (ad : Nat → Nat) (g : Nat → va_E) (a : Nat) (hN : a + 2 ≤ N) (sz ro : Int) (r : Nat → Int) (hz : 0 ≤ sz ∧ sz ≤ 12) (ha : isPack cs ad g a sz ro r) (b : Nat) (hNb : b + 7 ≤ N) (sl ho ua : Int) (st op ai fa mu tb : Nat → Int) (hb : isPlan cs ad g b sl ho ua st op ai fa mu tb) (z : Int) (hzs : -2147483648 ≤ z ∧ z ≤ 2147483647) : zM l yX3_weakest cX3_weakest 8 (some .int) ({ frames := 4, cells := 0, slots := 0, locals := 240 } : Room) D A cs tt N ad g [.ref (ad a), .int (zI (z)), .ref (ad b)] (rI0 N ad fun r g' => (-1 ≤ r ∧ r < sz) ∧ g = g') := by
  have hay1 : zAt ad (a) (ad a) := rfl
  have hay2 : zAt ad (a + 1) (ad (a + 1)) := rfl
  have hay3 : zAt ad (b) (ad b) := rfl
  have hay4 : zAt ad (b + 1) (ad (b + 1)) := rfl
  have hay5 : zAt ad (b + 2) (ad (b + 2)) := rfl
  have hay6 : zAt ad (b + 3) (ad (b + 3)) := rfl
  have hay7 : zAt ad (b + 4) (ad (b + 4)) := rfl
  have hay8 : zAt ad (b + 5) (ad (b + 5)) := rfl
  have hay9 : zAt ad (b + 6) (ad (b + 6)) := rfl
  refine z_of (by decide) (Nat.le_of_ble_eq_true rfl) ?_
  intro p e s m below meth c C hr hlk hnm
  refine z_lv (lv' := [(0, .ref (ad a)), (1, .int (zI (z))), (2, .ref (ad b))]) [0, 1, 2] rfl ?_
  have lp : ∀ (n9 : Nat) (i : Int) (ab : Int) (le : Int) (wh : Int) (g1 : Nat → va_E), (i + 1).toNat = n9 → (g1 = g) → (-1 ≤ i ∧ i < sz) → (-2147483648 ≤ ab ∧ ab ≤ 2147483647) → (-2147483648 ≤ le ∧ le ≤ 2147483647) → (-1 ≤ wh ∧ wh < sz) → zV p l e ({ frames := 4, cells := 0, slots := 0, locals := 240 } : Room) s m ([.ref (ad a), .int (zI (z)), .ref (ad b)] : List Value).toArray below meth c (MQ below (zPost D A (rI0 N ad fun r g' => (-1 ≤ r ∧ r < sz) ∧ g = g')) ([.ref (ad a), .int (zI (z)), .ref (ad b)] : List Value).toArray s ({ frames := 4, cells := 0, slots := 0, locals := 240 } : Room).cells ({ frames := 4, cells := 0, slots := 0, locals := 240 } : Room).slots A) D A 8 (N) ad g1 (0) (0) 18 [(6, .int (zI (i))), (5, .int (zI (ab))), (4, .int (zI (le))), (3, .int (zI (wh))), (0, .ref (ad a)), (1, .int (zI (z))), (2, .ref (ad b))] [] := by
    intro n9
    induction n9 using Nat.strongRecOn with
    | ind n9 ih =>
      intro i ab le wh g1 hm9 hg1 hv0 hv1 hv2 hv3
      subst hg1
      have hay10 : zAt ad (a) (ad a) := rfl
      have hay11 : zAt ad (a + 1) (ad (a + 1)) := rfl
      have hay12 : zAt ad (b) (ad b) := rfl
      have hay13 : zAt ad (b + 1) (ad (b + 1)) := rfl
      have hay14 : zAt ad (b + 2) (ad (b + 2)) := rfl
      have hay15 : zAt ad (b + 3) (ad (b + 3)) := rfl
      have hay16 : zAt ad (b + 4) (ad (b + 4)) := rfl
      have hay17 : zAt ad (b + 5) (ad (b + 5)) := rfl
      have hay18 : zAt ad (b + 6) (ad (b + 6)) := rfl
      refine z_iload C 0 dX3_weakest_18 rfl ?_
      refine z_if_lt (tgt := 69) C dX3_weakest_20 (by decide) (by omega) (fun hby19 => ?_) (fun hby19 => ?_)
      · refine z_iload_n C 3 dX3_weakest_69 rfl ?_
        exact z_iret C hr hlk dX3_weakest_70 (by decide) (by decide) ⟨wh, rfl, rfl, rfl, by omega, rfl⟩
      · refine z_aload_n C 4 dX3_weakest_23 rfl ?_
        refine z_iload C 0 dX3_weakest_24 rfl ?_
        refine z_iload C 1 dX3_weakest_26 rfl ?_
        refine z_iload_n C 5 dX3_weakest_28 rfl ?_
        refine z_cSN (As := [.int (zI (ab)), .int (zI (z))]) (rest := [.int (zI (i)), .ref (ad a)]) C (c_X9_burden l D A cs tt N ad _ (ab) (z) (by omega) (by omega)) ms_yX9_burden n_568 hd_yX9_burden (by decide) (Nat.le_of_ble_eq_true rfl) (by decide) dX3_weakest_29 rfl (kI0 fun vy20 gvy20 hvy20 => ?_)
        obtain ⟨hvy20, rfl⟩ := hvy20
        refine z_aload_n C 6 dX3_weakest_32 rfl ?_
        refine z_cV (As := [.int (zI (i)), .int (zI (vy20)), .ref (ad b)]) (rest := []) (ci := 5) C (c_X3_ratio l D A cs tt N ad _ (a) (by omega) _ _ _ (by omega) ⟨ha.1, ha.2⟩ (b) (by omega) _ _ _ _ _ _ _ _ _ ⟨hb.1, hb.2.1, hb.2.2.1, hb.2.2.2.1, hb.2.2.2.2.1, hb.2.2.2.2.2.1, hb.2.2.2.2.2.2⟩ (i) (by omega) (vy20) (by omega)) (lt_A0 hN rfl) hay10 ha.1 rfl rfl mv_yX3_ratio q_573 hd_yX3_ratio (by decide) (Nat.le_of_ble_eq_true rfl) (by decide) dX3_weakest_33 rfl (kI0 fun vy21 gvy21 hvy21 => ?_)
        obtain ⟨hvy21, rfl⟩ := hvy21
        refine z_istore (lv' := [(7, .int (zI (vy21))), (6, .int (zI (i))), (5, .int (zI (ab))), (4, .int (zI (le))), (3, .int (zI (wh))), (0, .ref (ad a)), (1, .int (zI (z))), (2, .ref (ad b))]) C dX3_weakest_36 (by decide) rfl ?_
        refine z_iload C 0 dX3_weakest_38 rfl ?_
        refine z_iload C 3 dX3_weakest_40 rfl ?_
        refine z_icmp_gt (tgt := 52) C dX3_weakest_42 (by decide) (by omega) (by omega) (fun hby22 => ?_) (fun hby22 => ?_)
        · refine z_iload C 2 dX3_weakest_52 rfl ?_
          refine z_aload_n C 5 dX3_weakest_54 rfl ?_
          refine z_iload C 1 dX3_weakest_55 rfl ?_
          refine z_cV (As := [.int (zI (i))]) (rest := [.int (zI (ab))]) (ci := 5) C (c_X3_mass l D A cs tt N ad _ (a) (by omega) _ _ _ (by omega) ⟨ha.1, ha.2⟩  (i) (by omega)) (lt_A0 hN rfl) hay10 ha.1 rfl rfl mv_yX3_mass q_510 hd_yX3_mass (by decide) (Nat.le_of_ble_eq_true rfl) (by decide) dX3_weakest_57 rfl (kI0 fun vy23 gvy23 hvy23 => ?_)
          obtain ⟨hvy23, rfl⟩ := hvy23
          refine z_iadd C dX3_weakest_60 ?_
          refine z_istore (lv' := [(5, .int (zI (ab + vy23))), (7, .int (zI (vy21))), (6, .int (zI (i))), (4, .int (zI (le))), (3, .int (zI (wh))), (0, .ref (ad a)), (1, .int (zI (z))), (2, .ref (ad b))]) C dX3_weakest_61 (by decide) rfl ?_
          refine z_iinc (z := i - 1) (lv' := [(6, .int (zI (i - 1))), (5, .int (zI (ab + vy23))), (7, .int (zI (vy21))), (4, .int (zI (le))), (3, .int (zI (wh))), (0, .ref (ad a)), (1, .int (zI (z))), (2, .ref (ad b))]) (j := 2) C dX3_weakest_63 rfl (congrArg zI (by omega)) (by decide) rfl ?_
          refine z_goto (tgt := 18) C dX3_weakest_66 (by decide) ?_
          obtain ⟨xy24, exy25, hxy26⟩ := zI_of (zI (ab + vy23))
          rw [exy25]
          refine z_lv (lv' := [(6, .int (zI (i - 1))), (5, .int (zI (xy24))), (4, .int (zI (le))), (3, .int (zI (wh))), (0, .ref (ad a)), (1, .int (zI (z))), (2, .ref (ad b))]) [0, 1, 3, 4, 5, 6, 7] rfl ?_
          exact ih _ (by omega) (i - 1) (xy24) (le) (wh) _ rfl rfl (by omega) (by omega) (by omega) (by omega)
        · refine z_iload C 1 dX3_weakest_45 rfl ?_
          refine z_istore_n (lv' := [(3, .int (zI (i))), (7, .int (zI (vy21))), (6, .int (zI (i))), (5, .int (zI (ab))), (4, .int (zI (le))), (0, .ref (ad a)), (1, .int (zI (z))), (2, .ref (ad b))]) C dX3_weakest_47 rfl (by decide) rfl ?_
          refine z_iload C 1 dX3_weakest_48 rfl ?_
          refine z_istore (lv' := [(4, .int (zI (vy21))), (3, .int (zI (i))), (7, .int (zI (vy21))), (6, .int (zI (i))), (5, .int (zI (ab))), (0, .ref (ad a)), (1, .int (zI (z))), (2, .ref (ad b))]) C dX3_weakest_50 (by decide) rfl ?_
          refine z_iload C 4 dX3_weakest_52 rfl ?_
          refine z_aload_n C 5 dX3_weakest_54 rfl ?_
          refine z_iload C 3 dX3_weakest_55 rfl ?_
          refine z_cV (As := [.int (zI (i))]) (rest := [.int (zI (ab))]) (ci := 5) C (c_X3_mass l D A cs tt N ad _ (a) (by omega) _ _ _ (by omega) ⟨ha.1, ha.2⟩  (i) (by omega)) (lt_A0 hN rfl) hay10 ha.1 rfl rfl mv_yX3_mass q_510 hd_yX3_mass (by decide) (Nat.le_of_ble_eq_true rfl) (by decide) dX3_weakest_57 rfl (kI0 fun vy27 gvy27 hvy27 => ?_)
          obtain ⟨hvy27, rfl⟩ := hvy27
          refine z_iadd C dX3_weakest_60 ?_
          refine z_istore (lv' := [(5, .int (zI (ab + vy27))), (4, .int (zI (vy21))), (3, .int (zI (i))), (7, .int (zI (vy21))), (6, .int (zI (i))), (0, .ref (ad a)), (1, .int (zI (z))), (2, .ref (ad b))]) C dX3_weakest_61 (by decide) rfl ?_
          refine z_iinc (z := i - 1) (lv' := [(6, .int (zI (i - 1))), (5, .int (zI (ab + vy27))), (4, .int (zI (vy21))), (3, .int (zI (i))), (7, .int (zI (vy21))), (0, .ref (ad a)), (1, .int (zI (z))), (2, .ref (ad b))]) (j := 4) C dX3_weakest_63 rfl (congrArg zI (by omega)) (by decide) rfl ?_
          refine z_goto (tgt := 18) C dX3_weakest_66 (by decide) ?_
          obtain ⟨xy28, exy29, hxy30⟩ := zI_of (zI (ab + vy27))
          rw [exy29]
          refine z_lv (lv' := [(6, .int (zI (i - 1))), (5, .int (zI (xy28))), (4, .int (zI (vy21))), (3, .int (zI (i))), (0, .ref (ad a)), (1, .int (zI (z))), (2, .ref (ad b))]) [0, 1, 2, 3, 5, 6, 7] rfl ?_
          exact ih _ (by omega) (i - 1) (xy28) (vy21) (i) _ rfl rfl (by omega) (by omega) (by omega) (by omega)
  refine z_iconst (z := -1) C dX3_weakest_0 rfl ?_
  refine z_istore_n (lv' := [(3, .int (zI (-1))), (0, .ref (ad a)), (1, .int (zI (z))), (2, .ref (ad b))]) C dX3_weakest_1 rfl (by decide) rfl ?_
  refine z_sipush (z := 9999) C dX3_weakest_2 (by decide) ?_
  refine z_istore (lv' := [(4, .int (zI (9999))), (3, .int (zI (-1))), (0, .ref (ad a)), (1, .int (zI (z))), (2, .ref (ad b))]) C dX3_weakest_5 (by decide) rfl ?_
  refine z_iconst (z := 0) C dX3_weakest_7 rfl ?_
  refine z_istore (lv' := [(5, .int (zI (0))), (4, .int (zI (9999))), (3, .int (zI (-1))), (0, .ref (ad a)), (1, .int (zI (z))), (2, .ref (ad b))]) C dX3_weakest_8 (by decide) rfl ?_
  refine z_aload_n C 3 dX3_weakest_10 rfl ?_
  refine z_get (v := .int (zI (sz))) C (lt_A0 hN rfl) hay1 ha.1 rfl inA_X3 0 (by decide) q_154 rfl rfl dX3_weakest_11 ?_
  refine z_iconst (z := 1) C dX3_weakest_14 rfl ?_
  refine z_isub C dX3_weakest_15 ?_
  refine z_istore (lv' := [(6, .int (zI (sz - 1))), (5, .int (zI (0))), (4, .int (zI (9999))), (3, .int (zI (-1))), (0, .ref (ad a)), (1, .int (zI (z))), (2, .ref (ad b))]) C dX3_weakest_16 (by decide) rfl ?_
  refine z_lv (lv' := [(6, .int (zI (sz - 1))), (5, .int (zI (0))), (4, .int (zI (9999))), (3, .int (zI (-1))), (0, .ref (ad a)), (1, .int (zI (z))), (2, .ref (ad b))]) [0, 1, 2, 3, 4, 5, 6] rfl ?_
  exact lp _ (sz - 1) (0) (9999) (-1) _ rfl rfl (by omega) (by omega) (by omega) (by omega)

set_option maxRecDepth 100000 in
set_option maxHeartbeats 4000000 in
theorem c_X3_leastRatio (l : Launch) (D : va_G) (A : Nat → Prop) (cs : Nat → ClassId) (tt : Nat) (N : Nat) (ad : Nat → Nat) (g : Nat → va_E) (a : Nat) (hN : a + 2 ≤ N) (sz ro : Int) (r : Nat → Int) (hz : 0 ≤ sz ∧ sz ≤ 12) (ha : isPack cs ad g a sz ro r) (b : Nat) (hNb : b + 7 ≤ N) (sl ho ua : Int) (st op ai fa mu tb : Nat → Int) (hb : isPlan cs ad g b sl ho ua st op ai fa mu tb) (z : Int) (hzs : -2147483648 ≤ z ∧ z ≤ 2147483647) : zM l yX3_leastRatio cX3_leastRatio 4 (some .int) ({ frames := 5, cells := 0, slots := 0, locals := 300 } : Room) D A cs tt N ad g [.ref (ad a), .int (zI (z)), .ref (ad b)] (rI0 N ad fun r g' => (-2147483648 ≤ r ∧ r ≤ 2147483647) ∧ g = g') := by
  have hay1 : zAt ad (a) (ad a) := rfl
  have hay2 : zAt ad (a + 1) (ad (a + 1)) := rfl
  have hay3 : zAt ad (b) (ad b) := rfl
  have hay4 : zAt ad (b + 1) (ad (b + 1)) := rfl
  have hay5 : zAt ad (b + 2) (ad (b + 2)) := rfl
  have hay6 : zAt ad (b + 3) (ad (b + 3)) := rfl
  have hay7 : zAt ad (b + 4) (ad (b + 4)) := rfl
  have hay8 : zAt ad (b + 5) (ad (b + 5)) := rfl
  have hay9 : zAt ad (b + 6) (ad (b + 6)) := rfl
  refine z_of (by decide) (Nat.le_of_ble_eq_true rfl) ?_
  intro p e s m below meth c C hr hlk hnm
  refine z_lv (lv' := [(0, .ref (ad a)), (1, .int (zI (z))), (2, .ref (ad b))]) [0, 1, 2] rfl ?_
  refine z_aload_n C 0 dX3_leastRatio_0 rfl ?_
  refine z_iload_n C 1 dX3_leastRatio_1 rfl ?_
  refine z_aload_n C 2 dX3_leastRatio_2 rfl ?_
  refine z_cV (As := [.int (zI (z)), .ref (ad b)]) (rest := []) (ci := 5) C (c_X3_weakest l D A cs tt N ad _ (a) (by omega) _ _ _ (by omega) ⟨ha.1, ha.2⟩ (b) (by omega) _ _ _ _ _ _ _ _ _ ⟨hb.1, hb.2.1, hb.2.2.1, hb.2.2.2.1, hb.2.2.2.2.1, hb.2.2.2.2.2.1, hb.2.2.2.2.2.2⟩ (z) (by omega)) (lt_A0 hN rfl) hay1 ha.1 rfl rfl mv_yX3_weakest q_902 hd_yX3_weakest (by decide) (Nat.le_of_ble_eq_true rfl) (by decide) dX3_leastRatio_3 rfl (kI0 fun vy10 gvy10 hvy10 => ?_)
  obtain ⟨hvy10, rfl⟩ := hvy10
  refine z_istore_n (lv' := [(3, .int (zI (vy10))), (0, .ref (ad a)), (1, .int (zI (z))), (2, .ref (ad b))]) C dX3_leastRatio_6 rfl (by decide) rfl ?_
  refine z_iload_n C 0 dX3_leastRatio_7 rfl ?_
  refine z_iconst (z := -1) C dX3_leastRatio_8 rfl ?_
  refine z_icmp_ne (tgt := 18) C dX3_leastRatio_9 (by decide) (by omega) (by omega) (fun hby11 => ?_) (fun hby11 => ?_)
  · refine z_aload_n C 1 dX3_leastRatio_18 rfl ?_
    refine z_iload_n C 0 dX3_leastRatio_19 rfl ?_
    refine z_aload_n C 1 dX3_leastRatio_20 rfl ?_
    refine z_iload_n C 0 dX3_leastRatio_21 rfl ?_
    refine z_cV (As := [.int (zI (vy10))]) (rest := [.int (zI (vy10)), .ref (ad a)]) (ci := 5) C (c_X3_massAbove l D A cs tt N ad _ (a) (by omega) _ _ _ (by omega) ⟨ha.1, ha.2⟩  (vy10) (by omega)) (lt_A0 hN rfl) hay1 ha.1 rfl rfl mv_yX3_massAbove q_903 hd_yX3_massAbove (by decide) (Nat.le_of_ble_eq_true rfl) (by decide) dX3_leastRatio_22 rfl (kI0 fun vy12 gvy12 hvy12 => ?_)
    obtain ⟨hvy12, rfl⟩ := hvy12
    refine z_iload_n C 2 dX3_leastRatio_25 rfl ?_
    refine z_cSN (As := [.int (zI (vy12)), .int (zI (z))]) (rest := [.int (zI (vy10)), .ref (ad a)]) C (c_X9_burden l D A cs tt N ad _ (vy12) (z) (by omega) (by omega)) ms_yX9_burden n_568 hd_yX9_burden (by decide) (Nat.le_of_ble_eq_true rfl) (by decide) dX3_leastRatio_26 rfl (kI0 fun vy13 gvy13 hvy13 => ?_)
    obtain ⟨hvy13, rfl⟩ := hvy13
    refine z_aload_n C 3 dX3_leastRatio_29 rfl ?_
    refine z_cV (As := [.int (zI (vy10)), .int (zI (vy13)), .ref (ad b)]) (rest := []) (ci := 5) C (c_X3_ratio l D A cs tt N ad _ (a) (by omega) _ _ _ (by omega) ⟨ha.1, ha.2⟩ (b) (by omega) _ _ _ _ _ _ _ _ _ ⟨hb.1, hb.2.1, hb.2.2.1, hb.2.2.2.1, hb.2.2.2.2.1, hb.2.2.2.2.2.1, hb.2.2.2.2.2.2⟩ (vy10) (by omega) (vy13) (by omega)) (lt_A0 hN rfl) hay1 ha.1 rfl rfl mv_yX3_ratio q_573 hd_yX3_ratio (by decide) (Nat.le_of_ble_eq_true rfl) (by decide) dX3_leastRatio_30 rfl (kI0 fun vy14 gvy14 hvy14 => ?_)
    obtain ⟨hvy14, rfl⟩ := hvy14
    exact z_iret C hr hlk dX3_leastRatio_33 (by decide) (by decide) ⟨vy14, rfl, rfl, rfl, by omega, rfl⟩
  · refine z_sipush (z := 9999) C dX3_leastRatio_12 (by decide) ?_
    refine z_goto (tgt := 33) C dX3_leastRatio_15 (by decide) ?_
    exact z_iret C hr hlk dX3_leastRatio_33 (by decide) (by decide) ⟨9999, rfl, rfl, rfl, by omega, rfl⟩

set_option maxRecDepth 100000 in
set_option maxHeartbeats 4000000 in
theorem c_X3_lowestUnstable (l : Launch) (D : va_G) (A : Nat → Prop) (cs : Nat → ClassId) (tt : Nat) (N : Nat) (ad : Nat → Nat) (g : Nat → va_E) (a : Nat) (hN : a + 2 ≤ N) (sz ro : Int) (r : Nat → Int) (hz : 0 ≤ sz ∧ sz ≤ 12) (ha : isPack cs ad g a sz ro r) (b : Nat) (hNb : b + 7 ≤ N) (sl ho ua : Int) (st op ai fa mu tb : Nat → Int) (hb : isPlan cs ad g b sl ho ua st op ai fa mu tb) (z : Int) (hzs : -2147483648 ≤ z ∧ z ≤ 2147483647) (z1 : Int) (hz1 : -2147483648 ≤ z1 ∧ z1 ≤ 2147483647) : zM l yX3_lowestUnstable cX3_lowestUnstable 7 (some .int) ({ frames := 4, cells := 0, slots := 0, locals := 240 } : Room) D A cs tt N ad g [.ref (ad a), .int (zI (z)), .int (zI (z1)), .ref (ad b)] (rI0 N ad fun r g' => (-1 ≤ r ∧ r < sz) ∧ g = g') := by
  have hay1 : zAt ad (a) (ad a) := rfl
  have hay2 : zAt ad (a + 1) (ad (a + 1)) := rfl
  have hay3 : zAt ad (b) (ad b) := rfl
  have hay4 : zAt ad (b + 1) (ad (b + 1)) := rfl
  have hay5 : zAt ad (b + 2) (ad (b + 2)) := rfl
  have hay6 : zAt ad (b + 3) (ad (b + 3)) := rfl
  have hay7 : zAt ad (b + 4) (ad (b + 4)) := rfl
  have hay8 : zAt ad (b + 5) (ad (b + 5)) := rfl
  have hay9 : zAt ad (b + 6) (ad (b + 6)) := rfl
  refine z_of (by decide) (Nat.le_of_ble_eq_true rfl) ?_
  intro p e s m below meth c C hr hlk hnm
  refine z_lv (lv' := [(0, .ref (ad a)), (1, .int (zI (z))), (2, .int (zI (z1))), (3, .ref (ad b))]) [0, 1, 2, 3] rfl ?_
  have lp : ∀ (n9 : Nat) (i : Int) (ab : Int) (wh : Int) (g1 : Nat → va_E), (i + 1).toNat = n9 → (g1 = g) → (-1 ≤ i ∧ i < sz) → (-2147483648 ≤ ab ∧ ab ≤ 2147483647) → (-1 ≤ wh ∧ wh < sz) → zV p l e ({ frames := 4, cells := 0, slots := 0, locals := 240 } : Room) s m ([.ref (ad a), .int (zI (z)), .int (zI (z1)), .ref (ad b)] : List Value).toArray below meth c (MQ below (zPost D A (rI0 N ad fun r g' => (-1 ≤ r ∧ r < sz) ∧ g = g')) ([.ref (ad a), .int (zI (z)), .int (zI (z1)), .ref (ad b)] : List Value).toArray s ({ frames := 4, cells := 0, slots := 0, locals := 240 } : Room).cells ({ frames := 4, cells := 0, slots := 0, locals := 240 } : Room).slots A) D A 7 (N) ad g1 (0) (0) 14 [(6, .int (zI (i))), (5, .int (zI (ab))), (4, .int (zI (wh))), (0, .ref (ad a)), (1, .int (zI (z))), (2, .int (zI (z1))), (3, .ref (ad b))] [] := by
    intro n9
    induction n9 using Nat.strongRecOn with
    | ind n9 ih =>
      intro i ab wh g1 hm9 hg1 hv0 hv1 hv2
      subst hg1
      have hay10 : zAt ad (a) (ad a) := rfl
      have hay11 : zAt ad (a + 1) (ad (a + 1)) := rfl
      have hay12 : zAt ad (b) (ad b) := rfl
      have hay13 : zAt ad (b + 1) (ad (b + 1)) := rfl
      have hay14 : zAt ad (b + 2) (ad (b + 2)) := rfl
      have hay15 : zAt ad (b + 3) (ad (b + 3)) := rfl
      have hay16 : zAt ad (b + 4) (ad (b + 4)) := rfl
      have hay17 : zAt ad (b + 5) (ad (b + 5)) := rfl
      have hay18 : zAt ad (b + 6) (ad (b + 6)) := rfl
      refine z_iload C 0 dX3_lowestUnstable_14 rfl ?_
      refine z_if_lt (tgt := 58) C dX3_lowestUnstable_16 (by decide) (by omega) (fun hby19 => ?_) (fun hby19 => ?_)
      · refine z_iload C 2 dX3_lowestUnstable_58 rfl ?_
        exact z_iret C hr hlk dX3_lowestUnstable_60 (by decide) (by decide) ⟨wh, rfl, rfl, rfl, by omega, rfl⟩
      · refine z_aload_n C 3 dX3_lowestUnstable_19 rfl ?_
        refine z_iload C 0 dX3_lowestUnstable_20 rfl ?_
        refine z_iload C 1 dX3_lowestUnstable_22 rfl ?_
        refine z_iload_n C 4 dX3_lowestUnstable_24 rfl ?_
        refine z_cSN (As := [.int (zI (ab)), .int (zI (z))]) (rest := [.int (zI (i)), .ref (ad a)]) C (c_X9_burden l D A cs tt N ad _ (ab) (z) (by omega) (by omega)) ms_yX9_burden n_568 hd_yX9_burden (by decide) (Nat.le_of_ble_eq_true rfl) (by decide) dX3_lowestUnstable_25 rfl (kI0 fun vy20 gvy20 hvy20 => ?_)
        obtain ⟨hvy20, rfl⟩ := hvy20
        refine z_aload_n C 6 dX3_lowestUnstable_28 rfl ?_
        refine z_cV (As := [.int (zI (i)), .int (zI (vy20)), .ref (ad b)]) (rest := []) (ci := 5) C (c_X3_ratio l D A cs tt N ad _ (a) (by omega) _ _ _ (by omega) ⟨ha.1, ha.2⟩ (b) (by omega) _ _ _ _ _ _ _ _ _ ⟨hb.1, hb.2.1, hb.2.2.1, hb.2.2.2.1, hb.2.2.2.2.1, hb.2.2.2.2.2.1, hb.2.2.2.2.2.2⟩ (i) (by omega) (vy20) (by omega)) (lt_A0 hN rfl) hay10 ha.1 rfl rfl mv_yX3_ratio q_573 hd_yX3_ratio (by decide) (Nat.le_of_ble_eq_true rfl) (by decide) dX3_lowestUnstable_29 rfl (kI0 fun vy21 gvy21 hvy21 => ?_)
        obtain ⟨hvy21, rfl⟩ := hvy21
        refine z_bipush (z := 100) C dX3_lowestUnstable_32 (by decide) ?_
        refine z_icmp_ge (tgt := 41) C dX3_lowestUnstable_34 (by decide) (by omega) (by omega) (fun hby22 => ?_) (fun hby22 => ?_)
        · refine z_iload C 1 dX3_lowestUnstable_41 rfl ?_
          refine z_aload_n C 3 dX3_lowestUnstable_43 rfl ?_
          refine z_iload C 0 dX3_lowestUnstable_44 rfl ?_
          refine z_cV (As := [.int (zI (i))]) (rest := [.int (zI (ab))]) (ci := 5) C (c_X3_mass l D A cs tt N ad _ (a) (by omega) _ _ _ (by omega) ⟨ha.1, ha.2⟩  (i) (by omega)) (lt_A0 hN rfl) hay10 ha.1 rfl rfl mv_yX3_mass q_510 hd_yX3_mass (by decide) (Nat.le_of_ble_eq_true rfl) (by decide) dX3_lowestUnstable_46 rfl (kI0 fun vy23 gvy23 hvy23 => ?_)
          obtain ⟨hvy23, rfl⟩ := hvy23
          refine z_iadd C dX3_lowestUnstable_49 ?_
          refine z_istore (lv' := [(5, .int (zI (ab + vy23))), (6, .int (zI (i))), (4, .int (zI (wh))), (0, .ref (ad a)), (1, .int (zI (z))), (2, .int (zI (z1))), (3, .ref (ad b))]) C dX3_lowestUnstable_50 (by decide) rfl ?_
          refine z_iinc (z := i - 1) (lv' := [(6, .int (zI (i - 1))), (5, .int (zI (ab + vy23))), (4, .int (zI (wh))), (0, .ref (ad a)), (1, .int (zI (z))), (2, .int (zI (z1))), (3, .ref (ad b))]) (j := 1) C dX3_lowestUnstable_52 rfl (congrArg zI (by omega)) (by decide) rfl ?_
          refine z_goto (tgt := 14) C dX3_lowestUnstable_55 (by decide) ?_
          obtain ⟨xy24, exy25, hxy26⟩ := zI_of (zI (ab + vy23))
          rw [exy25]
          refine z_lv (lv' := [(6, .int (zI (i - 1))), (5, .int (zI (xy24))), (4, .int (zI (wh))), (0, .ref (ad a)), (1, .int (zI (z))), (2, .int (zI (z1))), (3, .ref (ad b))]) [0, 1, 2, 3, 4, 5, 6] rfl ?_
          exact ih _ (by omega) (i - 1) (xy24) (wh) _ rfl rfl (by omega) (by omega) (by omega)
        · refine z_iload C 0 dX3_lowestUnstable_37 rfl ?_
          refine z_istore (lv' := [(4, .int (zI (i))), (6, .int (zI (i))), (5, .int (zI (ab))), (0, .ref (ad a)), (1, .int (zI (z))), (2, .int (zI (z1))), (3, .ref (ad b))]) C dX3_lowestUnstable_39 (by decide) rfl ?_
          refine z_iload C 2 dX3_lowestUnstable_41 rfl ?_
          refine z_aload_n C 3 dX3_lowestUnstable_43 rfl ?_
          refine z_iload C 1 dX3_lowestUnstable_44 rfl ?_
          refine z_cV (As := [.int (zI (i))]) (rest := [.int (zI (ab))]) (ci := 5) C (c_X3_mass l D A cs tt N ad _ (a) (by omega) _ _ _ (by omega) ⟨ha.1, ha.2⟩  (i) (by omega)) (lt_A0 hN rfl) hay10 ha.1 rfl rfl mv_yX3_mass q_510 hd_yX3_mass (by decide) (Nat.le_of_ble_eq_true rfl) (by decide) dX3_lowestUnstable_46 rfl (kI0 fun vy27 gvy27 hvy27 => ?_)
          obtain ⟨hvy27, rfl⟩ := hvy27
          refine z_iadd C dX3_lowestUnstable_49 ?_
          refine z_istore (lv' := [(5, .int (zI (ab + vy27))), (4, .int (zI (i))), (6, .int (zI (i))), (0, .ref (ad a)), (1, .int (zI (z))), (2, .int (zI (z1))), (3, .ref (ad b))]) C dX3_lowestUnstable_50 (by decide) rfl ?_
          refine z_iinc (z := i - 1) (lv' := [(6, .int (zI (i - 1))), (5, .int (zI (ab + vy27))), (4, .int (zI (i))), (0, .ref (ad a)), (1, .int (zI (z))), (2, .int (zI (z1))), (3, .ref (ad b))]) (j := 2) C dX3_lowestUnstable_52 rfl (congrArg zI (by omega)) (by decide) rfl ?_
          refine z_goto (tgt := 14) C dX3_lowestUnstable_55 (by decide) ?_
          obtain ⟨xy28, exy29, hxy30⟩ := zI_of (zI (ab + vy27))
          rw [exy29]
          refine z_lv (lv' := [(6, .int (zI (i - 1))), (5, .int (zI (xy28))), (4, .int (zI (i))), (0, .ref (ad a)), (1, .int (zI (z))), (2, .int (zI (z1))), (3, .ref (ad b))]) [0, 1, 2, 3, 4, 5, 6] rfl ?_
          exact ih _ (by omega) (i - 1) (xy28) (i) _ rfl rfl (by omega) (by omega) (by omega)
  refine z_iconst (z := -1) C dX3_lowestUnstable_0 rfl ?_
  refine z_istore (lv' := [(4, .int (zI (-1))), (0, .ref (ad a)), (1, .int (zI (z))), (2, .int (zI (z1))), (3, .ref (ad b))]) C dX3_lowestUnstable_1 (by decide) rfl ?_
  refine z_iload_n C 3 dX3_lowestUnstable_3 rfl ?_
  refine z_istore (lv' := [(5, .int (zI (z1))), (4, .int (zI (-1))), (0, .ref (ad a)), (1, .int (zI (z))), (2, .int (zI (z1))), (3, .ref (ad b))]) C dX3_lowestUnstable_4 (by decide) rfl ?_
  refine z_aload_n C 2 dX3_lowestUnstable_6 rfl ?_
  refine z_get (v := .int (zI (sz))) C (lt_A0 hN rfl) hay1 ha.1 rfl inA_X3 0 (by decide) q_154 rfl rfl dX3_lowestUnstable_7 ?_
  refine z_iconst (z := 1) C dX3_lowestUnstable_10 rfl ?_
  refine z_isub C dX3_lowestUnstable_11 ?_
  refine z_istore (lv' := [(6, .int (zI (sz - 1))), (5, .int (zI (z1))), (4, .int (zI (-1))), (0, .ref (ad a)), (1, .int (zI (z))), (2, .int (zI (z1))), (3, .ref (ad b))]) C dX3_lowestUnstable_12 (by decide) rfl ?_
  refine z_lv (lv' := [(6, .int (zI (sz - 1))), (5, .int (zI (z1))), (4, .int (zI (-1))), (0, .ref (ad a)), (1, .int (zI (z))), (2, .int (zI (z1))), (3, .ref (ad b))]) [0, 1, 2, 3, 4, 5, 6] rfl ?_
  exact lp _ (sz - 1) (z1) (-1) _ rfl rfl (by omega) (by omega) (by omega)

