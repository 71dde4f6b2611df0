section
-- 74.refq.lean.txt
theorem fv {F : Nat → Int} {f : Nat} {z : Int} (h : F f = z) : some (Value.int (zI (F f))) = some (Value.int (zI z)) := by rw [h]
theorem fn {F : Nat → Int} {f k : Nat} {z v : Int} (h : F f = z) (hn : f ≠ k) : uZ F k v f = z := (uZ_n F v hn).trans h
theorem uZ_id (F : Nat → Int) (k : Nat) : uZ F k (F k) = F := by
  funext j
  by_cases e : j = k
  · rw [e, uZ_s]
  · rw [uZ_n _ _ e]
theorem tmd {a k : Int} (ha : 0 ≤ a) (hk : 1 ≤ k) : ∃ x, a.tmod k = x ∧ 0 ≤ x ∧ x < k := by
  refine ⟨_, rfl, ?_⟩
  rw [Int.tmod_eq_emod_of_nonneg ha]
  exact ⟨Int.emod_nonneg a (by omega), Int.emod_lt_of_pos a (by omega)⟩

set_option maxRecDepth 100000 in
set_option maxHeartbeats 4000000 in
theorem c_X10_lesser (l : Launch) (D : va_G) (A : Nat → Prop) (cs : Nat → ClassId) (tt : Nat) (N : Nat) (ad : Nat → Nat) (g : Nat → va_E) (z : Int) (hz : -2147483648 ≤ z ∧ z ≤ 2147483647) (z1 : Int) (hz1 : -2147483648 ≤ z1 ∧ z1 ≤ 2147483647) : zM l yX10_lesser cX10_lesser 2 (some .int) ({ frames := 1, cells := 0, slots := 0, locals := 60 } : Room) D A cs tt N ad g [.int (zI (z)), .int (zI (z1))] (rI0 N ad fun r g' => ((r = z ∧ z < z1) ∨ (r = z1 ∧ z1 ≤ z)) ∧ g = g') := by
  refine z_of (by decide) (Nat.le_of_ble_eq_true rfl) ?_
  intro pZ eZ sZ mZ below meth cZ C hr hlk hnm
  refine z_lv (lv' := [(0, .int (zI (z))), (1, .int (zI (z1)))]) [0, 1] rfl ?_
  refine z_iload_n C 0 dX10_lesser_0 rfl ?_
  refine z_iload_n C 1 dX10_lesser_1 rfl ?_
  refine z_icmp_ge (tgt := 9) C dX10_lesser_2 (by decide) (by omega) (by omega) (fun hby1 => ?_) (fun hby1 => ?_)
  · refine z_iload_n C 1 dX10_lesser_9 rfl ?_
    exact z_iret C hr hlk dX10_lesser_10 (by decide) (by decide) ⟨z1, rfl, rfl, rfl, by omega, rfl⟩
  · refine z_iload_n C 0 dX10_lesser_5 rfl ?_
    refine z_goto (tgt := 10) C dX10_lesser_6 (by decide) ?_
    exact z_iret C hr hlk dX10_lesser_10 (by decide) (by decide) ⟨z, rfl, rfl, rfl, by omega, rfl⟩

set_option maxRecDepth 100000 in
set_option maxHeartbeats 4000000 in
theorem c_X10_greater (l : Launch) (D : va_G) (A : Nat → Prop) (cs : Nat → ClassId) (tt : Nat) (N : Nat) (ad : Nat → Nat) (g : Nat → va_E) (z : Int) (hz : -2147483648 ≤ z ∧ z ≤ 2147483647) (z1 : Int) (hz1 : -2147483648 ≤ z1 ∧ z1 ≤ 2147483647) : zM l yX10_greater cX10_greater 2 (some .int) ({ frames := 1, cells := 0, slots := 0, locals := 60 } : Room) D A cs tt N ad g [.int (zI (z)), .int (zI (z1))] (rI0 N ad fun r g' => ((r = z ∧ z1 < z) ∨ (r = z1 ∧ z ≤ z1)) ∧ g = g') := by
  refine z_of (by decide) (Nat.le_of_ble_eq_true rfl) ?_
  intro pZ eZ sZ mZ below meth cZ C hr hlk hnm
  refine z_lv (lv' := [(0, .int (zI (z))), (1, .int (zI (z1)))]) [0, 1] rfl ?_
  refine z_iload_n C 0 dX10_greater_0 rfl ?_
  refine z_iload_n C 1 dX10_greater_1 rfl ?_
  refine z_icmp_le (tgt := 9) C dX10_greater_2 (by decide) (by omega) (by omega) (fun hby1 => ?_) (fun hby1 => ?_)
  · refine z_iload_n C 1 dX10_greater_9 rfl ?_
    exact z_iret C hr hlk dX10_greater_10 (by decide) (by decide) ⟨z1, rfl, rfl, rfl, by omega, rfl⟩
  · refine z_iload_n C 0 dX10_greater_5 rfl ?_
    refine z_goto (tgt := 10) C dX10_greater_6 (by decide) ?_
    exact z_iret C hr hlk dX10_greater_10 (by decide) (by decide) ⟨z, rfl, rfl, rfl, by omega, rfl⟩

set_option maxRecDepth 100000 in
set_option maxHeartbeats 4000000 in
theorem c_X10_within (l : Launch) (D : va_G) (A : Nat → Prop) (cs : Nat → ClassId) (tt : Nat) (N : Nat) (ad : Nat → Nat) (g : Nat → va_E) (z : Int) (hz : -2147483648 ≤ z ∧ z ≤ 2147483647) (z1 : Int) (hz1 : -2147483648 ≤ z1 ∧ z1 ≤ 2147483647) (z2 : Int) (hz2 : -2147483648 ≤ z2 ∧ z2 ≤ 2147483647) : zM l yX10_within cX10_within 3 (some .boolean) ({ frames := 1, cells := 0, slots := 0, locals := 60 } : Room) D A cs tt N ad g [.int (zI (z)), .int (zI (z1)), .int (zI (z2))] (rI0 N ad fun r g' => ((r = 1 ∧ z1 ≤ z ∧ z ≤ z2) ∨ (r = 0 ∧ (z < z1 ∨ z2 < z))) ∧ g = g') := by
  refine z_of (by decide) (Nat.le_of_ble_eq_true rfl) ?_
  intro pZ eZ sZ mZ below meth cZ C hr hlk hnm
  refine z_lv (lv' := [(0, .int (zI (z))), (1, .int (zI (z1))), (2, .int (zI (z2)))]) [0, 1, 2] rfl ?_
  refine z_iload_n C 0 dX10_within_0 rfl ?_
  refine z_iload_n C 1 dX10_within_1 rfl ?_
  refine z_icmp_lt (tgt := 14) C dX10_within_2 (by decide) (by omega) (by omega) (fun hby1 => ?_) (fun hby1 => ?_)
  · refine z_iconst (z := 0) C dX10_within_14 rfl ?_
    exact z_zret C hr hlk dX10_within_15 (by decide) (by decide) (by decide) ⟨0, rfl, rfl, rfl, by omega, rfl⟩
  · refine z_iload_n C 0 dX10_within_5 rfl ?_
    refine z_iload_n C 2 dX10_within_6 rfl ?_
    refine z_icmp_gt (tgt := 14) C dX10_within_7 (by decide) (by omega) (by omega) (fun hby2 => ?_) (fun hby2 => ?_)
    · refine z_iconst (z := 0) C dX10_within_14 rfl ?_
      exact z_zret C hr hlk dX10_within_15 (by decide) (by decide) (by decide) ⟨0, rfl, rfl, rfl, by omega, rfl⟩
    · refine z_iconst (z := 1) C dX10_within_10 rfl ?_
      refine z_goto (tgt := 15) C dX10_within_11 (by decide) ?_
      exact z_zret C hr hlk dX10_within_15 (by decide) (by decide) (by decide) ⟨1, rfl, rfl, rfl, by omega, rfl⟩

set_option maxRecDepth 100000 in
set_option maxHeartbeats 4000000 in
theorem c_X10_span (l : Launch) (D : va_G) (A : Nat → Prop) (cs : Nat → ClassId) (tt : Nat) (N : Nat) (ad : Nat → Nat) (g : Nat → va_E) (z : Int) (hz : -2147483648 ≤ z ∧ z ≤ 2147483647) : zM l yX10_span cX10_span 1 (some .int) ({ frames := 1, cells := 0, slots := 0, locals := 60 } : Room) D A cs tt N ad g [.int (zI (z))] (rI0 N ad fun r g' => (-2147483648 ≤ r ∧ r ≤ 2147483647) ∧ g = g') := by
  refine z_of (by decide) (Nat.le_of_ble_eq_true rfl) ?_
  intro pZ eZ sZ mZ below meth cZ C hr hlk hnm
  refine z_lv (lv' := [(0, .int (zI (z)))]) [0] rfl ?_
  refine z_iload_n C 0 dX10_span_0 rfl ?_
  refine z_if_ge (tgt := 9) C dX10_span_1 (by decide) (by omega) (fun hby1 => ?_) (fun hby1 => ?_)
  · refine z_iload_n C 0 dX10_span_9 rfl ?_
    exact z_iret C hr hlk dX10_span_10 (by decide) (by decide) ⟨z, rfl, rfl, rfl, by omega, rfl⟩
  · refine z_iload_n C 0 dX10_span_4 rfl ?_
    refine z_ineg C dX10_span_5 ?_
    refine z_goto (tgt := 10) C dX10_span_6 (by decide) ?_
    obtain ⟨xy2, exy3, hxy4⟩ := zI_of (zI (-(z)))
    rw [exy3]
    exact z_iret C hr hlk dX10_span_10 (by decide) (by decide) ⟨xy2, rfl, rfl, rfl, by omega, rfl⟩

set_option maxRecDepth 100000 in
set_option maxHeartbeats 4000000 in
theorem c_X10_isLetter (l : Launch) (D : va_G) (A : Nat → Prop) (cs : Nat → ClassId) (tt : Nat) (N : Nat) (ad : Nat → Nat) (g : Nat → va_E) (z : Int) (hz : -2147483648 ≤ z ∧ z ≤ 2147483647) : zM l yX10_isLetter cX10_isLetter 1 (some .boolean) ({ frames := 1, cells := 0, slots := 0, locals := 60 } : Room) D A cs tt N ad g [.int (zI (z))] (rI0 N ad fun r g' => ((r = 1 ∧ 97 ≤ z ∧ z ≤ 122) ∨ (r = 0 ∧ (z < 97 ∨ 122 < z))) ∧ g = g') := by
  refine z_of (by decide) (Nat.le_of_ble_eq_true rfl) ?_
  intro pZ eZ sZ mZ below meth cZ C hr hlk hnm
  refine z_lv (lv' := [(0, .int (zI (z)))]) [0] rfl ?_
  refine z_iload_n C 0 dX10_isLetter_0 rfl ?_
  refine z_bipush (z := 97) C dX10_isLetter_1 (by decide) ?_
  refine z_icmp_lt (tgt := 16) C dX10_isLetter_3 (by decide) (by omega) (by omega) (fun hby1 => ?_) (fun hby1 => ?_)
  · refine z_iconst (z := 0) C dX10_isLetter_16 rfl ?_
    exact z_zret C hr hlk dX10_isLetter_17 (by decide) (by decide) (by decide) ⟨0, rfl, rfl, rfl, by omega, rfl⟩
  · refine z_iload_n C 0 dX10_isLetter_6 rfl ?_
    refine z_bipush (z := 122) C dX10_isLetter_7 (by decide) ?_
    refine z_icmp_gt (tgt := 16) C dX10_isLetter_9 (by decide) (by omega) (by omega) (fun hby2 => ?_) (fun hby2 => ?_)
    · refine z_iconst (z := 0) C dX10_isLetter_16 rfl ?_
      exact z_zret C hr hlk dX10_isLetter_17 (by decide) (by decide) (by decide) ⟨0, rfl, rfl, rfl, by omega, rfl⟩
    · refine z_iconst (z := 1) C dX10_isLetter_12 rfl ?_
      refine z_goto (tgt := 17) C dX10_isLetter_13 (by decide) ?_
      exact z_zret C hr hlk dX10_isLetter_17 (by decide) (by decide) (by decide) ⟨1, rfl, rfl, rfl, by omega, rfl⟩

set_option maxRecDepth 100000 in
set_option maxHeartbeats 4000000 in
theorem c_X10_at (l : Launch) (D : va_G) (A : Nat → Prop) (cs : Nat → ClassId) (tt : Nat) (N : Nat) (ad : Nat → Nat) (g : Nat → va_E) (z : Int) (hz : 0 ≤ z ∧ z ≤ 29000) (z1 : Int) (hz1 : 0 ≤ z1 ∧ z1 ≤ 3) (z2 : Int) (hz2 : 0 ≤ z2 ∧ z2 ≤ 12) : zM l yX10_at cX10_at 3 (some .int) ({ frames := 1, cells := 0, slots := 0, locals := 60 } : Room) D A cs tt N ad g [.int (zI (z)), .int (zI (z1)), .int (zI (z2))] (rI0 N ad fun r g' => r = z + 6 + 86 * z1 + 2 + 7 * z2 ∧ g = g') := by
  refine z_of (by decide) (Nat.le_of_ble_eq_true rfl) ?_
  intro pZ eZ sZ mZ below meth cZ C hr hlk hnm
  refine z_lv (lv' := [(0, .int (zI (z))), (1, .int (zI (z1))), (2, .int (zI (z2)))]) [0, 1, 2] rfl ?_
  refine z_iload_n C 0 dX10_at_0 rfl ?_
  refine z_bipush (z := 6) C dX10_at_1 (by decide) ?_
  refine z_iadd C dX10_at_3 ?_
  refine z_bipush (z := 86) C dX10_at_4 (by decide) ?_
  refine z_iload_n C 1 dX10_at_6 rfl ?_
  refine z_imul C dX10_at_7 ?_
  refine z_iadd C dX10_at_8 ?_
  refine z_iconst (z := 2) C dX10_at_9 rfl ?_
  refine z_iadd C dX10_at_10 ?_
  refine z_bipush (z := 7) C dX10_at_11 (by decide) ?_
  refine z_iload_n C 2 dX10_at_13 rfl ?_
  refine z_imul C dX10_at_14 ?_
  refine z_iadd C dX10_at_15 ?_
  exact z_iret C hr hlk dX10_at_16 (by decide) (by decide) ⟨(((z + 6) + (86 * z1)) + 2) + (7 * z2), rfl, rfl, rfl, by omega, rfl⟩

set_option maxRecDepth 100000 in
set_option maxHeartbeats 4000000 in
theorem c_X10_many (l : Launch) (D : va_G) (A : Nat → Prop) (cs : Nat → ClassId) (tt : Nat) (N : Nat) (ad : Nat → Nat) (g : Nat → va_E) (i : Nat) (hN : i + 30 ≤ N) (F : Nat → Int) (hg : g i = mC ad i F) (r : Nat → Int) (ha1 : g (i + 1) = iA cs 29200 r) (b s p : Nat) (hp : b + 6 + 86 * s = p) (hb : b + 350 ≤ 29200) (hs : s < 4) : zM l yX10_many cX10_many 3 (some .int) ({ frames := 1, cells := 0, slots := 0, locals := 60 } : Room) D A cs tt N ad g [.ref (ad i), .int (zI ((b : Int))), .int (zI ((s : Int)))] (rI0 N ad fun z g' => z = r p ∧ g = g') := by
  have hay1 : zAt ad (i) (ad i) := rfl
  have hay2 : zAt ad (i + 1) (ad (i + 1)) := rfl
  refine z_of (by decide) (Nat.le_of_ble_eq_true rfl) ?_
  intro pZ eZ sZ mZ below meth cZ C hr hlk hnm
  refine z_lv (lv' := [(0, .ref (ad i)), (1, .int (zI ((b : Int)))), (2, .int (zI ((s : Int))))]) [0, 1, 2] rfl ?_
  refine z_aload_n C 0 dX10_many_0 rfl ?_
  refine z_get (v := .ref (ad (i + 1))) C (lt_A0 hN rfl) hay1 hg rfl inA_X10 0 (by decide) q_1459 rfl rfl dX10_many_1 ?_
  refine z_iload_n C 1 dX10_many_4 rfl ?_
  refine z_bipush (z := 6) C dX10_many_5 (by decide) ?_
  refine z_iadd C dX10_many_7 ?_
  refine z_bipush (z := 86) C dX10_many_8 (by decide) ?_
  refine z_iload_n C 2 dX10_many_10 rfl ?_
  refine z_imul C dX10_many_11 ?_
  refine z_iadd C dX10_many_12 ?_
  refine z_iconst (z := 0) C dX10_many_13 rfl ?_
  refine z_iadd C dX10_many_14 ?_
  refine z_iald C (lt_A (c := 1) hN rfl) hay2 ha1 (p) (by omega) (by omega) (by decide) dX10_many_15 ?_
  exact z_iret C hr hlk dX10_many_16 (by decide) (by decide) ⟨_, rfl, rfl, rfl, rfl, rfl⟩

set_option maxRecDepth 100000 in
set_option maxHeartbeats 4000000 in
theorem c_X10_setsMany (l : Launch) (D : va_G) (A : Nat → Prop) (cs : Nat → ClassId) (tt : Nat) (N : Nat) (ad : Nat → Nat) (g : Nat → va_E) (i : Nat) (hN : i + 30 ≤ N) (F : Nat → Int) (hg : g i = mC ad i F) (r : Nat → Int) (ha1 : g (i + 1) = iA cs 29200 r) (b s p : Nat) (hp : b + 6 + 86 * s = p) (hb : b + 350 ≤ 29200) (hs : s < 4) (z : Int) : zM l yX10_setsMany cX10_setsMany 4 none ({ frames := 1, cells := 0, slots := 0, locals := 60 } : Room) D A cs tt N ad g [.ref (ad i), .int (zI ((b : Int))), .int (zI ((s : Int))), .int (zI (z))] (rV0 N ad fun g' => g' (i + 1) = iA cs 29200 (uZ r p z) ∧ ∀ j, j ≠ i + 1 → g' j = g j) := by
  have hay1 : zAt ad (i) (ad i) := rfl
  have hay2 : zAt ad (i + 1) (ad (i + 1)) := rfl
  refine z_of (by decide) (Nat.le_of_ble_eq_true rfl) ?_
  intro pZ eZ sZ mZ below meth cZ C hr hlk hnm
  refine z_lv (lv' := [(0, .ref (ad i)), (1, .int (zI ((b : Int)))), (2, .int (zI ((s : Int)))), (3, .int (zI (z)))]) [0, 1, 2, 3] rfl ?_
  refine z_aload_n C 0 dX10_setsMany_0 rfl ?_
  refine z_get (v := .ref (ad (i + 1))) C (lt_A0 hN rfl) hay1 hg rfl inA_X10 0 (by decide) q_1459 rfl rfl dX10_setsMany_1 ?_
  refine z_iload_n C 1 dX10_setsMany_4 rfl ?_
  refine z_bipush (z := 6) C dX10_setsMany_5 (by decide) ?_
  refine z_iadd C dX10_setsMany_7 ?_
  refine z_bipush (z := 86) C dX10_setsMany_8 (by decide) ?_
  refine z_iload_n C 2 dX10_setsMany_10 rfl ?_
  refine z_imul C dX10_setsMany_11 ?_
  refine z_iadd C dX10_setsMany_12 ?_
  refine z_iconst (z := 0) C dX10_setsMany_13 rfl ?_
  refine z_iadd C dX10_setsMany_14 ?_
  refine z_iload_n C 3 dX10_setsMany_15 rfl ?_
  refine z_iast C (lt_A (c := 1) hN rfl) hay2 ha1 (p) (by omega) (by omega) (by decide) dX10_setsMany_16 (fun gy3 egy4 => ?_)
  have hgy5 := up_s egy4
  exact z_vret C hr hlk dX10_setsMany_17 (by decide) (by decide) ⟨rfl, rfl, rfl, hgy5, fun j j1 => by rw [egy4, va_up_ne _ _ (by omega)]⟩

set_option maxRecDepth 100000 in
set_option maxHeartbeats 4000000 in
theorem c_X10_runsOff (l : Launch) (D : va_G) (A : Nat → Prop) (cs : Nat → ClassId) (tt : Nat) (N : Nat) (ad : Nat → Nat) (g : Nat → va_E) (i : Nat) (hN : i + 30 ≤ N) (F : Nat → Int) (hg : g i = mC ad i F) (r : Nat → Int) (ha1 : g (i + 1) = iA cs 29200 r) (b s p : Nat) (hp : b + 6 + 86 * s = p) (hb : b + 350 ≤ 29200) (hs : s < 4) (z : Int) : zM l yX10_runsOff cX10_runsOff 4 none ({ frames := 1, cells := 0, slots := 0, locals := 60 } : Room) D A cs tt N ad g [.ref (ad i), .int (zI ((b : Int))), .int (zI ((s : Int))), .int (zI (z))] (rV0 N ad fun g' => g' (i + 1) = iA cs 29200 (uZ r (p + 1) (r (p + 1) + z)) ∧ ∀ j, j ≠ i + 1 → g' j = g j) := by
  have hay1 : zAt ad (i) (ad i) := rfl
  have hay2 : zAt ad (i + 1) (ad (i + 1)) := rfl
  refine z_of (by decide) (Nat.le_of_ble_eq_true rfl) ?_
  intro pZ eZ sZ mZ below meth cZ C hr hlk hnm
  refine z_lv (lv' := [(0, .ref (ad i)), (1, .int (zI ((b : Int)))), (2, .int (zI ((s : Int)))), (3, .int (zI (z)))]) [0, 1, 2, 3] rfl ?_
  refine z_aload_n C 0 dX10_runsOff_0 rfl ?_
  refine z_get (v := .ref (ad (i + 1))) C (lt_A0 hN rfl) hay1 hg rfl inA_X10 0 (by decide) q_1459 rfl rfl dX10_runsOff_1 ?_
  refine z_iload_n C 1 dX10_runsOff_4 rfl ?_
  refine z_bipush (z := 6) C dX10_runsOff_5 (by decide) ?_
  refine z_iadd C dX10_runsOff_7 ?_
  refine z_bipush (z := 86) C dX10_runsOff_8 (by decide) ?_
  refine z_iload_n C 2 dX10_runsOff_10 rfl ?_
  refine z_imul C dX10_runsOff_11 ?_
  refine z_iadd C dX10_runsOff_12 ?_
  refine z_iconst (z := 1) C dX10_runsOff_13 rfl ?_
  refine z_iadd C dX10_runsOff_14 ?_
  refine z_dup2 C dX10_runsOff_15 rfl rfl ?_
  refine z_iald C (lt_A (c := 1) hN rfl) hay2 ha1 (p + 1) (by omega) (by omega) (by decide) dX10_runsOff_16 ?_
  refine z_iload_n C 3 dX10_runsOff_17 rfl ?_
  refine z_iadd C dX10_runsOff_18 ?_
  refine z_iast C (lt_A (c := 1) hN rfl) hay2 ha1 (p + 1) (by omega) (by omega) (by decide) dX10_runsOff_19 (fun gy3 egy4 => ?_)
  have hgy5 := up_s egy4
  exact z_vret C hr hlk dX10_runsOff_20 (by decide) (by decide) ⟨rfl, rfl, rfl, hgy5, fun j j1 => by rw [egy4, va_up_ne _ _ (by omega)]⟩

set_option maxRecDepth 100000 in
set_option maxHeartbeats 4000000 in
theorem c_X10_of (l : Launch) (D : va_G) (A : Nat → Prop) (cs : Nat → ClassId) (tt : Nat) (N : Nat) (ad : Nat → Nat) (g : Nat → va_E) (i : Nat) (hN : i + 30 ≤ N) (F : Nat → Int) (hg : g i = mC ad i F) (r : Nat → Int) (ha1 : g (i + 1) = iA cs 29200 r) (b s p : Nat) (hp : b + 6 + 86 * s = p) (hb : b + 350 ≤ 29200) (hs : s < 4) (zl zf : Int) (j : Nat) (hj : (j : Int) = (p : Int) + 2 + 7 * zl + zf) (hzl : 0 ≤ zl ∧ zl ≤ 11) (hzf : 0 ≤ zf ∧ zf ≤ 6) : zM l yX10_of cX10_of 5 (some .int) ({ frames := 2, cells := 0, slots := 0, locals := 120 } : Room) D A cs tt N ad g [.ref (ad i), .int (zI ((b : Int))), .int (zI ((s : Int))), .int (zI (zl)), .int (zI (zf))] (rI0 N ad fun z g' => z = r j ∧ g = g') := by
  have hay1 : zAt ad (i) (ad i) := rfl
  have hay2 : zAt ad (i + 1) (ad (i + 1)) := rfl
  refine z_of (by decide) (Nat.le_of_ble_eq_true rfl) ?_
  intro pZ eZ sZ mZ below meth cZ C hr hlk hnm
  refine z_lv (lv' := [(0, .ref (ad i)), (1, .int (zI ((b : Int)))), (2, .int (zI ((s : Int)))), (3, .int (zI (zl))), (4, .int (zI (zf)))]) [0, 1, 2, 3, 4] rfl ?_
  refine z_aload_n C 0 dX10_of_0 rfl ?_
  refine z_get (v := .ref (ad (i + 1))) C (lt_A0 hN rfl) hay1 hg rfl inA_X10 0 (by decide) q_1459 rfl rfl dX10_of_1 ?_
  refine z_iload_n C 1 dX10_of_4 rfl ?_
  refine z_iload_n C 2 dX10_of_5 rfl ?_
  refine z_iload_n C 3 dX10_of_6 rfl ?_
  obtain ⟨ky3, hky3⟩ : ∃ k9 : Nat, (zl) = (k9 : Int) := ⟨((zl) : Int).toNat, by omega⟩
  obtain ⟨qy4, hqy4⟩ : ∃ q9 : Nat, p + 2 + 7 * ky3 = q9 := ⟨_, rfl⟩
  refine z_cS (As := [.int (zI ((b : Int))), .int (zI ((s : Int))), .int (zI (zl))]) (rest := [.ref (ad (i + 1))]) C (c_X10_at l D A cs tt N ad _ ((b : Int)) (by omega) ((s : Int)) (by omega) (zl) (by omega)) ms_yX10_at q_1753 hd_yX10_at (by decide) (Nat.le_of_ble_eq_true rfl) (by decide) dX10_of_7 rfl (kI0 fun vy5 gvy5 hvy5 => ?_)
  obtain ⟨hvy5, rfl⟩ := hvy5
  rw [show vy5 = (qy4 : Int) by omega]
  refine z_iload C 4 dX10_of_10 rfl ?_
  refine z_iadd C dX10_of_12 ?_
  refine z_iald C (lt_A (c := 1) hN rfl) hay2 ha1 (j) (by omega) (by omega) (by decide) dX10_of_13 ?_
  exact z_iret C hr hlk dX10_of_14 (by decide) (by decide) ⟨_, rfl, rfl, rfl, rfl, rfl⟩

set_option maxRecDepth 100000 in
set_option maxHeartbeats 4000000 in
theorem c_X10_sets (l : Launch) (D : va_G) (A : Nat → Prop) (cs : Nat → ClassId) (tt : Nat) (N : Nat) (ad : Nat → Nat) (g : Nat → va_E) (i : Nat) (hN : i + 30 ≤ N) (F : Nat → Int) (hg : g i = mC ad i F) (r : Nat → Int) (ha1 : g (i + 1) = iA cs 29200 r) (b s p : Nat) (hp : b + 6 + 86 * s = p) (hb : b + 350 ≤ 29200) (hs : s < 4) (zl zf : Int) (j : Nat) (hj : (j : Int) = (p : Int) + 2 + 7 * zl + zf) (hzl : 0 ≤ zl ∧ zl ≤ 11) (hzf : 0 ≤ zf ∧ zf ≤ 6) (z : Int) : zM l yX10_sets cX10_sets 6 none ({ frames := 2, cells := 0, slots := 0, locals := 120 } : Room) D A cs tt N ad g [.ref (ad i), .int (zI ((b : Int))), .int (zI ((s : Int))), .int (zI (zl)), .int (zI (zf)), .int (zI (z))] (rV0 N ad fun g' => g' (i + 1) = iA cs 29200 (uZ r j z) ∧ ∀ j, j ≠ i + 1 → g' j = g j) := by
  have hay1 : zAt ad (i) (ad i) := rfl
  have hay2 : zAt ad (i + 1) (ad (i + 1)) := rfl
  refine z_of (by decide) (Nat.le_of_ble_eq_true rfl) ?_
  intro pZ eZ sZ mZ below meth cZ C hr hlk hnm
  refine z_lv (lv' := [(0, .ref (ad i)), (1, .int (zI ((b : Int)))), (2, .int (zI ((s : Int)))), (3, .int (zI (zl))), (4, .int (zI (zf))), (5, .int (zI (z)))]) [0, 1, 2, 3, 4, 5] rfl ?_
  refine z_aload_n C 0 dX10_sets_0 rfl ?_
  refine z_get (v := .ref (ad (i + 1))) C (lt_A0 hN rfl) hay1 hg rfl inA_X10 0 (by decide) q_1459 rfl rfl dX10_sets_1 ?_
  refine z_iload_n C 1 dX10_sets_4 rfl ?_
  refine z_iload_n C 2 dX10_sets_5 rfl ?_
  refine z_iload_n C 3 dX10_sets_6 rfl ?_
  obtain ⟨ky3, hky3⟩ : ∃ k9 : Nat, (zl) = (k9 : Int) := ⟨((zl) : Int).toNat, by omega⟩
  obtain ⟨qy4, hqy4⟩ : ∃ q9 : Nat, p + 2 + 7 * ky3 = q9 := ⟨_, rfl⟩
  refine z_cS (As := [.int (zI ((b : Int))), .int (zI ((s : Int))), .int (zI (zl))]) (rest := [.ref (ad (i + 1))]) C (c_X10_at l D A cs tt N ad _ ((b : Int)) (by omega) ((s : Int)) (by omega) (zl) (by omega)) ms_yX10_at q_1753 hd_yX10_at (by decide) (Nat.le_of_ble_eq_true rfl) (by decide) dX10_sets_7 rfl (kI0 fun vy5 gvy5 hvy5 => ?_)
  obtain ⟨hvy5, rfl⟩ := hvy5
  rw [show vy5 = (qy4 : Int) by omega]
  refine z_iload C 4 dX10_sets_10 rfl ?_
  refine z_iadd C dX10_sets_12 ?_
  refine z_iload C 5 dX10_sets_13 rfl ?_
  refine z_iast C (lt_A (c := 1) hN rfl) hay2 ha1 (j) (by omega) (by omega) (by decide) dX10_sets_15 (fun gy6 egy7 => ?_)
  have hgy8 := up_s egy7
  exact z_vret C hr hlk dX10_sets_16 (by decide) (by decide) ⟨rfl, rfl, rfl, hgy8, fun j j1 => by rw [egy7, va_up_ne _ _ (by omega)]⟩

def qS (r : Nat → Int) (p : Nat) : Prop := (0 ≤ r p ∧ r p ≤ 12) ∧ ∀ l : Nat, (l : Int) < r p → (0 ≤ r (p + 2 + 7 * l) ∧ r (p + 2 + 7 * l) ≤ 4) ∧ 1 ≤ r (p + 2 + 7 * l + 3) ∧ r (p + 2 + 7 * l + 3) ≤ 400000000
theorem qS.layer {r : Nat → Int} {p k q : Nat} (h : qS r p) (hk : (k : Int) < r p) (hq : p + 2 + 7 * k = q) : (0 ≤ r q ∧ r q ≤ 4) ∧ 1 ≤ r (q + 3) ∧ r (q + 3) ≤ 400000000 := by
  subst hq
  exact h.2 k hk
theorem okS.q {r : Nat → Int} {p : Nat} {M E : Int} (h : okS r p M E) (hE : E ≤ 400000000) : qS r p := ⟨h.1, fun l hl => by
  obtain ⟨a, b, c⟩ := h.layer hl rfl
  exact ⟨a.1, a.2.2.2.1, by omega⟩⟩

set_option maxRecDepth 100000 in
set_option maxHeartbeats 4000000 in
theorem c_X10_weightA (l : Launch) (D : va_G) (A : Nat → Prop) (cs : Nat → ClassId) (tt : Nat) (N : Nat) (ad : Nat → Nat) (g : Nat → va_E) (i : Nat) (hN : i + 30 ≤ N) (F : Nat → Int) (hg : g i = mC ad i F) (r : Nat → Int) (ha1 : g (i + 1) = iA cs 29200 r) (b s p : Nat) (hp : b + 6 + 86 * s = p) (hb : b + 350 ≤ 29200) (hs : s < 4) (zl : Int) (hzl : 0 ≤ zl ∧ zl ≤ 11) : zM l yX10_weight cX10_weight 4 (some .int) ({ frames := 3, cells := 0, slots := 0, locals := 180 } : Room) D A cs tt N ad g [.ref (ad i), .int (zI ((b : Int))), .int (zI ((s : Int))), .int (zI (zl))] (rI0 N ad fun r g' => (-2147483648 ≤ r ∧ r ≤ 2147483647) ∧ g = g') := by
  have hay1 : zAt ad (i) (ad i) := rfl
  have hay2 : zAt ad (i + 1) (ad (i + 1)) := rfl
  refine z_of (by decide) (Nat.le_of_ble_eq_true rfl) ?_
  intro pZ eZ sZ mZ below meth cZ C hr hlk hnm
  refine z_lv (lv' := [(0, .ref (ad i)), (1, .int (zI ((b : Int)))), (2, .int (zI ((s : Int)))), (3, .int (zI (zl)))]) [0, 1, 2, 3] rfl ?_
  refine z_aload_n C 0 dX10_weight_0 rfl ?_
  refine z_iload_n C 1 dX10_weight_1 rfl ?_
  refine z_iload_n C 2 dX10_weight_2 rfl ?_
  refine z_iload_n C 3 dX10_weight_3 rfl ?_
  refine z_iconst (z := 1) C dX10_weight_4 rfl ?_
  obtain ⟨ky3, hky3⟩ : ∃ k9 : Nat, (zl) = (k9 : Int) := ⟨((zl) : Int).toNat, by omega⟩
  obtain ⟨qy4, hqy4⟩ : ∃ q9 : Nat, p + 2 + 7 * ky3 = q9 := ⟨_, rfl⟩
  refine z_cV (As := [.int (zI ((b : Int))), .int (zI ((s : Int))), .int (zI (zl)), .int (zI (1))]) (rest := []) (ci := 12) C (c_X10_of l D A cs tt N ad _ i hN _ hg _ ha1 b s p hp (by omega) (by omega) (zl) (1) (qy4 + 1) (by omega) (by omega) (by omega)) (lt_A0 hN rfl) hay1 hg rfl rfl mv_yX10_of q_1749 hd_yX10_of (by decide) (Nat.le_of_ble_eq_true rfl) (by decide) dX10_weight_5 rfl (kI0 fun vy5 gvy5 hvy5 => ?_)
  obtain ⟨rfl, rfl⟩ := hvy5
  refine z_aload_n C 0 dX10_weight_8 rfl ?_
  refine z_iload_n C 1 dX10_weight_9 rfl ?_
  refine z_iload_n C 2 dX10_weight_10 rfl ?_
  refine z_iload_n C 3 dX10_weight_11 rfl ?_
  refine z_iconst (z := 2) C dX10_weight_12 rfl ?_
  refine z_cV (As := [.int (zI ((b : Int))), .int (zI ((s : Int))), .int (zI (zl)), .int (zI (2))]) (rest := [.int (zI (r (qy4 + 1)))]) (ci := 12) C (c_X10_of l D A cs tt N ad _ i hN _ hg _ ha1 b s p hp (by omega) (by omega) (zl) (2) (qy4 + 2) (by omega) (by omega) (by omega)) (lt_A0 hN rfl) hay1 hg rfl rfl mv_yX10_of q_1749 hd_yX10_of (by decide) (Nat.le_of_ble_eq_true rfl) (by decide) dX10_weight_13 rfl (kI0 fun vy6 gvy6 hvy6 => ?_)
  obtain ⟨rfl, rfl⟩ := hvy6
  refine z_iadd C dX10_weight_16 ?_
  obtain ⟨xy7, exy8, hxy9⟩ := zI_of (zI ((r (qy4 + 1)) + (r (qy4 + 2))))
  rw [exy8]
  exact z_iret C hr hlk dX10_weight_17 (by decide) (by decide) ⟨xy7, rfl, rfl, rfl, by omega, rfl⟩

set_option maxRecDepth 100000 in
set_option maxHeartbeats 4000000 in
theorem c_X10_aboveA (l : Launch) (D : va_G) (A : Nat → Prop) (cs : Nat → ClassId) (tt : Nat) (N : Nat) (ad : Nat → Nat) (g : Nat → va_E) (i : Nat) (hN : i + 30 ≤ N) (F : Nat → Int) (hg : g i = mC ad i F) (r : Nat → Int) (ha1 : g (i + 1) = iA cs 29200 r) (b s p : Nat) (hp : b + 6 + 86 * s = p) (hb : b + 350 ≤ 29200) (hs : s < 4) (hq : qS r p) (zl : Int) (hzl : -1 ≤ zl ∧ zl ≤ 12) : zM l yX10_above cX10_above 6 (some .int) ({ frames := 4, cells := 0, slots := 0, locals := 240 } : Room) D A cs tt N ad g [.ref (ad i), .int (zI ((b : Int))), .int (zI ((s : Int))), .int (zI (zl))] (rI0 N ad fun r g' => (-2147483648 ≤ r ∧ r ≤ 2147483647) ∧ g = g') := by
  have hay1 : zAt ad (i) (ad i) := rfl
  have hay2 : zAt ad (i + 1) (ad (i + 1)) := rfl
  have hmk := hq.1
  refine z_of (by decide) (Nat.le_of_ble_eq_true rfl) ?_
  intro pZ eZ sZ mZ below meth cZ C hr hlk hnm
  refine z_lv (lv' := [(0, .ref (ad i)), (1, .int (zI ((b : Int)))), (2, .int (zI ((s : Int)))), (3, .int (zI (zl)))]) [0, 1, 2, 3] rfl ?_
  have lp : ∀ (n9 : Nat) (al : Int) (ll : Int) (g1 : Nat → va_E), (13 - ll).toNat = n9 → (g1 = g) → (-2147483648 ≤ al ∧ al ≤ 2147483647) → (0 ≤ ll ∧ ll ≤ 13) → zV pZ l eZ ({ frames := 4, cells := 0, slots := 0, locals := 240 } : Room) sZ mZ ([.ref (ad i), .int (zI ((b : Int))), .int (zI ((s : Int))), .int (zI (zl))] : List Value).toArray below meth cZ (MQ below (zPost D A (rI0 N ad fun r g' => (-2147483648 ≤ r ∧ r ≤ 2147483647) ∧ g = g')) ([.ref (ad i), .int (zI ((b : Int))), .int (zI ((s : Int))), .int (zI (zl))] : List Value).toArray sZ ({ frames := 4, cells := 0, slots := 0, locals := 240 } : Room).cells ({ frames := 4, cells := 0, slots := 0, locals := 240 } : Room).slots A) D A 6 (N) ad g1 (0) (0) 8 [(0, .ref (ad i)), (1, .int (zI ((b : Int)))), (2, .int (zI ((s : Int)))), (4, .int (zI (al))), (5, .int (zI (ll)))] [] := by
    intro n9
    induction n9 using Nat.strongRecOn with
    | ind n9 ih =>
      intro al ll g1 hm9 hg1 hv0 hv1
      subst hg1
      refine z_iload C 4 dX10_above_8 rfl ?_
      refine z_aload_n C 0 dX10_above_10 rfl ?_
      refine z_iload_n C 1 dX10_above_11 rfl ?_
      refine z_iload_n C 2 dX10_above_12 rfl ?_
      refine z_cV (As := [.int (zI ((b : Int))), .int (zI ((s : Int)))]) (rest := [.int (zI (ll))]) (ci := 12) C (c_X10_many l D A cs tt N ad _ i hN _ hg _ ha1 b s p hp (by omega) (by omega)) (lt_A0 hN rfl) hay1 hg rfl rfl mv_yX10_many q_1733 hd_yX10_many (by decide) (Nat.le_of_ble_eq_true rfl) (by decide) dX10_above_13 rfl (kI0 fun vy3 gvy3 hvy3 => ?_)
      obtain ⟨rfl, rfl⟩ := hvy3
      refine z_icmp_ge (tgt := 38) C dX10_above_16 (by decide) (by omega) (by omega) (fun hby4 => ?_) (fun hby4 => ?_)
      · refine z_iload C 3 dX10_above_38 rfl ?_
        exact z_iret C hr hlk dX10_above_40 (by decide) (by decide) ⟨al, rfl, rfl, rfl, by omega, rfl⟩
      · refine z_iload C 3 dX10_above_19 rfl ?_
        refine z_aload_n C 0 dX10_above_21 rfl ?_
        refine z_iload_n C 1 dX10_above_22 rfl ?_
        refine z_iload_n C 2 dX10_above_23 rfl ?_
        refine z_iload C 4 dX10_above_24 rfl ?_
        refine z_cV (As := [.int (zI ((b : Int))), .int (zI ((s : Int))), .int (zI (ll))]) (rest := [.int (zI (al))]) (ci := 12) C (c_X10_weightA l D A cs tt N ad _ i hN _ hg _ ha1 b s p hp (by omega) (by omega)  (ll) (by omega)) (lt_A0 hN rfl) hay1 hg rfl rfl mv_yX10_weight q_1784 hd_yX10_weight (by decide) (Nat.le_of_ble_eq_true rfl) (by decide) dX10_above_26 rfl (kI0 fun vy5 gvy5 hvy5 => ?_)
        obtain ⟨hvy5, rfl⟩ := hvy5
        refine z_iadd C dX10_above_29 ?_
        refine z_istore (lv' := [(4, .int (zI (al + vy5))), (0, .ref (ad i)), (1, .int (zI ((b : Int)))), (2, .int (zI ((s : Int)))), (5, .int (zI (ll)))]) C dX10_above_30 (by decide) rfl ?_
        refine z_iinc (z := ll + 1) (lv' := [(5, .int (zI (ll + 1))), (4, .int (zI (al + vy5))), (0, .ref (ad i)), (1, .int (zI ((b : Int)))), (2, .int (zI ((s : Int))))]) (j := 4) C dX10_above_32 rfl rfl (by decide) rfl ?_
        refine z_goto (tgt := 8) C dX10_above_35 (by decide) ?_
        obtain ⟨xy6, exy7, hxy8⟩ := zI_of (zI (al + vy5))
        rw [exy7]
        refine z_lv (lv' := [(0, .ref (ad i)), (1, .int (zI ((b : Int)))), (2, .int (zI ((s : Int)))), (4, .int (zI (xy6))), (5, .int (zI (ll + 1)))]) [2, 3, 4, 1, 0] rfl ?_
        exact ih _ (by omega) (xy6) (ll + 1) _ rfl rfl (by omega) (by omega)
  refine z_iconst (z := 0) C dX10_above_0 rfl ?_
  refine z_istore (lv' := [(4, .int (zI (0))), (0, .ref (ad i)), (1, .int (zI ((b : Int)))), (2, .int (zI ((s : Int)))), (3, .int (zI (zl)))]) C dX10_above_1 (by decide) rfl ?_
  refine z_iload_n C 4 dX10_above_3 rfl ?_
  refine z_iconst (z := 1) C dX10_above_4 rfl ?_
  refine z_iadd C dX10_above_5 ?_
  refine z_istore (lv' := [(5, .int (zI (zl + 1))), (4, .int (zI (0))), (0, .ref (ad i)), (1, .int (zI ((b : Int)))), (2, .int (zI ((s : Int)))), (3, .int (zI (zl)))]) C dX10_above_6 (by decide) rfl ?_
  refine z_lv (lv' := [(0, .ref (ad i)), (1, .int (zI ((b : Int)))), (2, .int (zI ((s : Int)))), (4, .int (zI (0))), (5, .int (zI (zl + 1)))]) [2, 3, 4, 1, 0] rfl ?_
  exact lp _ (0) (zl + 1) _ rfl rfl (by omega) (by omega)

set_option maxRecDepth 100000 in
set_option maxHeartbeats 4000000 in
theorem c_X10_sumA (l : Launch) (D : va_G) (A : Nat → Prop) (cs : Nat → ClassId) (tt : Nat) (N : Nat) (ad : Nat → Nat) (g : Nat → va_E) (i : Nat) (hN : i + 30 ≤ N) (F : Nat → Int) (hg : g i = mC ad i F) (r : Nat → Int) (ha1 : g (i + 1) = iA cs 29200 r) (b s p : Nat) (hp : b + 6 + 86 * s = p) (hb : b + 350 ≤ 29200) (hs : s < 4) (hq : qS r p) (ff : Nat) (hff : ff ≤ 6) : zM l yX10_sum cX10_sum 6 (some .int) ({ frames := 4, cells := 0, slots := 0, locals := 240 } : Room) D A cs tt N ad g [.ref (ad i), .int (zI ((b : Int))), .int (zI ((s : Int))), .int (zI ((ff : Int)))] (rI0 N ad fun r g' => (-2147483648 ≤ r ∧ r ≤ 2147483647) ∧ g = g') := by
  have hay1 : zAt ad (i) (ad i) := rfl
  have hay2 : zAt ad (i + 1) (ad (i + 1)) := rfl
  have hmk := hq.1
  refine z_of (by decide) (Nat.le_of_ble_eq_true rfl) ?_
  intro pZ eZ sZ mZ below meth cZ C hr hlk hnm
  refine z_lv (lv' := [(0, .ref (ad i)), (1, .int (zI ((b : Int)))), (2, .int (zI ((s : Int)))), (3, .int (zI ((ff : Int))))]) [0, 1, 2, 3] rfl ?_
  have lp : ∀ (n9 : Nat) (al : Int) (ll : Int) (g1 : Nat → va_E), (13 - ll).toNat = n9 → (g1 = g) → (-2147483648 ≤ al ∧ al ≤ 2147483647) → (0 ≤ ll ∧ ll ≤ 12) → zV pZ l eZ ({ frames := 4, cells := 0, slots := 0, locals := 240 } : Room) sZ mZ ([.ref (ad i), .int (zI ((b : Int))), .int (zI ((s : Int))), .int (zI ((ff : Int)))] : List Value).toArray below meth cZ (MQ below (zPost D A (rI0 N ad fun r g' => (-2147483648 ≤ r ∧ r ≤ 2147483647) ∧ g = g')) ([.ref (ad i), .int (zI ((b : Int))), .int (zI ((s : Int))), .int (zI ((ff : Int)))] : List Value).toArray sZ ({ frames := 4, cells := 0, slots := 0, locals := 240 } : Room).cells ({ frames := 4, cells := 0, slots := 0, locals := 240 } : Room).slots A) D A 6 (N) ad g1 (0) (0) 6 [(0, .ref (ad i)), (1, .int (zI ((b : Int)))), (2, .int (zI ((s : Int)))), (3, .int (zI ((ff : Int)))), (4, .int (zI (al))), (5, .int (zI (ll)))] [] := by
    intro n9
    induction n9 using Nat.strongRecOn with
    | ind n9 ih =>
      intro al ll g1 hm9 hg1 hv0 hv1
      subst hg1
      refine z_iload C 5 dX10_sum_6 rfl ?_
      refine z_aload_n C 0 dX10_sum_8 rfl ?_
      refine z_iload_n C 1 dX10_sum_9 rfl ?_
      refine z_iload_n C 2 dX10_sum_10 rfl ?_
      refine z_cV (As := [.int (zI ((b : Int))), .int (zI ((s : Int)))]) (rest := [.int (zI (ll))]) (ci := 12) C (c_X10_many l D A cs tt N ad _ i hN _ hg _ ha1 b s p hp (by omega) (by omega)) (lt_A0 hN rfl) hay1 hg rfl rfl mv_yX10_many q_1733 hd_yX10_many (by decide) (Nat.le_of_ble_eq_true rfl) (by decide) dX10_sum_11 rfl (kI0 fun vy3 gvy3 hvy3 => ?_)
      obtain ⟨rfl, rfl⟩ := hvy3
      refine z_icmp_ge (tgt := 37) C dX10_sum_14 (by decide) (by omega) (by omega) (fun hby4 => ?_) (fun hby4 => ?_)
      · refine z_iload C 4 dX10_sum_37 rfl ?_
        exact z_iret C hr hlk dX10_sum_39 (by decide) (by decide) ⟨al, rfl, rfl, rfl, by omega, rfl⟩
      · refine z_iload C 4 dX10_sum_17 rfl ?_
        refine z_aload_n C 0 dX10_sum_19 rfl ?_
        refine z_iload_n C 1 dX10_sum_20 rfl ?_
        refine z_iload_n C 2 dX10_sum_21 rfl ?_
        refine z_iload C 5 dX10_sum_22 rfl ?_
        refine z_iload_n C 3 dX10_sum_24 rfl ?_
        obtain ⟨ky5, hky5⟩ : ∃ k9 : Nat, (ll) = (k9 : Int) := ⟨((ll) : Int).toNat, by omega⟩
        obtain ⟨qy6, hqy6⟩ : ∃ q9 : Nat, p + 2 + 7 * ky5 = q9 := ⟨_, rfl⟩
        refine z_cV (As := [.int (zI ((b : Int))), .int (zI ((s : Int))), .int (zI (ll)), .int (zI ((ff : Int)))]) (rest := [.int (zI (al))]) (ci := 12) C (c_X10_of l D A cs tt N ad _ i hN _ hg _ ha1 b s p hp (by omega) (by omega) (ll) ((ff : Int)) (qy6 + ff) (by omega) (by omega) (by omega)) (lt_A0 hN rfl) hay1 hg rfl rfl mv_yX10_of q_1749 hd_yX10_of (by decide) (Nat.le_of_ble_eq_true rfl) (by decide) dX10_sum_25 rfl (kI0 fun vy7 gvy7 hvy7 => ?_)
        obtain ⟨rfl, rfl⟩ := hvy7
        refine z_iadd C dX10_sum_28 ?_
        refine z_istore (lv' := [(4, .int (zI (al + (r (qy6 + ff))))), (0, .ref (ad i)), (1, .int (zI ((b : Int)))), (2, .int (zI ((s : Int)))), (3, .int (zI ((ff : Int)))), (5, .int (zI (ll)))]) C dX10_sum_29 (by decide) rfl ?_
        refine z_iinc (z := ll + 1) (lv' := [(5, .int (zI (ll + 1))), (4, .int (zI (al + (r (qy6 + ff))))), (0, .ref (ad i)), (1, .int (zI ((b : Int)))), (2, .int (zI ((s : Int)))), (3, .int (zI ((ff : Int))))]) (j := 5) C dX10_sum_31 rfl rfl (by decide) rfl ?_
        refine z_goto (tgt := 6) C dX10_sum_34 (by decide) ?_
        obtain ⟨xy8, exy9, hxy10⟩ := zI_of (zI (al + (r (qy6 + ff))))
        rw [exy9]
        refine z_lv (lv' := [(0, .ref (ad i)), (1, .int (zI ((b : Int)))), (2, .int (zI ((s : Int)))), (3, .int (zI ((ff : Int)))), (4, .int (zI (xy8))), (5, .int (zI (ll + 1)))]) [2, 3, 4, 5, 1, 0] rfl ?_
        exact ih _ (by omega) (xy8) (ll + 1) _ rfl rfl (by omega) (by omega)
  refine z_iconst (z := 0) C dX10_sum_0 rfl ?_
  refine z_istore (lv' := [(4, .int (zI (0))), (0, .ref (ad i)), (1, .int (zI ((b : Int)))), (2, .int (zI ((s : Int)))), (3, .int (zI ((ff : Int))))]) C dX10_sum_1 (by decide) rfl ?_
  refine z_iconst (z := 0) C dX10_sum_3 rfl ?_
  refine z_istore (lv' := [(5, .int (zI (0))), (4, .int (zI (0))), (0, .ref (ad i)), (1, .int (zI ((b : Int)))), (2, .int (zI ((s : Int)))), (3, .int (zI ((ff : Int))))]) C dX10_sum_4 (by decide) rfl ?_
  refine z_lv (lv' := [(0, .ref (ad i)), (1, .int (zI ((b : Int)))), (2, .int (zI ((s : Int)))), (3, .int (zI ((ff : Int)))), (4, .int (zI (0))), (5, .int (zI (0)))]) [2, 3, 4, 5, 1, 0] rfl ?_
  exact lp _ (0) (0) _ rfl rfl (by omega) (by omega)

set_option maxRecDepth 100000 in
set_option maxHeartbeats 4000000 in
theorem c_X10_strength (l : Launch) (D : va_G) (A : Nat → Prop) (cs : Nat → ClassId) (tt : Nat) (N : Nat) (ad : Nat → Nat) (g : Nat → va_E) (i : Nat) (hN : i + 30 ≤ N) (F : Nat → Int) (hg : g i = mC ad i F) (r : Nat → Int) (ha1 : g (i + 1) = iA cs 29200 r) (tb : Nat → Int) (ha7 : g (i + 7) = iA cs 15 tb) (b s p : Nat) (hp : b + 6 + 86 * s = p) (hb : b + 350 ≤ 29200) (hs : s < 4) (hq : qS r p) (zl : Int) (hzl : 0 ≤ zl ∧ zl < r p) : zM l yX10_strength cX10_strength 5 (some .int) ({ frames := 4, cells := 0, slots := 0, locals := 240 } : Room) D A cs tt N ad g [.ref (ad i), .int (zI ((b : Int))), .int (zI ((s : Int))), .int (zI (zl))] (rI0 N ad fun r g' => (-2147483648 ≤ r ∧ r ≤ 2147483647) ∧ g = g') := by
  have hay1 : zAt ad (i) (ad i) := rfl
  have hay2 : zAt ad (i + 1) (ad (i + 1)) := rfl
  have hay3 : zAt ad (i + 7) (ad (i + 7)) := rfl
  have hmk := hq.1
  obtain ⟨ky4, hky4⟩ : ∃ k9 : Nat, (zl) = (k9 : Int) := ⟨((zl) : Int).toNat, by omega⟩
  obtain ⟨qy5, hqy5⟩ : ∃ q9 : Nat, p + 2 + 7 * ky4 = q9 := ⟨_, rfl⟩
  obtain ⟨hKzy6, hDzy6, hEzy6⟩ := qS.layer hq (k := ky4) (by omega) hqy5
  refine z_of (by decide) (Nat.le_of_ble_eq_true rfl) ?_
  intro pZ eZ sZ mZ below meth cZ C hr hlk hnm
  refine z_lv (lv' := [(0, .ref (ad i)), (1, .int (zI ((b : Int)))), (2, .int (zI ((s : Int)))), (3, .int (zI (zl)))]) [0, 1, 2, 3] rfl ?_
  refine z_aload_n C 0 dX10_strength_0 rfl ?_
  refine z_get (v := .ref (ad (i + 7))) C (lt_A0 hN rfl) hay1 hg rfl inA_X10 6 (by decide) q_1465 rfl rfl dX10_strength_1 ?_
  refine z_aload_n C 0 dX10_strength_4 rfl ?_
  refine z_iload_n C 1 dX10_strength_5 rfl ?_
  refine z_iload_n C 2 dX10_strength_6 rfl ?_
  refine z_iload_n C 3 dX10_strength_7 rfl ?_
  refine z_iconst (z := 0) C dX10_strength_8 rfl ?_
  refine z_cV (As := [.int (zI ((b : Int))), .int (zI ((s : Int))), .int (zI (zl)), .int (zI (0))]) (rest := [.ref (ad (i + 7))]) (ci := 12) C (c_X10_of l D A cs tt N ad _ i hN _ hg _ ha1 b s p hp (by omega) (by omega) (zl) (0) (qy5) (by omega) (by omega) (by omega)) (lt_A0 hN rfl) hay1 hg rfl rfl mv_yX10_of q_1749 hd_yX10_of (by decide) (Nat.le_of_ble_eq_true rfl) (by decide) dX10_strength_9 rfl (kI0 fun vy7 gvy7 hvy7 => ?_)
  obtain ⟨rfl, rfl⟩ := hvy7
  refine z_iald C (lt_A (c := 7) hN rfl) hay3 ha7 ((r (qy5)).toNat) (by omega) (by omega) (by decide) dX10_strength_12 ?_
  refine z_aload_n C 0 dX10_strength_13 rfl ?_
  refine z_iload_n C 1 dX10_strength_14 rfl ?_
  refine z_iload_n C 2 dX10_strength_15 rfl ?_
  refine z_iload_n C 3 dX10_strength_16 rfl ?_
  refine z_cV (As := [.int (zI ((b : Int))), .int (zI ((s : Int))), .int (zI (zl))]) (rest := [.int (zI (tb ((r (qy5)).toNat)))]) (ci := 12) C (c_X10_weightA l D A cs tt N ad _ i hN _ hg _ ha1 b s p hp (by omega) (by omega)  (zl) (by omega)) (lt_A0 hN rfl) hay1 hg rfl rfl mv_yX10_weight q_1784 hd_yX10_weight (by decide) (Nat.le_of_ble_eq_true rfl) (by decide) dX10_strength_17 rfl (kI0 fun vy8 gvy8 hvy8 => ?_)
  obtain ⟨hvy8, rfl⟩ := hvy8
  refine z_imul C dX10_strength_20 ?_
  refine z_bipush (z := 10) C dX10_strength_21 (by decide) ?_
  refine z_imul C dX10_strength_23 ?_
  refine z_aload_n C 0 dX10_strength_24 rfl ?_
  refine z_iload_n C 1 dX10_strength_25 rfl ?_
  refine z_iload_n C 2 dX10_strength_26 rfl ?_
  refine z_iload_n C 3 dX10_strength_27 rfl ?_
  refine z_iconst (z := 3) C dX10_strength_28 rfl ?_
  refine z_cV (As := [.int (zI ((b : Int))), .int (zI ((s : Int))), .int (zI (zl)), .int (zI (3))]) (rest := [.int (zI (((tb ((r (qy5)).toNat)) * vy8) * 10))]) (ci := 12) C (c_X10_of l D A cs tt N ad _ i hN _ hg _ ha1 b s p hp (by omega) (by omega) (zl) (3) (qy5 + 3) (by omega) (by omega) (by omega)) (lt_A0 hN rfl) hay1 hg rfl rfl mv_yX10_of q_1749 hd_yX10_of (by decide) (Nat.le_of_ble_eq_true rfl) (by decide) dX10_strength_29 rfl (kI0 fun vy9 gvy9 hvy9 => ?_)
  obtain ⟨rfl, rfl⟩ := hvy9
  obtain ⟨xy10, exy11, hxy12⟩ := zI_of (zI (((tb ((r (qy5)).toNat)) * vy8) * 10))
  rw [exy11]
  refine z_idiv C dX10_strength_32 (by omega) (by omega) (by omega) ?_
  refine z_istore (lv' := [(4, .int (zI (xy10.tdiv (r (qy5 + 3))))), (0, .ref (ad i)), (1, .int (zI ((b : Int)))), (2, .int (zI ((s : Int)))), (3, .int (zI (zl)))]) C dX10_strength_33 (by decide) rfl ?_
  refine z_aload_n C 1 dX10_strength_35 rfl ?_
  refine z_iload_n C 2 dX10_strength_36 rfl ?_
  refine z_iload_n C 3 dX10_strength_37 rfl ?_
  refine z_iload_n C 4 dX10_strength_38 rfl ?_
  refine z_iconst (z := 2) C dX10_strength_39 rfl ?_
  refine z_cV (As := [.int (zI ((b : Int))), .int (zI ((s : Int))), .int (zI (zl)), .int (zI (2))]) (rest := []) (ci := 12) C (c_X10_of l D A cs tt N ad _ i hN _ hg _ ha1 b s p hp (by omega) (by omega) (zl) (2) (qy5 + 2) (by omega) (by omega) (by omega)) (lt_A0 hN rfl) hay1 hg rfl rfl mv_yX10_of q_1749 hd_yX10_of (by decide) (Nat.le_of_ble_eq_true rfl) (by decide) dX10_strength_40 rfl (kI0 fun vy13 gvy13 hvy13 => ?_)
  obtain ⟨rfl, rfl⟩ := hvy13
  refine z_bipush (z := 100) C dX10_strength_43 (by decide) ?_
  refine z_imul C dX10_strength_45 ?_
  refine z_iconst (z := 3) C dX10_strength_46 rfl ?_
  refine z_aload_n C 1 dX10_strength_47 rfl ?_
  refine z_iload_n C 2 dX10_strength_48 rfl ?_
  refine z_iload_n C 3 dX10_strength_49 rfl ?_
  refine z_iload_n C 4 dX10_strength_50 rfl ?_
  refine z_iconst (z := 1) C dX10_strength_51 rfl ?_
  refine z_cV (As := [.int (zI ((b : Int))), .int (zI ((s : Int))), .int (zI (zl)), .int (zI (1))]) (rest := [.int (zI (3)), .int (zI ((r (qy5 + 2)) * 100))]) (ci := 12) C (c_X10_of l D A cs tt N ad _ i hN _ hg _ ha1 b s p hp (by omega) (by omega) (zl) (1) (qy5 + 1) (by omega) (by omega) (by omega)) (lt_A0 hN rfl) hay1 hg rfl rfl mv_yX10_of q_1749 hd_yX10_of (by decide) (Nat.le_of_ble_eq_true rfl) (by decide) dX10_strength_52 rfl (kI0 fun vy14 gvy14 hvy14 => ?_)
  obtain ⟨rfl, rfl⟩ := hvy14
  refine z_imul C dX10_strength_55 ?_
  obtain ⟨xy15, exy16, hxy17⟩ := zI_of (zI (3 * (r (qy5 + 1))))
  rw [exy16]
  obtain ⟨xy18, exy19, hxy20⟩ := zI_of (zI ((r (qy5 + 2)) * 100))
  rw [exy19]
  refine z_icmp_lt (tgt := 66) C dX10_strength_56 (by decide) (by omega) (by omega) (fun hby21 => ?_) (fun hby21 => ?_)
  · refine z_iload C 0 dX10_strength_66 rfl ?_
    obtain ⟨xy22, exy23, hxy24⟩ := zI_of (zI (xy10.tdiv (r (qy5 + 3))))
    rw [exy23]
    exact z_iret C hr hlk dX10_strength_68 (by decide) (by decide) ⟨xy22, rfl, rfl, rfl, by omega, rfl⟩
  · refine z_iload C 0 dX10_strength_59 rfl ?_
    refine z_iconst (z := 2) C dX10_strength_61 rfl ?_
    obtain ⟨xy25, exy26, hxy27⟩ := zI_of (zI (xy10.tdiv (r (qy5 + 3))))
    rw [exy26]
    refine z_idiv C dX10_strength_62 (by omega) (by omega) (by omega) ?_
    obtain ⟨xy28, exy28, hxy28⟩ : ∃ x9, (xy25).tdiv 2 = x9 ∧ (0 ≤ xy25 → 0 ≤ x9 ∧ 2 * x9 ≤ xy25 ∧ xy25 < 2 * x9 + 2) ∧ (xy25 ≤ 0 → x9 ≤ 0 ∧ xy25 ≤ 2 * x9 ∧ 2 * x9 < xy25 + 2) := tdk 2 (by decide)
    rw [exy28]
    refine z_goto (tgt := 68) C dX10_strength_63 (by decide) ?_
    exact z_iret C hr hlk dX10_strength_68 (by decide) (by decide) ⟨xy28, rfl, rfl, rfl, by omega, rfl⟩

theorem mulz {a b : Int} : ∃ x, zI (a * b) = zI x ∧ (-2147483648 ≤ x ∧ x ≤ 2147483647) ∧ (b = 0 → x = 0) := by
  by_cases h : b = 0
  · subst h
    exact ⟨0, by rw [Int.mul_zero], by omega, fun _ => rfl⟩
  · obtain ⟨x, h1, h2⟩ := zI_of (zI (a * b))
    exact ⟨x, h1, h2, fun e => absurd e h⟩

set_option maxRecDepth 100000 in
set_option maxHeartbeats 4000000 in
theorem c_X10_burden (l : Launch) (D : va_G) (A : Nat → Prop) (cs : Nat → ClassId) (tt : Nat) (N : Nat) (ad : Nat → Nat) (g : Nat → va_E) (i : Nat) (hN : i + 30 ≤ N) (F : Nat → Int) (hg : g i = mC ad i F) (r : Nat → Int) (ha1 : g (i + 1) = iA cs 29200 r) (b s p : Nat) (hp : b + 6 + 86 * s = p) (hb : b + 350 ≤ 29200) (hs : s < 4) (hq : qS r p) (zl : Int) (hzl : -1 ≤ zl ∧ zl ≤ 12) (z1 : Int) (hz1 : -2147483648 ≤ z1 ∧ z1 ≤ 2147483647) (z2 : Int) (hz2 : -2147483648 ≤ z2 ∧ z2 ≤ 2147483647) : zM l yX10_burden cX10_burden 6 (some .int) ({ frames := 5, cells := 0, slots := 0, locals := 300 } : Room) D A cs tt N ad g [.ref (ad i), .int (zI ((b : Int))), .int (zI ((s : Int))), .int (zI (zl)), .int (zI (z1)), .int (zI (z2))] (rI0 N ad fun r g' => (-2147483648 ≤ r ∧ r ≤ 2147483647) ∧ (z2 = 0 → r = 0) ∧ g = g') := by
  have hay1 : zAt ad (i) (ad i) := rfl
  have hay2 : zAt ad (i + 1) (ad (i + 1)) := rfl
  have hmk := hq.1
  refine z_of (by decide) (Nat.le_of_ble_eq_true rfl) ?_
  intro pZ eZ sZ mZ below meth cZ C hr hlk hnm
  refine z_lv (lv' := [(0, .ref (ad i)), (1, .int (zI ((b : Int)))), (2, .int (zI ((s : Int)))), (3, .int (zI (zl))), (4, .int (zI (z1))), (5, .int (zI (z2)))]) [0, 1, 2, 3, 4, 5] rfl ?_
  refine z_aload_n C 0 dX10_burden_0 rfl ?_
  refine z_iload_n C 1 dX10_burden_1 rfl ?_
  refine z_iload_n C 2 dX10_burden_2 rfl ?_
  refine z_iload_n C 3 dX10_burden_3 rfl ?_
  refine z_cV (As := [.int (zI ((b : Int))), .int (zI ((s : Int))), .int (zI (zl))]) (rest := []) (ci := 12) C (c_X10_aboveA l D A cs tt N ad _ i hN _ hg _ ha1 b s p hp (by omega) (by omega) hq (zl) (by omega)) (lt_A0 hN rfl) hay1 hg rfl rfl mv_yX10_above q_1780 hd_yX10_above (by decide) (Nat.le_of_ble_eq_true rfl) (by decide) dX10_burden_4 rfl (kI0 fun vy3 gvy3 hvy3 => ?_)
  obtain ⟨hvy3, rfl⟩ := hvy3
  refine z_iload C 4 dX10_burden_7 rfl ?_
  refine z_iadd C dX10_burden_9 ?_
  refine z_iload C 5 dX10_burden_10 rfl ?_
  refine z_imul C dX10_burden_12 ?_
  obtain ⟨xy4, exy4, hxy4⟩ := mulz (a := (vy3 + z1)) (b := z2)
  rw [exy4]
  refine z_bipush (z := 100) C dX10_burden_13 (by decide) ?_
  refine z_idiv C dX10_burden_15 (by omega) (by omega) (by omega) ?_
  obtain ⟨xy5, exy5, hxy5⟩ : ∃ x9, (xy4).tdiv 100 = x9 ∧ (0 ≤ xy4 → 0 ≤ x9 ∧ 100 * x9 ≤ xy4 ∧ xy4 < 100 * x9 + 100) ∧ (xy4 ≤ 0 → x9 ≤ 0 ∧ xy4 ≤ 100 * x9 ∧ 100 * x9 < xy4 + 100) := tdk 100 (by decide)
  rw [exy5]
  exact z_iret C hr hlk dX10_burden_16 (by decide) (by decide) ⟨xy5, rfl, rfl, rfl, by omega, by omega, rfl⟩

set_option maxRecDepth 100000 in
set_option maxHeartbeats 4000000 in
theorem c_X10_ratio (l : Launch) (D : va_G) (A : Nat → Prop) (cs : Nat → ClassId) (tt : Nat) (N : Nat) (ad : Nat → Nat) (g : Nat → va_E) (i : Nat) (hN : i + 30 ≤ N) (F : Nat → Int) (hg : g i = mC ad i F) (r : Nat → Int) (ha1 : g (i + 1) = iA cs 29200 r) (tb : Nat → Int) (ha7 : g (i + 7) = iA cs 15 tb) (b s p : Nat) (hp : b + 6 + 86 * s = p) (hb : b + 350 ≤ 29200) (hs : s < 4) (hq : qS r p) (zl : Int) (hzl : 0 ≤ zl ∧ zl < r p) (z1 : Int) (hz1 : -2147483648 ≤ z1 ∧ z1 ≤ 2147483647) (z2 : Int) (hz2 : -2147483648 ≤ z2 ∧ z2 ≤ 2147483647) : zM l yX10_ratio cX10_ratio 7 (some .int) ({ frames := 6, cells := 0, slots := 0, locals := 360 } : Room) D A cs tt N ad g [.ref (ad i), .int (zI ((b : Int))), .int (zI ((s : Int))), .int (zI (zl)), .int (zI (z1)), .int (zI (z2))] (rI0 N ad fun r g' => (-2147483648 ≤ r ∧ r ≤ 9999) ∧ (z2 = 0 → r = 9999) ∧ g = g') := by
  have hay1 : zAt ad (i) (ad i) := rfl
  have hay2 : zAt ad (i + 1) (ad (i + 1)) := rfl
  have hay3 : zAt ad (i + 7) (ad (i + 7)) := rfl
  have hmk := hq.1
  obtain ⟨ky4, hky4⟩ : ∃ k9 : Nat, (zl) = (k9 : Int) := ⟨((zl) : Int).toNat, by omega⟩
  obtain ⟨qy5, hqy5⟩ : ∃ q9 : Nat, p + 2 + 7 * ky4 = q9 := ⟨_, rfl⟩
  obtain ⟨hKzy6, hDzy6, hEzy6⟩ := qS.layer hq (k := ky4) (by omega) hqy5
  refine z_of (by decide) (Nat.le_of_ble_eq_true rfl) ?_
  intro pZ eZ sZ mZ below meth cZ C hr hlk hnm
  refine z_lv (lv' := [(0, .ref (ad i)), (1, .int (zI ((b : Int)))), (2, .int (zI ((s : Int)))), (3, .int (zI (zl))), (4, .int (zI (z1))), (5, .int (zI (z2)))]) [0, 1, 2, 3, 4, 5] rfl ?_
  refine z_aload_n C 0 dX10_ratio_0 rfl ?_
  refine z_iload_n C 1 dX10_ratio_1 rfl ?_
  refine z_iload_n C 2 dX10_ratio_2 rfl ?_
  refine z_iload_n C 3 dX10_ratio_3 rfl ?_
  refine z_iload C 4 dX10_ratio_4 rfl ?_
  refine z_iload C 5 dX10_ratio_6 rfl ?_
  refine z_cV (As := [.int (zI ((b : Int))), .int (zI ((s : Int))), .int (zI (zl)), .int (zI (z1)), .int (zI (z2))]) (rest := []) (ci := 12) C (c_X10_burden l D A cs tt N ad _ i hN _ hg _ ha1 b s p hp (by omega) (by omega) hq (zl) (by omega) (z1) (by omega) (z2) (by omega)) (lt_A0 hN rfl) hay1 hg rfl rfl mv_yX10_burden q_1776 hd_yX10_burden (by decide) (Nat.le_of_ble_eq_true rfl) (by decide) dX10_ratio_8 rfl (kI0 fun vy7 gvy7 hvy7 => ?_)
  obtain ⟨hvy7, hzvy7, rfl⟩ := hvy7
  refine z_istore (lv' := [(6, .int (zI (vy7))), (0, .ref (ad i)), (1, .int (zI ((b : Int)))), (2, .int (zI ((s : Int)))), (3, .int (zI (zl))), (4, .int (zI (z1))), (5, .int (zI (z2)))]) C dX10_ratio_11 (by decide) rfl ?_
  refine z_iload C 0 dX10_ratio_13 rfl ?_
  refine z_if_ne (tgt := 24) C dX10_ratio_15 (by decide) (by omega) (fun hby8 => ?_) (fun hby8 => ?_)
  · refine z_sipush (z := 9999) C dX10_ratio_24 (by decide) ?_
    refine z_bipush (z := 100) C dX10_ratio_27 (by decide) ?_
    refine z_aload_n C 1 dX10_ratio_29 rfl ?_
    refine z_iload_n C 2 dX10_ratio_30 rfl ?_
    refine z_iload_n C 3 dX10_ratio_31 rfl ?_
    refine z_iload_n C 4 dX10_ratio_32 rfl ?_
    refine z_cV (As := [.int (zI ((b : Int))), .int (zI ((s : Int))), .int (zI (zl))]) (rest := [.int (zI (100)), .int (zI (9999))]) (ci := 12) C (c_X10_strength l D A cs tt N ad _ i hN _ hg _ ha1 _ ha7 b s p hp (by omega) (by omega) hq (zl) (by omega)) (lt_A0 hN rfl) hay1 hg rfl rfl mv_yX10_strength q_1788 hd_yX10_strength (by decide) (Nat.le_of_ble_eq_true rfl) (by decide) dX10_ratio_33 rfl (kI0 fun vy9 gvy9 hvy9 => ?_)
    obtain ⟨hvy9, rfl⟩ := hvy9
    refine z_imul C dX10_ratio_36 ?_
    refine z_iload C 0 dX10_ratio_37 rfl ?_
    obtain ⟨xy10, exy11, hxy12⟩ := zI_of (zI (100 * vy9))
    rw [exy11]
    refine z_idiv C dX10_ratio_39 (by omega) (by omega) (by omega) ?_
    obtain ⟨xy13, exy14, hxy15⟩ := zI_of (zI (xy10.tdiv vy7))
    rw [exy14]
    refine z_cS (As := [.int (zI (9999)), .int (zI (xy13))]) (rest := []) C (c_X10_lesser l D A cs tt N ad _ (9999) (by omega) (xy13) (by omega)) ms_yX10_lesser q_1792 hd_yX10_lesser (by decide) (Nat.le_of_ble_eq_true rfl) (by decide) dX10_ratio_40 rfl (kI0 fun vy16 gvy16 hvy16 => ?_)
    obtain ⟨hvy16, rfl⟩ := hvy16
    exact z_iret C hr hlk dX10_ratio_43 (by decide) (by decide) ⟨vy16, rfl, rfl, rfl, by omega, by omega, rfl⟩
  · refine z_sipush (z := 9999) C dX10_ratio_18 (by decide) ?_
    refine z_goto (tgt := 43) C dX10_ratio_21 (by decide) ?_
    exact z_iret C hr hlk dX10_ratio_43 (by decide) (by decide) ⟨9999, rfl, rfl, rfl, by omega, by omega, rfl⟩

set_option maxRecDepth 100000 in
set_option maxHeartbeats 4000000 in
theorem c_X10_weakestBy (l : Launch) (D : va_G) (A : Nat → Prop) (cs : Nat → ClassId) (tt : Nat) (N : Nat) (ad : Nat → Nat) (g : Nat → va_E) (i : Nat) (hN : i + 30 ≤ N) (F : Nat → Int) (hg : g i = mC ad i F) (r : Nat → Int) (ha1 : g (i + 1) = iA cs 29200 r) (tb : Nat → Int) (ha7 : g (i + 7) = iA cs 15 tb) (b s p : Nat) (hp : b + 6 + 86 * s = p) (hb : b + 350 ≤ 29200) (hs : s < 4) (hq : qS r p) (z1 : Int) (hz1 : -2147483648 ≤ z1 ∧ z1 ≤ 2147483647) (z2 : Int) (hz2 : -2147483648 ≤ z2 ∧ z2 ≤ 2147483647) : zM l yX10_weakestBy cX10_weakestBy 9 (some .int) ({ frames := 7, cells := 0, slots := 0, locals := 420 } : Room) D A cs tt N ad g [.ref (ad i), .int (zI ((b : Int))), .int (zI ((s : Int))), .int (zI (z1)), .int (zI (z2))] (rI0 N ad fun z g' => (-1 ≤ z ∧ z < r p) ∧ g = g') := by
  have hay1 : zAt ad (i) (ad i) := rfl
  have hay2 : zAt ad (i + 1) (ad (i + 1)) := rfl
  have hay3 : zAt ad (i + 7) (ad (i + 7)) := rfl
  have hmk := hq.1
  refine z_of (by decide) (Nat.le_of_ble_eq_true rfl) ?_
  intro pZ eZ sZ mZ below meth cZ C hr hlk hnm
  refine z_lv (lv' := [(0, .ref (ad i)), (1, .int (zI ((b : Int)))), (2, .int (zI ((s : Int)))), (3, .int (zI (z1))), (4, .int (zI (z2)))]) [0, 1, 2, 3, 4] rfl ?_
  have lp : ∀ (n9 : Nat) (wh : Int) (le : Int) (ll : Int) (g1 : Nat → va_E), (13 - ll).toNat = n9 → (g1 = g) → (-1 ≤ wh ∧ wh < r p) → (-2147483648 ≤ le ∧ le ≤ 2147483647) → (0 ≤ ll ∧ ll ≤ 12) → zV pZ l eZ ({ frames := 7, cells := 0, slots := 0, locals := 420 } : Room) sZ mZ ([.ref (ad i), .int (zI ((b : Int))), .int (zI ((s : Int))), .int (zI (z1)), .int (zI (z2))] : List Value).toArray below meth cZ (MQ below (zPost D A (rI0 N ad fun z g' => (-1 ≤ z ∧ z < r p) ∧ g = g')) ([.ref (ad i), .int (zI ((b : Int))), .int (zI ((s : Int))), .int (zI (z1)), .int (zI (z2))] : List Value).toArray sZ ({ frames := 7, cells := 0, slots := 0, locals := 420 } : Room).cells ({ frames := 7, cells := 0, slots := 0, locals := 420 } : Room).slots A) D A 9 (N) ad g1 (0) (0) 11 [(0, .ref (ad i)), (1, .int (zI ((b : Int)))), (2, .int (zI ((s : Int)))), (3, .int (zI (z1))), (4, .int (zI (z2))), (5, .int (zI (wh))), (6, .int (zI (le))), (7, .int (zI (ll)))] [] := by
    intro n9
    induction n9 using Nat.strongRecOn with
    | ind n9 ih =>
      intro wh le ll g1 hm9 hg1 hv0 hv1 hv2
      subst hg1
      refine z_iload C 7 dX10_weakestBy_11 rfl ?_
      refine z_aload_n C 0 dX10_weakestBy_13 rfl ?_
      refine z_iload_n C 1 dX10_weakestBy_14 rfl ?_
      refine z_iload_n C 2 dX10_weakestBy_15 rfl ?_
      refine z_cV (As := [.int (zI ((b : Int))), .int (zI ((s : Int)))]) (rest := [.int (zI (ll))]) (ci := 12) C (c_X10_many l D A cs tt N ad _ i hN _ hg _ ha1 b s p hp (by omega) (by omega)) (lt_A0 hN rfl) hay1 hg rfl rfl mv_yX10_many q_1733 hd_yX10_many (by decide) (Nat.le_of_ble_eq_true rfl) (by decide) dX10_weakestBy_16 rfl (kI0 fun vy4 gvy4 hvy4 => ?_)
      obtain ⟨rfl, rfl⟩ := hvy4
      refine z_icmp_ge (tgt := 59) C dX10_weakestBy_19 (by decide) (by omega) (by omega) (fun hby5 => ?_) (fun hby5 => ?_)
      · refine z_iload C 5 dX10_weakestBy_59 rfl ?_
        exact z_iret C hr hlk dX10_weakestBy_61 (by decide) (by decide) ⟨wh, rfl, rfl, rfl, by omega, rfl⟩
      · refine z_aload_n C 0 dX10_weakestBy_22 rfl ?_
        refine z_iload_n C 1 dX10_weakestBy_23 rfl ?_
        refine z_iload_n C 2 dX10_weakestBy_24 rfl ?_
        refine z_iload C 7 dX10_weakestBy_25 rfl ?_
        refine z_iload_n C 3 dX10_weakestBy_27 rfl ?_
        refine z_iload C 4 dX10_weakestBy_28 rfl ?_
        refine z_cV (As := [.int (zI ((b : Int))), .int (zI ((s : Int))), .int (zI (ll)), .int (zI (z1)), .int (zI (z2))]) (rest := []) (ci := 12) C (c_X10_ratio l D A cs tt N ad _ i hN _ hg _ ha1 _ ha7 b s p hp (by omega) (by omega) hq (ll) (by omega) (z1) (by omega) (z2) (by omega)) (lt_A0 hN rfl) hay1 hg rfl rfl mv_yX10_ratio q_1772 hd_yX10_ratio (by decide) (Nat.le_of_ble_eq_true rfl) (by decide) dX10_weakestBy_30 rfl (kI0 fun vy6 gvy6 hvy6 => ?_)
        obtain ⟨hvy6, hzvy6, rfl⟩ := hvy6
        refine z_istore (lv' := [(8, .int (zI (vy6))), (0, .ref (ad i)), (1, .int (zI ((b : Int)))), (2, .int (zI ((s : Int)))), (3, .int (zI (z1))), (4, .int (zI (z2))), (5, .int (zI (wh))), (6, .int (zI (le))), (7, .int (zI (ll)))]) C dX10_weakestBy_33 (by decide) rfl ?_
        refine z_iload C 0 dX10_weakestBy_35 rfl ?_
        refine z_iload C 7 dX10_weakestBy_37 rfl ?_
        refine z_icmp_lt (tgt := 45) C dX10_weakestBy_39 (by decide) (by omega) (by omega) (fun hby7 => ?_) (fun hby7 => ?_)
        · refine z_iload C 8 dX10_weakestBy_45 rfl ?_
          refine z_istore (lv' := [(5, .int (zI (ll))), (8, .int (zI (vy6))), (0, .ref (ad i)), (1, .int (zI ((b : Int)))), (2, .int (zI ((s : Int)))), (3, .int (zI (z1))), (4, .int (zI (z2))), (6, .int (zI (le))), (7, .int (zI (ll)))]) C dX10_weakestBy_47 (by decide) rfl ?_
          refine z_iload C 1 dX10_weakestBy_49 rfl ?_
          refine z_istore (lv' := [(6, .int (zI (vy6))), (5, .int (zI (ll))), (8, .int (zI (vy6))), (0, .ref (ad i)), (1, .int (zI ((b : Int)))), (2, .int (zI ((s : Int)))), (3, .int (zI (z1))), (4, .int (zI (z2))), (7, .int (zI (ll)))]) C dX10_weakestBy_51 (by decide) rfl ?_
          refine z_iinc (z := ll + 1) (lv' := [(7, .int (zI (ll + 1))), (6, .int (zI (vy6))), (5, .int (zI (ll))), (8, .int (zI (vy6))), (0, .ref (ad i)), (1, .int (zI ((b : Int)))), (2, .int (zI ((s : Int)))), (3, .int (zI (z1))), (4, .int (zI (z2)))]) (j := 8) C dX10_weakestBy_53 rfl rfl (by decide) rfl ?_
          refine z_goto (tgt := 11) C dX10_weakestBy_56 (by decide) ?_
          refine z_lv (lv' := [(0, .ref (ad i)), (1, .int (zI ((b : Int)))), (2, .int (zI ((s : Int)))), (3, .int (zI (z1))), (4, .int (zI (z2))), (5, .int (zI (ll))), (6, .int (zI (vy6))), (7, .int (zI (ll + 1)))]) [4, 5, 6, 7, 8, 2, 1, 0] rfl ?_
          exact ih _ (by omega) (ll) (vy6) (ll + 1) _ rfl rfl (by omega) (by omega) (by omega)
        · refine z_goto (tgt := 53) C dX10_weakestBy_42 (by decide) ?_
          refine z_iinc (z := ll + 1) (lv' := [(7, .int (zI (ll + 1))), (8, .int (zI (vy6))), (0, .ref (ad i)), (1, .int (zI ((b : Int)))), (2, .int (zI ((s : Int)))), (3, .int (zI (z1))), (4, .int (zI (z2))), (5, .int (zI (wh))), (6, .int (zI (le)))]) (j := 8) C dX10_weakestBy_53 rfl rfl (by decide) rfl ?_
          refine z_goto (tgt := 11) C dX10_weakestBy_56 (by decide) ?_
          refine z_lv (lv' := [(0, .ref (ad i)), (1, .int (zI ((b : Int)))), (2, .int (zI ((s : Int)))), (3, .int (zI (z1))), (4, .int (zI (z2))), (5, .int (zI (wh))), (6, .int (zI (le))), (7, .int (zI (ll + 1)))]) [2, 3, 4, 5, 6, 7, 8, 0] rfl ?_
          exact ih _ (by omega) (wh) (le) (ll + 1) _ rfl rfl (by omega) (by omega) (by omega)
  refine z_iconst (z := -1) C dX10_weakestBy_0 rfl ?_
  refine z_istore (lv' := [(5, .int (zI (-1))), (0, .ref (ad i)), (1, .int (zI ((b : Int)))), (2, .int (zI ((s : Int)))), (3, .int (zI (z1))), (4, .int (zI (z2)))]) C dX10_weakestBy_1 (by decide) rfl ?_
  refine z_sipush (z := 10000) C dX10_weakestBy_3 (by decide) ?_
  refine z_istore (lv' := [(6, .int (zI (10000))), (5, .int (zI (-1))), (0, .ref (ad i)), (1, .int (zI ((b : Int)))), (2, .int (zI ((s : Int)))), (3, .int (zI (z1))), (4, .int (zI (z2)))]) C dX10_weakestBy_6 (by decide) rfl ?_
  refine z_iconst (z := 0) C dX10_weakestBy_8 rfl ?_
  refine z_istore (lv' := [(7, .int (zI (0))), (6, .int (zI (10000))), (5, .int (zI (-1))), (0, .ref (ad i)), (1, .int (zI ((b : Int)))), (2, .int (zI ((s : Int)))), (3, .int (zI (z1))), (4, .int (zI (z2)))]) C dX10_weakestBy_9 (by decide) rfl ?_
  refine z_lv (lv' := [(0, .ref (ad i)), (1, .int (zI ((b : Int)))), (2, .int (zI ((s : Int)))), (3, .int (zI (z1))), (4, .int (zI (z2))), (5, .int (zI (-1))), (6, .int (zI (10000))), (7, .int (zI (0)))]) [3, 4, 5, 6, 7, 2, 1, 0] rfl ?_
  exact lp _ (-1) (10000) (0) _ rfl rfl (by omega) (by omega) (by omega)

set_option maxRecDepth 100000 in
set_option maxHeartbeats 4000000 in
theorem c_X10_leastRatioBy (l : Launch) (D : va_G) (A : Nat → Prop) (cs : Nat → ClassId) (tt : Nat) (N : Nat) (ad : Nat → Nat) (g : Nat → va_E) (i : Nat) (hN : i + 30 ≤ N) (F : Nat → Int) (hg : g i = mC ad i F) (r : Nat → Int) (ha1 : g (i + 1) = iA cs 29200 r) (tb : Nat → Int) (ha7 : g (i + 7) = iA cs 15 tb) (b s p : Nat) (hp : b + 6 + 86 * s = p) (hb : b + 350 ≤ 29200) (hs : s < 4) (hq : qS r p) (z1 : Int) (hz1 : -2147483648 ≤ z1 ∧ z1 ≤ 2147483647) (z2 : Int) (hz2 : -2147483648 ≤ z2 ∧ z2 ≤ 2147483647) : zM l yX10_leastRatioBy cX10_leastRatioBy 6 (some .int) ({ frames := 8, cells := 0, slots := 0, locals := 480 } : Room) D A cs tt N ad g [.ref (ad i), .int (zI ((b : Int))), .int (zI ((s : Int))), .int (zI (z1)), .int (zI (z2))] (rI0 N ad fun r g' => (-2147483648 ≤ r ∧ r ≤ 9999) ∧ (z2 = 0 → r = 9999) ∧ g = g') := by
  have hay1 : zAt ad (i) (ad i) := rfl
  have hay2 : zAt ad (i + 1) (ad (i + 1)) := rfl
  have hay3 : zAt ad (i + 7) (ad (i + 7)) := rfl
  have hmk := hq.1
  refine z_of (by decide) (Nat.le_of_ble_eq_true rfl) ?_
  intro pZ eZ sZ mZ below meth cZ C hr hlk hnm
  refine z_lv (lv' := [(0, .ref (ad i)), (1, .int (zI ((b : Int)))), (2, .int (zI ((s : Int)))), (3, .int (zI (z1))), (4, .int (zI (z2)))]) [0, 1, 2, 3, 4] rfl ?_
  refine z_aload_n C 0 dX10_leastRatioBy_0 rfl ?_
  refine z_iload_n C 1 dX10_leastRatioBy_1 rfl ?_
  refine z_iload_n C 2 dX10_leastRatioBy_2 rfl ?_
  refine z_iload_n C 3 dX10_leastRatioBy_3 rfl ?_
  refine z_iload C 4 dX10_leastRatioBy_4 rfl ?_
  refine z_cV (As := [.int (zI ((b : Int))), .int (zI ((s : Int))), .int (zI (z1)), .int (zI (z2))]) (rest := []) (ci := 12) C (c_X10_weakestBy l D A cs tt N ad _ i hN _ hg _ ha1 _ ha7 b s p hp (by omega) (by omega) hq (z1) (by omega) (z2) (by omega)) (lt_A0 hN rfl) hay1 hg rfl rfl mv_yX10_weakestBy q_1768 hd_yX10_weakestBy (by decide) (Nat.le_of_ble_eq_true rfl) (by decide) dX10_leastRatioBy_6 rfl (kI0 fun vy4 gvy4 hvy4 => ?_)
  obtain ⟨hvy4, rfl⟩ := hvy4
  refine z_istore (lv' := [(5, .int (zI (vy4))), (0, .ref (ad i)), (1, .int (zI ((b : Int)))), (2, .int (zI ((s : Int)))), (3, .int (zI (z1))), (4, .int (zI (z2)))]) C dX10_leastRatioBy_9 (by decide) rfl ?_
  refine z_iload C 0 dX10_leastRatioBy_11 rfl ?_
  refine z_iconst (z := -1) C dX10_leastRatioBy_13 rfl ?_
  refine z_icmp_ne (tgt := 23) C dX10_leastRatioBy_14 (by decide) (by omega) (by omega) (fun hby5 => ?_) (fun hby5 => ?_)
  · refine z_aload_n C 1 dX10_leastRatioBy_23 rfl ?_
    refine z_iload_n C 2 dX10_leastRatioBy_24 rfl ?_
    refine z_iload_n C 3 dX10_leastRatioBy_25 rfl ?_
    refine z_iload C 0 dX10_leastRatioBy_26 rfl ?_
    refine z_iload_n C 4 dX10_leastRatioBy_28 rfl ?_
    refine z_iload C 5 dX10_leastRatioBy_29 rfl ?_
    refine z_cV (As := [.int (zI ((b : Int))), .int (zI ((s : Int))), .int (zI (vy4)), .int (zI (z1)), .int (zI (z2))]) (rest := []) (ci := 12) C (c_X10_ratio l D A cs tt N ad _ i hN _ hg _ ha1 _ ha7 b s p hp (by omega) (by omega) hq (vy4) (by omega) (z1) (by omega) (z2) (by omega)) (lt_A0 hN rfl) hay1 hg rfl rfl mv_yX10_ratio q_1772 hd_yX10_ratio (by decide) (Nat.le_of_ble_eq_true rfl) (by decide) dX10_leastRatioBy_31 rfl (kI0 fun vy6 gvy6 hvy6 => ?_)
    obtain ⟨hvy6, hzvy6, rfl⟩ := hvy6
    exact z_iret C hr hlk dX10_leastRatioBy_34 (by decide) (by decide) ⟨vy6, rfl, rfl, rfl, by omega, by omega, rfl⟩
  · refine z_sipush (z := 9999) C dX10_leastRatioBy_17 (by decide) ?_
    refine z_goto (tgt := 34) C dX10_leastRatioBy_20 (by decide) ?_
    exact z_iret C hr hlk dX10_leastRatioBy_34 (by decide) (by decide) ⟨9999, rfl, rfl, rfl, by omega, by omega, rfl⟩

set_option maxRecDepth 100000 in
set_option maxHeartbeats 4000000 in
theorem c_X10_weakest (l : Launch) (D : va_G) (A : Nat → Prop) (cs : Nat → ClassId) (tt : Nat) (N : Nat) (ad : Nat → Nat) (g : Nat → va_E) (i : Nat) (hN : i + 30 ≤ N) (F : Nat → Int) (hg : g i = mC ad i F) (r : Nat → Int) (ha1 : g (i + 1) = iA cs 29200 r) (st : Nat → Int) (ha2 : g (i + 2) = iA cs 4 st) (tb : Nat → Int) (ha7 : g (i + 7) = iA cs 15 tb) (b s p : Nat) (hp : b + 6 + 86 * s = p) (hb : b + 350 ≤ 29200) (hs : s < 4) (hq : qS r p) : zM l yX10_weakest cX10_weakest 3 (some .int) ({ frames := 8, cells := 0, slots := 0, locals := 480 } : Room) D A cs tt N ad g [.ref (ad i), .int (zI ((b : Int))), .int (zI ((s : Int)))] (rI0 N ad fun z g' => (-1 ≤ z ∧ z < r p) ∧ g = g') := by
  have hay1 : zAt ad (i) (ad i) := rfl
  have hay2 : zAt ad (i + 1) (ad (i + 1)) := rfl
  have hay3 : zAt ad (i + 2) (ad (i + 2)) := rfl
  have hay4 : zAt ad (i + 7) (ad (i + 7)) := rfl
  have hmk := hq.1
  refine z_of (by decide) (Nat.le_of_ble_eq_true rfl) ?_
  intro pZ eZ sZ mZ below meth cZ C hr hlk hnm
  refine z_lv (lv' := [(0, .ref (ad i)), (1, .int (zI ((b : Int)))), (2, .int (zI ((s : Int))))]) [0, 1, 2] rfl ?_
  refine z_aload_n C 0 dX10_weakest_0 rfl ?_
  refine z_iload_n C 1 dX10_weakest_1 rfl ?_
  refine z_iload_n C 2 dX10_weakest_2 rfl ?_
  refine z_iconst (z := 0) C dX10_weakest_3 rfl ?_
  refine z_aload_n C 0 dX10_weakest_4 rfl ?_
  refine z_get (v := .ref (ad (i + 2))) C (lt_A0 hN rfl) hay1 hg rfl inA_X10 1 (by decide) q_1460 rfl rfl dX10_weakest_5 ?_
  refine z_iload_n C 2 dX10_weakest_8 rfl ?_
  refine z_iald C (lt_A (c := 2) hN rfl) hay3 ha2 (s) (by omega) (by omega) (by decide) dX10_weakest_9 ?_
  obtain ⟨xy5, exy6, hxy7⟩ := zI_of (zI (st (s)))
  rw [exy6]
  refine z_cV (As := [.int (zI ((b : Int))), .int (zI ((s : Int))), .int (zI (0)), .int (zI (xy5))]) (rest := []) (ci := 12) C (c_X10_weakestBy l D A cs tt N ad _ i hN _ hg _ ha1 _ ha7 b s p hp (by omega) (by omega) hq (0) (by omega) (xy5) (by omega)) (lt_A0 hN rfl) hay1 hg rfl rfl mv_yX10_weakestBy q_1768 hd_yX10_weakestBy (by decide) (Nat.le_of_ble_eq_true rfl) (by decide) dX10_weakest_10 rfl (kI0 fun vy8 gvy8 hvy8 => ?_)
  obtain ⟨hvy8, rfl⟩ := hvy8
  exact z_iret C hr hlk dX10_weakest_13 (by decide) (by decide) ⟨vy8, rfl, rfl, rfl, by omega, rfl⟩

set_option maxRecDepth 100000 in
set_option maxHeartbeats 4000000 in
theorem c_X10_leastRatio (l : Launch) (D : va_G) (A : Nat → Prop) (cs : Nat → ClassId) (tt : Nat) (N : Nat) (ad : Nat → Nat) (g : Nat → va_E) (i : Nat) (hN : i + 30 ≤ N) (F : Nat → Int) (hg : g i = mC ad i F) (r : Nat → Int) (ha1 : g (i + 1) = iA cs 29200 r) (st : Nat → Int) (ha2 : g (i + 2) = iA cs 4 st) (tb : Nat → Int) (ha7 : g (i + 7) = iA cs 15 tb) (b s p : Nat) (hp : b + 6 + 86 * s = p) (hb : b + 350 ≤ 29200) (hs : s < 4) (hq : qS r p) : zM l yX10_leastRatio cX10_leastRatio 3 (some .int) ({ frames := 9, cells := 0, slots := 0, locals := 540 } : Room) D A cs tt N ad g [.ref (ad i), .int (zI ((b : Int))), .int (zI ((s : Int)))] (rI0 N ad fun r g' => (-2147483648 ≤ r ∧ r ≤ 2147483647) ∧ g = g') := by
  have hay1 : zAt ad (i) (ad i) := rfl
  have hay2 : zAt ad (i + 1) (ad (i + 1)) := rfl
  have hay3 : zAt ad (i + 2) (ad (i + 2)) := rfl
  have hay4 : zAt ad (i + 7) (ad (i + 7)) := rfl
  have hmk := hq.1
  refine z_of (by decide) (Nat.le_of_ble_eq_true rfl) ?_
  intro pZ eZ sZ mZ below meth cZ C hr hlk hnm
  refine z_lv (lv' := [(0, .ref (ad i)), (1, .int (zI ((b : Int)))), (2, .int (zI ((s : Int))))]) [0, 1, 2] rfl ?_
  refine z_aload_n C 0 dX10_leastRatio_0 rfl ?_
  refine z_iload_n C 1 dX10_leastRatio_1 rfl ?_
  refine z_iload_n C 2 dX10_leastRatio_2 rfl ?_
  refine z_iconst (z := 0) C dX10_leastRatio_3 rfl ?_
  refine z_aload_n C 0 dX10_leastRatio_4 rfl ?_
  refine z_get (v := .ref (ad (i + 2))) C (lt_A0 hN rfl) hay1 hg rfl inA_X10 1 (by decide) q_1460 rfl rfl dX10_leastRatio_5 ?_
  refine z_iload_n C 2 dX10_leastRatio_8 rfl ?_
  refine z_iald C (lt_A (c := 2) hN rfl) hay3 ha2 (s) (by omega) (by omega) (by decide) dX10_leastRatio_9 ?_
  obtain ⟨xy5, exy6, hxy7⟩ := zI_of (zI (st (s)))
  rw [exy6]
  refine z_cV (As := [.int (zI ((b : Int))), .int (zI ((s : Int))), .int (zI (0)), .int (zI (xy5))]) (rest := []) (ci := 12) C (c_X10_leastRatioBy l D A cs tt N ad _ i hN _ hg _ ha1 _ ha7 b s p hp (by omega) (by omega) hq (0) (by omega) (xy5) (by omega)) (lt_A0 hN rfl) hay1 hg rfl rfl mv_yX10_leastRatioBy q_1764 hd_yX10_leastRatioBy (by decide) (Nat.le_of_ble_eq_true rfl) (by decide) dX10_leastRatio_10 rfl (kI0 fun vy8 gvy8 hvy8 => ?_)
  obtain ⟨hvy8, hzvy8, rfl⟩ := hvy8
  exact z_iret C hr hlk dX10_leastRatio_13 (by decide) (by decide) ⟨vy8, rfl, rfl, rfl, by omega, rfl⟩

set_option maxRecDepth 100000 in
set_option maxHeartbeats 4000000 in
theorem c_X10_isUnstable (l : Launch) (D : va_G) (A : Nat → Prop) (cs : Nat → ClassId) (tt : Nat) (N : Nat) (ad : Nat → Nat) (g : Nat → va_E) (i : Nat) (hN : i + 30 ≤ N) (F : Nat → Int) (hg : g i = mC ad i F) (r : Nat → Int) (ha1 : g (i + 1) = iA cs 29200 r) (st : Nat → Int) (ha2 : g (i + 2) = iA cs 4 st) (tb : Nat → Int) (ha7 : g (i + 7) = iA cs 15 tb) (b s p : Nat) (hp : b + 6 + 86 * s = p) (hb : b + 350 ≤ 29200) (hs : s < 4) (hq : qS r p) : zM l yX10_isUnstable cX10_isUnstable 3 (some .boolean) ({ frames := 10, cells := 0, slots := 0, locals := 600 } : Room) D A cs tt N ad g [.ref (ad i), .int (zI ((b : Int))), .int (zI ((s : Int)))] (rI0 N ad fun r g' => (0 ≤ r ∧ r ≤ 1) ∧ g = g') := by
  have hay1 : zAt ad (i) (ad i) := rfl
  have hay2 : zAt ad (i + 1) (ad (i + 1)) := rfl
  have hay3 : zAt ad (i + 2) (ad (i + 2)) := rfl
  have hay4 : zAt ad (i + 7) (ad (i + 7)) := rfl
  have hmk := hq.1
  refine z_of (by decide) (Nat.le_of_ble_eq_true rfl) ?_
  intro pZ eZ sZ mZ below meth cZ C hr hlk hnm
  refine z_lv (lv' := [(0, .ref (ad i)), (1, .int (zI ((b : Int)))), (2, .int (zI ((s : Int))))]) [0, 1, 2] rfl ?_
  refine z_aload_n C 0 dX10_isUnstable_0 rfl ?_
  refine z_iload_n C 1 dX10_isUnstable_1 rfl ?_
  refine z_iload_n C 2 dX10_isUnstable_2 rfl ?_
  refine z_cV (As := [.int (zI ((b : Int))), .int (zI ((s : Int)))]) (rest := []) (ci := 12) C (c_X10_leastRatio l D A cs tt N ad _ i hN _ hg _ ha1 _ ha2 _ ha7 b s p hp (by omega) (by omega) hq) (lt_A0 hN rfl) hay1 hg rfl rfl mv_yX10_leastRatio q_1760 hd_yX10_leastRatio (by decide) (Nat.le_of_ble_eq_true rfl) (by decide) dX10_isUnstable_3 rfl (kI0 fun vy5 gvy5 hvy5 => ?_)
  obtain ⟨hvy5, rfl⟩ := hvy5
  refine z_bipush (z := 100) C dX10_isUnstable_6 (by decide) ?_
  refine z_icmp_ge (tgt := 15) C dX10_isUnstable_8 (by decide) (by omega) (by omega) (fun hby6 => ?_) (fun hby6 => ?_)
  · refine z_iconst (z := 0) C dX10_isUnstable_15 rfl ?_
    exact z_zret C hr hlk dX10_isUnstable_16 (by decide) (by decide) (by decide) ⟨0, rfl, rfl, rfl, by omega, rfl⟩
  · refine z_iconst (z := 1) C dX10_isUnstable_11 rfl ?_
    refine z_goto (tgt := 16) C dX10_isUnstable_12 (by decide) ?_
    exact z_zret C hr hlk dX10_isUnstable_16 (by decide) (by decide) (by decide) ⟨1, rfl, rfl, rfl, by omega, rfl⟩

set_option maxRecDepth 100000 in
set_option maxHeartbeats 4000000 in
theorem c_X10_grade (l : Launch) (D : va_G) (A : Nat → Prop) (cs : Nat → ClassId) (tt : Nat) (N : Nat) (ad : Nat → Nat) (g : Nat → va_E) (i : Nat) (hN : i + 30 ≤ N) (F : Nat → Int) (hg : g i = mC ad i F) (r : Nat → Int) (ha1 : g (i + 1) = iA cs 29200 r) (b s p : Nat) (hp : b + 6 + 86 * s = p) (hb : b + 350 ≤ 29200) (hs : s < 4) (hq : qS r p) (zl : Int) (hzl : 0 ≤ zl ∧ zl < r p) (z1 : Int) (hz1 : -2147483648 ≤ z1 ∧ z1 ≤ 2147483647) : zM l yX10_grade cX10_grade 7 (some .int) ({ frames := 3, cells := 0, slots := 0, locals := 180 } : Room) D A cs tt N ad g [.ref (ad i), .int (zI ((b : Int))), .int (zI ((s : Int))), .int (zI (zl)), .int (zI (z1))] (rI0 N ad fun r g' => (-2147483648 ≤ r ∧ r ≤ 2147483647) ∧ g = g') := by
  have hay1 : zAt ad (i) (ad i) := rfl
  have hay2 : zAt ad (i + 1) (ad (i + 1)) := rfl
  have hmk := hq.1
  obtain ⟨ky3, hky3⟩ : ∃ k9 : Nat, (zl) = (k9 : Int) := ⟨((zl) : Int).toNat, by omega⟩
  obtain ⟨qy4, hqy4⟩ : ∃ q9 : Nat, p + 2 + 7 * ky3 = q9 := ⟨_, rfl⟩
  obtain ⟨hKzy5, hDzy5, hEzy5⟩ := qS.layer hq (k := ky3) (by omega) hqy4
  refine z_of (by decide) (Nat.le_of_ble_eq_true rfl) ?_
  intro pZ eZ sZ mZ below meth cZ C hr hlk hnm
  refine z_lv (lv' := [(0, .ref (ad i)), (1, .int (zI ((b : Int)))), (2, .int (zI ((s : Int)))), (3, .int (zI (zl))), (4, .int (zI (z1)))]) [0, 1, 2, 3, 4] rfl ?_
  refine z_iload_n C 3 dX10_grade_0 rfl ?_
  refine z_aload_n C 0 dX10_grade_1 rfl ?_
  refine z_iload_n C 1 dX10_grade_2 rfl ?_
  refine z_iload_n C 2 dX10_grade_3 rfl ?_
  refine z_cV (As := [.int (zI ((b : Int))), .int (zI ((s : Int)))]) (rest := [.int (zI (zl))]) (ci := 12) C (c_X10_many l D A cs tt N ad _ i hN _ hg _ ha1 b s p hp (by omega) (by omega)) (lt_A0 hN rfl) hay1 hg rfl rfl mv_yX10_many q_1733 hd_yX10_many (by decide) (Nat.le_of_ble_eq_true rfl) (by decide) dX10_grade_4 rfl (kI0 fun vy6 gvy6 hvy6 => ?_)
  obtain ⟨rfl, rfl⟩ := hvy6
  refine z_iconst (z := 1) C dX10_grade_7 rfl ?_
  refine z_isub C dX10_grade_8 ?_
  refine z_icmp_ne (tgt := 21) C dX10_grade_9 (by decide) (by omega) (by omega) (fun hby7 => ?_) (fun hby7 => ?_)
  · refine z_aload_n C 0 dX10_grade_21 rfl ?_
    refine z_iload_n C 1 dX10_grade_22 rfl ?_
    refine z_iload_n C 2 dX10_grade_23 rfl ?_
    refine z_iload_n C 3 dX10_grade_24 rfl ?_
    refine z_iconst (z := 1) C dX10_grade_25 rfl ?_
    refine z_iadd C dX10_grade_26 ?_
    refine z_iconst (z := 4) C dX10_grade_27 rfl ?_
    obtain ⟨ky8, hky8⟩ : ∃ k9 : Nat, (zl + 1) = (k9 : Int) := ⟨((zl + 1) : Int).toNat, by omega⟩
    obtain ⟨qy9, hqy9⟩ : ∃ q9 : Nat, p + 2 + 7 * ky8 = q9 := ⟨_, rfl⟩
    refine z_cV (As := [.int (zI ((b : Int))), .int (zI ((s : Int))), .int (zI (zl + 1)), .int (zI (4))]) (rest := []) (ci := 12) C (c_X10_of l D A cs tt N ad _ i hN _ hg _ ha1 b s p hp (by omega) (by omega) (zl + 1) (4) (qy9 + 4) (by omega) (by omega) (by omega)) (lt_A0 hN rfl) hay1 hg rfl rfl mv_yX10_of q_1749 hd_yX10_of (by decide) (Nat.le_of_ble_eq_true rfl) (by decide) dX10_grade_28 rfl (kI0 fun vy10 gvy10 hvy10 => ?_)
    obtain ⟨rfl, rfl⟩ := hvy10
    refine z_istore (lv' := [(5, .int (zI (r (qy9 + 4)))), (0, .ref (ad i)), (1, .int (zI ((b : Int)))), (2, .int (zI ((s : Int)))), (3, .int (zI (zl))), (4, .int (zI (z1)))]) C dX10_grade_31 (by decide) rfl ?_
    refine z_iload_n C 4 dX10_grade_33 rfl ?_
    refine z_if_ne (tgt := 41) C dX10_grade_34 (by decide) (by omega) (fun hby11 => ?_) (fun hby11 => ?_)
    · refine z_aload_n C 1 dX10_grade_41 rfl ?_
      refine z_iload_n C 2 dX10_grade_42 rfl ?_
      refine z_iload_n C 3 dX10_grade_43 rfl ?_
      refine z_iload_n C 4 dX10_grade_44 rfl ?_
      refine z_iconst (z := 1) C dX10_grade_45 rfl ?_
      refine z_isub C dX10_grade_46 ?_
      refine z_iconst (z := 4) C dX10_grade_47 rfl ?_
      obtain ⟨ky12, hky12⟩ : ∃ k9 : Nat, (zl - 1) = (k9 : Int) := ⟨((zl - 1) : Int).toNat, by omega⟩
      obtain ⟨qy13, hqy13⟩ : ∃ q9 : Nat, p + 2 + 7 * ky12 = q9 := ⟨_, rfl⟩
      refine z_cV (As := [.int (zI ((b : Int))), .int (zI ((s : Int))), .int (zI (zl - 1)), .int (zI (4))]) (rest := []) (ci := 12) C (c_X10_of l D A cs tt N ad _ i hN _ hg _ ha1 b s p hp (by omega) (by omega) (zl - 1) (4) (qy13 + 4) (by omega) (by omega) (by omega)) (lt_A0 hN rfl) hay1 hg rfl rfl mv_yX10_of q_1749 hd_yX10_of (by decide) (Nat.le_of_ble_eq_true rfl) (by decide) dX10_grade_48 rfl (kI0 fun vy14 gvy14 hvy14 => ?_)
      obtain ⟨rfl, rfl⟩ := hvy14
      refine z_istore (lv' := [(6, .int (zI (r (qy13 + 4)))), (5, .int (zI (r (qy9 + 4)))), (0, .ref (ad i)), (1, .int (zI ((b : Int)))), (2, .int (zI ((s : Int)))), (3, .int (zI (zl))), (4, .int (zI (z1)))]) C dX10_grade_51 (by decide) rfl ?_
      refine z_iload C 1 dX10_grade_53 rfl ?_
      refine z_iload C 0 dX10_grade_55 rfl ?_
      refine z_isub C dX10_grade_57 ?_
      obtain ⟨xy15, exy16, hxy17⟩ := zI_of (zI ((r (qy9 + 4)) - (r (qy13 + 4))))
      rw [exy16]
      refine z_cS (As := [.int (zI (xy15))]) (rest := []) C (c_X10_span l D A cs tt N ad _ (xy15) (by omega)) ms_yX10_span q_1839 hd_yX10_span (by decide) (Nat.le_of_ble_eq_true rfl) (by decide) dX10_grade_58 rfl (kI0 fun vy18 gvy18 hvy18 => ?_)
      obtain ⟨hvy18, rfl⟩ := hvy18
      refine z_bipush (z := 10) C dX10_grade_61 (by decide) ?_
      refine z_imul C dX10_grade_63 ?_
      refine z_aload_n C 2 dX10_grade_64 rfl ?_
      refine z_iload_n C 3 dX10_grade_65 rfl ?_
      refine z_iload_n C 4 dX10_grade_66 rfl ?_
      refine z_iload_n C 5 dX10_grade_67 rfl ?_
      refine z_iconst (z := 3) C dX10_grade_68 rfl ?_
      refine z_cV (As := [.int (zI ((b : Int))), .int (zI ((s : Int))), .int (zI (zl)), .int (zI (3))]) (rest := [.int (zI (vy18 * 10))]) (ci := 12) C (c_X10_of l D A cs tt N ad _ i hN _ hg _ ha1 b s p hp (by omega) (by omega) (zl) (3) (qy4 + 3) (by omega) (by omega) (by omega)) (lt_A0 hN rfl) hay1 hg rfl rfl mv_yX10_of q_1749 hd_yX10_of (by decide) (Nat.le_of_ble_eq_true rfl) (by decide) dX10_grade_69 rfl (kI0 fun vy19 gvy19 hvy19 => ?_)
      obtain ⟨rfl, rfl⟩ := hvy19
      obtain ⟨xy20, exy21, hxy22⟩ := zI_of (zI (vy18 * 10))
      rw [exy21]
      refine z_idiv C dX10_grade_72 (by omega) (by omega) (by omega) ?_
      obtain ⟨xy23, exy24, hxy25⟩ := zI_of (zI (xy20.tdiv (r (qy4 + 3))))
      rw [exy24]
      exact z_iret C hr hlk dX10_grade_73 (by decide) (by decide) ⟨xy23, rfl, rfl, rfl, by omega, rfl⟩
    · refine z_iconst (z := 0) C dX10_grade_37 rfl ?_
      refine z_goto (tgt := 51) C dX10_grade_38 (by decide) ?_
      refine z_istore (lv' := [(6, .int (zI (0))), (5, .int (zI (r (qy9 + 4)))), (0, .ref (ad i)), (1, .int (zI ((b : Int)))), (2, .int (zI ((s : Int)))), (3, .int (zI (zl))), (4, .int (zI (z1)))]) C dX10_grade_51 (by decide) rfl ?_
      refine z_iload C 1 dX10_grade_53 rfl ?_
      refine z_iload C 0 dX10_grade_55 rfl ?_
      refine z_isub C dX10_grade_57 ?_
      obtain ⟨xy26, exy27, hxy28⟩ := zI_of (zI ((r (qy9 + 4)) - 0))
      rw [exy27]
      refine z_cS (As := [.int (zI (xy26))]) (rest := []) C (c_X10_span l D A cs tt N ad _ (xy26) (by omega)) ms_yX10_span q_1839 hd_yX10_span (by decide) (Nat.le_of_ble_eq_true rfl) (by decide) dX10_grade_58 rfl (kI0 fun vy29 gvy29 hvy29 => ?_)
      obtain ⟨hvy29, rfl⟩ := hvy29
      refine z_bipush (z := 10) C dX10_grade_61 (by decide) ?_
      refine z_imul C dX10_grade_63 ?_
      refine z_aload_n C 2 dX10_grade_64 rfl ?_
      refine z_iload_n C 3 dX10_grade_65 rfl ?_
      refine z_iload_n C 4 dX10_grade_66 rfl ?_
      refine z_iload_n C 5 dX10_grade_67 rfl ?_
      refine z_iconst (z := 3) C dX10_grade_68 rfl ?_
      refine z_cV (As := [.int (zI ((b : Int))), .int (zI ((s : Int))), .int (zI (zl)), .int (zI (3))]) (rest := [.int (zI (vy29 * 10))]) (ci := 12) C (c_X10_of l D A cs tt N ad _ i hN _ hg _ ha1 b s p hp (by omega) (by omega) (zl) (3) (qy4 + 3) (by omega) (by omega) (by omega)) (lt_A0 hN rfl) hay1 hg rfl rfl mv_yX10_of q_1749 hd_yX10_of (by decide) (Nat.le_of_ble_eq_true rfl) (by decide) dX10_grade_69 rfl (kI0 fun vy30 gvy30 hvy30 => ?_)
      obtain ⟨rfl, rfl⟩ := hvy30
      obtain ⟨xy31, exy32, hxy33⟩ := zI_of (zI (vy29 * 10))
      rw [exy32]
      refine z_idiv C dX10_grade_72 (by omega) (by omega) (by omega) ?_
      obtain ⟨xy34, exy35, hxy36⟩ := zI_of (zI (xy31.tdiv (r (qy4 + 3))))
      rw [exy35]
      exact z_iret C hr hlk dX10_grade_73 (by decide) (by decide) ⟨xy34, rfl, rfl, rfl, by omega, rfl⟩
  · refine z_iload C 4 dX10_grade_12 rfl ?_
    refine z_iconst (z := 0) C dX10_grade_14 rfl ?_
    refine z_cS (As := [.int (zI (z1)), .int (zI (0))]) (rest := []) C (c_X10_lesser l D A cs tt N ad _ (z1) (by omega) (0) (by omega)) ms_yX10_lesser q_1792 hd_yX10_lesser (by decide) (Nat.le_of_ble_eq_true rfl) (by decide) dX10_grade_15 rfl (kI0 fun vy37 gvy37 hvy37 => ?_)
    obtain ⟨hvy37, rfl⟩ := hvy37
    refine z_goto (tgt := 31) C dX10_grade_18 (by decide) ?_
    refine z_istore (lv' := [(5, .int (zI (vy37))), (0, .ref (ad i)), (1, .int (zI ((b : Int)))), (2, .int (zI ((s : Int)))), (3, .int (zI (zl))), (4, .int (zI (z1)))]) C dX10_grade_31 (by decide) rfl ?_
    refine z_iload_n C 4 dX10_grade_33 rfl ?_
    refine z_if_ne (tgt := 41) C dX10_grade_34 (by decide) (by omega) (fun hby38 => ?_) (fun hby38 => ?_)
    · refine z_aload_n C 1 dX10_grade_41 rfl ?_
      refine z_iload_n C 2 dX10_grade_42 rfl ?_
      refine z_iload_n C 3 dX10_grade_43 rfl ?_
      refine z_iload_n C 4 dX10_grade_44 rfl ?_
      refine z_iconst (z := 1) C dX10_grade_45 rfl ?_
      refine z_isub C dX10_grade_46 ?_
      refine z_iconst (z := 4) C dX10_grade_47 rfl ?_
      obtain ⟨ky39, hky39⟩ : ∃ k9 : Nat, (zl - 1) = (k9 : Int) := ⟨((zl - 1) : Int).toNat, by omega⟩
      obtain ⟨qy40, hqy40⟩ : ∃ q9 : Nat, p + 2 + 7 * ky39 = q9 := ⟨_, rfl⟩
      refine z_cV (As := [.int (zI ((b : Int))), .int (zI ((s : Int))), .int (zI (zl - 1)), .int (zI (4))]) (rest := []) (ci := 12) C (c_X10_of l D A cs tt N ad _ i hN _ hg _ ha1 b s p hp (by omega) (by omega) (zl - 1) (4) (qy40 + 4) (by omega) (by omega) (by omega)) (lt_A0 hN rfl) hay1 hg rfl rfl mv_yX10_of q_1749 hd_yX10_of (by decide) (Nat.le_of_ble_eq_true rfl) (by decide) dX10_grade_48 rfl (kI0 fun vy41 gvy41 hvy41 => ?_)
      obtain ⟨rfl, rfl⟩ := hvy41
      refine z_istore (lv' := [(6, .int (zI (r (qy40 + 4)))), (5, .int (zI (vy37))), (0, .ref (ad i)), (1, .int (zI ((b : Int)))), (2, .int (zI ((s : Int)))), (3, .int (zI (zl))), (4, .int (zI (z1)))]) C dX10_grade_51 (by decide) rfl ?_
      refine z_iload C 1 dX10_grade_53 rfl ?_
      refine z_iload C 0 dX10_grade_55 rfl ?_
      refine z_isub C dX10_grade_57 ?_
      obtain ⟨xy42, exy43, hxy44⟩ := zI_of (zI (vy37 - (r (qy40 + 4))))
      rw [exy43]
      refine z_cS (As := [.int (zI (xy42))]) (rest := []) C (c_X10_span l D A cs tt N ad _ (xy42) (by omega)) ms_yX10_span q_1839 hd_yX10_span (by decide) (Nat.le_of_ble_eq_true rfl) (by decide) dX10_grade_58 rfl (kI0 fun vy45 gvy45 hvy45 => ?_)
      obtain ⟨hvy45, rfl⟩ := hvy45
      refine z_bipush (z := 10) C dX10_grade_61 (by decide) ?_
      refine z_imul C dX10_grade_63 ?_
      refine z_aload_n C 2 dX10_grade_64 rfl ?_
      refine z_iload_n C 3 dX10_grade_65 rfl ?_
      refine z_iload_n C 4 dX10_grade_66 rfl ?_
      refine z_iload_n C 5 dX10_grade_67 rfl ?_
      refine z_iconst (z := 3) C dX10_grade_68 rfl ?_
      refine z_cV (As := [.int (zI ((b : Int))), .int (zI ((s : Int))), .int (zI (zl)), .int (zI (3))]) (rest := [.int (zI (vy45 * 10))]) (ci := 12) C (c_X10_of l D A cs tt N ad _ i hN _ hg _ ha1 b s p hp (by omega) (by omega) (zl) (3) (qy4 + 3) (by omega) (by omega) (by omega)) (lt_A0 hN rfl) hay1 hg rfl rfl mv_yX10_of q_1749 hd_yX10_of (by decide) (Nat.le_of_ble_eq_true rfl) (by decide) dX10_grade_69 rfl (kI0 fun vy46 gvy46 hvy46 => ?_)
      obtain ⟨rfl, rfl⟩ := hvy46
      obtain ⟨xy47, exy48, hxy49⟩ := zI_of (zI (vy45 * 10))
      rw [exy48]
      refine z_idiv C dX10_grade_72 (by omega) (by omega) (by omega) ?_
      obtain ⟨xy50, exy51, hxy52⟩ := zI_of (zI (xy47.tdiv (r (qy4 + 3))))
      rw [exy51]
      exact z_iret C hr hlk dX10_grade_73 (by decide) (by decide) ⟨xy50, rfl, rfl, rfl, by omega, rfl⟩
    · refine z_iconst (z := 0) C dX10_grade_37 rfl ?_
      refine z_goto (tgt := 51) C dX10_grade_38 (by decide) ?_
      refine z_istore (lv' := [(6, .int (zI (0))), (5, .int (zI (vy37))), (0, .ref (ad i)), (1, .int (zI ((b : Int)))), (2, .int (zI ((s : Int)))), (3, .int (zI (zl))), (4, .int (zI (z1)))]) C dX10_grade_51 (by decide) rfl ?_
      refine z_iload C 1 dX10_grade_53 rfl ?_
      refine z_iload C 0 dX10_grade_55 rfl ?_
      refine z_isub C dX10_grade_57 ?_
      refine z_cS (As := [.int (zI (vy37 - 0))]) (rest := []) C (c_X10_span l D A cs tt N ad _ (vy37 - 0) (by omega)) ms_yX10_span q_1839 hd_yX10_span (by decide) (Nat.le_of_ble_eq_true rfl) (by decide) dX10_grade_58 rfl (kI0 fun vy53 gvy53 hvy53 => ?_)
      obtain ⟨hvy53, rfl⟩ := hvy53
      refine z_bipush (z := 10) C dX10_grade_61 (by decide) ?_
      refine z_imul C dX10_grade_63 ?_
      refine z_aload_n C 2 dX10_grade_64 rfl ?_
      refine z_iload_n C 3 dX10_grade_65 rfl ?_
      refine z_iload_n C 4 dX10_grade_66 rfl ?_
      refine z_iload_n C 5 dX10_grade_67 rfl ?_
      refine z_iconst (z := 3) C dX10_grade_68 rfl ?_
      refine z_cV (As := [.int (zI ((b : Int))), .int (zI ((s : Int))), .int (zI (zl)), .int (zI (3))]) (rest := [.int (zI (vy53 * 10))]) (ci := 12) C (c_X10_of l D A cs tt N ad _ i hN _ hg _ ha1 b s p hp (by omega) (by omega) (zl) (3) (qy4 + 3) (by omega) (by omega) (by omega)) (lt_A0 hN rfl) hay1 hg rfl rfl mv_yX10_of q_1749 hd_yX10_of (by decide) (Nat.le_of_ble_eq_true rfl) (by decide) dX10_grade_69 rfl (kI0 fun vy54 gvy54 hvy54 => ?_)
      obtain ⟨rfl, rfl⟩ := hvy54
      obtain ⟨xy55, exy56, hxy57⟩ := zI_of (zI (vy53 * 10))
      rw [exy56]
      refine z_idiv C dX10_grade_72 (by omega) (by omega) (by omega) ?_
      obtain ⟨xy58, exy59, hxy60⟩ := zI_of (zI (xy55.tdiv (r (qy4 + 3))))
      rw [exy59]
      exact z_iret C hr hlk dX10_grade_73 (by decide) (by decide) ⟨xy58, rfl, rfl, rfl, by omega, rfl⟩

set_option maxRecDepth 100000 in
set_option maxHeartbeats 4000000 in
theorem c_X10_kindThen (l : Launch) (D : va_G) (A : Nat → Prop) (cs : Nat → ClassId) (tt : Nat) (N : Nat) (ad : Nat → Nat) (g : Nat → va_E) (i : Nat) (hN : i + 30 ≤ N) (F : Nat → Int) (hg : g i = mC ad i F) (r : Nat → Int) (ha1 : g (i + 1) = iA cs 29200 r) (b s p : Nat) (hp : b + 6 + 86 * s = p) (hb : b + 350 ≤ 29200) (hs : s < 4) (hq : qS r p) (zl : Int) (hzl : 0 ≤ zl ∧ zl < r p) (z1 : Int) (hz1 : -2147483648 ≤ z1 ∧ z1 ≤ 2147483647) : zM l yX10_kindThen cX10_kindThen 6 (some .int) ({ frames := 4, cells := 0, slots := 0, locals := 240 } : Room) D A cs tt N ad g [.ref (ad i), .int (zI ((b : Int))), .int (zI ((s : Int))), .int (zI (zl)), .int (zI (z1))] (rI0 N ad fun r g' => (0 ≤ r ∧ r ≤ 4) ∧ g = g') := by
  have hay1 : zAt ad (i) (ad i) := rfl
  have hay2 : zAt ad (i + 1) (ad (i + 1)) := rfl
  have hmk := hq.1
  obtain ⟨ky3, hky3⟩ : ∃ k9 : Nat, (zl) = (k9 : Int) := ⟨((zl) : Int).toNat, by omega⟩
  obtain ⟨qy4, hqy4⟩ : ∃ q9 : Nat, p + 2 + 7 * ky3 = q9 := ⟨_, rfl⟩
  obtain ⟨hKzy5, hDzy5, hEzy5⟩ := qS.layer hq (k := ky3) (by omega) hqy4
  refine z_of (by decide) (Nat.le_of_ble_eq_true rfl) ?_
  intro pZ eZ sZ mZ below meth cZ C hr hlk hnm
  refine z_lv (lv' := [(0, .ref (ad i)), (1, .int (zI ((b : Int)))), (2, .int (zI ((s : Int)))), (3, .int (zI (zl))), (4, .int (zI (z1)))]) [0, 1, 2, 3, 4] rfl ?_
  refine z_aload_n C 0 dX10_kindThen_0 rfl ?_
  refine z_iload_n C 1 dX10_kindThen_1 rfl ?_
  refine z_iload_n C 2 dX10_kindThen_2 rfl ?_
  refine z_iload_n C 3 dX10_kindThen_3 rfl ?_
  refine z_iconst (z := 0) C dX10_kindThen_4 rfl ?_
  refine z_cV (As := [.int (zI ((b : Int))), .int (zI ((s : Int))), .int (zI (zl)), .int (zI (0))]) (rest := []) (ci := 12) C (c_X10_of l D A cs tt N ad _ i hN _ hg _ ha1 b s p hp (by omega) (by omega) (zl) (0) (qy4) (by omega) (by omega) (by omega)) (lt_A0 hN rfl) hay1 hg rfl rfl mv_yX10_of q_1749 hd_yX10_of (by decide) (Nat.le_of_ble_eq_true rfl) (by decide) dX10_kindThen_5 rfl (kI0 fun vy6 gvy6 hvy6 => ?_)
  obtain ⟨rfl, rfl⟩ := hvy6
  refine z_istore (lv' := [(5, .int (zI (r (qy4)))), (0, .ref (ad i)), (1, .int (zI ((b : Int)))), (2, .int (zI ((s : Int)))), (3, .int (zI (zl))), (4, .int (zI (z1)))]) C dX10_kindThen_8 (by decide) rfl ?_
  refine z_iload C 0 dX10_kindThen_10 rfl ?_
  refine z_iconst (z := 3) C dX10_kindThen_12 rfl ?_
  refine z_icmp_ne (tgt := 19) C dX10_kindThen_13 (by decide) (by omega) (by omega) (fun hby7 => ?_) (fun hby7 => ?_)
  · refine z_aload_n C 1 dX10_kindThen_19 rfl ?_
    refine z_iload_n C 2 dX10_kindThen_20 rfl ?_
    refine z_iload_n C 3 dX10_kindThen_21 rfl ?_
    refine z_iload_n C 4 dX10_kindThen_22 rfl ?_
    refine z_iconst (z := 2) C dX10_kindThen_23 rfl ?_
    refine z_cV (As := [.int (zI ((b : Int))), .int (zI ((s : Int))), .int (zI (zl)), .int (zI (2))]) (rest := []) (ci := 12) C (c_X10_of l D A cs tt N ad _ i hN _ hg _ ha1 b s p hp (by omega) (by omega) (zl) (2) (qy4 + 2) (by omega) (by omega) (by omega)) (lt_A0 hN rfl) hay1 hg rfl rfl mv_yX10_of q_1749 hd_yX10_of (by decide) (Nat.le_of_ble_eq_true rfl) (by decide) dX10_kindThen_24 rfl (kI0 fun vy8 gvy8 hvy8 => ?_)
    obtain ⟨rfl, rfl⟩ := hvy8
    obtain ⟨xy9, exy10, hxy11⟩ := zI_of (zI (r (qy4 + 2)))
    rw [exy10]
    refine z_if_le (tgt := 32) C dX10_kindThen_27 (by decide) (by omega) (fun hby12 => ?_) (fun hby12 => ?_)
    · refine z_iload C 0 dX10_kindThen_32 rfl ?_
      refine z_iconst (z := 4) C dX10_kindThen_34 rfl ?_
      refine z_icmp_ne (tgt := 41) C dX10_kindThen_35 (by decide) (by omega) (by omega) (fun hby13 => ?_) (fun hby13 => ?_)
      · refine z_aload_n C 1 dX10_kindThen_41 rfl ?_
        refine z_iload_n C 2 dX10_kindThen_42 rfl ?_
        refine z_iload_n C 3 dX10_kindThen_43 rfl ?_
        refine z_iload_n C 4 dX10_kindThen_44 rfl ?_
        refine z_iload C 5 dX10_kindThen_45 rfl ?_
        refine z_cV (As := [.int (zI ((b : Int))), .int (zI ((s : Int))), .int (zI (zl)), .int (zI (z1))]) (rest := []) (ci := 12) C (c_X10_grade l D A cs tt N ad _ i hN _ hg _ ha1 b s p hp (by omega) (by omega) hq (zl) (by omega) (z1) (by omega)) (lt_A0 hN rfl) hay1 hg rfl rfl mv_yX10_grade q_1835 hd_yX10_grade (by decide) (Nat.le_of_ble_eq_true rfl) (by decide) dX10_kindThen_47 rfl (kI0 fun vy14 gvy14 hvy14 => ?_)
        obtain ⟨hvy14, rfl⟩ := hvy14
        refine z_bipush (z := 20) C dX10_kindThen_50 (by decide) ?_
        refine z_icmp_lt (tgt := 57) C dX10_kindThen_52 (by decide) (by omega) (by omega) (fun hby15 => ?_) (fun hby15 => ?_)
        · refine z_aload_n C 1 dX10_kindThen_57 rfl ?_
          refine z_iload_n C 2 dX10_kindThen_58 rfl ?_
          refine z_iload_n C 3 dX10_kindThen_59 rfl ?_
          refine z_iload_n C 4 dX10_kindThen_60 rfl ?_
          refine z_iconst (z := 5) C dX10_kindThen_61 rfl ?_
          refine z_cV (As := [.int (zI ((b : Int))), .int (zI ((s : Int))), .int (zI (zl)), .int (zI (5))]) (rest := []) (ci := 12) C (c_X10_of l D A cs tt N ad _ i hN _ hg _ ha1 b s p hp (by omega) (by omega) (zl) (5) (qy4 + 5) (by omega) (by omega) (by omega)) (lt_A0 hN rfl) hay1 hg rfl rfl mv_yX10_of q_1749 hd_yX10_of (by decide) (Nat.le_of_ble_eq_true rfl) (by decide) dX10_kindThen_62 rfl (kI0 fun vy16 gvy16 hvy16 => ?_)
          obtain ⟨rfl, rfl⟩ := hvy16
          refine z_bipush (z := 24) C dX10_kindThen_65 (by decide) ?_
          obtain ⟨xy17, exy18, hxy19⟩ := zI_of (zI (r (qy4 + 5)))
          rw [exy18]
          refine z_icmp_lt (tgt := 74) C dX10_kindThen_67 (by decide) (by omega) (by omega) (fun hby20 => ?_) (fun hby20 => ?_)
          · refine z_iload C 0 dX10_kindThen_74 rfl ?_
            exact z_iret C hr hlk dX10_kindThen_76 (by decide) (by decide) ⟨r (qy4), rfl, rfl, rfl, by omega, rfl⟩
          · refine z_iconst (z := 1) C dX10_kindThen_70 rfl ?_
            refine z_goto (tgt := 76) C dX10_kindThen_71 (by decide) ?_
            exact z_iret C hr hlk dX10_kindThen_76 (by decide) (by decide) ⟨1, rfl, rfl, rfl, by omega, rfl⟩
        · refine z_iconst (z := 2) C dX10_kindThen_55 rfl ?_
          exact z_iret C hr hlk dX10_kindThen_56 (by decide) (by decide) ⟨2, rfl, rfl, rfl, by omega, rfl⟩
      · refine z_iload C 0 dX10_kindThen_38 rfl ?_
        exact z_iret C hr hlk dX10_kindThen_40 (by decide) (by decide) ⟨r (qy4), rfl, rfl, rfl, by omega, rfl⟩
    · refine z_iconst (z := 1) C dX10_kindThen_30 rfl ?_
      exact z_iret C hr hlk dX10_kindThen_31 (by decide) (by decide) ⟨1, rfl, rfl, rfl, by omega, rfl⟩
  · refine z_iload C 0 dX10_kindThen_16 rfl ?_
    exact z_iret C hr hlk dX10_kindThen_18 (by decide) (by decide) ⟨r (qy4), rfl, rfl, rfl, by omega, rfl⟩
end
section
-- 75.words.lean.txt
-- words of refp
theorem q_1823 : (Jvm.Cond.methodLink "SnowRecorderModel" (183 : Nat) ({ cls := "SnowRecorderModel", name := "load", desc := "(III)I" } : Jvm.MethodName)) ∈ AW := AW_m8 143 (by decide +kernel) (by decide +kernel)
theorem q_1825 : (Jvm.Cond.instanceMethod ({ cls := "SnowRecorderModel", name := "load", desc := "(III)I" } : Jvm.MethodName)) ∈ AW := AW_m8 145 (by decide +kernel) (by decide +kernel)
theorem q_1826 : (Jvm.Cond.code ({ cls := "SnowRecorderModel", name := "load", desc := "(III)I" } : Jvm.MethodName) prog_12_method_30_code (4 : Nat) (Option.some Jvm.ClassFile.FieldType.int)) ∈ AW := AW_m8 146 (by decide +kernel) (by decide +kernel)
theorem q_1908 : (Jvm.Cond.methodLink "SnowRecorderModel" (131 : Nat) ({ cls := "SnowRecorderModel", name := "sets", desc := "(IIIII)V" } : Jvm.MethodName)) ∈ AW := AW_m8 228 (by decide +kernel) (by decide +kernel)
theorem q_1910 : (Jvm.Cond.instanceMethod ({ cls := "SnowRecorderModel", name := "sets", desc := "(IIIII)V" } : Jvm.MethodName)) ∈ AW := AW_m8 230 (by decide +kernel) (by decide +kernel)
theorem q_1911 : (Jvm.Cond.code ({ cls := "SnowRecorderModel", name := "sets", desc := "(IIIII)V" } : Jvm.MethodName) prog_12_method_15_code (6 : Nat) (Option.none : Option Jvm.ClassFile.FieldType)) ∈ AW := AW_m8 231 (by decide +kernel) (by decide +kernel)
theorem q_1912 : (Jvm.Cond.methodLink "SnowRecorderModel" (150 : Nat) ({ cls := "SnowRecorderModel", name := "runsOff", desc := "(III)V" } : Jvm.MethodName)) ∈ AW := AW_m8 232 (by decide +kernel) (by decide +kernel)
theorem q_1914 : (Jvm.Cond.instanceMethod ({ cls := "SnowRecorderModel", name := "runsOff", desc := "(III)V" } : Jvm.MethodName)) ∈ AW := AW_m8 234 (by decide +kernel) (by decide +kernel)
theorem q_1915 : (Jvm.Cond.code ({ cls := "SnowRecorderModel", name := "runsOff", desc := "(III)V" } : Jvm.MethodName) prog_12_method_13_code (4 : Nat) (Option.none : Option Jvm.ClassFile.FieldType)) ∈ AW := AW_m8 235 (by decide +kernel) (by decide +kernel)
theorem q_1932 : (Jvm.Cond.methodLink "SnowRecorderModel" (176 : Nat) ({ cls := "SnowRecorderModel", name := "freezes", desc := "(I)V" } : Jvm.MethodName)) ∈ AW := AW_m9 12 (by decide +kernel) (by decide +kernel)
theorem q_1934 : (Jvm.Cond.instanceMethod ({ cls := "SnowRecorderModel", name := "freezes", desc := "(I)V" } : Jvm.MethodName)) ∈ AW := AW_m9 14 (by decide +kernel) (by decide +kernel)
theorem q_1935 : (Jvm.Cond.code ({ cls := "SnowRecorderModel", name := "freezes", desc := "(I)V" } : Jvm.MethodName) prog_12_method_28_code (3 : Nat) (Option.none : Option Jvm.ClassFile.FieldType)) ∈ AW := AW_m9 15 (by decide +kernel) (by decide +kernel)
theorem q_1944 : (Jvm.Cond.methodLink "SnowRecorderModel" (192 : Nat) ({ cls := "SnowRecorderModel", name := "kindThen", desc := "(IIII)I" } : Jvm.MethodName)) ∈ AW := AW_m9 24 (by decide +kernel) (by decide +kernel)
theorem q_1946 : (Jvm.Cond.instanceMethod ({ cls := "SnowRecorderModel", name := "kindThen", desc := "(IIII)I" } : Jvm.MethodName)) ∈ AW := AW_m9 26 (by decide +kernel) (by decide +kernel)
theorem q_1947 : (Jvm.Cond.code ({ cls := "SnowRecorderModel", name := "kindThen", desc := "(IIII)I" } : Jvm.MethodName) prog_12_method_33_code (6 : Nat) (Option.some Jvm.ClassFile.FieldType.int)) ∈ AW := AW_m9 27 (by decide +kernel) (by decide +kernel)
theorem s_101 : Cond.selects "SnowRecorderModel" ({ cls := "SnowRecorderModel", name := "kindThen", desc := "(IIII)I" } : Jvm.MethodName) ({ cls := "SnowRecorderModel", name := "kindThen", desc := "(IIII)I" } : Jvm.MethodName) ∈ AW := AW_m 101 (by decide +kernel) (by decide +kernel)
theorem s_75 : Cond.selects "SnowRecorderModel" ({ cls := "SnowRecorderModel", name := "load", desc := "(III)I" } : Jvm.MethodName) ({ cls := "SnowRecorderModel", name := "load", desc := "(III)I" } : Jvm.MethodName) ∈ AW := AW_m 75 (by decide +kernel) (by decide +kernel)
theorem s_92 : Cond.selects "SnowRecorderModel" ({ cls := "SnowRecorderModel", name := "sets", desc := "(IIIII)V" } : Jvm.MethodName) ({ cls := "SnowRecorderModel", name := "sets", desc := "(IIIII)V" } : Jvm.MethodName) ∈ AW := AW_m 92 (by decide +kernel) (by decide +kernel)
theorem s_93 : Cond.selects "SnowRecorderModel" ({ cls := "SnowRecorderModel", name := "runsOff", desc := "(III)V" } : Jvm.MethodName) ({ cls := "SnowRecorderModel", name := "runsOff", desc := "(III)V" } : Jvm.MethodName) ∈ AW := AW_m 93 (by decide +kernel) (by decide +kernel)
theorem s_98 : Cond.selects "SnowRecorderModel" ({ cls := "SnowRecorderModel", name := "freezes", desc := "(I)V" } : Jvm.MethodName) ({ cls := "SnowRecorderModel", name := "freezes", desc := "(I)V" } : Jvm.MethodName) ∈ AW := AW_m 98 (by decide +kernel) (by decide +kernel)
theorem hd_yX10_runsOff : yX10_runsOff.cls ≠ "java/lang/invoke/MethodHandle" ∧ yX10_runsOff.cls ≠ "java/lang/invoke/VarHandle" ∧ (parseMethodDescriptor yX10_runsOff.desc).map (fun d => d.parameters.length) = some 3 := by decide +kernel
theorem hd_yX10_freezes : yX10_freezes.cls ≠ "java/lang/invoke/MethodHandle" ∧ yX10_freezes.cls ≠ "java/lang/invoke/VarHandle" ∧ (parseMethodDescriptor yX10_freezes.desc).map (fun d => d.parameters.length) = some 1 := by decide +kernel
theorem hd_yX10_load : yX10_load.cls ≠ "java/lang/invoke/MethodHandle" ∧ yX10_load.cls ≠ "java/lang/invoke/VarHandle" ∧ (parseMethodDescriptor yX10_load.desc).map (fun d => d.parameters.length) = some 3 := by decide +kernel
theorem hd_yX10_sets : yX10_sets.cls ≠ "java/lang/invoke/MethodHandle" ∧ yX10_sets.cls ≠ "java/lang/invoke/VarHandle" ∧ (parseMethodDescriptor yX10_sets.desc).map (fun d => d.parameters.length) = some 5 := by decide +kernel
theorem hd_yX10_kindThen : yX10_kindThen.cls ≠ "java/lang/invoke/MethodHandle" ∧ yX10_kindThen.cls ≠ "java/lang/invoke/VarHandle" ∧ (parseMethodDescriptor yX10_kindThen.desc).map (fun d => d.parameters.length) = some 4 := by decide +kernel
theorem mv_yX10_runsOff : zWv yX10_runsOff cX10_runsOff 4 none := ⟨q_1914, s_93, q_15, q_1915⟩
theorem mv_yX10_freezes : zWv yX10_freezes cX10_freezes 3 none := ⟨q_1934, s_98, q_15, q_1935⟩
theorem mv_yX10_load : zWv yX10_load cX10_load 4 (some .int) := ⟨q_1825, s_75, q_15, q_1826⟩
theorem mv_yX10_sets : zWv yX10_sets cX10_sets 6 none := ⟨q_1910, s_92, q_15, q_1911⟩
theorem mv_yX10_kindThen : zWv yX10_kindThen cX10_kindThen 6 (some .int) := ⟨q_1946, s_101, q_15, q_1947⟩
end
section
-- 76.dec.lean.txt
-- decode rows of refp
theorem dX10_freezes_0 : decode cX10_freezes 0 = .ok (.aload_n 0, 1) := by decide +kernel
theorem dX10_freezes_1 : decode cX10_freezes 1 = .ok (.getfield 9, 3) := by decide +kernel
theorem dX10_freezes_4 : decode cX10_freezes 4 = .ok (.iload_n 1, 1) := by decide +kernel
theorem dX10_freezes_5 : decode cX10_freezes 5 = .ok (.iconst 2, 1) := by decide +kernel
theorem dX10_freezes_6 : decode cX10_freezes 6 = .ok (.iadd, 1) := by decide +kernel
theorem dX10_freezes_7 : decode cX10_freezes 7 = .ok (.iaload, 1) := by decide +kernel
theorem dX10_freezes_8 : decode cX10_freezes 8 = .ok (.aload_n 0, 1) := by decide +kernel
theorem dX10_freezes_9 : decode cX10_freezes 9 = .ok (.getfield 9, 3) := by decide +kernel
theorem dX10_freezes_12 : decode cX10_freezes 12 = .ok (.iload_n 1, 1) := by decide +kernel
theorem dX10_freezes_13 : decode cX10_freezes 13 = .ok (.iconst 1, 1) := by decide +kernel
theorem dX10_freezes_14 : decode cX10_freezes 14 = .ok (.iadd, 1) := by decide +kernel
theorem dX10_freezes_15 : decode cX10_freezes 15 = .ok (.iaload, 1) := by decide +kernel
theorem dX10_freezes_16 : decode cX10_freezes 16 = .ok (.aload_n 0, 1) := by decide +kernel
theorem dX10_freezes_17 : decode cX10_freezes 17 = .ok (.getfield 9, 3) := by decide +kernel
theorem dX10_freezes_20 : decode cX10_freezes 20 = .ok (.iload_n 1, 1) := by decide +kernel
theorem dX10_freezes_21 : decode cX10_freezes 21 = .ok (.iconst 4, 1) := by decide +kernel
theorem dX10_freezes_22 : decode cX10_freezes 22 = .ok (.iadd, 1) := by decide +kernel
theorem dX10_freezes_23 : decode cX10_freezes 23 = .ok (.iaload, 1) := by decide +kernel
theorem dX10_freezes_24 : decode cX10_freezes 24 = .ok (.ineg, 1) := by decide +kernel
theorem dX10_freezes_25 : decode cX10_freezes 25 = .ok (.imul, 1) := by decide +kernel
theorem dX10_freezes_26 : decode cX10_freezes 26 = .ok (.bipush 100, 2) := by decide +kernel
theorem dX10_freezes_28 : decode cX10_freezes 28 = .ok (.idiv, 1) := by decide +kernel
theorem dX10_freezes_29 : decode cX10_freezes 29 = .ok (.invokestatic 143, 3) := by decide +kernel
theorem dX10_freezes_32 : decode cX10_freezes 32 = .ok (.istore_n 2, 1) := by decide +kernel
theorem dX10_freezes_33 : decode cX10_freezes 33 = .ok (.aload_n 0, 1) := by decide +kernel
theorem dX10_freezes_34 : decode cX10_freezes 34 = .ok (.getfield 9, 3) := by decide +kernel
theorem dX10_freezes_37 : decode cX10_freezes 37 = .ok (.iload_n 1, 1) := by decide +kernel
theorem dX10_freezes_38 : decode cX10_freezes 38 = .ok (.iconst 4, 1) := by decide +kernel
theorem dX10_freezes_39 : decode cX10_freezes 39 = .ok (.iadd, 1) := by decide +kernel
theorem dX10_freezes_40 : decode cX10_freezes 40 = .ok (.aload_n 0, 1) := by decide +kernel
theorem dX10_freezes_41 : decode cX10_freezes 41 = .ok (.getfield 9, 3) := by decide +kernel
theorem dX10_freezes_44 : decode cX10_freezes 44 = .ok (.iload_n 1, 1) := by decide +kernel
theorem dX10_freezes_45 : decode cX10_freezes 45 = .ok (.iconst 2, 1) := by decide +kernel
theorem dX10_freezes_46 : decode cX10_freezes 46 = .ok (.iadd, 1) := by decide +kernel
theorem dX10_freezes_47 : decode cX10_freezes 47 = .ok (.iaload, 1) := by decide +kernel
theorem dX10_freezes_48 : decode cX10_freezes 48 = .ok (.iload_n 2, 1) := by decide +kernel
theorem dX10_freezes_49 : decode cX10_freezes 49 = .ok (.if_icmp .le 7, 3) := by decide +kernel
theorem dX10_freezes_56 : decode cX10_freezes 56 = .ok (.iconst 0, 1) := by decide +kernel
theorem dX10_freezes_57 : decode cX10_freezes 57 = .ok (.aload_n 0, 1) := by decide +kernel
theorem dX10_freezes_58 : decode cX10_freezes 58 = .ok (.getfield 9, 3) := by decide +kernel
theorem dX10_freezes_61 : decode cX10_freezes 61 = .ok (.iload_n 1, 1) := by decide +kernel
theorem dX10_freezes_62 : decode cX10_freezes 62 = .ok (.iconst 4, 1) := by decide +kernel
theorem dX10_freezes_63 : decode cX10_freezes 63 = .ok (.iadd, 1) := by decide +kernel
theorem dX10_freezes_64 : decode cX10_freezes 64 = .ok (.iaload, 1) := by decide +kernel
theorem dX10_freezes_65 : decode cX10_freezes 65 = .ok (.bipush 100, 2) := by decide +kernel
theorem dX10_freezes_67 : decode cX10_freezes 67 = .ok (.iload_n 2, 1) := by decide +kernel
theorem dX10_freezes_68 : decode cX10_freezes 68 = .ok (.imul, 1) := by decide +kernel
theorem dX10_freezes_69 : decode cX10_freezes 69 = .ok (.aload_n 0, 1) := by decide +kernel
theorem dX10_freezes_70 : decode cX10_freezes 70 = .ok (.getfield 9, 3) := by decide +kernel
theorem dX10_freezes_73 : decode cX10_freezes 73 = .ok (.iload_n 1, 1) := by decide +kernel
theorem dX10_freezes_74 : decode cX10_freezes 74 = .ok (.iconst 1, 1) := by decide +kernel
theorem dX10_freezes_75 : decode cX10_freezes 75 = .ok (.iadd, 1) := by decide +kernel
theorem dX10_freezes_76 : decode cX10_freezes 76 = .ok (.iaload, 1) := by decide +kernel
theorem dX10_freezes_77 : decode cX10_freezes 77 = .ok (.idiv, 1) := by decide +kernel
theorem dX10_freezes_78 : decode cX10_freezes 78 = .ok (.iadd, 1) := by decide +kernel
theorem dX10_freezes_79 : decode cX10_freezes 79 = .ok (.invokestatic 143, 3) := by decide +kernel
theorem dX10_freezes_82 : decode cX10_freezes 82 = .ok (.iastore, 1) := by decide +kernel
theorem dX10_freezes_83 : decode cX10_freezes 83 = .ok (.aload_n 0, 1) := by decide +kernel
theorem dX10_freezes_84 : decode cX10_freezes 84 = .ok (.getfield 9, 3) := by decide +kernel
theorem dX10_freezes_87 : decode cX10_freezes 87 = .ok (.iload_n 1, 1) := by decide +kernel
theorem dX10_freezes_88 : decode cX10_freezes 88 = .ok (.iconst 1, 1) := by decide +kernel
theorem dX10_freezes_89 : decode cX10_freezes 89 = .ok (.iadd, 1) := by decide +kernel
theorem dX10_freezes_90 : decode cX10_freezes 90 = .ok (.dup2, 1) := by decide +kernel
theorem dX10_freezes_91 : decode cX10_freezes 91 = .ok (.iaload, 1) := by decide +kernel
theorem dX10_freezes_92 : decode cX10_freezes 92 = .ok (.iload_n 2, 1) := by decide +kernel
theorem dX10_freezes_93 : decode cX10_freezes 93 = .ok (.iadd, 1) := by decide +kernel
theorem dX10_freezes_94 : decode cX10_freezes 94 = .ok (.iastore, 1) := by decide +kernel
theorem dX10_freezes_95 : decode cX10_freezes 95 = .ok (.aload_n 0, 1) := by decide +kernel
theorem dX10_freezes_96 : decode cX10_freezes 96 = .ok (.getfield 9, 3) := by decide +kernel
theorem dX10_freezes_99 : decode cX10_freezes 99 = .ok (.iload_n 1, 1) := by decide +kernel
theorem dX10_freezes_100 : decode cX10_freezes 100 = .ok (.iconst 2, 1) := by decide +kernel
theorem dX10_freezes_101 : decode cX10_freezes 101 = .ok (.iadd, 1) := by decide +kernel
theorem dX10_freezes_102 : decode cX10_freezes 102 = .ok (.dup2, 1) := by decide +kernel
theorem dX10_freezes_103 : decode cX10_freezes 103 = .ok (.iaload, 1) := by decide +kernel
theorem dX10_freezes_104 : decode cX10_freezes 104 = .ok (.iload_n 2, 1) := by decide +kernel
theorem dX10_freezes_105 : decode cX10_freezes 105 = .ok (.isub, 1) := by decide +kernel
theorem dX10_freezes_106 : decode cX10_freezes 106 = .ok (.iastore, 1) := by decide +kernel
theorem dX10_freezes_107 : decode cX10_freezes 107 = .ok (.iload_n 2, 1) := by decide +kernel
theorem dX10_freezes_108 : decode cX10_freezes 108 = .ok (.ifCond .le 12, 3) := by decide +kernel
theorem dX10_freezes_120 : decode cX10_freezes 120 = .ok (.return_, 1) := by decide +kernel
theorem dX10_freezes_111 : decode cX10_freezes 111 = .ok (.aload_n 0, 1) := by decide +kernel
theorem dX10_freezes_112 : decode cX10_freezes 112 = .ok (.getfield 9, 3) := by decide +kernel
theorem dX10_freezes_115 : decode cX10_freezes 115 = .ok (.iload_n 1, 1) := by decide +kernel
theorem dX10_freezes_116 : decode cX10_freezes 116 = .ok (.iconst 0, 1) := by decide +kernel
theorem dX10_freezes_117 : decode cX10_freezes 117 = .ok (.iadd, 1) := by decide +kernel
theorem dX10_freezes_118 : decode cX10_freezes 118 = .ok (.iconst 3, 1) := by decide +kernel
theorem dX10_freezes_119 : decode cX10_freezes 119 = .ok (.iastore, 1) := by decide +kernel
theorem dX10_freezes_52 : decode cX10_freezes 52 = .ok (.iconst 0, 1) := by decide +kernel
theorem dX10_freezes_53 : decode cX10_freezes 53 = .ok (.goto 29, 3) := by decide +kernel
theorem dX10_sinks_9 : decode cX10_sinks 9 = .ok (.iload_n 3, 1) := by decide +kernel
theorem dX10_sinks_10 : decode cX10_sinks 10 = .ok (.ifCond .lt 145, 3) := by decide +kernel
theorem dX10_sinks_155 : decode cX10_sinks 155 = .ok (.return_, 1) := by decide +kernel
theorem dX10_sinks_13 : decode cX10_sinks 13 = .ok (.iload_n 1, 1) := by decide +kernel
theorem dX10_sinks_14 : decode cX10_sinks 14 = .ok (.iload_n 2, 1) := by decide +kernel
theorem dX10_sinks_15 : decode cX10_sinks 15 = .ok (.iload_n 3, 1) := by decide +kernel
theorem dX10_sinks_16 : decode cX10_sinks 16 = .ok (.invokestatic 113, 3) := by decide +kernel
theorem dX10_sinks_19 : decode cX10_sinks 19 = .ok (.istore 4, 2) := by decide +kernel
theorem dX10_sinks_21 : decode cX10_sinks 21 = .ok (.aload_n 0, 1) := by decide +kernel
theorem dX10_sinks_22 : decode cX10_sinks 22 = .ok (.getfield 9, 3) := by decide +kernel
theorem dX10_sinks_25 : decode cX10_sinks 25 = .ok (.iload 4, 2) := by decide +kernel
theorem dX10_sinks_27 : decode cX10_sinks 27 = .ok (.iconst 2, 1) := by decide +kernel
theorem dX10_sinks_28 : decode cX10_sinks 28 = .ok (.iadd, 1) := by decide +kernel
theorem dX10_sinks_29 : decode cX10_sinks 29 = .ok (.iaload, 1) := by decide +kernel
theorem dX10_sinks_30 : decode cX10_sinks 30 = .ok (.ifCond .le 21, 3) := by decide +kernel
theorem dX10_sinks_51 : decode cX10_sinks 51 = .ok (.aload_n 0, 1) := by decide +kernel
theorem dX10_sinks_52 : decode cX10_sinks 52 = .ok (.getfield 9, 3) := by decide +kernel
theorem dX10_sinks_55 : decode cX10_sinks 55 = .ok (.iload 4, 2) := by decide +kernel
theorem dX10_sinks_57 : decode cX10_sinks 57 = .ok (.iconst 2, 1) := by decide +kernel
theorem dX10_sinks_58 : decode cX10_sinks 58 = .ok (.iadd, 1) := by decide +kernel
theorem dX10_sinks_59 : decode cX10_sinks 59 = .ok (.iaload, 1) := by decide +kernel
theorem dX10_sinks_60 : decode cX10_sinks 60 = .ok (.aload_n 0, 1) := by decide +kernel
theorem dX10_sinks_61 : decode cX10_sinks 61 = .ok (.getfield 9, 3) := by decide +kernel
theorem dX10_sinks_64 : decode cX10_sinks 64 = .ok (.iload 4, 2) := by decide +kernel
theorem dX10_sinks_66 : decode cX10_sinks 66 = .ok (.iconst 1, 1) := by decide +kernel
theorem dX10_sinks_67 : decode cX10_sinks 67 = .ok (.iadd, 1) := by decide +kernel
theorem dX10_sinks_68 : decode cX10_sinks 68 = .ok (.iaload, 1) := by decide +kernel
theorem dX10_sinks_69 : decode cX10_sinks 69 = .ok (.aload_n 0, 1) := by decide +kernel
theorem dX10_sinks_70 : decode cX10_sinks 70 = .ok (.getfield 28, 3) := by decide +kernel
theorem dX10_sinks_73 : decode cX10_sinks 73 = .ok (.iconst 5, 1) := by decide +kernel
theorem dX10_sinks_74 : decode cX10_sinks 74 = .ok (.aload_n 0, 1) := by decide +kernel
theorem dX10_sinks_75 : decode cX10_sinks 75 = .ok (.getfield 9, 3) := by decide +kernel
theorem dX10_sinks_78 : decode cX10_sinks 78 = .ok (.iload 4, 2) := by decide +kernel
theorem dX10_sinks_80 : decode cX10_sinks 80 = .ok (.iconst 0, 1) := by decide +kernel
theorem dX10_sinks_81 : decode cX10_sinks 81 = .ok (.iadd, 1) := by decide +kernel
theorem dX10_sinks_82 : decode cX10_sinks 82 = .ok (.iaload, 1) := by decide +kernel
theorem dX10_sinks_83 : decode cX10_sinks 83 = .ok (.iadd, 1) := by decide +kernel
theorem dX10_sinks_84 : decode cX10_sinks 84 = .ok (.iaload, 1) := by decide +kernel
theorem dX10_sinks_85 : decode cX10_sinks 85 = .ok (.imul, 1) := by decide +kernel
theorem dX10_sinks_86 : decode cX10_sinks 86 = .ok (.bipush 100, 2) := by decide +kernel
theorem dX10_sinks_88 : decode cX10_sinks 88 = .ok (.idiv, 1) := by decide +kernel
theorem dX10_sinks_89 : decode cX10_sinks 89 = .ok (.isub, 1) := by decide +kernel
theorem dX10_sinks_90 : decode cX10_sinks 90 = .ok (.istore 5, 2) := by decide +kernel
theorem dX10_sinks_92 : decode cX10_sinks 92 = .ok (.iload 5, 2) := by decide +kernel
theorem dX10_sinks_94 : decode cX10_sinks 94 = .ok (.ifCond .gt 6, 3) := by decide +kernel
theorem dX10_sinks_100 : decode cX10_sinks 100 = .ok (.aload_n 0, 1) := by decide +kernel
theorem dX10_sinks_101 : decode cX10_sinks 101 = .ok (.getfield 9, 3) := by decide +kernel
theorem dX10_sinks_104 : decode cX10_sinks 104 = .ok (.iload 4, 2) := by decide +kernel
theorem dX10_sinks_106 : decode cX10_sinks 106 = .ok (.iconst 2, 1) := by decide +kernel
theorem dX10_sinks_107 : decode cX10_sinks 107 = .ok (.iadd, 1) := by decide +kernel
theorem dX10_sinks_108 : decode cX10_sinks 108 = .ok (.dup2, 1) := by decide +kernel
theorem dX10_sinks_109 : decode cX10_sinks 109 = .ok (.iaload, 1) := by decide +kernel
theorem dX10_sinks_110 : decode cX10_sinks 110 = .ok (.iload 5, 2) := by decide +kernel
theorem dX10_sinks_112 : decode cX10_sinks 112 = .ok (.isub, 1) := by decide +kernel
theorem dX10_sinks_113 : decode cX10_sinks 113 = .ok (.iastore, 1) := by decide +kernel
theorem dX10_sinks_114 : decode cX10_sinks 114 = .ok (.iload_n 3, 1) := by decide +kernel
theorem dX10_sinks_115 : decode cX10_sinks 115 = .ok (.ifCond .ne 14, 3) := by decide +kernel
theorem dX10_sinks_129 : decode cX10_sinks 129 = .ok (.aload_n 0, 1) := by decide +kernel
theorem dX10_sinks_130 : decode cX10_sinks 130 = .ok (.getfield 9, 3) := by decide +kernel
theorem dX10_sinks_133 : decode cX10_sinks 133 = .ok (.iload_n 1, 1) := by decide +kernel
theorem dX10_sinks_134 : decode cX10_sinks 134 = .ok (.iload_n 2, 1) := by decide +kernel
theorem dX10_sinks_135 : decode cX10_sinks 135 = .ok (.iload_n 3, 1) := by decide +kernel
theorem dX10_sinks_136 : decode cX10_sinks 136 = .ok (.iconst 1, 1) := by decide +kernel
theorem dX10_sinks_137 : decode cX10_sinks 137 = .ok (.isub, 1) := by decide +kernel
theorem dX10_sinks_138 : decode cX10_sinks 138 = .ok (.invokestatic 113, 3) := by decide +kernel
theorem dX10_sinks_141 : decode cX10_sinks 141 = .ok (.iconst 2, 1) := by decide +kernel
theorem dX10_sinks_142 : decode cX10_sinks 142 = .ok (.iadd, 1) := by decide +kernel
theorem dX10_sinks_143 : decode cX10_sinks 143 = .ok (.dup2, 1) := by decide +kernel
theorem dX10_sinks_144 : decode cX10_sinks 144 = .ok (.iaload, 1) := by decide +kernel
theorem dX10_sinks_145 : decode cX10_sinks 145 = .ok (.iload 5, 2) := by decide +kernel
theorem dX10_sinks_147 : decode cX10_sinks 147 = .ok (.iadd, 1) := by decide +kernel
theorem dX10_sinks_148 : decode cX10_sinks 148 = .ok (.iastore, 1) := by decide +kernel
theorem dX10_sinks_149 : decode cX10_sinks 149 = .ok (.iinc 3 (-1), 3) := by decide +kernel
theorem dX10_sinks_152 : decode cX10_sinks 152 = .ok (.goto (-143), 3) := by decide +kernel
theorem dX10_sinks_118 : decode cX10_sinks 118 = .ok (.aload_n 0, 1) := by decide +kernel
theorem dX10_sinks_119 : decode cX10_sinks 119 = .ok (.iload_n 1, 1) := by decide +kernel
theorem dX10_sinks_120 : decode cX10_sinks 120 = .ok (.iload_n 2, 1) := by decide +kernel
theorem dX10_sinks_121 : decode cX10_sinks 121 = .ok (.iload 5, 2) := by decide +kernel
theorem dX10_sinks_123 : decode cX10_sinks 123 = .ok (.invokevirtual 150, 3) := by decide +kernel
theorem dX10_sinks_126 : decode cX10_sinks 126 = .ok (.goto 23, 3) := by decide +kernel
theorem dX10_sinks_97 : decode cX10_sinks 97 = .ok (.goto 52, 3) := by decide +kernel
theorem dX10_sinks_33 : decode cX10_sinks 33 = .ok (.aload_n 0, 1) := by decide +kernel
theorem dX10_sinks_34 : decode cX10_sinks 34 = .ok (.getfield 9, 3) := by decide +kernel
theorem dX10_sinks_37 : decode cX10_sinks 37 = .ok (.iload 4, 2) := by decide +kernel
theorem dX10_sinks_39 : decode cX10_sinks 39 = .ok (.iconst 4, 1) := by decide +kernel
theorem dX10_sinks_40 : decode cX10_sinks 40 = .ok (.iadd, 1) := by decide +kernel
theorem dX10_sinks_41 : decode cX10_sinks 41 = .ok (.iaload, 1) := by decide +kernel
theorem dX10_sinks_42 : decode cX10_sinks 42 = .ok (.ifCond .ge 9, 3) := by decide +kernel
theorem dX10_sinks_45 : decode cX10_sinks 45 = .ok (.aload_n 0, 1) := by decide +kernel
theorem dX10_sinks_46 : decode cX10_sinks 46 = .ok (.iload 4, 2) := by decide +kernel
theorem dX10_sinks_48 : decode cX10_sinks 48 = .ok (.invokevirtual 176, 3) := by decide +kernel
theorem dX10_sinks_0 : decode cX10_sinks 0 = .ok (.aload_n 0, 1) := by decide +kernel
theorem dX10_sinks_1 : decode cX10_sinks 1 = .ok (.iload_n 1, 1) := by decide +kernel
theorem dX10_sinks_2 : decode cX10_sinks 2 = .ok (.iload_n 2, 1) := by decide +kernel
theorem dX10_sinks_3 : decode cX10_sinks 3 = .ok (.invokevirtual 121, 3) := by decide +kernel
theorem dX10_sinks_6 : decode cX10_sinks 6 = .ok (.iconst 1, 1) := by decide +kernel
theorem dX10_sinks_7 : decode cX10_sinks 7 = .ok (.isub, 1) := by decide +kernel
theorem dX10_sinks_8 : decode cX10_sinks 8 = .ok (.istore_n 3, 1) := by decide +kernel
theorem dX10_load_0 : decode cX10_load 0 = .ok (.aload_n 0, 1) := by decide +kernel
theorem dX10_load_1 : decode cX10_load 1 = .ok (.iload_n 1, 1) := by decide +kernel
theorem dX10_load_2 : decode cX10_load 2 = .ok (.iload_n 2, 1) := by decide +kernel
theorem dX10_load_3 : decode cX10_load 3 = .ok (.iload_n 3, 1) := by decide +kernel
theorem dX10_load_4 : decode cX10_load 4 = .ok (.invokevirtual 180, 3) := by decide +kernel
theorem dX10_load_7 : decode cX10_load 7 = .ok (.aload_n 0, 1) := by decide +kernel
theorem dX10_load_8 : decode cX10_load 8 = .ok (.iload_n 1, 1) := by decide +kernel
theorem dX10_load_9 : decode cX10_load 9 = .ok (.iload_n 2, 1) := by decide +kernel
theorem dX10_load_10 : decode cX10_load 10 = .ok (.iload_n 3, 1) := by decide +kernel
theorem dX10_load_11 : decode cX10_load 11 = .ok (.invokevirtual 125, 3) := by decide +kernel
theorem dX10_load_14 : decode cX10_load 14 = .ok (.iconst 2, 1) := by decide +kernel
theorem dX10_load_15 : decode cX10_load 15 = .ok (.idiv, 1) := by decide +kernel
theorem dX10_load_16 : decode cX10_load 16 = .ok (.iadd, 1) := by decide +kernel
theorem dX10_load_17 : decode cX10_load 17 = .ok (.ireturn, 1) := by decide +kernel
theorem dX10_presses_2 : decode cX10_presses 2 = .ok (.iload_n 3, 1) := by decide +kernel
theorem dX10_presses_3 : decode cX10_presses 3 = .ok (.aload_n 0, 1) := by decide +kernel
theorem dX10_presses_4 : decode cX10_presses 4 = .ok (.iload_n 1, 1) := by decide +kernel
theorem dX10_presses_5 : decode cX10_presses 5 = .ok (.iload_n 2, 1) := by decide +kernel
theorem dX10_presses_6 : decode cX10_presses 6 = .ok (.invokevirtual 121, 3) := by decide +kernel
theorem dX10_presses_9 : decode cX10_presses 9 = .ok (.if_icmp .ge 93, 3) := by decide +kernel
theorem dX10_presses_102 : decode cX10_presses 102 = .ok (.return_, 1) := by decide +kernel
theorem dX10_presses_12 : decode cX10_presses 12 = .ok (.aload_n 0, 1) := by decide +kernel
theorem dX10_presses_13 : decode cX10_presses 13 = .ok (.iload_n 1, 1) := by decide +kernel
theorem dX10_presses_14 : decode cX10_presses 14 = .ok (.iload_n 2, 1) := by decide +kernel
theorem dX10_presses_15 : decode cX10_presses 15 = .ok (.iload_n 3, 1) := by decide +kernel
theorem dX10_presses_16 : decode cX10_presses 16 = .ok (.iconst 3, 1) := by decide +kernel
theorem dX10_presses_17 : decode cX10_presses 17 = .ok (.invokevirtual 117, 3) := by decide +kernel
theorem dX10_presses_20 : decode cX10_presses 20 = .ok (.istore 4, 2) := by decide +kernel
theorem dX10_presses_22 : decode cX10_presses 22 = .ok (.iload 4, 2) := by decide +kernel
theorem dX10_presses_24 : decode cX10_presses 24 = .ok (.i2l, 1) := by decide +kernel
theorem dX10_presses_25 : decode cX10_presses 25 = .ok (.aload_n 0, 1) := by decide +kernel
theorem dX10_presses_26 : decode cX10_presses 26 = .ok (.iload_n 1, 1) := by decide +kernel
theorem dX10_presses_27 : decode cX10_presses 27 = .ok (.iload_n 2, 1) := by decide +kernel
theorem dX10_presses_28 : decode cX10_presses 28 = .ok (.iload_n 3, 1) := by decide +kernel
theorem dX10_presses_29 : decode cX10_presses 29 = .ok (.invokevirtual 183, 3) := by decide +kernel
theorem dX10_presses_32 : decode cX10_presses 32 = .ok (.i2l, 1) := by decide +kernel
theorem dX10_presses_33 : decode cX10_presses 33 = .ok (.lmul, 1) := by decide +kernel
theorem dX10_presses_34 : decode cX10_presses 34 = .ok (.aload_n 0, 1) := by decide +kernel
theorem dX10_presses_35 : decode cX10_presses 35 = .ok (.getfield 28, 3) := by decide +kernel
theorem dX10_presses_38 : decode cX10_presses 38 = .ok (.bipush 10, 2) := by decide +kernel
theorem dX10_presses_40 : decode cX10_presses 40 = .ok (.aload_n 0, 1) := by decide +kernel
theorem dX10_presses_41 : decode cX10_presses 41 = .ok (.iload_n 1, 1) := by decide +kernel
theorem dX10_presses_42 : decode cX10_presses 42 = .ok (.iload_n 2, 1) := by decide +kernel
theorem dX10_presses_43 : decode cX10_presses 43 = .ok (.iload_n 3, 1) := by decide +kernel
theorem dX10_presses_44 : decode cX10_presses 44 = .ok (.iconst 0, 1) := by decide +kernel
theorem dX10_presses_45 : decode cX10_presses 45 = .ok (.invokevirtual 117, 3) := by decide +kernel
theorem dX10_presses_48 : decode cX10_presses 48 = .ok (.iadd, 1) := by decide +kernel
theorem dX10_presses_49 : decode cX10_presses 49 = .ok (.iaload, 1) := by decide +kernel
theorem dX10_presses_50 : decode cX10_presses 50 = .ok (.i2l, 1) := by decide +kernel
theorem dX10_presses_51 : decode cX10_presses 51 = .ok (.ldiv, 1) := by decide +kernel
theorem dX10_presses_52 : decode cX10_presses 52 = .ok (.lstore 5, 2) := by decide +kernel
theorem dX10_presses_54 : decode cX10_presses 54 = .ok (.iload 4, 2) := by decide +kernel
theorem dX10_presses_56 : decode cX10_presses 56 = .ok (.i2l, 1) := by decide +kernel
theorem dX10_presses_57 : decode cX10_presses 57 = .ok (.lload 5, 2) := by decide +kernel
theorem dX10_presses_59 : decode cX10_presses 59 = .ok (.lsub, 1) := by decide +kernel
theorem dX10_presses_60 : decode cX10_presses 60 = .ok (.lstore 7, 2) := by decide +kernel
theorem dX10_presses_62 : decode cX10_presses 62 = .ok (.aload_n 0, 1) := by decide +kernel
theorem dX10_presses_63 : decode cX10_presses 63 = .ok (.iload_n 1, 1) := by decide +kernel
theorem dX10_presses_64 : decode cX10_presses 64 = .ok (.iload_n 2, 1) := by decide +kernel
theorem dX10_presses_65 : decode cX10_presses 65 = .ok (.iload_n 3, 1) := by decide +kernel
theorem dX10_presses_66 : decode cX10_presses 66 = .ok (.invokevirtual 125, 3) := by decide +kernel
theorem dX10_presses_69 : decode cX10_presses 69 = .ok (.istore 9, 2) := by decide +kernel
theorem dX10_presses_71 : decode cX10_presses 71 = .ok (.aload_n 0, 1) := by decide +kernel
theorem dX10_presses_72 : decode cX10_presses 72 = .ok (.iload_n 1, 1) := by decide +kernel
theorem dX10_presses_73 : decode cX10_presses 73 = .ok (.iload_n 2, 1) := by decide +kernel
theorem dX10_presses_74 : decode cX10_presses 74 = .ok (.iload_n 3, 1) := by decide +kernel
theorem dX10_presses_75 : decode cX10_presses 75 = .ok (.iconst 3, 1) := by decide +kernel
theorem dX10_presses_76 : decode cX10_presses 76 = .ok (.lload 7, 2) := by decide +kernel
theorem dX10_presses_78 : decode cX10_presses 78 = .ok (.iload 9, 2) := by decide +kernel
theorem dX10_presses_80 : decode cX10_presses 80 = .ok (.i2l, 1) := by decide +kernel
theorem dX10_presses_81 : decode cX10_presses 81 = .ok (.lcmp, 1) := by decide +kernel
theorem dX10_presses_82 : decode cX10_presses 82 = .ok (.ifCond .ge 8, 3) := by decide +kernel
theorem dX10_presses_90 : decode cX10_presses 90 = .ok (.lload 7, 2) := by decide +kernel
theorem dX10_presses_92 : decode cX10_presses 92 = .ok (.l2i, 1) := by decide +kernel
theorem dX10_presses_93 : decode cX10_presses 93 = .ok (.invokevirtual 131, 3) := by decide +kernel
theorem dX10_presses_96 : decode cX10_presses 96 = .ok (.iinc 3 1, 3) := by decide +kernel
theorem dX10_presses_99 : decode cX10_presses 99 = .ok (.goto (-97), 3) := by decide +kernel
theorem dX10_presses_85 : decode cX10_presses 85 = .ok (.iload 9, 2) := by decide +kernel
theorem dX10_presses_87 : decode cX10_presses 87 = .ok (.goto 6, 3) := by decide +kernel
theorem dX10_presses_0 : decode cX10_presses 0 = .ok (.iconst 0, 1) := by decide +kernel
theorem dX10_presses_1 : decode cX10_presses 1 = .ok (.istore_n 3, 1) := by decide +kernel
theorem dX10_evens_41 : decode cX10_evens 41 = .ok (.iload 4, 2) := by decide +kernel
theorem dX10_evens_43 : decode cX10_evens 43 = .ok (.iload_n 3, 1) := by decide +kernel
theorem dX10_evens_44 : decode cX10_evens 44 = .ok (.if_icmp .ge 115, 3) := by decide +kernel
theorem dX10_evens_159 : decode cX10_evens 159 = .ok (.return_, 1) := by decide +kernel
theorem dX10_evens_47 : decode cX10_evens 47 = .ok (.aload_n 0, 1) := by decide +kernel
theorem dX10_evens_48 : decode cX10_evens 48 = .ok (.getfield 59, 3) := by decide +kernel
theorem dX10_evens_51 : decode cX10_evens 51 = .ok (.iload 4, 2) := by decide +kernel
theorem dX10_evens_53 : decode cX10_evens 53 = .ok (.iaload, 1) := by decide +kernel
theorem dX10_evens_54 : decode cX10_evens 54 = .ok (.istore 5, 2) := by decide +kernel
theorem dX10_evens_56 : decode cX10_evens 56 = .ok (.iload 4, 2) := by decide +kernel
theorem dX10_evens_58 : decode cX10_evens 58 = .ok (.iconst 1, 1) := by decide +kernel
theorem dX10_evens_59 : decode cX10_evens 59 = .ok (.iadd, 1) := by decide +kernel
theorem dX10_evens_60 : decode cX10_evens 60 = .ok (.iload_n 3, 1) := by decide +kernel
theorem dX10_evens_61 : decode cX10_evens 61 = .ok (.if_icmp .ge 28, 3) := by decide +kernel
theorem dX10_evens_89 : decode cX10_evens 89 = .ok (.iload 4, 2) := by decide +kernel
theorem dX10_evens_91 : decode cX10_evens 91 = .ok (.ifCond .le 28, 3) := by decide +kernel
theorem dX10_evens_119 : decode cX10_evens 119 = .ok (.iload 4, 2) := by decide +kernel
theorem dX10_evens_121 : decode cX10_evens 121 = .ok (.ifCond .ne 17, 3) := by decide +kernel
theorem dX10_evens_138 : decode cX10_evens 138 = .ok (.aload_n 0, 1) := by decide +kernel
theorem dX10_evens_139 : decode cX10_evens 139 = .ok (.iload_n 1, 1) := by decide +kernel
theorem dX10_evens_140 : decode cX10_evens 140 = .ok (.iload_n 2, 1) := by decide +kernel
theorem dX10_evens_141 : decode cX10_evens 141 = .ok (.iload 4, 2) := by decide +kernel
theorem dX10_evens_143 : decode cX10_evens 143 = .ok (.iconst 4, 1) := by decide +kernel
theorem dX10_evens_144 : decode cX10_evens 144 = .ok (.iload 5, 2) := by decide +kernel
theorem dX10_evens_146 : decode cX10_evens 146 = .ok (.iconst 0, 1) := by decide +kernel
theorem dX10_evens_147 : decode cX10_evens 147 = .ok (.invokestatic 143, 3) := by decide +kernel
theorem dX10_evens_150 : decode cX10_evens 150 = .ok (.invokevirtual 131, 3) := by decide +kernel
theorem dX10_evens_153 : decode cX10_evens 153 = .ok (.iinc 4 1, 3) := by decide +kernel
theorem dX10_evens_156 : decode cX10_evens 156 = .ok (.goto (-115), 3) := by decide +kernel
theorem dX10_evens_124 : decode cX10_evens 124 = .ok (.iload 5, 2) := by decide +kernel
theorem dX10_evens_126 : decode cX10_evens 126 = .ok (.aload_n 0, 1) := by decide +kernel
theorem dX10_evens_127 : decode cX10_evens 127 = .ok (.getfield 59, 3) := by decide +kernel
theorem dX10_evens_130 : decode cX10_evens 130 = .ok (.iconst 0, 1) := by decide +kernel
theorem dX10_evens_131 : decode cX10_evens 131 = .ok (.iaload, 1) := by decide +kernel
theorem dX10_evens_132 : decode cX10_evens 132 = .ok (.bipush 8, 2) := by decide +kernel
theorem dX10_evens_134 : decode cX10_evens 134 = .ok (.idiv, 1) := by decide +kernel
theorem dX10_evens_135 : decode cX10_evens 135 = .ok (.isub, 1) := by decide +kernel
theorem dX10_evens_136 : decode cX10_evens 136 = .ok (.istore 5, 2) := by decide +kernel
theorem dX10_evens_94 : decode cX10_evens 94 = .ok (.iload 5, 2) := by decide +kernel
theorem dX10_evens_96 : decode cX10_evens 96 = .ok (.aload_n 0, 1) := by decide +kernel
theorem dX10_evens_97 : decode cX10_evens 97 = .ok (.getfield 59, 3) := by decide +kernel
theorem dX10_evens_100 : decode cX10_evens 100 = .ok (.iload 4, 2) := by decide +kernel
theorem dX10_evens_102 : decode cX10_evens 102 = .ok (.iaload, 1) := by decide +kernel
theorem dX10_evens_103 : decode cX10_evens 103 = .ok (.aload_n 0, 1) := by decide +kernel
theorem dX10_evens_104 : decode cX10_evens 104 = .ok (.getfield 59, 3) := by decide +kernel
theorem dX10_evens_107 : decode cX10_evens 107 = .ok (.iload 4, 2) := by decide +kernel
theorem dX10_evens_109 : decode cX10_evens 109 = .ok (.iconst 1, 1) := by decide +kernel
theorem dX10_evens_110 : decode cX10_evens 110 = .ok (.isub, 1) := by decide +kernel
theorem dX10_evens_111 : decode cX10_evens 111 = .ok (.iaload, 1) := by decide +kernel
theorem dX10_evens_112 : decode cX10_evens 112 = .ok (.isub, 1) := by decide +kernel
theorem dX10_evens_113 : decode cX10_evens 113 = .ok (.bipush 8, 2) := by decide +kernel
theorem dX10_evens_115 : decode cX10_evens 115 = .ok (.idiv, 1) := by decide +kernel
theorem dX10_evens_116 : decode cX10_evens 116 = .ok (.isub, 1) := by decide +kernel
theorem dX10_evens_117 : decode cX10_evens 117 = .ok (.istore 5, 2) := by decide +kernel
theorem dX10_evens_64 : decode cX10_evens 64 = .ok (.iload 5, 2) := by decide +kernel
theorem dX10_evens_66 : decode cX10_evens 66 = .ok (.aload_n 0, 1) := by decide +kernel
theorem dX10_evens_67 : decode cX10_evens 67 = .ok (.getfield 59, 3) := by decide +kernel
theorem dX10_evens_70 : decode cX10_evens 70 = .ok (.iload 4, 2) := by decide +kernel
theorem dX10_evens_72 : decode cX10_evens 72 = .ok (.iconst 1, 1) := by decide +kernel
theorem dX10_evens_73 : decode cX10_evens 73 = .ok (.iadd, 1) := by decide +kernel
theorem dX10_evens_74 : decode cX10_evens 74 = .ok (.iaload, 1) := by decide +kernel
theorem dX10_evens_75 : decode cX10_evens 75 = .ok (.aload_n 0, 1) := by decide +kernel
theorem dX10_evens_76 : decode cX10_evens 76 = .ok (.getfield 59, 3) := by decide +kernel
theorem dX10_evens_79 : decode cX10_evens 79 = .ok (.iload 4, 2) := by decide +kernel
theorem dX10_evens_81 : decode cX10_evens 81 = .ok (.iaload, 1) := by decide +kernel
theorem dX10_evens_82 : decode cX10_evens 82 = .ok (.isub, 1) := by decide +kernel
theorem dX10_evens_83 : decode cX10_evens 83 = .ok (.bipush 8, 2) := by decide +kernel
theorem dX10_evens_85 : decode cX10_evens 85 = .ok (.idiv, 1) := by decide +kernel
theorem dX10_evens_86 : decode cX10_evens 86 = .ok (.iadd, 1) := by decide +kernel
theorem dX10_evens_87 : decode cX10_evens 87 = .ok (.istore 5, 2) := by decide +kernel
theorem dX10_evens_10 : decode cX10_evens 10 = .ok (.iload 4, 2) := by decide +kernel
theorem dX10_evens_12 : decode cX10_evens 12 = .ok (.iload_n 3, 1) := by decide +kernel
theorem dX10_evens_13 : decode cX10_evens 13 = .ok (.if_icmp .ge 25, 3) := by decide +kernel
theorem dX10_evens_38 : decode cX10_evens 38 = .ok (.iconst 0, 1) := by decide +kernel
theorem dX10_evens_39 : decode cX10_evens 39 = .ok (.istore 4, 2) := by decide +kernel
theorem dX10_evens_16 : decode cX10_evens 16 = .ok (.aload_n 0, 1) := by decide +kernel
theorem dX10_evens_17 : decode cX10_evens 17 = .ok (.getfield 59, 3) := by decide +kernel
theorem dX10_evens_20 : decode cX10_evens 20 = .ok (.iload 4, 2) := by decide +kernel
theorem dX10_evens_22 : decode cX10_evens 22 = .ok (.aload_n 0, 1) := by decide +kernel
theorem dX10_evens_23 : decode cX10_evens 23 = .ok (.iload_n 1, 1) := by decide +kernel
theorem dX10_evens_24 : decode cX10_evens 24 = .ok (.iload_n 2, 1) := by decide +kernel
theorem dX10_evens_25 : decode cX10_evens 25 = .ok (.iload 4, 2) := by decide +kernel
theorem dX10_evens_27 : decode cX10_evens 27 = .ok (.iconst 4, 1) := by decide +kernel
theorem dX10_evens_28 : decode cX10_evens 28 = .ok (.invokevirtual 117, 3) := by decide +kernel
theorem dX10_evens_31 : decode cX10_evens 31 = .ok (.iastore, 1) := by decide +kernel
theorem dX10_evens_32 : decode cX10_evens 32 = .ok (.iinc 4 1, 3) := by decide +kernel
theorem dX10_evens_35 : decode cX10_evens 35 = .ok (.goto (-25), 3) := by decide +kernel
theorem dX10_evens_0 : decode cX10_evens 0 = .ok (.aload_n 0, 1) := by decide +kernel
theorem dX10_evens_1 : decode cX10_evens 1 = .ok (.iload_n 1, 1) := by decide +kernel
theorem dX10_evens_2 : decode cX10_evens 2 = .ok (.iload_n 2, 1) := by decide +kernel
theorem dX10_evens_3 : decode cX10_evens 3 = .ok (.invokevirtual 121, 3) := by decide +kernel
theorem dX10_evens_6 : decode cX10_evens 6 = .ok (.istore_n 3, 1) := by decide +kernel
theorem dX10_evens_7 : decode cX10_evens 7 = .ok (.iconst 0, 1) := by decide +kernel
theorem dX10_evens_8 : decode cX10_evens 8 = .ok (.istore 4, 2) := by decide +kernel
theorem dX10_ages_39 : decode cX10_ages 39 = .ok (.iload 4, 2) := by decide +kernel
theorem dX10_ages_41 : decode cX10_ages 41 = .ok (.aload_n 0, 1) := by decide +kernel
theorem dX10_ages_42 : decode cX10_ages 42 = .ok (.iload_n 1, 1) := by decide +kernel
theorem dX10_ages_43 : decode cX10_ages 43 = .ok (.iload_n 2, 1) := by decide +kernel
theorem dX10_ages_44 : decode cX10_ages 44 = .ok (.invokevirtual 121, 3) := by decide +kernel
theorem dX10_ages_47 : decode cX10_ages 47 = .ok (.if_icmp .ge 45, 3) := by decide +kernel
theorem dX10_ages_92 : decode cX10_ages 92 = .ok (.return_, 1) := by decide +kernel
theorem dX10_ages_50 : decode cX10_ages 50 = .ok (.aload_n 0, 1) := by decide +kernel
theorem dX10_ages_51 : decode cX10_ages 51 = .ok (.iload_n 1, 1) := by decide +kernel
theorem dX10_ages_52 : decode cX10_ages 52 = .ok (.iload_n 2, 1) := by decide +kernel
theorem dX10_ages_53 : decode cX10_ages 53 = .ok (.iload 4, 2) := by decide +kernel
theorem dX10_ages_55 : decode cX10_ages 55 = .ok (.iconst 0, 1) := by decide +kernel
theorem dX10_ages_56 : decode cX10_ages 56 = .ok (.aload_n 0, 1) := by decide +kernel
theorem dX10_ages_57 : decode cX10_ages 57 = .ok (.getfield 62, 3) := by decide +kernel
theorem dX10_ages_60 : decode cX10_ages 60 = .ok (.iload 4, 2) := by decide +kernel
theorem dX10_ages_62 : decode cX10_ages 62 = .ok (.iaload, 1) := by decide +kernel
theorem dX10_ages_63 : decode cX10_ages 63 = .ok (.invokevirtual 131, 3) := by decide +kernel
theorem dX10_ages_66 : decode cX10_ages 66 = .ok (.aload_n 0, 1) := by decide +kernel
theorem dX10_ages_67 : decode cX10_ages 67 = .ok (.iload_n 1, 1) := by decide +kernel
theorem dX10_ages_68 : decode cX10_ages 68 = .ok (.iload_n 2, 1) := by decide +kernel
theorem dX10_ages_69 : decode cX10_ages 69 = .ok (.iload 4, 2) := by decide +kernel
theorem dX10_ages_71 : decode cX10_ages 71 = .ok (.iconst 5, 1) := by decide +kernel
theorem dX10_ages_72 : decode cX10_ages 72 = .ok (.aload_n 0, 1) := by decide +kernel
theorem dX10_ages_73 : decode cX10_ages 73 = .ok (.iload_n 1, 1) := by decide +kernel
theorem dX10_ages_74 : decode cX10_ages 74 = .ok (.iload_n 2, 1) := by decide +kernel
theorem dX10_ages_75 : decode cX10_ages 75 = .ok (.iload 4, 2) := by decide +kernel
theorem dX10_ages_77 : decode cX10_ages 77 = .ok (.iconst 5, 1) := by decide +kernel
theorem dX10_ages_78 : decode cX10_ages 78 = .ok (.invokevirtual 117, 3) := by decide +kernel
theorem dX10_ages_81 : decode cX10_ages 81 = .ok (.iconst 1, 1) := by decide +kernel
theorem dX10_ages_82 : decode cX10_ages 82 = .ok (.iadd, 1) := by decide +kernel
theorem dX10_ages_83 : decode cX10_ages 83 = .ok (.invokevirtual 131, 3) := by decide +kernel
theorem dX10_ages_86 : decode cX10_ages 86 = .ok (.iinc 4 1, 3) := by decide +kernel
theorem dX10_ages_89 : decode cX10_ages 89 = .ok (.goto (-50), 3) := by decide +kernel
theorem dX10_ages_3 : decode cX10_ages 3 = .ok (.iload 4, 2) := by decide +kernel
theorem dX10_ages_5 : decode cX10_ages 5 = .ok (.aload_n 0, 1) := by decide +kernel
theorem dX10_ages_6 : decode cX10_ages 6 = .ok (.iload_n 1, 1) := by decide +kernel
theorem dX10_ages_7 : decode cX10_ages 7 = .ok (.iload_n 2, 1) := by decide +kernel
theorem dX10_ages_8 : decode cX10_ages 8 = .ok (.invokevirtual 121, 3) := by decide +kernel
theorem dX10_ages_11 : decode cX10_ages 11 = .ok (.if_icmp .ge 25, 3) := by decide +kernel
theorem dX10_ages_36 : decode cX10_ages 36 = .ok (.iconst 0, 1) := by decide +kernel
theorem dX10_ages_37 : decode cX10_ages 37 = .ok (.istore 4, 2) := by decide +kernel
theorem dX10_ages_14 : decode cX10_ages 14 = .ok (.aload_n 0, 1) := by decide +kernel
theorem dX10_ages_15 : decode cX10_ages 15 = .ok (.getfield 62, 3) := by decide +kernel
theorem dX10_ages_18 : decode cX10_ages 18 = .ok (.iload 4, 2) := by decide +kernel
theorem dX10_ages_20 : decode cX10_ages 20 = .ok (.aload_n 0, 1) := by decide +kernel
theorem dX10_ages_21 : decode cX10_ages 21 = .ok (.iload_n 1, 1) := by decide +kernel
theorem dX10_ages_22 : decode cX10_ages 22 = .ok (.iload_n 2, 1) := by decide +kernel
theorem dX10_ages_23 : decode cX10_ages 23 = .ok (.iload 4, 2) := by decide +kernel
theorem dX10_ages_25 : decode cX10_ages 25 = .ok (.iload_n 3, 1) := by decide +kernel
theorem dX10_ages_26 : decode cX10_ages 26 = .ok (.invokevirtual 192, 3) := by decide +kernel
theorem dX10_ages_29 : decode cX10_ages 29 = .ok (.iastore, 1) := by decide +kernel
theorem dX10_ages_30 : decode cX10_ages 30 = .ok (.iinc 4 1, 3) := by decide +kernel
theorem dX10_ages_33 : decode cX10_ages 33 = .ok (.goto (-30), 3) := by decide +kernel
theorem dX10_ages_0 : decode cX10_ages 0 = .ok (.iconst 0, 1) := by decide +kernel
theorem dX10_ages_1 : decode cX10_ages 1 = .ok (.istore 4, 2) := by decide +kernel
end
