set_option maxRecDepth 100000 in
set_option maxHeartbeats 4000000 in
theorem c_X9_needWhat (l : Launch) (D : va_G) (A : Nat → Prop) (cs : Nat → ClassId) (tt : Nat) (N : Nat) (ad : Nat → Nat) (g : Nat → va_E) (hl0 : l.stackTraces = false) (z w : Int) (hz : -2147483648 ≤ z ∧ z ≤ 2147483647) (hw : -2147483648 ≤ w ∧ w ≤ 2147483647) : zMX l yX9_needWhat cX9_needWhat 2 none ({ frames := 6, cells := 1, slots := 6, locals := 360 } : Room) D A cs tt N ad g [.int (zI z), .int (zI w)] (rV0 N ad fun g' => (0 ≤ z ∧ z ≤ w) ∧ g = g') (fun E N' ad' g' => E = eNS ∧ N' = N ∧ ad' = ad ∧ g' = g ∧ (z < 0 ∨ w < z)) := by
  refine z_ofX (by decide) (Nat.le_of_ble_eq_true rfl) ?_
  intro p e s m below meth c C hr hlk hxt
  refine z_lv (lv' := [(0, .int (zI (z))), (1, .int (zI (w)))]) [0, 1] rfl ?_
  refine z_iload_n C 0 dX9_needWhat_0 rfl ?_
  refine z_if_lt (tgt := 9) C dX9_needWhat_1 (by decide) (by omega) (fun h1 => ?_) (fun h1 => ?_)
  · exact z_thrNW (cls := eNS) (text := "no such thing to ask") C hl0 (ix := 13) (rx := nsB) ns0 ns1 ns2 ns5 (by decide +kernel) q_904 q_24 (by decide +kernel) at_NS gd_NS dX9_needWhat_9 dX9_needWhat_12 dX9_needWhat_13 dX9_needWhat_16 dX9_needWhat_19 hxt (by decide) (Nat.le_of_ble_eq_true rfl) (by decide) (by decide) hlk (by decide) (by decide) ⟨rfl, rfl, rfl, rfl, by omega⟩
  · refine z_iload_n C 0 dX9_needWhat_4 rfl ?_
    refine z_iload_n C 1 dX9_needWhat_5 rfl ?_
    refine z_icmp_le (tgt := 20) C dX9_needWhat_6 (by decide) (by omega) (by omega) (fun h2 => ?_) (fun h2 => ?_)
    · exact z_rX (z_vret C hr hlk dX9_needWhat_20 (by decide) (by decide) ⟨rfl, rfl, rfl, ⟨by omega, by omega⟩, rfl⟩)
    · exact z_thrNW (cls := eNS) (text := "no such thing to ask") C hl0 (ix := 13) (rx := nsB) ns0 ns1 ns2 ns5 (by decide +kernel) q_904 q_24 (by decide +kernel) at_NS gd_NS dX9_needWhat_9 dX9_needWhat_12 dX9_needWhat_13 dX9_needWhat_16 dX9_needWhat_19 hxt (by decide) (Nat.le_of_ble_eq_true rfl) (by decide) (by decide) hlk (by decide) (by decide) ⟨rfl, rfl, rfl, rfl, by omega⟩

set_option maxRecDepth 100000 in
set_option maxHeartbeats 4000000 in
theorem c_X6_keepAct (l : Launch) (D : va_G) (A : Nat → Prop) (cs : Nat → ClassId) (tt : Nat) (N : Nat) (ad : Nat → Nat) (g : Nat → va_E) (i : Nat) (hN : i + 436 ≤ N) (hS : isSt cs ad g i) : zM l yX6_keepAct cX6_keepAct 1 none ({ frames := 3, cells := 0, slots := 0, locals := 180 } : Room) D A cs tt N ad g [.ref (ad i)] (rV0 N ad fun g' => g' i = oC 8 [.ref (ad (i + 1)), .ref (ad (i + 11)), .int (zI 1), .ref (ad (i + 12)), .ref (ad (i + 13)), .ref (ad (i + 17))] ∧ ∀ j, j ≠ i → j < i + 18 ∨ i + 28 ≤ j → g' j = g j) := by
  obtain ⟨h1, h2, ⟨b1, h3, h4⟩, ⟨b2, h5, h6⟩, h7, h8, h9, h10⟩ := id hS
  have hb0 : b1 0 = some (ad (i + 18)) := h4 0 (by decide)
  have hw0 : isWorld cs ad g (i + 18) (fun _ => 0) (fun _ => 0) (fun _ => 0) (fun _ _ => 0) := h9 0 (by decide)
  have hay1 : zAt ad (i) (ad i) := rfl
  have hay2 : zAt ad (i + 11) (ad (i + 11)) := rfl
  have hay3 : zAt ad (i + 18) (ad (i + 18)) := rfl
  refine z_of (by decide) (Nat.le_of_ble_eq_true rfl) ?_
  intro p e s m below meth c C hr hlk hnm
  refine z_lv (lv' := [(0, .ref (ad i))]) [0] rfl ?_
  refine z_aload_n C 0 dX6_keepAct_0 rfl ?_
  refine z_get (v := .int (zI (0))) C (by omega) hay1 h1 rfl inA_X6 2 (by decide) q_260 rfl rfl dX6_keepAct_1 ?_
  refine z_bipush (z := 40) C dX6_keepAct_4 (by decide) ?_
  refine z_icmp_ne (tgt := 13) C dX6_keepAct_6 (by decide) (by omega) (by omega) (fun _ => ?_) (fun h => absurd h (by omega))
  refine z_aload_n C 0 dX6_keepAct_13 rfl ?_
  refine z_get (v := .ref (ad (i + 11))) C (by omega) hay1 h1 rfl inA_X6 1 (by decide) q_259 rfl rfl dX6_keepAct_14 ?_
  refine z_aload_n C 0 dX6_keepAct_17 rfl ?_
  refine z_get (v := .int (zI (0))) C (by omega) hay1 h1 rfl inA_X6 2 (by decide) q_260 rfl rfl dX6_keepAct_18 ?_
  refine z_aald C (by omega) hay2 h3 4 rfl (0) (by omega) (by omega) (by decide) hb0 dX6_keepAct_21 ?_
  refine z_aload_n C 0 dX6_keepAct_22 rfl ?_
  refine z_get (v := .ref (ad (i + 1))) C (by omega) hay1 h1 rfl inA_X6 0 (by decide) q_257 rfl rfl dX6_keepAct_23 ?_
  refine z_cV (As := [.ref (ad (i + 1))]) (rest := []) (ci := 10) C (c_X8_copyFrom l D A cs tt N ad _ (i + 18) (i + 1) (by omega) (by omega) _ _ _ _ _ _ _ _ hw0 h2) (by omega) hay3 hw0.1 rfl rfl mv_yX8_copyFrom q_420 hd_yX8_copyFrom (by decide) (Nat.le_of_ble_eq_true rfl) (by decide) dX6_keepAct_26 rfl (kV0 fun g1 hq1 => ?_)
  obtain ⟨hp1, hf1⟩ := hq1
  refine z_aload_n C 0 dX6_keepAct_29 rfl ?_
  refine z_dup C dX6_keepAct_30 rfl ?_
  have hgy4 := (hf1 (i) (by omega)).trans h1
  refine z_get (v := .int (zI (0))) C (by omega) hay1 hgy4 rfl inA_X6 2 (by decide) q_260 rfl rfl dX6_keepAct_31 ?_
  refine z_iconst (z := 1) C dX6_keepAct_34 rfl ?_
  refine z_iadd C dX6_keepAct_35 ?_
  refine z_put (fs' := [.ref (ad (i + 1)), .ref (ad (i + 11)), .int (zI (0 + 1)), .ref (ad (i + 12)), .ref (ad (i + 13)), .ref (ad (i + 17))]) C (by omega) hay1 hgy4 tyX6 tyX6_ok nmX6 rfl inA_X6 2 (by decide) q_260 rfl rfl rfl rfl (Nat.le_of_ble_eq_true rfl) rfl dX6_keepAct_36 (fun gy5 egy6 => ?_)
  have hgy7 := up_s egy6
  exact z_vret C hr hlk dX6_keepAct_39 (by decide) (by decide) ⟨rfl, rfl, rfl, hgy7, fun j h1 h2 => by rw [egy6, va_up_ne _ _ (by omega)]; rw [hf1 _ (by omega)]⟩

set_option maxRecDepth 100000 in
set_option maxHeartbeats 4000000 in
theorem c_X9_hours (l : Launch) (D : va_G) (A : Nat → Prop) (cs : Nat → ClassId) (tt : Nat) (N : Nat) (ad : Nat → Nat) (g : Nat → va_E) (i : Nat) (hN : i + 921 ≤ N) (hR : isRec cs ad g i) (z : Int) (hz : -2147483648 ≤ z ∧ z ≤ 2147483647) : zM l yX9_hours cX9_hours 3 (some .int) ({ frames := 4, cells := 0, slots := 0, locals := 240 } : Room) D A cs tt N ad g [.ref (ad i), .int (zI z)] (rI0 N ad fun r g' => r = (if 1 ≤ z ∧ z ≤ 24 then z else -1) ∧ oR i g g') := by
  obtain ⟨r1, r2, r3, r4, r5, r6, r7, r8, r9, r10, r11, r12⟩ := id hR
  have hay1 : zAt ad (i) (ad i) := rfl
  have hay2 : zAt ad (i + 4) (ad (i + 4)) := rfl
  have hay3 : zAt ad (i + 11) (ad (i + 11)) := rfl
  have hay4 : zAt ad (i + 11 + 1) (ad (i + 11 + 1)) := rfl
  refine z_of (by decide) (Nat.le_of_ble_eq_true rfl) ?_
  intro p e s m below meth c C hr hlk hnm
  refine z_lv (lv' := [(0, .ref (ad i)), (1, .int (zI (z)))]) [0, 1] rfl ?_
  refine z_iload_n C 1 dX9_hours_0 rfl ?_
  refine z_iconst (z := 1) C dX9_hours_1 rfl ?_
  refine z_icmp_lt (tgt := 29) C dX9_hours_2 (by decide) (by omega) (by omega) (fun hb1 => ?_) (fun hb1 => ?_)
  · refine z_aload_n C 0 dX9_hours_29 rfl ?_
    refine z_iconst (z := 1) C dX9_hours_30 rfl ?_
    refine z_cV (As := [.int (zI (1))]) (rest := []) (ci := 11) C (c_X9_refuse l D A cs tt N ad _ i hN hR 1 (by decide)) (by omega) hay1 r1 rfl rfl mv_yX9_refuse q_408 hd_yX9_refuse (by decide) (Nat.le_of_ble_eq_true rfl) (by decide) dX9_hours_31 rfl (kI0 fun r1x g1x h1x => ?_)
    obtain ⟨rfl, h1y⟩ := h1x
    exact z_iret C hr hlk dX9_hours_34 (by decide) (by decide) ⟨-1, rfl, rfl, rfl, by rw [if_neg (by omega)], h1y⟩
  · refine z_iload_n C 1 dX9_hours_5 rfl ?_
    refine z_bipush (z := 24) C dX9_hours_6 (by decide) ?_
    refine z_icmp_gt (tgt := 29) C dX9_hours_8 (by decide) (by omega) (by omega) (fun hb2 => ?_) (fun hb2 => ?_)
    · refine z_aload_n C 0 dX9_hours_29 rfl ?_
      refine z_iconst (z := 1) C dX9_hours_30 rfl ?_
      refine z_cV (As := [.int (zI (1))]) (rest := []) (ci := 11) C (c_X9_refuse l D A cs tt N ad _ i hN hR 1 (by decide)) (by omega) hay1 r1 rfl rfl mv_yX9_refuse q_408 hd_yX9_refuse (by decide) (Nat.le_of_ble_eq_true rfl) (by decide) dX9_hours_31 rfl (kI0 fun r1x g1x h1x => ?_)
      obtain ⟨rfl, h1y⟩ := h1x
      exact z_iret C hr hlk dX9_hours_34 (by decide) (by decide) ⟨-1, rfl, rfl, rfl, by rw [if_neg (by omega)], h1y⟩
    · refine z_aload_n C 0 dX9_hours_11 rfl ?_
      refine z_get (v := .ref (ad (i + 11))) C (by omega) hay1 r1 rfl inA_X9 5 (by decide) q_354 rfl rfl dX9_hours_12 ?_
      refine z_get (v := .ref (ad (i + 11 + 1))) C (by omega) hay3 r5.1 rfl inA_X6 0 (by decide) q_258 rfl rfl dX9_hours_15 ?_
      refine z_get (v := .int (zI (0))) C (by omega) hay4 r5.2.1.1 rfl inA_X8 0 (by decide) q_174 rfl rfl dX9_hours_18 ?_
      refine z_iload_n C 1 dX9_hours_21 rfl ?_
      refine z_iadd C dX9_hours_22 ?_
      refine z_sipush (z := 2000) C dX9_hours_23 (by decide) ?_
      refine z_icmp_le (tgt := 35) C dX9_hours_26 (by decide) (by omega) (by omega) (fun _ => ?_) (fun h => absurd h (by omega))
      refine z_aload_n C 0 dX9_hours_35 rfl ?_
      refine z_get (v := .ref (ad (i + 11))) C (by omega) hay1 r1 rfl inA_X9 5 (by decide) q_354 rfl rfl dX9_hours_36 ?_
      refine z_cV (As := []) (rest := []) (ci := 8) C (c_X6_keepAct l D A cs tt N ad _ (i + 11) (by omega) r5) (by omega) hay3 r5.1 rfl rfl mv_yX6_keepAct q_412 hd_yX6_keepAct (by decide) (Nat.le_of_ble_eq_true rfl) (by decide) dX9_hours_39 rfl (kV0 fun gk hk => ?_)
      obtain ⟨hk1, hk2⟩ := hk
      refine z_iconst (z := 0) C dX9_hours_42 rfl ?_
      refine z_istore_n (lv' := [(2, .int (zI (0))), (0, .ref (ad i)), (1, .int (zI (z)))]) C dX9_hours_43 rfl (by decide) rfl ?_
      have lp : ∀ (n kk : Nat) (g1 : Nat → va_E) , kk + n = z.toNat → (g1 i = recC ad i 0) → (g1 (i + 4) = oC 7 [.int (zI 0), .int (zI 0), .int (zI 0), .ref (ad (i + 4 + 1)), .ref (ad (i + 4 + 2)), .ref (ad (i + 4 + 3)), .ref (ad (i + 4 + 4)), .ref (ad (i + 4 + 5)), .ref (ad (i + 4 + 6))]) → (g1 (i + 11) = oC 8 [.ref (ad (i + 11 + 1)), .ref (ad (i + 11 + 11)), .int (zI 1), .ref (ad (i + 11 + 12)), .ref (ad (i + 11 + 13)), .ref (ad (i + 11 + 17))]) → (g1 (i + 11 + 1) = oC 10 [.int (zI (kk : Int)), .int (zI 0), .int (zI 0), .int (zI 0), .int (zI 0), .int (zI 0), .ref (ad (i + 11 + 1 + 1))]) → (oR i g g1) → zV p l e ({ frames := 4, cells := 0, slots := 0, locals := 240 } : Room) s m ([.ref (ad i), .int (zI z)] : List Value).toArray below meth c (MQ below (zPost D A (rI0 N ad fun r g' => r = (if 1 ≤ z ∧ z ≤ 24 then z else -1) ∧ oR i g g')) ([.ref (ad i), .int (zI z)] : List Value).toArray s ({ frames := 4, cells := 0, slots := 0, locals := 240 } : Room).cells ({ frames := 4, cells := 0, slots := 0, locals := 240 } : Room).slots A) D A 3 (N) ad g1 (0) (0) 44 [(2, .int (zI ((kk : Int)))), (0, .ref (ad i)), (1, .int (zI (z)))] [] := by
        intro n
        induction n with
        | zero =>
          intro kk g1  hkk f1 f2 f3 f4 f5
          have hay5 : zAt ad (i) (ad i) := rfl
          have hay6 : zAt ad (i + 4) (ad (i + 4)) := rfl
          have hay7 : zAt ad (i + 11) (ad (i + 11)) := rfl
          have hay8 : zAt ad (i + 11 + 1) (ad (i + 11 + 1)) := rfl
          refine z_iload_n C 0 dX9_hours_44 rfl ?_
          refine z_iload_n C 2 dX9_hours_45 rfl ?_
          refine z_icmp_ge (tgt := 77) C dX9_hours_46 (by decide) (by omega) (by omega) (fun _ => ?_) (fun h => absurd h (by omega))
          refine z_aload_n C 1 dX9_hours_77 rfl ?_
          refine z_get (v := .ref (ad (i + 11))) C (by omega) hay5 f1 rfl inA_X9 5 (by decide) q_354 rfl rfl dX9_hours_78 ?_
          refine z_get (v := .ref (ad (i + 11 + 1))) C (by omega) hay7 f3 rfl inA_X6 0 (by decide) q_258 rfl rfl dX9_hours_81 ?_
          refine z_get (v := .int (zI ((kk : Int)))) C (by omega) hay8 f4 rfl inA_X8 0 (by decide) q_174 rfl rfl dX9_hours_84 ?_
          exact z_iret C hr hlk dX9_hours_87 (by decide) (by decide) ⟨(kk : Int), rfl, rfl, rfl, by rw [if_pos (by omega)]; omega, f5⟩
        | succ n ih =>
          intro kk g1  hkk f1 f2 f3 f4 f5
          have hay9 : zAt ad (i) (ad i) := rfl
          have hay10 : zAt ad (i + 4) (ad (i + 4)) := rfl
          have hay11 : zAt ad (i + 11) (ad (i + 11)) := rfl
          have hay12 : zAt ad (i + 11 + 1) (ad (i + 11 + 1)) := rfl
          refine z_iload_n C 0 dX9_hours_44 rfl ?_
          refine z_iload_n C 2 dX9_hours_45 rfl ?_
          refine z_icmp_ge (tgt := 77) C dX9_hours_46 (by decide) (by omega) (by omega) (fun h => absurd h (by omega)) (fun _ => ?_)
          refine z_aload_n C 1 dX9_hours_49 rfl ?_
          refine z_get (v := .ref (ad (i + 11))) C (by omega) hay9 f1 rfl inA_X9 5 (by decide) q_354 rfl rfl dX9_hours_50 ?_
          refine z_get (v := .ref (ad (i + 11 + 1))) C (by omega) hay11 f3 rfl inA_X6 0 (by decide) q_258 rfl rfl dX9_hours_53 ?_
          refine z_aload_n C 1 dX9_hours_56 rfl ?_
          refine z_get (v := .ref (ad (i + 4))) C (by omega) hay9 f1 rfl inA_X9 4 (by decide) q_353 rfl rfl dX9_hours_57 ?_
          refine z_aload_n C 1 dX9_hours_60 rfl ?_
          refine z_get (v := .ref (ad (i + 4))) C (by omega) hay9 f1 rfl inA_X9 4 (by decide) q_353 rfl rfl dX9_hours_61 ?_
          refine z_cV (As := []) (rest := [.ref (ad (i + 4)), .ref (ad (i + 11 + 1))]) (ci := 7) C (c_X5_allSlopes0 l D A cs tt N ad _ (i + 4) (by omega) f2) (by omega) hay10 f2 rfl rfl mv_yX5_allSlopes q_431 hd_yX5_allSlopes (by decide) (Nat.le_of_ble_eq_true rfl) (by decide) dX9_hours_64 rfl (kI0 fun ra ga ha => ?_)
          obtain ⟨rfl, rfl⟩ := ha
          refine z_iconst (z := 1) C dX9_hours_67 rfl ?_
          refine z_cV (As := [.ref (ad (i + 4)), .int (zI (0)), .int (zI (1))]) (rest := []) (ci := 10) C (c_X8_hour0 l D A cs tt N ad _ (i + 11 + 1) (i + 4) (by omega) (by omega) (kk : Int) 0 0 0 0 0 (ad (i + 11 + 1 + 1)) f4 f2 0) (by omega) hay12 f4 rfl rfl mv_yX8_hour q_435 hd_yX8_hour (by decide) (Nat.le_of_ble_eq_true rfl) (by decide) dX9_hours_68 rfl (kV0 fun gh hh => ?_)
          obtain ⟨hh1, hh2⟩ := hh
          refine z_iinc (z := ((kk + 1 : Nat) : Int)) (lv' := [(2, .int (zI (((kk + 1 : Nat) : Int)))), (0, .ref (ad i)), (1, .int (zI (z)))]) (j := 0) C dX9_hours_71 rfl (congrArg zI (by omega)) (by decide) rfl ?_
          refine z_goto (tgt := 44) C dX9_hours_74 (by decide) ?_
          exact ih (kk + 1) gh (by omega) ((hh2 _ (by omega)).trans f1) ((hh2 _ (by omega)).trans f2) ((hh2 _ (by omega)).trans f3) (by rw [show (((kk + 1 : Nat) : Int)) = (kk : Int) + 1 by omega]; exact hh1) (fun j h => (hh2 j (by omega)).trans (f5 j h))
      refine z_lv (lv' := [(2, .int (zI (((0 : Nat) : Int)))), (0, .ref (ad i)), (1, .int (zI (z)))]) [0, 1, 2] rfl ?_
      exact lp z.toNat 0 gk  (by omega) ((hk2 _ (by omega) (by omega)).trans r1) ((hk2 _ (by omega) (by omega)).trans r4.1) hk1 ((hk2 _ (by omega) (by omega)).trans r5.2.1.1) (fun j h => hk2 j (by omega) (by omega))

set_option maxRecDepth 100000 in
set_option maxHeartbeats 4000000 in
theorem c_X3_clear (l : Launch) (D : va_G) (A : Nat → Prop) (cs : Nat → ClassId) (tt : Nat) (N : Nat) (ad : Nat → Nat) (g : Nat → va_E) (a : Nat) (hN : a + 2 ≤ N) (sz ro : Int) (r : Nat → Int) (ha : isPack cs ad g a sz ro r) : zM l yX3_clear cX3_clear 1 none ({ frames := 1, cells := 0, slots := 0, locals := 60 } : Room) D A cs tt N ad g [.ref (ad a)] (rV0 N ad fun g' => isPack cs ad g' a 0 0 r ∧ ∀ j, j ≠ a → g' j = g j) := by
  have hay1 : zAt ad (a) (ad a) := rfl
  have hay2 : zAt ad (a + 1) (ad (a + 1)) := rfl
  refine z_of (by decide) (Nat.le_of_ble_eq_true rfl) ?_
  intro p e s m below meth c C hr hlk hnm
  refine z_lv (lv' := [(0, .ref (ad a))]) [0] rfl ?_
  refine z_aload_n C 0 dX3_clear_0 rfl ?_
  refine z_iconst (z := 0) C dX3_clear_1 rfl ?_
  refine z_put (fs' := [.int (zI (0)), .int (zI (ro)), .ref (ad (a + 1))]) C (by omega) hay1 ha.1 tyX3 tyX3_ok nmX3 rfl inA_X3 0 (by decide) q_154 rfl rfl rfl rfl (Nat.le_of_ble_eq_true rfl) rfl dX3_clear_2 (fun gy3 egy4 => ?_)
  have hgy5 := up_s egy4
  refine z_aload_n C 0 dX3_clear_5 rfl ?_
  refine z_iconst (z := 0) C dX3_clear_6 rfl ?_
  refine z_put (fs' := [.int (zI (0)), .int (zI (0)), .ref (ad (a + 1))]) C (by omega) hay1 hgy5 tyX3 tyX3_ok nmX3 rfl inA_X3 1 (by decide) q_159 rfl rfl rfl rfl (Nat.le_of_ble_eq_true rfl) rfl dX3_clear_7 (fun gy6 egy7 => ?_)
  have hgy8 := up_s egy7
  have hgy9 := up_n egy4 ha.2 (ne_o (i := a) (c := 1) (d := 0) rfl)
  have hgy10 := up_n egy7 hgy9 (ne_o (i := a) (c := 1) (d := 0) rfl)
  exact z_vret C hr hlk dX3_clear_10 (by decide) (by decide) ⟨rfl, rfl, rfl, ⟨hgy8, hgy10⟩, fun j h1 => by rw [egy7, va_up_ne _ _ (by omega)]; rw [egy4, va_up_ne _ _ (by omega)]⟩

set_option maxRecDepth 100000 in
set_option maxHeartbeats 4000000 in
theorem c_X8_clear (l : Launch) (D : va_G) (A : Nat → Prop) (cs : Nat → ClassId) (tt : Nat) (N : Nat) (ad : Nat → Nat) (g : Nat → va_E) (a : Nat) (hN : a + 10 ≤ N) (ha : isWorld cs ad g a (fun _ => 0) (fun _ => 0) (fun _ => 0) (fun _ _ => 0)) : zM l yX8_clear cX8_clear 2 none ({ frames := 2, cells := 0, slots := 0, locals := 120 } : Room) D A cs tt N ad g [.ref (ad a)] (rV0 N ad fun g' => isWorld cs ad g' a (fun _ => 0) (fun _ => 0) (fun _ => 0) (fun _ _ => 0) ∧ ∀ j, j < a ∨ a + 10 ≤ j → g' j = g j) := by
  obtain ⟨u1, ⟨ua, u2, u3⟩, u4⟩ := id ha
  have hay1 : zAt ad (a) (ad a) := rfl
  have hay2 : zAt ad (a + 1) (ad (a + 1)) := rfl
  have up0 : isPack cs ad g (a + 2) 0 0 (fun _ => 0) := u4 0 (by decide)
  have uq0 : ua 0 = some (ad (a + 2)) := u3 0 (by decide)
  have hay3 : zAt ad (a + 2) (ad (a + 2)) := rfl
  have hay4 : zAt ad (a + 2 + 1) (ad (a + 2 + 1)) := rfl
  have up1 : isPack cs ad g (a + 4) 0 0 (fun _ => 0) := u4 1 (by decide)
  have uq1 : ua 1 = some (ad (a + 4)) := u3 1 (by decide)
  have hay5 : zAt ad (a + 4) (ad (a + 4)) := rfl
  have hay6 : zAt ad (a + 4 + 1) (ad (a + 4 + 1)) := rfl
  have up2 : isPack cs ad g (a + 6) 0 0 (fun _ => 0) := u4 2 (by decide)
  have uq2 : ua 2 = some (ad (a + 6)) := u3 2 (by decide)
  have hay7 : zAt ad (a + 6) (ad (a + 6)) := rfl
  have hay8 : zAt ad (a + 6 + 1) (ad (a + 6 + 1)) := rfl
  have up3 : isPack cs ad g (a + 8) 0 0 (fun _ => 0) := u4 3 (by decide)
  have uq3 : ua 3 = some (ad (a + 8)) := u3 3 (by decide)
  have hay9 : zAt ad (a + 8) (ad (a + 8)) := rfl
  have hay10 : zAt ad (a + 8 + 1) (ad (a + 8 + 1)) := rfl
  refine z_of (by decide) (Nat.le_of_ble_eq_true rfl) ?_
  intro p e s m below meth c C hr hlk hnm
  refine z_lv (lv' := [(0, .ref (ad a))]) [0] rfl ?_
  refine z_aload_n C 0 dX8_clear_0 rfl ?_
  refine z_iconst (z := 0) C dX8_clear_1 rfl ?_
  refine z_put (fs' := [.int (zI (0)), .int (zI (0)), .int (zI (0)), .int (zI (0)), .int (zI (0)), .int (zI (0)), .ref (ad (a + 1))]) C (by omega) hay1 u1 tyX8 tyX8_ok nmX8 rfl inA_X8 0 (by decide) q_173 rfl rfl rfl rfl (Nat.le_of_ble_eq_true rfl) rfl dX8_clear_2 (fun gy11 egy12 => ?_)
  have hgy13 := up_s egy12
  refine z_aload_n C 0 dX8_clear_5 rfl ?_
  refine z_iconst (z := 0) C dX8_clear_6 rfl ?_
  refine z_put (fs' := [.int (zI (0)), .int (zI (0)), .int (zI (0)), .int (zI (0)), .int (zI (0)), .int (zI (0)), .ref (ad (a + 1))]) C (by omega) hay1 hgy13 tyX8 tyX8_ok nmX8 rfl inA_X8 1 (by decide) q_176 rfl rfl rfl rfl (Nat.le_of_ble_eq_true rfl) rfl dX8_clear_7 (fun gy14 egy15 => ?_)
  have hgy16 := up_s egy15
  refine z_aload_n C 0 dX8_clear_10 rfl ?_
  refine z_iconst (z := 0) C dX8_clear_11 rfl ?_
  refine z_put (fs' := [.int (zI (0)), .int (zI (0)), .int (zI (0)), .int (zI (0)), .int (zI (0)), .int (zI (0)), .ref (ad (a + 1))]) C (by omega) hay1 hgy16 tyX8 tyX8_ok nmX8 rfl inA_X8 2 (by decide) q_179 rfl rfl rfl rfl (Nat.le_of_ble_eq_true rfl) rfl dX8_clear_12 (fun gy17 egy18 => ?_)
  have hgy19 := up_s egy18
  refine z_aload_n C 0 dX8_clear_15 rfl ?_
  refine z_iconst (z := 0) C dX8_clear_16 rfl ?_
  refine z_put (fs' := [.int (zI (0)), .int (zI (0)), .int (zI (0)), .int (zI (0)), .int (zI (0)), .int (zI (0)), .ref (ad (a + 1))]) C (by omega) hay1 hgy19 tyX8 tyX8_ok nmX8 rfl inA_X8 3 (by decide) q_181 rfl rfl rfl rfl (Nat.le_of_ble_eq_true rfl) rfl dX8_clear_17 (fun gy20 egy21 => ?_)
  have hgy22 := up_s egy21
  refine z_aload_n C 0 dX8_clear_20 rfl ?_
  refine z_iconst (z := 0) C dX8_clear_21 rfl ?_
  refine z_put (fs' := [.int (zI (0)), .int (zI (0)), .int (zI (0)), .int (zI (0)), .int (zI (0)), .int (zI (0)), .ref (ad (a + 1))]) C (by omega) hay1 hgy22 tyX8 tyX8_ok nmX8 rfl inA_X8 4 (by decide) q_183 rfl rfl rfl rfl (Nat.le_of_ble_eq_true rfl) rfl dX8_clear_22 (fun gy23 egy24 => ?_)
  have hgy25 := up_s egy24
  refine z_aload_n C 0 dX8_clear_25 rfl ?_
  refine z_iconst (z := 0) C dX8_clear_26 rfl ?_
  refine z_put (fs' := [.int (zI (0)), .int (zI (0)), .int (zI (0)), .int (zI (0)), .int (zI (0)), .int (zI (0)), .ref (ad (a + 1))]) C (by omega) hay1 hgy25 tyX8 tyX8_ok nmX8 rfl inA_X8 5 (by decide) q_185 rfl rfl rfl rfl (Nat.le_of_ble_eq_true rfl) rfl dX8_clear_27 (fun gy26 egy27 => ?_)
  have hgy28 := up_s egy27
  refine z_iconst (z := 0) C dX8_clear_30 rfl ?_
  refine z_istore_n (lv' := [(1, .int (zI (0))), (0, .ref (ad a))]) C dX8_clear_31 rfl (by decide) rfl ?_
  refine z_iload_n C 0 dX8_clear_32 rfl ?_
  refine z_aload_n C 1 dX8_clear_33 rfl ?_
  refine z_get (v := .ref (ad (a + 1))) C (by omega) hay1 hgy28 rfl inA_X8 6 (by decide) q_188 rfl rfl dX8_clear_34 ?_
  have hgy29 := up_n egy12 u2 (ne_o (i := a) (c := 1) (d := 0) rfl)
  have hgy30 := up_n egy15 hgy29 (ne_o (i := a) (c := 1) (d := 0) rfl)
  have hgy31 := up_n egy18 hgy30 (ne_o (i := a) (c := 1) (d := 0) rfl)
  have hgy32 := up_n egy21 hgy31 (ne_o (i := a) (c := 1) (d := 0) rfl)
  have hgy33 := up_n egy24 hgy32 (ne_o (i := a) (c := 1) (d := 0) rfl)
  have hgy34 := up_n egy27 hgy33 (ne_o (i := a) (c := 1) (d := 0) rfl)
  refine z_alen (z := 4) C (by omega) hay2 hgy34 3 rfl rfl dX8_clear_37 ?_
  refine z_icmp_ge (tgt := 56) C dX8_clear_38 (by decide) (by omega) (by omega) (fun h => absurd h (by omega)) (fun _ => ?_)
  refine z_aload_n C 1 dX8_clear_41 rfl ?_
  refine z_get (v := .ref (ad (a + 1))) C (by omega) hay1 hgy28 rfl inA_X8 6 (by decide) q_188 rfl rfl dX8_clear_42 ?_
  refine z_iload_n C 0 dX8_clear_45 rfl ?_
  refine z_aald C (by omega) hay2 hgy34 3 rfl (0) (by omega) (by omega) (by decide) uq0 dX8_clear_46 ?_
  have hpy35 := isPack.mv (ad' := ad) (g' := gy26) (fun j h1 h2 => by rfl) (fun j h1 h2 => by rw [egy27, va_up_ne _ _ (by omega)]; rw [egy24, va_up_ne _ _ (by omega)]; rw [egy21, va_up_ne _ _ (by omega)]; rw [egy18, va_up_ne _ _ (by omega)]; rw [egy15, va_up_ne _ _ (by omega)]; rw [egy12, va_up_ne _ _ (by omega)]) up0
  refine z_cV (As := []) (rest := []) (ci := 5) C (c_X3_clear l D A cs tt N ad _ (a + 2) (by omega) _ _ _ hpy35) (by omega) hay3 hpy35.1 rfl rfl mv_yX3_clear q_738 hd_yX3_clear (by decide) (Nat.le_of_ble_eq_true rfl) (by decide) dX8_clear_47 rfl (kV0 fun gc0 hc0 => ?_)
  obtain ⟨hcp0, hcf0⟩ := hc0
  refine z_iinc (z := 1) (lv' := [(1, .int (zI (1))), (0, .ref (ad a))]) (j := 0) C dX8_clear_50 rfl (congrArg zI (by omega)) (by decide) rfl ?_
  refine z_goto (tgt := 32) C dX8_clear_53 (by decide) ?_
  refine z_iload_n C 0 dX8_clear_32 rfl ?_
  refine z_aload_n C 1 dX8_clear_33 rfl ?_
  have hgy36 := (hcf0 (a) (ne_o (i := a) (c := 0) (d := 2) rfl)).trans hgy28
  refine z_get (v := .ref (ad (a + 1))) C (by omega) hay1 hgy36 rfl inA_X8 6 (by decide) q_188 rfl rfl dX8_clear_34 ?_
  have hgy37 := (hcf0 (a + 1) (ne_o (i := a) (c := 1) (d := 2) rfl)).trans hgy34
  refine z_alen (z := 4) C (by omega) hay2 hgy37 3 rfl rfl dX8_clear_37 ?_
  refine z_icmp_ge (tgt := 56) C dX8_clear_38 (by decide) (by omega) (by omega) (fun h => absurd h (by omega)) (fun _ => ?_)
  refine z_aload_n C 1 dX8_clear_41 rfl ?_
  refine z_get (v := .ref (ad (a + 1))) C (by omega) hay1 hgy36 rfl inA_X8 6 (by decide) q_188 rfl rfl dX8_clear_42 ?_
  refine z_iload_n C 0 dX8_clear_45 rfl ?_
  refine z_aald C (by omega) hay2 hgy37 3 rfl (1) (by omega) (by omega) (by decide) uq1 dX8_clear_46 ?_
  have hpy38 := isPack.mv (ad' := ad) (g' := gc0) (fun j h1 h2 => by rfl) (fun j h1 h2 => by rw [hcf0 _ (by omega)]; rw [egy27, va_up_ne _ _ (by omega)]; rw [egy24, va_up_ne _ _ (by omega)]; rw [egy21, va_up_ne _ _ (by omega)]; rw [egy18, va_up_ne _ _ (by omega)]; rw [egy15, va_up_ne _ _ (by omega)]; rw [egy12, va_up_ne _ _ (by omega)]) up1
  refine z_cV (As := []) (rest := []) (ci := 5) C (c_X3_clear l D A cs tt N ad _ (a + 4) (by omega) _ _ _ hpy38) (by omega) hay5 hpy38.1 rfl rfl mv_yX3_clear q_738 hd_yX3_clear (by decide) (Nat.le_of_ble_eq_true rfl) (by decide) dX8_clear_47 rfl (kV0 fun gc1 hc1 => ?_)
  obtain ⟨hcp1, hcf1⟩ := hc1
  refine z_iinc (z := 2) (lv' := [(1, .int (zI (2))), (0, .ref (ad a))]) (j := 0) C dX8_clear_50 rfl (congrArg zI (by omega)) (by decide) rfl ?_
  refine z_goto (tgt := 32) C dX8_clear_53 (by decide) ?_
  refine z_iload_n C 0 dX8_clear_32 rfl ?_
  refine z_aload_n C 1 dX8_clear_33 rfl ?_
  have hgy39 := (hcf1 (a) (ne_o (i := a) (c := 0) (d := 4) rfl)).trans hgy36
  refine z_get (v := .ref (ad (a + 1))) C (by omega) hay1 hgy39 rfl inA_X8 6 (by decide) q_188 rfl rfl dX8_clear_34 ?_
  have hgy40 := (hcf1 (a + 1) (ne_o (i := a) (c := 1) (d := 4) rfl)).trans hgy37
  refine z_alen (z := 4) C (by omega) hay2 hgy40 3 rfl rfl dX8_clear_37 ?_
  refine z_icmp_ge (tgt := 56) C dX8_clear_38 (by decide) (by omega) (by omega) (fun h => absurd h (by omega)) (fun _ => ?_)
  refine z_aload_n C 1 dX8_clear_41 rfl ?_
  refine z_get (v := .ref (ad (a + 1))) C (by omega) hay1 hgy39 rfl inA_X8 6 (by decide) q_188 rfl rfl dX8_clear_42 ?_
  refine z_iload_n C 0 dX8_clear_45 rfl ?_
  refine z_aald C (by omega) hay2 hgy40 3 rfl (2) (by omega) (by omega) (by decide) uq2 dX8_clear_46 ?_
  have hpy41 := isPack.mv (ad' := ad) (g' := gc1) (fun j h1 h2 => by rfl) (fun j h1 h2 => by rw [hcf1 _ (by omega)]; rw [hcf0 _ (by omega)]; rw [egy27, va_up_ne _ _ (by omega)]; rw [egy24, va_up_ne _ _ (by omega)]; rw [egy21, va_up_ne _ _ (by omega)]; rw [egy18, va_up_ne _ _ (by omega)]; rw [egy15, va_up_ne _ _ (by omega)]; rw [egy12, va_up_ne _ _ (by omega)]) up2
  refine z_cV (As := []) (rest := []) (ci := 5) C (c_X3_clear l D A cs tt N ad _ (a + 6) (by omega) _ _ _ hpy41) (by omega) hay7 hpy41.1 rfl rfl mv_yX3_clear q_738 hd_yX3_clear (by decide) (Nat.le_of_ble_eq_true rfl) (by decide) dX8_clear_47 rfl (kV0 fun gc2 hc2 => ?_)
  obtain ⟨hcp2, hcf2⟩ := hc2
  refine z_iinc (z := 3) (lv' := [(1, .int (zI (3))), (0, .ref (ad a))]) (j := 0) C dX8_clear_50 rfl (congrArg zI (by omega)) (by decide) rfl ?_
  refine z_goto (tgt := 32) C dX8_clear_53 (by decide) ?_
  refine z_iload_n C 0 dX8_clear_32 rfl ?_
  refine z_aload_n C 1 dX8_clear_33 rfl ?_
  have hgy42 := (hcf2 (a) (ne_o (i := a) (c := 0) (d := 6) rfl)).trans hgy39
  refine z_get (v := .ref (ad (a + 1))) C (by omega) hay1 hgy42 rfl inA_X8 6 (by decide) q_188 rfl rfl dX8_clear_34 ?_
  have hgy43 := (hcf2 (a + 1) (ne_o (i := a) (c := 1) (d := 6) rfl)).trans hgy40
  refine z_alen (z := 4) C (by omega) hay2 hgy43 3 rfl rfl dX8_clear_37 ?_
  refine z_icmp_ge (tgt := 56) C dX8_clear_38 (by decide) (by omega) (by omega) (fun h => absurd h (by omega)) (fun _ => ?_)
  refine z_aload_n C 1 dX8_clear_41 rfl ?_
  refine z_get (v := .ref (ad (a + 1))) C (by omega) hay1 hgy42 rfl inA_X8 6 (by decide) q_188 rfl rfl dX8_clear_42 ?_
  refine z_iload_n C 0 dX8_clear_45 rfl ?_
  refine z_aald C (by omega) hay2 hgy43 3 rfl (3) (by omega) (by omega) (by decide) uq3 dX8_clear_46 ?_
  have hpy44 := isPack.mv (ad' := ad) (g' := gc2) (fun j h1 h2 => by rfl) (fun j h1 h2 => by rw [hcf2 _ (by omega)]; rw [hcf1 _ (by omega)]; rw [hcf0 _ (by omega)]; rw [egy27, va_up_ne _ _ (by omega)]; rw [egy24, va_up_ne _ _ (by omega)]; rw [egy21, va_up_ne _ _ (by omega)]; rw [egy18, va_up_ne _ _ (by omega)]; rw [egy15, va_up_ne _ _ (by omega)]; rw [egy12, va_up_ne _ _ (by omega)]) up3
  refine z_cV (As := []) (rest := []) (ci := 5) C (c_X3_clear l D A cs tt N ad _ (a + 8) (by omega) _ _ _ hpy44) (by omega) hay9 hpy44.1 rfl rfl mv_yX3_clear q_738 hd_yX3_clear (by decide) (Nat.le_of_ble_eq_true rfl) (by decide) dX8_clear_47 rfl (kV0 fun gc3 hc3 => ?_)
  obtain ⟨hcp3, hcf3⟩ := hc3
  refine z_iinc (z := 4) (lv' := [(1, .int (zI (4))), (0, .ref (ad a))]) (j := 0) C dX8_clear_50 rfl (congrArg zI (by omega)) (by decide) rfl ?_
  refine z_goto (tgt := 32) C dX8_clear_53 (by decide) ?_
  refine z_iload_n C 0 dX8_clear_32 rfl ?_
  refine z_aload_n C 1 dX8_clear_33 rfl ?_
  have hgy45 := (hcf3 (a) (ne_o (i := a) (c := 0) (d := 8) rfl)).trans hgy42
  refine z_get (v := .ref (ad (a + 1))) C (by omega) hay1 hgy45 rfl inA_X8 6 (by decide) q_188 rfl rfl dX8_clear_34 ?_
  have hgy46 := (hcf3 (a + 1) (ne_o (i := a) (c := 1) (d := 8) rfl)).trans hgy43
  refine z_alen (z := 4) C (by omega) hay2 hgy46 3 rfl rfl dX8_clear_37 ?_
  refine z_icmp_ge (tgt := 56) C dX8_clear_38 (by decide) (by omega) (by omega) (fun _ => ?_) (fun h => absurd h (by omega))
  have hpy47 := isPack.mv (ad' := ad) (g' := gc3) (fun j h1 h2 => by rfl) (fun j h1 h2 => by rw [hcf3 _ (by omega)]; rw [hcf2 _ (by omega)]; rw [hcf1 _ (by omega)]) hcp0
  have hpy48 := isPack.mv (ad' := ad) (g' := gc3) (fun j h1 h2 => by rfl) (fun j h1 h2 => by rw [hcf3 _ (by omega)]; rw [hcf2 _ (by omega)]) hcp1
  have hpy49 := isPack.mv (ad' := ad) (g' := gc3) (fun j h1 h2 => by rfl) (fun j h1 h2 => by rw [hcf3 _ (by omega)]) hcp2
  have hp4 : ∀ k, k < 4 → isPack cs ad gc3 (a + 2 + 2 * k) 0 0 (fun _ => 0) := by
    intro k hk
    rcases (show k = 0 ∨ k = 1 ∨ k = 2 ∨ k = 3 by omega) with rfl | rfl | rfl | rfl
    · exact hpy47
    · exact hpy48
    · exact hpy49
    · exact hcp3
  exact z_vret C hr hlk dX8_clear_56 (by decide) (by decide) ⟨rfl, rfl, rfl, ⟨hgy45, ⟨_, hgy46, u3⟩, hp4⟩, fun j h1 => by rw [hcf3 _ (by omega)]; rw [hcf2 _ (by omega)]; rw [hcf1 _ (by omega)]; rw [hcf0 _ (by omega)]; rw [egy27, va_up_ne _ _ (by omega)]; rw [egy24, va_up_ne _ _ (by omega)]; rw [egy21, va_up_ne _ _ (by omega)]; rw [egy18, va_up_ne _ _ (by omega)]; rw [egy15, va_up_ne _ _ (by omega)]; rw [egy12, va_up_ne _ _ (by omega)]⟩

set_option maxRecDepth 100000 in
set_option maxHeartbeats 4000000 in
theorem c_X5_clear (l : Launch) (D : va_G) (A : Nat → Prop) (cs : Nat → ClassId) (tt : Nat) (N : Nat) (ad : Nat → Nat) (g : Nat → va_E) (b : Nat) (hN : b + 7 ≤ N) (hb : isPlan cs ad g b 0 0 0 (fun _ => 0) (fun _ => 0) (fun _ => 0) (fun _ => 0) (fun _ => 0) tabZ) : zM l yX5_clear cX5_clear 1 none ({ frames := 1, cells := 0, slots := 0, locals := 60 } : Room) D A cs tt N ad g [.ref (ad b)] (rV0 N ad fun g' => isPlan cs ad g' b 0 0 0 (fun _ => 0) (fun _ => 0) (fun _ => 0) (fun _ => 0) (fun _ => 0) tabZ ∧ ∀ j, j < b ∨ b + 7 ≤ j → g' j = g j) := by
  obtain ⟨k1, k2, k3, k4, k5, k6, k7⟩ := id hb
  have hay1 : zAt ad (b) (ad b) := rfl
  have hay2 : zAt ad (b + 6) (ad (b + 6)) := rfl
  refine z_of (by decide) (Nat.le_of_ble_eq_true rfl) ?_
  intro p e s m below meth c C hr hlk hnm
  refine z_lv (lv' := [(0, .ref (ad b))]) [0] rfl ?_
  refine z_aload_n C 0 dX5_clear_0 rfl ?_
  refine z_iconst (z := 0) C dX5_clear_1 rfl ?_
  refine z_put (fs' := [.int (zI (0)), .int (zI (0)), .int (zI (0)), .ref (ad (b + 1)), .ref (ad (b + 2)), .ref (ad (b + 3)), .ref (ad (b + 4)), .ref (ad (b + 5)), .ref (ad (b + 6))]) C (by omega) hay1 k1 tyX5 tyX5_ok nmX5 rfl inA_X5 0 (by decide) q_88 rfl rfl rfl rfl (Nat.le_of_ble_eq_true rfl) rfl dX5_clear_2 (fun gy3 egy4 => ?_)
  have hgy5 := up_s egy4
  refine z_aload_n C 0 dX5_clear_5 rfl ?_
  refine z_iconst (z := 0) C dX5_clear_6 rfl ?_
  refine z_put (fs' := [.int (zI (0)), .int (zI (0)), .int (zI (0)), .ref (ad (b + 1)), .ref (ad (b + 2)), .ref (ad (b + 3)), .ref (ad (b + 4)), .ref (ad (b + 5)), .ref (ad (b + 6))]) C (by omega) hay1 hgy5 tyX5 tyX5_ok nmX5 rfl inA_X5 1 (by decide) q_92 rfl rfl rfl rfl (Nat.le_of_ble_eq_true rfl) rfl dX5_clear_7 (fun gy6 egy7 => ?_)
  have hgy8 := up_s egy7
  refine z_aload_n C 0 dX5_clear_10 rfl ?_
  refine z_iconst (z := 0) C dX5_clear_11 rfl ?_
  refine z_put (fs' := [.int (zI (0)), .int (zI (0)), .int (zI (0)), .ref (ad (b + 1)), .ref (ad (b + 2)), .ref (ad (b + 3)), .ref (ad (b + 4)), .ref (ad (b + 5)), .ref (ad (b + 6))]) C (by omega) hay1 hgy8 tyX5 tyX5_ok nmX5 rfl inA_X5 2 (by decide) q_95 rfl rfl rfl rfl (Nat.le_of_ble_eq_true rfl) rfl dX5_clear_12 (fun gy9 egy10 => ?_)
  have hgy11 := up_s egy10
  refine z_getT C n_79 dX5_clear_15 ?_
  refine z_iconst (z := 0) C dX5_clear_18 rfl ?_
  refine z_aload_n C 0 dX5_clear_19 rfl ?_
  refine z_get (v := .ref (ad (b + 6))) C (by omega) hay1 hgy11 rfl inA_X5 8 (by decide) q_113 rfl rfl dX5_clear_20 ?_
  refine z_iconst (z := 0) C dX5_clear_23 rfl ?_
  refine z_aload_n C 0 dX5_clear_24 rfl ?_
  refine z_get (v := .ref (ad (b + 6))) C (by omega) hay1 hgy11 rfl inA_X5 8 (by decide) q_113 rfl rfl dX5_clear_25 ?_
  have hgy12 := up_n egy4 k7 (ne_o (i := b) (c := 6) (d := 0) rfl)
  have hgy13 := up_n egy7 hgy12 (ne_o (i := b) (c := 6) (d := 0) rfl)
  have hgy14 := up_n egy10 hgy13 (ne_o (i := b) (c := 6) (d := 0) rfl)
  refine z_alen (z := 15) C (by omega) hay2 hgy14 1 rfl rfl dX5_clear_28 ?_
  refine z_copyT C q_733 q_430 q_429 q_21 (by omega) hay2 hgy14 (by decide) (Nat.le_of_ble_eq_true rfl) dX5_clear_29 (fun gy15 egy16 => ?_)
  have hgy17 := up_s egy16
  refine z_ext (r' := tabZ) (by omega) hgy17 (fun j hj => cZ_all hj) (fun gy18 egy19 => ?_)
  have hgy20 := up_s egy19
  have hay21 : zAt ad (b + 1) (ad (b + 1)) := rfl
  have hgy22 := up_n egy16 hgy11 (ne_o (i := b) (c := 0) (d := 6) rfl)
  have hgy23 := up_n egy19 hgy22 (ne_o (i := b) (c := 0) (d := 6) rfl)
  have hgy24 := up_n egy4 k2 (ne_o (i := b) (c := 1) (d := 0) rfl)
  have hgy25 := up_n egy7 hgy24 (ne_o (i := b) (c := 1) (d := 0) rfl)
  have hgy26 := up_n egy10 hgy25 (ne_o (i := b) (c := 1) (d := 0) rfl)
  have hgy27 := up_n egy16 hgy26 (ne_o (i := b) (c := 1) (d := 6) rfl)
  have hgy28 := up_n egy19 hgy27 (ne_o (i := b) (c := 1) (d := 6) rfl)
  have hgy29 := up_n egy4 k3 (ne_o (i := b) (c := 2) (d := 0) rfl)
  have hgy30 := up_n egy7 hgy29 (ne_o (i := b) (c := 2) (d := 0) rfl)
  have hgy31 := up_n egy10 hgy30 (ne_o (i := b) (c := 2) (d := 0) rfl)
  have hgy32 := up_n egy16 hgy31 (ne_o (i := b) (c := 2) (d := 6) rfl)
  have hgy33 := up_n egy19 hgy32 (ne_o (i := b) (c := 2) (d := 6) rfl)
  have hgy34 := up_n egy4 k4 (ne_o (i := b) (c := 3) (d := 0) rfl)
  have hgy35 := up_n egy7 hgy34 (ne_o (i := b) (c := 3) (d := 0) rfl)
  have hgy36 := up_n egy10 hgy35 (ne_o (i := b) (c := 3) (d := 0) rfl)
  have hgy37 := up_n egy16 hgy36 (ne_o (i := b) (c := 3) (d := 6) rfl)
  have hgy38 := up_n egy19 hgy37 (ne_o (i := b) (c := 3) (d := 6) rfl)
  have hgy39 := up_n egy4 k5 (ne_o (i := b) (c := 4) (d := 0) rfl)
  have hgy40 := up_n egy7 hgy39 (ne_o (i := b) (c := 4) (d := 0) rfl)
  have hgy41 := up_n egy10 hgy40 (ne_o (i := b) (c := 4) (d := 0) rfl)
  have hgy42 := up_n egy16 hgy41 (ne_o (i := b) (c := 4) (d := 6) rfl)
  have hgy43 := up_n egy19 hgy42 (ne_o (i := b) (c := 4) (d := 6) rfl)
  have hgy44 := up_n egy4 k6 (ne_o (i := b) (c := 5) (d := 0) rfl)
  have hgy45 := up_n egy7 hgy44 (ne_o (i := b) (c := 5) (d := 0) rfl)
  have hgy46 := up_n egy10 hgy45 (ne_o (i := b) (c := 5) (d := 0) rfl)
  have hgy47 := up_n egy16 hgy46 (ne_o (i := b) (c := 5) (d := 6) rfl)
  have hgy48 := up_n egy19 hgy47 (ne_o (i := b) (c := 5) (d := 6) rfl)
  exact z_vret C hr hlk dX5_clear_32 (by decide) (by decide) ⟨rfl, rfl, rfl, ⟨hgy23, hgy28, hgy33, hgy38, hgy43, hgy48, hgy20⟩, fun j h1 => by rw [egy19, va_up_ne _ _ (by omega)]; rw [egy16, va_up_ne _ _ (by omega)]; rw [egy10, va_up_ne _ _ (by omega)]; rw [egy7, va_up_ne _ _ (by omega)]; rw [egy4, va_up_ne _ _ (by omega)]⟩

set_option maxRecDepth 100000 in
set_option maxHeartbeats 4000000 in
theorem c_X7_peek0 (l : Launch) (D : va_G) (A : Nat → Prop) (cs : Nat → ClassId) (tt : Nat) (N : Nat) (ad : Nat → Nat) (g : Nat → va_E) (a : Nat) (hN : a < N) (x0 x1 x4 x5 x7 x8 : Int) (tx : Nat) (hg : g a = oC 9 [.int (zI (x0)), .int (zI (x1)), .ref (tx), .int (zI (0)), .int (zI (x4)), .int (zI (x5)), .int (zI (0)), .int (zI (x7)), .int (zI (x8))]) : zM l yX7_peek cX7_peek 1 none ({ frames := 1, cells := 0, slots := 0, locals := 60 } : Room) D A cs tt N ad g [.ref (ad a)] (rV0 N ad fun g' => g' a = oC 9 [.int (zI (x0)), .int (zI (x1)), .ref (tx), .int (zI (0)), .int (zI (0)), .int (zI (0)), .int (zI (0)), .int (zI (x7)), .int (zI (x8))] ∧ ∀ j, j ≠ a → g' j = g j) := by
  have hay1 : zAt ad (a) (ad a) := rfl
  refine z_of (by decide) (Nat.le_of_ble_eq_true rfl) ?_
  intro p e s m below meth c C hr hlk hnm
  refine z_lv (lv' := [(0, .ref (ad a))]) [0] rfl ?_
  refine z_aload_n C 0 dX7_peek_0 rfl ?_
  refine z_aload_n C 0 dX7_peek_1 rfl ?_
  refine z_get (v := .int (zI (0))) C (by omega) hay1 hg rfl inA_X7 6 (by decide) q_50 rfl rfl dX7_peek_2 ?_
  refine z_put (fs' := [.int (zI (x0)), .int (zI (x1)), .ref tx, .int (zI (0)), .int (zI (x4)), .int (zI (0)), .int (zI (0)), .int (zI (x7)), .int (zI (x8))]) C (by omega) hay1 hg tyX7 tyX7_ok nmX7 rfl inA_X7 5 (by decide) q_49 rfl rfl rfl rfl (Nat.le_of_ble_eq_true rfl) rfl dX7_peek_5 (fun gy2 egy3 => ?_)
  have hgy4 := up_s egy3
  refine z_aload_n C 0 dX7_peek_8 rfl ?_
  refine z_get (v := .int (zI (0))) C (by omega) hay1 hgy4 rfl inA_X7 5 (by decide) q_49 rfl rfl dX7_peek_9 ?_
  refine z_aload_n C 0 dX7_peek_12 rfl ?_
  refine z_get (v := .int (zI (0))) C (by omega) hay1 hgy4 rfl inA_X7 3 (by decide) q_47 rfl rfl dX7_peek_13 ?_
  refine z_icmp_ge (tgt := 60) C dX7_peek_16 (by decide) (by omega) (by omega) (fun _ => ?_) (fun h => absurd h (by omega))
  refine z_aload_n C 0 dX7_peek_60 rfl ?_
  refine z_aload_n C 0 dX7_peek_61 rfl ?_
  refine z_get (v := .int (zI (0))) C (by omega) hay1 hgy4 rfl inA_X7 5 (by decide) q_49 rfl rfl dX7_peek_62 ?_
  refine z_aload_n C 0 dX7_peek_65 rfl ?_
  refine z_get (v := .int (zI (0))) C (by omega) hay1 hgy4 rfl inA_X7 3 (by decide) q_47 rfl rfl dX7_peek_66 ?_
  refine z_icmp_ge (tgt := 87) C dX7_peek_69 (by decide) (by omega) (by omega) (fun _ => ?_) (fun h => absurd h (by omega))
  refine z_iconst (z := 0) C dX7_peek_87 rfl ?_
  refine z_put (fs' := [.int (zI (x0)), .int (zI (x1)), .ref tx, .int (zI (0)), .int (zI (0)), .int (zI (0)), .int (zI (0)), .int (zI (x7)), .int (zI (x8))]) C (by omega) hay1 hgy4 tyX7 tyX7_ok nmX7 rfl inA_X7 4 (by decide) q_48 rfl rfl rfl rfl (Nat.le_of_ble_eq_true rfl) rfl dX7_peek_88 (fun gy5 egy6 => ?_)
  have hgy7 := up_s egy6
  refine z_aload_n C 0 dX7_peek_91 rfl ?_
  refine z_aload_n C 0 dX7_peek_92 rfl ?_
  refine z_get (v := .int (zI (0))) C (by omega) hay1 hgy7 rfl inA_X7 5 (by decide) q_49 rfl rfl dX7_peek_93 ?_
  refine z_aload_n C 0 dX7_peek_96 rfl ?_
  refine z_get (v := .int (zI (0))) C (by omega) hay1 hgy7 rfl inA_X7 3 (by decide) q_47 rfl rfl dX7_peek_97 ?_
  refine z_icmp_ge (tgt := 112) C dX7_peek_100 (by decide) (by omega) (by omega) (fun _ => ?_) (fun h => absurd h (by omega))
  refine z_aload_n C 0 dX7_peek_112 rfl ?_
  refine z_get (v := .int (zI (0))) C (by omega) hay1 hgy7 rfl inA_X7 3 (by decide) q_47 rfl rfl dX7_peek_113 ?_
  refine z_put (fs' := [.int (zI (x0)), .int (zI (x1)), .ref tx, .int (zI (0)), .int (zI (0)), .int (zI (0)), .int (zI (0)), .int (zI (x7)), .int (zI (x8))]) C (by omega) hay1 hgy7 tyX7 tyX7_ok nmX7 rfl inA_X7 6 (by decide) q_50 rfl rfl rfl rfl (Nat.le_of_ble_eq_true rfl) rfl dX7_peek_116 (fun gy8 egy9 => ?_)
  have hgy10 := up_s egy9
  refine z_aload_n C 0 dX7_peek_119 rfl ?_
  refine z_get (v := .int (zI (0))) C (by omega) hay1 hgy10 rfl inA_X7 4 (by decide) q_48 rfl rfl dX7_peek_120 ?_
  refine z_iconst (z := 1) C dX7_peek_123 rfl ?_
  refine z_icmp_eq (tgt := 135) C dX7_peek_124 (by decide) (by omega) (by omega) (fun h => absurd h (by omega)) (fun _ => ?_)
  refine z_aload_n C 0 dX7_peek_127 rfl ?_
  refine z_get (v := .int (zI (0))) C (by omega) hay1 hgy10 rfl inA_X7 4 (by decide) q_48 rfl rfl dX7_peek_128 ?_
  refine z_iconst (z := 2) C dX7_peek_131 rfl ?_
  refine z_icmp_ne (tgt := 178) C dX7_peek_132 (by decide) (by omega) (by omega) (fun _ => ?_) (fun h => absurd h (by omega))
  exact z_vret C hr hlk dX7_peek_178 (by decide) (by decide) ⟨rfl, rfl, rfl, hgy10, fun j h1 => by rw [egy9, va_up_ne _ _ (by omega)]; rw [egy6, va_up_ne _ _ (by omega)]; rw [egy3, va_up_ne _ _ (by omega)]⟩

set_option maxRecDepth 100000 in
set_option maxHeartbeats 4000000 in
theorem c_X7_read0 (l : Launch) (D : va_G) (A : Nat → Prop) (cs : Nat → ClassId) (tt : Nat) (N : Nat) (ad : Nat → Nat) (g : Nat → va_E) (i : Nat) (hN : i + 921 ≤ N) (hR : isRec cs ad g i) : zM l yX7_read cX7_read 6 (some .int) ({ frames := 4, cells := 0, slots := 0, locals := 240 } : Room) D A cs tt N ad g [.ref (ad (i + 2)), .ref (ad (i + 1)), .int (zI 0), .ref (ad (i + 883)), .ref (ad (i + 890))] (rI0 N ad fun r g' => r = 0 ∧ g' (i + 2) = oC 9 [.int (zI (-1)), .int (zI (0)), .ref (ad (i + 1)), .int (zI (0)), .int (zI (0)), .int (zI (0)), .int (zI (0)), .int (zI (0)), .int (zI (0))] ∧ isPlan cs ad g' (i + 883) 0 0 0 (fun _ => 0) (fun _ => 0) (fun _ => 0) (fun _ => 0) (fun _ => 0) tabZ ∧ isWorld cs ad g' (i + 890) (fun _ => 0) (fun _ => 0) (fun _ => 0) (fun _ _ => 0) ∧ ∀ j, j ≠ i + 2 → j < i + 883 ∨ i + 900 ≤ j → g' j = g j) := by
  obtain ⟨r1, r2, r3, r4, r5, r6, r7, r8, r9, r10, r11, r12⟩ := id hR
  have hay1 : zAt ad (i + 2) (ad (i + 2)) := rfl
  have hay2 : zAt ad (i + 1) (ad (i + 1)) := rfl
  have hay3 : zAt ad (i + 883) (ad (i + 883)) := rfl
  have hay4 : zAt ad (i + 890) (ad (i + 890)) := rfl
  refine z_of (by decide) (Nat.le_of_ble_eq_true rfl) ?_
  intro p e s m below meth c C hr hlk hnm
  refine z_lv (lv' := [(0, .ref (ad (i + 2))), (1, .ref (ad (i + 1))), (2, .int (zI (0))), (3, .ref (ad (i + 883))), (4, .ref (ad (i + 890)))]) [0, 1, 2, 3, 4] rfl ?_
  refine z_aload_n C 0 dX7_read_0 rfl ?_
  refine z_aload_n C 1 dX7_read_1 rfl ?_
  refine z_put (fs' := [.int (zI (-1)), .int (zI (0)), .ref (ad (i + 1)), .int (zI (0)), .int (zI (0)), .int (zI (0)), .int (zI (0)), .int (zI (0)), .int (zI (0))]) C (by omega) hay1 r3.1 tyX7 tyX7_ok nmX7 rfl inA_X7 2 (by decide) q_46 rfl rfl rfl rfl (Nat.le_of_ble_eq_true rfl) rfl dX7_read_2 (fun gy5 egy6 => ?_)
  have hgy7 := up_s egy6
  refine z_aload_n C 0 dX7_read_5 rfl ?_
  refine z_iload_n C 2 dX7_read_6 rfl ?_
  refine z_aload_n C 1 dX7_read_7 rfl ?_
  have hgy8 := up_n egy6 r2 (ne_o (i := i) (c := 1) (d := 2) rfl)
  refine z_alen (z := 900) C (by omega) hay2 hgy8 0 rfl rfl dX7_read_8 ?_
  refine z_mmin C q_728 q_473 q_20 q_474 (by decide) (by decide) (by decide) (Nat.le_of_ble_eq_true rfl) (by decide) (by decide) dX7_read_9 ?_
  rw [show (if (900 : Int) < 0 then (900 : Int) else 0) = 0 by decide]
  refine z_put (fs' := [.int (zI (-1)), .int (zI (0)), .ref (ad (i + 1)), .int (zI (0)), .int (zI (0)), .int (zI (0)), .int (zI (0)), .int (zI (0)), .int (zI (0))]) C (by omega) hay1 hgy7 tyX7 tyX7_ok nmX7 rfl inA_X7 3 (by decide) q_47 rfl rfl rfl rfl (Nat.le_of_ble_eq_true rfl) rfl dX7_read_12 (fun gy9 egy10 => ?_)
  have hgy11 := up_s egy10
  refine z_aload_n C 0 dX7_read_15 rfl ?_
  refine z_iconst (z := 0) C dX7_read_16 rfl ?_
  refine z_put (fs' := [.int (zI (-1)), .int (zI (0)), .ref (ad (i + 1)), .int (zI (0)), .int (zI (0)), .int (zI (0)), .int (zI (0)), .int (zI (0)), .int (zI (0))]) C (by omega) hay1 hgy11 tyX7 tyX7_ok nmX7 rfl inA_X7 6 (by decide) q_50 rfl rfl rfl rfl (Nat.le_of_ble_eq_true rfl) rfl dX7_read_17 (fun gy12 egy13 => ?_)
  have hgy14 := up_s egy13
  refine z_aload_n C 0 dX7_read_20 rfl ?_
  refine z_iconst (z := 0) C dX7_read_21 rfl ?_
  refine z_put (fs' := [.int (zI (-1)), .int (zI (0)), .ref (ad (i + 1)), .int (zI (0)), .int (zI (0)), .int (zI (0)), .int (zI (0)), .int (zI (0)), .int (zI (0))]) C (by omega) hay1 hgy14 tyX7 tyX7_ok nmX7 rfl inA_X7 1 (by decide) q_45 rfl rfl rfl rfl (Nat.le_of_ble_eq_true rfl) rfl dX7_read_22 (fun gy15 egy16 => ?_)
  have hgy17 := up_s egy16
  refine z_aload_n C 0 dX7_read_25 rfl ?_
  refine z_iconst (z := -1) C dX7_read_26 rfl ?_
  refine z_put (fs' := [.int (zI (-1)), .int (zI (0)), .ref (ad (i + 1)), .int (zI (0)), .int (zI (0)), .int (zI (0)), .int (zI (0)), .int (zI (0)), .int (zI (0))]) C (by omega) hay1 hgy17 tyX7 tyX7_ok nmX7 rfl inA_X7 0 (by decide) q_43 rfl rfl rfl rfl (Nat.le_of_ble_eq_true rfl) rfl dX7_read_27 (fun gy18 egy19 => ?_)
  have hgy20 := up_s egy19
  refine z_aload_n C 0 dX7_read_30 rfl ?_
  refine z_iconst (z := 0) C dX7_read_31 rfl ?_
  refine z_put (fs' := [.int (zI (-1)), .int (zI (0)), .ref (ad (i + 1)), .int (zI (0)), .int (zI (0)), .int (zI (0)), .int (zI (0)), .int (zI (0)), .int (zI (0))]) C (by omega) hay1 hgy20 tyX7 tyX7_ok nmX7 rfl inA_X7 8 (by decide) q_52 rfl rfl rfl rfl (Nat.le_of_ble_eq_true rfl) rfl dX7_read_32 (fun gy21 egy22 => ?_)
  have hgy23 := up_s egy22
  refine z_aload_n C 3 dX7_read_35 rfl ?_
  have hpy24 := isPlan.mv (ad' := ad) (g' := gy21) (fun j h1 h2 => by rfl) (fun j h1 h2 => by rw [egy22, va_up_ne _ _ (by omega)]; rw [egy19, va_up_ne _ _ (by omega)]; rw [egy16, va_up_ne _ _ (by omega)]; rw [egy13, va_up_ne _ _ (by omega)]; rw [egy10, va_up_ne _ _ (by omega)]; rw [egy6, va_up_ne _ _ (by omega)]) r7
  have hgy25 := up_n egy6 r7.1 (ne_o (i := i) (c := 883) (d := 2) rfl)
  have hgy26 := up_n egy10 hgy25 (ne_o (i := i) (c := 883) (d := 2) rfl)
  have hgy27 := up_n egy13 hgy26 (ne_o (i := i) (c := 883) (d := 2) rfl)
  have hgy28 := up_n egy16 hgy27 (ne_o (i := i) (c := 883) (d := 2) rfl)
  have hgy29 := up_n egy19 hgy28 (ne_o (i := i) (c := 883) (d := 2) rfl)
  have hgy30 := up_n egy22 hgy29 (ne_o (i := i) (c := 883) (d := 2) rfl)
  refine z_cV (As := []) (rest := []) (ci := 7) C (c_X5_clear l D A cs tt N ad _ (i + 883) (by omega) hpy24) (by omega) hay3 hgy30 rfl rfl mv_yX5_clear q_729 hd_yX5_clear (by decide) (Nat.le_of_ble_eq_true rfl) (by decide) dX7_read_36 rfl (kV0 fun gp hp => ?_)
  obtain ⟨hp1, hp2⟩ := hp
  refine z_aload C 4 dX7_read_39 rfl ?_
  have hpy31 := isWorld.mv (ad' := ad) (g' := gp) (fun j h1 h2 => by rfl) (fun j h1 h2 => by rw [hp2 _ (by omega)]; rw [egy22, va_up_ne _ _ (by omega)]; rw [egy19, va_up_ne _ _ (by omega)]; rw [egy16, va_up_ne _ _ (by omega)]; rw [egy13, va_up_ne _ _ (by omega)]; rw [egy10, va_up_ne _ _ (by omega)]; rw [egy6, va_up_ne _ _ (by omega)]) r8
  have hgy32 := up_n egy6 r8.1 (ne_o (i := i) (c := 890) (d := 2) rfl)
  have hgy33 := up_n egy10 hgy32 (ne_o (i := i) (c := 890) (d := 2) rfl)
  have hgy34 := up_n egy13 hgy33 (ne_o (i := i) (c := 890) (d := 2) rfl)
  have hgy35 := up_n egy16 hgy34 (ne_o (i := i) (c := 890) (d := 2) rfl)
  have hgy36 := up_n egy19 hgy35 (ne_o (i := i) (c := 890) (d := 2) rfl)
  have hgy37 := up_n egy22 hgy36 (ne_o (i := i) (c := 890) (d := 2) rfl)
  have hgy38 := (hp2 (i + 890) (by omega)).trans hgy37
  refine z_cV (As := []) (rest := []) (ci := 10) C (c_X8_clear l D A cs tt N ad _ (i + 890) (by omega) hpy31) (by omega) hay4 hgy38 rfl rfl mv_yX8_clear q_734 hd_yX8_clear (by decide) (Nat.le_of_ble_eq_true rfl) (by decide) dX7_read_41 rfl (kV0 fun gw hw => ?_)
  obtain ⟨hw1, hw2⟩ := hw
  refine z_aload_n C 0 dX7_read_44 rfl ?_
  have hgy39 := (hp2 (i + 2) (by omega)).trans hgy23
  have hgy40 := (hw2 (i + 2) (by omega)).trans hgy39
  refine z_cV (As := []) (rest := []) (ci := 9) C (c_X7_peek0 l D A cs tt N ad _ (i + 2) (by omega) _ _ _ _ _ _ _ hgy40) (by omega) hay1 hgy40 rfl rfl mv_yX7_peek q_742 hd_yX7_peek (by decide) (Nat.le_of_ble_eq_true rfl) (by decide) dX7_read_45 rfl (kV0 fun ge he => ?_)
  obtain ⟨he1, he2⟩ := he
  refine z_iconst (z := 0) C dX7_read_48 rfl ?_
  refine z_istore (lv' := [(5, .int (zI (0))), (0, .ref (ad (i + 2))), (1, .ref (ad (i + 1))), (2, .int (zI (0))), (3, .ref (ad (i + 883))), (4, .ref (ad (i + 890)))]) C dX7_read_49 (by decide) rfl ?_
  refine z_iload C 0 dX7_read_51 rfl ?_
  refine z_aload_n C 1 dX7_read_53 rfl ?_
  refine z_get (v := .int (zI (0))) C (by omega) hay1 he1 rfl inA_X7 3 (by decide) q_47 rfl rfl dX7_read_54 ?_
  refine z_icmp_gt (tgt := 87) C dX7_read_57 (by decide) (by omega) (by omega) (fun h => absurd h (by omega)) (fun _ => ?_)
  refine z_aload_n C 1 dX7_read_60 rfl ?_
  refine z_get (v := .int (zI (0))) C (by omega) hay1 he1 rfl inA_X7 1 (by decide) q_45 rfl rfl dX7_read_61 ?_
  refine z_if_ne (tgt := 87) C dX7_read_64 (by decide) (by omega) (fun h => absurd h (by omega)) (fun _ => ?_)
  refine z_aload_n C 1 dX7_read_67 rfl ?_
  refine z_get (v := .int (zI (0))) C (by omega) hay1 he1 rfl inA_X7 4 (by decide) q_48 rfl rfl dX7_read_68 ?_
  refine z_if_eq (tgt := 87) C dX7_read_71 (by decide) (by omega) (fun _ => ?_) (fun h => absurd h (by omega))
  refine z_aload_n C 1 dX7_read_87 rfl ?_
  refine z_get (v := .int (zI (0))) C (by omega) hay1 he1 rfl inA_X7 1 (by decide) q_45 rfl rfl dX7_read_88 ?_
  have hpy41 := isPlan.mv (ad' := ad) (g' := ge) (fun j h1 h2 => by rfl) (fun j h1 h2 => by rw [he2 _ (by omega)]; rw [hw2 _ (by omega)]) hp1
  have hpy42 := isWorld.mv (ad' := ad) (g' := ge) (fun j h1 h2 => by rfl) (fun j h1 h2 => by rw [he2 _ (by omega)]) hw1
  exact z_iret C hr hlk dX7_read_91 (by decide) (by decide) ⟨0, rfl, rfl, rfl, rfl, he1, hpy41, hpy42, fun j h1 h2 => by rw [he2 _ (by omega)]; rw [hw2 _ (by omega)]; rw [hp2 _ (by omega)]; rw [egy22, va_up_ne _ _ (by omega)]; rw [egy19, va_up_ne _ _ (by omega)]; rw [egy16, va_up_ne _ _ (by omega)]; rw [egy13, va_up_ne _ _ (by omega)]; rw [egy10, va_up_ne _ _ (by omega)]; rw [egy6, va_up_ne _ _ (by omega)]⟩

set_option maxRecDepth 100000 in
set_option maxHeartbeats 4000000 in
theorem c_X6_beginWith (l : Launch) (D : va_G) (A : Nat → Prop) (cs : Nat → ClassId) (tt : Nat) (N : Nat) (ad : Nat → Nat) (g : Nat → va_E) (i d : Nat) (hN : i + 436 ≤ N ∧ d + 10 ≤ N) (hid : i + 436 ≤ d ∨ d + 10 ≤ i) (hS : isSt cs ad g i) (hd : isWorld cs ad g d (fun _ => 0) (fun _ => 0) (fun _ => 0) (fun _ _ => 0)) : zM l yX6_beginWith cX6_beginWith 2 none ({ frames := 3, cells := 0, slots := 0, locals := 180 } : Room) D A cs tt N ad g [.ref (ad i), .ref (ad d)] (rV0 N ad fun g' => ∀ j, j < i ∨ i + 436 ≤ j → g' j = g j) := by
  obtain ⟨h1, h2, ⟨b1, h3, h4⟩, ⟨b2, h5, h6⟩, h7, h8, h9, h10⟩ := id hS
  have hay1 : zAt ad (i) (ad i) := rfl
  have hay2 : zAt ad (i + 1) (ad (i + 1)) := rfl
  have hay3 : zAt ad (i + 13) (ad (i + 13)) := rfl
  refine z_of (by decide) (Nat.le_of_ble_eq_true rfl) ?_
  intro p e s m below meth c C hr hlk hnm
  refine z_lv (lv' := [(0, .ref (ad i)), (1, .ref (ad d))]) [0, 1] rfl ?_
  refine z_aload_n C 0 dX6_beginWith_0 rfl ?_
  refine z_get (v := .ref (ad (i + 1))) C (by omega) hay1 h1 rfl inA_X6 0 (by decide) q_257 rfl rfl dX6_beginWith_1 ?_
  refine z_aload_n C 1 dX6_beginWith_4 rfl ?_
  refine z_cV (As := [.ref (ad d)]) (rest := []) (ci := 10) C (c_X8_copyFrom l D A cs tt N ad _ (i + 1) d (by omega) (by omega) _ _ _ _ _ _ _ _ h2 hd) (by omega) hay2 h2.1 rfl rfl mv_yX8_copyFrom q_420 hd_yX8_copyFrom (by decide) (Nat.le_of_ble_eq_true rfl) (by decide) dX6_beginWith_5 rfl (kV0 fun g1 hq1 => ?_)
  obtain ⟨hp1, hf1⟩ := hq1
  refine z_aload_n C 0 dX6_beginWith_8 rfl ?_
  refine z_iconst (z := 0) C dX6_beginWith_9 rfl ?_
  have hgy4 := (hf1 (i) (by omega)).trans h1
  refine z_put (fs' := [.ref (ad (i + 1)), .ref (ad (i + 11)), .int (zI (0)), .ref (ad (i + 12)), .ref (ad (i + 13)), .ref (ad (i + 17))]) C (by omega) hay1 hgy4 tyX6 tyX6_ok nmX6 rfl inA_X6 2 (by decide) q_260 rfl rfl rfl rfl (Nat.le_of_ble_eq_true rfl) rfl dX6_beginWith_10 (fun gy5 egy6 => ?_)
  have hgy7 := up_s egy6
  refine z_aload_n C 0 dX6_beginWith_13 rfl ?_
  refine z_get (v := .ref (ad (i + 13))) C (by omega) hay1 hgy7 rfl inA_X6 4 (by decide) q_264 rfl rfl dX6_beginWith_14 ?_
  refine z_iconst (z := 0) C dX6_beginWith_17 rfl ?_
  have hgy8 := (hf1 (i + 13) (by omega)).trans h7.1
  have hgy9 := up_n egy6 hgy8 (ne_o (i := i) (c := 13) (d := 0) rfl)
  refine z_put (fs' := [.int (zI (0)), .ref (ad (i + 13 + 1)), .ref (ad (i + 13 + 2)), .ref (ad (i + 13 + 3))]) C (by omega) hay3 hgy9 tyX2 tyX2_ok nmX2 rfl inA_X2 0 (by decide) q_217 rfl rfl rfl rfl (Nat.le_of_ble_eq_true rfl) rfl dX6_beginWith_18 (fun gy10 egy11 => ?_)
  have hgy12 := up_s egy11
  exact z_vret C hr hlk dX6_beginWith_21 (by decide) (by decide) ⟨rfl, rfl, rfl, fun j h1 => by rw [egy11, va_up_ne _ _ (by omega)]; rw [egy6, va_up_ne _ _ (by omega)]; rw [hf1 _ (by omega)]⟩

set_option maxRecDepth 100000 in
set_option maxHeartbeats 4000000 in
theorem c_X9_snow (l : Launch) (D : va_G) (A : Nat → Prop) (cs : Nat → ClassId) (tt : Nat) (N : Nat) (ad : Nat → Nat) (g : Nat → va_E) (i : Nat) (hN : i + 921 ≤ N) (hR : isRec cs ad g i) (hl0 : l.stackTraces = false) (z : Int) (hz : -2147483648 ≤ z ∧ z ≤ 2147483647) : zMX l yX9_snow cX9_snow 3 (some .int) ({ frames := 8, cells := 1, slots := 6, locals := 480 } : Room) D A cs tt N ad g [.ref (ad i), .int (zI z)] (rI0 N ad fun r g' => z = 0 ∧ r = 0 ∧ oR i g g') (fun E N' ad' g' => E = eIA ∧ N' = N ∧ ad' = ad ∧ g' = g ∧ z ≠ 0) := by
  obtain ⟨r1, r2, r3, r4, r5, r6, r7, r8, r9, r10, r11, r12⟩ := id hR
  have hay1 : zAt ad (i) (ad i) := rfl
  have hay2 : zAt ad (i + 4) (ad (i + 4)) := rfl
  have hay3 : zAt ad (i + 11) (ad (i + 11)) := rfl
  refine z_ofX (by decide) (Nat.le_of_ble_eq_true rfl) ?_
  intro p e s m below meth c C hr hlk hxt
  refine z_lv (lv' := [(0, .ref (ad i)), (1, .int (zI (z)))]) [0, 1] rfl ?_
  refine z_iload_n C 1 dX9_snow_0 rfl ?_
  refine z_if_lt (tgt := 12) C dX9_snow_1 (by decide) (by omega) (fun hb1 => ?_) (fun hb1 => ?_)
  · exact z_thr (cls := eIA) (text := "the tape has not so many bytes") C hl0 (by decide +kernel) q_658 q_19 (by decide +kernel) at_IA gd_IA dX9_snow_12 dX9_snow_15 dX9_snow_16 dX9_snow_18 dX9_snow_21 hxt (by decide) (Nat.le_of_ble_eq_true rfl) (by decide) (by decide) hlk (by decide) (by decide) ⟨rfl, rfl, rfl, rfl, by omega⟩
  · refine z_iload_n C 1 dX9_snow_4 rfl ?_
    refine z_aload_n C 0 dX9_snow_5 rfl ?_
    refine z_get (v := .int (zI (0))) C (by omega) hay1 r1 rfl inA_X9 1 (by decide) q_350 rfl rfl dX9_snow_6 ?_
    refine z_icmp_le (tgt := 22) C dX9_snow_9 (by decide) (by omega) (by omega) (fun hb2 => ?_) (fun hb2 => ?_)
    · have hz0 : z = 0 := by omega
      subst hz0
      refine z_aload_n C 0 dX9_snow_22 rfl ?_
      refine z_get (v := .ref (ad (i + 2))) C (by omega) hay1 r1 rfl inA_X9 3 (by decide) q_352 rfl rfl dX9_snow_23 ?_
      refine z_aload_n C 0 dX9_snow_26 rfl ?_
      refine z_get (v := .ref (ad (i + 1))) C (by omega) hay1 r1 rfl inA_X9 0 (by decide) q_349 rfl rfl dX9_snow_27 ?_
      refine z_iload_n C 1 dX9_snow_30 rfl ?_
      refine z_aload_n C 0 dX9_snow_31 rfl ?_
      refine z_get (v := .ref (ad (i + 883))) C (by omega) hay1 r1 rfl inA_X9 8 (by decide) q_357 rfl rfl dX9_snow_32 ?_
      refine z_aload_n C 0 dX9_snow_35 rfl ?_
      refine z_get (v := .ref (ad (i + 890))) C (by omega) hay1 r1 rfl inA_X9 9 (by decide) q_358 rfl rfl dX9_snow_36 ?_
      have hay4 : zAt ad (i + 2) (ad (i + 2)) := rfl
      refine z_cV (As := [.ref (ad (i + 1)), .int (zI (0)), .ref (ad (i + 883)), .ref (ad (i + 890))]) (rest := []) (ci := 9) C (c_X7_read0 l D A cs tt N ad _ i hN hR) (by omega) hay4 r3.1 rfl rfl mv_yX7_read q_724 hd_yX7_read (by decide) (Nat.le_of_ble_eq_true rfl) (by decide) dX9_snow_39 rfl (kI0 fun ra ga ha => ?_)
      obtain ⟨rfl, ha1, ha2, ha3, ha4⟩ := ha
      refine z_istore_n (lv' := [(2, .int (zI (0))), (0, .ref (ad i)), (1, .int (zI (0)))]) C dX9_snow_42 rfl (by decide) rfl ?_
      refine z_aload_n C 1 dX9_snow_43 rfl ?_
      refine z_iconst (z := 0) C dX9_snow_44 rfl ?_
      have hgy5 := (ha4 (i) (ne_o (i := i) (c := 0) (d := 2) rfl) (by omega)).trans r1
      refine z_put (fs' := [.ref (ad (i + 1)), .int (zI (0)), .int (zI (-1)), .ref (ad (i + 2)), .ref (ad (i + 4)), .ref (ad (i + 11)), .ref (ad (i + 447)), .int (zI (0)), .ref (ad (i + 883)), .ref (ad (i + 890)), .ref (ad (i + 900)), .ref (ad (i + 910)), .ref (ad (i + 917)), .ref (ad (i + 919))]) C (by omega) hay1 hgy5 tyX9 tyX9_ok nmX9 rfl inA_X9 1 (by decide) q_350 rfl rfl rfl rfl (Nat.le_of_ble_eq_true rfl) rfl dX9_snow_45 (fun gy6 egy7 => ?_)
      have hgy8 := up_s egy7
      refine z_aload_n C 1 dX9_snow_48 rfl ?_
      refine z_aload_n C 1 dX9_snow_49 rfl ?_
      refine z_get (v := .ref (ad (i + 2))) C (by omega) hay1 hgy8 rfl inA_X9 3 (by decide) q_352 rfl rfl dX9_snow_50 ?_
      have hgy9 := up_n egy7 ha1 (ne_o (i := i) (c := 2) (d := 0) rfl)
      refine z_get (v := .int (zI (-1))) C (by omega) hay4 hgy9 rfl inA_X7 0 (by decide) q_44 rfl rfl dX9_snow_53 ?_
      refine z_put (fs' := [.ref (ad (i + 1)), .int (zI (0)), .int (zI (-1)), .ref (ad (i + 2)), .ref (ad (i + 4)), .ref (ad (i + 11)), .ref (ad (i + 447)), .int (zI (0)), .ref (ad (i + 883)), .ref (ad (i + 890)), .ref (ad (i + 900)), .ref (ad (i + 910)), .ref (ad (i + 917)), .ref (ad (i + 919))]) C (by omega) hay1 hgy8 tyX9 tyX9_ok nmX9 rfl inA_X9 2 (by decide) q_351 rfl rfl rfl rfl (Nat.le_of_ble_eq_true rfl) rfl dX9_snow_56 (fun gy10 egy11 => ?_)
      have hgy12 := up_s egy11
      refine z_iload_n C 0 dX9_snow_59 rfl ?_
      refine z_if_eq (tgt := 78) C dX9_snow_60 (by decide) (by omega) (fun _ => ?_) (fun h => absurd h (by omega))
      refine z_aload_n C 1 dX9_snow_78 rfl ?_
      refine z_get (v := .ref (ad (i + 4))) C (by omega) hay1 hgy12 rfl inA_X9 4 (by decide) q_353 rfl rfl dX9_snow_79 ?_
      refine z_aload_n C 1 dX9_snow_82 rfl ?_
      refine z_get (v := .ref (ad (i + 883))) C (by omega) hay1 hgy12 rfl inA_X9 8 (by decide) q_357 rfl rfl dX9_snow_83 ?_
      have hpy13 := isPlan.mv (ad' := ad) (g' := gy10) (fun j h1 h2 => by rfl) (fun j h1 h2 => by rw [egy11, va_up_ne _ _ (by omega)]; rw [egy7, va_up_ne _ _ (by omega)]; rw [ha4 _ (by omega) (by omega)]) r4
      have hpy14 := isPlan.mv (ad' := ad) (g' := gy10) (fun j h1 h2 => by rfl) (fun j h1 h2 => by rw [egy11, va_up_ne _ _ (by omega)]; rw [egy7, va_up_ne _ _ (by omega)]) ha2
      have hgy15 := (ha4 (i + 4) (ne_o (i := i) (c := 4) (d := 2) rfl) (by omega)).trans r4.1
      have hgy16 := up_n egy7 hgy15 (ne_o (i := i) (c := 4) (d := 0) rfl)
      have hgy17 := up_n egy11 hgy16 (ne_o (i := i) (c := 4) (d := 0) rfl)
      refine z_cV (As := [.ref (ad (i + 883))]) (rest := []) (ci := 7) C (c_X5_copyFrom l D A cs tt N ad _ (i + 4) (i + 883) (by omega) (by omega) _ _ _ _ _ _ _ _ _ _ _ _ _ _ _ _ _ _ hpy13 hpy14) (by omega) hay2 hgy17 rfl rfl mv_yX5_copyFrom q_862 hd_yX5_copyFrom (by decide) (Nat.le_of_ble_eq_true rfl) (by decide) dX9_snow_86 rfl (kV0 fun gb hb => ?_)
      obtain ⟨hb3, hb4⟩ := hb
      refine z_aload_n C 1 dX9_snow_89 rfl ?_
      have hgy18 := (hb4 (i) (by omega)).trans hgy12
      refine z_get (v := .ref (ad (i + 11))) C (by omega) hay1 hgy18 rfl inA_X9 5 (by decide) q_354 rfl rfl dX9_snow_90 ?_
      refine z_aload_n C 1 dX9_snow_93 rfl ?_
      refine z_get (v := .ref (ad (i + 890))) C (by omega) hay1 hgy18 rfl inA_X9 9 (by decide) q_358 rfl rfl dX9_snow_94 ?_
      have hpy19 := isSt.mv (ad' := ad) (g' := gb) (fun j h1 h2 => by rfl) (fun j h1 h2 => by rw [hb4 _ (by omega)]; rw [egy11, va_up_ne _ _ (by omega)]; rw [egy7, va_up_ne _ _ (by omega)]; rw [ha4 _ (by omega) (by omega)]) r5
      have hpy20 := isWorld.mv (ad' := ad) (g' := gb) (fun j h1 h2 => by rfl) (fun j h1 h2 => by rw [hb4 _ (by omega)]; rw [egy11, va_up_ne _ _ (by omega)]; rw [egy7, va_up_ne _ _ (by omega)]) ha3
      have hgy21 := (ha4 (i + 11) (ne_o (i := i) (c := 11) (d := 2) rfl) (by omega)).trans r5.1
      have hgy22 := up_n egy7 hgy21 (ne_o (i := i) (c := 11) (d := 0) rfl)
      have hgy23 := up_n egy11 hgy22 (ne_o (i := i) (c := 11) (d := 0) rfl)
      have hgy24 := (hb4 (i + 11) (by omega)).trans hgy23
      refine z_cV (As := [.ref (ad (i + 890))]) (rest := []) (ci := 8) C (c_X6_beginWith l D A cs tt N ad _ (i + 11) (i + 890) (by omega) (by omega) hpy19 hpy20) (by omega) hay3 hgy24 rfl rfl mv_yX6_beginWith q_866 hd_yX6_beginWith (by decide) (Nat.le_of_ble_eq_true rfl) (by decide) dX9_snow_97 rfl (kV0 fun gd hd => ?_)
      refine z_aload_n C 1 dX9_snow_100 rfl ?_
      refine z_iconst (z := 0) C dX9_snow_101 rfl ?_
      have hgy25 := (hd (i) (by omega)).trans hgy18
      refine z_put (fs' := [.ref (ad (i + 1)), .int (zI (0)), .int (zI (-1)), .ref (ad (i + 2)), .ref (ad (i + 4)), .ref (ad (i + 11)), .ref (ad (i + 447)), .int (zI (0)), .ref (ad (i + 883)), .ref (ad (i + 890)), .ref (ad (i + 900)), .ref (ad (i + 910)), .ref (ad (i + 917)), .ref (ad (i + 919))]) C (by omega) hay1 hgy25 tyX9 tyX9_ok nmX9 rfl inA_X9 7 (by decide) q_356 rfl rfl (by decide) rfl (Nat.le_of_ble_eq_true rfl) rfl dX9_snow_102 (fun gy26 egy27 => ?_)
      have hgy28 := up_s egy27
      refine z_iconst (z := 0) C dX9_snow_105 rfl ?_
      exact z_rX (z_iret C hr hlk dX9_snow_106 (by decide) (by decide) ⟨0, rfl, rfl, rfl, rfl, rfl, fun j h1 => by rw [egy27, va_up_ne _ _ (by omega)]; rw [hd _ (by omega)]; rw [hb4 _ (by omega)]; rw [egy11, va_up_ne _ _ (by omega)]; rw [egy7, va_up_ne _ _ (by omega)]; rw [ha4 _ (by omega) (by omega)]⟩)
    · exact z_thr (cls := eIA) (text := "the tape has not so many bytes") C hl0 (by decide +kernel) q_658 q_19 (by decide +kernel) at_IA gd_IA dX9_snow_12 dX9_snow_15 dX9_snow_16 dX9_snow_18 dX9_snow_21 hxt (by decide) (Nat.le_of_ble_eq_true rfl) (by decide) (by decide) hlk (by decide) (by decide) ⟨rfl, rfl, rfl, rfl, by omega⟩

