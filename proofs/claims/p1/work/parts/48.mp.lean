set_option maxRecDepth 100000 in
set_option maxHeartbeats 4000000 in
theorem c_X10_feed (l : Launch) (D : va_G) (A : Nat → Prop) (cs : Nat → ClassId) (tt : Nat) (N : Nat) (ad : Nat → Nat) (g : Nat → va_E) (i : Nat) (hN : i + 30 ≤ N) (hM : isM0 cs ad g i) (z z1 z2 z3 z4 : Int) : zM l yX10_feed cX10_feed 8 (some .int) ({ frames := 1, cells := 0, slots := 0, locals := 60 } : Room) D A cs tt N ad g [.ref (ad i), .int (zI z), .int (zI z1), .int (zI z2), .int (zI z3), .int (zI z4)] (rI0 N ad fun r g' => r = 20 ∧ pM ad i g g' 0) := by
  obtain ⟨B, ⟨hg, hA⟩, hB7, hB0⟩ := id hM
  have hay1 : zAt ad (i) (ad i) := rfl
  have a13 : g (i + 13) = iA cs 900 (B 13) := hA 13 (by decide) (by decide)
  have hay2 : zAt ad (i + 13) (ad (i + 13)) := rfl
  refine z_of (by decide) (Nat.le_of_ble_eq_true rfl) ?_
  intro p e s m below meth c C hr hlk hnm
  refine z_lv (lv' := [(0, .ref (ad i)), (1, .int (zI (z))), (2, .int (zI (z1))), (3, .int (zI (z2))), (4, .int (zI (z3))), (5, .int (zI (z4)))]) [0, 1, 2, 3, 4, 5] rfl ?_
  refine z_aload_n C 0 dX10_feed_0 rfl ?_
  refine z_iconst (z := 0) C dX10_feed_1 rfl ?_
  refine z_put (fs' := mF ad (i) (uZ mF0 12 (0))) C (by omega) hay1 hg tyX10 tyX10_ok nmX10 rfl inA_X10 12 (by decide) q_1471 rfl rfl rfl rfl (Nat.le_of_ble_eq_true rfl) rfl dX10_feed_2 (fun gy3 egy4 => ?_)
  have hgy5 := up_s egy4
  refine z_aload_n C 0 dX10_feed_5 rfl ?_
  refine z_get (v := .int (zI (0))) C (by omega) hay1 hgy5 rfl inA_X10 23 (by decide) q_1482 rfl (fv (F := (uZ mF0 12 (0))) (f := 23) (fn rfl (by decide))) dX10_feed_6 ?_
  refine z_bipush (z := 20) C dX10_feed_9 (by decide) ?_
  refine z_iadd C dX10_feed_11 ?_
  refine z_sipush (z := 900) C dX10_feed_12 (by decide) ?_
  refine z_icmp_le (tgt := 20) C dX10_feed_15 (by decide) (by omega) (by omega) (fun _ => ?_) (fun h => absurd h (by omega))
  refine z_iconst (z := 0) C dX10_feed_20 rfl ?_
  refine z_istore (lv' := [(6, .int (zI (0))), (0, .ref (ad i)), (1, .int (zI (z))), (2, .int (zI (z1))), (3, .int (zI (z2))), (4, .int (zI (z3))), (5, .int (zI (z4)))]) C dX10_feed_21 (by decide) rfl ?_
  have lp : ∀ (n kk : Nat) (g1 : Nat → va_E) , kk + n = 20 → (g1 i = mC ad i (uZ mF0 12 (0))) → (∃ r1 : Nat → Int, g1 (i + 13) = iA cs 900 r1) → (oM i g g1) → zV p l e ({ frames := 1, cells := 0, slots := 0, locals := 60 } : Room) s m ([.ref (ad i), .int (zI z), .int (zI z1), .int (zI z2), .int (zI z3), .int (zI z4)] : List Value).toArray below meth c (MQ below (zPost D A (rI0 N ad fun r g' => r = 20 ∧ pM ad i g g' 0)) ([.ref (ad i), .int (zI z), .int (zI z1), .int (zI z2), .int (zI z3), .int (zI z4)] : List Value).toArray s ({ frames := 1, cells := 0, slots := 0, locals := 60 } : Room).cells ({ frames := 1, cells := 0, slots := 0, locals := 60 } : Room).slots A) D A 8 (N) ad g1 (0) (0) 23 [(6, .int (zI ((kk : Int)))), (0, .ref (ad i)), (1, .int (zI (z))), (2, .int (zI (z1))), (3, .int (zI (z2))), (4, .int (zI (z3))), (5, .int (zI (z4)))] [] := by
    intro n
    induction n with
    | zero =>
      intro kk g1  hkk f1 f2 f3
      have hay6 : zAt ad (i) (ad i) := rfl
      obtain ⟨r8, f4⟩ := f2
      have hay7 : zAt ad (i + 13) (ad (i + 13)) := rfl
      refine z_iload C 0 dX10_feed_23 rfl ?_
      refine z_bipush (z := 20) C dX10_feed_25 (by decide) ?_
      refine z_icmp_ge (tgt := 113) C dX10_feed_27 (by decide) (by omega) (by omega) (fun _ => ?_) (fun h => absurd h (by omega))
      refine z_aload_n C 1 dX10_feed_113 rfl ?_
      refine z_dup C dX10_feed_114 rfl ?_
      refine z_get (v := .int (zI (0))) C (by omega) hay6 f1 rfl inA_X10 23 (by decide) q_1482 rfl (fv (F := (uZ mF0 12 (0))) (f := 23) (fn rfl (by decide))) dX10_feed_115 ?_
      refine z_bipush (z := 20) C dX10_feed_118 (by decide) ?_
      refine z_iadd C dX10_feed_120 ?_
      refine z_put (fs' := mF ad (i) (uZ (uZ mF0 12 (0)) 23 (0 + 20))) C (by omega) hay6 f1 tyX10 tyX10_ok nmX10 rfl inA_X10 23 (by decide) q_1482 rfl rfl rfl rfl (Nat.le_of_ble_eq_true rfl) rfl dX10_feed_121 (fun gy8 egy9 => ?_)
      have hgy10 := up_s egy9
      refine z_aload_n C 1 dX10_feed_124 rfl ?_
      refine z_get (v := .int (zI (0 + 20))) C (by omega) hay6 hgy10 rfl inA_X10 23 (by decide) q_1482 rfl (fv (F := (uZ (uZ mF0 12 (0)) 23 (0 + 20))) (f := 23) (uZ_s _ _ _)) dX10_feed_125 ?_
      exact z_iret C hr hlk dX10_feed_128 (by decide) (by decide) ⟨20, rfl, rfl, rfl, rfl, ⟨⟨_, hgy10, (fn (uZ_s _ _ _) (by decide))⟩, fun j h1 => by rw [egy9, va_up_ne _ _ (by omega)]; exact f3 j h1⟩⟩
    | succ n ih =>
      intro kk g1  hkk f1 f2 f3
      have hay11 : zAt ad (i) (ad i) := rfl
      obtain ⟨r8, f4⟩ := f2
      have hay12 : zAt ad (i + 13) (ad (i + 13)) := rfl
      refine z_iload C 0 dX10_feed_23 rfl ?_
      refine z_bipush (z := 20) C dX10_feed_25 (by decide) ?_
      refine z_icmp_ge (tgt := 113) C dX10_feed_27 (by decide) (by omega) (by omega) (fun h => absurd h (by omega)) (fun _ => ?_)
      refine z_iload C 0 dX10_feed_30 rfl ?_
      refine z_iconst (z := 4) C dX10_feed_32 rfl ?_
      refine z_icmp_ge (tgt := 40) C dX10_feed_33 (by decide) (by omega) (by omega) (fun hb0 => ?_) (fun hb0 => ?_)
      · refine z_iload C 0 dX10_feed_40 rfl ?_
        refine z_bipush (z := 8) C dX10_feed_42 (by decide) ?_
        refine z_icmp_ge (tgt := 51) C dX10_feed_44 (by decide) (by omega) (by omega) (fun hb1 => ?_) (fun hb1 => ?_)
        · refine z_iload C 0 dX10_feed_51 rfl ?_
          refine z_bipush (z := 12) C dX10_feed_53 (by decide) ?_
          refine z_icmp_ge (tgt := 62) C dX10_feed_55 (by decide) (by omega) (by omega) (fun hb2 => ?_) (fun hb2 => ?_)
          · refine z_iload C 0 dX10_feed_62 rfl ?_
            refine z_bipush (z := 16) C dX10_feed_64 (by decide) ?_
            refine z_icmp_ge (tgt := 74) C dX10_feed_66 (by decide) (by omega) (by omega) (fun hb3 => ?_) (fun hb3 => ?_)
            · refine z_iload C 6 dX10_feed_74 rfl ?_
              refine z_istore (lv' := [(7, .int (zI (z4))), (6, .int (zI ((kk : Int)))), (0, .ref (ad i)), (1, .int (zI (z))), (2, .int (zI (z1))), (3, .int (zI (z2))), (4, .int (zI (z3))), (5, .int (zI (z4)))]) C dX10_feed_76 (by decide) rfl ?_
              refine z_aload_n C 2 dX10_feed_78 rfl ?_
              refine z_get (v := .ref (ad (i + 13))) C (by omega) hay11 f1 rfl inA_X10 22 (by decide) q_1481 rfl rfl dX10_feed_79 ?_
              refine z_aload_n C 2 dX10_feed_82 rfl ?_
              refine z_get (v := .int (zI (0))) C (by omega) hay11 f1 rfl inA_X10 23 (by decide) q_1482 rfl (fv (F := (uZ mF0 12 (0))) (f := 23) (fn rfl (by decide))) dX10_feed_83 ?_
              refine z_iload C 1 dX10_feed_86 rfl ?_
              refine z_iadd C dX10_feed_88 ?_
              refine z_iload C 0 dX10_feed_89 rfl ?_
              refine z_bipush (z := 24) C dX10_feed_91 (by decide) ?_
              refine z_bipush (z := 8) C dX10_feed_93 (by decide) ?_
              refine z_iload C 1 dX10_feed_95 rfl ?_
              refine z_iconst (z := 4) C dX10_feed_97 rfl ?_
              refine z_irem C dX10_feed_98 (by omega) (by omega) (by decide) ?_
              refine z_imul C dX10_feed_99 ?_
              refine z_isub C dX10_feed_100 ?_
              obtain ⟨x1, e1, -⟩ := zI_of (zI (z4) >>> (zI (24 - (8 * (((kk : Int)).tmod 4))) &&& 31))
              refine z_ishr (z := x1) C dX10_feed_101 e1 ?_
              refine z_sipush (z := 255) C dX10_feed_102 (by decide) ?_
              obtain ⟨x2, e2, -⟩ := zI_of (zI x1 &&& zI 255)
              refine z_iand (z := x2) C dX10_feed_105 e2 ?_
              refine z_iast C (by omega) hay12 f4 (kk) (by omega) (by omega) (by decide) dX10_feed_106 (fun gy13 egy14 => ?_)
              have hgy15 := up_s egy14
              refine z_iinc (z := ((kk + 1 : Nat) : Int)) (lv' := [(6, .int (zI (((kk + 1 : Nat) : Int)))), (7, .int (zI (z4))), (0, .ref (ad i)), (1, .int (zI (z))), (2, .int (zI (z1))), (3, .int (zI (z2))), (4, .int (zI (z3))), (5, .int (zI (z4)))]) (j := 1) C dX10_feed_107 rfl (congrArg zI (by omega)) (by decide) rfl ?_
              refine z_goto (tgt := 23) C dX10_feed_110 (by decide) ?_
              have hgy16 := up_n egy14 f1 (ne_o (i := i) (c := 0) (d := 13) rfl)
              refine z_lv (lv' := [(6, .int (zI (((kk + 1 : Nat) : Int)))), (0, .ref (ad i)), (1, .int (zI (z))), (2, .int (zI (z1))), (3, .int (zI (z2))), (4, .int (zI (z3))), (5, .int (zI (z4)))]) [0, 2, 3, 4, 5, 6, 7] rfl ?_
              exact ih (kk + 1) gy13 (by omega) hgy16 ⟨_, hgy15⟩ (fun j h1 => by rw [egy14, va_up_ne _ _ (by omega)]; exact f3 j h1)
            · refine z_iload C 5 dX10_feed_69 rfl ?_
              refine z_goto (tgt := 76) C dX10_feed_71 (by decide) ?_
              refine z_istore (lv' := [(7, .int (zI (z3))), (6, .int (zI ((kk : Int)))), (0, .ref (ad i)), (1, .int (zI (z))), (2, .int (zI (z1))), (3, .int (zI (z2))), (4, .int (zI (z3))), (5, .int (zI (z4)))]) C dX10_feed_76 (by decide) rfl ?_
              refine z_aload_n C 2 dX10_feed_78 rfl ?_
              refine z_get (v := .ref (ad (i + 13))) C (by omega) hay11 f1 rfl inA_X10 22 (by decide) q_1481 rfl rfl dX10_feed_79 ?_
              refine z_aload_n C 2 dX10_feed_82 rfl ?_
              refine z_get (v := .int (zI (0))) C (by omega) hay11 f1 rfl inA_X10 23 (by decide) q_1482 rfl (fv (F := (uZ mF0 12 (0))) (f := 23) (fn rfl (by decide))) dX10_feed_83 ?_
              refine z_iload C 1 dX10_feed_86 rfl ?_
              refine z_iadd C dX10_feed_88 ?_
              refine z_iload C 0 dX10_feed_89 rfl ?_
              refine z_bipush (z := 24) C dX10_feed_91 (by decide) ?_
              refine z_bipush (z := 8) C dX10_feed_93 (by decide) ?_
              refine z_iload C 1 dX10_feed_95 rfl ?_
              refine z_iconst (z := 4) C dX10_feed_97 rfl ?_
              refine z_irem C dX10_feed_98 (by omega) (by omega) (by decide) ?_
              refine z_imul C dX10_feed_99 ?_
              refine z_isub C dX10_feed_100 ?_
              obtain ⟨x1, e1, -⟩ := zI_of (zI (z3) >>> (zI (24 - (8 * (((kk : Int)).tmod 4))) &&& 31))
              refine z_ishr (z := x1) C dX10_feed_101 e1 ?_
              refine z_sipush (z := 255) C dX10_feed_102 (by decide) ?_
              obtain ⟨x2, e2, -⟩ := zI_of (zI x1 &&& zI 255)
              refine z_iand (z := x2) C dX10_feed_105 e2 ?_
              refine z_iast C (by omega) hay12 f4 (kk) (by omega) (by omega) (by decide) dX10_feed_106 (fun gy17 egy18 => ?_)
              have hgy19 := up_s egy18
              refine z_iinc (z := ((kk + 1 : Nat) : Int)) (lv' := [(6, .int (zI (((kk + 1 : Nat) : Int)))), (7, .int (zI (z3))), (0, .ref (ad i)), (1, .int (zI (z))), (2, .int (zI (z1))), (3, .int (zI (z2))), (4, .int (zI (z3))), (5, .int (zI (z4)))]) (j := 1) C dX10_feed_107 rfl (congrArg zI (by omega)) (by decide) rfl ?_
              refine z_goto (tgt := 23) C dX10_feed_110 (by decide) ?_
              have hgy20 := up_n egy18 f1 (ne_o (i := i) (c := 0) (d := 13) rfl)
              refine z_lv (lv' := [(6, .int (zI (((kk + 1 : Nat) : Int)))), (0, .ref (ad i)), (1, .int (zI (z))), (2, .int (zI (z1))), (3, .int (zI (z2))), (4, .int (zI (z3))), (5, .int (zI (z4)))]) [0, 2, 3, 4, 5, 6, 7] rfl ?_
              exact ih (kk + 1) gy17 (by omega) hgy20 ⟨_, hgy19⟩ (fun j h1 => by rw [egy18, va_up_ne _ _ (by omega)]; exact f3 j h1)
          · refine z_iload_n C 4 dX10_feed_58 rfl ?_
            refine z_goto (tgt := 76) C dX10_feed_59 (by decide) ?_
            refine z_istore (lv' := [(7, .int (zI (z2))), (6, .int (zI ((kk : Int)))), (0, .ref (ad i)), (1, .int (zI (z))), (2, .int (zI (z1))), (3, .int (zI (z2))), (4, .int (zI (z3))), (5, .int (zI (z4)))]) C dX10_feed_76 (by decide) rfl ?_
            refine z_aload_n C 2 dX10_feed_78 rfl ?_
            refine z_get (v := .ref (ad (i + 13))) C (by omega) hay11 f1 rfl inA_X10 22 (by decide) q_1481 rfl rfl dX10_feed_79 ?_
            refine z_aload_n C 2 dX10_feed_82 rfl ?_
            refine z_get (v := .int (zI (0))) C (by omega) hay11 f1 rfl inA_X10 23 (by decide) q_1482 rfl (fv (F := (uZ mF0 12 (0))) (f := 23) (fn rfl (by decide))) dX10_feed_83 ?_
            refine z_iload C 1 dX10_feed_86 rfl ?_
            refine z_iadd C dX10_feed_88 ?_
            refine z_iload C 0 dX10_feed_89 rfl ?_
            refine z_bipush (z := 24) C dX10_feed_91 (by decide) ?_
            refine z_bipush (z := 8) C dX10_feed_93 (by decide) ?_
            refine z_iload C 1 dX10_feed_95 rfl ?_
            refine z_iconst (z := 4) C dX10_feed_97 rfl ?_
            refine z_irem C dX10_feed_98 (by omega) (by omega) (by decide) ?_
            refine z_imul C dX10_feed_99 ?_
            refine z_isub C dX10_feed_100 ?_
            obtain ⟨x1, e1, -⟩ := zI_of (zI (z2) >>> (zI (24 - (8 * (((kk : Int)).tmod 4))) &&& 31))
            refine z_ishr (z := x1) C dX10_feed_101 e1 ?_
            refine z_sipush (z := 255) C dX10_feed_102 (by decide) ?_
            obtain ⟨x2, e2, -⟩ := zI_of (zI x1 &&& zI 255)
            refine z_iand (z := x2) C dX10_feed_105 e2 ?_
            refine z_iast C (by omega) hay12 f4 (kk) (by omega) (by omega) (by decide) dX10_feed_106 (fun gy21 egy22 => ?_)
            have hgy23 := up_s egy22
            refine z_iinc (z := ((kk + 1 : Nat) : Int)) (lv' := [(6, .int (zI (((kk + 1 : Nat) : Int)))), (7, .int (zI (z2))), (0, .ref (ad i)), (1, .int (zI (z))), (2, .int (zI (z1))), (3, .int (zI (z2))), (4, .int (zI (z3))), (5, .int (zI (z4)))]) (j := 1) C dX10_feed_107 rfl (congrArg zI (by omega)) (by decide) rfl ?_
            refine z_goto (tgt := 23) C dX10_feed_110 (by decide) ?_
            have hgy24 := up_n egy22 f1 (ne_o (i := i) (c := 0) (d := 13) rfl)
            refine z_lv (lv' := [(6, .int (zI (((kk + 1 : Nat) : Int)))), (0, .ref (ad i)), (1, .int (zI (z))), (2, .int (zI (z1))), (3, .int (zI (z2))), (4, .int (zI (z3))), (5, .int (zI (z4)))]) [0, 2, 3, 4, 5, 6, 7] rfl ?_
            exact ih (kk + 1) gy21 (by omega) hgy24 ⟨_, hgy23⟩ (fun j h1 => by rw [egy22, va_up_ne _ _ (by omega)]; exact f3 j h1)
        · refine z_iload_n C 3 dX10_feed_47 rfl ?_
          refine z_goto (tgt := 76) C dX10_feed_48 (by decide) ?_
          refine z_istore (lv' := [(7, .int (zI (z1))), (6, .int (zI ((kk : Int)))), (0, .ref (ad i)), (1, .int (zI (z))), (2, .int (zI (z1))), (3, .int (zI (z2))), (4, .int (zI (z3))), (5, .int (zI (z4)))]) C dX10_feed_76 (by decide) rfl ?_
          refine z_aload_n C 2 dX10_feed_78 rfl ?_
          refine z_get (v := .ref (ad (i + 13))) C (by omega) hay11 f1 rfl inA_X10 22 (by decide) q_1481 rfl rfl dX10_feed_79 ?_
          refine z_aload_n C 2 dX10_feed_82 rfl ?_
          refine z_get (v := .int (zI (0))) C (by omega) hay11 f1 rfl inA_X10 23 (by decide) q_1482 rfl (fv (F := (uZ mF0 12 (0))) (f := 23) (fn rfl (by decide))) dX10_feed_83 ?_
          refine z_iload C 1 dX10_feed_86 rfl ?_
          refine z_iadd C dX10_feed_88 ?_
          refine z_iload C 0 dX10_feed_89 rfl ?_
          refine z_bipush (z := 24) C dX10_feed_91 (by decide) ?_
          refine z_bipush (z := 8) C dX10_feed_93 (by decide) ?_
          refine z_iload C 1 dX10_feed_95 rfl ?_
          refine z_iconst (z := 4) C dX10_feed_97 rfl ?_
          refine z_irem C dX10_feed_98 (by omega) (by omega) (by decide) ?_
          refine z_imul C dX10_feed_99 ?_
          refine z_isub C dX10_feed_100 ?_
          obtain ⟨x1, e1, -⟩ := zI_of (zI (z1) >>> (zI (24 - (8 * (((kk : Int)).tmod 4))) &&& 31))
          refine z_ishr (z := x1) C dX10_feed_101 e1 ?_
          refine z_sipush (z := 255) C dX10_feed_102 (by decide) ?_
          obtain ⟨x2, e2, -⟩ := zI_of (zI x1 &&& zI 255)
          refine z_iand (z := x2) C dX10_feed_105 e2 ?_
          refine z_iast C (by omega) hay12 f4 (kk) (by omega) (by omega) (by decide) dX10_feed_106 (fun gy25 egy26 => ?_)
          have hgy27 := up_s egy26
          refine z_iinc (z := ((kk + 1 : Nat) : Int)) (lv' := [(6, .int (zI (((kk + 1 : Nat) : Int)))), (7, .int (zI (z1))), (0, .ref (ad i)), (1, .int (zI (z))), (2, .int (zI (z1))), (3, .int (zI (z2))), (4, .int (zI (z3))), (5, .int (zI (z4)))]) (j := 1) C dX10_feed_107 rfl (congrArg zI (by omega)) (by decide) rfl ?_
          refine z_goto (tgt := 23) C dX10_feed_110 (by decide) ?_
          have hgy28 := up_n egy26 f1 (ne_o (i := i) (c := 0) (d := 13) rfl)
          refine z_lv (lv' := [(6, .int (zI (((kk + 1 : Nat) : Int)))), (0, .ref (ad i)), (1, .int (zI (z))), (2, .int (zI (z1))), (3, .int (zI (z2))), (4, .int (zI (z3))), (5, .int (zI (z4)))]) [0, 2, 3, 4, 5, 6, 7] rfl ?_
          exact ih (kk + 1) gy25 (by omega) hgy28 ⟨_, hgy27⟩ (fun j h1 => by rw [egy26, va_up_ne _ _ (by omega)]; exact f3 j h1)
      · refine z_iload_n C 2 dX10_feed_36 rfl ?_
        refine z_goto (tgt := 76) C dX10_feed_37 (by decide) ?_
        refine z_istore (lv' := [(7, .int (zI (z))), (6, .int (zI ((kk : Int)))), (0, .ref (ad i)), (1, .int (zI (z))), (2, .int (zI (z1))), (3, .int (zI (z2))), (4, .int (zI (z3))), (5, .int (zI (z4)))]) C dX10_feed_76 (by decide) rfl ?_
        refine z_aload_n C 2 dX10_feed_78 rfl ?_
        refine z_get (v := .ref (ad (i + 13))) C (by omega) hay11 f1 rfl inA_X10 22 (by decide) q_1481 rfl rfl dX10_feed_79 ?_
        refine z_aload_n C 2 dX10_feed_82 rfl ?_
        refine z_get (v := .int (zI (0))) C (by omega) hay11 f1 rfl inA_X10 23 (by decide) q_1482 rfl (fv (F := (uZ mF0 12 (0))) (f := 23) (fn rfl (by decide))) dX10_feed_83 ?_
        refine z_iload C 1 dX10_feed_86 rfl ?_
        refine z_iadd C dX10_feed_88 ?_
        refine z_iload C 0 dX10_feed_89 rfl ?_
        refine z_bipush (z := 24) C dX10_feed_91 (by decide) ?_
        refine z_bipush (z := 8) C dX10_feed_93 (by decide) ?_
        refine z_iload C 1 dX10_feed_95 rfl ?_
        refine z_iconst (z := 4) C dX10_feed_97 rfl ?_
        refine z_irem C dX10_feed_98 (by omega) (by omega) (by decide) ?_
        refine z_imul C dX10_feed_99 ?_
        refine z_isub C dX10_feed_100 ?_
        obtain ⟨x1, e1, -⟩ := zI_of (zI (z) >>> (zI (24 - (8 * (((kk : Int)).tmod 4))) &&& 31))
        refine z_ishr (z := x1) C dX10_feed_101 e1 ?_
        refine z_sipush (z := 255) C dX10_feed_102 (by decide) ?_
        obtain ⟨x2, e2, -⟩ := zI_of (zI x1 &&& zI 255)
        refine z_iand (z := x2) C dX10_feed_105 e2 ?_
        refine z_iast C (by omega) hay12 f4 (kk) (by omega) (by omega) (by decide) dX10_feed_106 (fun gy29 egy30 => ?_)
        have hgy31 := up_s egy30
        refine z_iinc (z := ((kk + 1 : Nat) : Int)) (lv' := [(6, .int (zI (((kk + 1 : Nat) : Int)))), (7, .int (zI (z))), (0, .ref (ad i)), (1, .int (zI (z))), (2, .int (zI (z1))), (3, .int (zI (z2))), (4, .int (zI (z3))), (5, .int (zI (z4)))]) (j := 1) C dX10_feed_107 rfl (congrArg zI (by omega)) (by decide) rfl ?_
        refine z_goto (tgt := 23) C dX10_feed_110 (by decide) ?_
        have hgy32 := up_n egy30 f1 (ne_o (i := i) (c := 0) (d := 13) rfl)
        refine z_lv (lv' := [(6, .int (zI (((kk + 1 : Nat) : Int)))), (0, .ref (ad i)), (1, .int (zI (z))), (2, .int (zI (z1))), (3, .int (zI (z2))), (4, .int (zI (z3))), (5, .int (zI (z4)))]) [0, 2, 3, 4, 5, 6, 7] rfl ?_
        exact ih (kk + 1) gy29 (by omega) hgy32 ⟨_, hgy31⟩ (fun j h1 => by rw [egy30, va_up_ne _ _ (by omega)]; exact f3 j h1)
  have hgy33 := up_n egy4 a13 (ne_o (i := i) (c := 13) (d := 0) rfl)
  refine z_lv (lv' := [(6, .int (zI (((0 : Nat) : Int)))), (0, .ref (ad i)), (1, .int (zI (z))), (2, .int (zI (z1))), (3, .int (zI (z2))), (4, .int (zI (z3))), (5, .int (zI (z4)))]) [0, 1, 2, 3, 4, 5, 6] rfl ?_
  exact lp 20 0 gy3  (by omega) hgy5 ⟨_, hgy33⟩ (fun j h1 => by rw [egy4, va_up_ne _ _ (by omega)])

set_option maxRecDepth 100000 in
set_option maxHeartbeats 4000000 in
theorem c_X10_allLayers0 (l : Launch) (D : va_G) (A : Nat → Prop) (cs : Nat → ClassId) (tt : Nat) (N : Nat) (ad : Nat → Nat) (g : Nat → va_E) (i : Nat) (hN : i + 30 ≤ N) (F : Nat → Int) (hg : g i = mC ad i F) (h13 : F 13 = 0) : zM l yX10_allLayers cX10_allLayers 3 (some .int) ({ frames := 1, cells := 0, slots := 0, locals := 60 } : Room) D A cs tt N ad g [.ref (ad i)] (rI0 N ad fun r g' => r = 0 ∧ g = g') := by
  have hay1 : zAt ad (i) (ad i) := rfl
  refine z_of (by decide) (Nat.le_of_ble_eq_true rfl) ?_
  intro p e s m below meth c C hr hlk hnm
  refine z_lv (lv' := [(0, .ref (ad i))]) [0] rfl ?_
  refine z_iconst (z := 0) C dX10_allLayers_0 rfl ?_
  refine z_istore_n (lv' := [(1, .int (zI (0))), (0, .ref (ad i))]) C dX10_allLayers_1 rfl (by decide) rfl ?_
  refine z_iconst (z := 0) C dX10_allLayers_2 rfl ?_
  refine z_istore_n (lv' := [(2, .int (zI (0))), (1, .int (zI (0))), (0, .ref (ad i))]) C dX10_allLayers_3 rfl (by decide) rfl ?_
  refine z_iload_n C 0 dX10_allLayers_4 rfl ?_
  refine z_aload_n C 2 dX10_allLayers_5 rfl ?_
  refine z_get (v := .int (zI (0))) C (by omega) hay1 hg rfl inA_X10 13 (by decide) q_1472 rfl (fv (F := F) (f := 13) h13) dX10_allLayers_6 ?_
  refine z_icmp_ge (tgt := 27) C dX10_allLayers_9 (by decide) (by omega) (by omega) (fun _ => ?_) (fun h => absurd h (by omega))
  refine z_iload_n C 1 dX10_allLayers_27 rfl ?_
  exact z_iret C hr hlk dX10_allLayers_28 (by decide) (by decide) ⟨0, rfl, rfl, rfl, rfl, rfl⟩

set_option maxRecDepth 100000 in
set_option maxHeartbeats 4000000 in
theorem c_X10_allRunoff0 (l : Launch) (D : va_G) (A : Nat → Prop) (cs : Nat → ClassId) (tt : Nat) (N : Nat) (ad : Nat → Nat) (g : Nat → va_E) (i : Nat) (hN : i + 30 ≤ N) (F : Nat → Int) (hg : g i = mC ad i F) (h13 : F 13 = 0) : zM l yX10_allRunoff cX10_allRunoff 3 (some .int) ({ frames := 1, cells := 0, slots := 0, locals := 60 } : Room) D A cs tt N ad g [.ref (ad i)] (rI0 N ad fun r g' => r = 0 ∧ g = g') := by
  have hay1 : zAt ad (i) (ad i) := rfl
  refine z_of (by decide) (Nat.le_of_ble_eq_true rfl) ?_
  intro p e s m below meth c C hr hlk hnm
  refine z_lv (lv' := [(0, .ref (ad i))]) [0] rfl ?_
  refine z_iconst (z := 0) C dX10_allRunoff_0 rfl ?_
  refine z_istore_n (lv' := [(1, .int (zI (0))), (0, .ref (ad i))]) C dX10_allRunoff_1 rfl (by decide) rfl ?_
  refine z_iconst (z := 0) C dX10_allRunoff_2 rfl ?_
  refine z_istore_n (lv' := [(2, .int (zI (0))), (1, .int (zI (0))), (0, .ref (ad i))]) C dX10_allRunoff_3 rfl (by decide) rfl ?_
  refine z_iload_n C 0 dX10_allRunoff_4 rfl ?_
  refine z_aload_n C 2 dX10_allRunoff_5 rfl ?_
  refine z_get (v := .int (zI (0))) C (by omega) hay1 hg rfl inA_X10 13 (by decide) q_1472 rfl (fv (F := F) (f := 13) h13) dX10_allRunoff_6 ?_
  refine z_icmp_ge (tgt := 35) C dX10_allRunoff_9 (by decide) (by omega) (by omega) (fun _ => ?_) (fun h => absurd h (by omega))
  refine z_iload_n C 1 dX10_allRunoff_35 rfl ?_
  exact z_iret C hr hlk dX10_allRunoff_36 (by decide) (by decide) ⟨0, rfl, rfl, rfl, rfl, rfl⟩

set_option maxRecDepth 100000 in
set_option maxHeartbeats 4000000 in
theorem c_X10_allWeight0 (l : Launch) (D : va_G) (A : Nat → Prop) (cs : Nat → ClassId) (tt : Nat) (N : Nat) (ad : Nat → Nat) (g : Nat → va_E) (i : Nat) (hN : i + 30 ≤ N) (F : Nat → Int) (hg : g i = mC ad i F) (h13 : F 13 = 0) : zM l yX10_allWeight cX10_allWeight 3 (some .int) ({ frames := 1, cells := 0, slots := 0, locals := 60 } : Room) D A cs tt N ad g [.ref (ad i)] (rI0 N ad fun r g' => r = 0 ∧ g = g') := by
  have hay1 : zAt ad (i) (ad i) := rfl
  refine z_of (by decide) (Nat.le_of_ble_eq_true rfl) ?_
  intro p e s m below meth c C hr hlk hnm
  refine z_lv (lv' := [(0, .ref (ad i))]) [0] rfl ?_
  refine z_iconst (z := 0) C dX10_allWeight_0 rfl ?_
  refine z_istore_n (lv' := [(1, .int (zI (0))), (0, .ref (ad i))]) C dX10_allWeight_1 rfl (by decide) rfl ?_
  refine z_iconst (z := 0) C dX10_allWeight_2 rfl ?_
  refine z_istore_n (lv' := [(2, .int (zI (0))), (1, .int (zI (0))), (0, .ref (ad i))]) C dX10_allWeight_3 rfl (by decide) rfl ?_
  refine z_iload_n C 0 dX10_allWeight_4 rfl ?_
  refine z_aload_n C 2 dX10_allWeight_5 rfl ?_
  refine z_get (v := .int (zI (0))) C (by omega) hay1 hg rfl inA_X10 13 (by decide) q_1472 rfl (fv (F := F) (f := 13) h13) dX10_allWeight_6 ?_
  refine z_icmp_ge (tgt := 36) C dX10_allWeight_9 (by decide) (by omega) (by omega) (fun _ => ?_) (fun h => absurd h (by omega))
  refine z_iload_n C 1 dX10_allWeight_36 rfl ?_
  exact z_iret C hr hlk dX10_allWeight_37 (by decide) (by decide) ⟨0, rfl, rfl, rfl, rfl, rfl⟩

set_option maxRecDepth 100000 in
set_option maxHeartbeats 4000000 in
theorem c_X10_worst0 (l : Launch) (D : va_G) (A : Nat → Prop) (cs : Nat → ClassId) (tt : Nat) (N : Nat) (ad : Nat → Nat) (g : Nat → va_E) (i : Nat) (hN : i + 30 ≤ N) (F : Nat → Int) (hg : g i = mC ad i F) (h13 : F 13 = 0) : zM l yX10_worst cX10_worst 3 (some .int) ({ frames := 1, cells := 0, slots := 0, locals := 60 } : Room) D A cs tt N ad g [.ref (ad i)] (rI0 N ad fun r g' => r = -1 ∧ g = g') := by
  have hay1 : zAt ad (i) (ad i) := rfl
  refine z_of (by decide) (Nat.le_of_ble_eq_true rfl) ?_
  intro p e s m below meth c C hr hlk hnm
  refine z_lv (lv' := [(0, .ref (ad i))]) [0] rfl ?_
  refine z_iconst (z := -1) C dX10_worst_0 rfl ?_
  refine z_istore_n (lv' := [(1, .int (zI (-1))), (0, .ref (ad i))]) C dX10_worst_1 rfl (by decide) rfl ?_
  refine z_iconst (z := 0) C dX10_worst_2 rfl ?_
  refine z_istore_n (lv' := [(2, .int (zI (0))), (1, .int (zI (-1))), (0, .ref (ad i))]) C dX10_worst_3 rfl (by decide) rfl ?_
  refine z_iload_n C 0 dX10_worst_4 rfl ?_
  refine z_aload_n C 2 dX10_worst_5 rfl ?_
  refine z_get (v := .int (zI (0))) C (by omega) hay1 hg rfl inA_X10 13 (by decide) q_1472 rfl (fv (F := F) (f := 13) h13) dX10_worst_6 ?_
  refine z_icmp_ge (tgt := 40) C dX10_worst_9 (by decide) (by omega) (by omega) (fun _ => ?_) (fun h => absurd h (by omega))
  refine z_iload_n C 1 dX10_worst_40 rfl ?_
  exact z_iret C hr hlk dX10_worst_41 (by decide) (by decide) ⟨-1, rfl, rfl, rfl, rfl, rfl⟩

set_option maxRecDepth 100000 in
set_option maxHeartbeats 4000000 in
theorem c_X10_count (l : Launch) (D : va_G) (A : Nat → Prop) (cs : Nat → ClassId) (tt : Nat) (N : Nat) (ad : Nat → Nat) (g : Nat → va_E) (i : Nat) (hN : i + 30 ≤ N) (hM : isM0 cs ad g i) (z : Int) (hz : -2147483648 ≤ z ∧ z ≤ 2147483647) : zM l yX10_count cX10_count 2 (some .int) ({ frames := 3, cells := 0, slots := 0, locals := 180 } : Room) D A cs tt N ad g [.ref (ad i), .int (zI z)] (rI0 N ad fun r g' => (0 ≤ z ∧ z ≤ 17 → r = (if z = 10 then -1 else 0)) ∧ pM ad i g g' (if 0 ≤ z ∧ z ≤ 17 then 0 else 1)) := by
  obtain ⟨B, ⟨hg, hA⟩, hB7, hB0⟩ := id hM
  have hay1 : zAt ad (i) (ad i) := rfl
  have a1 : g (i + 1) = iA cs 29200 (B 1) := hA 1 (by decide) (by decide)
  have hay2 : zAt ad (i + 1) (ad (i + 1)) := rfl
  have a11 : g (i + 11) = iA cs 6 (B 11) := hA 11 (by decide) (by decide)
  have hay3 : zAt ad (i + 11) (ad (i + 11)) := rfl
  refine z_of (by decide) (Nat.le_of_ble_eq_true rfl) ?_
  intro p e s m below meth c C hr hlk hnm
  refine z_lv (lv' := [(0, .ref (ad i)), (1, .int (zI (z)))]) [0, 1] rfl ?_
  refine z_aload_n C 0 dX10_count_0 rfl ?_
  refine z_iconst (z := 0) C dX10_count_1 rfl ?_
  refine z_put (fs' := mF ad (i) (uZ mF0 12 (0))) C (by omega) hay1 hg tyX10 tyX10_ok nmX10 rfl inA_X10 12 (by decide) q_1471 rfl rfl rfl rfl (Nat.le_of_ble_eq_true rfl) rfl dX10_count_2 (fun gy4 egy5 => ?_)
  have hgy6 := up_s egy5
  refine z_aload_n C 0 dX10_count_5 rfl ?_
  refine z_iload_n C 1 dX10_count_6 rfl ?_
  refine z_iconst (z := 0) C dX10_count_7 rfl ?_
  refine z_bipush (z := 17) C dX10_count_8 (by decide) ?_
  by_cases hw9 : 0 ≤ z ∧ z ≤ 17
  · refine z_cS (As := [.int (zI (z)), .int (zI (0)), .int (zI (17))]) (rest := [.ref (ad i)]) C (c_X10_within l D A cs tt N ad _ (z) (0) (17) (by omega) (by omega) (by omega)) ms_yX10_within q_1690 hd_yX10_within (by decide) (Nat.le_of_ble_eq_true rfl) (by decide) dX10_count_10 rfl (kI0 fun qy9 gqy9 hqy9 => ?_)
    obtain ⟨eqy9, rfl⟩ := hqy9
    rw [if_pos (by omega)] at eqy9
    subst eqy9
    refine z_iconst (z := 1) C dX10_count_13 rfl ?_
    refine z_cV (As := [.int (zI (1)), .int (zI (1))]) (rest := []) (ci := 12) C (c_X10_right1 l D A cs tt N ad _ i hN _ hgy6 (uZ_s _ _ _) 1) (by omega) hay1 hgy6 rfl rfl mv_yX10_right q_1652 hd_yX10_right (by decide) (Nat.le_of_ble_eq_true rfl) (by decide) dX10_count_14 rfl (kI0 fun qy10 gqy10 hqy10 => ?_)
    obtain ⟨rfl, rfl⟩ := hqy10
    refine z_if_ne (tgt := 22) C dX10_count_17 (by decide) (by omega) (fun _ => ?_) (fun h => absurd h (by omega))
    refine z_iload_n C 1 dX10_count_22 rfl ?_
    by_cases hsw : z < 0 ∨ 14 < z
    · refine z_tout (tgt := 183) C dX10_count_23 (by omega) hsw (by decide) ?_
      refine z_aload_n C 0 dX10_count_183 rfl ?_
      refine z_get (v := .ref (ad (i + 11))) C (by omega) hay1 hgy6 rfl inA_X10 10 (by decide) q_1469 rfl rfl dX10_count_184 ?_
      refine z_iload_n C 1 dX10_count_187 rfl ?_
      refine z_bipush (z := 15) C dX10_count_188 (by decide) ?_
      refine z_isub C dX10_count_190 ?_
      have hgy11 := up_n egy5 a11 (ne_o (i := i) (c := 11) (d := 0) rfl)
      refine z_iald C (by omega) hay3 hgy11 ((z - 15).toNat) (by omega) (by omega) (by decide) dX10_count_191 ?_
      rw [show (B 11) ((z - 15).toNat) = 0 from (hB0 11 (by decide)) _]
      exact z_iret C hr hlk dX10_count_192 (by decide) (by decide) ⟨0, rfl, rfl, rfl, fun _ => by rw [if_neg (by omega)], by rw [if_pos hw9]; exact ⟨⟨_, hgy6, (uZ_s _ _ _)⟩, fun j h1 => by rw [egy5, va_up_ne _ _ (by omega)]⟩⟩
    · rcases (show z = 0 ∨ z = 1 ∨ z = 2 ∨ z = 3 ∨ z = 4 ∨ z = 5 ∨ z = 6 ∨ z = 7 ∨ z = 8 ∨ z = 9 ∨ z = 10 ∨ z = 11 ∨ z = 12 ∨ z = 13 ∨ z = 14 by omega) with rfl | rfl | rfl | rfl | rfl | rfl | rfl | rfl | rfl | rfl | rfl | rfl | rfl | rfl | rfl
      · refine z_tin (off := 73) (tgt := 96) C dX10_count_23 (by omega) (by omega) (by omega) rfl (by decide) ?_
        refine z_aload_n C 0 dX10_count_96 rfl ?_
        refine z_get (v := .int (zI (0))) C (by omega) hay1 hgy6 rfl inA_X10 13 (by decide) q_1472 rfl (fv (F := (uZ mF0 12 (0))) (f := 13) (fn rfl (by decide))) dX10_count_97 ?_
        exact z_iret C hr hlk dX10_count_100 (by decide) (by decide) ⟨0, rfl, rfl, rfl, fun _ => rfl, by rw [if_pos hw9]; exact ⟨⟨_, hgy6, (uZ_s _ _ _)⟩, fun j h1 => by rw [egy5, va_up_ne _ _ (by omega)]⟩⟩
      · refine z_tin (off := 78) (tgt := 101) C dX10_count_23 (by omega) (by omega) (by omega) rfl (by decide) ?_
        refine z_aload_n C 0 dX10_count_101 rfl ?_
        refine z_get (v := .int (zI (0))) C (by omega) hay1 hgy6 rfl inA_X10 14 (by decide) q_1473 rfl (fv (F := (uZ mF0 12 (0))) (f := 14) (fn rfl (by decide))) dX10_count_102 ?_
        exact z_iret C hr hlk dX10_count_105 (by decide) (by decide) ⟨0, rfl, rfl, rfl, fun _ => rfl, by rw [if_pos hw9]; exact ⟨⟨_, hgy6, (uZ_s _ _ _)⟩, fun j h1 => by rw [egy5, va_up_ne _ _ (by omega)]⟩⟩
      · refine z_tin (off := 83) (tgt := 106) C dX10_count_23 (by omega) (by omega) (by omega) rfl (by decide) ?_
        refine z_aload_n C 0 dX10_count_106 rfl ?_
        refine z_get (v := .ref (ad (i + 1))) C (by omega) hay1 hgy6 rfl inA_X10 0 (by decide) q_1459 rfl rfl dX10_count_107 ?_
        refine z_iconst (z := 0) C dX10_count_110 rfl ?_
        have hgy12 := up_n egy5 a1 (ne_o (i := i) (c := 1) (d := 0) rfl)
        refine z_iald C (by omega) hay2 hgy12 (0) (by omega) (by omega) (by decide) dX10_count_111 ?_
        rw [show (B 1) (0) = 0 from (hB0 1 (by decide)) _]
        exact z_iret C hr hlk dX10_count_112 (by decide) (by decide) ⟨0, rfl, rfl, rfl, fun _ => rfl, by rw [if_pos hw9]; exact ⟨⟨_, hgy6, (uZ_s _ _ _)⟩, fun j h1 => by rw [egy5, va_up_ne _ _ (by omega)]⟩⟩
      · refine z_tin (off := 90) (tgt := 113) C dX10_count_23 (by omega) (by omega) (by omega) rfl (by decide) ?_
        refine z_aload_n C 0 dX10_count_113 rfl ?_
        refine z_cV (As := []) (rest := []) (ci := 12) C (c_X10_allLayers0 l D A cs tt N ad _ i hN _ hgy6 (fn rfl (by decide))) (by omega) hay1 hgy6 rfl rfl mv_yX10_allLayers q_1733 hd_yX10_allLayers (by decide) (Nat.le_of_ble_eq_true rfl) (by decide) dX10_count_114 rfl (kI0 fun rx gx hx => ?_)
        obtain ⟨rfl, rfl⟩ := hx
        exact z_iret C hr hlk dX10_count_117 (by decide) (by decide) ⟨0, rfl, rfl, rfl, fun _ => rfl, by rw [if_pos hw9]; exact ⟨⟨_, hgy6, (uZ_s _ _ _)⟩, fun j h1 => by rw [egy5, va_up_ne _ _ (by omega)]⟩⟩
      · refine z_tin (off := 95) (tgt := 118) C dX10_count_23 (by omega) (by omega) (by omega) rfl (by decide) ?_
        refine z_aload_n C 0 dX10_count_118 rfl ?_
        refine z_get (v := .ref (ad (i + 1))) C (by omega) hay1 hgy6 rfl inA_X10 0 (by decide) q_1459 rfl rfl dX10_count_119 ?_
        refine z_iconst (z := 1) C dX10_count_122 rfl ?_
        have hgy13 := up_n egy5 a1 (ne_o (i := i) (c := 1) (d := 0) rfl)
        refine z_iald C (by omega) hay2 hgy13 (1) (by omega) (by omega) (by decide) dX10_count_123 ?_
        rw [show (B 1) (1) = 0 from (hB0 1 (by decide)) _]
        exact z_iret C hr hlk dX10_count_124 (by decide) (by decide) ⟨0, rfl, rfl, rfl, fun _ => rfl, by rw [if_pos hw9]; exact ⟨⟨_, hgy6, (uZ_s _ _ _)⟩, fun j h1 => by rw [egy5, va_up_ne _ _ (by omega)]⟩⟩
      · refine z_tin (off := 102) (tgt := 125) C dX10_count_23 (by omega) (by omega) (by omega) rfl (by decide) ?_
        refine z_aload_n C 0 dX10_count_125 rfl ?_
        refine z_cV (As := []) (rest := []) (ci := 12) C (c_X10_allRunoff0 l D A cs tt N ad _ i hN _ hgy6 (fn rfl (by decide))) (by omega) hay1 hgy6 rfl rfl mv_yX10_allRunoff q_1741 hd_yX10_allRunoff (by decide) (Nat.le_of_ble_eq_true rfl) (by decide) dX10_count_126 rfl (kI0 fun rx gx hx => ?_)
        obtain ⟨rfl, rfl⟩ := hx
        exact z_iret C hr hlk dX10_count_129 (by decide) (by decide) ⟨0, rfl, rfl, rfl, fun _ => rfl, by rw [if_pos hw9]; exact ⟨⟨_, hgy6, (uZ_s _ _ _)⟩, fun j h1 => by rw [egy5, va_up_ne _ _ (by omega)]⟩⟩
      · refine z_tin (off := 107) (tgt := 130) C dX10_count_23 (by omega) (by omega) (by omega) rfl (by decide) ?_
        refine z_aload_n C 0 dX10_count_130 rfl ?_
        refine z_get (v := .ref (ad (i + 1))) C (by omega) hay1 hgy6 rfl inA_X10 0 (by decide) q_1459 rfl rfl dX10_count_131 ?_
        refine z_iconst (z := 2) C dX10_count_134 rfl ?_
        have hgy14 := up_n egy5 a1 (ne_o (i := i) (c := 1) (d := 0) rfl)
        refine z_iald C (by omega) hay2 hgy14 (2) (by omega) (by omega) (by decide) dX10_count_135 ?_
        rw [show (B 1) (2) = 0 from (hB0 1 (by decide)) _]
        exact z_iret C hr hlk dX10_count_136 (by decide) (by decide) ⟨0, rfl, rfl, rfl, fun _ => rfl, by rw [if_pos hw9]; exact ⟨⟨_, hgy6, (uZ_s _ _ _)⟩, fun j h1 => by rw [egy5, va_up_ne _ _ (by omega)]⟩⟩
      · refine z_tin (off := 114) (tgt := 137) C dX10_count_23 (by omega) (by omega) (by omega) rfl (by decide) ?_
        refine z_aload_n C 0 dX10_count_137 rfl ?_
        refine z_get (v := .ref (ad (i + 1))) C (by omega) hay1 hgy6 rfl inA_X10 0 (by decide) q_1459 rfl rfl dX10_count_138 ?_
        refine z_iconst (z := 3) C dX10_count_141 rfl ?_
        have hgy15 := up_n egy5 a1 (ne_o (i := i) (c := 1) (d := 0) rfl)
        refine z_iald C (by omega) hay2 hgy15 (3) (by omega) (by omega) (by decide) dX10_count_142 ?_
        rw [show (B 1) (3) = 0 from (hB0 1 (by decide)) _]
        exact z_iret C hr hlk dX10_count_143 (by decide) (by decide) ⟨0, rfl, rfl, rfl, fun _ => rfl, by rw [if_pos hw9]; exact ⟨⟨_, hgy6, (uZ_s _ _ _)⟩, fun j h1 => by rw [egy5, va_up_ne _ _ (by omega)]⟩⟩
      · refine z_tin (off := 121) (tgt := 144) C dX10_count_23 (by omega) (by omega) (by omega) rfl (by decide) ?_
        refine z_aload_n C 0 dX10_count_144 rfl ?_
        refine z_get (v := .ref (ad (i + 1))) C (by omega) hay1 hgy6 rfl inA_X10 0 (by decide) q_1459 rfl rfl dX10_count_145 ?_
        refine z_iconst (z := 4) C dX10_count_148 rfl ?_
        have hgy16 := up_n egy5 a1 (ne_o (i := i) (c := 1) (d := 0) rfl)
        refine z_iald C (by omega) hay2 hgy16 (4) (by omega) (by omega) (by decide) dX10_count_149 ?_
        rw [show (B 1) (4) = 0 from (hB0 1 (by decide)) _]
        exact z_iret C hr hlk dX10_count_150 (by decide) (by decide) ⟨0, rfl, rfl, rfl, fun _ => rfl, by rw [if_pos hw9]; exact ⟨⟨_, hgy6, (uZ_s _ _ _)⟩, fun j h1 => by rw [egy5, va_up_ne _ _ (by omega)]⟩⟩
      · refine z_tin (off := 128) (tgt := 151) C dX10_count_23 (by omega) (by omega) (by omega) rfl (by decide) ?_
        refine z_aload_n C 0 dX10_count_151 rfl ?_
        refine z_cV (As := []) (rest := []) (ci := 12) C (c_X10_allWeight0 l D A cs tt N ad _ i hN _ hgy6 (fn rfl (by decide))) (by omega) hay1 hgy6 rfl rfl mv_yX10_allWeight q_1745 hd_yX10_allWeight (by decide) (Nat.le_of_ble_eq_true rfl) (by decide) dX10_count_152 rfl (kI0 fun rx gx hx => ?_)
        obtain ⟨rfl, rfl⟩ := hx
        exact z_iret C hr hlk dX10_count_155 (by decide) (by decide) ⟨0, rfl, rfl, rfl, fun _ => rfl, by rw [if_pos hw9]; exact ⟨⟨_, hgy6, (uZ_s _ _ _)⟩, fun j h1 => by rw [egy5, va_up_ne _ _ (by omega)]⟩⟩
      · refine z_tin (off := 133) (tgt := 156) C dX10_count_23 (by omega) (by omega) (by omega) rfl (by decide) ?_
        refine z_aload_n C 0 dX10_count_156 rfl ?_
        refine z_cV (As := []) (rest := []) (ci := 12) C (c_X10_worst0 l D A cs tt N ad _ i hN _ hgy6 (fn rfl (by decide))) (by omega) hay1 hgy6 rfl rfl mv_yX10_worst q_1760 hd_yX10_worst (by decide) (Nat.le_of_ble_eq_true rfl) (by decide) dX10_count_157 rfl (kI0 fun rx gx hx => ?_)
        obtain ⟨rfl, rfl⟩ := hx
        exact z_iret C hr hlk dX10_count_160 (by decide) (by decide) ⟨-1, rfl, rfl, rfl, fun _ => rfl, by rw [if_pos hw9]; exact ⟨⟨_, hgy6, (uZ_s _ _ _)⟩, fun j h1 => by rw [egy5, va_up_ne _ _ (by omega)]⟩⟩
      · refine z_tin (off := 138) (tgt := 161) C dX10_count_23 (by omega) (by omega) (by omega) rfl (by decide) ?_
        refine z_aload_n C 0 dX10_count_161 rfl ?_
        refine z_get (v := .ref (ad (i + 1))) C (by omega) hay1 hgy6 rfl inA_X10 0 (by decide) q_1459 rfl rfl dX10_count_162 ?_
        refine z_iconst (z := 5) C dX10_count_165 rfl ?_
        have hgy17 := up_n egy5 a1 (ne_o (i := i) (c := 1) (d := 0) rfl)
        refine z_iald C (by omega) hay2 hgy17 (5) (by omega) (by omega) (by decide) dX10_count_166 ?_
        rw [show (B 1) (5) = 0 from (hB0 1 (by decide)) _]
        exact z_iret C hr hlk dX10_count_167 (by decide) (by decide) ⟨0, rfl, rfl, rfl, fun _ => rfl, by rw [if_pos hw9]; exact ⟨⟨_, hgy6, (uZ_s _ _ _)⟩, fun j h1 => by rw [egy5, va_up_ne _ _ (by omega)]⟩⟩
      · refine z_tin (off := 145) (tgt := 168) C dX10_count_23 (by omega) (by omega) (by omega) rfl (by decide) ?_
        refine z_aload_n C 0 dX10_count_168 rfl ?_
        refine z_get (v := .int (zI (0))) C (by omega) hay1 hgy6 rfl inA_X10 15 (by decide) q_1474 rfl (fv (F := (uZ mF0 12 (0))) (f := 15) (fn rfl (by decide))) dX10_count_169 ?_
        exact z_iret C hr hlk dX10_count_172 (by decide) (by decide) ⟨0, rfl, rfl, rfl, fun _ => rfl, by rw [if_pos hw9]; exact ⟨⟨_, hgy6, (uZ_s _ _ _)⟩, fun j h1 => by rw [egy5, va_up_ne _ _ (by omega)]⟩⟩
      · refine z_tin (off := 150) (tgt := 173) C dX10_count_23 (by omega) (by omega) (by omega) rfl (by decide) ?_
        refine z_aload_n C 0 dX10_count_173 rfl ?_
        refine z_get (v := .int (zI (0))) C (by omega) hay1 hgy6 rfl inA_X10 17 (by decide) q_1476 rfl (fv (F := (uZ mF0 12 (0))) (f := 17) (fn rfl (by decide))) dX10_count_174 ?_
        exact z_iret C hr hlk dX10_count_177 (by decide) (by decide) ⟨0, rfl, rfl, rfl, fun _ => rfl, by rw [if_pos hw9]; exact ⟨⟨_, hgy6, (uZ_s _ _ _)⟩, fun j h1 => by rw [egy5, va_up_ne _ _ (by omega)]⟩⟩
      · refine z_tin (off := 155) (tgt := 178) C dX10_count_23 (by omega) (by omega) (by omega) rfl (by decide) ?_
        refine z_aload_n C 0 dX10_count_178 rfl ?_
        refine z_get (v := .int (zI (0))) C (by omega) hay1 hgy6 rfl inA_X10 23 (by decide) q_1482 rfl (fv (F := (uZ mF0 12 (0))) (f := 23) (fn rfl (by decide))) dX10_count_179 ?_
        exact z_iret C hr hlk dX10_count_182 (by decide) (by decide) ⟨0, rfl, rfl, rfl, fun _ => rfl, by rw [if_pos hw9]; exact ⟨⟨_, hgy6, (uZ_s _ _ _)⟩, fun j h1 => by rw [egy5, va_up_ne _ _ (by omega)]⟩⟩
  · refine z_cS (As := [.int (zI (z)), .int (zI (0)), .int (zI (17))]) (rest := [.ref (ad i)]) C (c_X10_within l D A cs tt N ad _ (z) (0) (17) (by omega) (by omega) (by omega)) ms_yX10_within q_1690 hd_yX10_within (by decide) (Nat.le_of_ble_eq_true rfl) (by decide) dX10_count_10 rfl (kI0 fun qy7 gqy7 hqy7 => ?_)
    obtain ⟨eqy7, rfl⟩ := hqy7
    rw [if_neg (by omega)] at eqy7
    subst eqy7
    refine z_iconst (z := 1) C dX10_count_13 rfl ?_
    refine z_cV (As := [.int (zI (0)), .int (zI (1))]) (rest := []) (ci := 12) C (c_X10_right0 l D A cs tt N ad _ i hN _ hgy6 (uZ_s _ _ _) 1 (by decide)) (by omega) hay1 hgy6 rfl rfl mv_yX10_right q_1652 hd_yX10_right (by decide) (Nat.le_of_ble_eq_true rfl) (by decide) dX10_count_14 rfl (kI0 fun qy8 gqy8 hqy8 => ?_)
    obtain ⟨rfl, hcqy8, hfqy8⟩ := hqy8
    refine z_if_ne (tgt := 22) C dX10_count_17 (by decide) (by omega) (fun h => absurd h (by omega)) (fun _ => ?_)
    refine z_iconst (z := 0) C dX10_count_20 rfl ?_
    exact z_iret C hr hlk dX10_count_21 (by decide) (by decide) ⟨0, rfl, rfl, rfl, fun h => absurd h hw9, by rw [if_neg hw9]; exact ⟨⟨_, hcqy8, (uZ_s _ _ _)⟩, fun j h1 => by rw [hfqy8 _ (by omega)]; rw [egy5, va_up_ne _ _ (by omega)]⟩⟩

set_option maxRecDepth 100000 in
set_option maxHeartbeats 4000000 in
theorem c_X10_byteAt0 (l : Launch) (D : va_G) (A : Nat → Prop) (cs : Nat → ClassId) (tt : Nat) (N : Nat) (ad : Nat → Nat) (g : Nat → va_E) (i : Nat) (hN : i + 30 ≤ N) (F : Nat → Int) (hg : g i = mC ad i F) (h34 : F 34 = 0) : zM l yX10_byteAt cX10_byteAt 2 (some .int) ({ frames := 1, cells := 0, slots := 0, locals := 60 } : Room) D A cs tt N ad g [.ref (ad i), .int (zI 0)] (rI0 N ad fun r g' => r = 0 ∧ g = g') := by
  have hay1 : zAt ad (i) (ad i) := rfl
  refine z_of (by decide) (Nat.le_of_ble_eq_true rfl) ?_
  intro p e s m below meth c C hr hlk hnm
  refine z_lv (lv' := [(0, .ref (ad i)), (1, .int (zI (0)))]) [0, 1] rfl ?_
  refine z_iload_n C 1 dX10_byteAt_0 rfl ?_
  refine z_aload_n C 0 dX10_byteAt_1 rfl ?_
  refine z_get (v := .int (zI (0))) C (by omega) hay1 hg rfl inA_X10 34 (by decide) q_1493 rfl (fv (F := F) (f := 34) h34) dX10_byteAt_2 ?_
  refine z_icmp_ge (tgt := 17) C dX10_byteAt_5 (by decide) (by omega) (by omega) (fun _ => ?_) (fun h => absurd h (by omega))
  refine z_iconst (z := 0) C dX10_byteAt_17 rfl ?_
  exact z_iret C hr hlk dX10_byteAt_18 (by decide) (by decide) ⟨0, rfl, rfl, rfl, rfl, rfl⟩

set_option maxRecDepth 100000 in
set_option maxHeartbeats 4000000 in
theorem c_X10_go0 (l : Launch) (D : va_G) (A : Nat → Prop) (cs : Nat → ClassId) (tt : Nat) (N : Nat) (ad : Nat → Nat) (g : Nat → va_E) (i : Nat) (hN : i + 30 ≤ N) (F : Nat → Int) (hg : g i = mC ad i F) (h32 : F 32 = 0) (h34 : F 34 = 0) : zM l yX10_go cX10_go 2 none ({ frames := 2, cells := 0, slots := 0, locals := 120 } : Room) D A cs tt N ad g [.ref (ad i)] (rV0 N ad fun g' => g' i = mC ad i (uZ (uZ (uZ (uZ F 33 (0)) 37 (-1)) 36 (0)) 35 (0)) ∧ ∀ j, j ≠ i → g' j = g j) := by
  have hay1 : zAt ad (i) (ad i) := rfl
  refine z_of (by decide) (Nat.le_of_ble_eq_true rfl) ?_
  intro p e s m below meth c C hr hlk hnm
  refine z_lv (lv' := [(0, .ref (ad i))]) [0] rfl ?_
  refine z_aload_n C 0 dX10_go_0 rfl ?_
  refine z_get (v := .int (zI (0))) C (by omega) hay1 hg rfl inA_X10 32 (by decide) q_1491 rfl (fv (F := F) (f := 32) h32) dX10_go_1 ?_
  refine z_aload_n C 0 dX10_go_4 rfl ?_
  refine z_get (v := .int (zI (0))) C (by omega) hay1 hg rfl inA_X10 34 (by decide) q_1493 rfl (fv (F := F) (f := 34) h34) dX10_go_5 ?_
  refine z_icmp_ge (tgt := 50) C dX10_go_8 (by decide) (by omega) (by omega) (fun _ => ?_) (fun h => absurd h (by omega))
  refine z_aload_n C 0 dX10_go_50 rfl ?_
  refine z_aload_n C 0 dX10_go_51 rfl ?_
  refine z_get (v := .int (zI (0))) C (by omega) hay1 hg rfl inA_X10 32 (by decide) q_1491 rfl (fv (F := F) (f := 32) h32) dX10_go_52 ?_
  refine z_put (fs' := mF ad (i) (uZ F 33 (0))) C (by omega) hay1 hg tyX10 tyX10_ok nmX10 rfl inA_X10 33 (by decide) q_1492 rfl rfl rfl rfl (Nat.le_of_ble_eq_true rfl) rfl dX10_go_55 (fun gy2 egy3 => ?_)
  have hgy4 := up_s egy3
  refine z_aload_n C 0 dX10_go_58 rfl ?_
  refine z_aload_n C 0 dX10_go_59 rfl ?_
  refine z_get (v := .int (zI (0))) C (by omega) hay1 hgy4 rfl inA_X10 32 (by decide) q_1491 rfl (fv (F := (uZ F 33 (0))) (f := 32) (fn h32 (by decide))) dX10_go_60 ?_
  refine z_cV (As := [.int (zI (0))]) (rest := []) (ci := 12) C (c_X10_byteAt0 l D A cs tt N ad _ i hN _ hgy4 (fn h34 (by decide))) (by omega) hay1 hgy4 rfl rfl mv_yX10_byteAt q_1660 hd_yX10_byteAt (by decide) (Nat.le_of_ble_eq_true rfl) (by decide) dX10_go_63 rfl (kI0 fun rx gx hx => ?_)
  obtain ⟨rfl, rfl⟩ := hx
  refine z_istore_n (lv' := [(1, .int (zI (0))), (0, .ref (ad i))]) C dX10_go_66 rfl (by decide) rfl ?_
  refine z_aload_n C 1 dX10_go_67 rfl ?_
  refine z_iconst (z := -1) C dX10_go_68 rfl ?_
  refine z_put (fs' := mF ad (i) (uZ (uZ F 33 (0)) 37 (-1))) C (by omega) hay1 hgy4 tyX10 tyX10_ok nmX10 rfl inA_X10 37 (by decide) q_1496 rfl rfl rfl rfl (Nat.le_of_ble_eq_true rfl) rfl dX10_go_69 (fun gy5 egy6 => ?_)
  have hgy7 := up_s egy6
  refine z_aload_n C 1 dX10_go_72 rfl ?_
  refine z_iconst (z := 0) C dX10_go_73 rfl ?_
  refine z_put (fs' := mF ad (i) (uZ (uZ (uZ F 33 (0)) 37 (-1)) 36 (0))) C (by omega) hay1 hgy7 tyX10 tyX10_ok nmX10 rfl inA_X10 36 (by decide) q_1495 rfl rfl rfl rfl (Nat.le_of_ble_eq_true rfl) rfl dX10_go_74 (fun gy8 egy9 => ?_)
  have hgy10 := up_s egy9
  refine z_aload_n C 1 dX10_go_77 rfl ?_
  refine z_get (v := .int (zI (0))) C (by omega) hay1 hgy10 rfl inA_X10 32 (by decide) q_1491 rfl (fv (F := (uZ (uZ (uZ F 33 (0)) 37 (-1)) 36 (0))) (f := 32) (fn (fn (fn h32 (by decide)) (by decide)) (by decide))) dX10_go_78 ?_
  refine z_aload_n C 1 dX10_go_81 rfl ?_
  refine z_get (v := .int (zI (0))) C (by omega) hay1 hgy10 rfl inA_X10 34 (by decide) q_1493 rfl (fv (F := (uZ (uZ (uZ F 33 (0)) 37 (-1)) 36 (0))) (f := 34) (fn (fn (fn h34 (by decide)) (by decide)) (by decide))) dX10_go_82 ?_
  refine z_icmp_lt (tgt := 96) C dX10_go_85 (by decide) (by omega) (by omega) (fun h => absurd h (by omega)) (fun _ => ?_)
  refine z_aload_n C 1 dX10_go_88 rfl ?_
  refine z_iconst (z := 0) C dX10_go_89 rfl ?_
  refine z_put (fs' := mF ad (i) (uZ (uZ (uZ (uZ F 33 (0)) 37 (-1)) 36 (0)) 35 (0))) C (by omega) hay1 hgy10 tyX10 tyX10_ok nmX10 rfl inA_X10 35 (by decide) q_1494 rfl rfl rfl rfl (Nat.le_of_ble_eq_true rfl) rfl dX10_go_90 (fun gy11 egy12 => ?_)
  have hgy13 := up_s egy12
  refine z_goto (tgt := 291) C dX10_go_93 (by decide) ?_
  exact z_vret C hr hlk dX10_go_291 (by decide) (by decide) ⟨rfl, rfl, rfl, hgy13, fun j h1 => by rw [egy12, va_up_ne _ _ (by omega)]; rw [egy9, va_up_ne _ _ (by omega)]; rw [egy6, va_up_ne _ _ (by omega)]; rw [egy3, va_up_ne _ _ (by omega)]⟩

set_option maxRecDepth 100000 in
set_option maxHeartbeats 4000000 in
theorem c_X10_becomes0 (l : Launch) (D : va_G) (A : Nat → Prop) (cs : Nat → ClassId) (tt : Nat) (N : Nat) (ad : Nat → Nat) (g : Nat → va_E) (i : Nat) (hN : i + 30 ≤ N) (F : Nat → Int) (hg : g i = mC ad i F) (h12 : F 12 = 0) (h47 : F 47 = 0) (h48 : F 48 = 0) (h49 : F 49 = 0) (r : Nat → Int) (hr1 : g (i + 1) = iA cs 29200 r) (hz1 : ∀ j, r j = 0) (t t1 : Nat → Int) (hr7 : g (i + 7) = iA cs 15 t) (hr22 : g (i + 22) = iA cs 15 t1) (ht1 : ∀ j, j < 15 → t1 j = -1) : zM l yX10_becomes cX10_becomes 3 none ({ frames := 2, cells := 0, slots := 0, locals := 120 } : Room) D A cs tt N ad g [.ref (ad i)] (rV0 N ad fun g' => pM ad i g g' 0) := by
  have hay1 : zAt ad (i) (ad i) := rfl
  have hay2 : zAt ad (i + 1) (ad (i + 1)) := rfl
  have hay3 : zAt ad (i + 7) (ad (i + 7)) := rfl
  have hay4 : zAt ad (i + 22) (ad (i + 22)) := rfl
  refine z_of (by decide) (Nat.le_of_ble_eq_true rfl) ?_
  intro p e s m below meth c C hr hlk hnm
  refine z_lv (lv' := [(0, .ref (ad i))]) [0] rfl ?_
  refine z_aload_n C 0 dX10_becomes_0 rfl ?_
  refine z_aload_n C 0 dX10_becomes_1 rfl ?_
  refine z_get (v := .int (zI (0))) C (by omega) hay1 hg rfl inA_X10 47 (by decide) q_1506 rfl (fv (F := F) (f := 47) h47) dX10_becomes_2 ?_
  refine z_put (fs' := mF ad (i) (uZ F 13 (0))) C (by omega) hay1 hg tyX10 tyX10_ok nmX10 rfl inA_X10 13 (by decide) q_1472 rfl rfl rfl rfl (Nat.le_of_ble_eq_true rfl) rfl dX10_becomes_5 (fun gy5 egy6 => ?_)
  have hgy7 := up_s egy6
  refine z_aload_n C 0 dX10_becomes_8 rfl ?_
  refine z_aload_n C 0 dX10_becomes_9 rfl ?_
  refine z_get (v := .int (zI (0))) C (by omega) hay1 hgy7 rfl inA_X10 48 (by decide) q_1507 rfl (fv (F := (uZ F 13 (0))) (f := 48) (fn h48 (by decide))) dX10_becomes_10 ?_
  refine z_put (fs' := mF ad (i) (uZ (uZ F 13 (0)) 14 (0))) C (by omega) hay1 hgy7 tyX10 tyX10_ok nmX10 rfl inA_X10 14 (by decide) q_1473 rfl rfl rfl rfl (Nat.le_of_ble_eq_true rfl) rfl dX10_becomes_13 (fun gy8 egy9 => ?_)
  have hgy10 := up_s egy9
  refine z_aload_n C 0 dX10_becomes_16 rfl ?_
  have hgy11 := up_n egy6 hr7 (ne_o (i := i) (c := 7) (d := 0) rfl)
  have hgy12 := up_n egy9 hgy11 (ne_o (i := i) (c := 7) (d := 0) rfl)
  refine z_cV (As := []) (rest := []) (ci := 12) C (c_X10_laysTable l D A cs tt N ad _ i _ _ (by omega) hgy10 hgy12) (by omega) hay1 hgy10 rfl rfl mv_yX10_laysTable q_1455 hd_yX10_laysTable (by decide) (Nat.le_of_ble_eq_true rfl) (by decide) dX10_becomes_17 rfl (kV0 fun gl hl9 => ?_)
  obtain ⟨hl1, tl, hl2, -⟩ := hl9
  refine z_iconst (z := 0) C dX10_becomes_20 rfl ?_
  refine z_istore_n (lv' := [(1, .int (zI (0))), (0, .ref (ad i))]) C dX10_becomes_21 rfl (by decide) rfl ?_
  have hgy13 := (hl1 (i) (ne_o (i := i) (c := 0) (d := 7) rfl)).trans hgy10
  have lp2 : ∀ (n kk : Nat) (g1 : Nat → va_E) , kk + n = 350 → (g1 i = mC ad i (uZ (uZ F 13 (0)) 14 (0))) → ((∃ r1 : Nat → Int, g1 (i + 1) = iA cs 29200 r1 ∧ ∀ j, r1 j = 0)) → (oM i g g1) → zV p l e ({ frames := 2, cells := 0, slots := 0, locals := 120 } : Room) s m ([.ref (ad i)] : List Value).toArray below meth c (MQ below (zPost D A (rV0 N ad fun g' => pM ad i g g' 0)) ([.ref (ad i)] : List Value).toArray s ({ frames := 2, cells := 0, slots := 0, locals := 120 } : Room).cells ({ frames := 2, cells := 0, slots := 0, locals := 120 } : Room).slots A) D A 3 (N) ad g1 (0) (0) 110 [(1, .int (zI ((kk : Int)))), (0, .ref (ad i))] [] := by
    intro n
    induction n with
    | zero =>
      intro kk g1  hkk f1 f2 f3
      obtain ⟨r8, f4, f5⟩ := f2
      have hay14 : zAt ad (i) (ad i) := rfl
      have hay15 : zAt ad (i + 1) (ad (i + 1)) := rfl
      refine z_iload_n C 0 dX10_becomes_110 rfl ?_
      refine z_sipush (z := 350) C dX10_becomes_111 (by decide) ?_
      refine z_icmp_ge (tgt := 130) C dX10_becomes_114 (by decide) (by omega) (by omega) (fun _ => ?_) (fun h => absurd h (by omega))
      refine z_aload_n C 1 dX10_becomes_130 rfl ?_
      refine z_get (v := .ref (ad (i + 1))) C (by omega) hay14 f1 rfl inA_X10 0 (by decide) q_1459 rfl rfl dX10_becomes_131 ?_
      refine z_iconst (z := 1) C dX10_becomes_134 rfl ?_
      refine z_aload_n C 1 dX10_becomes_135 rfl ?_
      refine z_get (v := .int (zI (0))) C (by omega) hay14 f1 rfl inA_X10 49 (by decide) q_1508 rfl (fv (F := (uZ (uZ F 13 (0)) 14 (0))) (f := 49) (fn (fn h49 (by decide)) (by decide))) dX10_becomes_136 ?_
      refine z_iast C (by omega) hay15 f4 (1) (by omega) (by omega) (by decide) dX10_becomes_139 (fun gy16 egy17 => ?_)
      have hgy18 := up_s egy17
      refine z_iconst (z := 0) C dX10_becomes_140 rfl ?_
      refine z_istore_n (lv' := [(1, .int (zI (0))), (0, .ref (ad i))]) C dX10_becomes_141 rfl (by decide) rfl ?_
      refine z_iload_n C 0 dX10_becomes_142 rfl ?_
      refine z_aload_n C 1 dX10_becomes_143 rfl ?_
      have hgy19 := up_n egy17 f1 (ne_o (i := i) (c := 0) (d := 1) rfl)
      refine z_get (v := .int (zI (0))) C (by omega) hay14 hgy19 rfl inA_X10 13 (by decide) q_1472 rfl (fv (F := (uZ (uZ F 13 (0)) 14 (0))) (f := 13) (fn (uZ_s _ _ _) (by decide))) dX10_becomes_144 ?_
      refine z_icmp_ge (tgt := 233) C dX10_becomes_147 (by decide) (by omega) (by omega) (fun _ => ?_) (fun h => absurd h (by omega))
      refine z_aload_n C 1 dX10_becomes_233 rfl ?_
      refine z_aload_n C 1 dX10_becomes_234 rfl ?_
      refine z_aload_n C 1 dX10_becomes_235 rfl ?_
      refine z_aload_n C 1 dX10_becomes_236 rfl ?_
      refine z_iconst (z := 0) C dX10_becomes_237 rfl ?_
      refine z_dup_x1 C dX10_becomes_238 rfl rfl ?_
      refine z_put (fs' := mF ad (i) (uZ (uZ (uZ F 13 (0)) 14 (0)) 21 (0))) C (by omega) hay14 hgy19 tyX10 tyX10_ok nmX10 rfl inA_X10 21 (by decide) q_1480 rfl rfl rfl rfl (Nat.le_of_ble_eq_true rfl) rfl dX10_becomes_239 (fun gy20 egy21 => ?_)
      have hgy22 := up_s egy21
      refine z_dup_x1 C dX10_becomes_242 rfl rfl ?_
      refine z_put (fs' := mF ad (i) (uZ (uZ (uZ (uZ F 13 (0)) 14 (0)) 21 (0)) 17 (0))) C (by omega) hay14 hgy22 tyX10 tyX10_ok nmX10 rfl inA_X10 17 (by decide) q_1476 rfl rfl rfl rfl (Nat.le_of_ble_eq_true rfl) rfl dX10_becomes_243 (fun gy23 egy24 => ?_)
      have hgy25 := up_s egy24
      refine z_dup_x1 C dX10_becomes_246 rfl rfl ?_
      refine z_put (fs' := mF ad (i) (uZ (uZ (uZ (uZ (uZ F 13 (0)) 14 (0)) 21 (0)) 17 (0)) 16 (0))) C (by omega) hay14 hgy25 tyX10 tyX10_ok nmX10 rfl inA_X10 16 (by decide) q_1475 rfl rfl rfl rfl (Nat.le_of_ble_eq_true rfl) rfl dX10_becomes_247 (fun gy26 egy27 => ?_)
      have hgy28 := up_s egy27
      refine z_put (fs' := mF ad (i) (uZ (uZ (uZ (uZ (uZ (uZ F 13 (0)) 14 (0)) 21 (0)) 17 (0)) 16 (0)) 15 (0))) C (by omega) hay14 hgy28 tyX10 tyX10_ok nmX10 rfl inA_X10 15 (by decide) q_1474 rfl rfl rfl rfl (Nat.le_of_ble_eq_true rfl) rfl dX10_becomes_250 (fun gy29 egy30 => ?_)
      have hgy31 := up_s egy30
      exact z_vret C hr hlk dX10_becomes_253 (by decide) (by decide) ⟨rfl, rfl, rfl, ⟨⟨_, hgy31, (fn (fn (fn (fn (fn (fn h12 (by decide)) (by decide)) (by decide)) (by decide)) (by decide)) (by decide))⟩, fun j h1 => by rw [egy30, va_up_ne _ _ (by omega)]; rw [egy27, va_up_ne _ _ (by omega)]; rw [egy24, va_up_ne _ _ (by omega)]; rw [egy21, va_up_ne _ _ (by omega)]; rw [egy17, va_up_ne _ _ (by omega)]; exact f3 j h1⟩⟩
    | succ n ih =>
      intro kk g1  hkk f1 f2 f3
      obtain ⟨r8, f4, f5⟩ := f2
      have hay32 : zAt ad (i) (ad i) := rfl
      have hay33 : zAt ad (i + 1) (ad (i + 1)) := rfl
      refine z_iload_n C 0 dX10_becomes_110 rfl ?_
      refine z_sipush (z := 350) C dX10_becomes_111 (by decide) ?_
      refine z_icmp_ge (tgt := 130) C dX10_becomes_114 (by decide) (by omega) (by omega) (fun h => absurd h (by omega)) (fun _ => ?_)
      refine z_aload_n C 1 dX10_becomes_117 rfl ?_
      refine z_get (v := .ref (ad (i + 1))) C (by omega) hay32 f1 rfl inA_X10 0 (by decide) q_1459 rfl rfl dX10_becomes_118 ?_
      refine z_iload_n C 0 dX10_becomes_121 rfl ?_
      refine z_iconst (z := 0) C dX10_becomes_122 rfl ?_
      refine z_iast C (by omega) hay33 f4 (kk) (by omega) (by omega) (by decide) dX10_becomes_123 (fun gy34 egy35 => ?_)
      have hgy36 := up_s egy35
      refine z_iinc (z := ((kk + 1 : Nat) : Int)) (lv' := [(1, .int (zI (((kk + 1 : Nat) : Int)))), (0, .ref (ad i))]) (j := 0) C dX10_becomes_124 rfl (congrArg zI (by omega)) (by decide) rfl ?_
      refine z_goto (tgt := 110) C dX10_becomes_127 (by decide) ?_
      have hgy37 := up_n egy35 f1 (ne_o (i := i) (c := 0) (d := 1) rfl)
      exact ih (kk + 1) gy34 (by omega) hgy37 ⟨_, hgy36, (uZ_z f5)⟩ (fun j h1 => by rw [egy35, va_up_ne _ _ (by omega)]; exact f3 j h1)
  have lp1 : ∀ (n kk : Nat) (g1 : Nat → va_E) , kk + n = 15 → (g1 i = mC ad i (uZ (uZ F 13 (0)) 14 (0))) → ((∃ r1 : Nat → Int, g1 (i + 1) = iA cs 29200 r1 ∧ ∀ j, r1 j = 0)) → (∃ tb : Nat → Int, g1 (i + 22) = iA cs 15 tb ∧ ∀ j, j < 15 → tb j = -1) → (oM i g g1) → zV p l e ({ frames := 2, cells := 0, slots := 0, locals := 120 } : Room) s m ([.ref (ad i)] : List Value).toArray below meth c (MQ below (zPost D A (rV0 N ad fun g' => pM ad i g g' 0)) ([.ref (ad i)] : List Value).toArray s ({ frames := 2, cells := 0, slots := 0, locals := 120 } : Room).cells ({ frames := 2, cells := 0, slots := 0, locals := 120 } : Room).slots A) D A 3 (N) ad g1 (0) (0) 22 [(1, .int (zI ((kk : Int)))), (0, .ref (ad i))] [] := by
    intro n
    induction n with
    | zero =>
      intro kk g1  hkk f1 f2 f6 f3
      have hay38 : zAt ad (i) (ad i) := rfl
      refine z_iload_n C 0 dX10_becomes_22 rfl ?_
      refine z_bipush (z := 15) C dX10_becomes_23 (by decide) ?_
      refine z_icmp_ge (tgt := 56) C dX10_becomes_25 (by decide) (by omega) (by omega) (fun _ => ?_) (fun h => absurd h (by omega))
      refine z_iconst (z := 0) C dX10_becomes_56 rfl ?_
      refine z_istore_n (lv' := [(1, .int (zI (0))), (0, .ref (ad i))]) C dX10_becomes_57 rfl (by decide) rfl ?_
      refine z_iload_n C 0 dX10_becomes_58 rfl ?_
      refine z_aload_n C 1 dX10_becomes_59 rfl ?_
      refine z_get (v := .int (zI (0))) C (by omega) hay38 f1 rfl inA_X10 14 (by decide) q_1473 rfl (fv (F := (uZ (uZ F 13 (0)) 14 (0))) (f := 14) (uZ_s _ _ _)) dX10_becomes_60 ?_
      refine z_icmp_ge (tgt := 108) C dX10_becomes_63 (by decide) (by omega) (by omega) (fun _ => ?_) (fun h => absurd h (by omega))
      refine z_iconst (z := 0) C dX10_becomes_108 rfl ?_
      refine z_istore_n (lv' := [(1, .int (zI (0))), (0, .ref (ad i))]) C dX10_becomes_109 rfl (by decide) rfl ?_
      refine z_lv (lv' := [(1, .int (zI (((0 : Nat) : Int)))), (0, .ref (ad i))]) [0, 1] rfl ?_
      exact lp2 350 0 g1  (by omega) f1 f2 f3
    | succ n ih =>
      intro kk g1  hkk f1 f2 f6 f3
      obtain ⟨tb, f7, f8⟩ := f6
      have hay39 : zAt ad (i) (ad i) := rfl
      have hay40 : zAt ad (i + 22) (ad (i + 22)) := rfl
      refine z_iload_n C 0 dX10_becomes_22 rfl ?_
      refine z_bipush (z := 15) C dX10_becomes_23 (by decide) ?_
      refine z_icmp_ge (tgt := 56) C dX10_becomes_25 (by decide) (by omega) (by omega) (fun h => absurd h (by omega)) (fun _ => ?_)
      refine z_aload_n C 1 dX10_becomes_28 rfl ?_
      refine z_get (v := .ref (ad (i + 22))) C (by omega) hay39 f1 rfl inA_X10 45 (by decide) q_1504 rfl rfl dX10_becomes_29 ?_
      refine z_iload_n C 0 dX10_becomes_32 rfl ?_
      refine z_iald C (by omega) hay40 f7 (kk) (by omega) (by omega) (by decide) dX10_becomes_33 ?_
      rw [show tb (kk) = -1 from f8 _ (by omega)]
      refine z_iconst (z := -1) C dX10_becomes_34 rfl ?_
      refine z_icmp_eq (tgt := 50) C dX10_becomes_35 (by decide) (by omega) (by omega) (fun _ => ?_) (fun h => absurd h (by omega))
      refine z_iinc (z := ((kk + 1 : Nat) : Int)) (lv' := [(1, .int (zI (((kk + 1 : Nat) : Int)))), (0, .ref (ad i))]) (j := 0) C dX10_becomes_50 rfl (congrArg zI (by omega)) (by decide) rfl ?_
      refine z_goto (tgt := 22) C dX10_becomes_53 (by decide) ?_
      exact ih (kk + 1) g1 (by omega) f1 f2 ⟨tb, f7, f8⟩ f3
  have hgy41 := up_n egy6 hr1 (ne_o (i := i) (c := 1) (d := 0) rfl)
  have hgy42 := up_n egy9 hgy41 (ne_o (i := i) (c := 1) (d := 0) rfl)
  have hgy43 := (hl1 (i + 1) (ne_o (i := i) (c := 1) (d := 7) rfl)).trans hgy42
  have hgy44 := up_n egy6 hr22 (ne_o (i := i) (c := 22) (d := 0) rfl)
  have hgy45 := up_n egy9 hgy44 (ne_o (i := i) (c := 22) (d := 0) rfl)
  have hgy46 := (hl1 (i + 22) (ne_o (i := i) (c := 22) (d := 7) rfl)).trans hgy45
  refine z_lv (lv' := [(1, .int (zI (((0 : Nat) : Int)))), (0, .ref (ad i))]) [0, 1] rfl ?_
  exact lp1 15 0 gl  (by omega) hgy13 ⟨_, hgy43, hz1⟩ ⟨_, hgy46, ht1⟩ (fun j h1 => by rw [hl1 _ (by omega)]; rw [egy9, va_up_ne _ _ (by omega)]; rw [egy6, va_up_ne _ _ (by omega)])

set_option maxRecDepth 100000 in
set_option maxHeartbeats 4000000 in
theorem c_X10_snow (l : Launch) (D : va_G) (A : Nat → Prop) (cs : Nat → ClassId) (tt : Nat) (N : Nat) (ad : Nat → Nat) (g : Nat → va_E) (i : Nat) (hN : i + 30 ≤ N) (hM : isM0 cs ad g i) (z : Int) (hz : -2147483648 ≤ z ∧ z ≤ 2147483647) : zM l yX10_snow cX10_snow 3 (some .int) ({ frames := 3, cells := 0, slots := 0, locals := 180 } : Room) D A cs tt N ad g [.ref (ad i), .int (zI z)] (rI0 N ad fun r g' => (z = 0 → r = 0) ∧ pM ad i g g' (if z = 0 then 0 else 1)) := by
  obtain ⟨B, ⟨hg, hA⟩, hB7, hB0⟩ := id hM
  have hay1 : zAt ad (i) (ad i) := rfl
  have a1 : g (i + 1) = iA cs 29200 (B 1) := hA 1 (by decide) (by decide)
  have hay2 : zAt ad (i + 1) (ad (i + 1)) := rfl
  have a7 : g (i + 7) = iA cs 15 (B 7) := hA 7 (by decide) (by decide)
  have hay3 : zAt ad (i + 7) (ad (i + 7)) := rfl
  have a22 : g (i + 22) = iA cs 15 (B 22) := hA 22 (by decide) (by decide)
  have hay4 : zAt ad (i + 22) (ad (i + 22)) := rfl
  refine z_of (by decide) (Nat.le_of_ble_eq_true rfl) ?_
  intro p e s m below meth c C hr hlk hnm
  refine z_lv (lv' := [(0, .ref (ad i)), (1, .int (zI (z)))]) [0, 1] rfl ?_
  refine z_aload_n C 0 dX10_snow_0 rfl ?_
  refine z_iconst (z := 0) C dX10_snow_1 rfl ?_
  refine z_put (fs' := mF ad (i) (uZ mF0 12 (0))) C (by omega) hay1 hg tyX10 tyX10_ok nmX10 rfl inA_X10 12 (by decide) q_1471 rfl rfl rfl rfl (Nat.le_of_ble_eq_true rfl) rfl dX10_snow_2 (fun gy5 egy6 => ?_)
  have hgy7 := up_s egy6
  refine z_aload_n C 0 dX10_snow_5 rfl ?_
  refine z_iload_n C 1 dX10_snow_6 rfl ?_
  refine z_if_lt (tgt := 22) C dX10_snow_7 (by decide) (by omega) (fun hb1 => ?_) (fun hb1 => ?_)
  · refine z_iconst (z := 0) C dX10_snow_22 rfl ?_
    refine z_iconst (z := 1) C dX10_snow_23 rfl ?_
    refine z_cV (As := [.int (zI (0)), .int (zI (1))]) (rest := []) (ci := 12) C (c_X10_right0 l D A cs tt N ad _ i hN _ hgy7 (uZ_s _ _ _) 1 (by decide)) (by omega) hay1 hgy7 rfl rfl mv_yX10_right q_1652 hd_yX10_right (by decide) (Nat.le_of_ble_eq_true rfl) (by decide) dX10_snow_24 rfl (kI0 fun qy8 gqy8 hqy8 => ?_)
    obtain ⟨rfl, hcqy8, hfqy8⟩ := hqy8
    refine z_if_ne (tgt := 32) C dX10_snow_27 (by decide) (by omega) (fun h => absurd h (by omega)) (fun _ => ?_)
    refine z_iconst (z := 0) C dX10_snow_30 rfl ?_
    exact z_iret C hr hlk dX10_snow_31 (by decide) (by decide) ⟨0, rfl, rfl, rfl, fun _ => rfl, by rw [if_neg (by omega)]; exact ⟨⟨_, hcqy8, (uZ_s _ _ _)⟩, fun j h1 => by rw [hfqy8 _ (by omega)]; rw [egy6, va_up_ne _ _ (by omega)]⟩⟩
  · refine z_iload_n C 1 dX10_snow_10 rfl ?_
    refine z_aload_n C 0 dX10_snow_11 rfl ?_
    refine z_get (v := .int (zI (0))) C (by omega) hay1 hgy7 rfl inA_X10 23 (by decide) q_1482 rfl (fv (F := (uZ mF0 12 (0))) (f := 23) (fn rfl (by decide))) dX10_snow_12 ?_
    refine z_icmp_gt (tgt := 22) C dX10_snow_15 (by decide) (by omega) (by omega) (fun hb2 => ?_) (fun hb2 => ?_)
    · refine z_iconst (z := 0) C dX10_snow_22 rfl ?_
      refine z_iconst (z := 1) C dX10_snow_23 rfl ?_
      refine z_cV (As := [.int (zI (0)), .int (zI (1))]) (rest := []) (ci := 12) C (c_X10_right0 l D A cs tt N ad _ i hN _ hgy7 (uZ_s _ _ _) 1 (by decide)) (by omega) hay1 hgy7 rfl rfl mv_yX10_right q_1652 hd_yX10_right (by decide) (Nat.le_of_ble_eq_true rfl) (by decide) dX10_snow_24 rfl (kI0 fun qy9 gqy9 hqy9 => ?_)
      obtain ⟨rfl, hcqy9, hfqy9⟩ := hqy9
      refine z_if_ne (tgt := 32) C dX10_snow_27 (by decide) (by omega) (fun h => absurd h (by omega)) (fun _ => ?_)
      refine z_iconst (z := 0) C dX10_snow_30 rfl ?_
      exact z_iret C hr hlk dX10_snow_31 (by decide) (by decide) ⟨0, rfl, rfl, rfl, fun _ => rfl, by rw [if_neg (by omega)]; exact ⟨⟨_, hcqy9, (uZ_s _ _ _)⟩, fun j h1 => by rw [hfqy9 _ (by omega)]; rw [egy6, va_up_ne _ _ (by omega)]⟩⟩
    · have hz0 : z = 0 := by omega
      subst hz0
      refine z_iconst (z := 1) C dX10_snow_18 rfl ?_
      refine z_goto (tgt := 23) C dX10_snow_19 (by decide) ?_
      refine z_iconst (z := 1) C dX10_snow_23 rfl ?_
      refine z_cV (As := [.int (zI (1)), .int (zI (1))]) (rest := []) (ci := 12) C (c_X10_right1 l D A cs tt N ad _ i hN _ hgy7 (uZ_s _ _ _) 1) (by omega) hay1 hgy7 rfl rfl mv_yX10_right q_1652 hd_yX10_right (by decide) (Nat.le_of_ble_eq_true rfl) (by decide) dX10_snow_24 rfl (kI0 fun qy10 gqy10 hqy10 => ?_)
      obtain ⟨rfl, rfl⟩ := hqy10
      refine z_if_ne (tgt := 32) C dX10_snow_27 (by decide) (by omega) (fun _ => ?_) (fun h => absurd h (by omega))
      refine z_aload_n C 0 dX10_snow_32 rfl ?_
      refine z_iconst (z := 0) C dX10_snow_33 rfl ?_
      refine z_put (fs' := mF ad (i) (uZ (uZ mF0 12 (0)) 23 (0))) C (by omega) hay1 hgy7 tyX10 tyX10_ok nmX10 rfl inA_X10 23 (by decide) q_1482 rfl rfl rfl rfl (Nat.le_of_ble_eq_true rfl) rfl dX10_snow_34 (fun gy11 egy12 => ?_)
      have hgy13 := up_s egy12
      refine z_aload_n C 0 dX10_snow_37 rfl ?_
      refine z_iload_n C 1 dX10_snow_38 rfl ?_
      refine z_put (fs' := mF ad (i) (uZ (uZ (uZ mF0 12 (0)) 23 (0)) 34 (0))) C (by omega) hay1 hgy13 tyX10 tyX10_ok nmX10 rfl inA_X10 34 (by decide) q_1493 rfl rfl rfl rfl (Nat.le_of_ble_eq_true rfl) rfl dX10_snow_39 (fun gy14 egy15 => ?_)
      have hgy16 := up_s egy15
      refine z_aload_n C 0 dX10_snow_42 rfl ?_
      refine z_iconst (z := 0) C dX10_snow_43 rfl ?_
      refine z_put (fs' := mF ad (i) (uZ (uZ (uZ (uZ mF0 12 (0)) 23 (0)) 34 (0)) 32 (0))) C (by omega) hay1 hgy16 tyX10 tyX10_ok nmX10 rfl inA_X10 32 (by decide) q_1491 rfl rfl rfl rfl (Nat.le_of_ble_eq_true rfl) rfl dX10_snow_44 (fun gy17 egy18 => ?_)
      have hgy19 := up_s egy18
      refine z_aload_n C 0 dX10_snow_47 rfl ?_
      refine z_iconst (z := 0) C dX10_snow_48 rfl ?_
      refine z_put (fs' := mF ad (i) (uZ (uZ (uZ (uZ (uZ mF0 12 (0)) 23 (0)) 34 (0)) 32 (0)) 38 (0))) C (by omega) hay1 hgy19 tyX10 tyX10_ok nmX10 rfl inA_X10 38 (by decide) q_1497 rfl rfl rfl rfl (Nat.le_of_ble_eq_true rfl) rfl dX10_snow_49 (fun gy20 egy21 => ?_)
      have hgy22 := up_s egy21
      refine z_aload_n C 0 dX10_snow_52 rfl ?_
      refine z_iconst (z := -1) C dX10_snow_53 rfl ?_
      refine z_put (fs' := mF ad (i) (uZ (uZ (uZ (uZ (uZ (uZ mF0 12 (0)) 23 (0)) 34 (0)) 32 (0)) 38 (0)) 24 (-1))) C (by omega) hay1 hgy22 tyX10 tyX10_ok nmX10 rfl inA_X10 24 (by decide) q_1483 rfl rfl rfl rfl (Nat.le_of_ble_eq_true rfl) rfl dX10_snow_54 (fun gy23 egy24 => ?_)
      have hgy25 := up_s egy24
      refine z_aload_n C 0 dX10_snow_57 rfl ?_
      refine z_aload_n C 0 dX10_snow_58 rfl ?_
      refine z_aload_n C 0 dX10_snow_59 rfl ?_
      refine z_iconst (z := 0) C dX10_snow_60 rfl ?_
      refine z_dup_x1 C dX10_snow_61 rfl rfl ?_
      refine z_put (fs' := mF ad (i) (uZ (uZ (uZ (uZ (uZ (uZ (uZ mF0 12 (0)) 23 (0)) 34 (0)) 32 (0)) 38 (0)) 24 (-1)) 49 (0))) C (by omega) hay1 hgy25 tyX10 tyX10_ok nmX10 rfl inA_X10 49 (by decide) q_1508 rfl rfl rfl rfl (Nat.le_of_ble_eq_true rfl) rfl dX10_snow_62 (fun gy26 egy27 => ?_)
      have hgy28 := up_s egy27
      refine z_dup_x1 C dX10_snow_65 rfl rfl ?_
      refine z_put (fs' := mF ad (i) (uZ (uZ (uZ (uZ (uZ (uZ (uZ (uZ mF0 12 (0)) 23 (0)) 34 (0)) 32 (0)) 38 (0)) 24 (-1)) 49 (0)) 48 (0))) C (by omega) hay1 hgy28 tyX10 tyX10_ok nmX10 rfl inA_X10 48 (by decide) q_1507 rfl rfl rfl rfl (Nat.le_of_ble_eq_true rfl) rfl dX10_snow_66 (fun gy29 egy30 => ?_)
      have hgy31 := up_s egy30
      refine z_put (fs' := mF ad (i) (uZ (uZ (uZ (uZ (uZ (uZ (uZ (uZ (uZ mF0 12 (0)) 23 (0)) 34 (0)) 32 (0)) 38 (0)) 24 (-1)) 49 (0)) 48 (0)) 47 (0))) C (by omega) hay1 hgy31 tyX10 tyX10_ok nmX10 rfl inA_X10 47 (by decide) q_1506 rfl rfl rfl rfl (Nat.le_of_ble_eq_true rfl) rfl dX10_snow_69 (fun gy32 egy33 => ?_)
      have hgy34 := up_s egy33
      refine z_iconst (z := 0) C dX10_snow_72 rfl ?_
      refine z_istore_n (lv' := [(2, .int (zI (0))), (0, .ref (ad i)), (1, .int (zI (0)))]) C dX10_snow_73 rfl (by decide) rfl ?_
      obtain ⟨gz, hgz⟩ : ∃ gz, gz = g := ⟨g, rfl⟩
      have lp : ∀ (n kk : Nat) (g1 : Nat → va_E) , kk + n = 15 → (g1 i = mC ad i (uZ (uZ (uZ (uZ (uZ (uZ (uZ (uZ (uZ mF0 12 (0)) 23 (0)) 34 (0)) 32 (0)) 38 (0)) 24 (-1)) 49 (0)) 48 (0)) 47 (0))) → (g1 (i + 1) = iA cs 29200 (B 1)) → (g1 (i + 7) = iA cs 15 (B 7)) → (∃ tb : Nat → Int, g1 (i + 22) = iA cs 15 tb ∧ ∀ j, j < kk → tb j = -1) → (oM i g g1) → zV p l e ({ frames := 3, cells := 0, slots := 0, locals := 180 } : Room) s m ([.ref (ad i), .int (zI 0)] : List Value).toArray below meth c (MQ below (zPost D A (rI0 N ad fun r g' => ((0 : Int) = 0 → r = 0) ∧ pM ad i g g' (if (0 : Int) = 0 then 0 else 1))) ([.ref (ad i), .int (zI 0)] : List Value).toArray s ({ frames := 3, cells := 0, slots := 0, locals := 180 } : Room).cells ({ frames := 3, cells := 0, slots := 0, locals := 180 } : Room).slots A) D A 3 (N) ad g1 (0) (0) 74 [(2, .int (zI ((kk : Int)))), (0, .ref (ad i)), (1, .int (zI (0)))] [] := by
        intro n
        induction n with
        | zero =>
          intro kk g1  hkk f1 f2 f4 f5 f3
          have hay35 : zAt ad (i) (ad i) := rfl
          obtain ⟨tb, f7, f8⟩ := f5
          have hay36 : zAt ad (i + 22) (ad (i + 22)) := rfl
          refine z_iload_n C 0 dX10_snow_74 rfl ?_
          refine z_bipush (z := 15) C dX10_snow_75 (by decide) ?_
          refine z_icmp_ge (tgt := 93) C dX10_snow_77 (by decide) (by omega) (by omega) (fun _ => ?_) (fun h => absurd h (by omega))
          refine z_aload_n C 1 dX10_snow_93 rfl ?_
          refine z_cV (As := []) (rest := []) (ci := 12) C (c_X10_go0 l D A cs tt N ad _ i hN _ f1 (fn (fn (fn (fn (fn (uZ_s _ _ _) (by decide)) (by decide)) (by decide)) (by decide)) (by decide)) (fn (fn (fn (fn (fn (fn (uZ_s _ _ _) (by decide)) (by decide)) (by decide)) (by decide)) (by decide)) (by decide))) (by omega) hay35 f1 rfl rfl mv_yX10_go q_1656 hd_yX10_go (by decide) (Nat.le_of_ble_eq_true rfl) (by decide) dX10_snow_94 rfl (kV0 fun gq hq => ?_)
          obtain ⟨hq1, hq2⟩ := hq
          refine z_aload_n C 1 dX10_snow_97 rfl ?_
          refine z_get (v := .int (zI (0))) C (by omega) hay35 hq1 rfl inA_X10 38 (by decide) q_1497 rfl (fv (F := (uZ (uZ (uZ (uZ (uZ (uZ (uZ (uZ (uZ (uZ (uZ (uZ (uZ mF0 12 (0)) 23 (0)) 34 (0)) 32 (0)) 38 (0)) 24 (-1)) 49 (0)) 48 (0)) 47 (0)) 33 (0)) 37 (-1)) 36 (0)) 35 (0))) (f := 38) (fn (fn (fn (fn (fn (fn (fn (fn (uZ_s _ _ _) (by decide)) (by decide)) (by decide)) (by decide)) (by decide)) (by decide)) (by decide)) (by decide))) dX10_snow_98 ?_
          refine z_if_ne (tgt := 159) C dX10_snow_101 (by decide) (by omega) (fun h => absurd h (by omega)) (fun _ => ?_)
          refine z_aload_n C 1 dX10_snow_104 rfl ?_
          refine z_get (v := .int (zI (0))) C (by omega) hay35 hq1 rfl inA_X10 35 (by decide) q_1494 rfl (fv (F := (uZ (uZ (uZ (uZ (uZ (uZ (uZ (uZ (uZ (uZ (uZ (uZ (uZ mF0 12 (0)) 23 (0)) 34 (0)) 32 (0)) 38 (0)) 24 (-1)) 49 (0)) 48 (0)) 47 (0)) 33 (0)) 37 (-1)) 36 (0)) 35 (0))) (f := 35) (uZ_s _ _ _)) dX10_snow_105 ?_
          refine z_if_eq (tgt := 159) C dX10_snow_108 (by decide) (by omega) (fun _ => ?_) (fun h => absurd h (by omega))
          refine z_aload_n C 1 dX10_snow_159 rfl ?_
          refine z_get (v := .int (zI (0))) C (by omega) hay35 hq1 rfl inA_X10 38 (by decide) q_1497 rfl (fv (F := (uZ (uZ (uZ (uZ (uZ (uZ (uZ (uZ (uZ (uZ (uZ (uZ (uZ mF0 12 (0)) 23 (0)) 34 (0)) 32 (0)) 38 (0)) 24 (-1)) 49 (0)) 48 (0)) 47 (0)) 33 (0)) 37 (-1)) 36 (0)) 35 (0))) (f := 38) (fn (fn (fn (fn (fn (fn (fn (fn (uZ_s _ _ _) (by decide)) (by decide)) (by decide)) (by decide)) (by decide)) (by decide)) (by decide)) (by decide))) dX10_snow_160 ?_
          refine z_if_eq (tgt := 181) C dX10_snow_163 (by decide) (by omega) (fun _ => ?_) (fun h => absurd h (by omega))
          refine z_aload_n C 1 dX10_snow_181 rfl ?_
          have k2 := (hq2 (i + 1) (by omega)).trans f2
          have k4 := (hq2 (i + 7) (by omega)).trans f4
          have k7 := (hq2 (i + 22) (by omega)).trans f7
          refine z_cV (As := []) (rest := []) (ci := 12) C (c_X10_becomes0 l D A cs tt N ad _ i hN _ hq1 (fn (fn (fn (fn (fn (fn (fn (fn (fn (fn (fn (fn (uZ_s _ _ _) (by decide)) (by decide)) (by decide)) (by decide)) (by decide)) (by decide)) (by decide)) (by decide)) (by decide)) (by decide)) (by decide)) (by decide)) (fn (fn (fn (fn (uZ_s _ _ _) (by decide)) (by decide)) (by decide)) (by decide)) (fn (fn (fn (fn (fn (uZ_s _ _ _) (by decide)) (by decide)) (by decide)) (by decide)) (by decide)) (fn (fn (fn (fn (fn (fn (uZ_s _ _ _) (by decide)) (by decide)) (by decide)) (by decide)) (by decide)) (by decide)) _ k2 (hB0 1 (by decide)) _ _ k4 k7 (fun j hj => f8 j (by omega))) (by omega) hay35 hq1 rfl rfl mv_yX10_becomes q_1717 hd_yX10_becomes (by decide) (Nat.le_of_ble_eq_true rfl) (by decide) dX10_snow_182 rfl (kV0 fun gb hb => ?_)
          obtain ⟨hb5, hb6⟩ := hb
          refine z_iconst (z := 0) C dX10_snow_185 rfl ?_
          exact z_iret C hr hlk dX10_snow_186 (by decide) (by decide) ⟨0, rfl, rfl, rfl, fun _ => rfl, by rw [if_pos rfl]; exact ⟨hb5, fun j h1 => by rw [hb6 j h1, hq2 j (by omega), f3 j h1]⟩⟩
        | succ n ih =>
          intro kk g1  hkk f1 f2 f4 f5 f3
          have hay37 : zAt ad (i) (ad i) := rfl
          obtain ⟨tb, f7, f8⟩ := f5
          have hay38 : zAt ad (i + 22) (ad (i + 22)) := rfl
          refine z_iload_n C 0 dX10_snow_74 rfl ?_
          refine z_bipush (z := 15) C dX10_snow_75 (by decide) ?_
          refine z_icmp_ge (tgt := 93) C dX10_snow_77 (by decide) (by omega) (by omega) (fun h => absurd h (by omega)) (fun _ => ?_)
          refine z_aload_n C 1 dX10_snow_80 rfl ?_
          refine z_get (v := .ref (ad (i + 22))) C (by omega) hay37 f1 rfl inA_X10 45 (by decide) q_1504 rfl rfl dX10_snow_81 ?_
          refine z_iload_n C 0 dX10_snow_84 rfl ?_
          refine z_iconst (z := -1) C dX10_snow_85 rfl ?_
          refine z_iast C (by omega) hay38 f7 (kk) (by omega) (by omega) (by decide) dX10_snow_86 (fun gy39 egy40 => ?_)
          have hgy41 := up_s egy40
          refine z_iinc (z := ((kk + 1 : Nat) : Int)) (lv' := [(2, .int (zI (((kk + 1 : Nat) : Int)))), (0, .ref (ad i)), (1, .int (zI (0)))]) (j := 0) C dX10_snow_87 rfl (congrArg zI (by omega)) (by decide) rfl ?_
          refine z_goto (tgt := 74) C dX10_snow_90 (by decide) ?_
          have hgy42 := up_n egy40 f1 (ne_o (i := i) (c := 0) (d := 22) rfl)
          have hay43 : zAt ad (i + 1) (ad (i + 1)) := rfl
          exact ih (kk + 1) gy39 (by omega) hgy42 (up_n egy40 f2 (by omega)) (up_n egy40 f4 (by omega)) ⟨_, hgy41, fun j hj => by by_cases e9 : j = kk; (subst e9; exact uZ_s _ _ _); (rw [uZ_n _ _ e9]; exact f8 j (by omega))⟩ (fun j h1 => by rw [egy40, va_up_ne _ _ (by omega)]; exact f3 j h1)
      have hgy44 := up_n egy6 a1 (ne_o (i := i) (c := 1) (d := 0) rfl)
      have hgy45 := up_n egy12 hgy44 (ne_o (i := i) (c := 1) (d := 0) rfl)
      have hgy46 := up_n egy15 hgy45 (ne_o (i := i) (c := 1) (d := 0) rfl)
      have hgy47 := up_n egy18 hgy46 (ne_o (i := i) (c := 1) (d := 0) rfl)
      have hgy48 := up_n egy21 hgy47 (ne_o (i := i) (c := 1) (d := 0) rfl)
      have hgy49 := up_n egy24 hgy48 (ne_o (i := i) (c := 1) (d := 0) rfl)
      have hgy50 := up_n egy27 hgy49 (ne_o (i := i) (c := 1) (d := 0) rfl)
      have hgy51 := up_n egy30 hgy50 (ne_o (i := i) (c := 1) (d := 0) rfl)
      have hgy52 := up_n egy33 hgy51 (ne_o (i := i) (c := 1) (d := 0) rfl)
      have hgy53 := up_n egy6 a7 (ne_o (i := i) (c := 7) (d := 0) rfl)
      have hgy54 := up_n egy12 hgy53 (ne_o (i := i) (c := 7) (d := 0) rfl)
      have hgy55 := up_n egy15 hgy54 (ne_o (i := i) (c := 7) (d := 0) rfl)
      have hgy56 := up_n egy18 hgy55 (ne_o (i := i) (c := 7) (d := 0) rfl)
      have hgy57 := up_n egy21 hgy56 (ne_o (i := i) (c := 7) (d := 0) rfl)
      have hgy58 := up_n egy24 hgy57 (ne_o (i := i) (c := 7) (d := 0) rfl)
      have hgy59 := up_n egy27 hgy58 (ne_o (i := i) (c := 7) (d := 0) rfl)
      have hgy60 := up_n egy30 hgy59 (ne_o (i := i) (c := 7) (d := 0) rfl)
      have hgy61 := up_n egy33 hgy60 (ne_o (i := i) (c := 7) (d := 0) rfl)
      have hgy62 := up_n egy6 a22 (ne_o (i := i) (c := 22) (d := 0) rfl)
      have hgy63 := up_n egy12 hgy62 (ne_o (i := i) (c := 22) (d := 0) rfl)
      have hgy64 := up_n egy15 hgy63 (ne_o (i := i) (c := 22) (d := 0) rfl)
      have hgy65 := up_n egy18 hgy64 (ne_o (i := i) (c := 22) (d := 0) rfl)
      have hgy66 := up_n egy21 hgy65 (ne_o (i := i) (c := 22) (d := 0) rfl)
      have hgy67 := up_n egy24 hgy66 (ne_o (i := i) (c := 22) (d := 0) rfl)
      have hgy68 := up_n egy27 hgy67 (ne_o (i := i) (c := 22) (d := 0) rfl)
      have hgy69 := up_n egy30 hgy68 (ne_o (i := i) (c := 22) (d := 0) rfl)
      have hgy70 := up_n egy33 hgy69 (ne_o (i := i) (c := 22) (d := 0) rfl)
      refine z_lv (lv' := [(2, .int (zI (((0 : Nat) : Int)))), (0, .ref (ad i)), (1, .int (zI (0)))]) [0, 1, 2] rfl ?_
      exact lp 15 0 gy32  (by omega) hgy34 hgy52 hgy61 ⟨_, hgy70, fun j hj => absurd hj (Nat.not_lt_zero j)⟩ (fun j h1 => by rw [egy33, va_up_ne _ _ (by omega)]; rw [egy30, va_up_ne _ _ (by omega)]; rw [egy27, va_up_ne _ _ (by omega)]; rw [egy24, va_up_ne _ _ (by omega)]; rw [egy21, va_up_ne _ _ (by omega)]; rw [egy18, va_up_ne _ _ (by omega)]; rw [egy15, va_up_ne _ _ (by omega)]; rw [egy12, va_up_ne _ _ (by omega)]; rw [egy6, va_up_ne _ _ (by omega)])

set_option maxRecDepth 100000 in
set_option maxHeartbeats 4000000 in
theorem c_X10_isNoted0 (l : Launch) (D : va_G) (A : Nat → Prop) (cs : Nat → ClassId) (tt : Nat) (N : Nat) (ad : Nat → Nat) (g : Nat → va_E) (i : Nat) (hN : i + 30 ≤ N) (F : Nat → Int) (hg : g i = mC ad i F) (h13 : F 13 = 0) (h14 : F 14 = 0) (h17 : F 17 = 0) (r : Nat → Int) (hr1 : g (i + 1) = iA cs 29200 r) (hz1 : ∀ j, r j = 0) : zM l yX10_isNoted cX10_isNoted 4 (some .boolean) ({ frames := 4, cells := 0, slots := 0, locals := 240 } : Room) D A cs tt N ad g [.ref (ad i)] (rI0 N ad fun r g' => r = 1 ∧ ∀ j, j ≠ i + 1 → g' j = g j) := by
  have hay1 : zAt ad (i) (ad i) := rfl
  have hay2 : zAt ad (i + 1) (ad (i + 1)) := rfl
  refine z_of (by decide) (Nat.le_of_ble_eq_true rfl) ?_
  intro p e s m below meth c C hr hlk hnm
  refine z_lv (lv' := [(0, .ref (ad i))]) [0] rfl ?_
  refine z_iconst (z := 1) C dX10_isNoted_0 rfl ?_
  refine z_istore_n (lv' := [(1, .int (zI (1))), (0, .ref (ad i))]) C dX10_isNoted_1 rfl (by decide) rfl ?_
  refine z_aload_n C 1 dX10_isNoted_2 rfl ?_
  refine z_cV (As := []) (rest := []) (ci := 12) C (c_X10_tries l D A cs tt N ad _ i hN _ hg _ hr1 hz1) (by omega) hay1 hg rfl rfl mv_yX10_tries q_1984 hd_yX10_tries (by decide) (Nat.le_of_ble_eq_true rfl) (by decide) dX10_isNoted_3 rfl (kV0 fun gqy3 hqy3 => ?_)
  obtain ⟨⟨rqy3, hrqy3, hzqy3⟩, hfqy3⟩ := hqy3
  refine z_iconst (z := 0) C dX10_isNoted_6 rfl ?_
  refine z_istore_n (lv' := [(2, .int (zI (0))), (1, .int (zI (1))), (0, .ref (ad i))]) C dX10_isNoted_7 rfl (by decide) rfl ?_
  have lp : ∀ (n kk : Nat) (g1 : Nat → va_E) , kk + n = 49 → (g1 i = mC ad i F) → (∃ r1 : Nat → Int, g1 (i + 1) = iA cs 29200 r1) → (∀ j, j ≠ i + 1 → g1 j = g j) → zV p l e ({ frames := 4, cells := 0, slots := 0, locals := 240 } : Room) s m ([.ref (ad i)] : List Value).toArray below meth c (MQ below (zPost D A (rI0 N ad fun r g' => r = 1 ∧ ∀ j, j ≠ i + 1 → g' j = g j)) ([.ref (ad i)] : List Value).toArray s ({ frames := 4, cells := 0, slots := 0, locals := 240 } : Room).cells ({ frames := 4, cells := 0, slots := 0, locals := 240 } : Room).slots A) D A 4 (N) ad g1 (0) (0) 8 [(2, .int (zI ((kk : Int)))), (1, .int (zI (1))), (0, .ref (ad i))] [] := by
    intro n
    induction n with
    | zero =>
      intro kk g1  hkk f1 f2 f3
      have hay4 : zAt ad (i) (ad i) := rfl
      refine z_iload_n C 0 dX10_isNoted_8 rfl ?_
      refine z_bipush (z := 48) C dX10_isNoted_9 (by decide) ?_
      refine z_icmp_gt (tgt := 123) C dX10_isNoted_11 (by decide) (by omega) (by omega) (fun _ => ?_) (fun h => absurd h (by omega))
      refine z_iload_n C 1 dX10_isNoted_123 rfl ?_
      exact z_zret C hr hlk dX10_isNoted_124 (by decide) (by decide) (by decide) ⟨1, rfl, rfl, rfl, rfl, f3⟩
    | succ n ih =>
      intro kk g1  hkk f1 f2 f3
      have hay5 : zAt ad (i) (ad i) := rfl
      refine z_iload_n C 0 dX10_isNoted_8 rfl ?_
      refine z_bipush (z := 48) C dX10_isNoted_9 (by decide) ?_
      refine z_icmp_gt (tgt := 123) C dX10_isNoted_11 (by decide) (by omega) (by omega) (fun h => absurd h (by omega)) (fun _ => ?_)
      refine z_iconst (z := 0) C dX10_isNoted_14 rfl ?_
      refine z_istore_n (lv' := [(3, .int (zI (0))), (2, .int (zI ((kk : Int)))), (1, .int (zI (1))), (0, .ref (ad i))]) C dX10_isNoted_15 rfl (by decide) rfl ?_
      refine z_iload_n C 0 dX10_isNoted_16 rfl ?_
      refine z_aload_n C 3 dX10_isNoted_17 rfl ?_
      refine z_get (v := .int (zI (0))) C (by omega) hay5 f1 rfl inA_X10 17 (by decide) q_1476 rfl (fv (F := F) (f := 17) h17) dX10_isNoted_18 ?_
      refine z_icmp_ge (tgt := 73) C dX10_isNoted_21 (by decide) (by omega) (by omega) (fun _ => ?_) (fun h => absurd h (by omega))
      refine z_iload_n C 1 dX10_isNoted_73 rfl ?_
      refine z_bipush (z := 24) C dX10_isNoted_74 (by decide) ?_
      refine z_icmp_ne (tgt := 110) C dX10_isNoted_76 (by decide) (by omega) (by omega) (fun hb1 => ?_) (fun hb1 => ?_)
      · refine z_aload_n C 3 dX10_isNoted_110 rfl ?_
        refine z_sipush (z := 350) C dX10_isNoted_111 (by decide) ?_
        obtain ⟨r8, f4⟩ := f2
        refine z_cV (As := [.int (zI (350))]) (rest := []) (ci := 12) C (c_X10_hour0 l D A cs tt N ad _ i hN _ f1 h13 h14 _ f4 350 (by decide)) (by omega) hay5 f1 rfl rfl mv_yX10_hour q_1889 hd_yX10_hour (by decide) (Nat.le_of_ble_eq_true rfl) (by decide) dX10_isNoted_114 rfl (kV0 fun ga ha => ?_)
        obtain ⟨hc1, hc2⟩ := ha
        refine z_iinc (z := ((kk + 1 : Nat) : Int)) (lv' := [(2, .int (zI (((kk + 1 : Nat) : Int)))), (3, .int (zI (0))), (1, .int (zI (1))), (0, .ref (ad i))]) (j := 1) C dX10_isNoted_117 rfl (congrArg zI (by omega)) (by decide) rfl ?_
        refine z_goto (tgt := 8) C dX10_isNoted_120 (by decide) ?_
        refine z_lv (lv' := [(2, .int (zI (((kk + 1 : Nat) : Int)))), (1, .int (zI (1))), (0, .ref (ad i))]) [0, 2, 3] rfl ?_
        exact ih (kk + 1) ga (by omega) ((hc2 _ (by omega)).trans f1) ⟨_, hc1⟩ (fun j h => (hc2 j h).trans (f3 j h))
      · refine z_iconst (z := 0) C dX10_isNoted_79 rfl ?_
        refine z_istore_n (lv' := [(3, .int (zI (0))), (2, .int (zI ((kk : Int)))), (1, .int (zI (1))), (0, .ref (ad i))]) C dX10_isNoted_80 rfl (by decide) rfl ?_
        refine z_iload_n C 0 dX10_isNoted_81 rfl ?_
        refine z_aload_n C 3 dX10_isNoted_82 rfl ?_
        refine z_get (v := .int (zI (0))) C (by omega) hay5 f1 rfl inA_X10 13 (by decide) q_1472 rfl (fv (F := F) (f := 13) h13) dX10_isNoted_83 ?_
        refine z_icmp_ge (tgt := 110) C dX10_isNoted_86 (by decide) (by omega) (by omega) (fun _ => ?_) (fun h => absurd h (by omega))
        refine z_aload_n C 3 dX10_isNoted_110 rfl ?_
        refine z_sipush (z := 350) C dX10_isNoted_111 (by decide) ?_
        obtain ⟨r8, f4⟩ := f2
        refine z_cV (As := [.int (zI (350))]) (rest := []) (ci := 12) C (c_X10_hour0 l D A cs tt N ad _ i hN _ f1 h13 h14 _ f4 350 (by decide)) (by omega) hay5 f1 rfl rfl mv_yX10_hour q_1889 hd_yX10_hour (by decide) (Nat.le_of_ble_eq_true rfl) (by decide) dX10_isNoted_114 rfl (kV0 fun ga ha => ?_)
        obtain ⟨hc1, hc2⟩ := ha
        refine z_iinc (z := ((kk + 1 : Nat) : Int)) (lv' := [(2, .int (zI (((kk + 1 : Nat) : Int)))), (3, .int (zI (0))), (1, .int (zI (1))), (0, .ref (ad i))]) (j := 1) C dX10_isNoted_117 rfl (congrArg zI (by omega)) (by decide) rfl ?_
        refine z_goto (tgt := 8) C dX10_isNoted_120 (by decide) ?_
        refine z_lv (lv' := [(2, .int (zI (((kk + 1 : Nat) : Int)))), (1, .int (zI (1))), (0, .ref (ad i))]) [0, 2, 3] rfl ?_
        exact ih (kk + 1) ga (by omega) ((hc2 _ (by omega)).trans f1) ⟨_, hc1⟩ (fun j h => (hc2 j h).trans (f3 j h))
  have hgy6 := (hfqy3 (i) (ne_o (i := i) (c := 0) (d := 1) rfl)).trans hg
  refine z_lv (lv' := [(2, .int (zI (((0 : Nat) : Int)))), (1, .int (zI (1))), (0, .ref (ad i))]) [0, 1, 2] rfl ?_
  exact lp 49 0 gqy3  (by omega) hgy6 ⟨_, hrqy3⟩ (fun j h1 => by rw [hfqy3 _ (by omega)])

set_option maxRecDepth 100000 in
set_option maxHeartbeats 4000000 in
theorem c_X10_falls (l : Launch) (D : va_G) (A : Nat → Prop) (cs : Nat → ClassId) (tt : Nat) (N : Nat) (ad : Nat → Nat) (g : Nat → va_E) (i : Nat) (hN : i + 30 ≤ N) (hM : isM0 cs ad g i) (z : Int) (hz : -2147483648 ≤ z ∧ z ≤ 2147483647) : zM l yX10_falls cX10_falls 6 (some .int) ({ frames := 5, cells := 0, slots := 0, locals := 300 } : Room) D A cs tt N ad g [.ref (ad i), .int (zI z)] (rI0 N ad fun r g' => (0 ≤ z ∧ z ≤ 2 → r = (if z = 2 then 1 else if z = 0 then 0 else -1)) ∧ pM ad i g g' (if 0 ≤ z ∧ z ≤ 2 then 0 else 1)) := by
  obtain ⟨B, ⟨hg, hA⟩, hB7, hB0⟩ := id hM
  have hay1 : zAt ad (i) (ad i) := rfl
  have a1 : g (i + 1) = iA cs 29200 (B 1) := hA 1 (by decide) (by decide)
  have hay2 : zAt ad (i + 1) (ad (i + 1)) := rfl
  refine z_of (by decide) (Nat.le_of_ble_eq_true rfl) ?_
  intro p e s m below meth c C hr hlk hnm
  refine z_lv (lv' := [(0, .ref (ad i)), (1, .int (zI (z)))]) [0, 1] rfl ?_
  refine z_aload_n C 0 dX10_falls_0 rfl ?_
  refine z_iconst (z := 0) C dX10_falls_1 rfl ?_
  refine z_put (fs' := mF ad (i) (uZ mF0 12 (0))) C (by omega) hay1 hg tyX10 tyX10_ok nmX10 rfl inA_X10 12 (by decide) q_1471 rfl rfl rfl rfl (Nat.le_of_ble_eq_true rfl) rfl dX10_falls_2 (fun gy3 egy4 => ?_)
  have hgy5 := up_s egy4
  refine z_aload_n C 0 dX10_falls_5 rfl ?_
  refine z_iload_n C 1 dX10_falls_6 rfl ?_
  refine z_iconst (z := 0) C dX10_falls_7 rfl ?_
  refine z_iconst (z := 2) C dX10_falls_8 rfl ?_
  by_cases hw9 : 0 ≤ z ∧ z ≤ 2
  · refine z_cS (As := [.int (zI (z)), .int (zI (0)), .int (zI (2))]) (rest := [.ref (ad i)]) C (c_X10_within l D A cs tt N ad _ (z) (0) (2) (by omega) (by omega) (by omega)) ms_yX10_within q_1690 hd_yX10_within (by decide) (Nat.le_of_ble_eq_true rfl) (by decide) dX10_falls_9 rfl (kI0 fun qy8 gqy8 hqy8 => ?_)
    obtain ⟨eqy8, rfl⟩ := hqy8
    rw [if_pos (by omega)] at eqy8
    subst eqy8
    refine z_iconst (z := 1) C dX10_falls_12 rfl ?_
    refine z_cV (As := [.int (zI (1)), .int (zI (1))]) (rest := []) (ci := 12) C (c_X10_right1 l D A cs tt N ad _ i hN _ hgy5 (uZ_s _ _ _) 1) (by omega) hay1 hgy5 rfl rfl mv_yX10_right q_1652 hd_yX10_right (by decide) (Nat.le_of_ble_eq_true rfl) (by decide) dX10_falls_13 rfl (kI0 fun qy9 gqy9 hqy9 => ?_)
    obtain ⟨rfl, rfl⟩ := hqy9
    refine z_if_ne (tgt := 21) C dX10_falls_16 (by decide) (by omega) (fun _ => ?_) (fun h => absurd h (by omega))
    refine z_iload_n C 1 dX10_falls_21 rfl ?_
    refine z_iconst (z := 2) C dX10_falls_22 rfl ?_
    refine z_icmp_ne (tgt := 39) C dX10_falls_23 (by decide) (by omega) (by omega) (fun hb1 => ?_) (fun hb1 => ?_)
    · refine z_iconst (z := 0) C dX10_falls_39 rfl ?_
      refine z_istore_n (lv' := [(2, .int (zI (0))), (0, .ref (ad i)), (1, .int (zI (z)))]) C dX10_falls_40 rfl (by decide) rfl ?_
      refine z_iconst (z := -1) C dX10_falls_41 rfl ?_
      refine z_istore_n (lv' := [(3, .int (zI (-1))), (2, .int (zI (0))), (0, .ref (ad i)), (1, .int (zI (z)))]) C dX10_falls_42 rfl (by decide) rfl ?_
      refine z_iconst (z := 0) C dX10_falls_43 rfl ?_
      refine z_istore (lv' := [(4, .int (zI (0))), (3, .int (zI (-1))), (2, .int (zI (0))), (0, .ref (ad i)), (1, .int (zI (z)))]) C dX10_falls_44 (by decide) rfl ?_
      refine z_iload C 0 dX10_falls_46 rfl ?_
      refine z_aload_n C 3 dX10_falls_48 rfl ?_
      refine z_get (v := .int (zI (0))) C (by omega) hay1 hgy5 rfl inA_X10 14 (by decide) q_1473 rfl (fv (F := (uZ mF0 12 (0))) (f := 14) (fn rfl (by decide))) dX10_falls_49 ?_
      refine z_icmp_ge (tgt := 107) C dX10_falls_52 (by decide) (by omega) (by omega) (fun _ => ?_) (fun h => absurd h (by omega))
      refine z_iload_n C 4 dX10_falls_107 rfl ?_
      refine z_if_ne (tgt := 115) C dX10_falls_108 (by decide) (by omega) (fun hb2 => ?_) (fun hb2 => ?_)
      · refine z_iload_n C 1 dX10_falls_115 rfl ?_
        exact z_iret C hr hlk dX10_falls_116 (by decide) (by decide) ⟨-1, rfl, rfl, rfl, fun _ => by rw [if_neg hb1, if_neg hb2], by rw [if_pos hw9]; exact ⟨⟨_, hgy5, (uZ_s _ _ _)⟩, fun j h1 => by rw [egy4, va_up_ne _ _ (by omega)]⟩⟩
      · refine z_iload_n C 2 dX10_falls_111 rfl ?_
        refine z_goto (tgt := 116) C dX10_falls_112 (by decide) ?_
        exact z_iret C hr hlk dX10_falls_116 (by decide) (by decide) ⟨0, rfl, rfl, rfl, fun _ => by rw [if_neg hb1, if_pos hb2], by rw [if_pos hw9]; exact ⟨⟨_, hgy5, (uZ_s _ _ _)⟩, fun j h1 => by rw [egy4, va_up_ne _ _ (by omega)]⟩⟩
    · refine z_aload_n C 0 dX10_falls_26 rfl ?_
      have hgy10 := up_n egy4 a1 (ne_o (i := i) (c := 1) (d := 0) rfl)
      refine z_cV (As := []) (rest := []) (ci := 12) C (c_X10_isNoted0 l D A cs tt N ad _ i hN _ hgy5 (fn rfl (by decide)) (fn rfl (by decide)) (fn rfl (by decide)) _ hgy10 (hB0 1 (by decide))) (by omega) hay1 hgy5 rfl rfl mv_yX10_isNoted q_2075 hd_yX10_isNoted (by decide) (Nat.le_of_ble_eq_true rfl) (by decide) dX10_falls_27 rfl (kI0 fun rn gn hn => ?_)
      obtain ⟨rfl, hn1⟩ := hn
      refine z_if_eq (tgt := 37) C dX10_falls_30 (by decide) (by omega) (fun h => absurd h (by omega)) (fun _ => ?_)
      refine z_iconst (z := 1) C dX10_falls_33 rfl ?_
      refine z_goto (tgt := 38) C dX10_falls_34 (by decide) ?_
      have hgy11 := (hn1 (i) (ne_o (i := i) (c := 0) (d := 1) rfl)).trans hgy5
      exact z_iret C hr hlk dX10_falls_38 (by decide) (by decide) ⟨1, rfl, rfl, rfl, fun _ => by rw [if_pos hb1], by rw [if_pos hw9]; exact ⟨⟨_, hgy11, (uZ_s _ _ _)⟩, fun j h1 => by rw [hn1 _ (by omega)]; rw [egy4, va_up_ne _ _ (by omega)]⟩⟩
  · refine z_cS (As := [.int (zI (z)), .int (zI (0)), .int (zI (2))]) (rest := [.ref (ad i)]) C (c_X10_within l D A cs tt N ad _ (z) (0) (2) (by omega) (by omega) (by omega)) ms_yX10_within q_1690 hd_yX10_within (by decide) (Nat.le_of_ble_eq_true rfl) (by decide) dX10_falls_9 rfl (kI0 fun qy6 gqy6 hqy6 => ?_)
    obtain ⟨eqy6, rfl⟩ := hqy6
    rw [if_neg (by omega)] at eqy6
    subst eqy6
    refine z_iconst (z := 1) C dX10_falls_12 rfl ?_
    refine z_cV (As := [.int (zI (0)), .int (zI (1))]) (rest := []) (ci := 12) C (c_X10_right0 l D A cs tt N ad _ i hN _ hgy5 (uZ_s _ _ _) 1 (by decide)) (by omega) hay1 hgy5 rfl rfl mv_yX10_right q_1652 hd_yX10_right (by decide) (Nat.le_of_ble_eq_true rfl) (by decide) dX10_falls_13 rfl (kI0 fun qy7 gqy7 hqy7 => ?_)
    obtain ⟨rfl, hcqy7, hfqy7⟩ := hqy7
    refine z_if_ne (tgt := 21) C dX10_falls_16 (by decide) (by omega) (fun h => absurd h (by omega)) (fun _ => ?_)
    refine z_iconst (z := 0) C dX10_falls_19 rfl ?_
    exact z_iret C hr hlk dX10_falls_20 (by decide) (by decide) ⟨0, rfl, rfl, rfl, fun h => absurd h hw9, by rw [if_neg hw9]; exact ⟨⟨_, hcqy7, (uZ_s _ _ _)⟩, fun j h1 => by rw [hfqy7 _ (by omega)]; rw [egy4, va_up_ne _ _ (by omega)]⟩⟩

set_option maxRecDepth 100000 in
set_option maxHeartbeats 4000000 in
theorem c_X10_look (l : Launch) (D : va_G) (A : Nat → Prop) (cs : Nat → ClassId) (tt : Nat) (N : Nat) (ad : Nat → Nat) (g : Nat → va_E) (i : Nat) (hN : i + 30 ≤ N) (hM : isM0 cs ad g i) (z : Int) (hz : -2147483648 ≤ z ∧ z ≤ 2147483647) : zM l yX10_look cX10_look 7 (some .int) ({ frames := 3, cells := 0, slots := 0, locals := 180 } : Room) D A cs tt N ad g [.ref (ad i), .int (zI z)] (rI0 N ad fun r g' => (0 ≤ z ∧ z ≤ 1 → r = (if z = 0 then -1 else 0)) ∧ pM ad i g g' (if 0 ≤ z ∧ z ≤ 1 then 0 else 1)) := by
  obtain ⟨B, ⟨hg, hA⟩, hB7, hB0⟩ := id hM
  have hay1 : zAt ad (i) (ad i) := rfl
  refine z_of (by decide) (Nat.le_of_ble_eq_true rfl) ?_
  intro p e s m below meth c C hr hlk hnm
  refine z_lv (lv' := [(0, .ref (ad i)), (1, .int (zI (z)))]) [0, 1] rfl ?_
  refine z_aload_n C 0 dX10_look_0 rfl ?_
  refine z_iconst (z := 0) C dX10_look_1 rfl ?_
  refine z_put (fs' := mF ad (i) (uZ mF0 12 (0))) C (by omega) hay1 hg tyX10 tyX10_ok nmX10 rfl inA_X10 12 (by decide) q_1471 rfl rfl rfl rfl (Nat.le_of_ble_eq_true rfl) rfl dX10_look_2 (fun gy2 egy3 => ?_)
  have hgy4 := up_s egy3
  refine z_aload_n C 0 dX10_look_5 rfl ?_
  refine z_iload_n C 1 dX10_look_6 rfl ?_
  refine z_iconst (z := 0) C dX10_look_7 rfl ?_
  refine z_iconst (z := 1) C dX10_look_8 rfl ?_
  by_cases hw9 : 0 ≤ z ∧ z ≤ 1
  · refine z_cS (As := [.int (zI (z)), .int (zI (0)), .int (zI (1))]) (rest := [.ref (ad i)]) C (c_X10_within l D A cs tt N ad _ (z) (0) (1) (by omega) (by omega) (by omega)) ms_yX10_within q_1690 hd_yX10_within (by decide) (Nat.le_of_ble_eq_true rfl) (by decide) dX10_look_9 rfl (kI0 fun qy7 gqy7 hqy7 => ?_)
    obtain ⟨eqy7, rfl⟩ := hqy7
    rw [if_pos (by omega)] at eqy7
    subst eqy7
    refine z_iconst (z := 1) C dX10_look_12 rfl ?_
    refine z_cV (As := [.int (zI (1)), .int (zI (1))]) (rest := []) (ci := 12) C (c_X10_right1 l D A cs tt N ad _ i hN _ hgy4 (uZ_s _ _ _) 1) (by omega) hay1 hgy4 rfl rfl mv_yX10_right q_1652 hd_yX10_right (by decide) (Nat.le_of_ble_eq_true rfl) (by decide) dX10_look_13 rfl (kI0 fun qy8 gqy8 hqy8 => ?_)
    obtain ⟨rfl, rfl⟩ := hqy8
    refine z_if_ne (tgt := 21) C dX10_look_16 (by decide) (by omega) (fun _ => ?_) (fun h => absurd h (by omega))
    refine z_iconst (z := 0) C dX10_look_21 rfl ?_
    refine z_istore_n (lv' := [(2, .int (zI (0))), (0, .ref (ad i)), (1, .int (zI (z)))]) C dX10_look_22 rfl (by decide) rfl ?_
    refine z_iconst (z := 0) C dX10_look_23 rfl ?_
    refine z_istore_n (lv' := [(3, .int (zI (0))), (2, .int (zI (0))), (0, .ref (ad i)), (1, .int (zI (z)))]) C dX10_look_24 rfl (by decide) rfl ?_
    refine z_iload_n C 0 dX10_look_25 rfl ?_
    refine z_aload_n C 2 dX10_look_26 rfl ?_
    refine z_get (v := .int (zI (0))) C (by omega) hay1 hgy4 rfl inA_X10 14 (by decide) q_1473 rfl (fv (F := (uZ mF0 12 (0))) (f := 14) (fn rfl (by decide))) dX10_look_27 ?_
    refine z_icmp_ge (tgt := 107) C dX10_look_30 (by decide) (by omega) (by omega) (fun _ => ?_) (fun h => absurd h (by omega))
    refine z_iconst (z := -1) C dX10_look_107 rfl ?_
    refine z_istore_n (lv' := [(3, .int (zI (-1))), (2, .int (zI (0))), (0, .ref (ad i)), (1, .int (zI (z)))]) C dX10_look_108 rfl (by decide) rfl ?_
    refine z_iconst (z := 0) C dX10_look_109 rfl ?_
    refine z_istore (lv' := [(4, .int (zI (0))), (3, .int (zI (-1))), (2, .int (zI (0))), (0, .ref (ad i)), (1, .int (zI (z)))]) C dX10_look_110 (by decide) rfl ?_
    refine z_iconst (z := 0) C dX10_look_112 rfl ?_
    refine z_istore (lv' := [(5, .int (zI (0))), (4, .int (zI (0))), (3, .int (zI (-1))), (2, .int (zI (0))), (0, .ref (ad i)), (1, .int (zI (z)))]) C dX10_look_113 (by decide) rfl ?_
    refine z_iload C 0 dX10_look_115 rfl ?_
    refine z_aload_n C 4 dX10_look_117 rfl ?_
    refine z_get (v := .int (zI (0))) C (by omega) hay1 hgy4 rfl inA_X10 13 (by decide) q_1472 rfl (fv (F := (uZ mF0 12 (0))) (f := 13) (fn rfl (by decide))) dX10_look_118 ?_
    refine z_icmp_ge (tgt := 156) C dX10_look_121 (by decide) (by omega) (by omega) (fun _ => ?_) (fun h => absurd h (by omega))
    refine z_iload_n C 5 dX10_look_156 rfl ?_
    refine z_if_ne (tgt := 164) C dX10_look_157 (by decide) (by omega) (fun hb2 => ?_) (fun hb2 => ?_)
    · refine z_iload C 1 dX10_look_164 rfl ?_
      exact z_iret C hr hlk dX10_look_166 (by decide) (by decide) ⟨0, rfl, rfl, rfl, fun _ => by rw [if_neg hb2], by rw [if_pos hw9]; exact ⟨⟨_, hgy4, (uZ_s _ _ _)⟩, fun j h1 => by rw [egy3, va_up_ne _ _ (by omega)]⟩⟩
    · refine z_iload_n C 2 dX10_look_160 rfl ?_
      refine z_goto (tgt := 166) C dX10_look_161 (by decide) ?_
      exact z_iret C hr hlk dX10_look_166 (by decide) (by decide) ⟨-1, rfl, rfl, rfl, fun _ => by rw [if_pos hb2], by rw [if_pos hw9]; exact ⟨⟨_, hgy4, (uZ_s _ _ _)⟩, fun j h1 => by rw [egy3, va_up_ne _ _ (by omega)]⟩⟩
  · refine z_cS (As := [.int (zI (z)), .int (zI (0)), .int (zI (1))]) (rest := [.ref (ad i)]) C (c_X10_within l D A cs tt N ad _ (z) (0) (1) (by omega) (by omega) (by omega)) ms_yX10_within q_1690 hd_yX10_within (by decide) (Nat.le_of_ble_eq_true rfl) (by decide) dX10_look_9 rfl (kI0 fun qy5 gqy5 hqy5 => ?_)
    obtain ⟨eqy5, rfl⟩ := hqy5
    rw [if_neg (by omega)] at eqy5
    subst eqy5
    refine z_iconst (z := 1) C dX10_look_12 rfl ?_
    refine z_cV (As := [.int (zI (0)), .int (zI (1))]) (rest := []) (ci := 12) C (c_X10_right0 l D A cs tt N ad _ i hN _ hgy4 (uZ_s _ _ _) 1 (by decide)) (by omega) hay1 hgy4 rfl rfl mv_yX10_right q_1652 hd_yX10_right (by decide) (Nat.le_of_ble_eq_true rfl) (by decide) dX10_look_13 rfl (kI0 fun qy6 gqy6 hqy6 => ?_)
    obtain ⟨rfl, hcqy6, hfqy6⟩ := hqy6
    refine z_if_ne (tgt := 21) C dX10_look_16 (by decide) (by omega) (fun h => absurd h (by omega)) (fun _ => ?_)
    refine z_iconst (z := 0) C dX10_look_19 rfl ?_
    exact z_iret C hr hlk dX10_look_20 (by decide) (by decide) ⟨0, rfl, rfl, rfl, fun h => absurd h hw9, by rw [if_neg hw9]; exact ⟨⟨_, hcqy6, (uZ_s _ _ _)⟩, fun j h1 => by rw [hfqy6 _ (by omega)]; rw [egy3, va_up_ne _ _ (by omega)]⟩⟩

set_option maxRecDepth 100000 in
set_option maxHeartbeats 4000000 in
theorem c_X10_draw6 (l : Launch) (D : va_G) (A : Nat → Prop) (cs : Nat → ClassId) (tt : Nat) (N : Nat) (ad : Nat → Nat) (g : Nat → va_E) (i : Nat) (hN : i + 30 ≤ N) (F : Nat → Int) (hg : g i = mC ad i F) : zM l yX10_draw cX10_draw 2 (some .int) ({ frames := 1, cells := 0, slots := 0, locals := 60 } : Room) D A cs tt N ad g [.ref (ad i), .int (zI 6)] (rI0 N ad fun r g' => (0 ≤ r ∧ r ≤ 5) ∧ (∃ x : Int, g' i = mC ad i (uZ F 59 x)) ∧ ∀ j, j ≠ i → g' j = g j) := by
  have hay1 : zAt ad (i) (ad i) := rfl
  refine z_of (by decide) (Nat.le_of_ble_eq_true rfl) ?_
  intro p e s m below meth c C hr hlk hnm
  refine z_lv (lv' := [(0, .ref (ad i)), (1, .int (zI (6)))]) [0, 1] rfl ?_
  refine z_aload_n C 0 dX10_draw_0 rfl ?_
  refine z_aload_n C 0 dX10_draw_1 rfl ?_
  refine z_get (v := .int (zI (F 59))) C (by omega) hay1 hg rfl inA_X10 59 (by decide) q_1518 rfl rfl dX10_draw_2 ?_
  refine z_ldcw (z := 1103515245) C dX10_draw_5 q_2111 (by decide) ?_
  refine z_imul C dX10_draw_8 ?_
  refine z_sipush (z := 12345) C dX10_draw_9 (by decide) ?_
  refine z_iadd C dX10_draw_12 ?_
  obtain ⟨x9, e9, -⟩ : ∃ x9 : Int, x9 = ((F 59) * 1103515245) + 12345 ∧ True := ⟨_, rfl, trivial⟩
  rw [← e9]
  refine z_put (fs' := mF ad (i) (uZ F 59 (x9))) C (by omega) hay1 hg tyX10 tyX10_ok nmX10 rfl inA_X10 59 (by decide) q_1518 rfl rfl rfl rfl (Nat.le_of_ble_eq_true rfl) rfl dX10_draw_13 (fun gy2 egy3 => ?_)
  have hgy4 := up_s egy3
  refine z_aload_n C 0 dX10_draw_16 rfl ?_
  refine z_get (v := .int (zI (x9))) C (by omega) hay1 hgy4 rfl inA_X10 59 (by decide) q_1518 rfl (fv (F := (uZ F 59 (x9))) (f := 59) (uZ_s _ _ _)) dX10_draw_17 ?_
  refine z_bipush (z := 16) C dX10_draw_20 (by decide) ?_
  obtain ⟨x1, e1, -⟩ := zI_of (zI x9 >>> (zI 16 &&& 31))
  refine z_ishr (z := x1) C dX10_draw_22 e1 ?_
  refine z_sipush (z := 32767) C dX10_draw_23 (by decide) ?_
  obtain ⟨x2, e2, h2⟩ := zI_and (zI x1) (m := zI 32767) 15 (by decide)
  refine z_iand (z := x2) C dX10_draw_26 e2 ?_
  refine z_iload_n C 1 dX10_draw_27 rfl ?_
  refine z_irem C dX10_draw_28 (by omega) (by omega) (by decide) ?_
  exact z_iret C hr hlk dX10_draw_29 (by decide) (by decide) ⟨x2.tmod 6, rfl, rfl, rfl, by rw [Int.tmod_eq_emod_of_nonneg (by omega)]; omega, ⟨_, hgy4⟩, fun j h1 => by rw [egy3, va_up_ne _ _ (by omega)]⟩

set_option maxRecDepth 100000 in
set_option maxHeartbeats 4000000 in
theorem c_X10_year0 (l : Launch) (D : va_G) (A : Nat → Prop) (cs : Nat → ClassId) (tt : Nat) (N : Nat) (ad : Nat → Nat) (g : Nat → va_E) (i : Nat) (hN : i + 30 ≤ N) (F : Nat → Int) (hg : g i = mC ad i F) (h13 : F 13 = 0) (h14 : F 14 = 0) (r : Nat → Int) (hr1 : g (i + 1) = iA cs 29200 r) (hz1 : ∀ j, j ≠ 350 → r j = 0) : zM l yX10_year cX10_year 3 none ({ frames := 5, cells := 0, slots := 0, locals := 300 } : Room) D A cs tt N ad g [.ref (ad i)] (rV0 N ad fun g' => (∃ F' : Nat → Int, g' i = mC ad i F' ∧ (∀ f, f ≠ 59 → F' f = F f)) ∧ (∃ r' : Nat → Int, g' (i + 1) = iA cs 29200 r' ∧ ∀ j, j ≠ 350 → r' j = 0) ∧ ∀ j, j ≠ i → j ≠ i + 1 → g' j = g j) := by
  have hay1 : zAt ad (i) (ad i) := rfl
  have hay2 : zAt ad (i + 1) (ad (i + 1)) := rfl
  refine z_of (by decide) (Nat.le_of_ble_eq_true rfl) ?_
  intro p e s m below meth c C hr hlk hnm
  refine z_lv (lv' := [(0, .ref (ad i))]) [0] rfl ?_
  refine z_aload_n C 0 dX10_year_0 rfl ?_
  refine z_bipush (z := 6) C dX10_year_1 (by decide) ?_
  refine z_cV (As := [.int (zI (6))]) (rest := []) (ci := 12) C (c_X10_draw6 l D A cs tt N ad _ i hN _ hg) (by omega) hay1 hg rfl rfl mv_yX10_draw q_2107 hd_yX10_draw (by decide) (Nat.le_of_ble_eq_true rfl) (by decide) dX10_year_3 rfl (kI0 fun d1 gd1 hd1 => ?_)
  obtain ⟨hd1, ⟨xd1, hcd1⟩, hfd1⟩ := hd1
  refine z_istore_n (lv' := [(1, .int (zI (d1))), (0, .ref (ad i))]) C dX10_year_6 rfl (by decide) rfl ?_
  refine z_iload_n C 0 dX10_year_7 rfl ?_
  refine z_iconst (z := 2) C dX10_year_8 rfl ?_
  refine z_icmp_ge (tgt := 30) C dX10_year_9 (by decide) (by omega) (by omega) (fun hb1 => ?_) (fun hb1 => ?_)
  · refine z_iload_n C 0 dX10_year_30 rfl ?_
    refine z_iconst (z := 5) C dX10_year_31 rfl ?_
    refine z_icmp_ne (tgt := 74) C dX10_year_32 (by decide) (by omega) (by omega) (fun hb2 => ?_) (fun hb2 => ?_)
    · refine z_aload_n C 1 dX10_year_74 rfl ?_
      refine z_get (v := .int (zI (0))) C (by omega) hay1 hcd1 rfl inA_X10 13 (by decide) q_1472 rfl (fv (F := (uZ F 59 (xd1))) (f := 13) (fn h13 (by decide))) dX10_year_75 ?_
      refine z_if_le (tgt := 143) C dX10_year_78 (by decide) (by omega) (fun _ => ?_) (fun h => absurd h (by omega))
      have hgy3 := (hfd1 (i + 1) (ne_o (i := i) (c := 1) (d := 0) rfl)).trans hr1
      exact z_vret C hr hlk dX10_year_143 (by decide) (by decide) ⟨rfl, rfl, rfl, ⟨_, hcd1, (fun f h9 => (fn rfl h9))⟩, ⟨_, hgy3, hz1⟩, fun j h1 h2 => by rw [hfd1 _ (by omega)]⟩
    · refine z_iconst (z := 0) C dX10_year_35 rfl ?_
      refine z_istore_n (lv' := [(2, .int (zI (0))), (1, .int (zI (d1))), (0, .ref (ad i))]) C dX10_year_36 rfl (by decide) rfl ?_
      refine z_iload_n C 0 dX10_year_37 rfl ?_
      refine z_aload_n C 2 dX10_year_38 rfl ?_
      refine z_get (v := .int (zI (0))) C (by omega) hay1 hcd1 rfl inA_X10 13 (by decide) q_1472 rfl (fv (F := (uZ F 59 (xd1))) (f := 13) (fn h13 (by decide))) dX10_year_39 ?_
      refine z_icmp_ge (tgt := 71) C dX10_year_42 (by decide) (by omega) (by omega) (fun _ => ?_) (fun h => absurd h (by omega))
      refine z_goto (tgt := 143) C dX10_year_71 (by decide) ?_
      have hgy4 := (hfd1 (i + 1) (ne_o (i := i) (c := 1) (d := 0) rfl)).trans hr1
      exact z_vret C hr hlk dX10_year_143 (by decide) (by decide) ⟨rfl, rfl, rfl, ⟨_, hcd1, (fun f h9 => (fn rfl h9))⟩, ⟨_, hgy4, hz1⟩, fun j h1 h2 => by rw [hfd1 _ (by omega)]⟩
  · refine z_aload_n C 1 dX10_year_12 rfl ?_
    refine z_sipush (z := 350) C dX10_year_13 (by decide) ?_
    refine z_aload_n C 1 dX10_year_16 rfl ?_
    refine z_bipush (z := 6) C dX10_year_17 (by decide) ?_
    refine z_cV (As := [.int (zI (6))]) (rest := [.int (zI (350)), .ref (ad i)]) (ci := 12) C (c_X10_draw6 l D A cs tt N ad _ i hN _ hcd1) (by omega) hay1 hcd1 rfl rfl mv_yX10_draw q_2107 hd_yX10_draw (by decide) (Nat.le_of_ble_eq_true rfl) (by decide) dX10_year_19 rfl (kI0 fun d2 gd2 hd2 => ?_)
    obtain ⟨hd2, ⟨xd2, hcd2⟩, hfd2⟩ := hd2
    refine z_iconst (z := 1) C dX10_year_22 rfl ?_
    refine z_iadd C dX10_year_23 ?_
    have hgy5 := (hfd1 (i + 1) (ne_o (i := i) (c := 1) (d := 0) rfl)).trans hr1
    have hgy6 := (hfd2 (i + 1) (ne_o (i := i) (c := 1) (d := 0) rfl)).trans hgy5
    refine z_cV (As := [.int (zI (350)), .int (zI (d2 + 1))]) (rest := []) (ci := 12) C (c_X10_goes0 l D A cs tt N ad _ i hN _ hcd2 (fn (fn h13 (by decide)) (by decide)) (fn (fn h14 (by decide)) (by decide)) _ hgy6 350 (by decide) (d2 + 1) (by omega)) (by omega) hay1 hcd2 rfl rfl mv_yX10_goes q_1885 hd_yX10_goes (by decide) (Nat.le_of_ble_eq_true rfl) (by decide) dX10_year_24 rfl (kV0 fun gt ht => ?_)
    obtain ⟨⟨rt, ht1, ht2, ht3⟩, ht4⟩ := ht
    refine z_goto (tgt := 143) C dX10_year_27 (by decide) ?_
    have hgy7 := (ht4 (i) (ne_o (i := i) (c := 0) (d := 1) rfl)).trans hcd2
    exact z_vret C hr hlk dX10_year_143 (by decide) (by decide) ⟨rfl, rfl, rfl, ⟨_, hgy7, (fun f h9 => (fn (fn rfl h9) h9))⟩, ⟨_, ht1, fun j h => (ht3 j h).trans (hz1 j h)⟩, fun j h1 h2 => by rw [ht4 _ (by omega)]; rw [hfd2 _ (by omega)]; rw [hfd1 _ (by omega)]⟩

set_option maxRecDepth 100000 in
set_option maxHeartbeats 4000000 in
theorem c_X10_years (l : Launch) (D : va_G) (A : Nat → Prop) (cs : Nat → ClassId) (tt : Nat) (N : Nat) (ad : Nat → Nat) (g : Nat → va_E) (i : Nat) (hN : i + 30 ≤ N) (hM : isM0 cs ad g i) (z z1 z2 : Int) (hz : -2147483648 ≤ z ∧ z ≤ 2147483647) (hz1 : -2147483648 ≤ z1 ∧ z1 ≤ 2147483647) (hz2 : -2147483648 ≤ z2 ∧ z2 ≤ 2147483647) : zM l yX10_years cX10_years 6 (some .int) ({ frames := 6, cells := 0, slots := 0, locals := 360 } : Room) D A cs tt N ad g [.ref (ad i), .int (zI z), .int (zI z1), .int (zI z2)] (rI0 N ad fun r g' => ((0 ≤ z2 ∧ z2 ≤ 2) ∧ (0 ≤ z1 ∧ z1 ≤ 30) → r = 0) ∧ pM ad i g g' (if 0 ≤ z2 ∧ z2 ≤ 2 then (if 0 ≤ z1 ∧ z1 ≤ 30 then 0 else 2) else 1)) := by
  obtain ⟨B, ⟨hg, hA⟩, hB7, hB0⟩ := id hM
  have hay1 : zAt ad (i) (ad i) := rfl
  have a1 : g (i + 1) = iA cs 29200 (B 1) := hA 1 (by decide) (by decide)
  have hay2 : zAt ad (i + 1) (ad (i + 1)) := rfl
  refine z_of (by decide) (Nat.le_of_ble_eq_true rfl) ?_
  intro p e s m below meth c C hr hlk hnm
  refine z_lv (lv' := [(0, .ref (ad i)), (1, .int (zI (z))), (2, .int (zI (z1))), (3, .int (zI (z2)))]) [0, 1, 2, 3] rfl ?_
  refine z_aload_n C 0 dX10_years_0 rfl ?_
  refine z_iconst (z := 0) C dX10_years_1 rfl ?_
  refine z_put (fs' := mF ad (i) (uZ mF0 12 (0))) C (by omega) hay1 hg tyX10 tyX10_ok nmX10 rfl inA_X10 12 (by decide) q_1471 rfl rfl rfl rfl (Nat.le_of_ble_eq_true rfl) rfl dX10_years_2 (fun gy3 egy4 => ?_)
  have hgy5 := up_s egy4
  refine z_aload_n C 0 dX10_years_5 rfl ?_
  refine z_iload_n C 3 dX10_years_6 rfl ?_
  refine z_iconst (z := 0) C dX10_years_7 rfl ?_
  refine z_iconst (z := 2) C dX10_years_8 rfl ?_
  by_cases hw9 : 0 ≤ z2 ∧ z2 ≤ 2
  · refine z_cS (As := [.int (zI (z2)), .int (zI (0)), .int (zI (2))]) (rest := [.ref (ad i)]) C (c_X10_within l D A cs tt N ad _ (z2) (0) (2) (by omega) (by omega) (by omega)) ms_yX10_within q_1690 hd_yX10_within (by decide) (Nat.le_of_ble_eq_true rfl) (by decide) dX10_years_9 rfl (kI0 fun qy8 gqy8 hqy8 => ?_)
    obtain ⟨eqy8, rfl⟩ := hqy8
    rw [if_pos (by omega)] at eqy8
    subst eqy8
    refine z_iconst (z := 1) C dX10_years_12 rfl ?_
    refine z_cV (As := [.int (zI (1)), .int (zI (1))]) (rest := []) (ci := 12) C (c_X10_right1 l D A cs tt N ad _ i hN _ hgy5 (uZ_s _ _ _) 1) (by omega) hay1 hgy5 rfl rfl mv_yX10_right q_1652 hd_yX10_right (by decide) (Nat.le_of_ble_eq_true rfl) (by decide) dX10_years_13 rfl (kI0 fun qy9 gqy9 hqy9 => ?_)
    obtain ⟨rfl, rfl⟩ := hqy9
    refine z_if_eq (tgt := 34) C dX10_years_16 (by decide) (by omega) (fun h => absurd h (by omega)) (fun _ => ?_)
    refine z_aload_n C 0 dX10_years_19 rfl ?_
    refine z_iload_n C 2 dX10_years_20 rfl ?_
    refine z_iconst (z := 0) C dX10_years_21 rfl ?_
    refine z_bipush (z := 30) C dX10_years_22 (by decide) ?_
    by_cases hw8 : 0 ≤ z1 ∧ z1 ≤ 30
    · refine z_cS (As := [.int (zI (z1)), .int (zI (0)), .int (zI (30))]) (rest := [.ref (ad i)]) C (c_X10_within l D A cs tt N ad _ (z1) (0) (30) (by omega) (by omega) (by omega)) ms_yX10_within q_1690 hd_yX10_within (by decide) (Nat.le_of_ble_eq_true rfl) (by decide) dX10_years_24 rfl (kI0 fun qy12 gqy12 hqy12 => ?_)
      obtain ⟨eqy12, rfl⟩ := hqy12
      rw [if_pos (by omega)] at eqy12
      subst eqy12
      refine z_iconst (z := 2) C dX10_years_27 rfl ?_
      refine z_cV (As := [.int (zI (1)), .int (zI (2))]) (rest := []) (ci := 12) C (c_X10_right1 l D A cs tt N ad _ i hN _ hgy5 (uZ_s _ _ _) 2) (by omega) hay1 hgy5 rfl rfl mv_yX10_right q_1652 hd_yX10_right (by decide) (Nat.le_of_ble_eq_true rfl) (by decide) dX10_years_28 rfl (kI0 fun qy13 gqy13 hqy13 => ?_)
      obtain ⟨rfl, rfl⟩ := hqy13
      refine z_if_ne (tgt := 36) C dX10_years_31 (by decide) (by omega) (fun _ => ?_) (fun h => absurd h (by omega))
      refine z_aload_n C 0 dX10_years_36 rfl ?_
      have hgy14 := up_n egy4 a1 (ne_o (i := i) (c := 1) (d := 0) rfl)
      refine z_cV (As := []) (rest := []) (ci := 12) C (c_X10_tries l D A cs tt N ad _ i hN _ hgy5 _ hgy14 (hB0 1 (by decide))) (by omega) hay1 hgy5 rfl rfl mv_yX10_tries q_1984 hd_yX10_tries (by decide) (Nat.le_of_ble_eq_true rfl) (by decide) dX10_years_37 rfl (kV0 fun gqy15 hqy15 => ?_)
      obtain ⟨⟨rqy15, hrqy15, hzqy15⟩, hfqy15⟩ := hqy15
      refine z_aload_n C 0 dX10_years_40 rfl ?_
      refine z_iload_n C 1 dX10_years_41 rfl ?_
      have hgy16 := (hfqy15 (i) (ne_o (i := i) (c := 0) (d := 1) rfl)).trans hgy5
      refine z_put (fs' := mF ad (i) (uZ (uZ mF0 12 (0)) 59 (z))) C (by omega) hay1 hgy16 tyX10 tyX10_ok nmX10 rfl inA_X10 59 (by decide) q_1518 rfl rfl rfl rfl (Nat.le_of_ble_eq_true rfl) rfl dX10_years_42 (fun gy17 egy18 => ?_)
      have hgy19 := up_s egy18
      refine z_iconst (z := 0) C dX10_years_45 rfl ?_
      refine z_istore (lv' := [(4, .int (zI (0))), (0, .ref (ad i)), (1, .int (zI (z))), (2, .int (zI (z1))), (3, .int (zI (z2)))]) C dX10_years_46 (by decide) rfl ?_
      have lp : ∀ (n kk : Nat) (g1 : Nat → va_E) , kk + n = z1.toNat → (∃ F1 : Nat → Int, g1 i = mC ad i F1 ∧ F1 12 = 0 ∧ F1 13 = 0 ∧ F1 14 = 0) → ((∃ r' : Nat → Int, g1 (i + 1) = iA cs 29200 r' ∧ ∀ j, j ≠ 350 → r' j = 0)) → (oM i g g1) → zV p l e ({ frames := 6, cells := 0, slots := 0, locals := 360 } : Room) s m ([.ref (ad i), .int (zI z), .int (zI z1), .int (zI z2)] : List Value).toArray below meth c (MQ below (zPost D A (rI0 N ad fun r g' => ((0 ≤ z2 ∧ z2 ≤ 2) ∧ (0 ≤ z1 ∧ z1 ≤ 30) → r = 0) ∧ pM ad i g g' (if 0 ≤ z2 ∧ z2 ≤ 2 then (if 0 ≤ z1 ∧ z1 ≤ 30 then 0 else 2) else 1))) ([.ref (ad i), .int (zI z), .int (zI z1), .int (zI z2)] : List Value).toArray s ({ frames := 6, cells := 0, slots := 0, locals := 360 } : Room).cells ({ frames := 6, cells := 0, slots := 0, locals := 360 } : Room).slots A) D A 6 (N) ad g1 (0) (0) 48 [(4, .int (zI ((kk : Int)))), (0, .ref (ad i)), (1, .int (zI (z))), (2, .int (zI (z1))), (3, .int (zI (z2)))] [] := by
        intro n
        induction n with
        | zero =>
          intro kk g1  hkk f1 f2 f3
          obtain ⟨F1, f4, f5, f6, f7⟩ := f1
          obtain ⟨r8, f8, f9⟩ := f2
          have hay20 : zAt ad (i) (ad i) := rfl
          have hay21 : zAt ad (i + 1) (ad (i + 1)) := rfl
          refine z_iload C 0 dX10_years_48 rfl ?_
          refine z_iload_n C 3 dX10_years_50 rfl ?_
          refine z_icmp_ge (tgt := 64) C dX10_years_51 (by decide) (by omega) (by omega) (fun _ => ?_) (fun h => absurd h (by omega))
          refine z_iload_n C 4 dX10_years_64 rfl ?_
          refine z_iconst (z := 2) C dX10_years_65 rfl ?_
          refine z_icmp_ge (tgt := 107) C dX10_years_66 (by decide) (by omega) (by omega) (fun hb1 => ?_) (fun hb1 => ?_)
          · refine z_iconst (z := 0) C dX10_years_107 rfl ?_
            refine z_istore (lv' := [(4, .int (zI (0))), (0, .ref (ad i)), (1, .int (zI (z))), (2, .int (zI (z1))), (3, .int (zI (z2)))]) C dX10_years_108 (by decide) rfl ?_
            refine z_iconst (z := 0) C dX10_years_110 rfl ?_
            refine z_istore (lv' := [(5, .int (zI (0))), (4, .int (zI (0))), (0, .ref (ad i)), (1, .int (zI (z))), (2, .int (zI (z1))), (3, .int (zI (z2)))]) C dX10_years_111 (by decide) rfl ?_
            refine z_iload C 0 dX10_years_113 rfl ?_
            refine z_aload_n C 2 dX10_years_115 rfl ?_
            refine z_get (v := .int (zI (0))) C (by omega) hay20 f4 rfl inA_X10 13 (by decide) q_1472 rfl (fv (F := F1) (f := 13) f6) dX10_years_116 ?_
            refine z_icmp_ge (tgt := 143) C dX10_years_119 (by decide) (by omega) (by omega) (fun _ => ?_) (fun h => absurd h (by omega))
            refine z_iload C 1 dX10_years_143 rfl ?_
            exact z_iret C hr hlk dX10_years_145 (by decide) (by decide) ⟨0, rfl, rfl, rfl, fun _ => rfl, by rw [if_pos hw9, if_pos hw8]; exact ⟨⟨F1, f4, f5⟩, f3⟩⟩
          · refine z_iload_n C 4 dX10_years_69 rfl ?_
            refine z_if_ne (tgt := 91) C dX10_years_70 (by decide) (by omega) (fun hb2 => ?_) (fun hb2 => ?_)
            · refine z_aload_n C 1 dX10_years_91 rfl ?_
              refine z_get (v := .ref (ad (i + 1))) C (by omega) hay20 f4 rfl inA_X10 0 (by decide) q_1459 rfl rfl dX10_years_92 ?_
              refine z_sipush (z := 353) C dX10_years_95 (by decide) ?_
              refine z_iald C (by omega) hay21 f8 (353) (by omega) (by omega) (by decide) dX10_years_98 ?_
              refine z_aload_n C 1 dX10_years_99 rfl ?_
              refine z_get (v := .ref (ad (i + 1))) C (by omega) hay20 f4 rfl inA_X10 0 (by decide) q_1459 rfl rfl dX10_years_100 ?_
              refine z_iconst (z := 3) C dX10_years_103 rfl ?_
              refine z_iald C (by omega) hay21 f8 (3) (by omega) (by omega) (by decide) dX10_years_104 ?_
              refine z_isub C dX10_years_105 ?_
              rw [show (r8 (353)) - (r8 (3)) = 0 by rw [f9 _ (by decide), f9 _ (by decide)]; decide]
              exact z_iret C hr hlk dX10_years_106 (by decide) (by decide) ⟨0, rfl, rfl, rfl, fun _ => rfl, by rw [if_pos hw9, if_pos hw8]; exact ⟨⟨F1, f4, f5⟩, f3⟩⟩
            · refine z_aload_n C 1 dX10_years_73 rfl ?_
              refine z_get (v := .ref (ad (i + 1))) C (by omega) hay20 f4 rfl inA_X10 0 (by decide) q_1459 rfl rfl dX10_years_74 ?_
              refine z_sipush (z := 354) C dX10_years_77 (by decide) ?_
              refine z_iald C (by omega) hay21 f8 (354) (by omega) (by omega) (by decide) dX10_years_80 ?_
              refine z_aload_n C 1 dX10_years_81 rfl ?_
              refine z_get (v := .ref (ad (i + 1))) C (by omega) hay20 f4 rfl inA_X10 0 (by decide) q_1459 rfl rfl dX10_years_82 ?_
              refine z_iconst (z := 4) C dX10_years_85 rfl ?_
              refine z_iald C (by omega) hay21 f8 (4) (by omega) (by omega) (by decide) dX10_years_86 ?_
              refine z_isub C dX10_years_87 ?_
              refine z_goto (tgt := 106) C dX10_years_88 (by decide) ?_
              rw [show (r8 (354)) - (r8 (4)) = 0 by rw [f9 _ (by decide), f9 _ (by decide)]; decide]
              exact z_iret C hr hlk dX10_years_106 (by decide) (by decide) ⟨0, rfl, rfl, rfl, fun _ => rfl, by rw [if_pos hw9, if_pos hw8]; exact ⟨⟨F1, f4, f5⟩, f3⟩⟩
        | succ n ih =>
          intro kk g1  hkk f1 f2 f3
          obtain ⟨F1, f4, f5, f6, f7⟩ := f1
          obtain ⟨r8, f8, f9⟩ := f2
          have hay22 : zAt ad (i) (ad i) := rfl
          have hay23 : zAt ad (i + 1) (ad (i + 1)) := rfl
          refine z_iload C 0 dX10_years_48 rfl ?_
          refine z_iload_n C 3 dX10_years_50 rfl ?_
          refine z_icmp_ge (tgt := 64) C dX10_years_51 (by decide) (by omega) (by omega) (fun h => absurd h (by omega)) (fun _ => ?_)
          refine z_aload_n C 1 dX10_years_54 rfl ?_
          refine z_cV (As := []) (rest := []) (ci := 12) C (c_X10_year0 l D A cs tt N ad _ i hN _ f4 f6 f7 _ f8 f9) (by omega) hay22 f4 rfl rfl mv_yX10_year q_2103 hd_yX10_year (by decide) (Nat.le_of_ble_eq_true rfl) (by decide) dX10_years_55 rfl (kV0 fun gy hy => ?_)
          obtain ⟨⟨F2, k1, k2⟩, k3, k4⟩ := hy
          refine z_iinc (z := ((kk + 1 : Nat) : Int)) (lv' := [(4, .int (zI (((kk + 1 : Nat) : Int)))), (0, .ref (ad i)), (1, .int (zI (z))), (2, .int (zI (z1))), (3, .int (zI (z2)))]) (j := 0) C dX10_years_58 rfl (congrArg zI (by omega)) (by decide) rfl ?_
          refine z_goto (tgt := 48) C dX10_years_61 (by decide) ?_
          exact ih (kk + 1) gy (by omega) ⟨F2, k1, (k2 12 (by decide)).trans f5, (k2 13 (by decide)).trans f6, (k2 14 (by decide)).trans f7⟩ k3 (fun j h => (k4 j (by omega) (by omega)).trans (f3 j h))
      have hgy24 := up_n egy18 hrqy15 (ne_o (i := i) (c := 1) (d := 0) rfl)
      refine z_lv (lv' := [(4, .int (zI (((0 : Nat) : Int)))), (0, .ref (ad i)), (1, .int (zI (z))), (2, .int (zI (z1))), (3, .int (zI (z2)))]) [0, 1, 2, 3, 4] rfl ?_
      exact lp z1.toNat 0 gy17  (by omega) ⟨_, hgy19, (fn (uZ_s _ _ _) (by decide)), (fn (fn rfl (by decide)) (by decide)), (fn (fn rfl (by decide)) (by decide))⟩ ⟨_, hgy24, fun j _ => hzqy15 j⟩ (fun j h1 => by rw [egy18, va_up_ne _ _ (by omega)]; rw [hfqy15 _ (by omega)]; rw [egy4, va_up_ne _ _ (by omega)])
    · refine z_cS (As := [.int (zI (z1)), .int (zI (0)), .int (zI (30))]) (rest := [.ref (ad i)]) C (c_X10_within l D A cs tt N ad _ (z1) (0) (30) (by omega) (by omega) (by omega)) ms_yX10_within q_1690 hd_yX10_within (by decide) (Nat.le_of_ble_eq_true rfl) (by decide) dX10_years_24 rfl (kI0 fun qy10 gqy10 hqy10 => ?_)
      obtain ⟨eqy10, rfl⟩ := hqy10
      rw [if_neg (by omega)] at eqy10
      subst eqy10
      refine z_iconst (z := 2) C dX10_years_27 rfl ?_
      refine z_cV (As := [.int (zI (0)), .int (zI (2))]) (rest := []) (ci := 12) C (c_X10_right0 l D A cs tt N ad _ i hN _ hgy5 (uZ_s _ _ _) 2 (by decide)) (by omega) hay1 hgy5 rfl rfl mv_yX10_right q_1652 hd_yX10_right (by decide) (Nat.le_of_ble_eq_true rfl) (by decide) dX10_years_28 rfl (kI0 fun qy11 gqy11 hqy11 => ?_)
      obtain ⟨rfl, hcqy11, hfqy11⟩ := hqy11
      refine z_if_ne (tgt := 36) C dX10_years_31 (by decide) (by omega) (fun h => absurd h (by omega)) (fun _ => ?_)
      refine z_iconst (z := 0) C dX10_years_34 rfl ?_
      exact z_iret C hr hlk dX10_years_35 (by decide) (by decide) ⟨0, rfl, rfl, rfl, fun h => absurd h.2 hw8, by rw [if_pos hw9, if_neg hw8]; exact ⟨⟨_, hcqy11, (uZ_s _ _ _)⟩, fun j h1 => by rw [hfqy11 _ (by omega)]; rw [egy4, va_up_ne _ _ (by omega)]⟩⟩
  · refine z_cS (As := [.int (zI (z2)), .int (zI (0)), .int (zI (2))]) (rest := [.ref (ad i)]) C (c_X10_within l D A cs tt N ad _ (z2) (0) (2) (by omega) (by omega) (by omega)) ms_yX10_within q_1690 hd_yX10_within (by decide) (Nat.le_of_ble_eq_true rfl) (by decide) dX10_years_9 rfl (kI0 fun qy6 gqy6 hqy6 => ?_)
    obtain ⟨eqy6, rfl⟩ := hqy6
    rw [if_neg (by omega)] at eqy6
    subst eqy6
    refine z_iconst (z := 1) C dX10_years_12 rfl ?_
    refine z_cV (As := [.int (zI (0)), .int (zI (1))]) (rest := []) (ci := 12) C (c_X10_right0 l D A cs tt N ad _ i hN _ hgy5 (uZ_s _ _ _) 1 (by decide)) (by omega) hay1 hgy5 rfl rfl mv_yX10_right q_1652 hd_yX10_right (by decide) (Nat.le_of_ble_eq_true rfl) (by decide) dX10_years_13 rfl (kI0 fun qy7 gqy7 hqy7 => ?_)
    obtain ⟨rfl, hcqy7, hfqy7⟩ := hqy7
    refine z_if_eq (tgt := 34) C dX10_years_16 (by decide) (by omega) (fun _ => ?_) (fun h => absurd h (by omega))
    refine z_iconst (z := 0) C dX10_years_34 rfl ?_
    exact z_iret C hr hlk dX10_years_35 (by decide) (by decide) ⟨0, rfl, rfl, rfl, fun h => absurd h.1 hw9, by rw [if_neg hw9]; exact ⟨⟨_, hcqy7, (uZ_s _ _ _)⟩, fun j h1 => by rw [hfqy7 _ (by omega)]; rw [egy4, va_up_ne _ _ (by omega)]⟩⟩

set_option maxRecDepth 100000 in
set_option maxHeartbeats 4000000 in
theorem c_X10_image (l : Launch) (D : va_G) (A : Nat → Prop) (cs : Nat → ClassId) (tt : Nat) (N : Nat) (ad : Nat → Nat) (g : Nat → va_E) (i : Nat) (hN : i + 30 ≤ N) (hM : isM0 cs ad g i) : zM l yX10_image cX10_image 2 none ({ frames := 3, cells := 0, slots := 0, locals := 180 } : Room) D A cs tt N ad g [.ref (ad i)] (rV0 N ad fun g' => pM ad i g g' 0) := by
  obtain ⟨B, ⟨hg, hA⟩, hB7, hB0⟩ := id hM
  have hay1 : zAt ad (i) (ad i) := rfl
  have a1 : g (i + 1) = iA cs 29200 (B 1) := hA 1 (by decide) (by decide)
  have hay2 : zAt ad (i + 1) (ad (i + 1)) := rfl
  have a8 : g (i + 8) = iA cs 16 (B 8) := hA 8 (by decide) (by decide)
  have hay3 : zAt ad (i + 8) (ad (i + 8)) := rfl
  have a9 : g (i + 9) = iA cs 16 (B 9) := hA 9 (by decide) (by decide)
  have hay4 : zAt ad (i + 9) (ad (i + 9)) := rfl
  have a10 : g (i + 10) = iA cs 16 (B 10) := hA 10 (by decide) (by decide)
  have hay5 : zAt ad (i + 10) (ad (i + 10)) := rfl
  have a11 : g (i + 11) = iA cs 6 (B 11) := hA 11 (by decide) (by decide)
  have hay6 : zAt ad (i + 11) (ad (i + 11)) := rfl
  have a12 : g (i + 12) = iA cs 1080 (B 12) := hA 12 (by decide) (by decide)
  have hay7 : zAt ad (i + 12) (ad (i + 12)) := rfl
  refine z_of (by decide) (Nat.le_of_ble_eq_true rfl) ?_
  intro p e s m below meth c C hr hlk hnm
  refine z_lv (lv' := [(0, .ref (ad i))]) [0] rfl ?_
  refine z_aload_n C 0 dX10_image_0 rfl ?_
  refine z_iconst (z := 0) C dX10_image_1 rfl ?_
  refine z_put (fs' := mF ad (i) (uZ mF0 12 (0))) C (by omega) hay1 hg tyX10 tyX10_ok nmX10 rfl inA_X10 12 (by decide) q_1471 rfl rfl rfl rfl (Nat.le_of_ble_eq_true rfl) rfl dX10_image_2 (fun gy8 egy9 => ?_)
  have hgy10 := up_s egy9
  refine z_aload_n C 0 dX10_image_5 rfl ?_
  refine z_iconst (z := 0) C dX10_image_6 rfl ?_
  refine z_sipush (z := 14700) C dX10_image_7 (by decide) ?_
  refine z_sipush (z := 350) C dX10_image_10 (by decide) ?_
  have hgy11 := up_n egy9 a1 (ne_o (i := i) (c := 1) (d := 0) rfl)
  refine z_cV (As := [.int (zI (0)), .int (zI (14700)), .int (zI (350))]) (rest := []) (ci := 12) C (c_X10_copies l D A cs tt N ad _ i hN _ hgy10 _ hgy11 (hB0 1 (by decide)) 0 14700 350 (Nat.le_of_ble_eq_true rfl) (Nat.le_of_ble_eq_true rfl)) (by omega) hay1 hgy10 rfl rfl mv_yX10_copies q_1881 hd_yX10_copies (by decide) (Nat.le_of_ble_eq_true rfl) (by decide) dX10_image_13 rfl (kV0 fun gqy12 hqy12 => ?_)
  obtain ⟨⟨rqy12, hrqy12, hzqy12⟩, hfqy12⟩ := hqy12
  refine z_aload_n C 0 dX10_image_16 rfl ?_
  refine z_sipush (z := 700) C dX10_image_17 (by decide) ?_
  refine z_sipush (z := 15050) C dX10_image_20 (by decide) ?_
  refine z_sipush (z := 14000) C dX10_image_23 (by decide) ?_
  have hgy13 := (hfqy12 (i) (ne_o (i := i) (c := 0) (d := 1) rfl)).trans hgy10
  refine z_cV (As := [.int (zI (700)), .int (zI (15050)), .int (zI (14000))]) (rest := []) (ci := 12) C (c_X10_copies l D A cs tt N ad _ i hN _ hgy13 _ hrqy12 hzqy12 700 15050 14000 (Nat.le_of_ble_eq_true rfl) (Nat.le_of_ble_eq_true rfl)) (by omega) hay1 hgy13 rfl rfl mv_yX10_copies q_1881 hd_yX10_copies (by decide) (Nat.le_of_ble_eq_true rfl) (by decide) dX10_image_26 rfl (kV0 fun gqy14 hqy14 => ?_)
  obtain ⟨⟨rqy14, hrqy14, hzqy14⟩, hfqy14⟩ := hqy14
  refine z_aload_n C 0 dX10_image_29 rfl ?_
  refine z_aload_n C 0 dX10_image_30 rfl ?_
  have hgy15 := (hfqy14 (i) (ne_o (i := i) (c := 0) (d := 1) rfl)).trans hgy13
  refine z_get (v := .int (zI (0))) C (by omega) hay1 hgy15 rfl inA_X10 15 (by decide) q_1474 rfl (fv (F := (uZ mF0 12 (0))) (f := 15) (fn rfl (by decide))) dX10_image_31 ?_
  refine z_put (fs' := mF ad (i) (uZ (uZ mF0 12 (0)) 18 (0))) C (by omega) hay1 hgy15 tyX10 tyX10_ok nmX10 rfl inA_X10 18 (by decide) q_1477 rfl rfl rfl rfl (Nat.le_of_ble_eq_true rfl) rfl dX10_image_34 (fun gy16 egy17 => ?_)
  have hgy18 := up_s egy17
  refine z_aload_n C 0 dX10_image_37 rfl ?_
  refine z_aload_n C 0 dX10_image_38 rfl ?_
  refine z_get (v := .int (zI (0))) C (by omega) hay1 hgy18 rfl inA_X10 16 (by decide) q_1475 rfl (fv (F := (uZ (uZ mF0 12 (0)) 18 (0))) (f := 16) (fn (fn rfl (by decide)) (by decide))) dX10_image_39 ?_
  refine z_put (fs' := mF ad (i) (uZ (uZ (uZ mF0 12 (0)) 18 (0)) 19 (0))) C (by omega) hay1 hgy18 tyX10 tyX10_ok nmX10 rfl inA_X10 19 (by decide) q_1478 rfl rfl rfl rfl (Nat.le_of_ble_eq_true rfl) rfl dX10_image_42 (fun gy19 egy20 => ?_)
  have hgy21 := up_s egy20
  refine z_aload_n C 0 dX10_image_45 rfl ?_
  refine z_aload_n C 0 dX10_image_46 rfl ?_
  refine z_get (v := .int (zI (0))) C (by omega) hay1 hgy21 rfl inA_X10 17 (by decide) q_1476 rfl (fv (F := (uZ (uZ (uZ mF0 12 (0)) 18 (0)) 19 (0))) (f := 17) (fn (fn (fn rfl (by decide)) (by decide)) (by decide))) dX10_image_47 ?_
  refine z_put (fs' := mF ad (i) (uZ (uZ (uZ (uZ mF0 12 (0)) 18 (0)) 19 (0)) 20 (0))) C (by omega) hay1 hgy21 tyX10 tyX10_ok nmX10 rfl inA_X10 20 (by decide) q_1479 rfl rfl rfl rfl (Nat.le_of_ble_eq_true rfl) rfl dX10_image_50 (fun gy22 egy23 => ?_)
  have hgy24 := up_s egy23
  refine z_iconst (z := 0) C dX10_image_53 rfl ?_
  refine z_istore_n (lv' := [(1, .int (zI (0))), (0, .ref (ad i))]) C dX10_image_54 rfl (by decide) rfl ?_
  have lp3 : ∀ (n kk : Nat) (g1 : Nat → va_E) , kk + n = 3 → (g1 i = mC ad i (uZ (uZ (uZ (uZ mF0 12 (0)) 18 (0)) 19 (0)) 20 (0))) → (∃ r1 : Nat → Int, g1 (i + 11) = iA cs 6 r1) → (oM i g g1) → zV p l e ({ frames := 3, cells := 0, slots := 0, locals := 180 } : Room) s m ([.ref (ad i)] : List Value).toArray below meth c (MQ below (zPost D A (rV0 N ad fun g' => pM ad i g g' 0)) ([.ref (ad i)] : List Value).toArray s ({ frames := 3, cells := 0, slots := 0, locals := 180 } : Room).cells ({ frames := 3, cells := 0, slots := 0, locals := 180 } : Room).slots A) D A 2 (N) ad g1 (0) (0) 145 [(1, .int (zI ((kk : Int)))), (0, .ref (ad i))] [] := by
    intro n
    induction n with
    | zero =>
      intro kk g1  hkk f1 a11 f3
      have hay25 : zAt ad (i) (ad i) := rfl
      refine z_iload_n C 0 dX10_image_145 rfl ?_
      refine z_iconst (z := 3) C dX10_image_146 rfl ?_
      refine z_icmp_ge (tgt := 170) C dX10_image_147 (by decide) (by omega) (by omega) (fun _ => ?_) (fun h => absurd h (by omega))
      refine z_aload_n C 1 dX10_image_170 rfl ?_
      refine z_iconst (z := 1) C dX10_image_171 rfl ?_
      refine z_put (fs' := mF ad (i) (uZ (uZ (uZ (uZ (uZ mF0 12 (0)) 18 (0)) 19 (0)) 20 (0)) 21 (1))) C (by omega) hay25 f1 tyX10 tyX10_ok nmX10 rfl inA_X10 21 (by decide) q_1480 rfl rfl rfl rfl (Nat.le_of_ble_eq_true rfl) rfl dX10_image_172 (fun gy26 egy27 => ?_)
      have hgy28 := up_s egy27
      exact z_vret C hr hlk dX10_image_175 (by decide) (by decide) ⟨rfl, rfl, rfl, ⟨⟨_, hgy28, (fn (fn (fn (fn (uZ_s _ _ _) (by decide)) (by decide)) (by decide)) (by decide))⟩, fun j h1 => by rw [egy27, va_up_ne _ _ (by omega)]; exact f3 j h1⟩⟩
    | succ n ih =>
      intro kk g1  hkk f1 a11 f3
      have hay29 : zAt ad (i) (ad i) := rfl
      obtain ⟨s11, b11⟩ := a11
      have hay30 : zAt ad (i + 11) (ad (i + 11)) := rfl
      refine z_iload_n C 0 dX10_image_145 rfl ?_
      refine z_iconst (z := 3) C dX10_image_146 rfl ?_
      refine z_icmp_ge (tgt := 170) C dX10_image_147 (by decide) (by omega) (by omega) (fun h => absurd h (by omega)) (fun _ => ?_)
      refine z_aload_n C 1 dX10_image_150 rfl ?_
      refine z_get (v := .ref (ad (i + 11))) C (by omega) hay29 f1 rfl inA_X10 10 (by decide) q_1469 rfl rfl dX10_image_151 ?_
      refine z_iconst (z := 3) C dX10_image_154 rfl ?_
      refine z_iload_n C 0 dX10_image_155 rfl ?_
      refine z_iadd C dX10_image_156 ?_
      refine z_aload_n C 1 dX10_image_157 rfl ?_
      refine z_get (v := .ref (ad (i + 11))) C (by omega) hay29 f1 rfl inA_X10 10 (by decide) q_1469 rfl rfl dX10_image_158 ?_
      refine z_iload_n C 0 dX10_image_161 rfl ?_
      refine z_iald C (by omega) hay30 b11 (kk) (by omega) (by omega) (by decide) dX10_image_162 ?_
      refine z_iast C (by omega) hay30 b11 (3 + kk) (by omega) (by omega) (by decide) dX10_image_163 (fun gy31 egy32 => ?_)
      have hgy33 := up_s egy32
      refine z_iinc (z := ((kk + 1 : Nat) : Int)) (lv' := [(1, .int (zI (((kk + 1 : Nat) : Int)))), (0, .ref (ad i))]) (j := 0) C dX10_image_164 rfl (congrArg zI (by omega)) (by decide) rfl ?_
      refine z_goto (tgt := 145) C dX10_image_167 (by decide) ?_
      have hgy34 := up_n egy32 f1 (ne_o (i := i) (c := 0) (d := 11) rfl)
      exact ih (kk + 1) gy31 (by omega) hgy34 ⟨_, hgy33⟩  (fun j h1 => by rw [egy32, va_up_ne _ _ (by omega)]; exact f3 j h1)
  have lp2 : ∀ (n kk : Nat) (g1 : Nat → va_E) , kk + n = 8 → (g1 i = mC ad i (uZ (uZ (uZ (uZ mF0 12 (0)) 18 (0)) 19 (0)) 20 (0))) → (∃ r1 : Nat → Int, g1 (i + 8) = iA cs 16 r1) → (∃ r1 : Nat → Int, g1 (i + 9) = iA cs 16 r1) → (∃ r1 : Nat → Int, g1 (i + 10) = iA cs 16 r1) → (∃ r1 : Nat → Int, g1 (i + 11) = iA cs 6 r1) → (oM i g g1) → zV p l e ({ frames := 3, cells := 0, slots := 0, locals := 180 } : Room) s m ([.ref (ad i)] : List Value).toArray below meth c (MQ below (zPost D A (rV0 N ad fun g' => pM ad i g g' 0)) ([.ref (ad i)] : List Value).toArray s ({ frames := 3, cells := 0, slots := 0, locals := 180 } : Room).cells ({ frames := 3, cells := 0, slots := 0, locals := 180 } : Room).slots A) D A 2 (N) ad g1 (0) (0) 86 [(1, .int (zI ((kk : Int)))), (0, .ref (ad i))] [] := by
    intro n
    induction n with
    | zero =>
      intro kk g1  hkk f1 a8 a9 a10 a11 f3
      have hay35 : zAt ad (i) (ad i) := rfl
      refine z_iload_n C 0 dX10_image_86 rfl ?_
      refine z_bipush (z := 8) C dX10_image_87 (by decide) ?_
      refine z_icmp_ge (tgt := 143) C dX10_image_89 (by decide) (by omega) (by omega) (fun _ => ?_) (fun h => absurd h (by omega))
      refine z_iconst (z := 0) C dX10_image_143 rfl ?_
      refine z_istore_n (lv' := [(1, .int (zI (0))), (0, .ref (ad i))]) C dX10_image_144 rfl (by decide) rfl ?_
      refine z_lv (lv' := [(1, .int (zI (((0 : Nat) : Int)))), (0, .ref (ad i))]) [0, 1] rfl ?_
      exact lp3 3 0 g1  (by omega) f1 a11 f3
    | succ n ih =>
      intro kk g1  hkk f1 a8 a9 a10 a11 f3
      have hay36 : zAt ad (i) (ad i) := rfl
      obtain ⟨s8, b8⟩ := a8
      have hay37 : zAt ad (i + 8) (ad (i + 8)) := rfl
      obtain ⟨s9, b9⟩ := a9
      have hay38 : zAt ad (i + 9) (ad (i + 9)) := rfl
      obtain ⟨s10, b10⟩ := a10
      have hay39 : zAt ad (i + 10) (ad (i + 10)) := rfl
      refine z_iload_n C 0 dX10_image_86 rfl ?_
      refine z_bipush (z := 8) C dX10_image_87 (by decide) ?_
      refine z_icmp_ge (tgt := 143) C dX10_image_89 (by decide) (by omega) (by omega) (fun h => absurd h (by omega)) (fun _ => ?_)
      refine z_aload_n C 1 dX10_image_92 rfl ?_
      refine z_get (v := .ref (ad (i + 8))) C (by omega) hay36 f1 rfl inA_X10 7 (by decide) q_1466 rfl rfl dX10_image_93 ?_
      refine z_bipush (z := 8) C dX10_image_96 (by decide) ?_
      refine z_iload_n C 0 dX10_image_98 rfl ?_
      refine z_iadd C dX10_image_99 ?_
      refine z_aload_n C 1 dX10_image_100 rfl ?_
      refine z_get (v := .ref (ad (i + 8))) C (by omega) hay36 f1 rfl inA_X10 7 (by decide) q_1466 rfl rfl dX10_image_101 ?_
      refine z_iload_n C 0 dX10_image_104 rfl ?_
      refine z_iald C (by omega) hay37 b8 (kk) (by omega) (by omega) (by decide) dX10_image_105 ?_
      refine z_iast C (by omega) hay37 b8 (8 + kk) (by omega) (by omega) (by decide) dX10_image_106 (fun gy40 egy41 => ?_)
      have hgy42 := up_s egy41
      refine z_aload_n C 1 dX10_image_107 rfl ?_
      have hgy43 := up_n egy41 f1 (ne_o (i := i) (c := 0) (d := 8) rfl)
      refine z_get (v := .ref (ad (i + 9))) C (by omega) hay36 hgy43 rfl inA_X10 8 (by decide) q_1467 rfl rfl dX10_image_108 ?_
      refine z_bipush (z := 8) C dX10_image_111 (by decide) ?_
      refine z_iload_n C 0 dX10_image_113 rfl ?_
      refine z_iadd C dX10_image_114 ?_
      refine z_aload_n C 1 dX10_image_115 rfl ?_
      refine z_get (v := .ref (ad (i + 9))) C (by omega) hay36 hgy43 rfl inA_X10 8 (by decide) q_1467 rfl rfl dX10_image_116 ?_
      refine z_iload_n C 0 dX10_image_119 rfl ?_
      have hgy44 := up_n egy41 b9 (ne_o (i := i) (c := 9) (d := 8) rfl)
      refine z_iald C (by omega) hay38 hgy44 (kk) (by omega) (by omega) (by decide) dX10_image_120 ?_
      refine z_iast C (by omega) hay38 hgy44 (8 + kk) (by omega) (by omega) (by decide) dX10_image_121 (fun gy45 egy46 => ?_)
      have hgy47 := up_s egy46
      refine z_aload_n C 1 dX10_image_122 rfl ?_
      have hgy48 := up_n egy46 hgy43 (ne_o (i := i) (c := 0) (d := 9) rfl)
      refine z_get (v := .ref (ad (i + 10))) C (by omega) hay36 hgy48 rfl inA_X10 9 (by decide) q_1468 rfl rfl dX10_image_123 ?_
      refine z_bipush (z := 8) C dX10_image_126 (by decide) ?_
      refine z_iload_n C 0 dX10_image_128 rfl ?_
      refine z_iadd C dX10_image_129 ?_
      refine z_aload_n C 1 dX10_image_130 rfl ?_
      refine z_get (v := .ref (ad (i + 10))) C (by omega) hay36 hgy48 rfl inA_X10 9 (by decide) q_1468 rfl rfl dX10_image_131 ?_
      refine z_iload_n C 0 dX10_image_134 rfl ?_
      have hgy49 := up_n egy41 b10 (ne_o (i := i) (c := 10) (d := 8) rfl)
      have hgy50 := up_n egy46 hgy49 (ne_o (i := i) (c := 10) (d := 9) rfl)
      refine z_iald C (by omega) hay39 hgy50 (kk) (by omega) (by omega) (by decide) dX10_image_135 ?_
      refine z_iast C (by omega) hay39 hgy50 (8 + kk) (by omega) (by omega) (by decide) dX10_image_136 (fun gy51 egy52 => ?_)
      have hgy53 := up_s egy52
      refine z_iinc (z := ((kk + 1 : Nat) : Int)) (lv' := [(1, .int (zI (((kk + 1 : Nat) : Int)))), (0, .ref (ad i))]) (j := 0) C dX10_image_137 rfl (congrArg zI (by omega)) (by decide) rfl ?_
      refine z_goto (tgt := 86) C dX10_image_140 (by decide) ?_
      have hgy54 := up_n egy52 hgy48 (ne_o (i := i) (c := 0) (d := 10) rfl)
      have hgy55 := up_n egy46 hgy42 (ne_o (i := i) (c := 8) (d := 9) rfl)
      have hgy56 := up_n egy52 hgy55 (ne_o (i := i) (c := 8) (d := 10) rfl)
      have hgy57 := up_n egy52 hgy47 (ne_o (i := i) (c := 9) (d := 10) rfl)
      have hx11 : ∃ r1 : Nat → Int, gy51 (i + 11) = iA cs 6 r1 := by
        obtain ⟨s9, b9⟩ := a11
        exact ⟨s9, by rw [egy52, va_up_ne _ _ (by omega)]; rw [egy46, va_up_ne _ _ (by omega)]; rw [egy41, va_up_ne _ _ (by omega)]; exact b9⟩
      exact ih (kk + 1) gy51 (by omega) hgy54 ⟨_, hgy56⟩ ⟨_, hgy57⟩ ⟨_, hgy53⟩ hx11 (fun j h1 => by rw [egy52, va_up_ne _ _ (by omega)]; rw [egy46, va_up_ne _ _ (by omega)]; rw [egy41, va_up_ne _ _ (by omega)]; exact f3 j h1)
  have lp1 : ∀ (n kk : Nat) (g1 : Nat → va_E) , kk + n = 540 → (g1 i = mC ad i (uZ (uZ (uZ (uZ mF0 12 (0)) 18 (0)) 19 (0)) 20 (0))) → (∃ r1 : Nat → Int, g1 (i + 12) = iA cs 1080 r1) → (∃ r1 : Nat → Int, g1 (i + 8) = iA cs 16 r1) → (∃ r1 : Nat → Int, g1 (i + 9) = iA cs 16 r1) → (∃ r1 : Nat → Int, g1 (i + 10) = iA cs 16 r1) → (∃ r1 : Nat → Int, g1 (i + 11) = iA cs 6 r1) → (oM i g g1) → zV p l e ({ frames := 3, cells := 0, slots := 0, locals := 180 } : Room) s m ([.ref (ad i)] : List Value).toArray below meth c (MQ below (zPost D A (rV0 N ad fun g' => pM ad i g g' 0)) ([.ref (ad i)] : List Value).toArray s ({ frames := 3, cells := 0, slots := 0, locals := 180 } : Room).cells ({ frames := 3, cells := 0, slots := 0, locals := 180 } : Room).slots A) D A 2 (N) ad g1 (0) (0) 55 [(1, .int (zI ((kk : Int)))), (0, .ref (ad i))] [] := by
    intro n
    induction n with
    | zero =>
      intro kk g1  hkk f1 a12 a8 a9 a10 a11 f3
      have hay58 : zAt ad (i) (ad i) := rfl
      refine z_iload_n C 0 dX10_image_55 rfl ?_
      refine z_sipush (z := 540) C dX10_image_56 (by decide) ?_
      refine z_icmp_ge (tgt := 84) C dX10_image_59 (by decide) (by omega) (by omega) (fun _ => ?_) (fun h => absurd h (by omega))
      refine z_iconst (z := 0) C dX10_image_84 rfl ?_
      refine z_istore_n (lv' := [(1, .int (zI (0))), (0, .ref (ad i))]) C dX10_image_85 rfl (by decide) rfl ?_
      refine z_lv (lv' := [(1, .int (zI (((0 : Nat) : Int)))), (0, .ref (ad i))]) [0, 1] rfl ?_
      exact lp2 8 0 g1  (by omega) f1 a8 a9 a10 a11 f3
    | succ n ih =>
      intro kk g1  hkk f1 a12 a8 a9 a10 a11 f3
      have hay59 : zAt ad (i) (ad i) := rfl
      obtain ⟨s12, b12⟩ := a12
      have hay60 : zAt ad (i + 12) (ad (i + 12)) := rfl
      refine z_iload_n C 0 dX10_image_55 rfl ?_
      refine z_sipush (z := 540) C dX10_image_56 (by decide) ?_
      refine z_icmp_ge (tgt := 84) C dX10_image_59 (by decide) (by omega) (by omega) (fun h => absurd h (by omega)) (fun _ => ?_)
      refine z_aload_n C 1 dX10_image_62 rfl ?_
      refine z_get (v := .ref (ad (i + 12))) C (by omega) hay59 f1 rfl inA_X10 11 (by decide) q_1470 rfl rfl dX10_image_63 ?_
      refine z_sipush (z := 540) C dX10_image_66 (by decide) ?_
      refine z_iload_n C 0 dX10_image_69 rfl ?_
      refine z_iadd C dX10_image_70 ?_
      refine z_aload_n C 1 dX10_image_71 rfl ?_
      refine z_get (v := .ref (ad (i + 12))) C (by omega) hay59 f1 rfl inA_X10 11 (by decide) q_1470 rfl rfl dX10_image_72 ?_
      refine z_iload_n C 0 dX10_image_75 rfl ?_
      refine z_iald C (by omega) hay60 b12 (kk) (by omega) (by omega) (by decide) dX10_image_76 ?_
      refine z_iast C (by omega) hay60 b12 (540 + kk) (by omega) (by omega) (by decide) dX10_image_77 (fun gy61 egy62 => ?_)
      have hgy63 := up_s egy62
      refine z_iinc (z := ((kk + 1 : Nat) : Int)) (lv' := [(1, .int (zI (((kk + 1 : Nat) : Int)))), (0, .ref (ad i))]) (j := 0) C dX10_image_78 rfl (congrArg zI (by omega)) (by decide) rfl ?_
      refine z_goto (tgt := 55) C dX10_image_81 (by decide) ?_
      have hgy64 := up_n egy62 f1 (ne_o (i := i) (c := 0) (d := 12) rfl)
      have hx8 : ∃ r1 : Nat → Int, gy61 (i + 8) = iA cs 16 r1 := by
        obtain ⟨s9, b9⟩ := a8
        exact ⟨s9, by rw [egy62, va_up_ne _ _ (by omega)]; exact b9⟩
      have hx9 : ∃ r1 : Nat → Int, gy61 (i + 9) = iA cs 16 r1 := by
        obtain ⟨s9, b9⟩ := a9
        exact ⟨s9, by rw [egy62, va_up_ne _ _ (by omega)]; exact b9⟩
      have hx10 : ∃ r1 : Nat → Int, gy61 (i + 10) = iA cs 16 r1 := by
        obtain ⟨s9, b9⟩ := a10
        exact ⟨s9, by rw [egy62, va_up_ne _ _ (by omega)]; exact b9⟩
      have hx11 : ∃ r1 : Nat → Int, gy61 (i + 11) = iA cs 6 r1 := by
        obtain ⟨s9, b9⟩ := a11
        exact ⟨s9, by rw [egy62, va_up_ne _ _ (by omega)]; exact b9⟩
      exact ih (kk + 1) gy61 (by omega) hgy64 ⟨_, hgy63⟩ hx8 hx9 hx10 hx11 (fun j h1 => by rw [egy62, va_up_ne _ _ (by omega)]; exact f3 j h1)
  have hgy65 := up_n egy9 a12 (ne_o (i := i) (c := 12) (d := 0) rfl)
  have hgy66 := (hfqy12 (i + 12) (ne_o (i := i) (c := 12) (d := 1) rfl)).trans hgy65
  have hgy67 := (hfqy14 (i + 12) (ne_o (i := i) (c := 12) (d := 1) rfl)).trans hgy66
  have hgy68 := up_n egy17 hgy67 (ne_o (i := i) (c := 12) (d := 0) rfl)
  have hgy69 := up_n egy20 hgy68 (ne_o (i := i) (c := 12) (d := 0) rfl)
  have hgy70 := up_n egy23 hgy69 (ne_o (i := i) (c := 12) (d := 0) rfl)
  have hgy71 := up_n egy9 a8 (ne_o (i := i) (c := 8) (d := 0) rfl)
  have hgy72 := (hfqy12 (i + 8) (ne_o (i := i) (c := 8) (d := 1) rfl)).trans hgy71
  have hgy73 := (hfqy14 (i + 8) (ne_o (i := i) (c := 8) (d := 1) rfl)).trans hgy72
  have hgy74 := up_n egy17 hgy73 (ne_o (i := i) (c := 8) (d := 0) rfl)
  have hgy75 := up_n egy20 hgy74 (ne_o (i := i) (c := 8) (d := 0) rfl)
  have hgy76 := up_n egy23 hgy75 (ne_o (i := i) (c := 8) (d := 0) rfl)
  have hgy77 := up_n egy9 a9 (ne_o (i := i) (c := 9) (d := 0) rfl)
  have hgy78 := (hfqy12 (i + 9) (ne_o (i := i) (c := 9) (d := 1) rfl)).trans hgy77
  have hgy79 := (hfqy14 (i + 9) (ne_o (i := i) (c := 9) (d := 1) rfl)).trans hgy78
  have hgy80 := up_n egy17 hgy79 (ne_o (i := i) (c := 9) (d := 0) rfl)
  have hgy81 := up_n egy20 hgy80 (ne_o (i := i) (c := 9) (d := 0) rfl)
  have hgy82 := up_n egy23 hgy81 (ne_o (i := i) (c := 9) (d := 0) rfl)
  have hgy83 := up_n egy9 a10 (ne_o (i := i) (c := 10) (d := 0) rfl)
  have hgy84 := (hfqy12 (i + 10) (ne_o (i := i) (c := 10) (d := 1) rfl)).trans hgy83
  have hgy85 := (hfqy14 (i + 10) (ne_o (i := i) (c := 10) (d := 1) rfl)).trans hgy84
  have hgy86 := up_n egy17 hgy85 (ne_o (i := i) (c := 10) (d := 0) rfl)
  have hgy87 := up_n egy20 hgy86 (ne_o (i := i) (c := 10) (d := 0) rfl)
  have hgy88 := up_n egy23 hgy87 (ne_o (i := i) (c := 10) (d := 0) rfl)
  have hgy89 := up_n egy9 a11 (ne_o (i := i) (c := 11) (d := 0) rfl)
  have hgy90 := (hfqy12 (i + 11) (ne_o (i := i) (c := 11) (d := 1) rfl)).trans hgy89
  have hgy91 := (hfqy14 (i + 11) (ne_o (i := i) (c := 11) (d := 1) rfl)).trans hgy90
  have hgy92 := up_n egy17 hgy91 (ne_o (i := i) (c := 11) (d := 0) rfl)
  have hgy93 := up_n egy20 hgy92 (ne_o (i := i) (c := 11) (d := 0) rfl)
  have hgy94 := up_n egy23 hgy93 (ne_o (i := i) (c := 11) (d := 0) rfl)
  refine z_lv (lv' := [(1, .int (zI (((0 : Nat) : Int)))), (0, .ref (ad i))]) [0, 1] rfl ?_
  exact lp1 540 0 gy22  (by omega) hgy24 ⟨_, hgy70⟩ ⟨_, hgy76⟩ ⟨_, hgy82⟩ ⟨_, hgy88⟩ ⟨_, hgy94⟩ (fun j h1 => by rw [egy23, va_up_ne _ _ (by omega)]; rw [egy20, va_up_ne _ _ (by omega)]; rw [egy17, va_up_ne _ _ (by omega)]; rw [hfqy14 _ (by omega)]; rw [hfqy12 _ (by omega)]; rw [egy9, va_up_ne _ _ (by omega)])

